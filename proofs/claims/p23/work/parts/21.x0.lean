theorem nx_i {s : Nat} (hs : s < 2147483648) : ((1103515245 : Int32) * nI s + 12345) &&& 2147483647 = nI (nxS s) := by
  have e1 : ((1103515245 : Int32) * nI s + 12345) &&& 2147483647 = nI (((1103515245 : Int32) * nI s + 12345).toBitVec.toNat % 2 ^ 31) := pk_and _ 31 (by decide)
  have e2 : ((1103515245 : Int32) * nI s + 12345).toBitVec.toNat = (1103515245 * s + 12345) % 4294967296 := by
    show ((1103515245#32 * BitVec.ofNat 32 s) + 12345#32).toNat = _
    rw [BitVec.toNat_add, BitVec.toNat_mul, BitVec.toNat_ofNat, BitVec.toNat_ofNat, BitVec.toNat_ofNat]
    omega
  refine Eq.trans e1 ?_
  rw [e2]
  unfold nxS
  rw [show (2 : Nat) ^ 31 = 2147483648 from rfl, show (1103515245 * s + 12345) % 4294967296 % 2147483648 = (1103515245 * s + 12345) % 2147483648 by omega]
theorem dv_i {s d : Nat} (hd : 1 ≤ d) (hd2 : d < 2 ^ 31) {w q : Int32} (hw : w = nI (nxS s) / 65536) (hq : q = w - w / nI d * nI d) : q = nI (dvN s d) := by
  have h1 := nxS_lt s
  rw [show (65536 : Int32) = nI 65536 from rfl, pk_div (by omega) (by decide) (by decide)] at hw
  rw [hq, hw, pk_rem (by omega) (by omega) hd2]
  rfl
theorem dv_lt {s d : Nat} (hd : 1 ≤ d) : dvN s d < d := Nat.mod_lt _ (by omega)
theorem dw_fl (s : Nat) : (0 ≤ (dwF s 3).toInt ∧ (dwF s 3).toInt ≤ 63) ∧ (0 ≤ (dwF s 4).toInt ∧ (dwF s 4).toInt ≤ 63) := by
  have a := dv_lt (s := nx3 s) (d := 64) (by decide)
  have b := dv_lt (s := nx4 s) (d := 64 - dvN (nx3 s) 64) (by omega)
  have e3 : (dwF s 3).toInt = (dvN (nx3 s) 64 : Int) := nI_toInt (by omega)
  have e4 : (dwF s 4).toInt = (dvN (nx3 s) 64 : Int) + (dvN (nx4 s) (64 - dvN (nx3 s) 64) : Int) := by
    show (nI (dvN (nx3 s) 64) + nI (dvN (nx4 s) (64 - dvN (nx3 s) 64))).toInt = _
    exact ti_addk (nI_toInt (by omega)) (nI_toInt (by omega)) (by omega) (by omega) rfl
  omega
set_option maxHeartbeats 4000000 in
set_option maxRecDepth 100000 in
theorem c_X0_below (l : Launch) (Z : ZT) (hZ : XG Z) (g : Nat → Nat → Int32) (gl : Nat → Nat → Int64) (tf : Nat → Nat → Int32) (x1 : Int32) (s9 : Nat) (hs9 : g 16 0 = nI s9) (hs8 : s9 < 2147483648) (hb9 : 1 ≤ x1.toInt) (hG : Gd Z tf) : Met l yX0_below (Cond.code yX0_below cX0_below 2 (some .int) :: wsL_law) ({ frames := 0, cells := 0, slots := 0, locals := 0 } : Room) (va_Pc [.ref (za Z 16), .int x1] (XI Z g gl tf)) (va_Qi (fun (r : Int32) (u : (Nat → Nat → Int32) × (Nat → Nat → Int64) × (Nat → Nat → Int32)) => Fr [16] g u.1 ∧ Gd Z u.2.2 ∧ tf = u.2.2 ∧ (r = nI (dvN s9 x1.toInt.toNat) ∧ u.1 16 0 = nI (nxS s9))) (fun u t => va_P (zD Z) vwCl (xw Z u.1 u.2.1 u.2.2) t.heap) (zA Z)) 0 0 (zA Z) := by
  refine Met.ofW (cc := cX0_below) (maxL := 2) (ret := (some .int)) (by decide) rfl ?_
  intro p e s m args below meth c s₁ B hml hv
  obtain ⟨rfl, hI⟩ := hv
  have hx := B.exec
  have hb := B.bytes
  have hr := B.returns
  have hT : ∀ w ∈ wsL_law, w.before ([.ref (za Z 16), .int x1] : List Value).toArray s = true := fun w h => atoms_spec (ws := (Cond.code yX0_below cX0_below 2 (some .int) :: wsL_law)) B.pre w (List.mem_cons_of_mem _ h)
  have hown : s.vm.findClass RX0 = some m.cls := findClass_of_methodNamed B.named
  have hlocks := B.notSynchronized
  have hK := hI.2.1
  have hP := hI.1
  have hS : va_S (zA Z) s.heap s.heap [] := va_S.rf
  have hF : Fr [16] g g := Fr.rf
  have hl := lv_entry ([.ref (za Z 16), .int x1]) (n := 2) (Nat.le_of_ble_eq_true rfl)
  rw [lg_entry_eq]
  generalize (lg_sl ([.ref (za Z 16), .int x1]) ++ List.replicate (2 - (lg_sl ([.ref (za Z 16), .int x1])).length) Slot.unset).toArray = ls at hl ⊢
  have hl : lv_has ls 2 [(0, .ref (za Z 16)), (1, .int x1)] := hl
  refine lv_aload_n hx hb dX0_below_0 rfl (lv_at hl 0 rfl) ?_
  refine lv_ldc (v := 1103515245) hx hb hown (hT _ (tr_34 _ (List.mem_of_getElem? (i := 5) rfl))) dX0_below_1 ?_
  refine lv_aload_n hx hb dX0_below_3 rfl (lv_at hl 0 rfl) ?_
  refine va_get (D := zD Z) (ci := 0) (v := .int (g 16 0)) (C := RX0) (T := TX0) (N := 1) hx hb hT inlX0 hown hK hP 16 xw_16 rfl 0 (by decide) (hT _ (tr_34 _ (List.mem_of_getElem? (i := 6) rfl))) (fun _ h9 => h9) rfl dX0_below_4 ?_
  refine lv_imul hx hb dX0_below_7 ?_
  refine lv_topi (fun v_7 e_7 => ?_)
  refine lv_sipush (v := 12345) hx hb dX0_below_8 (by decide) ?_
  refine lv_iadd hx hb dX0_below_11 ?_
  refine lv_topi (fun v_11 e_11 => ?_)
  refine lv_ldc (v := 2147483647) hx hb hown (hT _ (tr_34 _ (List.mem_of_getElem? (i := 7) rfl))) dX0_below_12 ?_
  refine lv_iand hx hb dX0_below_14 ?_
  refine lv_topi (fun v_14 e_14 => ?_)
  have q14 : v_14 = nI (nxS s9) := by rw [e_14, e_11, e_7, hs9]; exact nx_i hs8
  refine va_put (D := zD Z) (ci := 0) (v := .int v_14) (ty := .int) (C := RX0) (T := TX0) (N := 1) hx hb hT inlX0 tyX0 tyX0_ok nmX0 hown hK hP hZ.D hS 16 xw_16 rfl 0 (by decide) (hT _ (tr_34 _ (List.mem_of_getElem? (i := 6) rfl))) (fun _ h9 => h9) rfl (by decide +kernel) rfl rfl (Nat.le_of_ble_eq_true rfl) dX0_below_15 (fun H locs hP _ hS => ?_)
  replace hP := xf_16_0 hP
  have hF := hF.u2 (i := 16) (k := 0) (v := v_14) (by decide)
  refine lv_iload_n hx hb dX0_below_18 rfl (lv_at hl 1 rfl) ?_
  refine lv_iconst (v := 1) hx hb dX0_below_19 (by decide) ?_
  refine lv_icmp_ge (tgt := 27) hx hb dX0_below_20 (by decide) (fun c_20 => ?_) (fun c_20 => ?_)
  · skip
    have i_20 := ti_lek tk_1 rfl c_20
    refine lv_aload_n hx hb dX0_below_27 rfl (lv_at hl 0 rfl) ?_
    refine va_get (D := zD Z) (ci := 0) (v := .int v_14) (C := RX0) (T := TX0) (N := 1) hx hb hT inlX0 hown hK hP 16 xw_16 rfl 0 (by decide) (hT _ (tr_34 _ (List.mem_of_getElem? (i := 6) rfl))) (fun _ h9 => h9) rfl dX0_below_28 ?_
    refine lv_ldc (v := 65536) hx hb hown (hT _ (tr_34 _ (List.mem_of_getElem? (i := 8) rfl))) dX0_below_31 ?_
    refine lv_idiv hx hb dX0_below_33 (by decide) ?_
    refine lv_topi (fun v_33 e_33 => ?_)
    refine lv_iload_n hx hb dX0_below_34 rfl (lv_at hl 1 rfl) ?_
    refine lv_irem hx hb dX0_below_35 (fun h9 => by have h8 := ti_eqk rfl tk_0 h9; omega) ?_
    refine lv_topi (fun v_35 e_35 => ?_)
    exact W.iret (v := v_35) hx hb hr (fun t ht hW => ⟨⟨v_35, ((up2 g 16 0 v_14), gl, tf), rfl, ⟨hF, hG, rfl, (by (try dsimp only); first | done | exact ⟨dv_i (w := v_33) (by omega) (by have q := ti_rng x1; omega) (by rw [e_33, q14]) (by rw [e_35, show nI x1.toInt.toNat = x1 from nI_toN (by omega)]), q14⟩)⟩, by show va_P (zD Z) vwCl (xw Z (up2 g 16 0 v_14) gl tf) t.heap; rw [ht]; exact hP⟩, hS.F ht⟩) hS.2.2 dX0_below_36
  · skip
    have i_20 := ti_nlek tk_1 rfl c_20
    exfalso
    omega
set_option maxHeartbeats 4000000 in
set_option maxRecDepth 100000 in
theorem c_X0_drawTariff (l : Launch) (Z : ZT) (hZ : XG Z) (g : Nat → Nat → Int32) (gl : Nat → Nat → Int64) (tf : Nat → Nat → Int32) (a : Nat) (ha : a ∈ zL Z) (s9 : Nat) (hs9 : g 16 0 = nI s9) (hs8 : s9 < 2147483648) (hG : Gd Z tf) : Met l yX0_drawTariff (Cond.code yX0_drawTariff cX0_drawTariff 6 none :: wsL_law) ({ frames := 1, cells := 0, slots := 0, locals := 25 } : Room) (va_Pc [.ref (za Z 16), .ref a] (XI Z g gl tf)) (va_Qv (fun (u : (Nat → Nat → Int32) × (Nat → Nat → Int64) × (Nat → Nat → Int32)) => Fr [16] g u.1 ∧ Gd Z u.2.2 ∧ ((∀ b, b ≠ a → u.2.2 b = tf b) ∧ (∀ k, k < 5 → u.2.2 a k = dwF s9 k) ∧ u.1 16 0 = nI (nx5 s9))) (fun u t => va_P (zD Z) vwCl (xw Z u.1 u.2.1 u.2.2) t.heap) (zA Z)) 0 0 (zA Z) := by
  refine Met.ofW (cc := cX0_drawTariff) (maxL := 6) (ret := none) (by decide) rfl ?_
  intro p e s m args below meth c s₁ B hml hv
  obtain ⟨rfl, hI⟩ := hv
  have hx := B.exec
  have hb := B.bytes
  have hr := B.returns
  have hT : ∀ w ∈ wsL_law, w.before ([.ref (za Z 16), .ref a] : List Value).toArray s = true := fun w h => atoms_spec (ws := (Cond.code yX0_drawTariff cX0_drawTariff 6 none :: wsL_law)) B.pre w (List.mem_cons_of_mem _ h)
  have hown : s.vm.findClass RX0 = some m.cls := findClass_of_methodNamed B.named
  have hlocks := B.notSynchronized
  have hK := hI.2.1
  have hP := hI.1
  have hS : va_S (zA Z) s.heap s.heap [] := va_S.rf
  have hF : Fr [16] g g := Fr.rf
  have hl := lv_entry ([.ref (za Z 16), .ref a]) (n := 6) (Nat.le_of_ble_eq_true rfl)
  rw [lg_entry_eq]
  generalize (lg_sl ([.ref (za Z 16), .ref a]) ++ List.replicate (6 - (lg_sl ([.ref (za Z 16), .ref a])).length) Slot.unset).toArray = ls at hl ⊢
  have hl : lv_has ls 6 [(0, .ref (za Z 16)), (1, .ref a)] := hl
  refine lv_aload_n hx hb dX0_drawTariff_0 rfl (lv_at hl 0 rfl) ?_
  refine lv_iconst (v := 5) hx hb dX0_drawTariff_1 (by decide) ?_
  refine va_calli (va_runV (As := [.int 5]) (rest := []) ⟨hx, hb, hml, hown, hT⟩ (c_X0_below l Z hZ g gl tf 5 s9 hs9 hs8 (by decide) hG) (cwV 1 hT (tb_V (fun _ h => h) (tr_34 _ (List.mem_of_getElem? (i := 1) rfl)) (tr_34 _ (List.mem_of_getElem? (i := 2) rfl)) (tr_34 _ (List.mem_of_getElem? (i := 3) rfl)) (tr_2 _ (List.mem_of_getElem? (i := 6) rfl)) (tr_34 _ (List.mem_of_getElem? (i := 4) rfl))) rfl rfl rfl (by decide +kernel) ⟨Nat.le_of_ble_eq_true rfl, Nat.le_of_ble_eq_true rfl⟩) ⟨fun a U f mk q => ⟨q.1, XI.blind f mk a q.2⟩, va_recv hK hP (ci := 0) (q0 := 16) rfl xw_16, fun U hU hW => ⟨rfl, hI.at hS hP hU hW⟩⟩ rfl rfl hl.1 rfl (lv_room (Nat.le_of_ble_eq_true rfl)) dX0_drawTariff_2 ⟨Nat.zero_le _, Nat.zero_le _⟩) hS (fun q _ h => h) (fun q h => h) (fun r_2 u_2 t_2 H locs ht_2 _ hw_2 hB_2 _ _ hS => ?_)
  obtain ⟨g_2, gl_2, tf_2⟩ := u_2
  have hP : va_P (zD Z) vwCl (xw Z g_2 gl_2 tf_2) H := ht_2 ▸ hB_2
  obtain ⟨hf_2, hG, et_2, hr_2⟩ := hw_2
  have hF := hF.tr hf_2 (by decide)
  (try dsimp only at hf_2 hG hF et_2 hr_2)
  subst et_2
  have k2 : g_2 16 0 = nI (nxS s9) := hr_2.2
  (try simp only [tk_5] at hr_2)
  refine lv_istore_n (lv' := [(2, .int r_2), (0, .ref (za Z 16)), (1, .ref a)]) hx hb dX0_drawTariff_5 rfl hl (by decide) rfl (fun ls hl => ?_)
  refine lv_aload_n hx hb dX0_drawTariff_6 rfl (lv_at hl 1 rfl) ?_
  refine lv_bipush (v := 19) hx hb dX0_drawTariff_7 (by decide) ?_
  refine va_calli (va_runV (As := [.int 19]) (rest := []) ⟨hx, hb, hml, hown, hT⟩ (c_X0_below l Z hZ g_2 gl_2 tf 19 (nxS s9) k2 (nxS_lt _) (by decide) hG) (cwV 1 hT (tb_V (fun _ h => h) (tr_34 _ (List.mem_of_getElem? (i := 1) rfl)) (tr_34 _ (List.mem_of_getElem? (i := 2) rfl)) (tr_34 _ (List.mem_of_getElem? (i := 3) rfl)) (tr_2 _ (List.mem_of_getElem? (i := 6) rfl)) (tr_34 _ (List.mem_of_getElem? (i := 4) rfl))) rfl rfl rfl (by decide +kernel) ⟨Nat.le_of_ble_eq_true rfl, Nat.le_of_ble_eq_true rfl⟩) ⟨fun a U f mk q => ⟨q.1, XI.blind f mk a q.2⟩, va_recv hK hP (ci := 0) (q0 := 16) rfl xw_16, fun U hU hW => ⟨rfl, hI.at hS hP hU hW⟩⟩ rfl rfl hl.1 rfl (lv_room (Nat.le_of_ble_eq_true rfl)) dX0_drawTariff_9 ⟨Nat.zero_le _, Nat.zero_le _⟩) hS (fun q _ h => h) (fun q h => h) (fun r_9 u_9 t_9 H locs ht_9 _ hw_9 hB_9 _ _ hS => ?_)
  obtain ⟨g_9, gl_9, tf_9⟩ := u_9
  have hP : va_P (zD Z) vwCl (xw Z g_9 gl_9 tf_9) H := ht_9 ▸ hB_9
  obtain ⟨hf_9, hG, et_9, hr_9⟩ := hw_9
  have hF := hF.tr hf_9 (by decide)
  (try dsimp only at hf_9 hG hF et_9 hr_9)
  subst et_9
  have k9 : g_9 16 0 = nI (nx2 s9) := hr_9.2
  (try simp only [tk_19] at hr_9)
  refine lv_bipush (v := 9) hx hb dX0_drawTariff_12 (by decide) ?_
  refine lv_isub hx hb dX0_drawTariff_14 ?_
  refine lv_topi (fun v_14 e_14 => ?_)
  refine lv_istore_n (lv' := [(3, .int v_14), (2, .int r_2), (0, .ref (za Z 16)), (1, .ref a)]) hx hb dX0_drawTariff_15 rfl hl (by decide) rfl (fun ls hl => ?_)
  refine lv_aload_n hx hb dX0_drawTariff_16 rfl (lv_at hl 2 rfl) ?_
  refine lv_sipush (v := 199) hx hb dX0_drawTariff_17 (by decide) ?_
  refine va_calli (va_runV (As := [.int 199]) (rest := []) ⟨hx, hb, hml, hown, hT⟩ (c_X0_below l Z hZ g_9 gl_9 tf 199 (nx2 s9) k9 (nxS_lt _) (by decide) hG) (cwV 1 hT (tb_V (fun _ h => h) (tr_34 _ (List.mem_of_getElem? (i := 1) rfl)) (tr_34 _ (List.mem_of_getElem? (i := 2) rfl)) (tr_34 _ (List.mem_of_getElem? (i := 3) rfl)) (tr_2 _ (List.mem_of_getElem? (i := 6) rfl)) (tr_34 _ (List.mem_of_getElem? (i := 4) rfl))) rfl rfl rfl (by decide +kernel) ⟨Nat.le_of_ble_eq_true rfl, Nat.le_of_ble_eq_true rfl⟩) ⟨fun a U f mk q => ⟨q.1, XI.blind f mk a q.2⟩, va_recv hK hP (ci := 0) (q0 := 16) rfl xw_16, fun U hU hW => ⟨rfl, hI.at hS hP hU hW⟩⟩ rfl rfl hl.1 rfl (lv_room (Nat.le_of_ble_eq_true rfl)) dX0_drawTariff_20 ⟨Nat.zero_le _, Nat.zero_le _⟩) hS (fun q _ h => h) (fun q h => h) (fun r_20 u_20 t_20 H locs ht_20 _ hw_20 hB_20 _ _ hS => ?_)
  obtain ⟨g_20, gl_20, tf_20⟩ := u_20
  have hP : va_P (zD Z) vwCl (xw Z g_20 gl_20 tf_20) H := ht_20 ▸ hB_20
  obtain ⟨hf_20, hG, et_20, hr_20⟩ := hw_20
  have hF := hF.tr hf_20 (by decide)
  (try dsimp only at hf_20 hG hF et_20 hr_20)
  subst et_20
  have k20 : g_20 16 0 = nI (nx3 s9) := hr_20.2
  (try simp only [tk_199] at hr_20)
  refine lv_bipush (v := 99) hx hb dX0_drawTariff_23 (by decide) ?_
  refine lv_isub hx hb dX0_drawTariff_25 ?_
  refine lv_topi (fun v_25 e_25 => ?_)
  refine lv_istore (lv' := [(4, .int v_25), (3, .int v_14), (2, .int r_2), (0, .ref (za Z 16)), (1, .ref a)]) hx hb dX0_drawTariff_26 hl (by decide) rfl (fun ls hl => ?_)
  refine lv_aload_n hx hb dX0_drawTariff_28 rfl (lv_at hl 3 rfl) ?_
  refine lv_bipush (v := 64) hx hb dX0_drawTariff_29 (by decide) ?_
  refine va_calli (va_runV (As := [.int 64]) (rest := []) ⟨hx, hb, hml, hown, hT⟩ (c_X0_below l Z hZ g_20 gl_20 tf 64 (nx3 s9) k20 (nxS_lt _) (by decide) hG) (cwV 1 hT (tb_V (fun _ h => h) (tr_34 _ (List.mem_of_getElem? (i := 1) rfl)) (tr_34 _ (List.mem_of_getElem? (i := 2) rfl)) (tr_34 _ (List.mem_of_getElem? (i := 3) rfl)) (tr_2 _ (List.mem_of_getElem? (i := 6) rfl)) (tr_34 _ (List.mem_of_getElem? (i := 4) rfl))) rfl rfl rfl (by decide +kernel) ⟨Nat.le_of_ble_eq_true rfl, Nat.le_of_ble_eq_true rfl⟩) ⟨fun a U f mk q => ⟨q.1, XI.blind f mk a q.2⟩, va_recv hK hP (ci := 0) (q0 := 16) rfl xw_16, fun U hU hW => ⟨rfl, hI.at hS hP hU hW⟩⟩ rfl rfl hl.1 rfl (lv_room (Nat.le_of_ble_eq_true rfl)) dX0_drawTariff_31 ⟨Nat.zero_le _, Nat.zero_le _⟩) hS (fun q _ h => h) (fun q h => h) (fun r_31 u_31 t_31 H locs ht_31 _ hw_31 hB_31 _ _ hS => ?_)
  obtain ⟨g_31, gl_31, tf_31⟩ := u_31
  have hP : va_P (zD Z) vwCl (xw Z g_31 gl_31 tf_31) H := ht_31 ▸ hB_31
  obtain ⟨hf_31, hG, et_31, hr_31⟩ := hw_31
  have hF := hF.tr hf_31 (by decide)
  (try dsimp only at hf_31 hG hF et_31 hr_31)
  subst et_31
  have k31 : g_31 16 0 = nI (nx4 s9) := hr_31.2
  have i31 : r_31.toInt = (dvN (nx3 s9) 64 : Int) := by rw [hr_31.1]; exact nI_toInt (by have q := dv_lt (s := nx3 s9) (d := 64) (by decide); show dvN (nx3 s9) 64 < _; omega)
  have l31 := dv_lt (s := nx3 s9) (d := 64) (by decide)
  (try simp only [tk_64] at hr_31)
  refine lv_istore (lv' := [(5, .int r_31), (4, .int v_25), (3, .int v_14), (2, .int r_2), (0, .ref (za Z 16)), (1, .ref a)]) hx hb dX0_drawTariff_34 hl (by decide) rfl (fun ls hl => ?_)
  refine lv_aload_n hx hb dX0_drawTariff_36 rfl (lv_at hl 5 rfl) ?_
  refine lv_iload_n hx hb dX0_drawTariff_37 rfl (lv_at hl 3 rfl) ?_
  refine lv_iload_n hx hb dX0_drawTariff_38 rfl (lv_at hl 2 rfl) ?_
  refine lv_iload hx hb dX0_drawTariff_39 (lv_at hl 1 rfl) ?_
  refine lv_iload hx hb dX0_drawTariff_41 (lv_at hl 0 rfl) ?_
  refine lv_iload hx hb dX0_drawTariff_43 (lv_at hl 0 rfl) ?_
  refine lv_aload_n hx hb dX0_drawTariff_45 rfl (lv_at hl 4 rfl) ?_
  refine lv_bipush (v := 64) hx hb dX0_drawTariff_46 (by decide) ?_
  refine lv_iload hx hb dX0_drawTariff_48 (lv_at hl 0 rfl) ?_
  refine lv_isub hx hb dX0_drawTariff_50 ?_
  refine lv_topi (fun v_50 e_50 => ?_)
  have t_50 := ti_subk tk_64 rfl (by omega) (by omega) e_50
  refine va_calli (va_runV (As := [.int v_50]) (rest := [.int r_31, .int r_31, .int v_25, .int v_14, .int r_2, .ref a]) ⟨hx, hb, hml, hown, hT⟩ (c_X0_below l Z hZ g_31 gl_31 tf v_50 (nx4 s9) k31 (nxS_lt _) (by omega) hG) (cwV 1 hT (tb_V (fun _ h => h) (tr_34 _ (List.mem_of_getElem? (i := 1) rfl)) (tr_34 _ (List.mem_of_getElem? (i := 2) rfl)) (tr_34 _ (List.mem_of_getElem? (i := 3) rfl)) (tr_2 _ (List.mem_of_getElem? (i := 6) rfl)) (tr_34 _ (List.mem_of_getElem? (i := 4) rfl))) rfl rfl rfl (by decide +kernel) ⟨Nat.le_of_ble_eq_true rfl, Nat.le_of_ble_eq_true rfl⟩) ⟨fun a U f mk q => ⟨q.1, XI.blind f mk a q.2⟩, va_recv hK hP (ci := 0) (q0 := 16) rfl xw_16, fun U hU hW => ⟨rfl, hI.at hS hP hU hW⟩⟩ rfl rfl hl.1 rfl (lv_room (Nat.le_of_ble_eq_true rfl)) dX0_drawTariff_51 ⟨Nat.zero_le _, Nat.zero_le _⟩) hS (fun q _ h => h) (fun q h => h) (fun r_51 u_51 t_51 H locs ht_51 _ hw_51 hB_51 _ _ hS => ?_)
  obtain ⟨g_51, gl_51, tf_51⟩ := u_51
  have hP : va_P (zD Z) vwCl (xw Z g_51 gl_51 tf_51) H := ht_51 ▸ hB_51
  obtain ⟨hf_51, hG, et_51, hr_51⟩ := hw_51
  have hF := hF.tr hf_51 (by decide)
  (try dsimp only at hf_51 hG hF et_51 hr_51)
  subst et_51
  have k51 : g_51 16 0 = nI (nx5 s9) := hr_51.2
  refine lv_iadd hx hb dX0_drawTariff_54 ?_
  refine lv_topi (fun v_54 e_54 => ?_)
  have a0 : r_2 = dwF s9 0 := hr_2.1
  have a1 : v_14 = dwF s9 1 := by rw [e_14, hr_9.1]; rfl
  have a2 : v_25 = dwF s9 2 := by rw [e_25, hr_20.1]; rfl
  have a3 : r_31 = dwF s9 3 := hr_31.1
  have a4 : v_54 = dwF s9 4 := by rw [e_54, hr_51.1, hr_31.1, show v_50.toInt.toNat = 64 - dvN (nx3 s9) 64 by omega]; rfl
  rw [a0, a1, a2, a3, a4]
  obtain ⟨k_55, hk_55⟩ := xt_at (g := g_51) (gl := gl_51) (tf := tf) ha
  refine va_callv (va_runV (As := [.int (dwF s9 0), .int (dwF s9 1), .int (dwF s9 2), .int (dwF s9 3), .int (dwF s9 4)]) (rest := []) ⟨hx, hb, hml, hown, hT⟩ (c_X3_write l Z hZ g_51 gl_51 tf a ha (dwF s9 0) (dwF s9 1) (dwF s9 2) (dwF s9 3) (dwF s9 4) (dw_fl s9).1 (dw_fl s9).2 hG) (cwV 5 hT (tb_V (fun _ h => h) (tr_34 _ (List.mem_of_getElem? (i := 9) rfl)) (tr_13 _ (List.mem_of_getElem? (i := 18) rfl)) (tr_13 _ (List.mem_of_getElem? (i := 19) rfl)) (tr_2 _ (List.mem_of_getElem? (i := 10) rfl)) (tr_13 _ (List.mem_of_getElem? (i := 20) rfl))) rfl rfl rfl (by decide +kernel) ⟨Nat.le_of_ble_eq_true rfl, Nat.le_of_ble_eq_true rfl⟩) ⟨fun a U f mk q => ⟨q.1, XI.blind f mk a q.2⟩, va_recv hK hP (ci := 3) (q0 := k_55) rfl hk_55, fun U hU hW => ⟨rfl, hI.at hS hP hU hW⟩⟩ rfl rfl hl.1 rfl (lv_room (Nat.le_of_ble_eq_true rfl)) dX0_drawTariff_55 ⟨Nat.zero_le _, Nat.zero_le _⟩) hS (fun q _ h => h) (fun q h => h) (fun u_55 t_55 H locs ht_55 _ hw_55 hB_55 _ _ hS => ?_)
  obtain ⟨g_55, gl_55, tf_55⟩ := u_55
  have hP : va_P (zD Z) vwCl (xw Z g_55 gl_55 tf_55) H := ht_55 ▸ hB_55
  obtain ⟨hf_55, hG, et_55, eg_55⟩ := hw_55
  have hF := hF.tr hf_55 (by decide)
  dsimp only at hf_55 hG hF et_55 eg_55
  subst et_55
  subst eg_55
  exact W.vret hx hb hr (fun t ht hW => ⟨⟨(g_51, gl_55, (wrT tf a (dwF s9 0) (dwF s9 1) (dwF s9 2) (dwF s9 3) (dwF s9 4))), rfl, ⟨hF, hG, (by (try dsimp only); first | done | exact ⟨fun b hb => wrT_ne hb, fun k hk => by match k, hk with | 0, _ => exact wrT_0 | 1, _ => exact wrT_1 | 2, _ => exact wrT_2 | 3, _ => exact wrT_3 | 4, _ => exact wrT_4, k51⟩)⟩, by show va_P (zD Z) vwCl (xw Z g_51 gl_55 (wrT tf a (dwF s9 0) (dwF s9 1) (dwF s9 2) (dwF s9 3) (dwF s9 4))) t.heap; rw [ht]; exact hP⟩, hS.F ht⟩) hS.2.2 dX0_drawTariff_58
