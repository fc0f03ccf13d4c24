set_option maxHeartbeats 4000000 in
set_option maxRecDepth 100000 in
theorem c_X4_hasNumber (l : Launch) (Z : ZT) (hZ : XG Z) (g : Nat → Nat → Int32) (gl : Nat → Nat → Int64) (tf : Nat → Nat → Int32) (x1 : Int32) (hG : Gd Z tf) : Met l yX4_hasNumber (Cond.code yX4_hasNumber cX4_hasNumber 2 (some .boolean) :: wsL_law) ({ frames := 0, cells := 0, slots := 0, locals := 0 } : Room) (va_Pc [.ref (za Z 3), .int x1] (XI Z g gl tf)) (rd_Qi (fun r => (r = 1 ∧ (0 ≤ x1.toInt ∧ x1.toInt < (g 3 1).toInt)) ∨ (r = 0 ∧ ¬ (0 ≤ x1.toInt ∧ x1.toInt < (g 3 1).toInt)))) 0 0 (fun _ => False) := by
  refine Met.ofW (cc := cX4_hasNumber) (maxL := 2) (ret := (some .boolean)) (by decide) rfl ?_
  intro p e s m args below meth c s₁ B hml hv
  obtain ⟨rfl, hI⟩ := hv
  have hx := B.exec
  have hb := B.bytes
  have hr := B.returns
  have hT : ∀ w ∈ wsL_law, w.before ([.ref (za Z 3), .int x1] : List Value).toArray s = true := fun w h => atoms_spec (ws := (Cond.code yX4_hasNumber cX4_hasNumber 2 (some .boolean) :: wsL_law)) B.pre w (List.mem_cons_of_mem _ h)
  have hown : s.vm.findClass RX4 = some m.cls := findClass_of_methodNamed B.named
  have hlocks := B.notSynchronized
  have hK := hI.2.1
  have hP := hI.1
  have hS : va_S (zA Z) s.heap s.heap [] := va_S.rf
  have hl := lv_entry ([.ref (za Z 3), .int x1]) (n := 2) (Nat.le_of_ble_eq_true rfl)
  rw [lg_entry_eq]
  generalize (lg_sl ([.ref (za Z 3), .int x1]) ++ List.replicate (2 - (lg_sl ([.ref (za Z 3), .int x1])).length) Slot.unset).toArray = ls at hl ⊢
  have hl : lv_has ls 2 [(0, .ref (za Z 3)), (1, .int x1)] := hl
  refine lv_iload_n hx hb dX4_hasNumber_0 rfl (lv_at hl 1 rfl) ?_
  refine lv_if_lt (tgt := 16) hx hb dX4_hasNumber_1 (by decide) (fun c_1 => ?_) (fun c_1 => ?_)
  · skip
    have i_1 := ti_ltk rfl tk_0 c_1
    refine lv_iconst (v := 0) hx hb dX4_hasNumber_16 (by decide) ?_
    exact W.zret (v := 0) (ty := .boolean) hx hb hr rfl (fun t ht hW => ⟨0, rfl, Or.inr ⟨rfl, (by first | assumption | omega | decide)⟩, ht⟩) (fun q hq => by cases hq) dX4_hasNumber_17
  · skip
    have i_1 := ti_nltk rfl tk_0 c_1
    refine lv_iload_n hx hb dX4_hasNumber_4 rfl (lv_at hl 1 rfl) ?_
    refine lv_aload_n hx hb dX4_hasNumber_5 rfl (lv_at hl 0 rfl) ?_
    refine va_get (D := zD Z) (ci := 4) (v := .int (g 3 1)) (C := RX4) (T := TX4) (N := 2) hx hb hT inlX4 hown hK hP 3 xw_3 rfl 1 (by decide) (hT _ (tr_14 _ (List.mem_of_getElem? (i := 12) rfl))) (fun _ h9 => h9) rfl dX4_hasNumber_6 ?_
    refine lv_icmp_ge (tgt := 16) hx hb dX4_hasNumber_9 (by decide) (fun c_9 => ?_) (fun c_9 => ?_)
    · skip
      have i_9 := ti_lek rfl rfl c_9
      refine lv_iconst (v := 0) hx hb dX4_hasNumber_16 (by decide) ?_
      exact W.zret (v := 0) (ty := .boolean) hx hb hr rfl (fun t ht hW => ⟨0, rfl, Or.inr ⟨rfl, (by first | assumption | omega | decide)⟩, ht⟩) (fun q hq => by cases hq) dX4_hasNumber_17
    · skip
      have i_9 := ti_nlek rfl rfl c_9
      refine lv_iconst (v := 1) hx hb dX4_hasNumber_12 (by decide) ?_
      refine lv_goto (tgt := 17) hx hb dX4_hasNumber_13 (by decide) ?_
      exact W.zret (v := 1) (ty := .boolean) hx hb hr rfl (fun t ht hW => ⟨1, rfl, Or.inl ⟨rfl, (by first | assumption | omega | decide)⟩, ht⟩) (fun q hq => by cases hq) dX4_hasNumber_17
set_option maxHeartbeats 4000000 in
set_option maxRecDepth 100000 in
theorem c_X4_at_3 (l : Launch) (Z : ZT) (hZ : XG Z) (g : Nat → Nat → Int32) (gl : Nat → Nat → Int64) (tf : Nat → Nat → Int32) (x1 : Int32) (hG : Gd Z tf) : Met l yX4_at (Cond.code yX4_at cX4_at 2 (some (.object "TariffDesk$Tariff")) :: wsL_law) ({ frames := 0, cells := 0, slots := 0, locals := 0 } : Room) (va_Pc [.ref (za Z 3), .int x1] (XI Z g gl tf)) (rd_Qr (fun r => r ∈ zL Z ∧ (∀ k : Nat, k < 70 → x1.toInt = k → r = ro Z k))) 0 0 (fun _ => False) := by
  refine Met.ofW (cc := cX4_at) (maxL := 2) (ret := (some (.object "TariffDesk$Tariff"))) (by decide) rfl ?_
  intro p e s m args below meth c s₁ B hml hv
  obtain ⟨rfl, hI⟩ := hv
  have hx := B.exec
  have hb := B.bytes
  have hr := B.returns
  have hT : ∀ w ∈ wsL_law, w.before ([.ref (za Z 3), .int x1] : List Value).toArray s = true := fun w h => atoms_spec (ws := (Cond.code yX4_at cX4_at 2 (some (.object "TariffDesk$Tariff")) :: wsL_law)) B.pre w (List.mem_cons_of_mem _ h)
  have hown : s.vm.findClass RX4 = some m.cls := findClass_of_methodNamed B.named
  have hlocks := B.notSynchronized
  have hK := hI.2.1
  have hP := hI.1
  have hS : va_S (zA Z) s.heap s.heap [] := va_S.rf
  have hl := lv_entry ([.ref (za Z 3), .int x1]) (n := 2) (Nat.le_of_ble_eq_true rfl)
  rw [lg_entry_eq]
  generalize (lg_sl ([.ref (za Z 3), .int x1]) ++ List.replicate (2 - (lg_sl ([.ref (za Z 3), .int x1])).length) Slot.unset).toArray = ls at hl ⊢
  have hl : lv_has ls 2 [(0, .ref (za Z 3)), (1, .int x1)] := hl
  refine lv_iload_n hx hb dX4_at_0 rfl (lv_at hl 1 rfl) ?_
  refine lv_if_lt (tgt := 22) hx hb dX4_at_1 (by decide) (fun c_1 => ?_) (fun c_1 => ?_)
  · skip
    have i_1 := ti_ltk rfl tk_0 c_1
    refine lv_aload_n hx hb dX4_at_22 rfl (lv_at hl 0 rfl) ?_
    refine va_get (D := zD Z) (ci := 4) (v := .ref (za Z 4)) (C := RX4) (T := TX4) (N := 2) hx hb hT inlX4 hown hK hP 3 xw_3 rfl 0 (by decide) (hT _ (tr_3 _ (List.mem_of_getElem? (i := 4) rfl))) (fun _ h9 => h9) rfl dX4_at_23 ?_
    refine lv_iconst (v := 0) hx hb dX4_at_26 (by decide) ?_
    have h_27 : vp_in 0 70 := (ti_vp (x := 0) (by rw [tk_0]; omega) (by rw [tk_0]; omega))
    obtain ⟨ha_27, hq_27⟩ := hZ.r4 h_27
    refine va_aldq hx hb hK hP 4 3 xw_4 rfl h_27 dX4_at_27 ?_
    rw [hq_27]
    refine W.eq (g2 := F0 m 28 ls [.ref (ro Z (0 : Int32).toNatClampNeg)]) rfl ?_
    exact W.aret (v := .ref (ro Z (0 : Int32).toNatClampNeg)) hx hb hr (Or.inl ⟨_, rfl⟩) (Or.inr ⟨_, rfl⟩) (fun t ht hW => ⟨(ro Z (0 : Int32).toNatClampNeg), rfl, ⟨ha_27, fun k hk e => by omega⟩, ht⟩) (fun q hq => by cases hq) dX4_at_28
  · skip
    have i_1 := ti_nltk rfl tk_0 c_1
    refine lv_iload_n hx hb dX4_at_4 rfl (lv_at hl 1 rfl) ?_
    refine lv_aload_n hx hb dX4_at_5 rfl (lv_at hl 0 rfl) ?_
    refine va_get (D := zD Z) (ci := 4) (v := .ref (za Z 4)) (C := RX4) (T := TX4) (N := 2) hx hb hT inlX4 hown hK hP 3 xw_3 rfl 0 (by decide) (hT _ (tr_3 _ (List.mem_of_getElem? (i := 4) rfl))) (fun _ h9 => h9) rfl dX4_at_6 ?_
    refine va_alen hx hb hK hP 4 3 xw_4 rfl (v := 70) rfl dX4_at_9 ?_
    refine lv_icmp_ge (tgt := 22) hx hb dX4_at_10 (by decide) (fun c_10 => ?_) (fun c_10 => ?_)
    · skip
      have i_10 := ti_lek tk_70 rfl c_10
      refine lv_aload_n hx hb dX4_at_22 rfl (lv_at hl 0 rfl) ?_
      refine va_get (D := zD Z) (ci := 4) (v := .ref (za Z 4)) (C := RX4) (T := TX4) (N := 2) hx hb hT inlX4 hown hK hP 3 xw_3 rfl 0 (by decide) (hT _ (tr_3 _ (List.mem_of_getElem? (i := 4) rfl))) (fun _ h9 => h9) rfl dX4_at_23 ?_
      refine lv_iconst (v := 0) hx hb dX4_at_26 (by decide) ?_
      have h_27 : vp_in 0 70 := (ti_vp (x := 0) (by rw [tk_0]; omega) (by rw [tk_0]; omega))
      obtain ⟨ha_27, hq_27⟩ := hZ.r4 h_27
      refine va_aldq hx hb hK hP 4 3 xw_4 rfl h_27 dX4_at_27 ?_
      rw [hq_27]
      refine W.eq (g2 := F0 m 28 ls [.ref (ro Z (0 : Int32).toNatClampNeg)]) rfl ?_
      exact W.aret (v := .ref (ro Z (0 : Int32).toNatClampNeg)) hx hb hr (Or.inl ⟨_, rfl⟩) (Or.inr ⟨_, rfl⟩) (fun t ht hW => ⟨(ro Z (0 : Int32).toNatClampNeg), rfl, ⟨ha_27, fun k hk e => by omega⟩, ht⟩) (fun q hq => by cases hq) dX4_at_28
    · skip
      have i_10 := ti_nlek tk_70 rfl c_10
      refine lv_aload_n hx hb dX4_at_13 rfl (lv_at hl 0 rfl) ?_
      refine va_get (D := zD Z) (ci := 4) (v := .ref (za Z 4)) (C := RX4) (T := TX4) (N := 2) hx hb hT inlX4 hown hK hP 3 xw_3 rfl 0 (by decide) (hT _ (tr_3 _ (List.mem_of_getElem? (i := 4) rfl))) (fun _ h9 => h9) rfl dX4_at_14 ?_
      refine lv_iload_n hx hb dX4_at_17 rfl (lv_at hl 1 rfl) ?_
      have h_18 : vp_in x1 70 := (ti_vp (by omega) (by omega))
      obtain ⟨ha_18, hq_18⟩ := hZ.r4 h_18
      refine va_aldq hx hb hK hP 4 3 xw_4 rfl h_18 dX4_at_18 ?_
      rw [hq_18]
      refine W.eq (g2 := F0 m 19 ls [.ref (ro Z x1.toNatClampNeg)]) rfl ?_
      refine lv_goto (tgt := 28) hx hb dX4_at_19 (by decide) ?_
      exact W.aret (v := .ref (ro Z x1.toNatClampNeg)) hx hb hr (Or.inl ⟨_, rfl⟩) (Or.inr ⟨_, rfl⟩) (fun t ht hW => ⟨(ro Z x1.toNatClampNeg), rfl, ⟨ha_18, fun k hk e => by rw [ti_clamp e]⟩, ht⟩) (fun q hq => by cases hq) dX4_at_28
set_option maxHeartbeats 4000000 in
set_option maxRecDepth 100000 in
theorem c_X4_add_3 (l : Launch) (Z : ZT) (hZ : XG Z) (g : Nat → Nat → Int32) (gl : Nat → Nat → Int64) (tf : Nat → Nat → Int32) (a : Nat) (ha : a ∈ zL Z) (hn : 0 ≤ (g 3 1).toInt ∧ (g 3 1).toInt < 70) (hG : Gd Z tf) : Met l yX4_add (Cond.code yX4_add cX4_add 2 none :: wsL_law) ({ frames := 2, cells := 0, slots := 0, locals := 46 } : Room) (va_Pc [.ref (za Z 3), .ref a] (XI Z g gl tf)) (va_Qv (fun (u : (Nat → Nat → Int32) × (Nat → Nat → Int64) × (Nat → Nat → Int32)) => Fr [3] g u.1 ∧ Gd Z u.2.2 ∧ (wrT tf (ro Z (g 3 1).toInt.toNat) (tf a 0) (tf a 1) (tf a 2) (tf a 3) (tf a 4)) = u.2.2 ∧ (up2 g 3 1 (g 3 1 + 1)) = u.1) (fun u t => va_P (zD Z) vwCl (xw Z u.1 u.2.1 u.2.2) t.heap) (zA Z)) 0 0 (zA Z) := by
  refine Met.ofW (cc := cX4_add) (maxL := 2) (ret := none) (by decide) rfl ?_
  intro p e s m args below meth c s₁ B hml hv
  obtain ⟨rfl, hI⟩ := hv
  have hx := B.exec
  have hb := B.bytes
  have hr := B.returns
  have hT : ∀ w ∈ wsL_law, w.before ([.ref (za Z 3), .ref a] : List Value).toArray s = true := fun w h => atoms_spec (ws := (Cond.code yX4_add cX4_add 2 none :: wsL_law)) B.pre w (List.mem_cons_of_mem _ h)
  have hown : s.vm.findClass RX4 = some m.cls := findClass_of_methodNamed B.named
  have hlocks := B.notSynchronized
  have hK := hI.2.1
  have hP := hI.1
  have hS : va_S (zA Z) s.heap s.heap [] := va_S.rf
  have hF : Fr [3] g g := Fr.rf
  have hl := lv_entry ([.ref (za Z 3), .ref a]) (n := 2) (Nat.le_of_ble_eq_true rfl)
  rw [lg_entry_eq]
  generalize (lg_sl ([.ref (za Z 3), .ref a]) ++ List.replicate (2 - (lg_sl ([.ref (za Z 3), .ref a])).length) Slot.unset).toArray = ls at hl ⊢
  have hl : lv_has ls 2 [(0, .ref (za Z 3)), (1, .ref a)] := hl
  refine lv_aload_n hx hb dX4_add_0 rfl (lv_at hl 0 rfl) ?_
  refine va_get (D := zD Z) (ci := 4) (v := .int (g 3 1)) (C := RX4) (T := TX4) (N := 2) hx hb hT inlX4 hown hK hP 3 xw_3 rfl 1 (by decide) (hT _ (tr_14 _ (List.mem_of_getElem? (i := 12) rfl))) (fun _ h9 => h9) rfl dX4_add_1 ?_
  refine lv_aload_n hx hb dX4_add_4 rfl (lv_at hl 0 rfl) ?_
  refine va_get (D := zD Z) (ci := 4) (v := .ref (za Z 4)) (C := RX4) (T := TX4) (N := 2) hx hb hT inlX4 hown hK hP 3 xw_3 rfl 0 (by decide) (hT _ (tr_3 _ (List.mem_of_getElem? (i := 4) rfl))) (fun _ h9 => h9) rfl dX4_add_5 ?_
  refine va_alen hx hb hK hP 4 3 xw_4 rfl (v := 70) rfl dX4_add_8 ?_
  refine lv_icmp_ge (tgt := 34) hx hb dX4_add_9 (by decide) (fun c_9 => ?_) (fun c_9 => ?_)
  · skip
    have i_9 := ti_lek tk_70 rfl c_9
    exfalso
    omega
  · skip
    have i_9 := ti_nlek tk_70 rfl c_9
    refine lv_aload_n hx hb dX4_add_12 rfl (lv_at hl 0 rfl) ?_
    refine lv_aload_n hx hb dX4_add_13 rfl (lv_at hl 0 rfl) ?_
    refine va_get (D := zD Z) (ci := 4) (v := .int (g 3 1)) (C := RX4) (T := TX4) (N := 2) hx hb hT inlX4 hown hK hP 3 xw_3 rfl 1 (by decide) (hT _ (tr_14 _ (List.mem_of_getElem? (i := 12) rfl))) (fun _ h9 => h9) rfl dX4_add_14 ?_
    refine rd_cr (va_runV (As := [.int (g 3 1)]) (rest := []) ⟨hx, hb, hml, hown, hT⟩ (c_X4_at_3 l Z hZ g gl tf (g 3 1) hG) (cwV 1 hT (tb_V (fun _ h => h) (tr_14 _ (List.mem_of_getElem? (i := 13) rfl)) (tr_14 _ (List.mem_of_getElem? (i := 14) rfl)) (tr_14 _ (List.mem_of_getElem? (i := 15) rfl)) (tr_1 _ (List.mem_of_getElem? (i := 18) rfl)) (tr_14 _ (List.mem_of_getElem? (i := 16) rfl))) rfl rfl rfl (by decide +kernel) ⟨Nat.le_of_ble_eq_true rfl, Nat.le_of_ble_eq_true rfl⟩) ⟨fun a U f mk q => ⟨q.1, XI.blind f mk a q.2⟩, va_recv hK hP (ci := 4) (q0 := 3) rfl xw_3, fun U hU hW => ⟨rfl, hI.at hS hP hU hW⟩⟩ rfl rfl hl.1 rfl (lv_room (Nat.le_of_ble_eq_true rfl)) dX4_add_17 ⟨Nat.zero_le _, Nat.zero_le _⟩) (fun r_17 hr_17 => ?_)
    have e17 := hr_17.2 ((g 3 1).toInt.toNat) (by omega) (by omega)
    subst e17
    refine lv_aload_n hx hb dX4_add_20 rfl (lv_at hl 1 rfl) ?_
    obtain ⟨k_21, hk_21⟩ := xt_at (g := g) (gl := gl) (tf := tf) hr_17.1
    refine va_callv (va_runV (As := [.ref a]) (rest := []) ⟨hx, hb, hml, hown, hT⟩ (c_X3_copyFrom l Z hZ g gl tf (ro Z (g 3 1).toInt.toNat) hr_17.1 a ha hG) (cwV 1 hT (tb_V (fun _ h => h) (tr_14 _ (List.mem_of_getElem? (i := 17) rfl)) (tr_14 _ (List.mem_of_getElem? (i := 18) rfl)) (tr_14 _ (List.mem_of_getElem? (i := 19) rfl)) (tr_2 _ (List.mem_of_getElem? (i := 10) rfl)) (tr_14 _ (List.mem_of_getElem? (i := 20) rfl))) rfl rfl rfl (by decide +kernel) ⟨Nat.le_of_ble_eq_true rfl, Nat.le_of_ble_eq_true rfl⟩) ⟨fun a U f mk q => ⟨q.1, XI.blind f mk a q.2⟩, va_recv hK hP (ci := 3) (q0 := k_21) rfl hk_21, fun U hU hW => ⟨rfl, hI.at hS hP hU hW⟩⟩ rfl rfl hl.1 rfl (lv_room (Nat.le_of_ble_eq_true rfl)) dX4_add_21 ⟨Nat.zero_le _, Nat.zero_le _⟩) hS (fun q _ h => h) (fun q h => h) (fun u_21 t_21 H locs ht_21 _ hw_21 hB_21 _ _ hS => ?_)
    obtain ⟨g_21, gl_21, tf_21⟩ := u_21
    have hP : va_P (zD Z) vwCl (xw Z g_21 gl_21 tf_21) H := ht_21 ▸ hB_21
    obtain ⟨hf_21, hG, et_21, eg_21⟩ := hw_21
    have hF := hF.tr hf_21 (by decide)
    dsimp only at hf_21 hG hF et_21 eg_21
    subst et_21
    subst eg_21
    refine lv_aload_n hx hb dX4_add_24 rfl (lv_at hl 0 rfl) ?_
    refine lv_dup hx hb dX4_add_25 rfl ?_
    refine va_get (D := zD Z) (ci := 4) (v := .int (g 3 1)) (C := RX4) (T := TX4) (N := 2) hx hb hT inlX4 hown hK hP 3 xw_3 rfl 1 (by decide) (hT _ (tr_14 _ (List.mem_of_getElem? (i := 12) rfl))) (fun _ h9 => h9) rfl dX4_add_26 ?_
    refine lv_iconst (v := 1) hx hb dX4_add_29 (by decide) ?_
    refine lv_iadd hx hb dX4_add_30 ?_
    refine lv_topi (fun v_30 e_30 => ?_)
    refine va_put (D := zD Z) (ci := 4) (v := .int v_30) (ty := .int) (C := RX4) (T := TX4) (N := 2) hx hb hT inlX4 tyX4 tyX4_ok nmX4 hown hK hP hZ.D hS 3 xw_3 rfl 1 (by decide) (hT _ (tr_14 _ (List.mem_of_getElem? (i := 12) rfl))) (fun _ h9 => h9) rfl (by decide +kernel) rfl rfl (Nat.le_of_ble_eq_true rfl) dX4_add_31 (fun H locs hP _ hS => ?_)
    replace hP := xf_3_1 hP
    have hF := hF.u2 (i := 3) (k := 1) (v := v_30) (by decide)
    exact W.vret hx hb hr (fun t ht hW => ⟨⟨((up2 g 3 1 v_30), gl_21, (wrT tf (ro Z (g 3 1).toInt.toNat) (tf a 0) (tf a 1) (tf a 2) (tf a 3) (tf a 4))), rfl, ⟨hF, hG, rfl, (by rw [e_30])⟩, by show va_P (zD Z) vwCl (xw Z (up2 g 3 1 v_30) gl_21 (wrT tf (ro Z (g 3 1).toInt.toNat) (tf a 0) (tf a 1) (tf a 2) (tf a 3) (tf a 4))) t.heap; rw [ht]; exact hP⟩, hS.F ht⟩) hS.2.2 dX4_add_34
set_option maxHeartbeats 4000000 in
set_option maxRecDepth 100000 in
theorem c_X4_at_17 (l : Launch) (Z : ZT) (hZ : XG Z) (g : Nat → Nat → Int32) (gl : Nat → Nat → Int64) (tf : Nat → Nat → Int32) (x1 : Int32) (hG : Gd Z tf) : Met l yX4_at (Cond.code yX4_at cX4_at 2 (some (.object "TariffDesk$Tariff")) :: wsL_law) ({ frames := 0, cells := 0, slots := 0, locals := 0 } : Room) (va_Pc [.ref (za Z 17), .int x1] (XI Z g gl tf)) (rd_Qr (fun r => r ∈ zL Z ∧ (∀ k : Nat, k < 40 → x1.toInt = k → r = ko Z k))) 0 0 (fun _ => False) := by
  refine Met.ofW (cc := cX4_at) (maxL := 2) (ret := (some (.object "TariffDesk$Tariff"))) (by decide) rfl ?_
  intro p e s m args below meth c s₁ B hml hv
  obtain ⟨rfl, hI⟩ := hv
  have hx := B.exec
  have hb := B.bytes
  have hr := B.returns
  have hT : ∀ w ∈ wsL_law, w.before ([.ref (za Z 17), .int x1] : List Value).toArray s = true := fun w h => atoms_spec (ws := (Cond.code yX4_at cX4_at 2 (some (.object "TariffDesk$Tariff")) :: wsL_law)) B.pre w (List.mem_cons_of_mem _ h)
  have hown : s.vm.findClass RX4 = some m.cls := findClass_of_methodNamed B.named
  have hlocks := B.notSynchronized
  have hK := hI.2.1
  have hP := hI.1
  have hS : va_S (zA Z) s.heap s.heap [] := va_S.rf
  have hl := lv_entry ([.ref (za Z 17), .int x1]) (n := 2) (Nat.le_of_ble_eq_true rfl)
  rw [lg_entry_eq]
  generalize (lg_sl ([.ref (za Z 17), .int x1]) ++ List.replicate (2 - (lg_sl ([.ref (za Z 17), .int x1])).length) Slot.unset).toArray = ls at hl ⊢
  have hl : lv_has ls 2 [(0, .ref (za Z 17)), (1, .int x1)] := hl
  refine lv_iload_n hx hb dX4_at_0 rfl (lv_at hl 1 rfl) ?_
  refine lv_if_lt (tgt := 22) hx hb dX4_at_1 (by decide) (fun c_1 => ?_) (fun c_1 => ?_)
  · skip
    have i_1 := ti_ltk rfl tk_0 c_1
    refine lv_aload_n hx hb dX4_at_22 rfl (lv_at hl 0 rfl) ?_
    refine va_get (D := zD Z) (ci := 4) (v := .ref (za Z 18)) (C := RX4) (T := TX4) (N := 2) hx hb hT inlX4 hown hK hP 17 xw_17 rfl 0 (by decide) (hT _ (tr_3 _ (List.mem_of_getElem? (i := 4) rfl))) (fun _ h9 => h9) rfl dX4_at_23 ?_
    refine lv_iconst (v := 0) hx hb dX4_at_26 (by decide) ?_
    have h_27 : vp_in 0 40 := (ti_vp (x := 0) (by rw [tk_0]; omega) (by rw [tk_0]; omega))
    obtain ⟨ha_27, hq_27⟩ := hZ.r18 h_27
    refine va_aldq hx hb hK hP 18 3 xw_18 rfl h_27 dX4_at_27 ?_
    rw [hq_27]
    refine W.eq (g2 := F0 m 28 ls [.ref (ko Z (0 : Int32).toNatClampNeg)]) rfl ?_
    exact W.aret (v := .ref (ko Z (0 : Int32).toNatClampNeg)) hx hb hr (Or.inl ⟨_, rfl⟩) (Or.inr ⟨_, rfl⟩) (fun t ht hW => ⟨(ko Z (0 : Int32).toNatClampNeg), rfl, ⟨ha_27, fun k hk e => by omega⟩, ht⟩) (fun q hq => by cases hq) dX4_at_28
  · skip
    have i_1 := ti_nltk rfl tk_0 c_1
    refine lv_iload_n hx hb dX4_at_4 rfl (lv_at hl 1 rfl) ?_
    refine lv_aload_n hx hb dX4_at_5 rfl (lv_at hl 0 rfl) ?_
    refine va_get (D := zD Z) (ci := 4) (v := .ref (za Z 18)) (C := RX4) (T := TX4) (N := 2) hx hb hT inlX4 hown hK hP 17 xw_17 rfl 0 (by decide) (hT _ (tr_3 _ (List.mem_of_getElem? (i := 4) rfl))) (fun _ h9 => h9) rfl dX4_at_6 ?_
    refine va_alen hx hb hK hP 18 3 xw_18 rfl (v := 40) rfl dX4_at_9 ?_
    refine lv_icmp_ge (tgt := 22) hx hb dX4_at_10 (by decide) (fun c_10 => ?_) (fun c_10 => ?_)
    · skip
      have i_10 := ti_lek tk_40 rfl c_10
      refine lv_aload_n hx hb dX4_at_22 rfl (lv_at hl 0 rfl) ?_
      refine va_get (D := zD Z) (ci := 4) (v := .ref (za Z 18)) (C := RX4) (T := TX4) (N := 2) hx hb hT inlX4 hown hK hP 17 xw_17 rfl 0 (by decide) (hT _ (tr_3 _ (List.mem_of_getElem? (i := 4) rfl))) (fun _ h9 => h9) rfl dX4_at_23 ?_
      refine lv_iconst (v := 0) hx hb dX4_at_26 (by decide) ?_
      have h_27 : vp_in 0 40 := (ti_vp (x := 0) (by rw [tk_0]; omega) (by rw [tk_0]; omega))
      obtain ⟨ha_27, hq_27⟩ := hZ.r18 h_27
      refine va_aldq hx hb hK hP 18 3 xw_18 rfl h_27 dX4_at_27 ?_
      rw [hq_27]
      refine W.eq (g2 := F0 m 28 ls [.ref (ko Z (0 : Int32).toNatClampNeg)]) rfl ?_
      exact W.aret (v := .ref (ko Z (0 : Int32).toNatClampNeg)) hx hb hr (Or.inl ⟨_, rfl⟩) (Or.inr ⟨_, rfl⟩) (fun t ht hW => ⟨(ko Z (0 : Int32).toNatClampNeg), rfl, ⟨ha_27, fun k hk e => by omega⟩, ht⟩) (fun q hq => by cases hq) dX4_at_28
    · skip
      have i_10 := ti_nlek tk_40 rfl c_10
      refine lv_aload_n hx hb dX4_at_13 rfl (lv_at hl 0 rfl) ?_
      refine va_get (D := zD Z) (ci := 4) (v := .ref (za Z 18)) (C := RX4) (T := TX4) (N := 2) hx hb hT inlX4 hown hK hP 17 xw_17 rfl 0 (by decide) (hT _ (tr_3 _ (List.mem_of_getElem? (i := 4) rfl))) (fun _ h9 => h9) rfl dX4_at_14 ?_
      refine lv_iload_n hx hb dX4_at_17 rfl (lv_at hl 1 rfl) ?_
      have h_18 : vp_in x1 40 := (ti_vp (by omega) (by omega))
      obtain ⟨ha_18, hq_18⟩ := hZ.r18 h_18
      refine va_aldq hx hb hK hP 18 3 xw_18 rfl h_18 dX4_at_18 ?_
      rw [hq_18]
      refine W.eq (g2 := F0 m 19 ls [.ref (ko Z x1.toNatClampNeg)]) rfl ?_
      refine lv_goto (tgt := 28) hx hb dX4_at_19 (by decide) ?_
      exact W.aret (v := .ref (ko Z x1.toNatClampNeg)) hx hb hr (Or.inl ⟨_, rfl⟩) (Or.inr ⟨_, rfl⟩) (fun t ht hW => ⟨(ko Z x1.toNatClampNeg), rfl, ⟨ha_18, fun k hk e => by rw [ti_clamp e]⟩, ht⟩) (fun q hq => by cases hq) dX4_at_28
set_option maxHeartbeats 4000000 in
set_option maxRecDepth 100000 in
theorem c_X4_add_17 (l : Launch) (Z : ZT) (hZ : XG Z) (g : Nat → Nat → Int32) (gl : Nat → Nat → Int64) (tf : Nat → Nat → Int32) (a : Nat) (ha : a ∈ zL Z) (hn : 0 ≤ (g 17 1).toInt ∧ (g 17 1).toInt < 40) (hG : Gd Z tf) : Met l yX4_add (Cond.code yX4_add cX4_add 2 none :: wsL_law) ({ frames := 2, cells := 0, slots := 0, locals := 46 } : Room) (va_Pc [.ref (za Z 17), .ref a] (XI Z g gl tf)) (va_Qv (fun (u : (Nat → Nat → Int32) × (Nat → Nat → Int64) × (Nat → Nat → Int32)) => Fr [17] g u.1 ∧ Gd Z u.2.2 ∧ (wrT tf (ko Z (g 17 1).toInt.toNat) (tf a 0) (tf a 1) (tf a 2) (tf a 3) (tf a 4)) = u.2.2 ∧ (up2 g 17 1 (g 17 1 + 1)) = u.1) (fun u t => va_P (zD Z) vwCl (xw Z u.1 u.2.1 u.2.2) t.heap) (zA Z)) 0 0 (zA Z) := by
  refine Met.ofW (cc := cX4_add) (maxL := 2) (ret := none) (by decide) rfl ?_
  intro p e s m args below meth c s₁ B hml hv
  obtain ⟨rfl, hI⟩ := hv
  have hx := B.exec
  have hb := B.bytes
  have hr := B.returns
  have hT : ∀ w ∈ wsL_law, w.before ([.ref (za Z 17), .ref a] : List Value).toArray s = true := fun w h => atoms_spec (ws := (Cond.code yX4_add cX4_add 2 none :: wsL_law)) B.pre w (List.mem_cons_of_mem _ h)
  have hown : s.vm.findClass RX4 = some m.cls := findClass_of_methodNamed B.named
  have hlocks := B.notSynchronized
  have hK := hI.2.1
  have hP := hI.1
  have hS : va_S (zA Z) s.heap s.heap [] := va_S.rf
  have hF : Fr [17] g g := Fr.rf
  have hl := lv_entry ([.ref (za Z 17), .ref a]) (n := 2) (Nat.le_of_ble_eq_true rfl)
  rw [lg_entry_eq]
  generalize (lg_sl ([.ref (za Z 17), .ref a]) ++ List.replicate (2 - (lg_sl ([.ref (za Z 17), .ref a])).length) Slot.unset).toArray = ls at hl ⊢
  have hl : lv_has ls 2 [(0, .ref (za Z 17)), (1, .ref a)] := hl
  refine lv_aload_n hx hb dX4_add_0 rfl (lv_at hl 0 rfl) ?_
  refine va_get (D := zD Z) (ci := 4) (v := .int (g 17 1)) (C := RX4) (T := TX4) (N := 2) hx hb hT inlX4 hown hK hP 17 xw_17 rfl 1 (by decide) (hT _ (tr_14 _ (List.mem_of_getElem? (i := 12) rfl))) (fun _ h9 => h9) rfl dX4_add_1 ?_
  refine lv_aload_n hx hb dX4_add_4 rfl (lv_at hl 0 rfl) ?_
  refine va_get (D := zD Z) (ci := 4) (v := .ref (za Z 18)) (C := RX4) (T := TX4) (N := 2) hx hb hT inlX4 hown hK hP 17 xw_17 rfl 0 (by decide) (hT _ (tr_3 _ (List.mem_of_getElem? (i := 4) rfl))) (fun _ h9 => h9) rfl dX4_add_5 ?_
  refine va_alen hx hb hK hP 18 3 xw_18 rfl (v := 40) rfl dX4_add_8 ?_
  refine lv_icmp_ge (tgt := 34) hx hb dX4_add_9 (by decide) (fun c_9 => ?_) (fun c_9 => ?_)
  · skip
    have i_9 := ti_lek tk_40 rfl c_9
    exfalso
    omega
  · skip
    have i_9 := ti_nlek tk_40 rfl c_9
    refine lv_aload_n hx hb dX4_add_12 rfl (lv_at hl 0 rfl) ?_
    refine lv_aload_n hx hb dX4_add_13 rfl (lv_at hl 0 rfl) ?_
    refine va_get (D := zD Z) (ci := 4) (v := .int (g 17 1)) (C := RX4) (T := TX4) (N := 2) hx hb hT inlX4 hown hK hP 17 xw_17 rfl 1 (by decide) (hT _ (tr_14 _ (List.mem_of_getElem? (i := 12) rfl))) (fun _ h9 => h9) rfl dX4_add_14 ?_
    refine rd_cr (va_runV (As := [.int (g 17 1)]) (rest := []) ⟨hx, hb, hml, hown, hT⟩ (c_X4_at_17 l Z hZ g gl tf (g 17 1) hG) (cwV 1 hT (tb_V (fun _ h => h) (tr_14 _ (List.mem_of_getElem? (i := 13) rfl)) (tr_14 _ (List.mem_of_getElem? (i := 14) rfl)) (tr_14 _ (List.mem_of_getElem? (i := 15) rfl)) (tr_1 _ (List.mem_of_getElem? (i := 18) rfl)) (tr_14 _ (List.mem_of_getElem? (i := 16) rfl))) rfl rfl rfl (by decide +kernel) ⟨Nat.le_of_ble_eq_true rfl, Nat.le_of_ble_eq_true rfl⟩) ⟨fun a U f mk q => ⟨q.1, XI.blind f mk a q.2⟩, va_recv hK hP (ci := 4) (q0 := 17) rfl xw_17, fun U hU hW => ⟨rfl, hI.at hS hP hU hW⟩⟩ rfl rfl hl.1 rfl (lv_room (Nat.le_of_ble_eq_true rfl)) dX4_add_17 ⟨Nat.zero_le _, Nat.zero_le _⟩) (fun r_17 hr_17 => ?_)
    have e17 := hr_17.2 ((g 17 1).toInt.toNat) (by omega) (by omega)
    subst e17
    refine lv_aload_n hx hb dX4_add_20 rfl (lv_at hl 1 rfl) ?_
    obtain ⟨k_21, hk_21⟩ := xt_at (g := g) (gl := gl) (tf := tf) hr_17.1
    refine va_callv (va_runV (As := [.ref a]) (rest := []) ⟨hx, hb, hml, hown, hT⟩ (c_X3_copyFrom l Z hZ g gl tf (ko Z (g 17 1).toInt.toNat) hr_17.1 a ha hG) (cwV 1 hT (tb_V (fun _ h => h) (tr_14 _ (List.mem_of_getElem? (i := 17) rfl)) (tr_14 _ (List.mem_of_getElem? (i := 18) rfl)) (tr_14 _ (List.mem_of_getElem? (i := 19) rfl)) (tr_2 _ (List.mem_of_getElem? (i := 10) rfl)) (tr_14 _ (List.mem_of_getElem? (i := 20) rfl))) rfl rfl rfl (by decide +kernel) ⟨Nat.le_of_ble_eq_true rfl, Nat.le_of_ble_eq_true rfl⟩) ⟨fun a U f mk q => ⟨q.1, XI.blind f mk a q.2⟩, va_recv hK hP (ci := 3) (q0 := k_21) rfl hk_21, fun U hU hW => ⟨rfl, hI.at hS hP hU hW⟩⟩ rfl rfl hl.1 rfl (lv_room (Nat.le_of_ble_eq_true rfl)) dX4_add_21 ⟨Nat.zero_le _, Nat.zero_le _⟩) hS (fun q _ h => h) (fun q h => h) (fun u_21 t_21 H locs ht_21 _ hw_21 hB_21 _ _ hS => ?_)
    obtain ⟨g_21, gl_21, tf_21⟩ := u_21
    have hP : va_P (zD Z) vwCl (xw Z g_21 gl_21 tf_21) H := ht_21 ▸ hB_21
    obtain ⟨hf_21, hG, et_21, eg_21⟩ := hw_21
    have hF := hF.tr hf_21 (by decide)
    dsimp only at hf_21 hG hF et_21 eg_21
    subst et_21
    subst eg_21
    refine lv_aload_n hx hb dX4_add_24 rfl (lv_at hl 0 rfl) ?_
    refine lv_dup hx hb dX4_add_25 rfl ?_
    refine va_get (D := zD Z) (ci := 4) (v := .int (g 17 1)) (C := RX4) (T := TX4) (N := 2) hx hb hT inlX4 hown hK hP 17 xw_17 rfl 1 (by decide) (hT _ (tr_14 _ (List.mem_of_getElem? (i := 12) rfl))) (fun _ h9 => h9) rfl dX4_add_26 ?_
    refine lv_iconst (v := 1) hx hb dX4_add_29 (by decide) ?_
    refine lv_iadd hx hb dX4_add_30 ?_
    refine lv_topi (fun v_30 e_30 => ?_)
    refine va_put (D := zD Z) (ci := 4) (v := .int v_30) (ty := .int) (C := RX4) (T := TX4) (N := 2) hx hb hT inlX4 tyX4 tyX4_ok nmX4 hown hK hP hZ.D hS 17 xw_17 rfl 1 (by decide) (hT _ (tr_14 _ (List.mem_of_getElem? (i := 12) rfl))) (fun _ h9 => h9) rfl (by decide +kernel) rfl rfl (Nat.le_of_ble_eq_true rfl) dX4_add_31 (fun H locs hP _ hS => ?_)
    replace hP := xf_17_1 hP
    have hF := hF.u2 (i := 17) (k := 1) (v := v_30) (by decide)
    exact W.vret hx hb hr (fun t ht hW => ⟨⟨((up2 g 17 1 v_30), gl_21, (wrT tf (ko Z (g 17 1).toInt.toNat) (tf a 0) (tf a 1) (tf a 2) (tf a 3) (tf a 4))), rfl, ⟨hF, hG, rfl, (by rw [e_30])⟩, by show va_P (zD Z) vwCl (xw Z (up2 g 17 1 v_30) gl_21 (wrT tf (ko Z (g 17 1).toInt.toNat) (tf a 0) (tf a 1) (tf a 2) (tf a 3) (tf a 4))) t.heap; rw [ht]; exact hP⟩, hS.F ht⟩) hS.2.2 dX4_add_34
set_option maxHeartbeats 4000000 in
set_option maxRecDepth 100000 in
theorem c_X4_copyFrom (l : Launch) (Z : ZT) (hZ : XG Z) (g : Nat → Nat → Int32) (gl : Nat → Nat → Int64) (tf : Nat → Nat → Int32) (hnn : 0 ≤ (g 3 1).toInt ∧ (g 3 1).toInt ≤ 40) (hG : Gd Z tf) : Met l yX4_copyFrom (Cond.code yX4_copyFrom cX4_copyFrom 3 none :: wsL_law) ({ frames := 3, cells := 0, slots := 0, locals := 67 } : Room) (va_Pc [.ref (za Z 17), .ref (za Z 3)] (XI Z g gl tf)) (va_Qv (fun (u : (Nat → Nat → Int32) × (Nat → Nat → Int64) × (Nat → Nat → Int32)) => Fr [17] g u.1 ∧ Gd Z u.2.2 ∧ (u.1 17 1 = g 3 1 ∧ (∀ t : Nat, (t : Int) < (g 3 1).toInt → ∀ k, k < 5 → u.2.2 (ko Z t) k = tf (ro Z t) k) ∧ (∀ b, (∀ t, t < 40 → b ≠ ko Z t) → u.2.2 b = tf b))) (fun u t => va_P (zD Z) vwCl (xw Z u.1 u.2.1 u.2.2) t.heap) (zA Z)) 0 0 (zA Z) := by
  refine Met.ofW (cc := cX4_copyFrom) (maxL := 3) (ret := none) (by decide) rfl ?_
  intro p e s m args below meth c s₁ B hml hv
  obtain ⟨rfl, hI⟩ := hv
  have hx := B.exec
  have hb := B.bytes
  have hr := B.returns
  have hT : ∀ w ∈ wsL_law, w.before ([.ref (za Z 17), .ref (za Z 3)] : List Value).toArray s = true := fun w h => atoms_spec (ws := (Cond.code yX4_copyFrom cX4_copyFrom 3 none :: wsL_law)) B.pre w (List.mem_cons_of_mem _ h)
  have hown : s.vm.findClass RX4 = some m.cls := findClass_of_methodNamed B.named
  have hlocks := B.notSynchronized
  have hK := hI.2.1
  have hP := hI.1
  have hS : va_S (zA Z) s.heap s.heap [] := va_S.rf
  have hF : Fr [17] g g := Fr.rf
  have hl := lv_entry ([.ref (za Z 17), .ref (za Z 3)]) (n := 3) (Nat.le_of_ble_eq_true rfl)
  rw [lg_entry_eq]
  generalize (lg_sl ([.ref (za Z 17), .ref (za Z 3)]) ++ List.replicate (3 - (lg_sl ([.ref (za Z 17), .ref (za Z 3)])).length) Slot.unset).toArray = ls at hl ⊢
  have hl : lv_has ls 3 [(0, .ref (za Z 17)), (1, .ref (za Z 3))] := hl
  have L7 : ∀ (n : Nat) (z2 : Int32) (g1 : Nat → Nat → Int32) (gl1 : Nat → Nat → Int64) (tf1 : Nat → Nat → Int32) (H : Heap) (locs : List Loc) (hP : va_P (zD Z) vwCl (xw Z g1 gl1 tf1) H) (hF : Fr [17] g g1) (hG : Gd Z tf1) (hS : va_S (zA Z) s.heap H locs) (h2 : 0 ≤ z2.toInt ∧ z2.toInt ≤ (g 3 1).toInt) (hz : (g1 17 1).toInt = z2.toInt) (hA : ∀ t : Nat, (t : Int) < z2.toInt → ∀ k, k < 5 → tf1 (ko Z t) k = tf (ro Z t) k) (hB : ∀ b, (∀ t, t < 40 → b ≠ ko Z t) → tf1 b = tf b) (hn : ((g 3 1).toInt - z2.toInt).toNat < n) (ls : Array Slot) (hl : lv_has ls 3 [(0, .ref (za Z 17)), (1, .ref (za Z 3)), (2, .int z2)]), W p l e ({ frames := 3, cells := 0, slots := 0, locals := 67 } : Room) s m ([.ref (za Z 17), .ref (za Z 3)] : List Value).toArray below meth c H locs 0 0 (MQ below (va_Qv (fun (u : (Nat → Nat → Int32) × (Nat → Nat → Int64) × (Nat → Nat → Int32)) => Fr [17] g u.1 ∧ Gd Z u.2.2 ∧ (u.1 17 1 = g 3 1 ∧ (∀ t : Nat, (t : Int) < (g 3 1).toInt → ∀ k, k < 5 → u.2.2 (ko Z t) k = tf (ro Z t) k) ∧ (∀ b, (∀ t, t < 40 → b ≠ ko Z t) → u.2.2 b = tf b))) (fun u t => va_P (zD Z) vwCl (xw Z u.1 u.2.1 u.2.2) t.heap) (zA Z)) ([.ref (za Z 17), .ref (za Z 3)] : List Value).toArray s 0 0 (zA Z)) (F0 m 7 ls []) := by
    intro n
    induction n with
    | zero => intro z2 g1 gl1 tf1 H locs hP hF hG hS h2 hz hA hB hn; exact absurd hn (Nat.not_lt_zero _)
    | succ n ih7 =>
      intro z2 g1 gl1 tf1 H locs hP hF hG hS h2 hz hA hB hn ls hl
      have q3 : g1 3 = g 3 := hF 3 (by decide)
      have q3i : (g1 3 1).toInt = (g 3 1).toInt := by rw [q3]
      refine lv_iload_n hx hb dX4_copyFrom_7 rfl (lv_at hl 2 rfl) ?_
      refine lv_aload_n hx hb dX4_copyFrom_8 rfl (lv_at hl 1 rfl) ?_
      refine va_get (D := zD Z) (ci := 4) (v := .int (g1 3 1)) (C := RX4) (T := TX4) (N := 2) hx hb hT inlX4 hown hK hP 3 xw_3 rfl 1 (by decide) (hT _ (tr_14 _ (List.mem_of_getElem? (i := 12) rfl))) (fun _ h9 => h9) rfl dX4_copyFrom_9 ?_
      refine lv_icmp_ge (tgt := 30) hx hb dX4_copyFrom_12 (by decide) (fun c_12 => ?_) (fun c_12 => ?_)
      · skip
        have i_12 := ti_lek rfl rfl c_12
        exact W.vret hx hb hr (fun t ht hW => ⟨⟨(g1, gl1, tf1), rfl, ⟨hF, hG, (by (try dsimp only); first | done | exact ⟨by show g1 17 1 = g 3 1; exact Int32.toInt_inj.mp (by omega), fun t ht => hA t (by omega), hB⟩)⟩, by show va_P (zD Z) vwCl (xw Z g1 gl1 tf1) t.heap; rw [ht]; exact hP⟩, hS.F ht⟩) hS.2.2 dX4_copyFrom_30
      · skip
        have i_12 := ti_nlek rfl rfl c_12
        refine lv_aload_n hx hb dX4_copyFrom_15 rfl (lv_at hl 0 rfl) ?_
        refine lv_aload_n hx hb dX4_copyFrom_16 rfl (lv_at hl 1 rfl) ?_
        refine lv_iload_n hx hb dX4_copyFrom_17 rfl (lv_at hl 2 rfl) ?_
        refine rd_cr (va_runV (As := [.int z2]) (rest := [.ref (za Z 17)]) ⟨hx, hb, hml, hown, hT⟩ (c_X4_at_3 l Z hZ g1 gl1 tf1 z2 hG) (cwV 1 hT (tb_V (fun _ h => h) (tr_14 _ (List.mem_of_getElem? (i := 13) rfl)) (tr_14 _ (List.mem_of_getElem? (i := 14) rfl)) (tr_14 _ (List.mem_of_getElem? (i := 15) rfl)) (tr_1 _ (List.mem_of_getElem? (i := 18) rfl)) (tr_14 _ (List.mem_of_getElem? (i := 16) rfl))) rfl rfl rfl (by decide +kernel) ⟨Nat.le_of_ble_eq_true rfl, Nat.le_of_ble_eq_true rfl⟩) ⟨fun a U f mk q => ⟨q.1, XI.blind f mk a q.2⟩, va_recv hK hP (ci := 4) (q0 := 3) rfl xw_3, fun U hU hW => ⟨rfl, hI.at hS hP hU hW⟩⟩ rfl rfl hl.1 rfl (lv_room (Nat.le_of_ble_eq_true rfl)) dX4_copyFrom_18 ⟨Nat.zero_le _, Nat.zero_le _⟩) (fun r_18 hr_18 => ?_)
        have e18 := hr_18.2 z2.toInt.toNat (by omega) (by omega)
        subst e18
        refine va_callv (va_runV (As := [.ref (ro Z z2.toInt.toNat)]) (rest := []) ⟨hx, hb, hml, hown, hT⟩ (c_X4_add_17 l Z hZ g1 gl1 tf1 (ro Z z2.toInt.toNat) hr_18.1 (by first | assumption | omega | decide) hG) (cwV 1 hT (tb_V (fun _ h => h) (tr_35 _ (List.mem_of_getElem? (i := 14) rfl)) (tr_14 _ (List.mem_of_getElem? (i := 9) rfl)) (tr_14 _ (List.mem_of_getElem? (i := 10) rfl)) (tr_1 _ (List.mem_of_getElem? (i := 18) rfl)) (tr_14 _ (List.mem_of_getElem? (i := 11) rfl))) rfl rfl rfl (by decide +kernel) ⟨Nat.le_of_ble_eq_true rfl, Nat.le_of_ble_eq_true rfl⟩) ⟨fun a U f mk q => ⟨q.1, XI.blind f mk a q.2⟩, va_recv hK hP (ci := 4) (q0 := 17) rfl xw_17, fun U hU hW => ⟨rfl, hI.at hS hP hU hW⟩⟩ rfl rfl hl.1 rfl (lv_room (Nat.le_of_ble_eq_true rfl)) dX4_copyFrom_21 ⟨Nat.zero_le _, Nat.zero_le _⟩) hS (fun q _ h => h) (fun q h => h) (fun u_21 t_21 H locs ht_21 _ hw_21 hB_21 _ _ hS => ?_)
        obtain ⟨g_21, gl_21, tf_21⟩ := u_21
        have hP : va_P (zD Z) vwCl (xw Z g_21 gl_21 tf_21) H := ht_21 ▸ hB_21
        obtain ⟨hf_21, hG, et_21, eg_21⟩ := hw_21
        have hF := hF.tr hf_21 (by decide)
        dsimp only at hf_21 hG hF et_21 eg_21
        subst et_21
        subst eg_21
        obtain ⟨v_24, e_24⟩ : ∃ y : Int32, y = z2 + 1 := ⟨_, rfl⟩
        refine lv_iinc (v := v_24) (lv' := [(2, .int v_24), (0, .ref (za Z 17)), (1, .ref (za Z 3))]) hx hb dX4_copyFrom_24 hl (k := 2) rfl (by rw [e_24]; rfl) (by decide) rfl (fun ls hl => ?_)
        have t_24 := ti_addk rfl tk_1 (by omega) (by omega) e_24
        refine lv_goto (tgt := 7) hx hb dX4_copyFrom_27 (by decide) ?_
        exact ih7 v_24 (up2 g1 17 1 (g1 17 1 + 1)) gl_21 (wrT tf1 (ko Z (g1 17 1).toInt.toNat) (tf1 (ro Z z2.toInt.toNat) 0) (tf1 (ro Z z2.toInt.toNat) 1) (tf1 (ro Z z2.toInt.toNat) 2) (tf1 (ro Z z2.toInt.toNat) 3) (tf1 (ro Z z2.toInt.toNat) 4)) _ _ hP hF hG hS (by omega) (by have q := ti_add (x := g1 17 1) (y := 1) (by rw [tk_1]; omega) (by rw [tk_1]; omega); show (g1 17 1 + 1).toInt = _; rw [q, tk_1]; omega) (fun t ht k hk => by rcases Int.lt_or_le (t : Int) z2.toInt with q | q; (rw [wrT_ne (hZ.ki (by omega) (by omega) (by omega))]; exact hA t q k hk); have e2 : z2.toInt.toNat = t := (by omega); rw [show (g1 17 1).toInt.toNat = t by omega, e2, wrT_k k hk]; exact congrFun (hB (ro Z t) (fun j hj => hZ.rk (show t < 70 by omega) hj)) k) (fun b hb => by rw [wrT_ne (hb _ (by omega))]; exact hB b hb) (by omega) ls (lv_sub hl [1, 2, 0] rfl)
  refine lv_aload_n hx hb dX4_copyFrom_0 rfl (lv_at hl 0 rfl) ?_
  refine lv_iconst (v := 0) hx hb dX4_copyFrom_1 (by decide) ?_
  refine va_put (D := zD Z) (ci := 4) (v := .int 0) (ty := .int) (C := RX4) (T := TX4) (N := 2) hx hb hT inlX4 tyX4 tyX4_ok nmX4 hown hK hP hZ.D hS 17 xw_17 rfl 1 (by decide) (hT _ (tr_14 _ (List.mem_of_getElem? (i := 12) rfl))) (fun _ h9 => h9) rfl (by decide +kernel) rfl rfl (Nat.le_of_ble_eq_true rfl) dX4_copyFrom_2 (fun H locs hP _ hS => ?_)
  replace hP := xf_17_1 hP
  have hF := hF.u2 (i := 17) (k := 1) (v := 0) (by decide)
  refine lv_iconst (v := 0) hx hb dX4_copyFrom_5 (by decide) ?_
  refine lv_istore_n (lv' := [(2, .int 0), (0, .ref (za Z 17)), (1, .ref (za Z 3))]) hx hb dX4_copyFrom_6 rfl hl (by decide) rfl (fun ls hl => ?_)
  exact L7 _ 0 (up2 g 17 1 0) gl tf _ _ hP hF hG hS ⟨by decide, by rw [tk_0]; omega⟩ rfl (fun t ht => by rw [tk_0] at ht; omega) (fun _ _ => rfl) (Nat.lt_succ_self _) ls (lv_sub hl [1, 2, 0] rfl)
set_option maxHeartbeats 4000000 in
set_option maxRecDepth 100000 in
theorem c_X4_isBetter (l : Launch) (Z : ZT) (hZ : XG Z) (g : Nat → Nat → Int32) (gl : Nat → Nat → Int64) (tf : Nat → Nat → Int32) (x1 : Int32) (x2 : Int32) (x3 : Int32) (hG : Gd Z tf) : Met l yX4_isBetter (Cond.code yX4_isBetter cX4_isBetter 8 (some .boolean) :: wsL_law) ({ frames := 3, cells := 0, slots := 0, locals := 64 } : Room) (va_Pc [.ref (za Z 3), .int x1, .int x2, .int x3] (XI Z g gl tf)) (rd_Qi (fun r => (r = 1 ∧ ((0 ≤ x3.toInt ∧ x3.toInt ≤ 63) → (0 ≤ x1.toInt ∧ x1.toInt < 70) → (0 ≤ x2.toInt ∧ x2.toInt < 70) → mbt (xr Z tf) x1 x2 x3 = true)) ∨ (r = 0 ∧ ((0 ≤ x3.toInt ∧ x3.toInt ≤ 63) → (0 ≤ x1.toInt ∧ x1.toInt < 70) → (0 ≤ x2.toInt ∧ x2.toInt < 70) → mbt (xr Z tf) x1 x2 x3 = false)))) 0 0 (fun _ => False) := by
  refine Met.ofW (cc := cX4_isBetter) (maxL := 8) (ret := (some .boolean)) (by decide) rfl ?_
  intro p e s m args below meth c s₁ B hml hv
  obtain ⟨rfl, hI⟩ := hv
  have hx := B.exec
  have hb := B.bytes
  have hr := B.returns
  have hT : ∀ w ∈ wsL_law, w.before ([.ref (za Z 3), .int x1, .int x2, .int x3] : List Value).toArray s = true := fun w h => atoms_spec (ws := (Cond.code yX4_isBetter cX4_isBetter 8 (some .boolean) :: wsL_law)) B.pre w (List.mem_cons_of_mem _ h)
  have hown : s.vm.findClass RX4 = some m.cls := findClass_of_methodNamed B.named
  have hlocks := B.notSynchronized
  have hK := hI.2.1
  have hP := hI.1
  have hS : va_S (zA Z) s.heap s.heap [] := va_S.rf
  have hl := lv_entry ([.ref (za Z 3), .int x1, .int x2, .int x3]) (n := 8) (Nat.le_of_ble_eq_true rfl)
  rw [lg_entry_eq]
  generalize (lg_sl ([.ref (za Z 3), .int x1, .int x2, .int x3]) ++ List.replicate (8 - (lg_sl ([.ref (za Z 3), .int x1, .int x2, .int x3])).length) Slot.unset).toArray = ls at hl ⊢
  have hl : lv_has ls 8 [(0, .ref (za Z 3)), (1, .int x1), (2, .int x2), (3, .int x3)] := hl
  refine lv_aload_n hx hb dX4_isBetter_0 rfl (lv_at hl 0 rfl) ?_
  refine lv_iload_n hx hb dX4_isBetter_1 rfl (lv_at hl 1 rfl) ?_
  refine rd_cr (va_runV (As := [.int x1]) (rest := []) ⟨hx, hb, hml, hown, hT⟩ (c_X4_at_3 l Z hZ g gl tf x1 hG) (cwV 1 hT (tb_V (fun _ h => h) (tr_14 _ (List.mem_of_getElem? (i := 13) rfl)) (tr_14 _ (List.mem_of_getElem? (i := 14) rfl)) (tr_14 _ (List.mem_of_getElem? (i := 15) rfl)) (tr_1 _ (List.mem_of_getElem? (i := 18) rfl)) (tr_14 _ (List.mem_of_getElem? (i := 16) rfl))) rfl rfl rfl (by decide +kernel) ⟨Nat.le_of_ble_eq_true rfl, Nat.le_of_ble_eq_true rfl⟩) ⟨fun a U f mk q => ⟨q.1, XI.blind f mk a q.2⟩, va_recv hK hP (ci := 4) (q0 := 3) rfl xw_3, fun U hU hW => ⟨rfl, hI.at hS hP hU hW⟩⟩ rfl rfl hl.1 rfl (lv_room (Nat.le_of_ble_eq_true rfl)) dX4_isBetter_2 ⟨Nat.zero_le _, Nat.zero_le _⟩) (fun r_2 hr_2 => ?_)
  refine lv_iload_n hx hb dX4_isBetter_5 rfl (lv_at hl 3 rfl) ?_
  obtain ⟨k_6, hk_6⟩ := xt_at (g := g) (gl := gl) (tf := tf) hr_2.1
  refine rd_cl (va_runV (As := [.int x3]) (rest := []) ⟨hx, hb, hml, hown, hT⟩ (c_X3_priceFor l Z hZ g gl tf r_2 hr_2.1 x3 hG) (cwV 1 hT (tb_V (fun _ h => h) (tr_16 _ (List.mem_of_getElem? (i := 5) rfl)) (tr_16 _ (List.mem_of_getElem? (i := 6) rfl)) (tr_16 _ (List.mem_of_getElem? (i := 7) rfl)) (tr_2 _ (List.mem_of_getElem? (i := 10) rfl)) (tr_16 _ (List.mem_of_getElem? (i := 8) rfl))) rfl rfl rfl (by decide +kernel) ⟨Nat.le_of_ble_eq_true rfl, Nat.le_of_ble_eq_true rfl⟩) ⟨fun a U f mk q => ⟨q.1, XI.blind f mk a q.2⟩, va_recv hK hP (ci := 3) (q0 := k_6) rfl hk_6, fun U hU hW => ⟨rfl, hI.at hS hP hU hW⟩⟩ rfl rfl hl.1 rfl (lv_room (Nat.le_of_ble_eq_true rfl)) dX4_isBetter_6 ⟨Nat.zero_le _, Nat.zero_le _⟩) (fun r_6 hr_6 => ?_)
  refine lv_lstore (lv' := [(4, .long r_6), (0, .ref (za Z 3)), (1, .int x1), (2, .int x2), (3, .int x3)]) hx hb dX4_isBetter_9 hl (by decide) rfl (fun ls hl => ?_)
  refine lv_aload_n hx hb dX4_isBetter_11 rfl (lv_at hl 1 rfl) ?_
  refine lv_iload_n hx hb dX4_isBetter_12 rfl (lv_at hl 3 rfl) ?_
  refine rd_cr (va_runV (As := [.int x2]) (rest := []) ⟨hx, hb, hml, hown, hT⟩ (c_X4_at_3 l Z hZ g gl tf x2 hG) (cwV 1 hT (tb_V (fun _ h => h) (tr_14 _ (List.mem_of_getElem? (i := 13) rfl)) (tr_14 _ (List.mem_of_getElem? (i := 14) rfl)) (tr_14 _ (List.mem_of_getElem? (i := 15) rfl)) (tr_1 _ (List.mem_of_getElem? (i := 18) rfl)) (tr_14 _ (List.mem_of_getElem? (i := 16) rfl))) rfl rfl rfl (by decide +kernel) ⟨Nat.le_of_ble_eq_true rfl, Nat.le_of_ble_eq_true rfl⟩) ⟨fun a U f mk q => ⟨q.1, XI.blind f mk a q.2⟩, va_recv hK hP (ci := 4) (q0 := 3) rfl xw_3, fun U hU hW => ⟨rfl, hI.at hS hP hU hW⟩⟩ rfl rfl hl.1 rfl (lv_room (Nat.le_of_ble_eq_true rfl)) dX4_isBetter_13 ⟨Nat.zero_le _, Nat.zero_le _⟩) (fun r_13 hr_13 => ?_)
  refine lv_iload_n hx hb dX4_isBetter_16 rfl (lv_at hl 4 rfl) ?_
  obtain ⟨k_17, hk_17⟩ := xt_at (g := g) (gl := gl) (tf := tf) hr_13.1
  refine rd_cl (va_runV (As := [.int x3]) (rest := []) ⟨hx, hb, hml, hown, hT⟩ (c_X3_priceFor l Z hZ g gl tf r_13 hr_13.1 x3 hG) (cwV 1 hT (tb_V (fun _ h => h) (tr_16 _ (List.mem_of_getElem? (i := 5) rfl)) (tr_16 _ (List.mem_of_getElem? (i := 6) rfl)) (tr_16 _ (List.mem_of_getElem? (i := 7) rfl)) (tr_2 _ (List.mem_of_getElem? (i := 10) rfl)) (tr_16 _ (List.mem_of_getElem? (i := 8) rfl))) rfl rfl rfl (by decide +kernel) ⟨Nat.le_of_ble_eq_true rfl, Nat.le_of_ble_eq_true rfl⟩) ⟨fun a U f mk q => ⟨q.1, XI.blind f mk a q.2⟩, va_recv hK hP (ci := 3) (q0 := k_17) rfl hk_17, fun U hU hW => ⟨rfl, hI.at hS hP hU hW⟩⟩ rfl rfl hl.1 rfl (lv_room (Nat.le_of_ble_eq_true rfl)) dX4_isBetter_17 ⟨Nat.zero_le _, Nat.zero_le _⟩) (fun r_17 hr_17 => ?_)
  refine lv_lstore (lv' := [(6, .long r_17), (4, .long r_6), (0, .ref (za Z 3)), (1, .int x1), (2, .int x2), (3, .int x3)]) hx hb dX4_isBetter_20 hl (by decide) rfl (fun ls hl => ?_)
  refine lv_lload hx hb dX4_isBetter_22 (lv_at hl 1 rfl) ?_
  refine lv_lload hx hb dX4_isBetter_24 (lv_at hl 0 rfl) ?_
  refine W.lcmp hx hb dX4_isBetter_26 ?_
  refine lv_topi (fun v_26 e_26 => ?_)
  refine lv_if_lt (tgt := 43) hx hb dX4_isBetter_27 (by decide) (fun c_27 => ?_) (fun c_27 => ?_)
  · skip
    have i_27 := ti_ltk rfl tk_0 c_27
    refine lv_iconst (v := 1) hx hb dX4_isBetter_43 (by decide) ?_
    refine lv_goto (tgt := 48) hx hb dX4_isBetter_44 (by decide) ?_
    exact W.zret (v := 1) (ty := .boolean) hx hb hr rfl (fun t ht hW => ⟨1, rfl, Or.inl ⟨rfl, (fun q w1 w2 => by have p1 : mpr (xr Z tf) x1.toNatClampNeg x3 = r_6 := (by rw [xr_p, hr_6 q, hr_2.2 x1.toInt.toNat (by omega) (by omega)] <;> rfl); have p2 : mpr (xr Z tf) x2.toNatClampNeg x3 = r_17 := (by rw [xr_p, hr_17 q, hr_13.2 x2.toInt.toNat (by omega) (by omega)] <;> rfl); first | exact mbt_2 (by rw [p1, p2]; exact (lg_cmp_eq _ _).mp (by rw [← e_34]; exact c_35)) (Int32.not_le.mp c_40) | exact mbt_1 (by rw [p1, p2]; exact (lg_cmp_lt _ _).mp (by rw [← e_26]; exact c_27)))⟩, ht⟩) (fun q hq => by cases hq) dX4_isBetter_48
  · skip
    have i_27 := ti_nltk rfl tk_0 c_27
    refine lv_lload hx hb dX4_isBetter_30 (lv_at hl 1 rfl) ?_
    refine lv_lload hx hb dX4_isBetter_32 (lv_at hl 0 rfl) ?_
    refine W.lcmp hx hb dX4_isBetter_34 ?_
    refine lv_topi (fun v_34 e_34 => ?_)
    refine lv_if_ne (tgt := 47) hx hb dX4_isBetter_35 (by decide) (fun c_35 => ?_) (fun c_35 => ?_)
    · skip
      have i_35 := ti_nek rfl tk_0 c_35
      refine lv_iconst (v := 0) hx hb dX4_isBetter_47 (by decide) ?_
      exact W.zret (v := 0) (ty := .boolean) hx hb hr rfl (fun t ht hW => ⟨0, rfl, Or.inr ⟨rfl, (fun q w1 w2 => by have p1 : mpr (xr Z tf) x1.toNatClampNeg x3 = r_6 := (by rw [xr_p, hr_6 q, hr_2.2 x1.toInt.toNat (by omega) (by omega)] <;> rfl); have p2 : mpr (xr Z tf) x2.toNatClampNeg x3 = r_17 := (by rw [xr_p, hr_17 q, hr_13.2 x2.toInt.toNat (by omega) (by omega)] <;> rfl); first | exact mbt_4 (by rw [p1, p2]; exact fun h => c_27 (by rw [e_26]; exact (lg_cmp_lt _ _).mpr h)) (fun h => absurd h (Int32.not_lt.mpr c_40)) | exact mbt_3 (by rw [p1, p2]; exact fun h => c_27 (by rw [e_26]; exact (lg_cmp_lt _ _).mpr h)) (by rw [p1, p2]; exact fun h => c_35 (by rw [e_34]; exact (lg_cmp_eq _ _).mpr h)))⟩, ht⟩) (fun q hq => by cases hq) dX4_isBetter_48
    · skip
      have i_35 := ti_eqk rfl tk_0 c_35
      refine lv_iload_n hx hb dX4_isBetter_38 rfl (lv_at hl 3 rfl) ?_
      refine lv_iload_n hx hb dX4_isBetter_39 rfl (lv_at hl 4 rfl) ?_
      refine lv_icmp_ge (tgt := 47) hx hb dX4_isBetter_40 (by decide) (fun c_40 => ?_) (fun c_40 => ?_)
      · skip
        have i_40 := ti_lek rfl rfl c_40
        refine lv_iconst (v := 0) hx hb dX4_isBetter_47 (by decide) ?_
        exact W.zret (v := 0) (ty := .boolean) hx hb hr rfl (fun t ht hW => ⟨0, rfl, Or.inr ⟨rfl, (fun q w1 w2 => by have p1 : mpr (xr Z tf) x1.toNatClampNeg x3 = r_6 := (by rw [xr_p, hr_6 q, hr_2.2 x1.toInt.toNat (by omega) (by omega)] <;> rfl); have p2 : mpr (xr Z tf) x2.toNatClampNeg x3 = r_17 := (by rw [xr_p, hr_17 q, hr_13.2 x2.toInt.toNat (by omega) (by omega)] <;> rfl); first | exact mbt_4 (by rw [p1, p2]; exact fun h => c_27 (by rw [e_26]; exact (lg_cmp_lt _ _).mpr h)) (fun h => absurd h (Int32.not_lt.mpr c_40)) | exact mbt_3 (by rw [p1, p2]; exact fun h => c_27 (by rw [e_26]; exact (lg_cmp_lt _ _).mpr h)) (by rw [p1, p2]; exact fun h => c_35 (by rw [e_34]; exact (lg_cmp_eq _ _).mpr h)))⟩, ht⟩) (fun q hq => by cases hq) dX4_isBetter_48
      · skip
        have i_40 := ti_nlek rfl rfl c_40
        refine lv_iconst (v := 1) hx hb dX4_isBetter_43 (by decide) ?_
        refine lv_goto (tgt := 48) hx hb dX4_isBetter_44 (by decide) ?_
        exact W.zret (v := 1) (ty := .boolean) hx hb hr rfl (fun t ht hW => ⟨1, rfl, Or.inl ⟨rfl, (fun q w1 w2 => by have p1 : mpr (xr Z tf) x1.toNatClampNeg x3 = r_6 := (by rw [xr_p, hr_6 q, hr_2.2 x1.toInt.toNat (by omega) (by omega)] <;> rfl); have p2 : mpr (xr Z tf) x2.toNatClampNeg x3 = r_17 := (by rw [xr_p, hr_17 q, hr_13.2 x2.toInt.toNat (by omega) (by omega)] <;> rfl); first | exact mbt_2 (by rw [p1, p2]; exact (lg_cmp_eq _ _).mp (by rw [← e_34]; exact c_35)) (Int32.not_le.mp c_40) | exact mbt_1 (by rw [p1, p2]; exact (lg_cmp_lt _ _).mp (by rw [← e_26]; exact c_27)))⟩, ht⟩) (fun q hq => by cases hq) dX4_isBetter_48
