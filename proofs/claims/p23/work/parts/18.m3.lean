theorem la_m (x : Int64) : x &&& 2147483647 = lN (x.toBitVec.toNat % 2 ^ 31) := by
  apply Int64.toBitVec_inj.mp
  apply BitVec.eq_of_toNat_eq
  rw [Int64.toBitVec_and, BitVec.toNat_and, show (2147483647 : Int64).toBitVec.toNat = 2 ^ 31 - 1 by decide, Nat.and_two_pow_sub_one_eq_mod]
  show _ = (BitVec.ofNat 64 _).toNat
  rw [BitVec.toNat_ofNat]
  exact (Nat.mod_eq_of_lt (Nat.lt_of_le_of_lt (Nat.mod_le _ _) x.toBitVec.isLt)).symm
theorem m_draw (s : Int64) (d : Int32) (hd : 1 ≤ d.toInt) {w q : Int64} {v : Int32} (hw : w = (s &&& 2147483647) / 65536) (hq : q = w - w / d.toInt64 * d.toInt64) (hv : v = q.toInt32) : 0 ≤ v.toInt ∧ v.toInt < d.toInt := by
  obtain ⟨j, hj, rfl⟩ := nI_of (x := d) (by rw [Int32.lt_iff_toInt_lt]; show ¬ d.toInt < 0; omega)
  rw [nI_toInt hj] at hd
  have h1 : s.toBitVec.toNat % 2 ^ 31 < 2 ^ 31 := Nat.mod_lt _ (by decide)
  rw [la_m, show (65536 : Int64) = lN 65536 from rfl, pk_lDiv (by omega) (by decide) (by decide)] at hw
  rw [nI_l hj, hw, pk_lRem (by omega) (by omega) (by omega)] at hq
  have h3 := Nat.mod_lt (s.toBitVec.toNat % 2 ^ 31 / 65536) (show 0 < j by omega)
  rw [hv, hq, lN_i, nI_toInt (by omega), nI_toInt hj]; omega
theorem l_ne {x : Int32} {v : Int64} (e : v = x.toInt64) (h : 1 ≤ x.toInt) : ¬ v = 0 := by
  intro z
  obtain ⟨j, hj, rfl⟩ := nI_of (x := x) (by rw [Int32.lt_iff_toInt_lt]; show ¬ x.toInt < 0; omega)
  rw [nI_toInt hj] at h
  rw [e, nI_l hj, show (0 : Int64) = lN 0 from rfl, pk_lEQ (by omega) (by decide)] at z
  omega
/-- a piece begins at q -/
def mfp (g : Nat → Nat → Int32) (q : Int32) : Bool := !(decide (mch g q = -1)) && (decide (q = 0) || !(decide (mch g (q - 1) = mch g q)))
theorem mfp_y {g : Nat → Nat → Int32} {q : Int32} (h : ¬ mch g q = -1) (h2 : q = 0 ∨ ¬ mch g (q - 1) = mch g q) : mfp g q = true := by
  simp only [mfp, Bool.and_eq_true, Bool.or_eq_true, Bool.not_eq_true', decide_eq_false_iff_not, decide_eq_true_eq]
  exact ⟨h, h2⟩
theorem mfp_n {g : Nat → Nat → Int32} {q : Int32} (h : mch g q = -1) : mfp g q = false := by simp [mfp, h]
theorem mfp_m {g : Nat → Nat → Int32} {q : Int32} (h : ¬ q = 0) (h2 : mch g (q - 1) = mch g q) : mfp g q = false := by simp [mfp, h, h2]
def mcnt (g : Nat → Nat → Int32) : Nat → Nat
  | 0 => 0
  | n + 1 => mcnt g n + (if mfp g (nI n) = true then 1 else 0)
theorem mcnt_y {g : Nat → Nat → Int32} {n : Nat} (h : mfp g (nI n) = true) : mcnt g (n + 1) = mcnt g n + 1 := by rw [mcnt, if_pos h]
theorem mcnt_n {g : Nat → Nat → Int32} {n : Nat} (h : mfp g (nI n) = false) : mcnt g (n + 1) = mcnt g n := by rw [mcnt, if_neg (by rw [h]; decide)]; rfl
theorem mcnt_le (g : Nat → Nat → Int32) : ∀ n, mcnt g n ≤ n
  | 0 => Nat.le_refl 0
  | n + 1 => by
    have h := mcnt_le g n
    rw [mcnt]; split <;> omega
theorem dfc_le (S S2 : Nat → Int32) : ∀ n, dfc S S2 n ≤ n
  | 0 => Nat.le_refl 0
  | n + 1 => by have h := dfc_le S S2 n; rw [dfc]; split <;> omega
set_option maxHeartbeats 4000000 in
set_option maxRecDepth 100000 in
theorem c_X7_isTariff (l : Launch) (Z : YT) (hZ : MG Z) (g : Nat → Nat → Int32) (gl : Nat → Nat → Int64) (x1 : Int32) (hJ : MJ g) : Met l yX7_isTariff (Cond.code yX7_isTariff cX7_isTariff 2 (some .boolean) :: wsL_law) ({ frames := 1, cells := 0, slots := 0, locals := 22 } : Room) (va_Pc [.ref (ya Z 0), .int x1] (MI Z g gl)) (rd_Qi (fun r => (r = 1 ∧ (0 ≤ x1.toInt ∧ x1.toInt < (g 31 0).toInt)) ∨ (r = 0 ∧ ¬ (0 ≤ x1.toInt ∧ x1.toInt < (g 31 0).toInt)))) 0 0 (fun _ => False) := by
  refine Met.ofW (cc := cX7_isTariff) (maxL := 2) (ret := (some .boolean)) (by decide) rfl ?_
  intro p e s m args below meth c s₁ B hml hv
  obtain ⟨rfl, hI⟩ := hv
  have hx := B.exec
  have hb := B.bytes
  have hr := B.returns
  have hT : ∀ w ∈ wsL_law, w.before ([.ref (ya Z 0), .int x1] : List Value).toArray s = true := fun w h => atoms_spec (ws := (Cond.code yX7_isTariff cX7_isTariff 2 (some .boolean) :: wsL_law)) B.pre w (List.mem_cons_of_mem _ h)
  have hown : s.vm.findClass RX7 = some m.cls := findClass_of_methodNamed B.named
  have hlocks := B.notSynchronized
  have hK := hI.2
  have hP := hI.1
  have hS : va_S (yA Z) s.heap s.heap [] := va_S.rf
  have j31 := hJ.j31
  have hl := lv_entry ([.ref (ya Z 0), .int x1]) (n := 2) (Nat.le_of_ble_eq_true rfl)
  rw [lg_entry_eq]
  generalize (lg_sl ([.ref (ya Z 0), .int x1]) ++ List.replicate (2 - (lg_sl ([.ref (ya Z 0), .int x1])).length) Slot.unset).toArray = ls at hl ⊢
  have hl : lv_has ls 2 [(0, .ref (ya Z 0)), (1, .int x1)] := hl
  refine lv_iload_n hx hb dX7_isTariff_0 rfl (lv_at hl 1 rfl) ?_
  refine lv_iconst (v := 0) hx hb dX7_isTariff_1 (by decide) ?_
  refine lv_aload_n hx hb dX7_isTariff_2 rfl (lv_at hl 0 rfl) ?_
  refine va_get (D := yD Z) (ci := 7) (v := .int (g 31 0)) (C := RX7) (T := TX7) (N := 31) hx hb hT inlX7 hown hK hP 0 mw_0 rfl 1 (by decide) (hT _ (tr_17 _ (List.mem_of_getElem? (i := 14) rfl))) (fun _ h9 => h9) rfl dX7_isTariff_3 ?_
  refine lv_iconst (v := 1) hx hb dX7_isTariff_6 (by decide) ?_
  refine lv_isub hx hb dX7_isTariff_7 ?_
  refine lv_topi (fun v_7 e_7 => ?_)
  have t_7 := ti_subk rfl tk_1 (by omega) (by omega) e_7
  refine rd_ci (va_runS (As := [.int x1, .int 0, .int v_7]) (rest := []) ⟨hx, hb, hml, hown, hT⟩ (c_X7_within l x1 0 v_7) (va_cwS 3 hT (tb_S (fun _ h => h) (tr_6 _ (List.mem_of_getElem? (i := 0) rfl)) (tr_6 _ (List.mem_of_getElem? (i := 1) rfl)) (tr_1 _ (List.mem_of_getElem? (i := 5) rfl)) (tr_6 _ (List.mem_of_getElem? (i := 2) rfl))) rfl rfl rfl (by decide +kernel) ⟨Nat.le_of_ble_eq_true rfl, Nat.le_of_ble_eq_true rfl⟩) ⟨fun _ _ _ _ q => q, fun U hU hW => ⟨rfl, trivial⟩⟩ rfl rfl hl.1 rfl (lv_room (Nat.le_of_ble_eq_true rfl)) dX7_isTariff_8 ⟨Nat.zero_le _, Nat.zero_le _⟩) (fun r_8 hr_8 => ?_)
  rcases hr_8 with ⟨rfl, b_8⟩ | ⟨rfl, b_8⟩
  · skip
    (try simp only [tk_0] at b_8)
    exact W.zret (v := 1) (ty := .boolean) hx hb hr rfl (fun t ht hW => ⟨1, rfl, Or.inl ⟨rfl, (by first | assumption | omega | decide)⟩, ht⟩) (fun q hq => by cases hq) dX7_isTariff_11
  · skip
    (try simp only [tk_0] at b_8)
    exact W.zret (v := 0) (ty := .boolean) hx hb hr rfl (fun t ht hW => ⟨0, rfl, Or.inr ⟨rfl, (by first | assumption | omega | decide)⟩, ht⟩) (fun q hq => by cases hq) dX7_isTariff_11
set_option maxHeartbeats 4000000 in
set_option maxRecDepth 100000 in
theorem c_X7_isQuantity (l : Launch) (x1 : Int32) : Met l yX7_isQuantity (Cond.code yX7_isQuantity cX7_isQuantity 1 (some .boolean) :: wsL_law) ({ frames := 1, cells := 0, slots := 0, locals := 22 } : Room) (va_Pc [.int x1] (fun _ => True)) (rd_Qi (fun r => (r = 1 ∧ (0 ≤ x1.toInt ∧ x1.toInt ≤ 63)) ∨ (r = 0 ∧ ¬ (0 ≤ x1.toInt ∧ x1.toInt ≤ 63)))) 0 0 (fun _ => False) := by
  refine Met.ofW (cc := cX7_isQuantity) (maxL := 1) (ret := (some .boolean)) (by decide) rfl ?_
  intro p e s m args below meth c s₁ B hml hv
  obtain ⟨rfl, hI⟩ := hv
  have hx := B.exec
  have hb := B.bytes
  have hr := B.returns
  have hT : ∀ w ∈ wsL_law, w.before ([.int x1] : List Value).toArray s = true := fun w h => atoms_spec (ws := (Cond.code yX7_isQuantity cX7_isQuantity 1 (some .boolean) :: wsL_law)) B.pre w (List.mem_cons_of_mem _ h)
  have hown : s.vm.findClass RX7 = some m.cls := findClass_of_methodNamed B.named
  have hlocks := B.notSynchronized
  have hl := lv_entry ([.int x1]) (n := 1) (Nat.le_of_ble_eq_true rfl)
  rw [lg_entry_eq]
  generalize (lg_sl ([.int x1]) ++ List.replicate (1 - (lg_sl ([.int x1])).length) Slot.unset).toArray = ls at hl ⊢
  have hl : lv_has ls 1 [(0, .int x1)] := hl
  refine lv_iload_n hx hb dX7_isQuantity_0 rfl (lv_at hl 0 rfl) ?_
  refine lv_iconst (v := 0) hx hb dX7_isQuantity_1 (by decide) ?_
  refine lv_bipush (v := 63) hx hb dX7_isQuantity_2 (by decide) ?_
  refine rd_ci (va_runS (As := [.int x1, .int 0, .int 63]) (rest := []) ⟨hx, hb, hml, hown, hT⟩ (c_X7_within l x1 0 63) (va_cwS 3 hT (tb_S (fun _ h => h) (tr_6 _ (List.mem_of_getElem? (i := 0) rfl)) (tr_6 _ (List.mem_of_getElem? (i := 1) rfl)) (tr_1 _ (List.mem_of_getElem? (i := 5) rfl)) (tr_6 _ (List.mem_of_getElem? (i := 2) rfl))) rfl rfl rfl (by decide +kernel) ⟨Nat.le_of_ble_eq_true rfl, Nat.le_of_ble_eq_true rfl⟩) ⟨fun _ _ _ _ q => q, fun U hU hW => ⟨rfl, trivial⟩⟩ rfl rfl hl.1 rfl (lv_room (Nat.le_of_ble_eq_true rfl)) dX7_isQuantity_4 ⟨Nat.zero_le _, Nat.zero_le _⟩) (fun r_4 hr_4 => ?_)
  rcases hr_4 with ⟨rfl, b_4⟩ | ⟨rfl, b_4⟩
  · skip
    (try simp only [tk_0, tk_63] at b_4)
    exact W.zret (v := 1) (ty := .boolean) hx hb hr rfl (fun t ht hW => ⟨1, rfl, Or.inl ⟨rfl, (by first | assumption | omega | decide)⟩, ht⟩) (fun q hq => by cases hq) dX7_isQuantity_7
  · skip
    (try simp only [tk_0, tk_63] at b_4)
    exact W.zret (v := 0) (ty := .boolean) hx hb hr rfl (fun t ht hW => ⟨0, rfl, Or.inr ⟨rfl, (by first | assumption | omega | decide)⟩, ht⟩) (fun q hq => by cases hq) dX7_isQuantity_7
set_option maxHeartbeats 4000000 in
set_option maxRecDepth 100000 in
theorem c_X7_asKind (l : Launch) (Z : YT) (hZ : MG Z) (g : Nat → Nat → Int32) (gl : Nat → Nat → Int64) (x1 : Int32) (x2 : Int32) (x3 : Int32) (ht : 0 ≤ x1.toInt ∧ x1.toInt < 70) (hJ : MJ g) : Met l yX7_asKind (Cond.code yX7_asKind cX7_asKind 4 (some .long) :: wsL_law) ({ frames := 2, cells := 0, slots := 0, locals := 46 } : Room) (va_Pc [.ref (ya Z 0), .int x1, .int x2, .int x3] (MI Z g gl)) (rd_Ql (fun r => r = mpF x2 (g 2 x1.toInt.toNat) (g 3 x1.toInt.toNat) (g 4 x1.toInt.toNat) x3)) 0 0 (fun _ => False) := by
  refine Met.ofW (cc := cX7_asKind) (maxL := 4) (ret := (some .long)) (by decide) rfl ?_
  intro p e s m args below meth c s₁ B hml hv
  obtain ⟨rfl, hI⟩ := hv
  have hx := B.exec
  have hb := B.bytes
  have hr := B.returns
  have hT : ∀ w ∈ wsL_law, w.before ([.ref (ya Z 0), .int x1, .int x2, .int x3] : List Value).toArray s = true := fun w h => atoms_spec (ws := (Cond.code yX7_asKind cX7_asKind 4 (some .long) :: wsL_law)) B.pre w (List.mem_cons_of_mem _ h)
  have hown : s.vm.findClass RX7 = some m.cls := findClass_of_methodNamed B.named
  have hlocks := B.notSynchronized
  have hK := hI.2
  have hP := hI.1
  have hS : va_S (yA Z) s.heap s.heap [] := va_S.rf
  have hl := lv_entry ([.ref (ya Z 0), .int x1, .int x2, .int x3]) (n := 4) (Nat.le_of_ble_eq_true rfl)
  rw [lg_entry_eq]
  generalize (lg_sl ([.ref (ya Z 0), .int x1, .int x2, .int x3]) ++ List.replicate (4 - (lg_sl ([.ref (ya Z 0), .int x1, .int x2, .int x3])).length) Slot.unset).toArray = ls at hl ⊢
  have hl : lv_has ls 4 [(0, .ref (ya Z 0)), (1, .int x1), (2, .int x2), (3, .int x3)] := hl
  refine lv_iload_n hx hb dX7_asKind_0 rfl (lv_at hl 2 rfl) ?_
  refine lv_aload_n hx hb dX7_asKind_1 rfl (lv_at hl 0 rfl) ?_
  refine va_get (D := yD Z) (ci := 7) (v := .ref (ya Z 2)) (C := RX7) (T := TX7) (N := 31) hx hb hT inlX7 hown hK hP 0 mw_0 rfl 3 (by decide) (hT _ (tr_4 _ (List.mem_of_getElem? (i := 14) rfl))) (fun _ h9 => h9) rfl dX7_asKind_2 ?_
  refine lv_iload_n hx hb dX7_asKind_5 rfl (lv_at hl 1 rfl) ?_
  have h_6 : vp_in x1 70 := (ti_vp (by omega) (by omega))
  refine va_iald hx hb hK hP 2 1 mw_2 rfl h_6 dX7_asKind_6 ?_
  refine lv_topi (fun v_6 e_6 => ?_)
  refine lv_aload_n hx hb dX7_asKind_7 rfl (lv_at hl 0 rfl) ?_
  refine va_get (D := yD Z) (ci := 7) (v := .ref (ya Z 3)) (C := RX7) (T := TX7) (N := 31) hx hb hT inlX7 hown hK hP 0 mw_0 rfl 4 (by decide) (hT _ (tr_4 _ (List.mem_of_getElem? (i := 15) rfl))) (fun _ h9 => h9) rfl dX7_asKind_8 ?_
  refine lv_iload_n hx hb dX7_asKind_11 rfl (lv_at hl 1 rfl) ?_
  have h_12 : vp_in x1 70 := (ti_vp (by omega) (by omega))
  refine va_iald hx hb hK hP 3 1 mw_3 rfl h_12 dX7_asKind_12 ?_
  refine lv_topi (fun v_12 e_12 => ?_)
  refine lv_aload_n hx hb dX7_asKind_13 rfl (lv_at hl 0 rfl) ?_
  refine va_get (D := yD Z) (ci := 7) (v := .ref (ya Z 4)) (C := RX7) (T := TX7) (N := 31) hx hb hT inlX7 hown hK hP 0 mw_0 rfl 5 (by decide) (hT _ (tr_4 _ (List.mem_of_getElem? (i := 16) rfl))) (fun _ h9 => h9) rfl dX7_asKind_14 ?_
  refine lv_iload_n hx hb dX7_asKind_17 rfl (lv_at hl 1 rfl) ?_
  have h_18 : vp_in x1 70 := (ti_vp (by omega) (by omega))
  refine va_iald hx hb hK hP 4 1 mw_4 rfl h_18 dX7_asKind_18 ?_
  refine lv_topi (fun v_18 e_18 => ?_)
  refine lv_iload_n hx hb dX7_asKind_19 rfl (lv_at hl 3 rfl) ?_
  refine rd_cl (va_runS (As := [.int x2, .int v_6, .int v_12, .int v_18, .int x3]) (rest := []) ⟨hx, hb, hml, hown, hT⟩ (c_X7_priceBy l x2 v_6 v_12 v_18 x3) (va_cwS 5 hT (tb_S (fun _ h => h) (tr_19 _ (List.mem_of_getElem? (i := 9) rfl)) (tr_19 _ (List.mem_of_getElem? (i := 10) rfl)) (tr_1 _ (List.mem_of_getElem? (i := 5) rfl)) (tr_19 _ (List.mem_of_getElem? (i := 11) rfl))) rfl rfl rfl (by decide +kernel) ⟨Nat.le_of_ble_eq_true rfl, Nat.le_of_ble_eq_true rfl⟩) ⟨fun _ _ _ _ q => q, fun U hU hW => ⟨rfl, trivial⟩⟩ rfl rfl hl.1 rfl (lv_room (Nat.le_of_ble_eq_true rfl)) dX7_asKind_20 ⟨Nat.zero_le _, Nat.zero_le _⟩) (fun r_20 hr_20 => ?_)
  exact W.lret (v := r_20) hx hb hr (fun t ht hW => ⟨r_20, rfl, (by (try dsimp only); rw [hr_20, e_6, e_12, e_18]; rfl), ht⟩) (fun q hq => by cases hq) dX7_asKind_23
set_option maxHeartbeats 4000000 in
set_option maxRecDepth 100000 in
theorem c_X7_sortsOf (l : Launch) (Z : YT) (hZ : MG Z) (g : Nat → Nat → Int32) (gl : Nat → Nat → Int64) (x1 : Int32) (ht : 0 ≤ x1.toInt ∧ x1.toInt < 70) (hJ : MJ g) : Met l yX7_sortsOf (Cond.code yX7_sortsOf cX7_sortsOf 6 (some .int) :: wsL_law) ({ frames := 3, cells := 0, slots := 0, locals := 69 } : Room) (va_Pc [.ref (ya Z 0), .int x1] (MI Z g gl)) (rd_Qi (fun r => r = (srF g (g 7) (g 8) (g 9) (g 38 0).toInt.toNat x1.toInt.toNat))) 0 0 (fun _ => False) := by
  refine Met.ofW (cc := cX7_sortsOf) (maxL := 6) (ret := (some .int)) (by decide) rfl ?_
  intro p e s m args below meth c s₁ B hml hv
  obtain ⟨rfl, hI⟩ := hv
  have hx := B.exec
  have hb := B.bytes
  have hr := B.returns
  have hT : ∀ w ∈ wsL_law, w.before ([.ref (ya Z 0), .int x1] : List Value).toArray s = true := fun w h => atoms_spec (ws := (Cond.code yX7_sortsOf cX7_sortsOf 6 (some .int) :: wsL_law)) B.pre w (List.mem_cons_of_mem _ h)
  have hown : s.vm.findClass RX7 = some m.cls := findClass_of_methodNamed B.named
  have hlocks := B.notSynchronized
  have hK := hI.2
  have hP := hI.1
  have hS : va_S (yA Z) s.heap s.heap [] := va_S.rf
  have j38 := hJ.j38
  have hx1 : nI x1.toInt.toNat = x1 := nI_toN ht.1
  have hl := lv_entry ([.ref (ya Z 0), .int x1]) (n := 6) (Nat.le_of_ble_eq_true rfl)
  rw [lg_entry_eq]
  generalize (lg_sl ([.ref (ya Z 0), .int x1]) ++ List.replicate (6 - (lg_sl ([.ref (ya Z 0), .int x1])).length) Slot.unset).toArray = ls at hl ⊢
  have hl : lv_has ls 6 [(0, .ref (ya Z 0)), (1, .int x1)] := hl
  have L4 : ∀ (n : Nat) (z2 : Int32) (z3 : Int32)  (h3 : 0 ≤ z3.toInt ∧ z3.toInt ≤ 5) (hA : z2 = sbF (fun k => okK (snB g (g 7) (g 8) (g 9) x1.toInt.toNat (nI k)) (g 38 0).toInt.toNat) z3.toInt.toNat) (hn : (5 - z3.toInt).toNat < n) (ls : Array Slot) (hl : lv_has ls 6 [(0, .ref (ya Z 0)), (1, .int x1), (2, .int z2), (3, .int z3)]), W p l e ({ frames := 3, cells := 0, slots := 0, locals := 69 } : Room) s m ([.ref (ya Z 0), .int x1] : List Value).toArray below meth c s.heap [] 0 0 (MQ below (rd_Qi (fun r => r = (srF g (g 7) (g 8) (g 9) (g 38 0).toInt.toNat x1.toInt.toNat))) ([.ref (ya Z 0), .int x1] : List Value).toArray s 0 0 (fun _ => False)) (F0 m 4 ls []) := by
    intro n
    induction n with
    | zero => intro z2 z3 h3 hA hn; exact absurd hn (Nat.not_lt_zero _)
    | succ n ih4 =>
      intro z2 z3 h3 hA hn ls hl
      have L15 : ∀ (n : Nat) (z4 : Int32) (z5 : Int32)  (h5 : 0 ≤ z5.toInt ∧ z5.toInt ≤ (g 38 0).toInt) (h34 : 0 ≤ z3.toInt ∧ z3.toInt ≤ 4) (hz3 : z3 = nI z3.toInt.toNat) (h4 : (z4 = 1 ∧ okK (snB g (g 7) (g 8) (g 9) x1.toInt.toNat z3) z5.toInt.toNat = true) ∨ (z4 = 0 ∧ okK (snB g (g 7) (g 8) (g 9) x1.toInt.toNat z3) z5.toInt.toNat = false)) (hn : (6 - z5.toInt).toNat < n) (ls : Array Slot) (hl : lv_has ls 6 [(0, .ref (ya Z 0)), (1, .int x1), (2, .int z2), (3, .int z3), (4, .int z4), (5, .int z5)]), W p l e ({ frames := 3, cells := 0, slots := 0, locals := 69 } : Room) s m ([.ref (ya Z 0), .int x1] : List Value).toArray below meth c s.heap [] 0 0 (MQ below (rd_Qi (fun r => r = (srF g (g 7) (g 8) (g 9) (g 38 0).toInt.toNat x1.toInt.toNat))) ([.ref (ya Z 0), .int x1] : List Value).toArray s 0 0 (fun _ => False)) (F0 m 15 ls []) := by
        intro n
        induction n with
        | zero => intro z4 z5 h5 h34 hz3 h4 hn; exact absurd hn (Nat.not_lt_zero _)
        | succ n ih15 =>
          intro z4 z5 h5 h34 hz3 h4 hn ls hl
          refine lv_iload hx hb dX7_sortsOf_15 (lv_at hl 5 rfl) ?_
          refine lv_aload_n hx hb dX7_sortsOf_17 rfl (lv_at hl 0 rfl) ?_
          refine va_get (D := yD Z) (ci := 7) (v := .int (g 38 0)) (C := RX7) (T := TX7) (N := 31) hx hb hT inlX7 hown hK hP 0 mw_0 rfl 8 (by decide) (hT _ (tr_17 _ (List.mem_of_getElem? (i := 16) rfl))) (fun _ h9 => h9) rfl dX7_sortsOf_18 ?_
          refine lv_icmp_ge (tgt := 78) hx hb dX7_sortsOf_21 (by decide) (fun c_21 => ?_) (fun c_21 => ?_)
          · skip
            have i_21 := ti_lek rfl rfl c_21
            refine lv_iload_n hx hb dX7_sortsOf_78 rfl (lv_at hl 2 rfl) ?_
            refine lv_iload hx hb dX7_sortsOf_79 (lv_at hl 4 rfl) ?_
            refine lv_if_eq (tgt := 90) hx hb dX7_sortsOf_81 (by decide) (fun c_81 => ?_) (fun c_81 => ?_)
            · skip
              have i_81 := ti_eqk rfl tk_0 c_81
              refine lv_iconst (v := 0) hx hb dX7_sortsOf_90 (by decide) ?_
              refine lv_ior hx hb dX7_sortsOf_91 ?_
              refine lv_topi (fun v_91 e_91 => ?_)
              refine lv_istore_n (lv' := [(2, .int v_91), (0, .ref (ya Z 0)), (1, .int x1), (3, .int z3), (4, .int z4), (5, .int z5)]) hx hb dX7_sortsOf_92 rfl hl (by decide) rfl (fun ls hl => ?_)
              obtain ⟨v_93, e_93⟩ : ∃ y : Int32, y = z3 + 1 := ⟨_, rfl⟩
              refine lv_iinc (v := v_93) (lv' := [(3, .int v_93), (2, .int v_91), (0, .ref (ya Z 0)), (1, .int x1), (4, .int z4), (5, .int z5)]) hx hb dX7_sortsOf_93 hl (k := 3) rfl (by rw [e_93]; rfl) (by decide) rfl (fun ls hl => ?_)
              have t_93 := ti_addk rfl tk_1 (by omega) (by omega) e_93
              refine lv_goto (tgt := 4) hx hb dX7_sortsOf_96 (by decide) ?_
              exact ih4 v_91 v_93 (by omega) (by rw [show v_93.toInt.toNat = z3.toInt.toNat + 1 by omega]; first | (rw [sbF_y (p := (fun k => okK (snB g (g 7) (g 8) (g 9) x1.toInt.toNat (nI k)) (g 38 0).toInt.toNat)) (k := z3.toInt.toNat) (by show okK _ _ = true; rw [← hz3]; rcases h4 with y | y; (rw [show (g 38 0).toInt.toNat = z5.toInt.toNat by omega]; exact y.2); exact absurd y.1 c_81), ← hA, e_91, e_86, ← hz3]) | (rw [sbF_n (p := (fun k => okK (snB g (g 7) (g 8) (g 9) x1.toInt.toNat (nI k)) (g 38 0).toInt.toNat)) (k := z3.toInt.toNat) (by show okK _ _ = false; rw [← hz3]; rcases h4 with y | y; (rw [y.1] at c_81; exact absurd c_81 (by decide)); rw [show (g 38 0).toInt.toNat = z5.toInt.toNat by omega]; exact y.2), ← hA, e_91, Int32.or_zero])) (by omega) ls (lv_sub hl [2, 3, 1, 0] rfl)
            · skip
              have i_81 := ti_nek rfl tk_0 c_81
              refine lv_iconst (v := 1) hx hb dX7_sortsOf_84 (by decide) ?_
              refine lv_iload_n hx hb dX7_sortsOf_85 rfl (lv_at hl 3 rfl) ?_
              refine lv_ishl hx hb dX7_sortsOf_86 ?_
              refine lv_topi (fun v_86 e_86 => ?_)
              refine lv_goto (tgt := 91) hx hb dX7_sortsOf_87 (by decide) ?_
              refine lv_ior hx hb dX7_sortsOf_91 ?_
              refine lv_topi (fun v_91 e_91 => ?_)
              refine lv_istore_n (lv' := [(2, .int v_91), (0, .ref (ya Z 0)), (1, .int x1), (3, .int z3), (4, .int z4), (5, .int z5)]) hx hb dX7_sortsOf_92 rfl hl (by decide) rfl (fun ls hl => ?_)
              obtain ⟨v_93, e_93⟩ : ∃ y : Int32, y = z3 + 1 := ⟨_, rfl⟩
              refine lv_iinc (v := v_93) (lv' := [(3, .int v_93), (2, .int v_91), (0, .ref (ya Z 0)), (1, .int x1), (4, .int z4), (5, .int z5)]) hx hb dX7_sortsOf_93 hl (k := 3) rfl (by rw [e_93]; rfl) (by decide) rfl (fun ls hl => ?_)
              have t_93 := ti_addk rfl tk_1 (by omega) (by omega) e_93
              refine lv_goto (tgt := 4) hx hb dX7_sortsOf_96 (by decide) ?_
              exact ih4 v_91 v_93 (by omega) (by rw [show v_93.toInt.toNat = z3.toInt.toNat + 1 by omega]; first | (rw [sbF_y (p := (fun k => okK (snB g (g 7) (g 8) (g 9) x1.toInt.toNat (nI k)) (g 38 0).toInt.toNat)) (k := z3.toInt.toNat) (by show okK _ _ = true; rw [← hz3]; rcases h4 with y | y; (rw [show (g 38 0).toInt.toNat = z5.toInt.toNat by omega]; exact y.2); exact absurd y.1 c_81), ← hA, e_91, e_86, ← hz3]) | (rw [sbF_n (p := (fun k => okK (snB g (g 7) (g 8) (g 9) x1.toInt.toNat (nI k)) (g 38 0).toInt.toNat)) (k := z3.toInt.toNat) (by show okK _ _ = false; rw [← hz3]; rcases h4 with y | y; (rw [y.1] at c_81; exact absurd c_81 (by decide)); rw [show (g 38 0).toInt.toNat = z5.toInt.toNat by omega]; exact y.2), ← hA, e_91, Int32.or_zero])) (by omega) ls (lv_sub hl [2, 3, 1, 0] rfl)
          · skip
            have i_21 := ti_nlek rfl rfl c_21
            refine lv_iload hx hb dX7_sortsOf_24 (lv_at hl 4 rfl) ?_
            refine lv_if_eq (tgt := 69) hx hb dX7_sortsOf_26 (by decide) (fun c_26 => ?_) (fun c_26 => ?_)
            · skip
              have i_26 := ti_eqk rfl tk_0 c_26
              refine lv_iconst (v := 0) hx hb dX7_sortsOf_69 (by decide) ?_
              refine lv_istore (lv' := [(4, .int 0), (0, .ref (ya Z 0)), (1, .int x1), (2, .int z2), (3, .int z3), (5, .int z5)]) hx hb dX7_sortsOf_70 hl (by decide) rfl (fun ls hl => ?_)
              obtain ⟨v_72, e_72⟩ : ∃ y : Int32, y = z5 + 1 := ⟨_, rfl⟩
              refine lv_iinc (v := v_72) (lv' := [(5, .int v_72), (4, .int 0), (0, .ref (ya Z 0)), (1, .int x1), (2, .int z2), (3, .int z3)]) hx hb dX7_sortsOf_72 hl (k := 5) rfl (by rw [e_72]; rfl) (by decide) rfl (fun ls hl => ?_)
              have t_72 := ti_addk rfl tk_1 (by omega) (by omega) e_72
              refine lv_goto (tgt := 15) hx hb dX7_sortsOf_75 (by decide) ?_
              exact ih15 0 v_72 (by omega) (by first | assumption | omega | decide) hz3 (Or.inr ⟨rfl, by rw [show v_72.toInt.toNat = z5.toInt.toNat + 1 by omega]; first | exact okK_f (by rcases h4 with y | y; (rw [y.1] at c_26; exact absurd c_26 (by decide)); exact y.2) | exact okK_n (by unfold snB; rw [hx1, ← e35, decide_eq_true (show v_35 = x1 from c_37), decide_eq_false (fun z => c_62 (by rw [e_61]; exact (lg_cmp_eq _ _).mpr (pr50.trans (z.trans pr60.symm))))]; rfl)⟩) (by omega) ls (lv_sub hl [2, 3, 4, 5, 1, 0] rfl)
            · skip
              have i_26 := ti_nek rfl tk_0 c_26
              refine lv_aload_n hx hb dX7_sortsOf_29 rfl (lv_at hl 0 rfl) ?_
              refine va_get (D := yD Z) (ci := 7) (v := .ref (ya Z 7)) (C := RX7) (T := TX7) (N := 31) hx hb hT inlX7 hown hK hP 0 mw_0 rfl 9 (by decide) (hT _ (tr_4 _ (List.mem_of_getElem? (i := 19) rfl))) (fun _ h9 => h9) rfl dX7_sortsOf_30 ?_
              refine lv_iload hx hb dX7_sortsOf_33 (lv_at hl 5 rfl) ?_
              have h_35 : vp_in z5 6 := (ti_vp (by omega) (by omega))
              refine va_iald hx hb hK hP 7 1 mw_7 rfl h_35 dX7_sortsOf_35 ?_
              refine lv_topi (fun v_35 e_35 => ?_)
              have e35 : v_35 = g 7 z5.toInt.toNat := e_35
              refine lv_iload_n hx hb dX7_sortsOf_36 rfl (lv_at hl 1 rfl) ?_
              refine lv_icmp_ne (tgt := 65) hx hb dX7_sortsOf_37 (by decide) (fun c_37 => ?_) (fun c_37 => ?_)
              · skip
                have i_37 := ti_nek rfl rfl c_37
                refine lv_iconst (v := 1) hx hb dX7_sortsOf_65 (by decide) ?_
                refine lv_goto (tgt := 70) hx hb dX7_sortsOf_66 (by decide) ?_
                refine lv_istore (lv' := [(4, .int 1), (0, .ref (ya Z 0)), (1, .int x1), (2, .int z2), (3, .int z3), (5, .int z5)]) hx hb dX7_sortsOf_70 hl (by decide) rfl (fun ls hl => ?_)
                obtain ⟨v_72, e_72⟩ : ∃ y : Int32, y = z5 + 1 := ⟨_, rfl⟩
                refine lv_iinc (v := v_72) (lv' := [(5, .int v_72), (4, .int 1), (0, .ref (ya Z 0)), (1, .int x1), (2, .int z2), (3, .int z3)]) hx hb dX7_sortsOf_72 hl (k := 5) rfl (by rw [e_72]; rfl) (by decide) rfl (fun ls hl => ?_)
                have t_72 := ti_addk rfl tk_1 (by omega) (by omega) e_72
                refine lv_goto (tgt := 15) hx hb dX7_sortsOf_75 (by decide) ?_
                exact ih15 1 v_72 (by omega) (by first | assumption | omega | decide) hz3 (Or.inl ⟨rfl, by rw [show v_72.toInt.toNat = z5.toInt.toNat + 1 by omega]; exact okK_y (by rcases h4 with y | y; exact y.2; exact absurd y.1 c_26) (by first | (unfold snB; rw [hx1, ← e35, decide_eq_false c_37]; rfl) | (unfold snB; rw [decide_eq_true (pr50.symm.trans (((lg_cmp_eq _ _).mp (by rw [← e_61]; exact c_62)).trans pr60)), Bool.or_true]))⟩) (by omega) ls (lv_sub hl [2, 3, 4, 5, 1, 0] rfl)
              · skip
                have i_37 := ti_eqk rfl rfl c_37
                refine lv_aload_n hx hb dX7_sortsOf_40 rfl (lv_at hl 0 rfl) ?_
                refine lv_iload_n hx hb dX7_sortsOf_41 rfl (lv_at hl 1 rfl) ?_
                refine lv_iload_n hx hb dX7_sortsOf_42 rfl (lv_at hl 3 rfl) ?_
                refine lv_aload_n hx hb dX7_sortsOf_43 rfl (lv_at hl 0 rfl) ?_
                refine va_get (D := yD Z) (ci := 7) (v := .ref (ya Z 8)) (C := RX7) (T := TX7) (N := 31) hx hb hT inlX7 hown hK hP 0 mw_0 rfl 10 (by decide) (hT _ (tr_4 _ (List.mem_of_getElem? (i := 20) rfl))) (fun _ h9 => h9) rfl dX7_sortsOf_44 ?_
                refine lv_iload hx hb dX7_sortsOf_47 (lv_at hl 5 rfl) ?_
                have h_49 : vp_in z5 6 := (ti_vp (by omega) (by omega))
                refine va_iald hx hb hK hP 8 1 mw_8 rfl h_49 dX7_sortsOf_49 ?_
                refine lv_topi (fun v_49 e_49 => ?_)
                refine rd_cl (va_runV (As := [.int x1, .int z3, .int v_49]) (rest := []) ⟨hx, hb, hml, hown, hT⟩ (c_X7_asKind l Z hZ g gl x1 z3 v_49 (by first | assumption | omega | decide) hJ) (cwV 3 hT (tb_V (fun _ h => h) (tr_23 _ (List.mem_of_getElem? (i := 2) rfl)) (tr_23 _ (List.mem_of_getElem? (i := 3) rfl)) (tr_23 _ (List.mem_of_getElem? (i := 4) rfl)) (tr_1 _ (List.mem_of_getElem? (i := 5) rfl)) (tr_23 _ (List.mem_of_getElem? (i := 5) rfl))) rfl rfl rfl (by decide +kernel) ⟨Nat.le_of_ble_eq_true rfl, Nat.le_of_ble_eq_true rfl⟩) ⟨fun a U f mk q => ⟨q.1, MI.blind f mk a q.2⟩, va_recv hK hP (ci := 7) (q0 := 0) rfl mw_0, fun U hU hW => ⟨rfl, hI.at hS hP hU hW⟩⟩ rfl rfl hl.1 rfl (lv_room (Nat.le_of_ble_eq_true rfl)) dX7_sortsOf_50 ⟨Nat.zero_le _, Nat.zero_le _⟩) (fun r_50 hr_50 => ?_)
                have pr50 : r_50 = mpF z3 (g 2 x1.toInt.toNat) (g 3 x1.toInt.toNat) (g 4 x1.toInt.toNat) (g 8 z5.toInt.toNat) := by rw [hr_50, show v_49 = g 8 z5.toInt.toNat from e_49]
                refine lv_aload_n hx hb dX7_sortsOf_53 rfl (lv_at hl 0 rfl) ?_
                refine va_get (D := yD Z) (ci := 7) (v := .ref (ya Z 9)) (C := RX7) (T := TX7) (N := 31) hx hb hT inlX7 hown hK hP 0 mw_0 rfl 11 (by decide) (hT _ (tr_4 _ (List.mem_of_getElem? (i := 21) rfl))) (fun _ h9 => h9) rfl dX7_sortsOf_54 ?_
                refine lv_iload hx hb dX7_sortsOf_57 (lv_at hl 5 rfl) ?_
                have h_59 : vp_in z5 6 := (ti_vp (by omega) (by omega))
                refine va_iald hx hb hK hP 9 1 mw_9 rfl h_59 dX7_sortsOf_59 ?_
                refine lv_topi (fun v_59 e_59 => ?_)
                refine lv_i2l hx hb dX7_sortsOf_60 rfl ?_
                refine lv_topl (fun v_60 e_60 => ?_)
                have pr60 : v_60 = (g 9 z5.toInt.toNat).toInt64 := by rw [e_60, show v_59 = g 9 z5.toInt.toNat from e_59]
                refine W.lcmp hx hb dX7_sortsOf_61 ?_
                refine lv_topi (fun v_61 e_61 => ?_)
                refine lv_if_ne (tgt := 69) hx hb dX7_sortsOf_62 (by decide) (fun c_62 => ?_) (fun c_62 => ?_)
                · skip
                  have i_62 := ti_nek rfl tk_0 c_62
                  refine lv_iconst (v := 0) hx hb dX7_sortsOf_69 (by decide) ?_
                  refine lv_istore (lv' := [(4, .int 0), (0, .ref (ya Z 0)), (1, .int x1), (2, .int z2), (3, .int z3), (5, .int z5)]) hx hb dX7_sortsOf_70 hl (by decide) rfl (fun ls hl => ?_)
                  obtain ⟨v_72, e_72⟩ : ∃ y : Int32, y = z5 + 1 := ⟨_, rfl⟩
                  refine lv_iinc (v := v_72) (lv' := [(5, .int v_72), (4, .int 0), (0, .ref (ya Z 0)), (1, .int x1), (2, .int z2), (3, .int z3)]) hx hb dX7_sortsOf_72 hl (k := 5) rfl (by rw [e_72]; rfl) (by decide) rfl (fun ls hl => ?_)
                  have t_72 := ti_addk rfl tk_1 (by omega) (by omega) e_72
                  refine lv_goto (tgt := 15) hx hb dX7_sortsOf_75 (by decide) ?_
                  exact ih15 0 v_72 (by omega) (by first | assumption | omega | decide) hz3 (Or.inr ⟨rfl, by rw [show v_72.toInt.toNat = z5.toInt.toNat + 1 by omega]; first | exact okK_f (by rcases h4 with y | y; (rw [y.1] at c_26; exact absurd c_26 (by decide)); exact y.2) | exact okK_n (by unfold snB; rw [hx1, ← e35, decide_eq_true (show v_35 = x1 from c_37), decide_eq_false (fun z => c_62 (by rw [e_61]; exact (lg_cmp_eq _ _).mpr (pr50.trans (z.trans pr60.symm))))]; rfl)⟩) (by omega) ls (lv_sub hl [2, 3, 4, 5, 1, 0] rfl)
                · skip
                  have i_62 := ti_eqk rfl tk_0 c_62
                  refine lv_iconst (v := 1) hx hb dX7_sortsOf_65 (by decide) ?_
                  refine lv_goto (tgt := 70) hx hb dX7_sortsOf_66 (by decide) ?_
                  refine lv_istore (lv' := [(4, .int 1), (0, .ref (ya Z 0)), (1, .int x1), (2, .int z2), (3, .int z3), (5, .int z5)]) hx hb dX7_sortsOf_70 hl (by decide) rfl (fun ls hl => ?_)
                  obtain ⟨v_72, e_72⟩ : ∃ y : Int32, y = z5 + 1 := ⟨_, rfl⟩
                  refine lv_iinc (v := v_72) (lv' := [(5, .int v_72), (4, .int 1), (0, .ref (ya Z 0)), (1, .int x1), (2, .int z2), (3, .int z3)]) hx hb dX7_sortsOf_72 hl (k := 5) rfl (by rw [e_72]; rfl) (by decide) rfl (fun ls hl => ?_)
                  have t_72 := ti_addk rfl tk_1 (by omega) (by omega) e_72
                  refine lv_goto (tgt := 15) hx hb dX7_sortsOf_75 (by decide) ?_
                  exact ih15 1 v_72 (by omega) (by first | assumption | omega | decide) hz3 (Or.inl ⟨rfl, by rw [show v_72.toInt.toNat = z5.toInt.toNat + 1 by omega]; exact okK_y (by rcases h4 with y | y; exact y.2; exact absurd y.1 c_26) (by first | (unfold snB; rw [hx1, ← e35, decide_eq_false c_37]; rfl) | (unfold snB; rw [decide_eq_true (pr50.symm.trans (((lg_cmp_eq _ _).mp (by rw [← e_61]; exact c_62)).trans pr60)), Bool.or_true]))⟩) (by omega) ls (lv_sub hl [2, 3, 4, 5, 1, 0] rfl)
      refine lv_iload_n hx hb dX7_sortsOf_4 rfl (lv_at hl 3 rfl) ?_
      refine lv_iconst (v := 4) hx hb dX7_sortsOf_5 (by decide) ?_
      refine lv_icmp_gt (tgt := 99) hx hb dX7_sortsOf_6 (by decide) (fun c_6 => ?_) (fun c_6 => ?_)
      · skip
        have i_6 := ti_ltk tk_4 rfl c_6
        refine lv_iload_n hx hb dX7_sortsOf_99 rfl (lv_at hl 2 rfl) ?_
        exact W.iret (v := z2) hx hb hr (fun t ht hW => ⟨z2, rfl, (by (try dsimp only); rw [hA, show z3.toInt.toNat = 5 by omega]; rfl), ht⟩) (fun q hq => by cases hq) dX7_sortsOf_100
      · skip
        have i_6 := ti_nltk tk_4 rfl c_6
        refine lv_iconst (v := 1) hx hb dX7_sortsOf_9 (by decide) ?_
        refine lv_istore (lv' := [(4, .int 1), (0, .ref (ya Z 0)), (1, .int x1), (2, .int z2), (3, .int z3)]) hx hb dX7_sortsOf_10 hl (by decide) rfl (fun ls hl => ?_)
        refine lv_iconst (v := 0) hx hb dX7_sortsOf_12 (by decide) ?_
        refine lv_istore (lv' := [(5, .int 0), (4, .int 1), (0, .ref (ya Z 0)), (1, .int x1), (2, .int z2), (3, .int z3)]) hx hb dX7_sortsOf_13 hl (by decide) rfl (fun ls hl => ?_)
        exact L15 _ 1 0 (by rw [tk_0]; omega) (by first | assumption | omega | decide) (nI_ek (by omega)) (Or.inl ⟨rfl, rfl⟩) (Nat.lt_succ_self _) ls (lv_sub hl [2, 3, 4, 5, 1, 0] rfl)
  refine lv_iconst (v := 0) hx hb dX7_sortsOf_0 (by decide) ?_
  refine lv_istore_n (lv' := [(2, .int 0), (0, .ref (ya Z 0)), (1, .int x1)]) hx hb dX7_sortsOf_1 rfl hl (by decide) rfl (fun ls hl => ?_)
  refine lv_iconst (v := 0) hx hb dX7_sortsOf_2 (by decide) ?_
  refine lv_istore_n (lv' := [(3, .int 0), (2, .int 0), (0, .ref (ya Z 0)), (1, .int x1)]) hx hb dX7_sortsOf_3 rfl hl (by decide) rfl (fun ls hl => ?_)
  exact L4 _ 0 0 (by decide) rfl (Nat.lt_succ_self _) ls (lv_sub hl [2, 3, 1, 0] rfl)
set_option maxHeartbeats 4000000 in
set_option maxRecDepth 100000 in
theorem c_X7_worstBy (l : Launch) (Z : YT) (hZ : MG Z) (g : Nat → Nat → Int32) (gl : Nat → Nat → Int64) (x1 : Int32) (x2 : Int32) (x3 : Int32) (ht : 0 ≤ x1.toInt ∧ x1.toInt < 70) (hJ : MJ g) : Met l yX7_worstBy (Cond.code yX7_worstBy cX7_worstBy 8 (some .int) :: wsL_law) ({ frames := 3, cells := 0, slots := 0, locals := 69 } : Room) (va_Pc [.ref (ya Z 0), .int x1, .int x2, .int x3] (MI Z g gl)) (rd_Qi (fun r => r.toInt = (wsF x2 (fun k => mpF (nI k) (g 2 x1.toInt.toNat) (g 3 x1.toInt.toNat) (g 4 x1.toInt.toNat) x3) 5 : Int))) 0 0 (fun _ => False) := by
  refine Met.ofW (cc := cX7_worstBy) (maxL := 8) (ret := (some .int)) (by decide) rfl ?_
  intro p e s m args below meth c s₁ B hml hv
  obtain ⟨rfl, hI⟩ := hv
  have hx := B.exec
  have hb := B.bytes
  have hr := B.returns
  have hT : ∀ w ∈ wsL_law, w.before ([.ref (ya Z 0), .int x1, .int x2, .int x3] : List Value).toArray s = true := fun w h => atoms_spec (ws := (Cond.code yX7_worstBy cX7_worstBy 8 (some .int) :: wsL_law)) B.pre w (List.mem_cons_of_mem _ h)
  have hown : s.vm.findClass RX7 = some m.cls := findClass_of_methodNamed B.named
  have hlocks := B.notSynchronized
  have hK := hI.2
  have hP := hI.1
  have hS : va_S (yA Z) s.heap s.heap [] := va_S.rf
  have hl := lv_entry ([.ref (ya Z 0), .int x1, .int x2, .int x3]) (n := 8) (Nat.le_of_ble_eq_true rfl)
  rw [lg_entry_eq]
  generalize (lg_sl ([.ref (ya Z 0), .int x1, .int x2, .int x3]) ++ List.replicate (8 - (lg_sl ([.ref (ya Z 0), .int x1, .int x2, .int x3])).length) Slot.unset).toArray = ls at hl ⊢
  have hl : lv_has ls 8 [(0, .ref (ya Z 0)), (1, .int x1), (2, .int x2), (3, .int x3)] := hl
  have L6 : ∀ (n : Nat) (z4 : Int32) (z5 : Int32)  (h5 : 0 ≤ z5.toInt ∧ z5.toInt ≤ 5) (hM : z4.toInt = (wsF x2 (fun k => mpF (nI k) (g 2 x1.toInt.toNat) (g 3 x1.toInt.toNat) (g 4 x1.toInt.toNat) x3) z5.toInt.toNat : Int)) (hn : (5 - z5.toInt).toNat < n) (ls : Array Slot) (hl : lv_has ls 8 [(0, .ref (ya Z 0)), (1, .int x1), (2, .int x2), (3, .int x3), (4, .int z4), (5, .int z5)]), W p l e ({ frames := 3, cells := 0, slots := 0, locals := 69 } : Room) s m ([.ref (ya Z 0), .int x1, .int x2, .int x3] : List Value).toArray below meth c s.heap [] 0 0 (MQ below (rd_Qi (fun r => r.toInt = (wsF x2 (fun k => mpF (nI k) (g 2 x1.toInt.toNat) (g 3 x1.toInt.toNat) (g 4 x1.toInt.toNat) x3) 5 : Int))) ([.ref (ya Z 0), .int x1, .int x2, .int x3] : List Value).toArray s 0 0 (fun _ => False)) (F0 m 6 ls []) := by
    intro n
    induction n with
    | zero => intro z4 z5 h5 hM hn; exact absurd hn (Nat.not_lt_zero _)
    | succ n ih6 =>
      intro z4 z5 h5 hM hn ls hl
      have L18 : ∀ (n : Nat) (z6 : Int32) (z7 : Int32)  (h7 : 0 ≤ z7.toInt ∧ z7.toInt ≤ 5) (h54 : 0 ≤ z5.toInt ∧ z5.toInt ≤ 4) (hz5 : z5 = nI z5.toInt.toNat) (hN : (inB x2 z5.toInt.toNat = true ∧ z6.toInt = (cB (alB x2 (fun k => mpF (nI k) (g 2 x1.toInt.toNat) (g 3 x1.toInt.toNat) (g 4 x1.toInt.toNat) x3) z5.toInt.toNat) z7.toInt.toNat : Int)) ∨ (inB x2 z5.toInt.toNat = false ∧ z6.toInt = 0)) (hn : (5 - z7.toInt).toNat < n) (ls : Array Slot) (hl : lv_has ls 8 [(0, .ref (ya Z 0)), (1, .int x1), (2, .int x2), (3, .int x3), (4, .int z4), (5, .int z5), (6, .int z6), (7, .int z7)]), W p l e ({ frames := 3, cells := 0, slots := 0, locals := 69 } : Room) s m ([.ref (ya Z 0), .int x1, .int x2, .int x3] : List Value).toArray below meth c s.heap [] 0 0 (MQ below (rd_Qi (fun r => r.toInt = (wsF x2 (fun k => mpF (nI k) (g 2 x1.toInt.toNat) (g 3 x1.toInt.toNat) (g 4 x1.toInt.toNat) x3) 5 : Int))) ([.ref (ya Z 0), .int x1, .int x2, .int x3] : List Value).toArray s 0 0 (fun _ => False)) (F0 m 18 ls []) := by
        intro n
        induction n with
        | zero => intro z6 z7 h7 h54 hz5 hN hn; exact absurd hn (Nat.not_lt_zero _)
        | succ n ih18 =>
          intro z6 z7 h7 h54 hz5 hN hn ls hl
          refine lv_iload hx hb dX7_worstBy_18 (lv_at hl 7 rfl) ?_
          refine lv_iconst (v := 4) hx hb dX7_worstBy_20 (by decide) ?_
          refine lv_icmp_gt (tgt := 78) hx hb dX7_worstBy_21 (by decide) (fun c_21 => ?_) (fun c_21 => ?_)
          · skip
            have i_21 := ti_ltk tk_4 rfl c_21
            refine lv_iload hx hb dX7_worstBy_78 (lv_at hl 6 rfl) ?_
            refine lv_iload hx hb dX7_worstBy_80 (lv_at hl 4 rfl) ?_
            refine lv_icmp_le (tgt := 90) hx hb dX7_worstBy_82 (by decide) (fun c_82 => ?_) (fun c_82 => ?_)
            · skip
              have i_82 := ti_lek rfl rfl c_82
              refine lv_iload hx hb dX7_worstBy_90 (lv_at hl 4 rfl) ?_
              refine lv_istore (lv' := [(4, .int z4), (0, .ref (ya Z 0)), (1, .int x1), (2, .int x2), (3, .int x3), (5, .int z5), (6, .int z6), (7, .int z7)]) hx hb dX7_worstBy_92 hl (by decide) rfl (fun ls hl => ?_)
              obtain ⟨v_94, e_94⟩ : ∃ y : Int32, y = z5 + 1 := ⟨_, rfl⟩
              refine lv_iinc (v := v_94) (lv' := [(5, .int v_94), (4, .int z4), (0, .ref (ya Z 0)), (1, .int x1), (2, .int x2), (3, .int x3), (6, .int z6), (7, .int z7)]) hx hb dX7_worstBy_94 hl (k := 5) rfl (by rw [e_94]; rfl) (by decide) rfl (fun ls hl => ?_)
              have t_94 := ti_addk rfl tk_1 (by omega) (by omega) e_94
              refine lv_goto (tgt := 6) hx hb dX7_worstBy_97 (by decide) ?_
              exact ih6 z4 v_94 (by omega) (by rw [show v_94.toInt.toNat = z5.toInt.toNat + 1 by omega, wsF]; rcases hN with y | y; (rw [if_pos y.1]; rw [show z7.toInt.toNat = 5 by omega] at y; omega); (rw [if_neg (by rw [y.1]; decide)]; omega)) (by omega) ls (lv_sub hl [2, 3, 4, 5, 1, 0] rfl)
            · skip
              have i_82 := ti_nlek rfl rfl c_82
              refine lv_iload hx hb dX7_worstBy_85 (lv_at hl 6 rfl) ?_
              refine lv_goto (tgt := 92) hx hb dX7_worstBy_87 (by decide) ?_
              refine lv_istore (lv' := [(4, .int z6), (0, .ref (ya Z 0)), (1, .int x1), (2, .int x2), (3, .int x3), (5, .int z5), (6, .int z6), (7, .int z7)]) hx hb dX7_worstBy_92 hl (by decide) rfl (fun ls hl => ?_)
              obtain ⟨v_94, e_94⟩ : ∃ y : Int32, y = z5 + 1 := ⟨_, rfl⟩
              refine lv_iinc (v := v_94) (lv' := [(5, .int v_94), (4, .int z6), (0, .ref (ya Z 0)), (1, .int x1), (2, .int x2), (3, .int x3), (6, .int z6), (7, .int z7)]) hx hb dX7_worstBy_94 hl (k := 5) rfl (by rw [e_94]; rfl) (by decide) rfl (fun ls hl => ?_)
              have t_94 := ti_addk rfl tk_1 (by omega) (by omega) e_94
              refine lv_goto (tgt := 6) hx hb dX7_worstBy_97 (by decide) ?_
              exact ih6 z6 v_94 (by omega) (by rw [show v_94.toInt.toNat = z5.toInt.toNat + 1 by omega, wsF]; rcases hN with y | y; (rw [if_pos y.1]; rw [show z7.toInt.toNat = 5 by omega] at y; omega); (rw [if_neg (by rw [y.1]; decide)]; omega)) (by omega) ls (lv_sub hl [2, 3, 4, 5, 1, 0] rfl)
          · skip
            have i_21 := ti_nltk tk_4 rfl c_21
            have hz7 : z7 = nI z7.toInt.toNat := nI_ek (by omega)
            have cl := cB_le (alB x2 (fun k => mpF (nI k) (g 2 x1.toInt.toNat) (g 3 x1.toInt.toNat) (g 4 x1.toInt.toNat) x3) z5.toInt.toNat) z7.toInt.toNat
            refine lv_iload hx hb dX7_worstBy_24 (lv_at hl 6 rfl) ?_
            refine lv_iload_n hx hb dX7_worstBy_26 rfl (lv_at hl 2 rfl) ?_
            refine lv_iload hx hb dX7_worstBy_27 (lv_at hl 5 rfl) ?_
            refine rd_ci (va_runS (As := [.int x2, .int z5]) (rest := [.int z6]) ⟨hx, hb, hml, hown, hT⟩ (c_X7_isIn l x2 z5 (by first | assumption | omega | decide)) (va_cwS 2 hT (tb_S (fun _ h => h) (tr_23 _ (List.mem_of_getElem? (i := 15) rfl)) (tr_23 _ (List.mem_of_getElem? (i := 16) rfl)) (tr_1 _ (List.mem_of_getElem? (i := 5) rfl)) (tr_23 _ (List.mem_of_getElem? (i := 17) rfl))) rfl rfl rfl (by decide +kernel) ⟨Nat.le_of_ble_eq_true rfl, Nat.le_of_ble_eq_true rfl⟩) ⟨fun _ _ _ _ q => q, fun U hU hW => ⟨rfl, trivial⟩⟩ rfl rfl hl.1 rfl (lv_room (Nat.le_of_ble_eq_true rfl)) dX7_worstBy_29 ⟨Nat.zero_le _, Nat.zero_le _⟩) (fun r_29 hr_29 => ?_)
            rcases hr_29 with ⟨rfl, b_29⟩ | ⟨rfl, b_29⟩
            · skip
              refine lv_if_eq (tgt := 68) hx hb dX7_worstBy_32 (by decide) (fun c_32 => absurd c_32 (by decide)) (fun c_32 => ?_)
              refine lv_iload_n hx hb dX7_worstBy_35 rfl (lv_at hl 2 rfl) ?_
              refine lv_iload hx hb dX7_worstBy_36 (lv_at hl 7 rfl) ?_
              refine rd_ci (va_runS (As := [.int x2, .int z7]) (rest := [.int z6]) ⟨hx, hb, hml, hown, hT⟩ (c_X7_isIn l x2 z7 (by first | assumption | omega | decide)) (va_cwS 2 hT (tb_S (fun _ h => h) (tr_23 _ (List.mem_of_getElem? (i := 15) rfl)) (tr_23 _ (List.mem_of_getElem? (i := 16) rfl)) (tr_1 _ (List.mem_of_getElem? (i := 5) rfl)) (tr_23 _ (List.mem_of_getElem? (i := 17) rfl))) rfl rfl rfl (by decide +kernel) ⟨Nat.le_of_ble_eq_true rfl, Nat.le_of_ble_eq_true rfl⟩) ⟨fun _ _ _ _ q => q, fun U hU hW => ⟨rfl, trivial⟩⟩ rfl rfl hl.1 rfl (lv_room (Nat.le_of_ble_eq_true rfl)) dX7_worstBy_38 ⟨Nat.zero_le _, Nat.zero_le _⟩) (fun r_38 hr_38 => ?_)
              rcases hr_38 with ⟨rfl, b_38⟩ | ⟨rfl, b_38⟩
              · skip
                refine lv_if_eq (tgt := 68) hx hb dX7_worstBy_41 (by decide) (fun c_41 => absurd c_41 (by decide)) (fun c_41 => ?_)
                refine lv_aload_n hx hb dX7_worstBy_44 rfl (lv_at hl 0 rfl) ?_
                refine lv_iload_n hx hb dX7_worstBy_45 rfl (lv_at hl 1 rfl) ?_
                refine lv_iload hx hb dX7_worstBy_46 (lv_at hl 5 rfl) ?_
                refine lv_iload_n hx hb dX7_worstBy_48 rfl (lv_at hl 3 rfl) ?_
                refine rd_cl (va_runV (As := [.int x1, .int z5, .int x3]) (rest := [.int z6]) ⟨hx, hb, hml, hown, hT⟩ (c_X7_asKind l Z hZ g gl x1 z5 x3 (by first | assumption | omega | decide) hJ) (cwV 3 hT (tb_V (fun _ h => h) (tr_23 _ (List.mem_of_getElem? (i := 2) rfl)) (tr_23 _ (List.mem_of_getElem? (i := 3) rfl)) (tr_23 _ (List.mem_of_getElem? (i := 4) rfl)) (tr_1 _ (List.mem_of_getElem? (i := 5) rfl)) (tr_23 _ (List.mem_of_getElem? (i := 5) rfl))) rfl rfl rfl (by decide +kernel) ⟨Nat.le_of_ble_eq_true rfl, Nat.le_of_ble_eq_true rfl⟩) ⟨fun a U f mk q => ⟨q.1, MI.blind f mk a q.2⟩, va_recv hK hP (ci := 7) (q0 := 0) rfl mw_0, fun U hU hW => ⟨rfl, hI.at hS hP hU hW⟩⟩ rfl rfl hl.1 rfl (lv_room (Nat.le_of_ble_eq_true rfl)) dX7_worstBy_49 ⟨Nat.zero_le _, Nat.zero_le _⟩) (fun r_49 hr_49 => ?_)
                refine lv_aload_n hx hb dX7_worstBy_52 rfl (lv_at hl 0 rfl) ?_
                refine lv_iload_n hx hb dX7_worstBy_53 rfl (lv_at hl 1 rfl) ?_
                refine lv_iload hx hb dX7_worstBy_54 (lv_at hl 7 rfl) ?_
                refine lv_iload_n hx hb dX7_worstBy_56 rfl (lv_at hl 3 rfl) ?_
                refine rd_cl (va_runV (As := [.int x1, .int z7, .int x3]) (rest := [.long r_49, .int z6]) ⟨hx, hb, hml, hown, hT⟩ (c_X7_asKind l Z hZ g gl x1 z7 x3 (by first | assumption | omega | decide) hJ) (cwV 3 hT (tb_V (fun _ h => h) (tr_23 _ (List.mem_of_getElem? (i := 2) rfl)) (tr_23 _ (List.mem_of_getElem? (i := 3) rfl)) (tr_23 _ (List.mem_of_getElem? (i := 4) rfl)) (tr_1 _ (List.mem_of_getElem? (i := 5) rfl)) (tr_23 _ (List.mem_of_getElem? (i := 5) rfl))) rfl rfl rfl (by decide +kernel) ⟨Nat.le_of_ble_eq_true rfl, Nat.le_of_ble_eq_true rfl⟩) ⟨fun a U f mk q => ⟨q.1, MI.blind f mk a q.2⟩, va_recv hK hP (ci := 7) (q0 := 0) rfl mw_0, fun U hU hW => ⟨rfl, hI.at hS hP hU hW⟩⟩ rfl rfl hl.1 rfl (lv_room (Nat.le_of_ble_eq_true rfl)) dX7_worstBy_57 ⟨Nat.zero_le _, Nat.zero_le _⟩) (fun r_57 hr_57 => ?_)
                refine W.lcmp hx hb dX7_worstBy_60 ?_
                refine lv_topi (fun v_60 e_60 => ?_)
                refine lv_if_ne (tgt := 68) hx hb dX7_worstBy_61 (by decide) (fun c_61 => ?_) (fun c_61 => ?_)
                · skip
                  have i_61 := ti_nek rfl tk_0 c_61
                  refine lv_iconst (v := 0) hx hb dX7_worstBy_68 (by decide) ?_
                  refine lv_iadd hx hb dX7_worstBy_69 ?_
                  refine lv_topi (fun v_69 e_69 => ?_)
                  have t_69 := ti_addk rfl tk_0 (by omega) (by omega) e_69
                  refine lv_istore (lv' := [(6, .int v_69), (0, .ref (ya Z 0)), (1, .int x1), (2, .int x2), (3, .int x3), (4, .int z4), (5, .int z5), (7, .int z7)]) hx hb dX7_worstBy_70 hl (by decide) rfl (fun ls hl => ?_)
                  obtain ⟨v_72, e_72⟩ : ∃ y : Int32, y = z7 + 1 := ⟨_, rfl⟩
                  refine lv_iinc (v := v_72) (lv' := [(7, .int v_72), (6, .int v_69), (0, .ref (ya Z 0)), (1, .int x1), (2, .int x2), (3, .int x3), (4, .int z4), (5, .int z5)]) hx hb dX7_worstBy_72 hl (k := 7) rfl (by rw [e_72]; rfl) (by decide) rfl (fun ls hl => ?_)
                  have t_72 := ti_addk rfl tk_1 (by omega) (by omega) e_72
                  refine lv_goto (tgt := 18) hx hb dX7_worstBy_75 (by decide) ?_
                  exact ih18 v_69 v_72 (by omega) (by first | assumption | omega | decide) hz5 (by have w1 : ∀ k : Int32, k = nI k.toInt.toNat → mpF k (g 2 x1.toInt.toNat) (g 3 x1.toInt.toNat) (g 4 x1.toInt.toNat) x3 = (fun k => mpF (nI k) (g 2 x1.toInt.toNat) (g 3 x1.toInt.toNat) (g 4 x1.toInt.toNat) x3) k.toInt.toNat := (fun k e => by show _ = mpF (nI k.toInt.toNat) _ _ _ _; rw [← e]); rw [show v_72.toInt.toNat = z7.toInt.toNat + 1 by omega]; first | exact Or.inr ⟨b_29, by rcases hN with y | y; (rw [b_29] at y; cases y.1); omega⟩ | (refine Or.inl ⟨b_29, ?_⟩; rcases hN with y | y; (first | (rw [cB_n (p := alB x2 (fun k => mpF (nI k) (g 2 x1.toInt.toNat) (g 3 x1.toInt.toNat) (g 4 x1.toInt.toNat) x3) z5.toInt.toNat) (by unfold alB; rw [b_38, Bool.false_and]; decide)]; omega) | (rw [cB_y (p := alB x2 (fun k => mpF (nI k) (g 2 x1.toInt.toNat) (g 3 x1.toInt.toNat) (g 4 x1.toInt.toNat) x3) z5.toInt.toNat) (by unfold alB; rw [b_38, Bool.true_and]; exact decide_eq_true (by rw [← w1 z7 hz7, ← w1 z5 hz5, ← hr_49, ← hr_57]; exact ((lg_cmp_eq _ _).mp (by rw [← e_60]; exact c_61)).symm))]; omega) | (rw [cB_n (p := alB x2 (fun k => mpF (nI k) (g 2 x1.toInt.toNat) (g 3 x1.toInt.toNat) (g 4 x1.toInt.toNat) x3) z5.toInt.toNat) (by unfold alB; rw [decide_eq_false (fun z => c_61 (by rw [e_60]; exact (lg_cmp_eq _ _).mpr (by rw [hr_49, hr_57, w1 z5 hz5, w1 z7 hz7]; exact z.symm))), Bool.and_false]; decide)]; omega)); (rw [b_29] at y; cases y.1))) (by omega) ls (lv_sub hl [2, 3, 4, 5, 6, 7, 1, 0] rfl)
                · skip
                  have i_61 := ti_eqk rfl tk_0 c_61
                  refine lv_iconst (v := 1) hx hb dX7_worstBy_64 (by decide) ?_
                  refine lv_goto (tgt := 69) hx hb dX7_worstBy_65 (by decide) ?_
                  refine lv_iadd hx hb dX7_worstBy_69 ?_
                  refine lv_topi (fun v_69 e_69 => ?_)
                  have t_69 := ti_addk rfl tk_1 (by omega) (by omega) e_69
                  refine lv_istore (lv' := [(6, .int v_69), (0, .ref (ya Z 0)), (1, .int x1), (2, .int x2), (3, .int x3), (4, .int z4), (5, .int z5), (7, .int z7)]) hx hb dX7_worstBy_70 hl (by decide) rfl (fun ls hl => ?_)
                  obtain ⟨v_72, e_72⟩ : ∃ y : Int32, y = z7 + 1 := ⟨_, rfl⟩
                  refine lv_iinc (v := v_72) (lv' := [(7, .int v_72), (6, .int v_69), (0, .ref (ya Z 0)), (1, .int x1), (2, .int x2), (3, .int x3), (4, .int z4), (5, .int z5)]) hx hb dX7_worstBy_72 hl (k := 7) rfl (by rw [e_72]; rfl) (by decide) rfl (fun ls hl => ?_)
                  have t_72 := ti_addk rfl tk_1 (by omega) (by omega) e_72
                  refine lv_goto (tgt := 18) hx hb dX7_worstBy_75 (by decide) ?_
                  exact ih18 v_69 v_72 (by omega) (by first | assumption | omega | decide) hz5 (by have w1 : ∀ k : Int32, k = nI k.toInt.toNat → mpF k (g 2 x1.toInt.toNat) (g 3 x1.toInt.toNat) (g 4 x1.toInt.toNat) x3 = (fun k => mpF (nI k) (g 2 x1.toInt.toNat) (g 3 x1.toInt.toNat) (g 4 x1.toInt.toNat) x3) k.toInt.toNat := (fun k e => by show _ = mpF (nI k.toInt.toNat) _ _ _ _; rw [← e]); rw [show v_72.toInt.toNat = z7.toInt.toNat + 1 by omega]; first | exact Or.inr ⟨b_29, by rcases hN with y | y; (rw [b_29] at y; cases y.1); omega⟩ | (refine Or.inl ⟨b_29, ?_⟩; rcases hN with y | y; (first | (rw [cB_n (p := alB x2 (fun k => mpF (nI k) (g 2 x1.toInt.toNat) (g 3 x1.toInt.toNat) (g 4 x1.toInt.toNat) x3) z5.toInt.toNat) (by unfold alB; rw [b_38, Bool.false_and]; decide)]; omega) | (rw [cB_y (p := alB x2 (fun k => mpF (nI k) (g 2 x1.toInt.toNat) (g 3 x1.toInt.toNat) (g 4 x1.toInt.toNat) x3) z5.toInt.toNat) (by unfold alB; rw [b_38, Bool.true_and]; exact decide_eq_true (by rw [← w1 z7 hz7, ← w1 z5 hz5, ← hr_49, ← hr_57]; exact ((lg_cmp_eq _ _).mp (by rw [← e_60]; exact c_61)).symm))]; omega) | (rw [cB_n (p := alB x2 (fun k => mpF (nI k) (g 2 x1.toInt.toNat) (g 3 x1.toInt.toNat) (g 4 x1.toInt.toNat) x3) z5.toInt.toNat) (by unfold alB; rw [decide_eq_false (fun z => c_61 (by rw [e_60]; exact (lg_cmp_eq _ _).mpr (by rw [hr_49, hr_57, w1 z5 hz5, w1 z7 hz7]; exact z.symm))), Bool.and_false]; decide)]; omega)); (rw [b_29] at y; cases y.1))) (by omega) ls (lv_sub hl [2, 3, 4, 5, 6, 7, 1, 0] rfl)
              · skip
                refine lv_if_eq (tgt := 68) hx hb dX7_worstBy_41 (by decide) (fun c_41 => ?_) (fun c_41 => absurd c_41 (by decide))
                refine lv_iconst (v := 0) hx hb dX7_worstBy_68 (by decide) ?_
                refine lv_iadd hx hb dX7_worstBy_69 ?_
                refine lv_topi (fun v_69 e_69 => ?_)
                have t_69 := ti_addk rfl tk_0 (by omega) (by omega) e_69
                refine lv_istore (lv' := [(6, .int v_69), (0, .ref (ya Z 0)), (1, .int x1), (2, .int x2), (3, .int x3), (4, .int z4), (5, .int z5), (7, .int z7)]) hx hb dX7_worstBy_70 hl (by decide) rfl (fun ls hl => ?_)
                obtain ⟨v_72, e_72⟩ : ∃ y : Int32, y = z7 + 1 := ⟨_, rfl⟩
                refine lv_iinc (v := v_72) (lv' := [(7, .int v_72), (6, .int v_69), (0, .ref (ya Z 0)), (1, .int x1), (2, .int x2), (3, .int x3), (4, .int z4), (5, .int z5)]) hx hb dX7_worstBy_72 hl (k := 7) rfl (by rw [e_72]; rfl) (by decide) rfl (fun ls hl => ?_)
                have t_72 := ti_addk rfl tk_1 (by omega) (by omega) e_72
                refine lv_goto (tgt := 18) hx hb dX7_worstBy_75 (by decide) ?_
                exact ih18 v_69 v_72 (by omega) (by first | assumption | omega | decide) hz5 (by have w1 : ∀ k : Int32, k = nI k.toInt.toNat → mpF k (g 2 x1.toInt.toNat) (g 3 x1.toInt.toNat) (g 4 x1.toInt.toNat) x3 = (fun k => mpF (nI k) (g 2 x1.toInt.toNat) (g 3 x1.toInt.toNat) (g 4 x1.toInt.toNat) x3) k.toInt.toNat := (fun k e => by show _ = mpF (nI k.toInt.toNat) _ _ _ _; rw [← e]); rw [show v_72.toInt.toNat = z7.toInt.toNat + 1 by omega]; first | exact Or.inr ⟨b_29, by rcases hN with y | y; (rw [b_29] at y; cases y.1); omega⟩ | (refine Or.inl ⟨b_29, ?_⟩; rcases hN with y | y; (first | (rw [cB_n (p := alB x2 (fun k => mpF (nI k) (g 2 x1.toInt.toNat) (g 3 x1.toInt.toNat) (g 4 x1.toInt.toNat) x3) z5.toInt.toNat) (by unfold alB; rw [b_38, Bool.false_and]; decide)]; omega) | (rw [cB_y (p := alB x2 (fun k => mpF (nI k) (g 2 x1.toInt.toNat) (g 3 x1.toInt.toNat) (g 4 x1.toInt.toNat) x3) z5.toInt.toNat) (by unfold alB; rw [b_38, Bool.true_and]; exact decide_eq_true (by rw [← w1 z7 hz7, ← w1 z5 hz5, ← hr_49, ← hr_57]; exact ((lg_cmp_eq _ _).mp (by rw [← e_60]; exact c_61)).symm))]; omega) | (rw [cB_n (p := alB x2 (fun k => mpF (nI k) (g 2 x1.toInt.toNat) (g 3 x1.toInt.toNat) (g 4 x1.toInt.toNat) x3) z5.toInt.toNat) (by unfold alB; rw [decide_eq_false (fun z => c_61 (by rw [e_60]; exact (lg_cmp_eq _ _).mpr (by rw [hr_49, hr_57, w1 z5 hz5, w1 z7 hz7]; exact z.symm))), Bool.and_false]; decide)]; omega)); (rw [b_29] at y; cases y.1))) (by omega) ls (lv_sub hl [2, 3, 4, 5, 6, 7, 1, 0] rfl)
            · skip
              refine lv_if_eq (tgt := 68) hx hb dX7_worstBy_32 (by decide) (fun c_32 => ?_) (fun c_32 => absurd c_32 (by decide))
              refine lv_iconst (v := 0) hx hb dX7_worstBy_68 (by decide) ?_
              refine lv_iadd hx hb dX7_worstBy_69 ?_
              refine lv_topi (fun v_69 e_69 => ?_)
              have t_69 := ti_addk rfl tk_0 (by omega) (by omega) e_69
              refine lv_istore (lv' := [(6, .int v_69), (0, .ref (ya Z 0)), (1, .int x1), (2, .int x2), (3, .int x3), (4, .int z4), (5, .int z5), (7, .int z7)]) hx hb dX7_worstBy_70 hl (by decide) rfl (fun ls hl => ?_)
              obtain ⟨v_72, e_72⟩ : ∃ y : Int32, y = z7 + 1 := ⟨_, rfl⟩
              refine lv_iinc (v := v_72) (lv' := [(7, .int v_72), (6, .int v_69), (0, .ref (ya Z 0)), (1, .int x1), (2, .int x2), (3, .int x3), (4, .int z4), (5, .int z5)]) hx hb dX7_worstBy_72 hl (k := 7) rfl (by rw [e_72]; rfl) (by decide) rfl (fun ls hl => ?_)
              have t_72 := ti_addk rfl tk_1 (by omega) (by omega) e_72
              refine lv_goto (tgt := 18) hx hb dX7_worstBy_75 (by decide) ?_
              exact ih18 v_69 v_72 (by omega) (by first | assumption | omega | decide) hz5 (by have w1 : ∀ k : Int32, k = nI k.toInt.toNat → mpF k (g 2 x1.toInt.toNat) (g 3 x1.toInt.toNat) (g 4 x1.toInt.toNat) x3 = (fun k => mpF (nI k) (g 2 x1.toInt.toNat) (g 3 x1.toInt.toNat) (g 4 x1.toInt.toNat) x3) k.toInt.toNat := (fun k e => by show _ = mpF (nI k.toInt.toNat) _ _ _ _; rw [← e]); rw [show v_72.toInt.toNat = z7.toInt.toNat + 1 by omega]; first | exact Or.inr ⟨b_29, by rcases hN with y | y; (rw [b_29] at y; cases y.1); omega⟩ | (refine Or.inl ⟨b_29, ?_⟩; rcases hN with y | y; (first | (rw [cB_n (p := alB x2 (fun k => mpF (nI k) (g 2 x1.toInt.toNat) (g 3 x1.toInt.toNat) (g 4 x1.toInt.toNat) x3) z5.toInt.toNat) (by unfold alB; rw [b_38, Bool.false_and]; decide)]; omega) | (rw [cB_y (p := alB x2 (fun k => mpF (nI k) (g 2 x1.toInt.toNat) (g 3 x1.toInt.toNat) (g 4 x1.toInt.toNat) x3) z5.toInt.toNat) (by unfold alB; rw [b_38, Bool.true_and]; exact decide_eq_true (by rw [← w1 z7 hz7, ← w1 z5 hz5, ← hr_49, ← hr_57]; exact ((lg_cmp_eq _ _).mp (by rw [← e_60]; exact c_61)).symm))]; omega) | (rw [cB_n (p := alB x2 (fun k => mpF (nI k) (g 2 x1.toInt.toNat) (g 3 x1.toInt.toNat) (g 4 x1.toInt.toNat) x3) z5.toInt.toNat) (by unfold alB; rw [decide_eq_false (fun z => c_61 (by rw [e_60]; exact (lg_cmp_eq _ _).mpr (by rw [hr_49, hr_57, w1 z5 hz5, w1 z7 hz7]; exact z.symm))), Bool.and_false]; decide)]; omega)); (rw [b_29] at y; cases y.1))) (by omega) ls (lv_sub hl [2, 3, 4, 5, 6, 7, 1, 0] rfl)
      refine lv_iload hx hb dX7_worstBy_6 (lv_at hl 5 rfl) ?_
      refine lv_iconst (v := 4) hx hb dX7_worstBy_8 (by decide) ?_
      refine lv_icmp_gt (tgt := 100) hx hb dX7_worstBy_9 (by decide) (fun c_9 => ?_) (fun c_9 => ?_)
      · skip
        have i_9 := ti_ltk tk_4 rfl c_9
        refine lv_iload hx hb dX7_worstBy_100 (lv_at hl 4 rfl) ?_
        exact W.iret (v := z4) hx hb hr (fun t ht hW => ⟨z4, rfl, (by (try dsimp only); rw [hM, show z5.toInt.toNat = 5 by omega]), ht⟩) (fun q hq => by cases hq) dX7_worstBy_102
      · skip
        have i_9 := ti_nltk tk_4 rfl c_9
        refine lv_iconst (v := 0) hx hb dX7_worstBy_12 (by decide) ?_
        refine lv_istore (lv' := [(6, .int 0), (0, .ref (ya Z 0)), (1, .int x1), (2, .int x2), (3, .int x3), (4, .int z4), (5, .int z5)]) hx hb dX7_worstBy_13 hl (by decide) rfl (fun ls hl => ?_)
        refine lv_iconst (v := 0) hx hb dX7_worstBy_15 (by decide) ?_
        refine lv_istore (lv' := [(7, .int 0), (6, .int 0), (0, .ref (ya Z 0)), (1, .int x1), (2, .int x2), (3, .int x3), (4, .int z4), (5, .int z5)]) hx hb dX7_worstBy_16 hl (by decide) rfl (fun ls hl => ?_)
        exact L18 _ 0 0 (by decide) (by first | assumption | omega | decide) (nI_ek (by omega)) (by rw [tk_0]; cases inB x2 z5.toInt.toNat; (exact Or.inr ⟨rfl, rfl⟩); exact Or.inl ⟨rfl, rfl⟩) (Nat.lt_succ_self _) ls (lv_sub hl [2, 3, 4, 5, 6, 7, 1, 0] rfl)
  refine lv_iconst (v := 0) hx hb dX7_worstBy_0 (by decide) ?_
  refine lv_istore (lv' := [(4, .int 0), (0, .ref (ya Z 0)), (1, .int x1), (2, .int x2), (3, .int x3)]) hx hb dX7_worstBy_1 hl (by decide) rfl (fun ls hl => ?_)
  refine lv_iconst (v := 0) hx hb dX7_worstBy_3 (by decide) ?_
  refine lv_istore (lv' := [(5, .int 0), (4, .int 0), (0, .ref (ya Z 0)), (1, .int x1), (2, .int x2), (3, .int x3)]) hx hb dX7_worstBy_4 hl (by decide) rfl (fun ls hl => ?_)
  exact L6 _ 0 0 (by decide) (by rw [tk_0]; rfl) (Nat.lt_succ_self _) ls (lv_sub hl [2, 3, 4, 5, 1, 0] rfl)
set_option maxHeartbeats 4000000 in
set_option maxRecDepth 100000 in
theorem c_X7_askOf (l : Launch) (Z : YT) (hZ : MG Z) (g : Nat → Nat → Int32) (gl : Nat → Nat → Int64) (x1 : Int32) (ht : 0 ≤ x1.toInt ∧ x1.toInt < 70) (hJ : MJ g) : Met l yX7_askOf (Cond.code yX7_askOf cX7_askOf 7 (some .int) :: wsL_law) ({ frames := 4, cells := 0, slots := 0, locals := 96 } : Room) (va_Pc [.ref (ya Z 0), .int x1] (MI Z g gl)) (rd_Qi (fun r => r = asF g (srF g (g 7) (g 8) (g 9) (g 38 0).toInt.toNat x1.toInt.toNat) x1.toInt.toNat)) 0 0 (fun _ => False) := by
  refine Met.ofW (cc := cX7_askOf) (maxL := 7) (ret := (some .int)) (by decide) rfl ?_
  intro p e s m args below meth c s₁ B hml hv
  obtain ⟨rfl, hI⟩ := hv
  have hx := B.exec
  have hb := B.bytes
  have hr := B.returns
  have hT : ∀ w ∈ wsL_law, w.before ([.ref (ya Z 0), .int x1] : List Value).toArray s = true := fun w h => atoms_spec (ws := (Cond.code yX7_askOf cX7_askOf 7 (some .int) :: wsL_law)) B.pre w (List.mem_cons_of_mem _ h)
  have hown : s.vm.findClass RX7 = some m.cls := findClass_of_methodNamed B.named
  have hlocks := B.notSynchronized
  have hK := hI.2
  have hP := hI.1
  have hS : va_S (yA Z) s.heap s.heap [] := va_S.rf
  have hl := lv_entry ([.ref (ya Z 0), .int x1]) (n := 7) (Nat.le_of_ble_eq_true rfl)
  rw [lg_entry_eq]
  generalize (lg_sl ([.ref (ya Z 0), .int x1]) ++ List.replicate (7 - (lg_sl ([.ref (ya Z 0), .int x1])).length) Slot.unset).toArray = ls at hl ⊢
  have hl : lv_has ls 7 [(0, .ref (ya Z 0)), (1, .int x1)] := hl
  have L21 : ∀ (n : Nat) (z2 : Int32) (z3 : Int32) (z4 : Int32) (z5 : Int32)  (hz2 : z2 = (srF g (g 7) (g 8) (g 9) (g 38 0).toInt.toNat x1.toInt.toNat)) (h5 : (0 ≤ (g 4 x1.toInt.toNat).toInt ∧ (g 4 x1.toInt.toNat).toInt ≤ 63) ∧ (g 4 x1.toInt.toNat).toInt ≤ z5.toInt ∧ z5.toInt ≤ 64) (h4 : 0 ≤ z4.toInt) (hAk : akL (fun q => lwF (srF g (g 7) (g 8) (g 9) (g 38 0).toInt.toNat x1.toInt.toNat) (pkF g x1.toInt.toNat q) 5) (g 4 x1.toInt.toNat).toInt.toNat 268435456 (z5.toInt - (g 4 x1.toInt.toNat).toInt).toNat = (z3, z4.toInt.toNat)) (hLq : z5.toInt = (g 4 x1.toInt.toNat).toInt ∨ (z5.toInt ≤ (g 5 x1.toInt.toNat).toInt + 1 ∧ ¬ z2 = 0)) (hn : (64 - z5.toInt).toNat < n) (ls : Array Slot) (hl : lv_has ls 7 [(0, .ref (ya Z 0)), (1, .int x1), (2, .int z2), (3, .int z3), (4, .int z4), (5, .int z5)]), W p l e ({ frames := 4, cells := 0, slots := 0, locals := 96 } : Room) s m ([.ref (ya Z 0), .int x1] : List Value).toArray below meth c s.heap [] 0 0 (MQ below (rd_Qi (fun r => r = asF g (srF g (g 7) (g 8) (g 9) (g 38 0).toInt.toNat x1.toInt.toNat) x1.toInt.toNat)) ([.ref (ya Z 0), .int x1] : List Value).toArray s 0 0 (fun _ => False)) (F0 m 21 ls []) := by
    intro n
    induction n with
    | zero => intro z2 z3 z4 z5 hz2 h5 h4 hAk hLq hn; exact absurd hn (Nat.not_lt_zero _)
    | succ n ih21 =>
      intro z2 z3 z4 z5 hz2 h5 h4 hAk hLq hn ls hl
      refine lv_iload hx hb dX7_askOf_21 (lv_at hl 5 rfl) ?_
      refine lv_aload_n hx hb dX7_askOf_23 rfl (lv_at hl 0 rfl) ?_
      refine va_get (D := yD Z) (ci := 7) (v := .ref (ya Z 5)) (C := RX7) (T := TX7) (N := 31) hx hb hT inlX7 hown hK hP 0 mw_0 rfl 6 (by decide) (hT _ (tr_4 _ (List.mem_of_getElem? (i := 17) rfl))) (fun _ h9 => h9) rfl dX7_askOf_24 ?_
      refine lv_iload_n hx hb dX7_askOf_27 rfl (lv_at hl 1 rfl) ?_
      have h_28 : vp_in x1 70 := (ti_vp (by omega) (by omega))
      refine va_iald hx hb hK hP 5 1 mw_5 rfl h_28 dX7_askOf_28 ?_
      refine lv_topi (fun v_28 e_28 => ?_)
      have j28 := hJ.j5 x1.toNatClampNeg
      have e28 : v_28.toInt = (g 5 x1.toInt.toNat).toInt := congrArg Int32.toInt (show v_28 = g 5 x1.toInt.toNat from e_28)
      rw [← e_28] at j28
      refine lv_icmp_gt (tgt := 82) hx hb dX7_askOf_29 (by decide) (fun c_29 => ?_) (fun c_29 => ?_)
      · skip
        have i_29 := ti_ltk rfl rfl c_29
        refine lv_iload_n hx hb dX7_askOf_82 rfl (lv_at hl 3 rfl) ?_
        exact W.iret (v := z3) hx hb hr (fun t ht hW => ⟨z3, rfl, (by (try dsimp only); unfold asF; by_cases y : (srF g (g 7) (g 8) (g 9) (g 38 0).toInt.toNat x1.toInt.toNat) = 0; (rw [if_pos y]; have y2 : z5.toInt = (g 4 x1.toInt.toNat).toInt := (by rcases hLq with w | w; exact w; exact absurd (hz2.trans y) w.2); rw [y2, show ((g 4 x1.toInt.toNat).toInt - (g 4 x1.toInt.toNat).toInt).toNat = 0 by omega] at hAk; exact (congrArg Prod.fst hAk).symm); rw [if_neg y]; have y3 : ((g 5 x1.toInt.toNat).toInt + 1 - (g 4 x1.toInt.toNat).toInt).toNat = (z5.toInt - (g 4 x1.toInt.toNat).toInt).toNat := (by first | omega | (exfalso; exact y (hz2.symm.trans c_33))); rw [y3, ak_1 (b := 268435456) (fun q => by have w := lw_5 (b := (srF g (g 7) (g 8) (g 9) (g 38 0).toInt.toNat x1.toInt.toNat)) (w := pkF g x1.toInt.toNat q) 5 (Nat.le_refl 5); show lwF _ _ 5 < 6 ∧ lwF _ _ 5 < 268435456; omega), hAk]), ht⟩) (fun q hq => by cases hq) dX7_askOf_83
      · skip
        have i_29 := ti_nltk rfl rfl c_29
        refine lv_iload_n hx hb dX7_askOf_32 rfl (lv_at hl 2 rfl) ?_
        refine lv_if_eq (tgt := 82) hx hb dX7_askOf_33 (by decide) (fun c_33 => ?_) (fun c_33 => ?_)
        · skip
          have i_33 := ti_eqk rfl tk_0 c_33
          refine lv_iload_n hx hb dX7_askOf_82 rfl (lv_at hl 3 rfl) ?_
          exact W.iret (v := z3) hx hb hr (fun t ht hW => ⟨z3, rfl, (by (try dsimp only); unfold asF; by_cases y : (srF g (g 7) (g 8) (g 9) (g 38 0).toInt.toNat x1.toInt.toNat) = 0; (rw [if_pos y]; have y2 : z5.toInt = (g 4 x1.toInt.toNat).toInt := (by rcases hLq with w | w; exact w; exact absurd (hz2.trans y) w.2); rw [y2, show ((g 4 x1.toInt.toNat).toInt - (g 4 x1.toInt.toNat).toInt).toNat = 0 by omega] at hAk; exact (congrArg Prod.fst hAk).symm); rw [if_neg y]; have y3 : ((g 5 x1.toInt.toNat).toInt + 1 - (g 4 x1.toInt.toNat).toInt).toNat = (z5.toInt - (g 4 x1.toInt.toNat).toInt).toNat := (by first | omega | (exfalso; exact y (hz2.symm.trans c_33))); rw [y3, ak_1 (b := 268435456) (fun q => by have w := lw_5 (b := (srF g (g 7) (g 8) (g 9) (g 38 0).toInt.toNat x1.toInt.toNat)) (w := pkF g x1.toInt.toNat q) 5 (Nat.le_refl 5); show lwF _ _ 5 < 6 ∧ lwF _ _ 5 < 268435456; omega), hAk]), ht⟩) (fun q hq => by cases hq) dX7_askOf_83
        · skip
          have i_33 := ti_nek rfl tk_0 c_33
          have hz5 : z5 = nI z5.toInt.toNat := nI_ek (by omega)
          refine lv_aload_n hx hb dX7_askOf_36 rfl (lv_at hl 0 rfl) ?_
          refine lv_iload_n hx hb dX7_askOf_37 rfl (lv_at hl 1 rfl) ?_
          refine lv_iload_n hx hb dX7_askOf_38 rfl (lv_at hl 2 rfl) ?_
          refine lv_iload hx hb dX7_askOf_39 (lv_at hl 5 rfl) ?_
          refine rd_ci (va_runV (As := [.int x1, .int z2, .int z5]) (rest := []) ⟨hx, hb, hml, hown, hT⟩ (c_X7_worstBy l Z hZ g gl x1 z2 z5 (by first | assumption | omega | decide) hJ) (cwV 3 hT (tb_V (fun _ h => h) (tr_23 _ (List.mem_of_getElem? (i := 11) rfl)) (tr_23 _ (List.mem_of_getElem? (i := 12) rfl)) (tr_23 _ (List.mem_of_getElem? (i := 13) rfl)) (tr_1 _ (List.mem_of_getElem? (i := 5) rfl)) (tr_23 _ (List.mem_of_getElem? (i := 14) rfl))) rfl rfl rfl (by decide +kernel) ⟨Nat.le_of_ble_eq_true rfl, Nat.le_of_ble_eq_true rfl⟩) ⟨fun a U f mk q => ⟨q.1, MI.blind f mk a q.2⟩, va_recv hK hP (ci := 7) (q0 := 0) rfl mw_0, fun U hU hW => ⟨rfl, hI.at hS hP hU hW⟩⟩ rfl rfl hl.1 rfl (lv_room (Nat.le_of_ble_eq_true rfl)) dX7_askOf_41 ⟨Nat.zero_le _, Nat.zero_le _⟩) (fun r_41 hr_41 => ?_)
          refine lv_istore (lv' := [(6, .int r_41), (0, .ref (ya Z 0)), (1, .int x1), (2, .int z2), (3, .int z3), (4, .int z4), (5, .int z5)]) hx hb dX7_askOf_44 hl (by decide) rfl (fun ls hl => ?_)
          refine lv_iload hx hb dX7_askOf_46 (lv_at hl 0 rfl) ?_
          refine lv_iload hx hb dX7_askOf_48 (lv_at hl 5 rfl) ?_
          refine lv_icmp_ge (tgt := 58) hx hb dX7_askOf_50 (by decide) (fun c_50 => ?_) (fun c_50 => ?_)
          · skip
            have i_50 := ti_lek rfl rfl c_50
            refine lv_iload_n hx hb dX7_askOf_58 rfl (lv_at hl 4 rfl) ?_
            refine lv_istore_n (lv' := [(3, .int z3), (6, .int r_41), (0, .ref (ya Z 0)), (1, .int x1), (2, .int z2), (4, .int z4), (5, .int z5)]) hx hb dX7_askOf_59 rfl hl (by decide) rfl (fun ls hl => ?_)
            refine lv_iload hx hb dX7_askOf_60 (lv_at hl 1 rfl) ?_
            refine lv_iload hx hb dX7_askOf_62 (lv_at hl 5 rfl) ?_
            refine lv_icmp_ge (tgt := 72) hx hb dX7_askOf_64 (by decide) (fun c_64 => ?_) (fun c_64 => ?_)
            · skip
              have i_64 := ti_lek rfl rfl c_64
              refine lv_iload hx hb dX7_askOf_72 (lv_at hl 5 rfl) ?_
              refine lv_istore (lv' := [(4, .int z4), (3, .int z3), (6, .int r_41), (0, .ref (ya Z 0)), (1, .int x1), (2, .int z2), (5, .int z5)]) hx hb dX7_askOf_74 hl (by decide) rfl (fun ls hl => ?_)
              obtain ⟨v_76, e_76⟩ : ∃ y : Int32, y = z5 + 1 := ⟨_, rfl⟩
              refine lv_iinc (v := v_76) (lv' := [(5, .int v_76), (4, .int z4), (3, .int z3), (6, .int r_41), (0, .ref (ya Z 0)), (1, .int x1), (2, .int z2)]) hx hb dX7_askOf_76 hl (k := 6) rfl (by rw [e_76]; rfl) (by decide) rfl (fun ls hl => ?_)
              have t_76 := ti_addk rfl tk_1 (by omega) (by omega) e_76
              refine lv_goto (tgt := 21) hx hb dX7_askOf_79 (by decide) ?_
              exact ih21 z2 z3 z4 v_76 hz2 (by omega) (by omega) (by have w41 : lwF (srF g (g 7) (g 8) (g 9) (g 38 0).toInt.toNat x1.toInt.toNat) (pkF g x1.toInt.toNat ((g 4 x1.toInt.toNat).toInt.toNat + (z5.toInt - (g 4 x1.toInt.toNat).toInt).toNat)) 5 = r_41.toInt.toNat := (by rw [show (g 4 x1.toInt.toNat).toInt.toNat + (z5.toInt - (g 4 x1.toInt.toNat).toInt).toNat = z5.toInt.toNat by omega, lw_ws, ← hz2]; rw [show pkF g x1.toInt.toNat z5.toInt.toNat = (fun k => mpF (nI k) (g 2 x1.toInt.toNat) (g 3 x1.toInt.toNat) (g 4 x1.toInt.toNat) z5) from funext (fun k => by unfold pkF; rw [← hz5])]; omega); rw [show (v_76.toInt - (g 4 x1.toInt.toNat).toInt).toNat = (z5.toInt - (g 4 x1.toInt.toNat).toInt).toNat + 1 by omega, ak_n (by rw [hAk, w41]; show ¬ r_41.toInt.toNat < z4.toInt.toNat; omega)]; exact hAk) (Or.inr ⟨by omega, c_33⟩) (by omega) ls (lv_sub hl [4, 5, 6, 2, 1, 0] rfl)
            · skip
              have i_64 := ti_nlek rfl rfl c_64
              exfalso
              omega
          · skip
            have i_50 := ti_nlek rfl rfl c_50
            refine lv_iload hx hb dX7_askOf_53 (lv_at hl 6 rfl) ?_
            refine lv_goto (tgt := 59) hx hb dX7_askOf_55 (by decide) ?_
            refine lv_istore_n (lv' := [(3, .int z5), (6, .int r_41), (0, .ref (ya Z 0)), (1, .int x1), (2, .int z2), (4, .int z4), (5, .int z5)]) hx hb dX7_askOf_59 rfl hl (by decide) rfl (fun ls hl => ?_)
            refine lv_iload hx hb dX7_askOf_60 (lv_at hl 1 rfl) ?_
            refine lv_iload hx hb dX7_askOf_62 (lv_at hl 5 rfl) ?_
            refine lv_icmp_ge (tgt := 72) hx hb dX7_askOf_64 (by decide) (fun c_64 => ?_) (fun c_64 => ?_)
            · skip
              have i_64 := ti_lek rfl rfl c_64
              exfalso
              omega
            · skip
              have i_64 := ti_nlek rfl rfl c_64
              refine lv_iload hx hb dX7_askOf_67 (lv_at hl 1 rfl) ?_
              refine lv_goto (tgt := 74) hx hb dX7_askOf_69 (by decide) ?_
              refine lv_istore (lv' := [(4, .int r_41), (3, .int z5), (6, .int r_41), (0, .ref (ya Z 0)), (1, .int x1), (2, .int z2), (5, .int z5)]) hx hb dX7_askOf_74 hl (by decide) rfl (fun ls hl => ?_)
              obtain ⟨v_76, e_76⟩ : ∃ y : Int32, y = z5 + 1 := ⟨_, rfl⟩
              refine lv_iinc (v := v_76) (lv' := [(5, .int v_76), (4, .int r_41), (3, .int z5), (6, .int r_41), (0, .ref (ya Z 0)), (1, .int x1), (2, .int z2)]) hx hb dX7_askOf_76 hl (k := 6) rfl (by rw [e_76]; rfl) (by decide) rfl (fun ls hl => ?_)
              have t_76 := ti_addk rfl tk_1 (by omega) (by omega) e_76
              refine lv_goto (tgt := 21) hx hb dX7_askOf_79 (by decide) ?_
              exact ih21 z2 z5 r_41 v_76 hz2 (by omega) (by omega) (by have w41 : lwF (srF g (g 7) (g 8) (g 9) (g 38 0).toInt.toNat x1.toInt.toNat) (pkF g x1.toInt.toNat ((g 4 x1.toInt.toNat).toInt.toNat + (z5.toInt - (g 4 x1.toInt.toNat).toInt).toNat)) 5 = r_41.toInt.toNat := (by rw [show (g 4 x1.toInt.toNat).toInt.toNat + (z5.toInt - (g 4 x1.toInt.toNat).toInt).toNat = z5.toInt.toNat by omega, lw_ws, ← hz2]; rw [show pkF g x1.toInt.toNat z5.toInt.toNat = (fun k => mpF (nI k) (g 2 x1.toInt.toNat) (g 3 x1.toInt.toNat) (g 4 x1.toInt.toNat) z5) from funext (fun k => by unfold pkF; rw [← hz5])]; omega); rw [show (v_76.toInt - (g 4 x1.toInt.toNat).toInt).toNat = (z5.toInt - (g 4 x1.toInt.toNat).toInt).toNat + 1 by omega, ak_y (by rw [hAk, w41]; show r_41.toInt.toNat < z4.toInt.toNat; omega), w41, show (g 4 x1.toInt.toNat).toInt.toNat + (z5.toInt - (g 4 x1.toInt.toNat).toInt).toNat = z5.toInt.toNat by omega, ← hz5]) (Or.inr ⟨by omega, c_33⟩) (by omega) ls (lv_sub hl [4, 5, 6, 2, 1, 0] rfl)
  refine lv_aload_n hx hb dX7_askOf_0 rfl (lv_at hl 0 rfl) ?_
  refine lv_iload_n hx hb dX7_askOf_1 rfl (lv_at hl 1 rfl) ?_
  refine rd_ci (va_runV (As := [.int x1]) (rest := []) ⟨hx, hb, hml, hown, hT⟩ (c_X7_sortsOf l Z hZ g gl x1 (by first | assumption | omega | decide) hJ) (cwV 1 hT (tb_V (fun _ h => h) (tr_22 _ (List.mem_of_getElem? (i := 22) rfl)) (tr_22 _ (List.mem_of_getElem? (i := 23) rfl)) (tr_23 _ (List.mem_of_getElem? (i := 0) rfl)) (tr_1 _ (List.mem_of_getElem? (i := 5) rfl)) (tr_23 _ (List.mem_of_getElem? (i := 1) rfl))) rfl rfl rfl (by decide +kernel) ⟨Nat.le_of_ble_eq_true rfl, Nat.le_of_ble_eq_true rfl⟩) ⟨fun a U f mk q => ⟨q.1, MI.blind f mk a q.2⟩, va_recv hK hP (ci := 7) (q0 := 0) rfl mw_0, fun U hU hW => ⟨rfl, hI.at hS hP hU hW⟩⟩ rfl rfl hl.1 rfl (lv_room (Nat.le_of_ble_eq_true rfl)) dX7_askOf_2 ⟨Nat.zero_le _, Nat.zero_le _⟩) (fun r_2 hr_2 => ?_)
  refine lv_istore_n (lv' := [(2, .int r_2), (0, .ref (ya Z 0)), (1, .int x1)]) hx hb dX7_askOf_5 rfl hl (by decide) rfl (fun ls hl => ?_)
  refine lv_iconst (v := (-1)) hx hb dX7_askOf_6 (by decide) ?_
  refine lv_istore_n (lv' := [(3, .int (-1)), (2, .int r_2), (0, .ref (ya Z 0)), (1, .int x1)]) hx hb dX7_askOf_7 rfl hl (by decide) rfl (fun ls hl => ?_)
  refine lv_ldcw (v := 268435456) hx hb hown (hT _ (tr_23 _ (List.mem_of_getElem? (i := 10) rfl))) dX7_askOf_8 ?_
  refine lv_istore (lv' := [(4, .int 268435456), (3, .int (-1)), (2, .int r_2), (0, .ref (ya Z 0)), (1, .int x1)]) hx hb dX7_askOf_11 hl (by decide) rfl (fun ls hl => ?_)
  refine lv_aload_n hx hb dX7_askOf_13 rfl (lv_at hl 3 rfl) ?_
  refine va_get (D := yD Z) (ci := 7) (v := .ref (ya Z 4)) (C := RX7) (T := TX7) (N := 31) hx hb hT inlX7 hown hK hP 0 mw_0 rfl 5 (by decide) (hT _ (tr_4 _ (List.mem_of_getElem? (i := 16) rfl))) (fun _ h9 => h9) rfl dX7_askOf_14 ?_
  refine lv_iload_n hx hb dX7_askOf_17 rfl (lv_at hl 4 rfl) ?_
  have h_18 : vp_in x1 70 := (ti_vp (by omega) (by omega))
  refine va_iald hx hb hK hP 4 1 mw_4 rfl h_18 dX7_askOf_18 ?_
  refine lv_topi (fun v_18 e_18 => ?_)
  have j18 := hJ.j4 x1.toNatClampNeg
  have e18 : v_18.toInt = (g 4 x1.toInt.toNat).toInt := congrArg Int32.toInt (show v_18 = g 4 x1.toInt.toNat from e_18)
  rw [← e_18] at j18
  refine lv_istore (lv' := [(5, .int v_18), (4, .int 268435456), (3, .int (-1)), (2, .int r_2), (0, .ref (ya Z 0)), (1, .int x1)]) hx hb dX7_askOf_19 hl (by decide) rfl (fun ls hl => ?_)
  exact L21 _ r_2 (-1) 268435456 v_18 hr_2 (by omega) (by decide) (by rw [e18, show ((g 4 x1.toInt.toNat).toInt - (g 4 x1.toInt.toNat).toInt).toNat = 0 by omega]; rfl) (Or.inl e18) (Nat.lt_succ_self _) ls (lv_sub hl [4, 5, 3, 2, 1, 0] rfl)
set_option maxHeartbeats 4000000 in
set_option maxRecDepth 100000 in
theorem c_X7_tariffNow (l : Launch) (Z : YT) (hZ : MG Z) (g : Nat → Nat → Int32) (gl : Nat → Nat → Int64) (x1 : Int32) (x2 : Int32) (ht : 0 ≤ x1.toInt ∧ x1.toInt < 70) (hw6 : 0 ≤ x2.toInt ∧ x2.toInt ≤ 6) (hJ : MJ g) : Met l yX7_tariffNow (Cond.code yX7_tariffNow cX7_tariffNow 3 (some .int) :: wsL_law) ({ frames := 6, cells := 0, slots := 0, locals := 142 } : Room) (va_Pc [.ref (ya Z 0), .int x1, .int x2] (MI Z g gl)) (rd_Qi (fun r => r = tvF g (g 6) (mC g) (g 7) (g 8) (g 9) (g 38 0).toInt.toNat x1.toInt.toNat x2.toInt.toNat)) 0 0 (fun _ => False) := by
  refine Met.ofW (cc := cX7_tariffNow) (maxL := 3) (ret := (some .int)) (by decide) rfl ?_
  intro p e s m args below meth c s₁ B hml hv
  obtain ⟨rfl, hI⟩ := hv
  have hx := B.exec
  have hb := B.bytes
  have hr := B.returns
  have hT : ∀ w ∈ wsL_law, w.before ([.ref (ya Z 0), .int x1, .int x2] : List Value).toArray s = true := fun w h => atoms_spec (ws := (Cond.code yX7_tariffNow cX7_tariffNow 3 (some .int) :: wsL_law)) B.pre w (List.mem_cons_of_mem _ h)
  have hown : s.vm.findClass RX7 = some m.cls := findClass_of_methodNamed B.named
  have hlocks := B.notSynchronized
  have hK := hI.2
  have hP := hI.1
  have hS : va_S (yA Z) s.heap s.heap [] := va_S.rf
  have hl := lv_entry ([.ref (ya Z 0), .int x1, .int x2]) (n := 3) (Nat.le_of_ble_eq_true rfl)
  rw [lg_entry_eq]
  generalize (lg_sl ([.ref (ya Z 0), .int x1, .int x2]) ++ List.replicate (3 - (lg_sl ([.ref (ya Z 0), .int x1, .int x2])).length) Slot.unset).toArray = ls at hl ⊢
  have hl : lv_has ls 3 [(0, .ref (ya Z 0)), (1, .int x1), (2, .int x2)] := hl
  refine lv_iload_n hx hb dX7_tariffNow_0 rfl (lv_at hl 2 rfl) ?_
  by_cases w_1_0 : x2 = 0
  · skip
    refine lv_tableIn (tgt := 40) (off := 39) hx hb dX7_tariffNow_1 (by rw [w_1_0]; decide) (by rw [w_1_0]; decide) (by rw [w_1_0]; decide) (by decide) ?_
    refine lv_aload_n hx hb dX7_tariffNow_40 rfl (lv_at hl 0 rfl) ?_
    refine va_get (D := yD Z) (ci := 7) (v := .ref (ya Z 1)) (C := RX7) (T := TX7) (N := 31) hx hb hT inlX7 hown hK hP 0 mw_0 rfl 2 (by decide) (hT _ (tr_4 _ (List.mem_of_getElem? (i := 13) rfl))) (fun _ h9 => h9) rfl dX7_tariffNow_41 ?_
    refine lv_iload_n hx hb dX7_tariffNow_44 rfl (lv_at hl 1 rfl) ?_
    have h_45 : vp_in x1 70 := (ti_vp (by omega) (by omega))
    refine va_iald hx hb hK hP 1 1 mw_1 rfl h_45 dX7_tariffNow_45 ?_
    refine lv_topi (fun v_45 e_45 => ?_)
    exact W.iret (v := v_45) hx hb hr (fun t ht hW => ⟨v_45, rfl, (by (try dsimp only); rw [w_1_0, show (0 : Int32).toInt.toNat = 0 from rfl, tv_0]; exact e_45), ht⟩) (fun q hq => by cases hq) dX7_tariffNow_46
  by_cases w_1_1 : x2 = 1
  · skip
    refine lv_tableIn (tgt := 47) (off := 46) hx hb dX7_tariffNow_1 (by rw [w_1_1]; decide) (by rw [w_1_1]; decide) (by rw [w_1_1]; decide) (by decide) ?_
    refine lv_aload_n hx hb dX7_tariffNow_47 rfl (lv_at hl 0 rfl) ?_
    refine va_get (D := yD Z) (ci := 7) (v := .ref (ya Z 4)) (C := RX7) (T := TX7) (N := 31) hx hb hT inlX7 hown hK hP 0 mw_0 rfl 5 (by decide) (hT _ (tr_4 _ (List.mem_of_getElem? (i := 16) rfl))) (fun _ h9 => h9) rfl dX7_tariffNow_48 ?_
    refine lv_iload_n hx hb dX7_tariffNow_51 rfl (lv_at hl 1 rfl) ?_
    have h_52 : vp_in x1 70 := (ti_vp (by omega) (by omega))
    refine va_iald hx hb hK hP 4 1 mw_4 rfl h_52 dX7_tariffNow_52 ?_
    refine lv_topi (fun v_52 e_52 => ?_)
    exact W.iret (v := v_52) hx hb hr (fun t ht hW => ⟨v_52, rfl, (by (try dsimp only); rw [w_1_1, show (1 : Int32).toInt.toNat = 1 from rfl, tv_1]; exact e_52), ht⟩) (fun q hq => by cases hq) dX7_tariffNow_53
  by_cases w_1_2 : x2 = 2
  · skip
    refine lv_tableIn (tgt := 54) (off := 53) hx hb dX7_tariffNow_1 (by rw [w_1_2]; decide) (by rw [w_1_2]; decide) (by rw [w_1_2]; decide) (by decide) ?_
    refine lv_aload_n hx hb dX7_tariffNow_54 rfl (lv_at hl 0 rfl) ?_
    refine va_get (D := yD Z) (ci := 7) (v := .ref (ya Z 5)) (C := RX7) (T := TX7) (N := 31) hx hb hT inlX7 hown hK hP 0 mw_0 rfl 6 (by decide) (hT _ (tr_4 _ (List.mem_of_getElem? (i := 17) rfl))) (fun _ h9 => h9) rfl dX7_tariffNow_55 ?_
    refine lv_iload_n hx hb dX7_tariffNow_58 rfl (lv_at hl 1 rfl) ?_
    have h_59 : vp_in x1 70 := (ti_vp (by omega) (by omega))
    refine va_iald hx hb hK hP 5 1 mw_5 rfl h_59 dX7_tariffNow_59 ?_
    refine lv_topi (fun v_59 e_59 => ?_)
    exact W.iret (v := v_59) hx hb hr (fun t ht hW => ⟨v_59, rfl, (by (try dsimp only); rw [w_1_2, show (2 : Int32).toInt.toNat = 2 from rfl, tv_2]; exact e_59), ht⟩) (fun q hq => by cases hq) dX7_tariffNow_60
  by_cases w_1_3 : x2 = 3
  · skip
    refine lv_tableIn (tgt := 61) (off := 60) hx hb dX7_tariffNow_1 (by rw [w_1_3]; decide) (by rw [w_1_3]; decide) (by rw [w_1_3]; decide) (by decide) ?_
    refine lv_aload_n hx hb dX7_tariffNow_61 rfl (lv_at hl 0 rfl) ?_
    refine lv_iload_n hx hb dX7_tariffNow_62 rfl (lv_at hl 1 rfl) ?_
    refine rd_ci (va_runV (As := [.int x1]) (rest := []) ⟨hx, hb, hml, hown, hT⟩ (c_X7_nodesOf l Z hZ g gl x1 hJ) (cwV 1 hT (tb_V (fun _ h => h) (tr_22 _ (List.mem_of_getElem? (i := 10) rfl)) (tr_22 _ (List.mem_of_getElem? (i := 11) rfl)) (tr_22 _ (List.mem_of_getElem? (i := 12) rfl)) (tr_1 _ (List.mem_of_getElem? (i := 5) rfl)) (tr_22 _ (List.mem_of_getElem? (i := 13) rfl))) rfl rfl rfl (by decide +kernel) ⟨Nat.le_of_ble_eq_true rfl, Nat.le_of_ble_eq_true rfl⟩) ⟨fun a U f mk q => ⟨q.1, MI.blind f mk a q.2⟩, va_recv hK hP (ci := 7) (q0 := 0) rfl mw_0, fun U hU hW => ⟨rfl, hI.at hS hP hU hW⟩⟩ rfl rfl hl.1 rfl (lv_room (Nat.le_of_ble_eq_true rfl)) dX7_tariffNow_63 ⟨Nat.zero_le _, Nat.zero_le _⟩) (fun r_63 hr_63 => ?_)
    exact W.iret (v := r_63) hx hb hr (fun t ht hW => ⟨r_63, rfl, (by (try dsimp only); rw [w_1_3, show (3 : Int32).toInt.toNat = 3 from rfl, tv_3, show ((x1.toInt.toNat : Nat) : Int) = x1.toInt by omega]; exact nI_ek hr_63), ht⟩) (fun q hq => by cases hq) dX7_tariffNow_66
  by_cases w_1_4 : x2 = 4
  · skip
    refine lv_tableIn (tgt := 67) (off := 66) hx hb dX7_tariffNow_1 (by rw [w_1_4]; decide) (by rw [w_1_4]; decide) (by rw [w_1_4]; decide) (by decide) ?_
    refine lv_aload_n hx hb dX7_tariffNow_67 rfl (lv_at hl 0 rfl) ?_
    refine lv_iload_n hx hb dX7_tariffNow_68 rfl (lv_at hl 1 rfl) ?_
    refine rd_ci (va_runV (As := [.int x1]) (rest := []) ⟨hx, hb, hml, hown, hT⟩ (c_X7_quantitiesOf l Z hZ g gl x1 hJ) (cwV 1 hT (tb_V (fun _ h => h) (tr_22 _ (List.mem_of_getElem? (i := 14) rfl)) (tr_22 _ (List.mem_of_getElem? (i := 15) rfl)) (tr_22 _ (List.mem_of_getElem? (i := 16) rfl)) (tr_1 _ (List.mem_of_getElem? (i := 5) rfl)) (tr_22 _ (List.mem_of_getElem? (i := 17) rfl))) rfl rfl rfl (by decide +kernel) ⟨Nat.le_of_ble_eq_true rfl, Nat.le_of_ble_eq_true rfl⟩) ⟨fun a U f mk q => ⟨q.1, MI.blind f mk a q.2⟩, va_recv hK hP (ci := 7) (q0 := 0) rfl mw_0, fun U hU hW => ⟨rfl, hI.at hS hP hU hW⟩⟩ rfl rfl hl.1 rfl (lv_room (Nat.le_of_ble_eq_true rfl)) dX7_tariffNow_69 ⟨Nat.zero_le _, Nat.zero_le _⟩) (fun r_69 hr_69 => ?_)
    exact W.iret (v := r_69) hx hb hr (fun t ht hW => ⟨r_69, rfl, (by (try dsimp only); rw [w_1_4, show (4 : Int32).toInt.toNat = 4 from rfl, tv_4, show ((x1.toInt.toNat : Nat) : Int) = x1.toInt by omega]; exact nI_ek hr_69), ht⟩) (fun q hq => by cases hq) dX7_tariffNow_72
  by_cases w_1_5 : x2 = 5
  · skip
    refine lv_tableIn (tgt := 73) (off := 72) hx hb dX7_tariffNow_1 (by rw [w_1_5]; decide) (by rw [w_1_5]; decide) (by rw [w_1_5]; decide) (by decide) ?_
    refine lv_aload_n hx hb dX7_tariffNow_73 rfl (lv_at hl 0 rfl) ?_
    refine lv_iload_n hx hb dX7_tariffNow_74 rfl (lv_at hl 1 rfl) ?_
    refine rd_ci (va_runV (As := [.int x1]) (rest := []) ⟨hx, hb, hml, hown, hT⟩ (c_X7_sortsOf l Z hZ g gl x1 (by first | assumption | omega | decide) hJ) (cwV 1 hT (tb_V (fun _ h => h) (tr_22 _ (List.mem_of_getElem? (i := 22) rfl)) (tr_22 _ (List.mem_of_getElem? (i := 23) rfl)) (tr_23 _ (List.mem_of_getElem? (i := 0) rfl)) (tr_1 _ (List.mem_of_getElem? (i := 5) rfl)) (tr_23 _ (List.mem_of_getElem? (i := 1) rfl))) rfl rfl rfl (by decide +kernel) ⟨Nat.le_of_ble_eq_true rfl, Nat.le_of_ble_eq_true rfl⟩) ⟨fun a U f mk q => ⟨q.1, MI.blind f mk a q.2⟩, va_recv hK hP (ci := 7) (q0 := 0) rfl mw_0, fun U hU hW => ⟨rfl, hI.at hS hP hU hW⟩⟩ rfl rfl hl.1 rfl (lv_room (Nat.le_of_ble_eq_true rfl)) dX7_tariffNow_75 ⟨Nat.zero_le _, Nat.zero_le _⟩) (fun r_75 hr_75 => ?_)
    exact W.iret (v := r_75) hx hb hr (fun t ht hW => ⟨r_75, rfl, (by (try dsimp only); rw [w_1_5, show (5 : Int32).toInt.toNat = 5 from rfl, tv_5]; exact hr_75), ht⟩) (fun q hq => by cases hq) dX7_tariffNow_78
  have n_1_0 := ti_nek rfl tk_0 w_1_0
  have n_1_1 := ti_nek rfl tk_1 w_1_1
  have n_1_2 := ti_nek rfl tk_2 w_1_2
  have n_1_3 := ti_nek rfl tk_3 w_1_3
  have n_1_4 := ti_nek rfl tk_4 w_1_4
  have n_1_5 := ti_nek rfl tk_5 w_1_5
  refine lv_tableOut (tgt := 79) hx hb dX7_tariffNow_1 (by omega) (by decide) ?_
  refine lv_aload_n hx hb dX7_tariffNow_79 rfl (lv_at hl 0 rfl) ?_
  refine lv_iload_n hx hb dX7_tariffNow_80 rfl (lv_at hl 1 rfl) ?_
  refine rd_ci (va_runV (As := [.int x1]) (rest := []) ⟨hx, hb, hml, hown, hT⟩ (c_X7_askOf l Z hZ g gl x1 (by first | assumption | omega | decide) hJ) (cwV 1 hT (tb_V (fun _ h => h) (tr_23 _ (List.mem_of_getElem? (i := 6) rfl)) (tr_23 _ (List.mem_of_getElem? (i := 7) rfl)) (tr_23 _ (List.mem_of_getElem? (i := 8) rfl)) (tr_1 _ (List.mem_of_getElem? (i := 5) rfl)) (tr_23 _ (List.mem_of_getElem? (i := 9) rfl))) rfl rfl rfl (by decide +kernel) ⟨Nat.le_of_ble_eq_true rfl, Nat.le_of_ble_eq_true rfl⟩) ⟨fun a U f mk q => ⟨q.1, MI.blind f mk a q.2⟩, va_recv hK hP (ci := 7) (q0 := 0) rfl mw_0, fun U hU hW => ⟨rfl, hI.at hS hP hU hW⟩⟩ rfl rfl hl.1 rfl (lv_room (Nat.le_of_ble_eq_true rfl)) dX7_tariffNow_81 ⟨Nat.zero_le _, Nat.zero_le _⟩) (fun r_81 hr_81 => ?_)
  exact W.iret (v := r_81) hx hb hr (fun t ht hW => ⟨r_81, rfl, (by (try dsimp only); rw [show x2.toInt.toNat = 6 by omega, tv_6]; exact hr_81), ht⟩) (fun q hq => by cases hq) dX7_tariffNow_84
set_option maxHeartbeats 4000000 in
set_option maxRecDepth 100000 in
theorem c_X7_tariff (l : Launch) (Z : YT) (hZ : MG Z) (g : Nat → Nat → Int32) (gl : Nat → Nat → Int64) (x1 : Int32) (x2 : Int32) (hJ : MJ g) : Met l yX7_tariff (Cond.code yX7_tariff cX7_tariff 3 (some .int) :: wsL_law) ({ frames := 7, cells := 0, slots := 0, locals := 164 } : Room) (va_Pc [.ref (ya Z 0), .int x1, .int x2] (MI Z g gl)) (rd_Qi (fun r => ((¬ (0 ≤ x1.toInt ∧ x1.toInt < (g 31 0).toInt) ∧ r = -101) ∨ ((0 ≤ x1.toInt ∧ x1.toInt < (g 31 0).toInt) ∧ ¬ (0 ≤ x2.toInt ∧ x2.toInt ≤ 6) ∧ r = -102) ∨ ((0 ≤ x1.toInt ∧ x1.toInt < (g 31 0).toInt) ∧ (0 ≤ x2.toInt ∧ x2.toInt ≤ 6) ∧ r = tvF g (g 6) (mC g) (g 7) (g 8) (g 9) (g 38 0).toInt.toNat x1.toInt.toNat x2.toInt.toNat)))) 0 0 (fun _ => False) := by
  refine Met.ofW (cc := cX7_tariff) (maxL := 3) (ret := (some .int)) (by decide) rfl ?_
  intro p e s m args below meth c s₁ B hml hv
  obtain ⟨rfl, hI⟩ := hv
  have hx := B.exec
  have hb := B.bytes
  have hr := B.returns
  have hT : ∀ w ∈ wsL_law, w.before ([.ref (ya Z 0), .int x1, .int x2] : List Value).toArray s = true := fun w h => atoms_spec (ws := (Cond.code yX7_tariff cX7_tariff 3 (some .int) :: wsL_law)) B.pre w (List.mem_cons_of_mem _ h)
  have hown : s.vm.findClass RX7 = some m.cls := findClass_of_methodNamed B.named
  have hlocks := B.notSynchronized
  have hK := hI.2
  have hP := hI.1
  have hS : va_S (yA Z) s.heap s.heap [] := va_S.rf
  have j31 := hJ.j31
  have hl := lv_entry ([.ref (ya Z 0), .int x1, .int x2]) (n := 3) (Nat.le_of_ble_eq_true rfl)
  rw [lg_entry_eq]
  generalize (lg_sl ([.ref (ya Z 0), .int x1, .int x2]) ++ List.replicate (3 - (lg_sl ([.ref (ya Z 0), .int x1, .int x2])).length) Slot.unset).toArray = ls at hl ⊢
  have hl : lv_has ls 3 [(0, .ref (ya Z 0)), (1, .int x1), (2, .int x2)] := hl
  refine lv_aload_n hx hb dX7_tariff_0 rfl (lv_at hl 0 rfl) ?_
  refine lv_iload_n hx hb dX7_tariff_1 rfl (lv_at hl 1 rfl) ?_
  refine rd_ci (va_runV (As := [.int x1]) (rest := []) ⟨hx, hb, hml, hown, hT⟩ (c_X7_isTariff l Z hZ g gl x1 hJ) (cwV 1 hT (tb_V (fun _ h => h) (tr_22 _ (List.mem_of_getElem? (i := 2) rfl)) (tr_22 _ (List.mem_of_getElem? (i := 3) rfl)) (tr_22 _ (List.mem_of_getElem? (i := 4) rfl)) (tr_1 _ (List.mem_of_getElem? (i := 5) rfl)) (tr_22 _ (List.mem_of_getElem? (i := 5) rfl))) rfl rfl rfl (by decide +kernel) ⟨Nat.le_of_ble_eq_true rfl, Nat.le_of_ble_eq_true rfl⟩) ⟨fun a U f mk q => ⟨q.1, MI.blind f mk a q.2⟩, va_recv hK hP (ci := 7) (q0 := 0) rfl mw_0, fun U hU hW => ⟨rfl, hI.at hS hP hU hW⟩⟩ rfl rfl hl.1 rfl (lv_room (Nat.le_of_ble_eq_true rfl)) dX7_tariff_2 ⟨Nat.zero_le _, Nat.zero_le _⟩) (fun r_2 hr_2 => ?_)
  rcases hr_2 with ⟨rfl, b_2⟩ | ⟨rfl, b_2⟩
  · skip
    refine lv_if_ne (tgt := 13) hx hb dX7_tariff_5 (by decide) (fun c_5 => ?_) (fun c_5 => absurd c_5 (by decide))
    refine lv_iload_n hx hb dX7_tariff_13 rfl (lv_at hl 2 rfl) ?_
    refine lv_iconst (v := 0) hx hb dX7_tariff_14 (by decide) ?_
    refine lv_bipush (v := 6) hx hb dX7_tariff_15 (by decide) ?_
    refine rd_ci (va_runS (As := [.int x2, .int 0, .int 6]) (rest := []) ⟨hx, hb, hml, hown, hT⟩ (c_X7_within l x2 0 6) (va_cwS 3 hT (tb_S (fun _ h => h) (tr_6 _ (List.mem_of_getElem? (i := 0) rfl)) (tr_6 _ (List.mem_of_getElem? (i := 1) rfl)) (tr_1 _ (List.mem_of_getElem? (i := 5) rfl)) (tr_6 _ (List.mem_of_getElem? (i := 2) rfl))) rfl rfl rfl (by decide +kernel) ⟨Nat.le_of_ble_eq_true rfl, Nat.le_of_ble_eq_true rfl⟩) ⟨fun _ _ _ _ q => q, fun U hU hW => ⟨rfl, trivial⟩⟩ rfl rfl hl.1 rfl (lv_room (Nat.le_of_ble_eq_true rfl)) dX7_tariff_17 ⟨Nat.zero_le _, Nat.zero_le _⟩) (fun r_17 hr_17 => ?_)
    rcases hr_17 with ⟨rfl, b_17⟩ | ⟨rfl, b_17⟩
    · skip
      (try simp only [tk_0, tk_6] at b_17)
      refine lv_if_eq (tgt := 32) hx hb dX7_tariff_20 (by decide) (fun c_20 => absurd c_20 (by decide)) (fun c_20 => ?_)
      refine lv_aload_n hx hb dX7_tariff_23 rfl (lv_at hl 0 rfl) ?_
      refine lv_iload_n hx hb dX7_tariff_24 rfl (lv_at hl 1 rfl) ?_
      refine lv_iload_n hx hb dX7_tariff_25 rfl (lv_at hl 2 rfl) ?_
      refine rd_ci (va_runV (As := [.int x1, .int x2]) (rest := []) ⟨hx, hb, hml, hown, hT⟩ (c_X7_tariffNow l Z hZ g gl x1 x2 (by first | assumption | omega | decide) (by first | assumption | omega | decide) hJ) (cwV 2 hT (tb_V (fun _ h => h) (tr_22 _ (List.mem_of_getElem? (i := 6) rfl)) (tr_22 _ (List.mem_of_getElem? (i := 7) rfl)) (tr_22 _ (List.mem_of_getElem? (i := 8) rfl)) (tr_1 _ (List.mem_of_getElem? (i := 5) rfl)) (tr_22 _ (List.mem_of_getElem? (i := 9) rfl))) rfl rfl rfl (by decide +kernel) ⟨Nat.le_of_ble_eq_true rfl, Nat.le_of_ble_eq_true rfl⟩) ⟨fun a U f mk q => ⟨q.1, MI.blind f mk a q.2⟩, va_recv hK hP (ci := 7) (q0 := 0) rfl mw_0, fun U hU hW => ⟨rfl, hI.at hS hP hU hW⟩⟩ rfl rfl hl.1 rfl (lv_room (Nat.le_of_ble_eq_true rfl)) dX7_tariff_26 ⟨Nat.zero_le _, Nat.zero_le _⟩) (fun r_26 hr_26 => ?_)
      refine lv_goto (tgt := 34) hx hb dX7_tariff_29 (by decide) ?_
      exact W.iret (v := r_26) hx hb hr (fun t ht hW => ⟨r_26, rfl, Or.inr (Or.inr ⟨b_2, b_17, hr_26⟩), ht⟩) (fun q hq => by cases hq) dX7_tariff_34
    · skip
      (try simp only [tk_0, tk_6] at b_17)
      refine lv_if_eq (tgt := 32) hx hb dX7_tariff_20 (by decide) (fun c_20 => ?_) (fun c_20 => absurd c_20 (by decide))
      refine lv_bipush (v := (-102)) hx hb dX7_tariff_32 (by decide) ?_
      exact W.iret (v := (-102)) hx hb hr (fun t ht hW => ⟨(-102), rfl, Or.inr (Or.inl ⟨b_2, b_17, rfl⟩), ht⟩) (fun q hq => by cases hq) dX7_tariff_34
  · skip
    refine lv_if_ne (tgt := 13) hx hb dX7_tariff_5 (by decide) (fun c_5 => absurd c_5 (by decide)) (fun c_5 => ?_)
    refine lv_bipush (v := (-101)) hx hb dX7_tariff_8 (by decide) ?_
    refine lv_goto (tgt := 34) hx hb dX7_tariff_10 (by decide) ?_
    exact W.iret (v := (-101)) hx hb hr (fun t ht hW => ⟨(-101), rfl, Or.inl ⟨b_2, rfl⟩, ht⟩) (fun q hq => by cases hq) dX7_tariff_34
set_option maxHeartbeats 4000000 in
set_option maxRecDepth 100000 in
theorem c_X7_as (l : Launch) (Z : YT) (hZ : MG Z) (g : Nat → Nat → Int32) (gl : Nat → Nat → Int64) (x1 : Int32) (x2 : Int32) (hJ : MJ g) : Met l yX7_as (Cond.code yX7_as cX7_as 4 (some .int) :: wsL_law) ({ frames := 2, cells := 0, slots := 0, locals := 43 } : Room) (va_Pc [.ref (ya Z 0), .int x1, .int x2] (MI Z g gl)) (rd_Qi (fun r => ((¬ (0 ≤ x1.toInt ∧ x1.toInt < (g 31 0).toInt) ∧ r = -101) ∨ ((0 ≤ x1.toInt ∧ x1.toInt < (g 31 0).toInt) ∧ ¬ (0 ≤ x2.toInt ∧ x2.toInt ≤ 4) ∧ r = -102) ∨ ((0 ≤ x1.toInt ∧ x1.toInt < (g 31 0).toInt) ∧ (0 ≤ x2.toInt ∧ x2.toInt ≤ 4) ∧ (x2.toInt = 0 ∨ x2.toInt = (g 1 x1.toInt.toNat).toInt ∨ (x2.toInt = 3 ∧ (g 1 x1.toInt.toNat).toInt = 4)) ∧ r = x1) ∨ ((0 ≤ x1.toInt ∧ x1.toInt < (g 31 0).toInt) ∧ (0 ≤ x2.toInt ∧ x2.toInt ≤ 4) ∧ ¬ (x2.toInt = 0 ∨ x2.toInt = (g 1 x1.toInt.toNat).toInt ∨ (x2.toInt = 3 ∧ (g 1 x1.toInt.toNat).toInt = 4)) ∧ r = -1)))) 0 0 (fun _ => False) := by
  refine Met.ofW (cc := cX7_as) (maxL := 4) (ret := (some .int)) (by decide) rfl ?_
  intro p e s m args below meth c s₁ B hml hv
  obtain ⟨rfl, hI⟩ := hv
  have hx := B.exec
  have hb := B.bytes
  have hr := B.returns
  have hT : ∀ w ∈ wsL_law, w.before ([.ref (ya Z 0), .int x1, .int x2] : List Value).toArray s = true := fun w h => atoms_spec (ws := (Cond.code yX7_as cX7_as 4 (some .int) :: wsL_law)) B.pre w (List.mem_cons_of_mem _ h)
  have hown : s.vm.findClass RX7 = some m.cls := findClass_of_methodNamed B.named
  have hlocks := B.notSynchronized
  have hK := hI.2
  have hP := hI.1
  have hS : va_S (yA Z) s.heap s.heap [] := va_S.rf
  have j31 := hJ.j31
  have hl := lv_entry ([.ref (ya Z 0), .int x1, .int x2]) (n := 4) (Nat.le_of_ble_eq_true rfl)
  rw [lg_entry_eq]
  generalize (lg_sl ([.ref (ya Z 0), .int x1, .int x2]) ++ List.replicate (4 - (lg_sl ([.ref (ya Z 0), .int x1, .int x2])).length) Slot.unset).toArray = ls at hl ⊢
  have hl : lv_has ls 4 [(0, .ref (ya Z 0)), (1, .int x1), (2, .int x2)] := hl
  refine lv_aload_n hx hb dX7_as_0 rfl (lv_at hl 0 rfl) ?_
  refine lv_iload_n hx hb dX7_as_1 rfl (lv_at hl 1 rfl) ?_
  refine rd_ci (va_runV (As := [.int x1]) (rest := []) ⟨hx, hb, hml, hown, hT⟩ (c_X7_isTariff l Z hZ g gl x1 hJ) (cwV 1 hT (tb_V (fun _ h => h) (tr_22 _ (List.mem_of_getElem? (i := 2) rfl)) (tr_22 _ (List.mem_of_getElem? (i := 3) rfl)) (tr_22 _ (List.mem_of_getElem? (i := 4) rfl)) (tr_1 _ (List.mem_of_getElem? (i := 5) rfl)) (tr_22 _ (List.mem_of_getElem? (i := 5) rfl))) rfl rfl rfl (by decide +kernel) ⟨Nat.le_of_ble_eq_true rfl, Nat.le_of_ble_eq_true rfl⟩) ⟨fun a U f mk q => ⟨q.1, MI.blind f mk a q.2⟩, va_recv hK hP (ci := 7) (q0 := 0) rfl mw_0, fun U hU hW => ⟨rfl, hI.at hS hP hU hW⟩⟩ rfl rfl hl.1 rfl (lv_room (Nat.le_of_ble_eq_true rfl)) dX7_as_2 ⟨Nat.zero_le _, Nat.zero_le _⟩) (fun r_2 hr_2 => ?_)
  rcases hr_2 with ⟨rfl, b_2⟩ | ⟨rfl, b_2⟩
  · skip
    refine lv_if_ne (tgt := 11) hx hb dX7_as_5 (by decide) (fun c_5 => ?_) (fun c_5 => absurd c_5 (by decide))
    refine lv_iload_n hx hb dX7_as_11 rfl (lv_at hl 2 rfl) ?_
    refine lv_iconst (v := 0) hx hb dX7_as_12 (by decide) ?_
    refine lv_iconst (v := 4) hx hb dX7_as_13 (by decide) ?_
    refine rd_ci (va_runS (As := [.int x2, .int 0, .int 4]) (rest := []) ⟨hx, hb, hml, hown, hT⟩ (c_X7_within l x2 0 4) (va_cwS 3 hT (tb_S (fun _ h => h) (tr_6 _ (List.mem_of_getElem? (i := 0) rfl)) (tr_6 _ (List.mem_of_getElem? (i := 1) rfl)) (tr_1 _ (List.mem_of_getElem? (i := 5) rfl)) (tr_6 _ (List.mem_of_getElem? (i := 2) rfl))) rfl rfl rfl (by decide +kernel) ⟨Nat.le_of_ble_eq_true rfl, Nat.le_of_ble_eq_true rfl⟩) ⟨fun _ _ _ _ q => q, fun U hU hW => ⟨rfl, trivial⟩⟩ rfl rfl hl.1 rfl (lv_room (Nat.le_of_ble_eq_true rfl)) dX7_as_14 ⟨Nat.zero_le _, Nat.zero_le _⟩) (fun r_14 hr_14 => ?_)
    rcases hr_14 with ⟨rfl, b_14⟩ | ⟨rfl, b_14⟩
    · skip
      (try simp only [tk_0, tk_4] at b_14)
      refine lv_if_ne (tgt := 23) hx hb dX7_as_17 (by decide) (fun c_17 => ?_) (fun c_17 => absurd c_17 (by decide))
      refine lv_aload_n hx hb dX7_as_23 rfl (lv_at hl 0 rfl) ?_
      refine va_get (D := yD Z) (ci := 7) (v := .ref (ya Z 1)) (C := RX7) (T := TX7) (N := 31) hx hb hT inlX7 hown hK hP 0 mw_0 rfl 2 (by decide) (hT _ (tr_4 _ (List.mem_of_getElem? (i := 13) rfl))) (fun _ h9 => h9) rfl dX7_as_24 ?_
      refine lv_iload_n hx hb dX7_as_27 rfl (lv_at hl 1 rfl) ?_
      have h_28 : vp_in x1 70 := (ti_vp (by omega) (by omega))
      refine va_iald hx hb hK hP 1 1 mw_1 rfl h_28 dX7_as_28 ?_
      refine lv_topi (fun v_28 e_28 => ?_)
      refine lv_istore_n (lv' := [(3, .int v_28), (0, .ref (ya Z 0)), (1, .int x1), (2, .int x2)]) hx hb dX7_as_29 rfl hl (by decide) rfl (fun ls hl => ?_)
      refine lv_iload_n hx hb dX7_as_30 rfl (lv_at hl 3 rfl) ?_
      refine lv_if_eq (tgt := 49) hx hb dX7_as_31 (by decide) (fun c_31 => ?_) (fun c_31 => ?_)
      · skip
        have i_31 := ti_eqk rfl tk_0 c_31
        refine lv_iload_n hx hb dX7_as_49 rfl (lv_at hl 2 rfl) ?_
        refine lv_goto (tgt := 54) hx hb dX7_as_50 (by decide) ?_
        exact W.iret (v := x1) hx hb hr (fun t ht hW => ⟨x1, rfl, Or.inr (Or.inr (Or.inl ⟨b_2, b_14, by have w28 : (g 1 x1.toInt.toNat).toInt = v_28.toInt := congrArg Int32.toInt e_28.symm; omega, rfl⟩)), ht⟩) (fun q hq => by cases hq) dX7_as_54
      · skip
        have i_31 := ti_nek rfl tk_0 c_31
        refine lv_iload_n hx hb dX7_as_34 rfl (lv_at hl 0 rfl) ?_
        refine lv_iload_n hx hb dX7_as_35 rfl (lv_at hl 3 rfl) ?_
        refine lv_icmp_eq (tgt := 49) hx hb dX7_as_36 (by decide) (fun c_36 => ?_) (fun c_36 => ?_)
        · skip
          have i_36 := ti_eqk rfl rfl c_36
          refine lv_iload_n hx hb dX7_as_49 rfl (lv_at hl 2 rfl) ?_
          refine lv_goto (tgt := 54) hx hb dX7_as_50 (by decide) ?_
          exact W.iret (v := x1) hx hb hr (fun t ht hW => ⟨x1, rfl, Or.inr (Or.inr (Or.inl ⟨b_2, b_14, by have w28 : (g 1 x1.toInt.toNat).toInt = v_28.toInt := congrArg Int32.toInt e_28.symm; omega, rfl⟩)), ht⟩) (fun q hq => by cases hq) dX7_as_54
        · skip
          have i_36 := ti_nek rfl rfl c_36
          refine lv_iload_n hx hb dX7_as_39 rfl (lv_at hl 3 rfl) ?_
          refine lv_iconst (v := 3) hx hb dX7_as_40 (by decide) ?_
          refine lv_icmp_ne (tgt := 53) hx hb dX7_as_41 (by decide) (fun c_41 => ?_) (fun c_41 => ?_)
          · skip
            have i_41 := ti_nek rfl tk_3 c_41
            refine lv_iconst (v := (-1)) hx hb dX7_as_53 (by decide) ?_
            exact W.iret (v := (-1)) hx hb hr (fun t ht hW => ⟨(-1), rfl, Or.inr (Or.inr (Or.inr ⟨b_2, b_14, by have w28 : (g 1 x1.toInt.toNat).toInt = v_28.toInt := congrArg Int32.toInt e_28.symm; omega, rfl⟩)), ht⟩) (fun q hq => by cases hq) dX7_as_54
          · skip
            have i_41 := ti_eqk rfl tk_3 c_41
            refine lv_iload_n hx hb dX7_as_44 rfl (lv_at hl 0 rfl) ?_
            refine lv_iconst (v := 4) hx hb dX7_as_45 (by decide) ?_
            refine lv_icmp_ne (tgt := 53) hx hb dX7_as_46 (by decide) (fun c_46 => ?_) (fun c_46 => ?_)
            · skip
              have i_46 := ti_nek rfl tk_4 c_46
              refine lv_iconst (v := (-1)) hx hb dX7_as_53 (by decide) ?_
              exact W.iret (v := (-1)) hx hb hr (fun t ht hW => ⟨(-1), rfl, Or.inr (Or.inr (Or.inr ⟨b_2, b_14, by have w28 : (g 1 x1.toInt.toNat).toInt = v_28.toInt := congrArg Int32.toInt e_28.symm; omega, rfl⟩)), ht⟩) (fun q hq => by cases hq) dX7_as_54
            · skip
              have i_46 := ti_eqk rfl tk_4 c_46
              refine lv_iload_n hx hb dX7_as_49 rfl (lv_at hl 2 rfl) ?_
              refine lv_goto (tgt := 54) hx hb dX7_as_50 (by decide) ?_
              exact W.iret (v := x1) hx hb hr (fun t ht hW => ⟨x1, rfl, Or.inr (Or.inr (Or.inl ⟨b_2, b_14, by have w28 : (g 1 x1.toInt.toNat).toInt = v_28.toInt := congrArg Int32.toInt e_28.symm; omega, rfl⟩)), ht⟩) (fun q hq => by cases hq) dX7_as_54
    · skip
      (try simp only [tk_0, tk_4] at b_14)
      refine lv_if_ne (tgt := 23) hx hb dX7_as_17 (by decide) (fun c_17 => absurd c_17 (by decide)) (fun c_17 => ?_)
      refine lv_bipush (v := (-102)) hx hb dX7_as_20 (by decide) ?_
      exact W.iret (v := (-102)) hx hb hr (fun t ht hW => ⟨(-102), rfl, Or.inr (Or.inl ⟨b_2, b_14, rfl⟩), ht⟩) (fun q hq => by cases hq) dX7_as_22
  · skip
    refine lv_if_ne (tgt := 11) hx hb dX7_as_5 (by decide) (fun c_5 => absurd c_5 (by decide)) (fun c_5 => ?_)
    refine lv_bipush (v := (-101)) hx hb dX7_as_8 (by decide) ?_
    exact W.iret (v := (-101)) hx hb hr (fun t ht hW => ⟨(-101), rfl, Or.inl ⟨b_2, rfl⟩, ht⟩) (fun q hq => by cases hq) dX7_as_10
set_option maxHeartbeats 4000000 in
set_option maxRecDepth 100000 in
theorem c_X7_price (l : Launch) (Z : YT) (hZ : MG Z) (g : Nat → Nat → Int32) (gl : Nat → Nat → Int64) (x1 : Int32) (x2 : Int32) (hJ : MJ g) : Met l yX7_price (Cond.code yX7_price cX7_price 3 (some .long) :: wsL_law) ({ frames := 3, cells := 0, slots := 0, locals := 68 } : Room) (va_Pc [.ref (ya Z 0), .int x1, .int x2] (MI Z g gl)) (rd_Ql (fun r => ((¬ ((0 ≤ x1.toInt ∧ x1.toInt < (g 31 0).toInt) ∧ (0 ≤ x2.toInt ∧ x2.toInt ≤ 63)) ∧ r = -101) ∨ (((0 ≤ x1.toInt ∧ x1.toInt < (g 31 0).toInt) ∧ (0 ≤ x2.toInt ∧ x2.toInt ≤ 63)) ∧ ¬ ((g 4 x1.toInt.toNat).toInt ≤ x2.toInt ∧ x2.toInt ≤ (g 5 x1.toInt.toNat).toInt) ∧ r = -102) ∨ (((0 ≤ x1.toInt ∧ x1.toInt < (g 31 0).toInt) ∧ (0 ≤ x2.toInt ∧ x2.toInt ≤ 63)) ∧ ((g 4 x1.toInt.toNat).toInt ≤ x2.toInt ∧ x2.toInt ≤ (g 5 x1.toInt.toNat).toInt) ∧ r = 3000000000 + mpr g x1.toInt.toNat x2)))) 0 0 (fun _ => False) := by
  refine Met.ofW (cc := cX7_price) (maxL := 3) (ret := (some .long)) (by decide) rfl ?_
  intro p e s m args below meth c s₁ B hml hv
  obtain ⟨rfl, hI⟩ := hv
  have hx := B.exec
  have hb := B.bytes
  have hr := B.returns
  have hT : ∀ w ∈ wsL_law, w.before ([.ref (ya Z 0), .int x1, .int x2] : List Value).toArray s = true := fun w h => atoms_spec (ws := (Cond.code yX7_price cX7_price 3 (some .long) :: wsL_law)) B.pre w (List.mem_cons_of_mem _ h)
  have hown : s.vm.findClass RX7 = some m.cls := findClass_of_methodNamed B.named
  have hlocks := B.notSynchronized
  have hK := hI.2
  have hP := hI.1
  have hS : va_S (yA Z) s.heap s.heap [] := va_S.rf
  have j31 := hJ.j31
  have hl := lv_entry ([.ref (ya Z 0), .int x1, .int x2]) (n := 3) (Nat.le_of_ble_eq_true rfl)
  rw [lg_entry_eq]
  generalize (lg_sl ([.ref (ya Z 0), .int x1, .int x2]) ++ List.replicate (3 - (lg_sl ([.ref (ya Z 0), .int x1, .int x2])).length) Slot.unset).toArray = ls at hl ⊢
  have hl : lv_has ls 3 [(0, .ref (ya Z 0)), (1, .int x1), (2, .int x2)] := hl
  refine lv_aload_n hx hb dX7_price_0 rfl (lv_at hl 0 rfl) ?_
  refine lv_iload_n hx hb dX7_price_1 rfl (lv_at hl 1 rfl) ?_
  refine rd_ci (va_runV (As := [.int x1]) (rest := []) ⟨hx, hb, hml, hown, hT⟩ (c_X7_isTariff l Z hZ g gl x1 hJ) (cwV 1 hT (tb_V (fun _ h => h) (tr_22 _ (List.mem_of_getElem? (i := 2) rfl)) (tr_22 _ (List.mem_of_getElem? (i := 3) rfl)) (tr_22 _ (List.mem_of_getElem? (i := 4) rfl)) (tr_1 _ (List.mem_of_getElem? (i := 5) rfl)) (tr_22 _ (List.mem_of_getElem? (i := 5) rfl))) rfl rfl rfl (by decide +kernel) ⟨Nat.le_of_ble_eq_true rfl, Nat.le_of_ble_eq_true rfl⟩) ⟨fun a U f mk q => ⟨q.1, MI.blind f mk a q.2⟩, va_recv hK hP (ci := 7) (q0 := 0) rfl mw_0, fun U hU hW => ⟨rfl, hI.at hS hP hU hW⟩⟩ rfl rfl hl.1 rfl (lv_room (Nat.le_of_ble_eq_true rfl)) dX7_price_2 ⟨Nat.zero_le _, Nat.zero_le _⟩) (fun r_2 hr_2 => ?_)
  rcases hr_2 with ⟨rfl, b_2⟩ | ⟨rfl, b_2⟩
  · skip
    refine lv_if_eq (tgt := 15) hx hb dX7_price_5 (by decide) (fun c_5 => absurd c_5 (by decide)) (fun c_5 => ?_)
    refine lv_iload_n hx hb dX7_price_8 rfl (lv_at hl 2 rfl) ?_
    refine rd_ci (va_runS (As := [.int x2]) (rest := []) ⟨hx, hb, hml, hown, hT⟩ (c_X7_isQuantity l x2) (va_cwS 1 hT (tb_S (fun _ h => h) (tr_25 _ (List.mem_of_getElem? (i := 2) rfl)) (tr_25 _ (List.mem_of_getElem? (i := 3) rfl)) (tr_1 _ (List.mem_of_getElem? (i := 5) rfl)) (tr_25 _ (List.mem_of_getElem? (i := 4) rfl))) rfl rfl rfl (by decide +kernel) ⟨Nat.le_of_ble_eq_true rfl, Nat.le_of_ble_eq_true rfl⟩) ⟨fun _ _ _ _ q => q, fun U hU hW => ⟨rfl, trivial⟩⟩ rfl rfl hl.1 rfl (lv_room (Nat.le_of_ble_eq_true rfl)) dX7_price_9 ⟨Nat.zero_le _, Nat.zero_le _⟩) (fun r_9 hr_9 => ?_)
    rcases hr_9 with ⟨rfl, b_9⟩ | ⟨rfl, b_9⟩
    · skip
      refine lv_if_ne (tgt := 19) hx hb dX7_price_12 (by decide) (fun c_12 => ?_) (fun c_12 => absurd c_12 (by decide))
      refine lv_aload_n hx hb dX7_price_19 rfl (lv_at hl 0 rfl) ?_
      refine lv_iload_n hx hb dX7_price_20 rfl (lv_at hl 1 rfl) ?_
      refine lv_iload_n hx hb dX7_price_21 rfl (lv_at hl 2 rfl) ?_
      refine rd_ci (va_runV (As := [.int x1, .int x2]) (rest := []) ⟨hx, hb, hml, hown, hT⟩ (c_X7_has l Z hZ g gl x1 x2 (by first | assumption | omega | decide) hJ) (cwV 2 hT (tb_V (fun _ h => h) (tr_25 _ (List.mem_of_getElem? (i := 5) rfl)) (tr_25 _ (List.mem_of_getElem? (i := 6) rfl)) (tr_25 _ (List.mem_of_getElem? (i := 7) rfl)) (tr_1 _ (List.mem_of_getElem? (i := 5) rfl)) (tr_25 _ (List.mem_of_getElem? (i := 8) rfl))) rfl rfl rfl (by decide +kernel) ⟨Nat.le_of_ble_eq_true rfl, Nat.le_of_ble_eq_true rfl⟩) ⟨fun a U f mk q => ⟨q.1, MI.blind f mk a q.2⟩, va_recv hK hP (ci := 7) (q0 := 0) rfl mw_0, fun U hU hW => ⟨rfl, hI.at hS hP hU hW⟩⟩ rfl rfl hl.1 rfl (lv_room (Nat.le_of_ble_eq_true rfl)) dX7_price_22 ⟨Nat.zero_le _, Nat.zero_le _⟩) (fun r_22 hr_22 => ?_)
      rcases hr_22 with ⟨rfl, b_22⟩ | ⟨rfl, b_22⟩
      · skip
        refine lv_if_eq (tgt := 41) hx hb dX7_price_25 (by decide) (fun c_25 => absurd c_25 (by decide)) (fun c_25 => ?_)
        refine lv_ldc2 (v := 3000000000) hx hb hown (hT _ (tr_25 _ (List.mem_of_getElem? (i := 0) rfl))) dX7_price_28 ?_
        refine lv_aload_n hx hb dX7_price_31 rfl (lv_at hl 0 rfl) ?_
        refine lv_iload_n hx hb dX7_price_32 rfl (lv_at hl 1 rfl) ?_
        refine lv_iload_n hx hb dX7_price_33 rfl (lv_at hl 2 rfl) ?_
        refine rd_cl (va_runV (As := [.int x1, .int x2]) (rest := [.long 3000000000]) ⟨hx, hb, hml, hown, hT⟩ (c_X7_priceOf l Z hZ g gl x1 x2 (by first | assumption | omega | decide) hJ) (cwV 2 hT (tb_V (fun _ h => h) (tr_19 _ (List.mem_of_getElem? (i := 5) rfl)) (tr_19 _ (List.mem_of_getElem? (i := 6) rfl)) (tr_19 _ (List.mem_of_getElem? (i := 7) rfl)) (tr_1 _ (List.mem_of_getElem? (i := 5) rfl)) (tr_19 _ (List.mem_of_getElem? (i := 8) rfl))) rfl rfl rfl (by decide +kernel) ⟨Nat.le_of_ble_eq_true rfl, Nat.le_of_ble_eq_true rfl⟩) ⟨fun a U f mk q => ⟨q.1, MI.blind f mk a q.2⟩, va_recv hK hP (ci := 7) (q0 := 0) rfl mw_0, fun U hU hW => ⟨rfl, hI.at hS hP hU hW⟩⟩ rfl rfl hl.1 rfl (lv_room (Nat.le_of_ble_eq_true rfl)) dX7_price_34 ⟨Nat.zero_le _, Nat.zero_le _⟩) (fun r_34 hr_34 => ?_)
        refine lv_ladd hx hb dX7_price_37 ?_
        refine lv_topl (fun v_37 e_37 => ?_)
        refine lv_goto (tgt := 44) hx hb dX7_price_38 (by decide) ?_
        exact W.lret (v := v_37) hx hb hr (fun t ht hW => ⟨v_37, rfl, Or.inr (Or.inr ⟨⟨b_2, b_9⟩, b_22, by rw [e_37, hr_34]; rfl⟩), ht⟩) (fun q hq => by cases hq) dX7_price_44
      · skip
        refine lv_if_eq (tgt := 41) hx hb dX7_price_25 (by decide) (fun c_25 => ?_) (fun c_25 => absurd c_25 (by decide))
        refine lv_ldc2 (v := (-102)) hx hb hown (hT _ (tr_25 _ (List.mem_of_getElem? (i := 1) rfl))) dX7_price_41 ?_
        exact W.lret (v := (-102)) hx hb hr (fun t ht hW => ⟨(-102), rfl, Or.inr (Or.inl ⟨⟨b_2, b_9⟩, b_22, rfl⟩), ht⟩) (fun q hq => by cases hq) dX7_price_44
    · skip
      refine lv_if_ne (tgt := 19) hx hb dX7_price_12 (by decide) (fun c_12 => absurd c_12 (by decide)) (fun c_12 => ?_)
      refine lv_ldc2 (v := (-101)) hx hb hown (hT _ (tr_24 _ (List.mem_of_getElem? (i := 23) rfl))) dX7_price_15 ?_
      exact W.lret (v := (-101)) hx hb hr (fun t ht hW => ⟨(-101), rfl, Or.inl ⟨by omega, rfl⟩, ht⟩) (fun q hq => by cases hq) dX7_price_18
  · skip
    refine lv_if_eq (tgt := 15) hx hb dX7_price_5 (by decide) (fun c_5 => ?_) (fun c_5 => absurd c_5 (by decide))
    refine lv_ldc2 (v := (-101)) hx hb hown (hT _ (tr_24 _ (List.mem_of_getElem? (i := 23) rfl))) dX7_price_15 ?_
    exact W.lret (v := (-101)) hx hb hr (fun t ht hW => ⟨(-101), rfl, Or.inl ⟨by omega, rfl⟩, ht⟩) (fun q hq => by cases hq) dX7_price_18
set_option maxHeartbeats 4000000 in
set_option maxRecDepth 100000 in
theorem c_X7_nodeNow (l : Launch) (Z : YT) (hZ : MG Z) (g : Nat → Nat → Int32) (gl : Nat → Nat → Int64) (x1 : Int32) (x2 : Int32) (h1 : 1 ≤ x1.toInt ∧ x1.toInt ≤ 127) (hJ : MJ g) : Met l yX7_nodeNow (Cond.code yX7_nodeNow cX7_nodeNow 3 (some .int) :: wsL_law) ({ frames := 3, cells := 0, slots := 0, locals := 63 } : Room) (va_Pc [.ref (ya Z 0), .int x1, .int x2] (MI Z g gl)) (rd_Qi (fun r => True)) 0 0 (fun _ => False) := by
  refine Met.ofW (cc := cX7_nodeNow) (maxL := 3) (ret := (some .int)) (by decide) rfl ?_
  intro p e s m args below meth c s₁ B hml hv
  obtain ⟨rfl, hI⟩ := hv
  have hx := B.exec
  have hb := B.bytes
  have hr := B.returns
  have hT : ∀ w ∈ wsL_law, w.before ([.ref (ya Z 0), .int x1, .int x2] : List Value).toArray s = true := fun w h => atoms_spec (ws := (Cond.code yX7_nodeNow cX7_nodeNow 3 (some .int) :: wsL_law)) B.pre w (List.mem_cons_of_mem _ h)
  have hown : s.vm.findClass RX7 = some m.cls := findClass_of_methodNamed B.named
  have hlocks := B.notSynchronized
  have hK := hI.2
  have hP := hI.1
  have hS : va_S (yA Z) s.heap s.heap [] := va_S.rf
  have hl := lv_entry ([.ref (ya Z 0), .int x1, .int x2]) (n := 3) (Nat.le_of_ble_eq_true rfl)
  rw [lg_entry_eq]
  generalize (lg_sl ([.ref (ya Z 0), .int x1, .int x2]) ++ List.replicate (3 - (lg_sl ([.ref (ya Z 0), .int x1, .int x2])).length) Slot.unset).toArray = ls at hl ⊢
  have hl : lv_has ls 3 [(0, .ref (ya Z 0)), (1, .int x1), (2, .int x2)] := hl
  refine lv_iload_n hx hb dX7_nodeNow_0 rfl (lv_at hl 2 rfl) ?_
  by_cases w_1_0 : x2 = 0
  · skip
    refine lv_tableIn (tgt := 28) (off := 27) hx hb dX7_nodeNow_1 (by rw [w_1_0]; decide) (by rw [w_1_0]; decide) (by rw [w_1_0]; decide) (by decide) ?_
    refine lv_aload_n hx hb dX7_nodeNow_28 rfl (lv_at hl 0 rfl) ?_
    refine va_get (D := yD Z) (ci := 7) (v := .ref (ya Z 6)) (C := RX7) (T := TX7) (N := 31) hx hb hT inlX7 hown hK hP 0 mw_0 rfl 7 (by decide) (hT _ (tr_4 _ (List.mem_of_getElem? (i := 18) rfl))) (fun _ h9 => h9) rfl dX7_nodeNow_29 ?_
    refine lv_iload_n hx hb dX7_nodeNow_32 rfl (lv_at hl 1 rfl) ?_
    have h_33 : vp_in x1 128 := (ti_vp (by omega) (by omega))
    refine va_iald hx hb hK hP 6 1 mw_6 rfl h_33 dX7_nodeNow_33 ?_
    refine lv_topi (fun v_33 e_33 => ?_)
    exact W.iret (v := v_33) hx hb hr (fun t ht hW => ⟨v_33, rfl, trivial, ht⟩) (fun q hq => by cases hq) dX7_nodeNow_34
  by_cases w_1_1 : x2 = 1
  · skip
    refine lv_tableIn (tgt := 35) (off := 34) hx hb dX7_nodeNow_1 (by rw [w_1_1]; decide) (by rw [w_1_1]; decide) (by rw [w_1_1]; decide) (by decide) ?_
    refine lv_iload_n hx hb dX7_nodeNow_35 rfl (lv_at hl 1 rfl) ?_
    refine rd_ci (va_runS (As := [.int x1]) (rest := []) ⟨hx, hb, hml, hown, hT⟩ (c_X7_firstAt l x1 (by first | assumption | omega | decide)) (va_cwS 1 hT (tb_S (fun _ h => h) (tr_18 _ (List.mem_of_getElem? (i := 9) rfl)) (tr_18 _ (List.mem_of_getElem? (i := 10) rfl)) (tr_1 _ (List.mem_of_getElem? (i := 5) rfl)) (tr_18 _ (List.mem_of_getElem? (i := 11) rfl))) rfl rfl rfl (by decide +kernel) ⟨Nat.le_of_ble_eq_true rfl, Nat.le_of_ble_eq_true rfl⟩) ⟨fun _ _ _ _ q => q, fun U hU hW => ⟨rfl, trivial⟩⟩ rfl rfl hl.1 rfl (lv_room (Nat.le_of_ble_eq_true rfl)) dX7_nodeNow_36 ⟨Nat.zero_le _, Nat.zero_le _⟩) (fun r_36 hr_36 => ?_)
    exact W.iret (v := r_36) hx hb hr (fun t ht hW => ⟨r_36, rfl, trivial, ht⟩) (fun q hq => by cases hq) dX7_nodeNow_39
  by_cases w_1_2 : x2 = 2
  · skip
    refine lv_tableIn (tgt := 40) (off := 39) hx hb dX7_nodeNow_1 (by rw [w_1_2]; decide) (by rw [w_1_2]; decide) (by rw [w_1_2]; decide) (by decide) ?_
    refine lv_iload_n hx hb dX7_nodeNow_40 rfl (lv_at hl 1 rfl) ?_
    refine rd_ci (va_runS (As := [.int x1]) (rest := []) ⟨hx, hb, hml, hown, hT⟩ (c_X7_lastAt l x1 (by first | assumption | omega | decide)) (va_cwS 1 hT (tb_S (fun _ h => h) (tr_18 _ (List.mem_of_getElem? (i := 15) rfl)) (tr_18 _ (List.mem_of_getElem? (i := 16) rfl)) (tr_1 _ (List.mem_of_getElem? (i := 5) rfl)) (tr_18 _ (List.mem_of_getElem? (i := 17) rfl))) rfl rfl rfl (by decide +kernel) ⟨Nat.le_of_ble_eq_true rfl, Nat.le_of_ble_eq_true rfl⟩) ⟨fun _ _ _ _ q => q, fun U hU hW => ⟨rfl, trivial⟩⟩ rfl rfl hl.1 rfl (lv_room (Nat.le_of_ble_eq_true rfl)) dX7_nodeNow_41 ⟨Nat.zero_le _, Nat.zero_le _⟩) (fun r_41 hr_41 => ?_)
    exact W.iret (v := r_41) hx hb hr (fun t ht hW => ⟨r_41, rfl, trivial, ht⟩) (fun q hq => by cases hq) dX7_nodeNow_44
  have n_1_0 := ti_nek rfl tk_0 w_1_0
  have n_1_1 := ti_nek rfl tk_1 w_1_1
  have n_1_2 := ti_nek rfl tk_2 w_1_2
  refine lv_tableOut (tgt := 45) hx hb dX7_nodeNow_1 (by omega) (by decide) ?_
  refine lv_iload_n hx hb dX7_nodeNow_45 rfl (lv_at hl 1 rfl) ?_
  refine rd_ci (va_runS (As := [.int x1]) (rest := []) ⟨hx, hb, hml, hown, hT⟩ (c_X7_middleAt l x1 (by first | assumption | omega | decide)) (va_cwS 1 hT (tb_S (fun _ h => h) (tr_18 _ (List.mem_of_getElem? (i := 22) rfl)) (tr_18 _ (List.mem_of_getElem? (i := 23) rfl)) (tr_1 _ (List.mem_of_getElem? (i := 5) rfl)) (tr_19 _ (List.mem_of_getElem? (i := 0) rfl))) rfl rfl rfl (by decide +kernel) ⟨Nat.le_of_ble_eq_true rfl, Nat.le_of_ble_eq_true rfl⟩) ⟨fun _ _ _ _ q => q, fun U hU hW => ⟨rfl, trivial⟩⟩ rfl rfl hl.1 rfl (lv_room (Nat.le_of_ble_eq_true rfl)) dX7_nodeNow_46 ⟨Nat.zero_le _, Nat.zero_le _⟩) (fun r_46 hr_46 => ?_)
  exact W.iret (v := r_46) hx hb hr (fun t ht hW => ⟨r_46, rfl, trivial, ht⟩) (fun q hq => by cases hq) dX7_nodeNow_49
set_option maxHeartbeats 4000000 in
set_option maxRecDepth 100000 in
theorem c_X7_node (l : Launch) (Z : YT) (hZ : MG Z) (g : Nat → Nat → Int32) (gl : Nat → Nat → Int64) (x1 : Int32) (x2 : Int32) (hJ : MJ g) : Met l yX7_node (Cond.code yX7_node cX7_node 3 (some .int) :: wsL_law) ({ frames := 4, cells := 0, slots := 0, locals := 85 } : Room) (va_Pc [.ref (ya Z 0), .int x1, .int x2] (MI Z g gl)) (rd_Qi (fun r => True)) 0 0 (fun _ => False) := by
  refine Met.ofW (cc := cX7_node) (maxL := 3) (ret := (some .int)) (by decide) rfl ?_
  intro p e s m args below meth c s₁ B hml hv
  obtain ⟨rfl, hI⟩ := hv
  have hx := B.exec
  have hb := B.bytes
  have hr := B.returns
  have hT : ∀ w ∈ wsL_law, w.before ([.ref (ya Z 0), .int x1, .int x2] : List Value).toArray s = true := fun w h => atoms_spec (ws := (Cond.code yX7_node cX7_node 3 (some .int) :: wsL_law)) B.pre w (List.mem_cons_of_mem _ h)
  have hown : s.vm.findClass RX7 = some m.cls := findClass_of_methodNamed B.named
  have hlocks := B.notSynchronized
  have hK := hI.2
  have hP := hI.1
  have hS : va_S (yA Z) s.heap s.heap [] := va_S.rf
  have hl := lv_entry ([.ref (ya Z 0), .int x1, .int x2]) (n := 3) (Nat.le_of_ble_eq_true rfl)
  rw [lg_entry_eq]
  generalize (lg_sl ([.ref (ya Z 0), .int x1, .int x2]) ++ List.replicate (3 - (lg_sl ([.ref (ya Z 0), .int x1, .int x2])).length) Slot.unset).toArray = ls at hl ⊢
  have hl : lv_has ls 3 [(0, .ref (ya Z 0)), (1, .int x1), (2, .int x2)] := hl
  refine lv_aload_n hx hb dX7_node_0 rfl (lv_at hl 0 rfl) ?_
  refine va_get (D := yD Z) (ci := 7) (v := .int (g 30 0)) (C := RX7) (T := TX7) (N := 31) hx hb hT inlX7 hown hK hP 0 mw_0 rfl 0 (by decide) (hT _ (tr_17 _ (List.mem_of_getElem? (i := 15) rfl))) (fun _ h9 => h9) rfl dX7_node_1 ?_
  refine lv_if_eq (tgt := 17) hx hb dX7_node_4 (by decide) (fun c_4 => ?_) (fun c_4 => ?_)
  · skip
    have i_4 := ti_eqk rfl tk_0 c_4
    refine lv_bipush (v := (-101)) hx hb dX7_node_17 (by decide) ?_
    exact W.iret (v := (-101)) hx hb hr (fun t ht hW => ⟨(-101), rfl, trivial, ht⟩) (fun q hq => by cases hq) dX7_node_19
  · skip
    have i_4 := ti_nek rfl tk_0 c_4
    refine lv_iload_n hx hb dX7_node_7 rfl (lv_at hl 1 rfl) ?_
    refine lv_iconst (v := 1) hx hb dX7_node_8 (by decide) ?_
    refine lv_bipush (v := 127) hx hb dX7_node_9 (by decide) ?_
    refine rd_ci (va_runS (As := [.int x1, .int 1, .int 127]) (rest := []) ⟨hx, hb, hml, hown, hT⟩ (c_X7_within l x1 1 127) (va_cwS 3 hT (tb_S (fun _ h => h) (tr_6 _ (List.mem_of_getElem? (i := 0) rfl)) (tr_6 _ (List.mem_of_getElem? (i := 1) rfl)) (tr_1 _ (List.mem_of_getElem? (i := 5) rfl)) (tr_6 _ (List.mem_of_getElem? (i := 2) rfl))) rfl rfl rfl (by decide +kernel) ⟨Nat.le_of_ble_eq_true rfl, Nat.le_of_ble_eq_true rfl⟩) ⟨fun _ _ _ _ q => q, fun U hU hW => ⟨rfl, trivial⟩⟩ rfl rfl hl.1 rfl (lv_room (Nat.le_of_ble_eq_true rfl)) dX7_node_11 ⟨Nat.zero_le _, Nat.zero_le _⟩) (fun r_11 hr_11 => ?_)
    rcases hr_11 with ⟨rfl, b_11⟩ | ⟨rfl, b_11⟩
    · skip
      (try simp only [tk_1, tk_127] at b_11)
      refine lv_if_ne (tgt := 20) hx hb dX7_node_14 (by decide) (fun c_14 => ?_) (fun c_14 => absurd c_14 (by decide))
      refine lv_iload_n hx hb dX7_node_20 rfl (lv_at hl 2 rfl) ?_
      refine lv_iconst (v := 0) hx hb dX7_node_21 (by decide) ?_
      refine lv_iconst (v := 3) hx hb dX7_node_22 (by decide) ?_
      refine rd_ci (va_runS (As := [.int x2, .int 0, .int 3]) (rest := []) ⟨hx, hb, hml, hown, hT⟩ (c_X7_within l x2 0 3) (va_cwS 3 hT (tb_S (fun _ h => h) (tr_6 _ (List.mem_of_getElem? (i := 0) rfl)) (tr_6 _ (List.mem_of_getElem? (i := 1) rfl)) (tr_1 _ (List.mem_of_getElem? (i := 5) rfl)) (tr_6 _ (List.mem_of_getElem? (i := 2) rfl))) rfl rfl rfl (by decide +kernel) ⟨Nat.le_of_ble_eq_true rfl, Nat.le_of_ble_eq_true rfl⟩) ⟨fun _ _ _ _ q => q, fun U hU hW => ⟨rfl, trivial⟩⟩ rfl rfl hl.1 rfl (lv_room (Nat.le_of_ble_eq_true rfl)) dX7_node_23 ⟨Nat.zero_le _, Nat.zero_le _⟩) (fun r_23 hr_23 => ?_)
      rcases hr_23 with ⟨rfl, b_23⟩ | ⟨rfl, b_23⟩
      · skip
        (try simp only [tk_0, tk_3] at b_23)
        refine lv_if_eq (tgt := 38) hx hb dX7_node_26 (by decide) (fun c_26 => absurd c_26 (by decide)) (fun c_26 => ?_)
        refine lv_aload_n hx hb dX7_node_29 rfl (lv_at hl 0 rfl) ?_
        refine lv_iload_n hx hb dX7_node_30 rfl (lv_at hl 1 rfl) ?_
        refine lv_iload_n hx hb dX7_node_31 rfl (lv_at hl 2 rfl) ?_
        refine rd_ci (va_runV (As := [.int x1, .int x2]) (rest := []) ⟨hx, hb, hml, hown, hT⟩ (c_X7_nodeNow l Z hZ g gl x1 x2 (by first | assumption | omega | decide) hJ) (cwV 2 hT (tb_V (fun _ h => h) (tr_26 _ (List.mem_of_getElem? (i := 0) rfl)) (tr_26 _ (List.mem_of_getElem? (i := 1) rfl)) (tr_26 _ (List.mem_of_getElem? (i := 2) rfl)) (tr_1 _ (List.mem_of_getElem? (i := 5) rfl)) (tr_26 _ (List.mem_of_getElem? (i := 3) rfl))) rfl rfl rfl (by decide +kernel) ⟨Nat.le_of_ble_eq_true rfl, Nat.le_of_ble_eq_true rfl⟩) ⟨fun a U f mk q => ⟨q.1, MI.blind f mk a q.2⟩, va_recv hK hP (ci := 7) (q0 := 0) rfl mw_0, fun U hU hW => ⟨rfl, hI.at hS hP hU hW⟩⟩ rfl rfl hl.1 rfl (lv_room (Nat.le_of_ble_eq_true rfl)) dX7_node_32 ⟨Nat.zero_le _, Nat.zero_le _⟩) (fun r_32 hr_32 => ?_)
        refine lv_goto (tgt := 40) hx hb dX7_node_35 (by decide) ?_
        exact W.iret (v := r_32) hx hb hr (fun t ht hW => ⟨r_32, rfl, trivial, ht⟩) (fun q hq => by cases hq) dX7_node_40
      · skip
        (try simp only [tk_0, tk_3] at b_23)
        refine lv_if_eq (tgt := 38) hx hb dX7_node_26 (by decide) (fun c_26 => ?_) (fun c_26 => absurd c_26 (by decide))
        refine lv_bipush (v := (-102)) hx hb dX7_node_38 (by decide) ?_
        exact W.iret (v := (-102)) hx hb hr (fun t ht hW => ⟨(-102), rfl, trivial, ht⟩) (fun q hq => by cases hq) dX7_node_40
    · skip
      (try simp only [tk_1, tk_127] at b_11)
      refine lv_if_ne (tgt := 20) hx hb dX7_node_14 (by decide) (fun c_14 => absurd c_14 (by decide)) (fun c_14 => ?_)
      refine lv_bipush (v := (-101)) hx hb dX7_node_17 (by decide) ?_
      exact W.iret (v := (-101)) hx hb hr (fun t ht hW => ⟨(-101), rfl, trivial, ht⟩) (fun q hq => by cases hq) dX7_node_19
set_option maxHeartbeats 4000000 in
set_option maxRecDepth 100000 in
theorem c_X7_isSpan (l : Launch) (x1 : Int32) : Met l yX7_isSpan (Cond.code yX7_isSpan cX7_isSpan 1 (some .boolean) :: wsL_law) ({ frames := 2, cells := 0, slots := 0, locals := 42 } : Room) (va_Pc [.int x1] (fun _ => True)) (rd_Qi (fun r => (r = 1 ∧ (0 ≤ x1.toInt ∧ (x1 / 100).toInt ≤ 63 ∧ (x1 - x1 / 100 * 100).toInt ≤ 63 ∧ (x1 / 100).toInt ≤ (x1 - x1 / 100 * 100).toInt)) ∨ (r = 0 ∧ ¬ (0 ≤ x1.toInt ∧ (x1 / 100).toInt ≤ 63 ∧ (x1 - x1 / 100 * 100).toInt ≤ 63 ∧ (x1 / 100).toInt ≤ (x1 - x1 / 100 * 100).toInt)))) 0 0 (fun _ => False) := by
  refine Met.ofW (cc := cX7_isSpan) (maxL := 1) (ret := (some .boolean)) (by decide) rfl ?_
  intro p e s m args below meth c s₁ B hml hv
  obtain ⟨rfl, hI⟩ := hv
  have hx := B.exec
  have hb := B.bytes
  have hr := B.returns
  have hT : ∀ w ∈ wsL_law, w.before ([.int x1] : List Value).toArray s = true := fun w h => atoms_spec (ws := (Cond.code yX7_isSpan cX7_isSpan 1 (some .boolean) :: wsL_law)) B.pre w (List.mem_cons_of_mem _ h)
  have hown : s.vm.findClass RX7 = some m.cls := findClass_of_methodNamed B.named
  have hlocks := B.notSynchronized
  have hl := lv_entry ([.int x1]) (n := 1) (Nat.le_of_ble_eq_true rfl)
  rw [lg_entry_eq]
  generalize (lg_sl ([.int x1]) ++ List.replicate (1 - (lg_sl ([.int x1])).length) Slot.unset).toArray = ls at hl ⊢
  have hl : lv_has ls 1 [(0, .int x1)] := hl
  refine lv_iload_n hx hb dX7_isSpan_0 rfl (lv_at hl 0 rfl) ?_
  refine lv_if_lt (tgt := 34) hx hb dX7_isSpan_1 (by decide) (fun c_1 => ?_) (fun c_1 => ?_)
  · skip
    have i_1 := ti_ltk rfl tk_0 c_1
    refine lv_iconst (v := 0) hx hb dX7_isSpan_34 (by decide) ?_
    exact W.zret (v := 0) (ty := .boolean) hx hb hr rfl (fun t ht hW => ⟨0, rfl, Or.inr ⟨rfl, (by (try dsimp only); first | (rw [← e_17, ← e_7]; omega) | (rw [← e_7]; omega) | omega)⟩, ht⟩) (fun q hq => by cases hq) dX7_isSpan_35
  · skip
    have i_1 := ti_nltk rfl tk_0 c_1
    refine lv_iload_n hx hb dX7_isSpan_4 rfl (lv_at hl 0 rfl) ?_
    refine lv_bipush (v := 100) hx hb dX7_isSpan_5 (by decide) ?_
    refine lv_idiv hx hb dX7_isSpan_7 (by decide) ?_
    refine lv_topi (fun v_7 e_7 => ?_)
    have t_7 := ti_divk rfl tk_100 (by omega) (by omega) e_7
    refine rd_ci (va_runS (As := [.int v_7]) (rest := []) ⟨hx, hb, hml, hown, hT⟩ (c_X7_isQuantity l v_7) (va_cwS 1 hT (tb_S (fun _ h => h) (tr_25 _ (List.mem_of_getElem? (i := 2) rfl)) (tr_25 _ (List.mem_of_getElem? (i := 3) rfl)) (tr_1 _ (List.mem_of_getElem? (i := 5) rfl)) (tr_25 _ (List.mem_of_getElem? (i := 4) rfl))) rfl rfl rfl (by decide +kernel) ⟨Nat.le_of_ble_eq_true rfl, Nat.le_of_ble_eq_true rfl⟩) ⟨fun _ _ _ _ q => q, fun U hU hW => ⟨rfl, trivial⟩⟩ rfl rfl hl.1 rfl (lv_room (Nat.le_of_ble_eq_true rfl)) dX7_isSpan_8 ⟨Nat.zero_le _, Nat.zero_le _⟩) (fun r_8 hr_8 => ?_)
    rcases hr_8 with ⟨rfl, b_8⟩ | ⟨rfl, b_8⟩
    · skip
      refine lv_if_eq (tgt := 34) hx hb dX7_isSpan_11 (by decide) (fun c_11 => absurd c_11 (by decide)) (fun c_11 => ?_)
      refine lv_iload_n hx hb dX7_isSpan_14 rfl (lv_at hl 0 rfl) ?_
      refine lv_bipush (v := 100) hx hb dX7_isSpan_15 (by decide) ?_
      refine lv_irem hx hb dX7_isSpan_17 (by decide) ?_
      refine lv_topi (fun v_17 e_17 => ?_)
      have t_17 := ti_remk rfl tk_100 (by omega) (by omega) e_17
      refine lv_iload_n hx hb dX7_isSpan_18 rfl (lv_at hl 0 rfl) ?_
      refine lv_bipush (v := 100) hx hb dX7_isSpan_19 (by decide) ?_
      refine lv_idiv hx hb dX7_isSpan_21 (by decide) ?_
      refine lv_topi (fun v_21 e_21 => ?_)
      have t_21 := ti_divk rfl tk_100 (by omega) (by omega) e_21
      refine lv_bipush (v := 63) hx hb dX7_isSpan_22 (by decide) ?_
      refine rd_ci (va_runS (As := [.int v_17, .int v_21, .int 63]) (rest := []) ⟨hx, hb, hml, hown, hT⟩ (c_X7_within l v_17 v_21 63) (va_cwS 3 hT (tb_S (fun _ h => h) (tr_6 _ (List.mem_of_getElem? (i := 0) rfl)) (tr_6 _ (List.mem_of_getElem? (i := 1) rfl)) (tr_1 _ (List.mem_of_getElem? (i := 5) rfl)) (tr_6 _ (List.mem_of_getElem? (i := 2) rfl))) rfl rfl rfl (by decide +kernel) ⟨Nat.le_of_ble_eq_true rfl, Nat.le_of_ble_eq_true rfl⟩) ⟨fun _ _ _ _ q => q, fun U hU hW => ⟨rfl, trivial⟩⟩ rfl rfl hl.1 rfl (lv_room (Nat.le_of_ble_eq_true rfl)) dX7_isSpan_24 ⟨Nat.zero_le _, Nat.zero_le _⟩) (fun r_24 hr_24 => ?_)
      rcases hr_24 with ⟨rfl, b_24⟩ | ⟨rfl, b_24⟩
      · skip
        (try simp only [tk_63] at b_24)
        refine lv_if_eq (tgt := 34) hx hb dX7_isSpan_27 (by decide) (fun c_27 => absurd c_27 (by decide)) (fun c_27 => ?_)
        refine lv_iconst (v := 1) hx hb dX7_isSpan_30 (by decide) ?_
        refine lv_goto (tgt := 35) hx hb dX7_isSpan_31 (by decide) ?_
        exact W.zret (v := 1) (ty := .boolean) hx hb hr rfl (fun t ht hW => ⟨1, rfl, Or.inl ⟨rfl, (by (try dsimp only); first | (rw [← e_17, ← e_7]; omega) | (rw [← e_7]; omega) | omega)⟩, ht⟩) (fun q hq => by cases hq) dX7_isSpan_35
      · skip
        (try simp only [tk_63] at b_24)
        refine lv_if_eq (tgt := 34) hx hb dX7_isSpan_27 (by decide) (fun c_27 => ?_) (fun c_27 => absurd c_27 (by decide))
        refine lv_iconst (v := 0) hx hb dX7_isSpan_34 (by decide) ?_
        exact W.zret (v := 0) (ty := .boolean) hx hb hr rfl (fun t ht hW => ⟨0, rfl, Or.inr ⟨rfl, (by (try dsimp only); first | (rw [← e_17, ← e_7]; omega) | (rw [← e_7]; omega) | omega)⟩, ht⟩) (fun q hq => by cases hq) dX7_isSpan_35
    · skip
      refine lv_if_eq (tgt := 34) hx hb dX7_isSpan_11 (by decide) (fun c_11 => ?_) (fun c_11 => absurd c_11 (by decide))
      refine lv_iconst (v := 0) hx hb dX7_isSpan_34 (by decide) ?_
      exact W.zret (v := 0) (ty := .boolean) hx hb hr rfl (fun t ht hW => ⟨0, rfl, Or.inr ⟨rfl, (by (try dsimp only); first | (rw [← e_17, ← e_7]; omega) | (rw [← e_7]; omega) | omega)⟩, ht⟩) (fun q hq => by cases hq) dX7_isSpan_35
set_option maxHeartbeats 4000000 in
set_option maxRecDepth 100000 in
theorem c_X7_refused (l : Launch) (Z : YT) (hZ : MG Z) (g : Nat → Nat → Int32) (gl : Nat → Nat → Int64) (x1 : Int32) (x2 : Int32) (x3 : Int32) (x4 : Int32) (h40 : (g 31 0).toInt ≤ 40) (hJ : MJ g) : Met l yX7_refused (Cond.code yX7_refused cX7_refused 5 (some .int) :: wsL_law) ({ frames := 3, cells := 0, slots := 0, locals := 71 } : Room) (va_Pc [.ref (ya Z 0), .int x1, .int x2, .int x3, .int x4] (MI Z g gl)) (rd_Qi (fun r => rjF (g 30 0) (g 31 0) x1 x2 x3 x4 r)) 0 0 (fun _ => False) := by
  refine Met.ofW (cc := cX7_refused) (maxL := 5) (ret := (some .int)) (by decide) rfl ?_
  intro p e s m args below meth c s₁ B hml hv
  obtain ⟨rfl, hI⟩ := hv
  have hx := B.exec
  have hb := B.bytes
  have hr := B.returns
  have hT : ∀ w ∈ wsL_law, w.before ([.ref (ya Z 0), .int x1, .int x2, .int x3, .int x4] : List Value).toArray s = true := fun w h => atoms_spec (ws := (Cond.code yX7_refused cX7_refused 5 (some .int) :: wsL_law)) B.pre w (List.mem_cons_of_mem _ h)
  have hown : s.vm.findClass RX7 = some m.cls := findClass_of_methodNamed B.named
  have hlocks := B.notSynchronized
  have hK := hI.2
  have hP := hI.1
  have hS : va_S (yA Z) s.heap s.heap [] := va_S.rf
  have hl := lv_entry ([.ref (ya Z 0), .int x1, .int x2, .int x3, .int x4]) (n := 5) (Nat.le_of_ble_eq_true rfl)
  rw [lg_entry_eq]
  generalize (lg_sl ([.ref (ya Z 0), .int x1, .int x2, .int x3, .int x4]) ++ List.replicate (5 - (lg_sl ([.ref (ya Z 0), .int x1, .int x2, .int x3, .int x4])).length) Slot.unset).toArray = ls at hl ⊢
  have hl : lv_has ls 5 [(0, .ref (ya Z 0)), (1, .int x1), (2, .int x2), (3, .int x3), (4, .int x4)] := hl
  refine lv_iload_n hx hb dX7_refused_0 rfl (lv_at hl 1 rfl) ?_
  refine lv_iconst (v := 0) hx hb dX7_refused_1 (by decide) ?_
  refine lv_iconst (v := 4) hx hb dX7_refused_2 (by decide) ?_
  refine rd_ci (va_runS (As := [.int x1, .int 0, .int 4]) (rest := []) ⟨hx, hb, hml, hown, hT⟩ (c_X7_within l x1 0 4) (va_cwS 3 hT (tb_S (fun _ h => h) (tr_6 _ (List.mem_of_getElem? (i := 0) rfl)) (tr_6 _ (List.mem_of_getElem? (i := 1) rfl)) (tr_1 _ (List.mem_of_getElem? (i := 5) rfl)) (tr_6 _ (List.mem_of_getElem? (i := 2) rfl))) rfl rfl rfl (by decide +kernel) ⟨Nat.le_of_ble_eq_true rfl, Nat.le_of_ble_eq_true rfl⟩) ⟨fun _ _ _ _ q => q, fun U hU hW => ⟨rfl, trivial⟩⟩ rfl rfl hl.1 rfl (lv_room (Nat.le_of_ble_eq_true rfl)) dX7_refused_3 ⟨Nat.zero_le _, Nat.zero_le _⟩) (fun r_3 hr_3 => ?_)
  rcases hr_3 with ⟨rfl, b_3⟩ | ⟨rfl, b_3⟩
  · skip
    (try simp only [tk_0, tk_4] at b_3)
    refine lv_if_eq (tgt := 36) hx hb dX7_refused_6 (by decide) (fun c_6 => absurd c_6 (by decide)) (fun c_6 => ?_)
    refine lv_iload hx hb dX7_refused_9 (lv_at hl 4 rfl) ?_
    refine rd_ci (va_runS (As := [.int x4]) (rest := []) ⟨hx, hb, hml, hown, hT⟩ (c_X7_isSpan l x4) (va_cwS 1 hT (tb_S (fun _ h => h) (tr_27 _ (List.mem_of_getElem? (i := 11) rfl)) (tr_27 _ (List.mem_of_getElem? (i := 12) rfl)) (tr_1 _ (List.mem_of_getElem? (i := 5) rfl)) (tr_27 _ (List.mem_of_getElem? (i := 13) rfl))) rfl rfl rfl (by decide +kernel) ⟨Nat.le_of_ble_eq_true rfl, Nat.le_of_ble_eq_true rfl⟩) ⟨fun _ _ _ _ q => q, fun U hU hW => ⟨rfl, trivial⟩⟩ rfl rfl hl.1 rfl (lv_room (Nat.le_of_ble_eq_true rfl)) dX7_refused_11 ⟨Nat.zero_le _, Nat.zero_le _⟩) (fun r_11 hr_11 => ?_)
    rcases hr_11 with ⟨rfl, b_11⟩ | ⟨rfl, b_11⟩
    · skip
      refine lv_if_eq (tgt := 36) hx hb dX7_refused_14 (by decide) (fun c_14 => absurd c_14 (by decide)) (fun c_14 => ?_)
      refine lv_iload_n hx hb dX7_refused_17 rfl (lv_at hl 1 rfl) ?_
      refine lv_iload_n hx hb dX7_refused_18 rfl (lv_at hl 2 rfl) ?_
      refine lv_iload_n hx hb dX7_refused_19 rfl (lv_at hl 3 rfl) ?_
      refine lv_iload hx hb dX7_refused_20 (lv_at hl 4 rfl) ?_
      refine lv_bipush (v := 100) hx hb dX7_refused_22 (by decide) ?_
      refine lv_idiv hx hb dX7_refused_24 (by decide) ?_
      refine lv_topi (fun v_24 e_24 => ?_)
      refine lv_iload hx hb dX7_refused_25 (lv_at hl 4 rfl) ?_
      refine lv_bipush (v := 100) hx hb dX7_refused_27 (by decide) ?_
      refine lv_irem hx hb dX7_refused_29 (by decide) ?_
      refine lv_topi (fun v_29 e_29 => ?_)
      refine rd_ci (va_runS (As := [.int x1, .int x2, .int x3, .int v_24, .int v_29]) (rest := []) ⟨hx, hb, hml, hown, hT⟩ (c_X7_isTooGreat l x1 x2 x3 v_24 v_29) (va_cwS 5 hT (tb_S (fun _ h => h) (tr_27 _ (List.mem_of_getElem? (i := 14) rfl)) (tr_27 _ (List.mem_of_getElem? (i := 15) rfl)) (tr_1 _ (List.mem_of_getElem? (i := 5) rfl)) (tr_27 _ (List.mem_of_getElem? (i := 16) rfl))) rfl rfl rfl (by decide +kernel) ⟨Nat.le_of_ble_eq_true rfl, Nat.le_of_ble_eq_true rfl⟩) ⟨fun _ _ _ _ q => q, fun U hU hW => ⟨rfl, trivial⟩⟩ rfl rfl hl.1 rfl (lv_room (Nat.le_of_ble_eq_true rfl)) dX7_refused_30 ⟨Nat.zero_le _, Nat.zero_le _⟩) (fun r_30 hr_30 => ?_)
      rcases hr_30 with ⟨rfl, b_30⟩ | ⟨rfl, b_30⟩
      · skip
        refine lv_if_eq (tgt := 39) hx hb dX7_refused_33 (by decide) (fun c_33 => absurd c_33 (by decide)) (fun c_33 => ?_)
        refine lv_bipush (v := (-102)) hx hb dX7_refused_36 (by decide) ?_
        exact W.iret (v := (-102)) hx hb hr (fun t ht hW => ⟨(-102), rfl, Or.inl ⟨fun q => by first | exact b_3 q.1 | exact b_11 ⟨q.2.1, q.2.2.1, q.2.2.2.1, q.2.2.2.2.1⟩ | (rw [e_24, e_29] at b_30; exact q.2.2.2.2.2 b_30), rfl⟩, ht⟩) (fun q hq => by cases hq) dX7_refused_38
      · skip
        refine lv_if_eq (tgt := 39) hx hb dX7_refused_33 (by decide) (fun c_33 => ?_) (fun c_33 => absurd c_33 (by decide))
        refine lv_aload_n hx hb dX7_refused_39 rfl (lv_at hl 0 rfl) ?_
        refine va_get (D := yD Z) (ci := 7) (v := .int (g 30 0)) (C := RX7) (T := TX7) (N := 31) hx hb hT inlX7 hown hK hP 0 mw_0 rfl 0 (by decide) (hT _ (tr_17 _ (List.mem_of_getElem? (i := 15) rfl))) (fun _ h9 => h9) rfl dX7_refused_40 ?_
        refine lv_if_ne (tgt := 51) hx hb dX7_refused_43 (by decide) (fun c_43 => ?_) (fun c_43 => ?_)
        · skip
          have i_43 := ti_nek rfl tk_0 c_43
          refine lv_aload_n hx hb dX7_refused_51 rfl (lv_at hl 0 rfl) ?_
          refine va_get (D := yD Z) (ci := 7) (v := .int (g 31 0)) (C := RX7) (T := TX7) (N := 31) hx hb hT inlX7 hown hK hP 0 mw_0 rfl 1 (by decide) (hT _ (tr_17 _ (List.mem_of_getElem? (i := 14) rfl))) (fun _ h9 => h9) rfl dX7_refused_52 ?_
          refine lv_bipush (v := 40) hx hb dX7_refused_55 (by decide) ?_
          refine lv_icmp_ne (tgt := 65) hx hb dX7_refused_57 (by decide) (fun c_57 => ?_) (fun c_57 => ?_)
          · skip
            have i_57 := ti_nek rfl tk_40 c_57
            refine lv_iconst (v := 0) hx hb dX7_refused_65 (by decide) ?_
            exact W.iret (v := 0) hx hb hr (fun t ht hW => ⟨0, rfl, Or.inr (Or.inr (Or.inr ⟨⟨b_3, b_11.1, b_11.2.1, b_11.2.2.1, b_11.2.2.2, by rw [e_24, e_29] at b_30; exact b_30⟩, c_43, by omega, rfl⟩)), ht⟩) (fun q hq => by cases hq) dX7_refused_66
          · skip
            have i_57 := ti_eqk rfl tk_40 c_57
            refine lv_bipush (v := (-104)) hx hb dX7_refused_60 (by decide) ?_
            refine lv_goto (tgt := 66) hx hb dX7_refused_62 (by decide) ?_
            exact W.iret (v := (-104)) hx hb hr (fun t ht hW => ⟨(-104), rfl, Or.inr (Or.inr (Or.inl ⟨⟨b_3, b_11.1, b_11.2.1, b_11.2.2.1, b_11.2.2.2, by rw [e_24, e_29] at b_30; exact b_30⟩, c_43, by omega, rfl⟩)), ht⟩) (fun q hq => by cases hq) dX7_refused_66
        · skip
          have i_43 := ti_eqk rfl tk_0 c_43
          refine lv_bipush (v := (-103)) hx hb dX7_refused_46 (by decide) ?_
          refine lv_goto (tgt := 66) hx hb dX7_refused_48 (by decide) ?_
          exact W.iret (v := (-103)) hx hb hr (fun t ht hW => ⟨(-103), rfl, Or.inr (Or.inl ⟨⟨b_3, b_11.1, b_11.2.1, b_11.2.2.1, b_11.2.2.2, by rw [e_24, e_29] at b_30; exact b_30⟩, c_43, rfl⟩), ht⟩) (fun q hq => by cases hq) dX7_refused_66
    · skip
      refine lv_if_eq (tgt := 36) hx hb dX7_refused_14 (by decide) (fun c_14 => ?_) (fun c_14 => absurd c_14 (by decide))
      refine lv_bipush (v := (-102)) hx hb dX7_refused_36 (by decide) ?_
      exact W.iret (v := (-102)) hx hb hr (fun t ht hW => ⟨(-102), rfl, Or.inl ⟨fun q => by first | exact b_3 q.1 | exact b_11 ⟨q.2.1, q.2.2.1, q.2.2.2.1, q.2.2.2.2.1⟩ | (rw [e_24, e_29] at b_30; exact q.2.2.2.2.2 b_30), rfl⟩, ht⟩) (fun q hq => by cases hq) dX7_refused_38
  · skip
    (try simp only [tk_0, tk_4] at b_3)
    refine lv_if_eq (tgt := 36) hx hb dX7_refused_6 (by decide) (fun c_6 => ?_) (fun c_6 => absurd c_6 (by decide))
    refine lv_bipush (v := (-102)) hx hb dX7_refused_36 (by decide) ?_
    exact W.iret (v := (-102)) hx hb hr (fun t ht hW => ⟨(-102), rfl, Or.inl ⟨fun q => by first | exact b_3 q.1 | exact b_11 ⟨q.2.1, q.2.2.1, q.2.2.2.1, q.2.2.2.2.1⟩ | (rw [e_24, e_29] at b_30; exact q.2.2.2.2.2 b_30), rfl⟩, ht⟩) (fun q hq => by cases hq) dX7_refused_38
set_option maxHeartbeats 4000000 in
set_option maxRecDepth 100000 in
theorem c_X7_layBefore (l : Launch) (Z : YT) (hZ : MG Z) (g : Nat → Nat → Int32) (gl : Nat → Nat → Int64)  (hJ : MJ g) : Met l yX7_layBefore (Cond.code yX7_layBefore cX7_layBefore 2 none :: wsL_law) ({ frames := 0, cells := 0, slots := 0, locals := 0 } : Room) (va_Pc [.ref (ya Z 0)] (MI Z g gl)) (va_Qv (fun (u : (Nat → Nat → Int32) × (Nat → Nat → Int64)) => Fr [11] g u.1 ∧ MJ u.1 ∧ gl = u.2 ∧ (∀ j : Nat, j < 128 → u.1 11 j = g 6 j)) (fun u t => va_P (yD Z) vwCl (mw Z u.1 u.2) t.heap) (yA Z)) 0 0 (yA Z) := by
  refine Met.ofW (cc := cX7_layBefore) (maxL := 2) (ret := none) (by decide) rfl ?_
  intro p e s m args below meth c s₁ B hml hv
  obtain ⟨rfl, hI⟩ := hv
  have hx := B.exec
  have hb := B.bytes
  have hr := B.returns
  have hT : ∀ w ∈ wsL_law, w.before ([.ref (ya Z 0)] : List Value).toArray s = true := fun w h => atoms_spec (ws := (Cond.code yX7_layBefore cX7_layBefore 2 none :: wsL_law)) B.pre w (List.mem_cons_of_mem _ h)
  have hown : s.vm.findClass RX7 = some m.cls := findClass_of_methodNamed B.named
  have hlocks := B.notSynchronized
  have hK := hI.2
  have hP := hI.1
  have hS : va_S (yA Z) s.heap s.heap [] := va_S.rf
  have hF : Fr [11] g g := Fr.rf
  have hl := lv_entry ([.ref (ya Z 0)]) (n := 2) (Nat.le_of_ble_eq_true rfl)
  rw [lg_entry_eq]
  generalize (lg_sl ([.ref (ya Z 0)]) ++ List.replicate (2 - (lg_sl ([.ref (ya Z 0)])).length) Slot.unset).toArray = ls at hl ⊢
  have hl : lv_has ls 2 [(0, .ref (ya Z 0))] := hl
  have L2 : ∀ (n : Nat) (z1 : Int32) (g1 : Nat → Nat → Int32) (H : Heap) (locs : List Loc) (hP : va_P (yD Z) vwCl (mw Z g1 gl) H) (hF : Fr [11] g g1) (hJ : MJ g1) (hS : va_S (yA Z) s.heap H locs) (h1 : 0 ≤ z1.toInt) (hA : ∀ j : Nat, (j : Int) < z1.toInt → g1 11 j = g 6 j) (hn : (128 - z1.toInt).toNat < n) (ls : Array Slot) (hl : lv_has ls 2 [(0, .ref (ya Z 0)), (1, .int z1)]), W p l e ({ frames := 0, cells := 0, slots := 0, locals := 0 } : Room) s m ([.ref (ya Z 0)] : List Value).toArray below meth c H locs 0 0 (MQ below (va_Qv (fun (u : (Nat → Nat → Int32) × (Nat → Nat → Int64)) => Fr [11] g u.1 ∧ MJ u.1 ∧ gl = u.2 ∧ (∀ j : Nat, j < 128 → u.1 11 j = g 6 j)) (fun u t => va_P (yD Z) vwCl (mw Z u.1 u.2) t.heap) (yA Z)) ([.ref (ya Z 0)] : List Value).toArray s 0 0 (yA Z)) (F0 m 2 ls []) := by
    intro n
    induction n with
    | zero => intro z1 g1 H locs hP hF hJ hS h1 hA hn; exact absurd hn (Nat.not_lt_zero _)
    | succ n ih2 =>
      intro z1 g1 H locs hP hF hJ hS h1 hA hn ls hl
      have q6 : g1 6 = g 6 := hF 6 (by decide)
      refine lv_iload_n hx hb dX7_layBefore_2 rfl (lv_at hl 1 rfl) ?_
      refine lv_sipush (v := 128) hx hb dX7_layBefore_3 (by decide) ?_
      refine lv_icmp_ge (tgt := 27) hx hb dX7_layBefore_6 (by decide) (fun c_6 => ?_) (fun c_6 => ?_)
      · skip
        have i_6 := ti_lek tk_128 rfl c_6
        exact W.vret hx hb hr (fun t ht hW => ⟨⟨(g1, gl), rfl, ⟨hF, hJ, rfl, (by (try dsimp only); first | done | exact (fun j hj => hA j (by omega)))⟩, by show va_P (yD Z) vwCl (mw Z g1 gl) t.heap; rw [ht]; exact hP⟩, hS.F ht⟩) hS.2.2 dX7_layBefore_27
      · skip
        have i_6 := ti_nlek tk_128 rfl c_6
        refine lv_aload_n hx hb dX7_layBefore_9 rfl (lv_at hl 0 rfl) ?_
        refine va_get (D := yD Z) (ci := 7) (v := .ref (ya Z 11)) (C := RX7) (T := TX7) (N := 31) hx hb hT inlX7 hown hK hP 0 mw_0 rfl 16 (by decide) (hT _ (tr_5 _ (List.mem_of_getElem? (i := 0) rfl))) (fun _ h9 => h9) rfl dX7_layBefore_10 ?_
        refine lv_iload_n hx hb dX7_layBefore_13 rfl (lv_at hl 1 rfl) ?_
        refine lv_aload_n hx hb dX7_layBefore_14 rfl (lv_at hl 0 rfl) ?_
        refine va_get (D := yD Z) (ci := 7) (v := .ref (ya Z 6)) (C := RX7) (T := TX7) (N := 31) hx hb hT inlX7 hown hK hP 0 mw_0 rfl 7 (by decide) (hT _ (tr_4 _ (List.mem_of_getElem? (i := 18) rfl))) (fun _ h9 => h9) rfl dX7_layBefore_15 ?_
        refine lv_iload_n hx hb dX7_layBefore_18 rfl (lv_at hl 1 rfl) ?_
        have h_19 : vp_in z1 128 := (ti_vp (by omega) (by omega))
        refine va_iald hx hb hK hP 6 1 mw_6 rfl h_19 dX7_layBefore_19 ?_
        refine lv_topi (fun v_19 e_19 => ?_)
        have h_20 : vp_in z1 128 := (ti_vp (by omega) (by omega))
        refine va_iast hx hb hK hP hZ.D hS 11 1 mw_11 rfl h_20 dX7_layBefore_20 (fun H locs hP _ hS => ?_)
        replace hP := ms_11 hP
        have hF := hF.uR (i := 11) (r := upd (g1 11) z1.toNatClampNeg v_19) (by decide)
        have hJ := hJ.au (i := 11) (r := upd (g1 11) z1.toNatClampNeg v_19) (by decide)
        obtain ⟨v_21, e_21⟩ : ∃ y : Int32, y = z1 + 1 := ⟨_, rfl⟩
        refine lv_iinc (v := v_21) (lv' := [(1, .int v_21), (0, .ref (ya Z 0))]) hx hb dX7_layBefore_21 hl (k := 1) rfl (by rw [e_21]; rfl) (by decide) rfl (fun ls hl => ?_)
        have t_21 := ti_addk rfl tk_1 (by omega) (by omega) e_21
        refine lv_goto (tgt := 2) hx hb dX7_layBefore_24 (by decide) ?_
        exact ih2 v_21 (upR g1 11 (upd (g1 11) z1.toNatClampNeg v_19)) _ _ hP hF hJ hS (by first | assumption | omega | decide) (fun j hj => by show upd (g1 11) z1.toNatClampNeg v_19 j = g 6 j; by_cases y : j = z1.toNatClampNeg; (rw [upd_at y, e_19, q6, y]); rw [pk_un y]; exact hA j (by have y2 : ¬ (j : Int) = z1.toInt := (fun y3 => y (ti_clamp y3.symm).symm); omega)) (by omega) ls (lv_sub hl [1, 0] rfl)
  refine lv_iconst (v := 0) hx hb dX7_layBefore_0 (by decide) ?_
  refine lv_istore_n (lv' := [(1, .int 0), (0, .ref (ya Z 0))]) hx hb dX7_layBefore_1 rfl hl (by decide) rfl (fun ls hl => ?_)
  exact L2 _ 0 g _ _ hP hF hJ hS (by first | assumption | omega | decide) (fun j hj => by rw [tk_0] at hj; omega) (Nat.lt_succ_self _) ls (lv_sub hl [1, 0] rfl)
set_option maxHeartbeats 4000000 in
set_option maxRecDepth 100000 in
theorem c_X7_offer (l : Launch) (Z : YT) (hZ : MG Z) (g : Nat → Nat → Int32) (gl : Nat → Nat → Int64) (x1 : Int32) (x2 : Int32) (x3 : Int32) (x4 : Int32) (h40 : (g 31 0).toInt ≤ 40) (hJ : MJ g) : Met l yX7_offer (Cond.code yX7_offer cX7_offer 8 (some .int) :: wsL_law) ({ frames := 7, cells := 0, slots := 0, locals := 171 } : Room) (va_Pc [.ref (ya Z 0), .int x1, .int x2, .int x3, .int x4] (MI Z g gl)) (va_Qi (fun (r : Int32) (u : (Nat → Nat → Int32) × (Nat → Nat → Int64)) => Fr [1, 2, 3, 4, 5, 6, 11, 31] g u.1 ∧ MJ u.1 ∧ gl = u.2 ∧ ((∃ c, rjF (g 30 0) (g 31 0) x1 x2 x3 x4 c ∧ ((¬ c = 0 ∧ r = c ∧ u.1 = g) ∨ (c = 0 ∧ tkR g u.1 x1 x2 x3 (x4 / 100) (x4 - x4 / 100 * 100) ∧ u.1 6 = ofr u.1 (g 6) (cns u.1 (g 31 0).toInt.toNat) (g 31 0) ∧ r.toInt = (dfc (g 6) (u.1 6) 128 : Int)))) ∧ (u.1 31 0).toInt ≤ 40)) (fun u t => va_P (yD Z) vwCl (mw Z u.1 u.2) t.heap) (yA Z)) 0 0 (yA Z) := by
  refine Met.ofW (cc := cX7_offer) (maxL := 8) (ret := (some .int)) (by decide) rfl ?_
  intro p e s m args below meth c s₁ B hml hv
  obtain ⟨rfl, hI⟩ := hv
  have hx := B.exec
  have hb := B.bytes
  have hr := B.returns
  have hT : ∀ w ∈ wsL_law, w.before ([.ref (ya Z 0), .int x1, .int x2, .int x3, .int x4] : List Value).toArray s = true := fun w h => atoms_spec (ws := (Cond.code yX7_offer cX7_offer 8 (some .int) :: wsL_law)) B.pre w (List.mem_cons_of_mem _ h)
  have hown : s.vm.findClass RX7 = some m.cls := findClass_of_methodNamed B.named
  have hlocks := B.notSynchronized
  have hK := hI.2
  have hP := hI.1
  have hS : va_S (yA Z) s.heap s.heap [] := va_S.rf
  have hF : Fr [1, 2, 3, 4, 5, 6, 11, 31] g g := Fr.rf
  have j31 := hJ.j31
  have hl := lv_entry ([.ref (ya Z 0), .int x1, .int x2, .int x3, .int x4]) (n := 8) (Nat.le_of_ble_eq_true rfl)
  rw [lg_entry_eq]
  generalize (lg_sl ([.ref (ya Z 0), .int x1, .int x2, .int x3, .int x4]) ++ List.replicate (8 - (lg_sl ([.ref (ya Z 0), .int x1, .int x2, .int x3, .int x4])).length) Slot.unset).toArray = ls at hl ⊢
  have hl : lv_has ls 8 [(0, .ref (ya Z 0)), (1, .int x1), (2, .int x2), (3, .int x3), (4, .int x4)] := hl
  have L46 : ∀ (n : Nat) (z5 : Int32) (z6 : Int32) (z7 : Int32) (g1 : Nat → Nat → Int32) (H : Heap) (locs : List Loc) (hP : va_P (yD Z) vwCl (mw Z g1 gl) H) (hF : Fr [1, 2, 3, 4, 5, 6, 11, 31] g g1) (hJ : MJ g1) (hS : va_S (yA Z) s.heap H locs) (h7 : 1 ≤ z7.toInt ∧ z7.toInt ≤ 128) (hq : (g1 31 0).toInt ≤ 40) (hT_ : tkR g g1 x1 x2 x3 (x4 / 100) (x4 - x4 / 100 * 100)) (hO9 : g1 6 = ofr g1 (g 6) (cns g1 (g 31 0).toInt.toNat) (g 31 0)) (hB9 : ∀ j : Nat, j < 128 → g1 11 j = g 6 j) (hC9 : z6.toInt = (dfc (g 6) (g1 6) z7.toInt.toNat : Int)) (hR_ : rjF (g 30 0) (g 31 0) x1 x2 x3 x4 0) (hn : (128 - z7.toInt).toNat < n) (ls : Array Slot) (hl : lv_has ls 8 [(0, .ref (ya Z 0)), (1, .int x1), (2, .int x2), (3, .int x3), (4, .int x4), (5, .int z5), (6, .int z6), (7, .int z7)]), W p l e ({ frames := 7, cells := 0, slots := 0, locals := 171 } : Room) s m ([.ref (ya Z 0), .int x1, .int x2, .int x3, .int x4] : List Value).toArray below meth c H locs 0 0 (MQ below (va_Qi (fun (r : Int32) (u : (Nat → Nat → Int32) × (Nat → Nat → Int64)) => Fr [1, 2, 3, 4, 5, 6, 11, 31] g u.1 ∧ MJ u.1 ∧ gl = u.2 ∧ ((∃ c, rjF (g 30 0) (g 31 0) x1 x2 x3 x4 c ∧ ((¬ c = 0 ∧ r = c ∧ u.1 = g) ∨ (c = 0 ∧ tkR g u.1 x1 x2 x3 (x4 / 100) (x4 - x4 / 100 * 100) ∧ u.1 6 = ofr u.1 (g 6) (cns u.1 (g 31 0).toInt.toNat) (g 31 0) ∧ r.toInt = (dfc (g 6) (u.1 6) 128 : Int)))) ∧ (u.1 31 0).toInt ≤ 40)) (fun u t => va_P (yD Z) vwCl (mw Z u.1 u.2) t.heap) (yA Z)) ([.ref (ya Z 0), .int x1, .int x2, .int x3, .int x4] : List Value).toArray s 0 0 (yA Z)) (F0 m 46 ls []) := by
    intro n
    induction n with
    | zero => intro z5 z6 z7 g1 H locs hP hF hJ hS h7 hq hT_ hO9 hB9 hC9 hR_ hn; exact absurd hn (Nat.not_lt_zero _)
    | succ n ih46 =>
      intro z5 z6 z7 g1 H locs hP hF hJ hS h7 hq hT_ hO9 hB9 hC9 hR_ hn ls hl
      refine lv_iload hx hb dX7_offer_46 (lv_at hl 7 rfl) ?_
      refine lv_sipush (v := 128) hx hb dX7_offer_48 (by decide) ?_
      refine lv_icmp_ge (tgt := 87) hx hb dX7_offer_51 (by decide) (fun c_51 => ?_) (fun c_51 => ?_)
      · skip
        have i_51 := ti_lek tk_128 rfl c_51
        refine lv_iload hx hb dX7_offer_87 (lv_at hl 6 rfl) ?_
        exact W.iret (v := z6) hx hb hr (fun t ht hW => ⟨⟨z6, (g1, gl), rfl, ⟨hF, hJ, rfl, (by (try dsimp only); first | done | exact ⟨⟨0, hR_, Or.inr ⟨rfl, hT_, hO9, by rw [hC9, show z7.toInt.toNat = 128 by omega]⟩⟩, hq⟩)⟩, by show va_P (yD Z) vwCl (mw Z g1 gl) t.heap; rw [ht]; exact hP⟩, hS.F ht⟩) hS.2.2 dX7_offer_89
      · skip
        have i_51 := ti_nlek tk_128 rfl c_51
        have dl := dfc_le (g 6) (g1 6) z7.toInt.toNat
        refine lv_iload hx hb dX7_offer_54 (lv_at hl 6 rfl) ?_
        refine lv_aload_n hx hb dX7_offer_56 rfl (lv_at hl 0 rfl) ?_
        refine va_get (D := yD Z) (ci := 7) (v := .ref (ya Z 6)) (C := RX7) (T := TX7) (N := 31) hx hb hT inlX7 hown hK hP 0 mw_0 rfl 7 (by decide) (hT _ (tr_4 _ (List.mem_of_getElem? (i := 18) rfl))) (fun _ h9 => h9) rfl dX7_offer_57 ?_
        refine lv_iload hx hb dX7_offer_60 (lv_at hl 7 rfl) ?_
        have h_62 : vp_in z7 128 := (ti_vp (by omega) (by omega))
        refine va_iald hx hb hK hP 6 1 mw_6 rfl h_62 dX7_offer_62 ?_
        refine lv_topi (fun v_62 e_62 => ?_)
        refine lv_aload_n hx hb dX7_offer_63 rfl (lv_at hl 0 rfl) ?_
        refine va_get (D := yD Z) (ci := 7) (v := .ref (ya Z 11)) (C := RX7) (T := TX7) (N := 31) hx hb hT inlX7 hown hK hP 0 mw_0 rfl 16 (by decide) (hT _ (tr_5 _ (List.mem_of_getElem? (i := 0) rfl))) (fun _ h9 => h9) rfl dX7_offer_64 ?_
        refine lv_iload hx hb dX7_offer_67 (lv_at hl 7 rfl) ?_
        have h_69 : vp_in z7 128 := (ti_vp (by omega) (by omega))
        refine va_iald hx hb hK hP 11 1 mw_11 rfl h_69 dX7_offer_69 ?_
        refine lv_topi (fun v_69 e_69 => ?_)
        refine lv_icmp_eq (tgt := 77) hx hb dX7_offer_70 (by decide) (fun c_70 => ?_) (fun c_70 => ?_)
        · skip
          have i_70 := ti_eqk rfl rfl c_70
          refine lv_iconst (v := 0) hx hb dX7_offer_77 (by decide) ?_
          refine lv_iadd hx hb dX7_offer_78 ?_
          refine lv_topi (fun v_78 e_78 => ?_)
          have t_78 := ti_addk rfl tk_0 (by omega) (by omega) e_78
          refine lv_istore (lv' := [(6, .int v_78), (0, .ref (ya Z 0)), (1, .int x1), (2, .int x2), (3, .int x3), (4, .int x4), (5, .int z5), (7, .int z7)]) hx hb dX7_offer_79 hl (by decide) rfl (fun ls hl => ?_)
          obtain ⟨v_81, e_81⟩ : ∃ y : Int32, y = z7 + 1 := ⟨_, rfl⟩
          refine lv_iinc (v := v_81) (lv' := [(7, .int v_81), (6, .int v_78), (0, .ref (ya Z 0)), (1, .int x1), (2, .int x2), (3, .int x3), (4, .int x4), (5, .int z5)]) hx hb dX7_offer_81 hl (k := 7) rfl (by rw [e_81]; rfl) (by decide) rfl (fun ls hl => ?_)
          have t_81 := ti_addk rfl tk_1 (by omega) (by omega) e_81
          refine lv_goto (tgt := 46) hx hb dX7_offer_84 (by decide) ?_
          exact ih46 z5 v_78 v_81 g1 _ _ hP hF hJ hS (by omega) hq hT_ hO9 hB9 (by have e62 : g1 6 z7.toInt.toNat = v_62 := e_62.symm; have e69 : g 6 z7.toInt.toNat = v_69 := (by rw [← hB9 z7.toInt.toNat (by omega)]; exact e_69.symm); rw [show v_81.toInt.toNat = z7.toInt.toNat + 1 by omega, dfc, e62, e69]; first | (rw [if_pos (show v_69 = v_62 from c_70.symm)]; omega) | (rw [if_neg (fun z => c_70 z.symm)]; omega)) hR_ (by omega) ls (lv_sub hl [2, 3, 4, 5, 6, 7, 1, 0] rfl)
        · skip
          have i_70 := ti_nek rfl rfl c_70
          refine lv_iconst (v := 1) hx hb dX7_offer_73 (by decide) ?_
          refine lv_goto (tgt := 78) hx hb dX7_offer_74 (by decide) ?_
          refine lv_iadd hx hb dX7_offer_78 ?_
          refine lv_topi (fun v_78 e_78 => ?_)
          have t_78 := ti_addk rfl tk_1 (by omega) (by omega) e_78
          refine lv_istore (lv' := [(6, .int v_78), (0, .ref (ya Z 0)), (1, .int x1), (2, .int x2), (3, .int x3), (4, .int x4), (5, .int z5), (7, .int z7)]) hx hb dX7_offer_79 hl (by decide) rfl (fun ls hl => ?_)
          obtain ⟨v_81, e_81⟩ : ∃ y : Int32, y = z7 + 1 := ⟨_, rfl⟩
          refine lv_iinc (v := v_81) (lv' := [(7, .int v_81), (6, .int v_78), (0, .ref (ya Z 0)), (1, .int x1), (2, .int x2), (3, .int x3), (4, .int x4), (5, .int z5)]) hx hb dX7_offer_81 hl (k := 7) rfl (by rw [e_81]; rfl) (by decide) rfl (fun ls hl => ?_)
          have t_81 := ti_addk rfl tk_1 (by omega) (by omega) e_81
          refine lv_goto (tgt := 46) hx hb dX7_offer_84 (by decide) ?_
          exact ih46 z5 v_78 v_81 g1 _ _ hP hF hJ hS (by omega) hq hT_ hO9 hB9 (by have e62 : g1 6 z7.toInt.toNat = v_62 := e_62.symm; have e69 : g 6 z7.toInt.toNat = v_69 := (by rw [← hB9 z7.toInt.toNat (by omega)]; exact e_69.symm); rw [show v_81.toInt.toNat = z7.toInt.toNat + 1 by omega, dfc, e62, e69]; first | (rw [if_pos (show v_69 = v_62 from c_70.symm)]; omega) | (rw [if_neg (fun z => c_70 z.symm)]; omega)) hR_ (by omega) ls (lv_sub hl [2, 3, 4, 5, 6, 7, 1, 0] rfl)
  refine lv_aload_n hx hb dX7_offer_0 rfl (lv_at hl 0 rfl) ?_
  refine lv_iload_n hx hb dX7_offer_1 rfl (lv_at hl 1 rfl) ?_
  refine lv_iload_n hx hb dX7_offer_2 rfl (lv_at hl 2 rfl) ?_
  refine lv_iload_n hx hb dX7_offer_3 rfl (lv_at hl 3 rfl) ?_
  refine lv_iload hx hb dX7_offer_4 (lv_at hl 4 rfl) ?_
  refine rd_ci (va_runV (As := [.int x1, .int x2, .int x3, .int x4]) (rest := []) ⟨hx, hb, hml, hown, hT⟩ (c_X7_refused l Z hZ g gl x1 x2 x3 x4 (by first | assumption | omega | decide) hJ) (cwV 4 hT (tb_V (fun _ h => h) (tr_27 _ (List.mem_of_getElem? (i := 7) rfl)) (tr_27 _ (List.mem_of_getElem? (i := 8) rfl)) (tr_27 _ (List.mem_of_getElem? (i := 9) rfl)) (tr_1 _ (List.mem_of_getElem? (i := 5) rfl)) (tr_27 _ (List.mem_of_getElem? (i := 10) rfl))) rfl rfl rfl (by decide +kernel) ⟨Nat.le_of_ble_eq_true rfl, Nat.le_of_ble_eq_true rfl⟩) ⟨fun a U f mk q => ⟨q.1, MI.blind f mk a q.2⟩, va_recv hK hP (ci := 7) (q0 := 0) rfl mw_0, fun U hU hW => ⟨rfl, hI.at hS hP hU hW⟩⟩ rfl rfl hl.1 rfl (lv_room (Nat.le_of_ble_eq_true rfl)) dX7_offer_6 ⟨Nat.zero_le _, Nat.zero_le _⟩) (fun r_6 hr_6 => ?_)
  refine lv_istore (lv' := [(5, .int r_6), (0, .ref (ya Z 0)), (1, .int x1), (2, .int x2), (3, .int x3), (4, .int x4)]) hx hb dX7_offer_9 hl (by decide) rfl (fun ls hl => ?_)
  refine lv_iload hx hb dX7_offer_11 (lv_at hl 0 rfl) ?_
  refine lv_if_ge (tgt := 19) hx hb dX7_offer_13 (by decide) (fun c_13 => ?_) (fun c_13 => ?_)
  · skip
    have i_13 := ti_lek tk_0 rfl c_13
    have z6 : r_6 = 0 := Classical.byContradiction (fun z => by have y := rjF_neg hr_6 z; omega)
    have v6 := rjF_0 hr_6 z6
    have d6 := dv100 v6.1.2.1
    refine lv_aload_n hx hb dX7_offer_19 rfl (lv_at hl 1 rfl) ?_
    refine va_callv (va_runV (As := []) (rest := []) ⟨hx, hb, hml, hown, hT⟩ (c_X7_layBefore l Z hZ g gl hJ) (cwV 0 hT (tb_V (fun _ h => h) (tr_27 _ (List.mem_of_getElem? (i := 22) rfl)) (tr_27 _ (List.mem_of_getElem? (i := 23) rfl)) (tr_28 _ (List.mem_of_getElem? (i := 0) rfl)) (tr_1 _ (List.mem_of_getElem? (i := 5) rfl)) (tr_28 _ (List.mem_of_getElem? (i := 1) rfl))) rfl rfl rfl (by decide +kernel) ⟨Nat.le_of_ble_eq_true rfl, Nat.le_of_ble_eq_true rfl⟩) ⟨fun a U f mk q => ⟨q.1, MI.blind f mk a q.2⟩, va_recv hK hP (ci := 7) (q0 := 0) rfl mw_0, fun U hU hW => ⟨rfl, hI.at hS hP hU hW⟩⟩ rfl rfl hl.1 rfl (lv_room (Nat.le_of_ble_eq_true rfl)) dX7_offer_20 ⟨Nat.zero_le _, Nat.zero_le _⟩) hS (fun q _ h => h) (fun q h => h) (fun u_20 t_20 H locs ht_20 _ hw_20 hB_20 _ _ hS => ?_)
    obtain ⟨g_20, gl_20⟩ := u_20
    have hP : va_P (yD Z) vwCl (mw Z g_20 gl_20) H := ht_20 ▸ hB_20
    obtain ⟨hf_20, hJ, el_20, hr_20⟩ := hw_20
    have hF := hF.tr hf_20 (by decide)
    dsimp only at hf_20 hJ hF el_20 hr_20
    subst el_20
    have q31 := congrArg Int32.toInt (congrFun (hf_20 31 (by decide)) 0)
    refine lv_aload_n hx hb dX7_offer_23 rfl (lv_at hl 1 rfl) ?_
    refine lv_iload_n hx hb dX7_offer_24 rfl (lv_at hl 2 rfl) ?_
    refine lv_iload_n hx hb dX7_offer_25 rfl (lv_at hl 3 rfl) ?_
    refine lv_iload_n hx hb dX7_offer_26 rfl (lv_at hl 4 rfl) ?_
    refine lv_iload hx hb dX7_offer_27 (lv_at hl 5 rfl) ?_
    refine lv_bipush (v := 100) hx hb dX7_offer_29 (by decide) ?_
    refine lv_idiv hx hb dX7_offer_31 (by decide) ?_
    refine lv_topi (fun v_31 e_31 => ?_)
    refine lv_iload hx hb dX7_offer_32 (lv_at hl 5 rfl) ?_
    refine lv_bipush (v := 100) hx hb dX7_offer_34 (by decide) ?_
    refine lv_irem hx hb dX7_offer_36 (by decide) ?_
    refine lv_topi (fun v_36 e_36 => ?_)
    refine va_callv (va_runV (As := [.int x1, .int x2, .int x3, .int v_31, .int v_36]) (rest := []) ⟨hx, hb, hml, hown, hT⟩ (c_X7_take l Z hZ g_20 gl x1 x2 x3 v_31 v_36 (by rw [e_31]; exact ⟨d6.1, v6.1.2.2.1⟩) (by rw [e_36]; exact v6.1.2.2.2.1) (by first | assumption | omega | decide) hJ) (cwV 5 hT (tb_V (fun _ h => h) (tr_17 _ (List.mem_of_getElem? (i := 21) rfl)) (tr_17 _ (List.mem_of_getElem? (i := 22) rfl)) (tr_17 _ (List.mem_of_getElem? (i := 23) rfl)) (tr_1 _ (List.mem_of_getElem? (i := 5) rfl)) (tr_18 _ (List.mem_of_getElem? (i := 0) rfl))) rfl rfl rfl (by decide +kernel) ⟨Nat.le_of_ble_eq_true rfl, Nat.le_of_ble_eq_true rfl⟩) ⟨fun a U f mk q => ⟨q.1, MI.blind f mk a q.2⟩, va_recv hK hP (ci := 7) (q0 := 0) rfl mw_0, fun U hU hW => ⟨rfl, hI.at hS hP hU hW⟩⟩ rfl rfl hl.1 rfl (lv_room (Nat.le_of_ble_eq_true rfl)) dX7_offer_37 ⟨Nat.zero_le _, Nat.zero_le _⟩) hS (fun q _ h => h) (fun q h => h) (fun u_37 t_37 H locs ht_37 _ hw_37 hB_37 _ _ hS => ?_)
    obtain ⟨g_37, gl_37⟩ := u_37
    have hP : va_P (yD Z) vwCl (mw Z g_37 gl_37) H := ht_37 ▸ hB_37
    obtain ⟨hf_37, hJ, el_37, hr_37⟩ := hw_37
    have hF := hF.tr hf_37 (by decide)
    dsimp only at hf_37 hJ hF el_37 hr_37
    subst el_37
    have k37 := hr_37.1.of (g := g) (fun i hi => hf_20 i (by simp at hi ⊢; omega))
    rw [e_31, e_36] at k37
    have n37 : (g_37 31 0).toInt ≤ 40 := by rw [k37.1]; have y := ti_addk (x := g 31 0) rfl tk_1 (by omega) (by omega) rfl; omega
    have o37 : g_37 6 = ofr g_37 (g 6) (cns g_37 (g 31 0).toInt.toNat) (g 31 0) := by have q := hr_37.2; rw [hf_20 6 (by decide), hf_20 31 (by decide)] at q; exact q
    refine lv_iconst (v := 0) hx hb dX7_offer_40 (by decide) ?_
    refine lv_istore (lv' := [(6, .int 0), (5, .int r_6), (0, .ref (ya Z 0)), (1, .int x1), (2, .int x2), (3, .int x3), (4, .int x4)]) hx hb dX7_offer_41 hl (by decide) rfl (fun ls hl => ?_)
    refine lv_iconst (v := 1) hx hb dX7_offer_43 (by decide) ?_
    refine lv_istore (lv' := [(7, .int 1), (6, .int 0), (5, .int r_6), (0, .ref (ya Z 0)), (1, .int x1), (2, .int x2), (3, .int x3), (4, .int x4)]) hx hb dX7_offer_44 hl (by decide) rfl (fun ls hl => ?_)
    exact L46 _ r_6 0 1 g_37 _ _ hP hF hJ hS (by decide) n37 k37 o37 (fun j hj => by rw [hf_37 11 (by decide)]; exact hr_20 j hj) (by rw [tk_0, tk_1]; show (0 : Int) = ((dfc (g 6) (g_37 6) 1 : Nat) : Int); rw [dfc, o37, ofr_z, if_pos rfl]; rfl) (z6 ▸ hr_6) (Nat.lt_succ_self _) ls (lv_sub hl [3, 4, 5, 6, 7, 2, 1, 0] rfl)
  · skip
    have i_13 := ti_nlek tk_0 rfl c_13
    refine lv_iload hx hb dX7_offer_16 (lv_at hl 0 rfl) ?_
    exact W.iret (v := r_6) hx hb hr (fun t ht hW => ⟨⟨r_6, (g, gl), rfl, ⟨hF, hJ, rfl, (by (try dsimp only); first | done | exact ⟨⟨r_6, hr_6, Or.inl ⟨fun z => by rw [z] at i_13; exact absurd i_13 (by decide), rfl, rfl⟩⟩, h40⟩)⟩, by show va_P (yD Z) vwCl (mw Z g gl) t.heap; rw [ht]; exact hP⟩, hS.F ht⟩) hS.2.2 dX7_offer_18
set_option maxHeartbeats 4000000 in
set_option maxRecDepth 100000 in
theorem c_X7_undo (l : Launch) (Z : YT) (hZ : MG Z) (g : Nat → Nat → Int32) (gl : Nat → Nat → Int64) (h40 : (g 31 0).toInt ≤ 40) (hJ : MJ g) : Met l yX7_undo (Cond.code yX7_undo cX7_undo 1 (some .int) :: wsL_law) ({ frames := 7, cells := 0, slots := 0, locals := 168 } : Room) (va_Pc [.ref (ya Z 0)] (MI Z g gl)) (va_Qi (fun (r : Int32) (u : (Nat → Nat → Int32) × (Nat → Nat → Int64)) => Fr [6, 31] g u.1 ∧ MJ u.1 ∧ gl = u.2 ∧ (((g 31 0 = 0 ∧ r = -103 ∧ u.1 = g) ∨ (¬ g 31 0 = 0 ∧ u.1 31 0 = g 31 0 - 1 ∧ r = g 31 0 - 1 ∧ Eq1 (u.1 6) (TR g ((g 31 0).toInt.toNat - 1)))) ∧ (u.1 31 0).toInt ≤ 40)) (fun u t => va_P (yD Z) vwCl (mw Z u.1 u.2) t.heap) (yA Z)) 0 0 (yA Z) := by
  refine Met.ofW (cc := cX7_undo) (maxL := 1) (ret := (some .int)) (by decide) rfl ?_
  intro p e s m args below meth c s₁ B hml hv
  obtain ⟨rfl, hI⟩ := hv
  have hx := B.exec
  have hb := B.bytes
  have hr := B.returns
  have hT : ∀ w ∈ wsL_law, w.before ([.ref (ya Z 0)] : List Value).toArray s = true := fun w h => atoms_spec (ws := (Cond.code yX7_undo cX7_undo 1 (some .int) :: wsL_law)) B.pre w (List.mem_cons_of_mem _ h)
  have hown : s.vm.findClass RX7 = some m.cls := findClass_of_methodNamed B.named
  have hlocks := B.notSynchronized
  have hK := hI.2
  have hP := hI.1
  have hS : va_S (yA Z) s.heap s.heap [] := va_S.rf
  have hF : Fr [6, 31] g g := Fr.rf
  have j31 := hJ.j31
  have hl := lv_entry ([.ref (ya Z 0)]) (n := 1) (Nat.le_of_ble_eq_true rfl)
  rw [lg_entry_eq]
  generalize (lg_sl ([.ref (ya Z 0)]) ++ List.replicate (1 - (lg_sl ([.ref (ya Z 0)])).length) Slot.unset).toArray = ls at hl ⊢
  have hl : lv_has ls 1 [(0, .ref (ya Z 0))] := hl
  refine lv_aload_n hx hb dX7_undo_0 rfl (lv_at hl 0 rfl) ?_
  refine va_get (D := yD Z) (ci := 7) (v := .int (g 31 0)) (C := RX7) (T := TX7) (N := 31) hx hb hT inlX7 hown hK hP 0 mw_0 rfl 1 (by decide) (hT _ (tr_17 _ (List.mem_of_getElem? (i := 14) rfl))) (fun _ h9 => h9) rfl dX7_undo_1 ?_
  refine lv_if_ne (tgt := 10) hx hb dX7_undo_4 (by decide) (fun c_4 => ?_) (fun c_4 => ?_)
  · skip
    have i_4 := ti_nek rfl tk_0 c_4
    refine lv_aload_n hx hb dX7_undo_10 rfl (lv_at hl 0 rfl) ?_
    refine lv_aload_n hx hb dX7_undo_11 rfl (lv_at hl 0 rfl) ?_
    refine va_get (D := yD Z) (ci := 7) (v := .int (g 31 0)) (C := RX7) (T := TX7) (N := 31) hx hb hT inlX7 hown hK hP 0 mw_0 rfl 1 (by decide) (hT _ (tr_17 _ (List.mem_of_getElem? (i := 14) rfl))) (fun _ h9 => h9) rfl dX7_undo_12 ?_
    refine lv_iconst (v := 1) hx hb dX7_undo_15 (by decide) ?_
    refine lv_isub hx hb dX7_undo_16 ?_
    refine lv_topi (fun v_16 e_16 => ?_)
    have t_16 := ti_subk rfl tk_1 (by omega) (by omega) e_16
    refine va_callv (va_runV (As := [.int v_16]) (rest := []) ⟨hx, hb, hml, hown, hT⟩ (c_X7_again l Z hZ g gl v_16 (by first | assumption | omega | decide) hJ) (cwV 1 hT (tb_V (fun _ h => h) (tr_28 _ (List.mem_of_getElem? (i := 23) rfl)) (tr_29 _ (List.mem_of_getElem? (i := 0) rfl)) (tr_29 _ (List.mem_of_getElem? (i := 1) rfl)) (tr_1 _ (List.mem_of_getElem? (i := 5) rfl)) (tr_29 _ (List.mem_of_getElem? (i := 2) rfl))) rfl rfl rfl (by decide +kernel) ⟨Nat.le_of_ble_eq_true rfl, Nat.le_of_ble_eq_true rfl⟩) ⟨fun a U f mk q => ⟨q.1, MI.blind f mk a q.2⟩, va_recv hK hP (ci := 7) (q0 := 0) rfl mw_0, fun U hU hW => ⟨rfl, hI.at hS hP hU hW⟩⟩ rfl rfl hl.1 rfl (lv_room (Nat.le_of_ble_eq_true rfl)) dX7_undo_17 ⟨Nat.zero_le _, Nat.zero_le _⟩) hS (fun q _ h => h) (fun q h => h) (fun u_17 t_17 H locs ht_17 _ hw_17 hB_17 _ _ hS => ?_)
    obtain ⟨g_17, gl_17⟩ := u_17
    have hP : va_P (yD Z) vwCl (mw Z g_17 gl_17) H := ht_17 ▸ hB_17
    obtain ⟨hf_17, hJ, el_17, hr_17⟩ := hw_17
    have hF := hF.tr hf_17 (by decide)
    dsimp only at hf_17 hJ hF el_17 hr_17
    subst el_17
    refine lv_aload_n hx hb dX7_undo_20 rfl (lv_at hl 0 rfl) ?_
    refine va_get (D := yD Z) (ci := 7) (v := .int (g_17 31 0)) (C := RX7) (T := TX7) (N := 31) hx hb hT inlX7 hown hK hP 0 mw_0 rfl 1 (by decide) (hT _ (tr_17 _ (List.mem_of_getElem? (i := 14) rfl))) (fun _ h9 => h9) rfl dX7_undo_21 ?_
    exact W.iret (v := (g_17 31 0)) hx hb hr (fun t ht hW => ⟨⟨(g_17 31 0), (g_17, gl), rfl, ⟨hF, hJ, rfl, (by (try dsimp only); first | done | exact ⟨Or.inr ⟨c_4, hr_17.1.trans e_16, hr_17.1.trans e_16, by rw [show (g 31 0).toInt.toNat - 1 = v_16.toInt.toNat by omega]; exact hr_17.2⟩, (by show (g_17 31 0).toInt ≤ 40; rw [hr_17.1]; omega)⟩)⟩, by show va_P (yD Z) vwCl (mw Z g_17 gl) t.heap; rw [ht]; exact hP⟩, hS.F ht⟩) hS.2.2 dX7_undo_24
  · skip
    have i_4 := ti_eqk rfl tk_0 c_4
    refine lv_bipush (v := (-103)) hx hb dX7_undo_7 (by decide) ?_
    exact W.iret (v := (-103)) hx hb hr (fun t ht hW => ⟨⟨(-103), (g, gl), rfl, ⟨hF, hJ, rfl, (by (try dsimp only); first | done | exact ⟨Or.inl ⟨c_4, rfl, rfl⟩, h40⟩)⟩, by show va_P (yD Z) vwCl (mw Z g gl) t.heap; rw [ht]; exact hP⟩, hS.F ht⟩) hS.2.2 dX7_undo_9
set_option maxHeartbeats 4000000 in
set_option maxRecDepth 100000 in
theorem c_X7_would (l : Launch) (Z : YT) (hZ : MG Z) (g : Nat → Nat → Int32) (gl : Nat → Nat → Int64) (x1 : Int32) (x2 : Int32) (x3 : Int32) (x4 : Int32) (h40 : (g 31 0).toInt ≤ 40) (hJ : MJ g) : Met l yX7_would (Cond.code yX7_would cX7_would 7 (some .int) :: wsL_law) ({ frames := 7, cells := 0, slots := 0, locals := 171 } : Room) (va_Pc [.ref (ya Z 0), .int x1, .int x2, .int x3, .int x4] (MI Z g gl)) (va_Qi (fun (r : Int32) (u : (Nat → Nat → Int32) × (Nat → Nat → Int64)) => Fr [1, 2, 3, 4, 5, 6, 31] g u.1 ∧ MJ u.1 ∧ gl = u.2 ∧ (((∃ c, rjF (g 30 0) (g 31 0) x1 x2 x3 x4 c ∧ ((¬ c = 0 ∧ r = c ∧ u.1 = g) ∨ (c = 0 ∧ ∃ R2, MJ R2 ∧ tkR g R2 x1 x2 x3 (x4 / 100) (x4 - x4 / 100 * 100) ∧ R2 6 = ofr R2 (g 6) (cns R2 (g 31 0).toInt.toNat) (g 31 0) ∧ r.toInt = (cB (qnB (mC R2) (g 31 0).toInt (g 31 0).toInt) 64 : Int) ∧ Eq1 (u.1 6) (TR u.1 (g 31 0).toInt.toNat)))) ∧ (u.1 31 0 = g 31 0 ∧ rwL g u.1 (g 31 0).toInt)) ∧ (u.1 31 0).toInt ≤ 40)) (fun u t => va_P (yD Z) vwCl (mw Z u.1 u.2) t.heap) (yA Z)) 0 0 (yA Z) := by
  refine Met.ofW (cc := cX7_would) (maxL := 7) (ret := (some .int)) (by decide) rfl ?_
  intro p e s m args below meth c s₁ B hml hv
  obtain ⟨rfl, hI⟩ := hv
  have hx := B.exec
  have hb := B.bytes
  have hr := B.returns
  have hT : ∀ w ∈ wsL_law, w.before ([.ref (ya Z 0), .int x1, .int x2, .int x3, .int x4] : List Value).toArray s = true := fun w h => atoms_spec (ws := (Cond.code yX7_would cX7_would 7 (some .int) :: wsL_law)) B.pre w (List.mem_cons_of_mem _ h)
  have hown : s.vm.findClass RX7 = some m.cls := findClass_of_methodNamed B.named
  have hlocks := B.notSynchronized
  have hK := hI.2
  have hP := hI.1
  have hS : va_S (yA Z) s.heap s.heap [] := va_S.rf
  have hF : Fr [1, 2, 3, 4, 5, 6, 31] g g := Fr.rf
  have j31 := hJ.j31
  have hl := lv_entry ([.ref (ya Z 0), .int x1, .int x2, .int x3, .int x4]) (n := 7) (Nat.le_of_ble_eq_true rfl)
  rw [lg_entry_eq]
  generalize (lg_sl ([.ref (ya Z 0), .int x1, .int x2, .int x3, .int x4]) ++ List.replicate (7 - (lg_sl ([.ref (ya Z 0), .int x1, .int x2, .int x3, .int x4])).length) Slot.unset).toArray = ls at hl ⊢
  have hl : lv_has ls 7 [(0, .ref (ya Z 0)), (1, .int x1), (2, .int x2), (3, .int x3), (4, .int x4)] := hl
  refine lv_aload_n hx hb dX7_would_0 rfl (lv_at hl 0 rfl) ?_
  refine lv_iload_n hx hb dX7_would_1 rfl (lv_at hl 1 rfl) ?_
  refine lv_iload_n hx hb dX7_would_2 rfl (lv_at hl 2 rfl) ?_
  refine lv_iload_n hx hb dX7_would_3 rfl (lv_at hl 3 rfl) ?_
  refine lv_iload hx hb dX7_would_4 (lv_at hl 4 rfl) ?_
  refine rd_ci (va_runV (As := [.int x1, .int x2, .int x3, .int x4]) (rest := []) ⟨hx, hb, hml, hown, hT⟩ (c_X7_refused l Z hZ g gl x1 x2 x3 x4 (by first | assumption | omega | decide) hJ) (cwV 4 hT (tb_V (fun _ h => h) (tr_27 _ (List.mem_of_getElem? (i := 7) rfl)) (tr_27 _ (List.mem_of_getElem? (i := 8) rfl)) (tr_27 _ (List.mem_of_getElem? (i := 9) rfl)) (tr_1 _ (List.mem_of_getElem? (i := 5) rfl)) (tr_27 _ (List.mem_of_getElem? (i := 10) rfl))) rfl rfl rfl (by decide +kernel) ⟨Nat.le_of_ble_eq_true rfl, Nat.le_of_ble_eq_true rfl⟩) ⟨fun a U f mk q => ⟨q.1, MI.blind f mk a q.2⟩, va_recv hK hP (ci := 7) (q0 := 0) rfl mw_0, fun U hU hW => ⟨rfl, hI.at hS hP hU hW⟩⟩ rfl rfl hl.1 rfl (lv_room (Nat.le_of_ble_eq_true rfl)) dX7_would_6 ⟨Nat.zero_le _, Nat.zero_le _⟩) (fun r_6 hr_6 => ?_)
  refine lv_istore (lv' := [(5, .int r_6), (0, .ref (ya Z 0)), (1, .int x1), (2, .int x2), (3, .int x3), (4, .int x4)]) hx hb dX7_would_9 hl (by decide) rfl (fun ls hl => ?_)
  refine lv_iload hx hb dX7_would_11 (lv_at hl 0 rfl) ?_
  refine lv_if_ge (tgt := 19) hx hb dX7_would_13 (by decide) (fun c_13 => ?_) (fun c_13 => ?_)
  · skip
    have i_13 := ti_lek tk_0 rfl c_13
    have z6 : r_6 = 0 := Classical.byContradiction (fun z => by have y := rjF_neg hr_6 z; omega)
    have v6 := rjF_0 hr_6 z6
    have d6 := dv100 v6.1.2.1
    refine lv_aload_n hx hb dX7_would_19 rfl (lv_at hl 1 rfl) ?_
    refine lv_iload_n hx hb dX7_would_20 rfl (lv_at hl 2 rfl) ?_
    refine lv_iload_n hx hb dX7_would_21 rfl (lv_at hl 3 rfl) ?_
    refine lv_iload_n hx hb dX7_would_22 rfl (lv_at hl 4 rfl) ?_
    refine lv_iload hx hb dX7_would_23 (lv_at hl 5 rfl) ?_
    refine lv_bipush (v := 100) hx hb dX7_would_25 (by decide) ?_
    refine lv_idiv hx hb dX7_would_27 (by decide) ?_
    refine lv_topi (fun v_27 e_27 => ?_)
    refine lv_iload hx hb dX7_would_28 (lv_at hl 5 rfl) ?_
    refine lv_bipush (v := 100) hx hb dX7_would_30 (by decide) ?_
    refine lv_irem hx hb dX7_would_32 (by decide) ?_
    refine lv_topi (fun v_32 e_32 => ?_)
    refine va_callv (va_runV (As := [.int x1, .int x2, .int x3, .int v_27, .int v_32]) (rest := []) ⟨hx, hb, hml, hown, hT⟩ (c_X7_take l Z hZ g gl x1 x2 x3 v_27 v_32 (by rw [e_27]; exact ⟨d6.1, v6.1.2.2.1⟩) (by rw [e_32]; exact v6.1.2.2.2.1) (by first | assumption | omega | decide) hJ) (cwV 5 hT (tb_V (fun _ h => h) (tr_17 _ (List.mem_of_getElem? (i := 21) rfl)) (tr_17 _ (List.mem_of_getElem? (i := 22) rfl)) (tr_17 _ (List.mem_of_getElem? (i := 23) rfl)) (tr_1 _ (List.mem_of_getElem? (i := 5) rfl)) (tr_18 _ (List.mem_of_getElem? (i := 0) rfl))) rfl rfl rfl (by decide +kernel) ⟨Nat.le_of_ble_eq_true rfl, Nat.le_of_ble_eq_true rfl⟩) ⟨fun a U f mk q => ⟨q.1, MI.blind f mk a q.2⟩, va_recv hK hP (ci := 7) (q0 := 0) rfl mw_0, fun U hU hW => ⟨rfl, hI.at hS hP hU hW⟩⟩ rfl rfl hl.1 rfl (lv_room (Nat.le_of_ble_eq_true rfl)) dX7_would_33 ⟨Nat.zero_le _, Nat.zero_le _⟩) hS (fun q _ h => h) (fun q h => h) (fun u_33 t_33 H locs ht_33 _ hw_33 hB_33 _ _ hS => ?_)
    obtain ⟨g_33, gl_33⟩ := u_33
    have hP : va_P (yD Z) vwCl (mw Z g_33 gl_33) H := ht_33 ▸ hB_33
    obtain ⟨hf_33, hJ, el_33, hr_33⟩ := hw_33
    have hF := hF.tr hf_33 (by decide)
    dsimp only at hf_33 hJ hF el_33 hr_33
    subst el_33
    have k33 : (g_33 31 0).toInt = (g 31 0).toInt + 1 := by rw [hr_33.1.1]; exact ti_addk (x := g 31 0) rfl tk_1 (by omega) (by omega) rfl
    have r33 := hr_33.1.rows (by omega)
    have t33 := hr_33.1
    rw [e_27, e_32] at t33
    have hJ33 := hJ
    refine lv_aload_n hx hb dX7_would_36 rfl (lv_at hl 1 rfl) ?_
    refine lv_aload_n hx hb dX7_would_37 rfl (lv_at hl 1 rfl) ?_
    refine va_get (D := yD Z) (ci := 7) (v := .int (g_33 31 0)) (C := RX7) (T := TX7) (N := 31) hx hb hT inlX7 hown hK hP 0 mw_0 rfl 1 (by decide) (hT _ (tr_17 _ (List.mem_of_getElem? (i := 14) rfl))) (fun _ h9 => h9) rfl dX7_would_38 ?_
    refine lv_iconst (v := 1) hx hb dX7_would_41 (by decide) ?_
    refine lv_isub hx hb dX7_would_42 ?_
    refine lv_topi (fun v_42 e_42 => ?_)
    have t_42 := ti_subk rfl tk_1 (by omega) (by omega) e_42
    refine rd_ci (va_runV (As := [.int v_42]) (rest := []) ⟨hx, hb, hml, hown, hT⟩ (c_X7_quantitiesOf l Z hZ g_33 gl v_42 hJ) (cwV 1 hT (tb_V (fun _ h => h) (tr_22 _ (List.mem_of_getElem? (i := 14) rfl)) (tr_22 _ (List.mem_of_getElem? (i := 15) rfl)) (tr_22 _ (List.mem_of_getElem? (i := 16) rfl)) (tr_1 _ (List.mem_of_getElem? (i := 5) rfl)) (tr_22 _ (List.mem_of_getElem? (i := 17) rfl))) rfl rfl rfl (by decide +kernel) ⟨Nat.le_of_ble_eq_true rfl, Nat.le_of_ble_eq_true rfl⟩) ⟨fun a U f mk q => ⟨q.1, MI.blind f mk a q.2⟩, va_recv hK hP (ci := 7) (q0 := 0) rfl mw_0, fun U hU hW => ⟨rfl, hI.at hS hP hU hW⟩⟩ rfl rfl hl.1 rfl (lv_room (Nat.le_of_ble_eq_true rfl)) dX7_would_43 ⟨Nat.zero_le _, Nat.zero_le _⟩) (fun r_43 hr_43 => ?_)
    refine lv_istore (lv' := [(6, .int r_43), (5, .int r_6), (0, .ref (ya Z 0)), (1, .int x1), (2, .int x2), (3, .int x3), (4, .int x4)]) hx hb dX7_would_46 hl (by decide) rfl (fun ls hl => ?_)
    refine lv_aload_n hx hb dX7_would_48 rfl (lv_at hl 2 rfl) ?_
    refine lv_aload_n hx hb dX7_would_49 rfl (lv_at hl 2 rfl) ?_
    refine va_get (D := yD Z) (ci := 7) (v := .int (g_33 31 0)) (C := RX7) (T := TX7) (N := 31) hx hb hT inlX7 hown hK hP 0 mw_0 rfl 1 (by decide) (hT _ (tr_17 _ (List.mem_of_getElem? (i := 14) rfl))) (fun _ h9 => h9) rfl dX7_would_50 ?_
    refine lv_iconst (v := 1) hx hb dX7_would_53 (by decide) ?_
    refine lv_isub hx hb dX7_would_54 ?_
    refine lv_topi (fun v_54 e_54 => ?_)
    have t_54 := ti_subk rfl tk_1 (by omega) (by omega) e_54
    refine va_callv (va_runV (As := [.int v_54]) (rest := []) ⟨hx, hb, hml, hown, hT⟩ (c_X7_again l Z hZ g_33 gl v_54 (by first | assumption | omega | decide) hJ) (cwV 1 hT (tb_V (fun _ h => h) (tr_28 _ (List.mem_of_getElem? (i := 23) rfl)) (tr_29 _ (List.mem_of_getElem? (i := 0) rfl)) (tr_29 _ (List.mem_of_getElem? (i := 1) rfl)) (tr_1 _ (List.mem_of_getElem? (i := 5) rfl)) (tr_29 _ (List.mem_of_getElem? (i := 2) rfl))) rfl rfl rfl (by decide +kernel) ⟨Nat.le_of_ble_eq_true rfl, Nat.le_of_ble_eq_true rfl⟩) ⟨fun a U f mk q => ⟨q.1, MI.blind f mk a q.2⟩, va_recv hK hP (ci := 7) (q0 := 0) rfl mw_0, fun U hU hW => ⟨rfl, hI.at hS hP hU hW⟩⟩ rfl rfl hl.1 rfl (lv_room (Nat.le_of_ble_eq_true rfl)) dX7_would_55 ⟨Nat.zero_le _, Nat.zero_le _⟩) hS (fun q _ h => h) (fun q h => h) (fun u_55 t_55 H locs ht_55 _ hw_55 hB_55 _ _ hS => ?_)
    obtain ⟨g_55, gl_55⟩ := u_55
    have hP : va_P (yD Z) vwCl (mw Z g_55 gl_55) H := ht_55 ▸ hB_55
    obtain ⟨hf_55, hJ, el_55, hr_55⟩ := hw_55
    have hF := hF.tr hf_55 (by decide)
    dsimp only at hf_55 hJ hF el_55 hr_55
    subst el_55
    refine lv_iload hx hb dX7_would_58 (lv_at hl 0 rfl) ?_
    exact W.iret (v := r_43) hx hb hr (fun t ht hW => ⟨⟨r_43, (g_55, gl), rfl, ⟨hF, hJ, rfl, (by (try dsimp only); first | done | exact ⟨⟨⟨r_6, hr_6, Or.inr ⟨z6, g_33, hJ33, t33, hr_33.2, by rw [hr_43, show v_42.toInt = (g 31 0).toInt by omega], by have q := hr_55.2; rw [show v_54.toInt.toNat = (g 31 0).toInt.toNat by omega, TR_cr (R2 := g_55) (g 31 0).toInt.toNat (by omega) (fun t _ k hk => by rw [hf_55 (k + 1) (by simp; omega)])] at q; exact q⟩⟩, Int32.toInt_inj.mp (by show (g_55 31 0).toInt = _; rw [hr_55.1]; omega), r33.tr (rwL.fr (n := (g 31 0).toInt) hf_55 (by decide)) (Int.le_refl _)⟩, (by show (g_55 31 0).toInt ≤ 40; rw [hr_55.1]; omega)⟩)⟩, by show va_P (yD Z) vwCl (mw Z g_55 gl) t.heap; rw [ht]; exact hP⟩, hS.F ht⟩) hS.2.2 dX7_would_60
  · skip
    have i_13 := ti_nlek tk_0 rfl c_13
    refine lv_iload hx hb dX7_would_16 (lv_at hl 0 rfl) ?_
    exact W.iret (v := r_6) hx hb hr (fun t ht hW => ⟨⟨r_6, (g, gl), rfl, ⟨hF, hJ, rfl, (by (try dsimp only); first | done | exact ⟨⟨⟨r_6, hr_6, Or.inl ⟨fun z => by rw [z] at i_13; exact absurd i_13 (by decide), rfl, rfl⟩⟩, rfl, rwL.rf⟩, h40⟩)⟩, by show va_P (yD Z) vwCl (mw Z g gl) t.heap; rw [ht]; exact hP⟩, hS.F ht⟩) hS.2.2 dX7_would_18
set_option maxHeartbeats 4000000 in
set_option maxRecDepth 100000 in
theorem c_X7_cheapest (l : Launch) (Z : YT) (hZ : MG Z) (g : Nat → Nat → Int32) (gl : Nat → Nat → Int64) (x1 : Int32) (hJ : MJ g) : Met l yX7_cheapest (Cond.code yX7_cheapest cX7_cheapest 2 (some .int) :: wsL_law) ({ frames := 5, cells := 0, slots := 0, locals := 119 } : Room) (va_Pc [.ref (ya Z 0), .int x1] (MI Z g gl)) (rd_Qi (fun r => ((¬ (0 < (g 30 0).toInt ∧ (0 ≤ x1.toInt ∧ x1.toInt ≤ 63)) ∧ r = -101) ∨ ((0 < (g 30 0).toInt ∧ (0 ≤ x1.toInt ∧ x1.toInt ≤ 63)) ∧ r = mC g x1.toInt.toNat)))) 0 0 (fun _ => False) := by
  refine Met.ofW (cc := cX7_cheapest) (maxL := 2) (ret := (some .int)) (by decide) rfl ?_
  intro p e s m args below meth c s₁ B hml hv
  obtain ⟨rfl, hI⟩ := hv
  have hx := B.exec
  have hb := B.bytes
  have hr := B.returns
  have hT : ∀ w ∈ wsL_law, w.before ([.ref (ya Z 0), .int x1] : List Value).toArray s = true := fun w h => atoms_spec (ws := (Cond.code yX7_cheapest cX7_cheapest 2 (some .int) :: wsL_law)) B.pre w (List.mem_cons_of_mem _ h)
  have hown : s.vm.findClass RX7 = some m.cls := findClass_of_methodNamed B.named
  have hlocks := B.notSynchronized
  have hK := hI.2
  have hP := hI.1
  have hS : va_S (yA Z) s.heap s.heap [] := va_S.rf
  have hl := lv_entry ([.ref (ya Z 0), .int x1]) (n := 2) (Nat.le_of_ble_eq_true rfl)
  rw [lg_entry_eq]
  generalize (lg_sl ([.ref (ya Z 0), .int x1]) ++ List.replicate (2 - (lg_sl ([.ref (ya Z 0), .int x1])).length) Slot.unset).toArray = ls at hl ⊢
  have hl : lv_has ls 2 [(0, .ref (ya Z 0)), (1, .int x1)] := hl
  refine lv_aload_n hx hb dX7_cheapest_0 rfl (lv_at hl 0 rfl) ?_
  refine va_get (D := yD Z) (ci := 7) (v := .int (g 30 0)) (C := RX7) (T := TX7) (N := 31) hx hb hT inlX7 hown hK hP 0 mw_0 rfl 0 (by decide) (hT _ (tr_17 _ (List.mem_of_getElem? (i := 15) rfl))) (fun _ h9 => h9) rfl dX7_cheapest_1 ?_
  refine lv_if_le (tgt := 22) hx hb dX7_cheapest_4 (by decide) (fun c_4 => ?_) (fun c_4 => ?_)
  · skip
    have i_4 := ti_lek rfl tk_0 c_4
    refine lv_bipush (v := (-101)) hx hb dX7_cheapest_22 (by decide) ?_
    exact W.iret (v := (-101)) hx hb hr (fun t ht hW => ⟨(-101), rfl, Or.inl ⟨by omega, rfl⟩, ht⟩) (fun q hq => by cases hq) dX7_cheapest_24
  · skip
    have i_4 := ti_nlek rfl tk_0 c_4
    refine lv_iload_n hx hb dX7_cheapest_7 rfl (lv_at hl 1 rfl) ?_
    refine rd_ci (va_runS (As := [.int x1]) (rest := []) ⟨hx, hb, hml, hown, hT⟩ (c_X7_isQuantity l x1) (va_cwS 1 hT (tb_S (fun _ h => h) (tr_25 _ (List.mem_of_getElem? (i := 2) rfl)) (tr_25 _ (List.mem_of_getElem? (i := 3) rfl)) (tr_1 _ (List.mem_of_getElem? (i := 5) rfl)) (tr_25 _ (List.mem_of_getElem? (i := 4) rfl))) rfl rfl rfl (by decide +kernel) ⟨Nat.le_of_ble_eq_true rfl, Nat.le_of_ble_eq_true rfl⟩) ⟨fun _ _ _ _ q => q, fun U hU hW => ⟨rfl, trivial⟩⟩ rfl rfl hl.1 rfl (lv_room (Nat.le_of_ble_eq_true rfl)) dX7_cheapest_8 ⟨Nat.zero_le _, Nat.zero_le _⟩) (fun r_8 hr_8 => ?_)
    rcases hr_8 with ⟨rfl, b_8⟩ | ⟨rfl, b_8⟩
    · skip
      refine lv_if_eq (tgt := 22) hx hb dX7_cheapest_11 (by decide) (fun c_11 => absurd c_11 (by decide)) (fun c_11 => ?_)
      refine lv_aload_n hx hb dX7_cheapest_14 rfl (lv_at hl 0 rfl) ?_
      refine lv_iload_n hx hb dX7_cheapest_15 rfl (lv_at hl 1 rfl) ?_
      refine rd_ci (va_runV (As := [.int x1]) (rest := []) ⟨hx, hb, hml, hown, hT⟩ (c_X7_cheapestFor l Z hZ g gl x1 (by first | assumption | omega | decide) hJ) (cwV 1 hT (tb_V (fun _ h => h) (tr_22 _ (List.mem_of_getElem? (i := 18) rfl)) (tr_22 _ (List.mem_of_getElem? (i := 19) rfl)) (tr_22 _ (List.mem_of_getElem? (i := 20) rfl)) (tr_1 _ (List.mem_of_getElem? (i := 5) rfl)) (tr_22 _ (List.mem_of_getElem? (i := 21) rfl))) rfl rfl rfl (by decide +kernel) ⟨Nat.le_of_ble_eq_true rfl, Nat.le_of_ble_eq_true rfl⟩) ⟨fun a U f mk q => ⟨q.1, MI.blind f mk a q.2⟩, va_recv hK hP (ci := 7) (q0 := 0) rfl mw_0, fun U hU hW => ⟨rfl, hI.at hS hP hU hW⟩⟩ rfl rfl hl.1 rfl (lv_room (Nat.le_of_ble_eq_true rfl)) dX7_cheapest_16 ⟨Nat.zero_le _, Nat.zero_le _⟩) (fun r_16 hr_16 => ?_)
      have e16 : r_16 = mC g x1.toInt.toNat := by rw [hr_16.1]; unfold mC; rw [← show x1 = nI x1.toInt.toNat from nI_ek (by omega)]
      refine lv_goto (tgt := 24) hx hb dX7_cheapest_19 (by decide) ?_
      exact W.iret (v := r_16) hx hb hr (fun t ht hW => ⟨r_16, rfl, Or.inr ⟨⟨by omega, b_8⟩, e16⟩, ht⟩) (fun q hq => by cases hq) dX7_cheapest_24
    · skip
      refine lv_if_eq (tgt := 22) hx hb dX7_cheapest_11 (by decide) (fun c_11 => ?_) (fun c_11 => absurd c_11 (by decide))
      refine lv_bipush (v := (-101)) hx hb dX7_cheapest_22 (by decide) ?_
      exact W.iret (v := (-101)) hx hb hr (fun t ht hW => ⟨(-101), rfl, Or.inl ⟨by omega, rfl⟩, ht⟩) (fun q hq => by cases hq) dX7_cheapest_24
set_option maxHeartbeats 4000000 in
set_option maxRecDepth 100000 in
theorem c_X7_costFor (l : Launch) (Z : YT) (hZ : MG Z) (g : Nat → Nat → Int32) (gl : Nat → Nat → Int64) (x1 : Int32) (h1 : 0 ≤ x1.toInt ∧ x1.toInt ≤ 63) (hJ : MJ g) : Met l yX7_costFor (Cond.code yX7_costFor cX7_costFor 3 (some .long) :: wsL_law) ({ frames := 5, cells := 0, slots := 0, locals := 119 } : Room) (va_Pc [.ref (ya Z 0), .int x1] (MI Z g gl)) (rd_Ql (fun r => r = csF g (mC g) x1.toInt.toNat)) 0 0 (fun _ => False) := by
  refine Met.ofW (cc := cX7_costFor) (maxL := 3) (ret := (some .long)) (by decide) rfl ?_
  intro p e s m args below meth c s₁ B hml hv
  obtain ⟨rfl, hI⟩ := hv
  have hx := B.exec
  have hb := B.bytes
  have hr := B.returns
  have hT : ∀ w ∈ wsL_law, w.before ([.ref (ya Z 0), .int x1] : List Value).toArray s = true := fun w h => atoms_spec (ws := (Cond.code yX7_costFor cX7_costFor 3 (some .long) :: wsL_law)) B.pre w (List.mem_cons_of_mem _ h)
  have hown : s.vm.findClass RX7 = some m.cls := findClass_of_methodNamed B.named
  have hlocks := B.notSynchronized
  have hK := hI.2
  have hP := hI.1
  have hS : va_S (yA Z) s.heap s.heap [] := va_S.rf
  have hl := lv_entry ([.ref (ya Z 0), .int x1]) (n := 3) (Nat.le_of_ble_eq_true rfl)
  rw [lg_entry_eq]
  generalize (lg_sl ([.ref (ya Z 0), .int x1]) ++ List.replicate (3 - (lg_sl ([.ref (ya Z 0), .int x1])).length) Slot.unset).toArray = ls at hl ⊢
  have hl : lv_has ls 3 [(0, .ref (ya Z 0)), (1, .int x1)] := hl
  refine lv_aload_n hx hb dX7_costFor_0 rfl (lv_at hl 0 rfl) ?_
  refine lv_iload_n hx hb dX7_costFor_1 rfl (lv_at hl 1 rfl) ?_
  refine rd_ci (va_runV (As := [.int x1]) (rest := []) ⟨hx, hb, hml, hown, hT⟩ (c_X7_cheapestFor l Z hZ g gl x1 (by first | assumption | omega | decide) hJ) (cwV 1 hT (tb_V (fun _ h => h) (tr_22 _ (List.mem_of_getElem? (i := 18) rfl)) (tr_22 _ (List.mem_of_getElem? (i := 19) rfl)) (tr_22 _ (List.mem_of_getElem? (i := 20) rfl)) (tr_1 _ (List.mem_of_getElem? (i := 5) rfl)) (tr_22 _ (List.mem_of_getElem? (i := 21) rfl))) rfl rfl rfl (by decide +kernel) ⟨Nat.le_of_ble_eq_true rfl, Nat.le_of_ble_eq_true rfl⟩) ⟨fun a U f mk q => ⟨q.1, MI.blind f mk a q.2⟩, va_recv hK hP (ci := 7) (q0 := 0) rfl mw_0, fun U hU hW => ⟨rfl, hI.at hS hP hU hW⟩⟩ rfl rfl hl.1 rfl (lv_room (Nat.le_of_ble_eq_true rfl)) dX7_costFor_2 ⟨Nat.zero_le _, Nat.zero_le _⟩) (fun r_2 hr_2 => ?_)
  have q2 := hr_2.2
  have e2 : r_2 = mC g x1.toInt.toNat := by rw [hr_2.1]; unfold mC; rw [← show x1 = nI x1.toInt.toNat from nI_ek (by omega)]
  refine lv_istore_n (lv' := [(2, .int r_2), (0, .ref (ya Z 0)), (1, .int x1)]) hx hb dX7_costFor_5 rfl hl (by decide) rfl (fun ls hl => ?_)
  refine lv_iload_n hx hb dX7_costFor_6 rfl (lv_at hl 0 rfl) ?_
  refine lv_iconst (v := (-1)) hx hb dX7_costFor_7 (by decide) ?_
  refine lv_icmp_ne (tgt := 17) hx hb dX7_costFor_8 (by decide) (fun c_8 => ?_) (fun c_8 => ?_)
  · skip
    have i_8 := ti_nek rfl tk_m1 c_8
    have m8 := ti_nek rfl tk_m1 c_8
    refine lv_ldc2 (v := 3000000000) hx hb hown (hT _ (tr_25 _ (List.mem_of_getElem? (i := 0) rfl))) dX7_costFor_17 ?_
    refine lv_aload_n hx hb dX7_costFor_20 rfl (lv_at hl 1 rfl) ?_
    refine lv_iload_n hx hb dX7_costFor_21 rfl (lv_at hl 0 rfl) ?_
    refine lv_iload_n hx hb dX7_costFor_22 rfl (lv_at hl 2 rfl) ?_
    refine rd_cl (va_runV (As := [.int r_2, .int x1]) (rest := [.long 3000000000]) ⟨hx, hb, hml, hown, hT⟩ (c_X7_priceOf l Z hZ g gl r_2 x1 (by first | assumption | omega | decide) hJ) (cwV 2 hT (tb_V (fun _ h => h) (tr_19 _ (List.mem_of_getElem? (i := 5) rfl)) (tr_19 _ (List.mem_of_getElem? (i := 6) rfl)) (tr_19 _ (List.mem_of_getElem? (i := 7) rfl)) (tr_1 _ (List.mem_of_getElem? (i := 5) rfl)) (tr_19 _ (List.mem_of_getElem? (i := 8) rfl))) rfl rfl rfl (by decide +kernel) ⟨Nat.le_of_ble_eq_true rfl, Nat.le_of_ble_eq_true rfl⟩) ⟨fun a U f mk q => ⟨q.1, MI.blind f mk a q.2⟩, va_recv hK hP (ci := 7) (q0 := 0) rfl mw_0, fun U hU hW => ⟨rfl, hI.at hS hP hU hW⟩⟩ rfl rfl hl.1 rfl (lv_room (Nat.le_of_ble_eq_true rfl)) dX7_costFor_23 ⟨Nat.zero_le _, Nat.zero_le _⟩) (fun r_23 hr_23 => ?_)
    refine lv_ladd hx hb dX7_costFor_26 ?_
    refine lv_topl (fun v_26 e_26 => ?_)
    exact W.lret (v := v_26) hx hb hr (fun t ht hW => ⟨v_26, rfl, (by (try dsimp only); unfold csF; rw [if_neg (by rw [← e2]; exact c_8), e_26, hr_23, ← e2, ← show x1 = nI x1.toInt.toNat from nI_ek (by omega)]), ht⟩) (fun q hq => by cases hq) dX7_costFor_27
  · skip
    have i_8 := ti_eqk rfl tk_m1 c_8
    refine lv_ldc2 (v := (-1)) hx hb hown (hT _ (tr_30 _ (List.mem_of_getElem? (i := 0) rfl))) dX7_costFor_11 ?_
    refine lv_goto (tgt := 27) hx hb dX7_costFor_14 (by decide) ?_
    exact W.lret (v := (-1)) hx hb hr (fun t ht hW => ⟨(-1), rfl, (by (try dsimp only); unfold csF; rw [if_pos (by rw [← e2]; exact c_8)]), ht⟩) (fun q hq => by cases hq) dX7_costFor_27
set_option maxHeartbeats 4000000 in
set_option maxRecDepth 100000 in
theorem c_X7_cost (l : Launch) (Z : YT) (hZ : MG Z) (g : Nat → Nat → Int32) (gl : Nat → Nat → Int64) (x1 : Int32) (hJ : MJ g) : Met l yX7_cost (Cond.code yX7_cost cX7_cost 2 (some .long) :: wsL_law) ({ frames := 6, cells := 0, slots := 0, locals := 141 } : Room) (va_Pc [.ref (ya Z 0), .int x1] (MI Z g gl)) (rd_Ql (fun r => ((¬ (0 < (g 30 0).toInt ∧ (0 ≤ x1.toInt ∧ x1.toInt ≤ 63)) ∧ r = -101) ∨ ((0 < (g 30 0).toInt ∧ (0 ≤ x1.toInt ∧ x1.toInt ≤ 63)) ∧ r = csF g (mC g) x1.toInt.toNat)))) 0 0 (fun _ => False) := by
  refine Met.ofW (cc := cX7_cost) (maxL := 2) (ret := (some .long)) (by decide) rfl ?_
  intro p e s m args below meth c s₁ B hml hv
  obtain ⟨rfl, hI⟩ := hv
  have hx := B.exec
  have hb := B.bytes
  have hr := B.returns
  have hT : ∀ w ∈ wsL_law, w.before ([.ref (ya Z 0), .int x1] : List Value).toArray s = true := fun w h => atoms_spec (ws := (Cond.code yX7_cost cX7_cost 2 (some .long) :: wsL_law)) B.pre w (List.mem_cons_of_mem _ h)
  have hown : s.vm.findClass RX7 = some m.cls := findClass_of_methodNamed B.named
  have hlocks := B.notSynchronized
  have hK := hI.2
  have hP := hI.1
  have hS : va_S (yA Z) s.heap s.heap [] := va_S.rf
  have hl := lv_entry ([.ref (ya Z 0), .int x1]) (n := 2) (Nat.le_of_ble_eq_true rfl)
  rw [lg_entry_eq]
  generalize (lg_sl ([.ref (ya Z 0), .int x1]) ++ List.replicate (2 - (lg_sl ([.ref (ya Z 0), .int x1])).length) Slot.unset).toArray = ls at hl ⊢
  have hl : lv_has ls 2 [(0, .ref (ya Z 0)), (1, .int x1)] := hl
  refine lv_aload_n hx hb dX7_cost_0 rfl (lv_at hl 0 rfl) ?_
  refine va_get (D := yD Z) (ci := 7) (v := .int (g 30 0)) (C := RX7) (T := TX7) (N := 31) hx hb hT inlX7 hown hK hP 0 mw_0 rfl 0 (by decide) (hT _ (tr_17 _ (List.mem_of_getElem? (i := 15) rfl))) (fun _ h9 => h9) rfl dX7_cost_1 ?_
  refine lv_if_le (tgt := 22) hx hb dX7_cost_4 (by decide) (fun c_4 => ?_) (fun c_4 => ?_)
  · skip
    have i_4 := ti_lek rfl tk_0 c_4
    refine lv_ldc2 (v := (-101)) hx hb hown (hT _ (tr_24 _ (List.mem_of_getElem? (i := 23) rfl))) dX7_cost_22 ?_
    exact W.lret (v := (-101)) hx hb hr (fun t ht hW => ⟨(-101), rfl, Or.inl ⟨by omega, rfl⟩, ht⟩) (fun q hq => by cases hq) dX7_cost_25
  · skip
    have i_4 := ti_nlek rfl tk_0 c_4
    refine lv_iload_n hx hb dX7_cost_7 rfl (lv_at hl 1 rfl) ?_
    refine rd_ci (va_runS (As := [.int x1]) (rest := []) ⟨hx, hb, hml, hown, hT⟩ (c_X7_isQuantity l x1) (va_cwS 1 hT (tb_S (fun _ h => h) (tr_25 _ (List.mem_of_getElem? (i := 2) rfl)) (tr_25 _ (List.mem_of_getElem? (i := 3) rfl)) (tr_1 _ (List.mem_of_getElem? (i := 5) rfl)) (tr_25 _ (List.mem_of_getElem? (i := 4) rfl))) rfl rfl rfl (by decide +kernel) ⟨Nat.le_of_ble_eq_true rfl, Nat.le_of_ble_eq_true rfl⟩) ⟨fun _ _ _ _ q => q, fun U hU hW => ⟨rfl, trivial⟩⟩ rfl rfl hl.1 rfl (lv_room (Nat.le_of_ble_eq_true rfl)) dX7_cost_8 ⟨Nat.zero_le _, Nat.zero_le _⟩) (fun r_8 hr_8 => ?_)
    rcases hr_8 with ⟨rfl, b_8⟩ | ⟨rfl, b_8⟩
    · skip
      refine lv_if_eq (tgt := 22) hx hb dX7_cost_11 (by decide) (fun c_11 => absurd c_11 (by decide)) (fun c_11 => ?_)
      refine lv_aload_n hx hb dX7_cost_14 rfl (lv_at hl 0 rfl) ?_
      refine lv_iload_n hx hb dX7_cost_15 rfl (lv_at hl 1 rfl) ?_
      refine rd_cl (va_runV (As := [.int x1]) (rest := []) ⟨hx, hb, hml, hown, hT⟩ (c_X7_costFor l Z hZ g gl x1 (by first | assumption | omega | decide) hJ) (cwV 1 hT (tb_V (fun _ h => h) (tr_29 _ (List.mem_of_getElem? (i := 20) rfl)) (tr_29 _ (List.mem_of_getElem? (i := 21) rfl)) (tr_29 _ (List.mem_of_getElem? (i := 22) rfl)) (tr_1 _ (List.mem_of_getElem? (i := 5) rfl)) (tr_29 _ (List.mem_of_getElem? (i := 23) rfl))) rfl rfl rfl (by decide +kernel) ⟨Nat.le_of_ble_eq_true rfl, Nat.le_of_ble_eq_true rfl⟩) ⟨fun a U f mk q => ⟨q.1, MI.blind f mk a q.2⟩, va_recv hK hP (ci := 7) (q0 := 0) rfl mw_0, fun U hU hW => ⟨rfl, hI.at hS hP hU hW⟩⟩ rfl rfl hl.1 rfl (lv_room (Nat.le_of_ble_eq_true rfl)) dX7_cost_16 ⟨Nat.zero_le _, Nat.zero_le _⟩) (fun r_16 hr_16 => ?_)
      refine lv_goto (tgt := 25) hx hb dX7_cost_19 (by decide) ?_
      exact W.lret (v := r_16) hx hb hr (fun t ht hW => ⟨r_16, rfl, Or.inr ⟨⟨by omega, b_8⟩, hr_16⟩, ht⟩) (fun q hq => by cases hq) dX7_cost_25
    · skip
      refine lv_if_eq (tgt := 22) hx hb dX7_cost_11 (by decide) (fun c_11 => ?_) (fun c_11 => absurd c_11 (by decide))
      refine lv_ldc2 (v := (-101)) hx hb hown (hT _ (tr_24 _ (List.mem_of_getElem? (i := 23) rfl))) dX7_cost_22 ?_
      exact W.lret (v := (-101)) hx hb hr (fun t ht hW => ⟨(-101), rfl, Or.inl ⟨by omega, rfl⟩, ht⟩) (fun q hq => by cases hq) dX7_cost_25
set_option maxHeartbeats 4000000 in
set_option maxRecDepth 100000 in
theorem c_X7_isFirstOfPiece (l : Launch) (Z : YT) (hZ : MG Z) (g : Nat → Nat → Int32) (gl : Nat → Nat → Int64) (x1 : Int32) (h1 : 0 ≤ x1.toInt ∧ x1.toInt ≤ 63) (hJ : MJ g) : Met l yX7_isFirstOfPiece (Cond.code yX7_isFirstOfPiece cX7_isFirstOfPiece 3 (some .boolean) :: wsL_law) ({ frames := 5, cells := 0, slots := 0, locals := 119 } : Room) (va_Pc [.ref (ya Z 0), .int x1] (MI Z g gl)) (rd_Qi (fun r => (r = 1 ∧ fpB (mC g) x1.toInt.toNat = true) ∨ (r = 0 ∧ fpB (mC g) x1.toInt.toNat = false))) 0 0 (fun _ => False) := by
  refine Met.ofW (cc := cX7_isFirstOfPiece) (maxL := 3) (ret := (some .boolean)) (by decide) rfl ?_
  intro p e s m args below meth c s₁ B hml hv
  obtain ⟨rfl, hI⟩ := hv
  have hx := B.exec
  have hb := B.bytes
  have hr := B.returns
  have hT : ∀ w ∈ wsL_law, w.before ([.ref (ya Z 0), .int x1] : List Value).toArray s = true := fun w h => atoms_spec (ws := (Cond.code yX7_isFirstOfPiece cX7_isFirstOfPiece 3 (some .boolean) :: wsL_law)) B.pre w (List.mem_cons_of_mem _ h)
  have hown : s.vm.findClass RX7 = some m.cls := findClass_of_methodNamed B.named
  have hlocks := B.notSynchronized
  have hK := hI.2
  have hP := hI.1
  have hS : va_S (yA Z) s.heap s.heap [] := va_S.rf
  have hl := lv_entry ([.ref (ya Z 0), .int x1]) (n := 3) (Nat.le_of_ble_eq_true rfl)
  rw [lg_entry_eq]
  generalize (lg_sl ([.ref (ya Z 0), .int x1]) ++ List.replicate (3 - (lg_sl ([.ref (ya Z 0), .int x1])).length) Slot.unset).toArray = ls at hl ⊢
  have hl : lv_has ls 3 [(0, .ref (ya Z 0)), (1, .int x1)] := hl
  refine lv_aload_n hx hb dX7_isFirstOfPiece_0 rfl (lv_at hl 0 rfl) ?_
  refine lv_iload_n hx hb dX7_isFirstOfPiece_1 rfl (lv_at hl 1 rfl) ?_
  refine rd_ci (va_runV (As := [.int x1]) (rest := []) ⟨hx, hb, hml, hown, hT⟩ (c_X7_cheapestFor l Z hZ g gl x1 (by first | assumption | omega | decide) hJ) (cwV 1 hT (tb_V (fun _ h => h) (tr_22 _ (List.mem_of_getElem? (i := 18) rfl)) (tr_22 _ (List.mem_of_getElem? (i := 19) rfl)) (tr_22 _ (List.mem_of_getElem? (i := 20) rfl)) (tr_1 _ (List.mem_of_getElem? (i := 5) rfl)) (tr_22 _ (List.mem_of_getElem? (i := 21) rfl))) rfl rfl rfl (by decide +kernel) ⟨Nat.le_of_ble_eq_true rfl, Nat.le_of_ble_eq_true rfl⟩) ⟨fun a U f mk q => ⟨q.1, MI.blind f mk a q.2⟩, va_recv hK hP (ci := 7) (q0 := 0) rfl mw_0, fun U hU hW => ⟨rfl, hI.at hS hP hU hW⟩⟩ rfl rfl hl.1 rfl (lv_room (Nat.le_of_ble_eq_true rfl)) dX7_isFirstOfPiece_2 ⟨Nat.zero_le _, Nat.zero_le _⟩) (fun r_2 hr_2 => ?_)
  have e2 : r_2 = mC g x1.toInt.toNat := by rw [hr_2.1]; unfold mC; rw [← show x1 = nI x1.toInt.toNat from nI_ek (by omega)]
  refine lv_istore_n (lv' := [(2, .int r_2), (0, .ref (ya Z 0)), (1, .int x1)]) hx hb dX7_isFirstOfPiece_5 rfl hl (by decide) rfl (fun ls hl => ?_)
  refine lv_iload_n hx hb dX7_isFirstOfPiece_6 rfl (lv_at hl 0 rfl) ?_
  refine lv_iconst (v := (-1)) hx hb dX7_isFirstOfPiece_7 (by decide) ?_
  refine lv_icmp_eq (tgt := 30) hx hb dX7_isFirstOfPiece_8 (by decide) (fun c_8 => ?_) (fun c_8 => ?_)
  · skip
    have i_8 := ti_eqk rfl tk_m1 c_8
    refine lv_iconst (v := 0) hx hb dX7_isFirstOfPiece_30 (by decide) ?_
    exact W.zret (v := 0) (ty := .boolean) hx hb hr rfl (fun t ht hW => ⟨0, rfl, Or.inr ⟨rfl, (fp_n (by first | exact Or.inl (by rw [← e2]; exact c_8) | exact Or.inr ⟨by omega, by rw [← e19, ← e2]; exact c_23⟩))⟩, ht⟩) (fun q hq => by cases hq) dX7_isFirstOfPiece_31
  · skip
    have i_8 := ti_nek rfl tk_m1 c_8
    refine lv_iload_n hx hb dX7_isFirstOfPiece_11 rfl (lv_at hl 2 rfl) ?_
    refine lv_if_eq (tgt := 26) hx hb dX7_isFirstOfPiece_12 (by decide) (fun c_12 => ?_) (fun c_12 => ?_)
    · skip
      have i_12 := ti_eqk rfl tk_0 c_12
      refine lv_iconst (v := 1) hx hb dX7_isFirstOfPiece_26 (by decide) ?_
      refine lv_goto (tgt := 31) hx hb dX7_isFirstOfPiece_27 (by decide) ?_
      exact W.zret (v := 1) (ty := .boolean) hx hb hr rfl (fun t ht hW => ⟨1, rfl, Or.inl ⟨rfl, (fp_y (by rw [← e2]; exact c_8) (by first | exact Or.inl (by omega) | exact Or.inr (by rw [← e19, ← e2]; exact c_23)))⟩, ht⟩) (fun q hq => by cases hq) dX7_isFirstOfPiece_31
    · skip
      have i_12 := ti_nek rfl tk_0 c_12
      refine lv_aload_n hx hb dX7_isFirstOfPiece_15 rfl (lv_at hl 1 rfl) ?_
      refine lv_iload_n hx hb dX7_isFirstOfPiece_16 rfl (lv_at hl 2 rfl) ?_
      refine lv_iconst (v := 1) hx hb dX7_isFirstOfPiece_17 (by decide) ?_
      refine lv_isub hx hb dX7_isFirstOfPiece_18 ?_
      refine lv_topi (fun v_18 e_18 => ?_)
      have t_18 := ti_subk rfl tk_1 (by omega) (by omega) e_18
      refine rd_ci (va_runV (As := [.int v_18]) (rest := []) ⟨hx, hb, hml, hown, hT⟩ (c_X7_cheapestFor l Z hZ g gl v_18 (by first | assumption | omega | decide) hJ) (cwV 1 hT (tb_V (fun _ h => h) (tr_22 _ (List.mem_of_getElem? (i := 18) rfl)) (tr_22 _ (List.mem_of_getElem? (i := 19) rfl)) (tr_22 _ (List.mem_of_getElem? (i := 20) rfl)) (tr_1 _ (List.mem_of_getElem? (i := 5) rfl)) (tr_22 _ (List.mem_of_getElem? (i := 21) rfl))) rfl rfl rfl (by decide +kernel) ⟨Nat.le_of_ble_eq_true rfl, Nat.le_of_ble_eq_true rfl⟩) ⟨fun a U f mk q => ⟨q.1, MI.blind f mk a q.2⟩, va_recv hK hP (ci := 7) (q0 := 0) rfl mw_0, fun U hU hW => ⟨rfl, hI.at hS hP hU hW⟩⟩ rfl rfl hl.1 rfl (lv_room (Nat.le_of_ble_eq_true rfl)) dX7_isFirstOfPiece_19 ⟨Nat.zero_le _, Nat.zero_le _⟩) (fun r_19 hr_19 => ?_)
      have e19 : r_19 = mC g (x1.toInt.toNat - 1) := by rw [hr_19.1]; unfold mC; rw [show v_18 = nI (x1.toInt.toNat - 1) from nI_ek (by omega)]
      refine lv_iload_n hx hb dX7_isFirstOfPiece_22 rfl (lv_at hl 0 rfl) ?_
      refine lv_icmp_eq (tgt := 30) hx hb dX7_isFirstOfPiece_23 (by decide) (fun c_23 => ?_) (fun c_23 => ?_)
      · skip
        have i_23 := ti_eqk rfl rfl c_23
        refine lv_iconst (v := 0) hx hb dX7_isFirstOfPiece_30 (by decide) ?_
        exact W.zret (v := 0) (ty := .boolean) hx hb hr rfl (fun t ht hW => ⟨0, rfl, Or.inr ⟨rfl, (fp_n (by first | exact Or.inl (by rw [← e2]; exact c_8) | exact Or.inr ⟨by omega, by rw [← e19, ← e2]; exact c_23⟩))⟩, ht⟩) (fun q hq => by cases hq) dX7_isFirstOfPiece_31
      · skip
        have i_23 := ti_nek rfl rfl c_23
        refine lv_iconst (v := 1) hx hb dX7_isFirstOfPiece_26 (by decide) ?_
        refine lv_goto (tgt := 31) hx hb dX7_isFirstOfPiece_27 (by decide) ?_
        exact W.zret (v := 1) (ty := .boolean) hx hb hr rfl (fun t ht hW => ⟨1, rfl, Or.inl ⟨rfl, (fp_y (by rw [← e2]; exact c_8) (by first | exact Or.inl (by omega) | exact Or.inr (by rw [← e19, ← e2]; exact c_23)))⟩, ht⟩) (fun q hq => by cases hq) dX7_isFirstOfPiece_31
set_option maxHeartbeats 4000000 in
set_option maxRecDepth 100000 in
theorem c_X7_pieces (l : Launch) (Z : YT) (hZ : MG Z) (g : Nat → Nat → Int32) (gl : Nat → Nat → Int64)  (hJ : MJ g) : Met l yX7_pieces (Cond.code yX7_pieces cX7_pieces 3 (some .int) :: wsL_law) ({ frames := 6, cells := 0, slots := 0, locals := 141 } : Room) (va_Pc [.ref (ya Z 0)] (MI Z g gl)) (rd_Qi (fun r => ((0 < (g 30 0).toInt → r.toInt = (cB (fpB (mC g)) 64 : Int)) ∧ (¬ 0 < (g 30 0).toInt → r = 0)))) 0 0 (fun _ => False) := by
  refine Met.ofW (cc := cX7_pieces) (maxL := 3) (ret := (some .int)) (by decide) rfl ?_
  intro p e s m args below meth c s₁ B hml hv
  obtain ⟨rfl, hI⟩ := hv
  have hx := B.exec
  have hb := B.bytes
  have hr := B.returns
  have hT : ∀ w ∈ wsL_law, w.before ([.ref (ya Z 0)] : List Value).toArray s = true := fun w h => atoms_spec (ws := (Cond.code yX7_pieces cX7_pieces 3 (some .int) :: wsL_law)) B.pre w (List.mem_cons_of_mem _ h)
  have hown : s.vm.findClass RX7 = some m.cls := findClass_of_methodNamed B.named
  have hlocks := B.notSynchronized
  have hK := hI.2
  have hP := hI.1
  have hS : va_S (yA Z) s.heap s.heap [] := va_S.rf
  have hl := lv_entry ([.ref (ya Z 0)]) (n := 3) (Nat.le_of_ble_eq_true rfl)
  rw [lg_entry_eq]
  generalize (lg_sl ([.ref (ya Z 0)]) ++ List.replicate (3 - (lg_sl ([.ref (ya Z 0)])).length) Slot.unset).toArray = ls at hl ⊢
  have hl : lv_has ls 3 [(0, .ref (ya Z 0))] := hl
  have L4 : ∀ (n : Nat) (z1 : Int32) (z2 : Int32)  (h2 : 0 ≤ z2.toInt ∧ z2.toInt ≤ 64) (hC : z1.toInt = (cB (fpB (mC g)) z2.toInt.toNat : Int)) (hD : z2.toInt = 0 ∨ 0 < (g 30 0).toInt) (hn : (64 - z2.toInt).toNat < n) (ls : Array Slot) (hl : lv_has ls 3 [(0, .ref (ya Z 0)), (1, .int z1), (2, .int z2)]), W p l e ({ frames := 6, cells := 0, slots := 0, locals := 141 } : Room) s m ([.ref (ya Z 0)] : List Value).toArray below meth c s.heap [] 0 0 (MQ below (rd_Qi (fun r => ((0 < (g 30 0).toInt → r.toInt = (cB (fpB (mC g)) 64 : Int)) ∧ (¬ 0 < (g 30 0).toInt → r = 0)))) ([.ref (ya Z 0)] : List Value).toArray s 0 0 (fun _ => False)) (F0 m 4 ls []) := by
    intro n
    induction n with
    | zero => intro z1 z2 h2 hC hD hn; exact absurd hn (Nat.not_lt_zero _)
    | succ n ih4 =>
      intro z1 z2 h2 hC hD hn ls hl
      refine lv_iload_n hx hb dX7_pieces_4 rfl (lv_at hl 2 rfl) ?_
      refine lv_bipush (v := 64) hx hb dX7_pieces_5 (by decide) ?_
      refine lv_icmp_ge (tgt := 39) hx hb dX7_pieces_7 (by decide) (fun c_7 => ?_) (fun c_7 => ?_)
      · skip
        have i_7 := ti_lek tk_64 rfl c_7
        refine lv_iload_n hx hb dX7_pieces_39 rfl (lv_at hl 1 rfl) ?_
        exact W.iret (v := z1) hx hb hr (fun t ht hW => ⟨z1, rfl, ⟨fun z => by first | (exfalso; omega) | rw [hC, show z2.toInt.toNat = 64 by omega], fun z => by first | (exfalso; omega) | (rw [show z2.toInt.toNat = 0 by omega] at hC; exact Int32.toInt_inj.mp (by rw [hC, tk_0]; rfl))⟩, ht⟩) (fun q hq => by cases hq) dX7_pieces_40
      · skip
        have i_7 := ti_nlek tk_64 rfl c_7
        refine lv_aload_n hx hb dX7_pieces_10 rfl (lv_at hl 0 rfl) ?_
        refine va_get (D := yD Z) (ci := 7) (v := .int (g 30 0)) (C := RX7) (T := TX7) (N := 31) hx hb hT inlX7 hown hK hP 0 mw_0 rfl 0 (by decide) (hT _ (tr_17 _ (List.mem_of_getElem? (i := 15) rfl))) (fun _ h9 => h9) rfl dX7_pieces_11 ?_
        refine lv_if_le (tgt := 39) hx hb dX7_pieces_14 (by decide) (fun c_14 => ?_) (fun c_14 => ?_)
        · skip
          have i_14 := ti_lek rfl tk_0 c_14
          refine lv_iload_n hx hb dX7_pieces_39 rfl (lv_at hl 1 rfl) ?_
          exact W.iret (v := z1) hx hb hr (fun t ht hW => ⟨z1, rfl, ⟨fun z => by first | (exfalso; omega) | rw [hC, show z2.toInt.toNat = 64 by omega], fun z => by first | (exfalso; omega) | (rw [show z2.toInt.toNat = 0 by omega] at hC; exact Int32.toInt_inj.mp (by rw [hC, tk_0]; rfl))⟩, ht⟩) (fun q hq => by cases hq) dX7_pieces_40
        · skip
          have i_14 := ti_nlek rfl tk_0 c_14
          have ml := cB_le (fpB (mC g)) z2.toInt.toNat
          refine lv_iload_n hx hb dX7_pieces_17 rfl (lv_at hl 1 rfl) ?_
          refine lv_aload_n hx hb dX7_pieces_18 rfl (lv_at hl 0 rfl) ?_
          refine lv_iload_n hx hb dX7_pieces_19 rfl (lv_at hl 2 rfl) ?_
          refine rd_ci (va_runV (As := [.int z2]) (rest := [.int z1]) ⟨hx, hb, hml, hown, hT⟩ (c_X7_isFirstOfPiece l Z hZ g gl z2 (by first | assumption | omega | decide) hJ) (cwV 1 hT (tb_V (fun _ h => h) (tr_31 _ (List.mem_of_getElem? (i := 1) rfl)) (tr_31 _ (List.mem_of_getElem? (i := 2) rfl)) (tr_31 _ (List.mem_of_getElem? (i := 3) rfl)) (tr_1 _ (List.mem_of_getElem? (i := 5) rfl)) (tr_31 _ (List.mem_of_getElem? (i := 4) rfl))) rfl rfl rfl (by decide +kernel) ⟨Nat.le_of_ble_eq_true rfl, Nat.le_of_ble_eq_true rfl⟩) ⟨fun a U f mk q => ⟨q.1, MI.blind f mk a q.2⟩, va_recv hK hP (ci := 7) (q0 := 0) rfl mw_0, fun U hU hW => ⟨rfl, hI.at hS hP hU hW⟩⟩ rfl rfl hl.1 rfl (lv_room (Nat.le_of_ble_eq_true rfl)) dX7_pieces_20 ⟨Nat.zero_le _, Nat.zero_le _⟩) (fun r_20 hr_20 => ?_)
          rcases hr_20 with ⟨rfl, b_20⟩ | ⟨rfl, b_20⟩
          · skip
            refine lv_if_eq (tgt := 30) hx hb dX7_pieces_23 (by decide) (fun c_23 => absurd c_23 (by decide)) (fun c_23 => ?_)
            refine lv_iconst (v := 1) hx hb dX7_pieces_26 (by decide) ?_
            refine lv_goto (tgt := 31) hx hb dX7_pieces_27 (by decide) ?_
            refine lv_iadd hx hb dX7_pieces_31 ?_
            refine lv_topi (fun v_31 e_31 => ?_)
            have t_31 := ti_addk rfl tk_1 (by omega) (by omega) e_31
            refine lv_istore_n (lv' := [(1, .int v_31), (0, .ref (ya Z 0)), (2, .int z2)]) hx hb dX7_pieces_32 rfl hl (by decide) rfl (fun ls hl => ?_)
            obtain ⟨v_33, e_33⟩ : ∃ y : Int32, y = z2 + 1 := ⟨_, rfl⟩
            refine lv_iinc (v := v_33) (lv' := [(2, .int v_33), (1, .int v_31), (0, .ref (ya Z 0))]) hx hb dX7_pieces_33 hl (k := 2) rfl (by rw [e_33]; rfl) (by decide) rfl (fun ls hl => ?_)
            have t_33 := ti_addk rfl tk_1 (by omega) (by omega) e_33
            refine lv_goto (tgt := 4) hx hb dX7_pieces_36 (by decide) ?_
            exact ih4 v_31 v_33 (by omega) (by rw [show v_33.toInt.toNat = z2.toInt.toNat + 1 by omega]; first | (rw [cB_y (p := fpB (mC g)) b_20]; omega) | (rw [cB_n (p := fpB (mC g)) (by rw [b_20]; decide)]; omega)) (Or.inr (by omega)) (by omega) ls (lv_sub hl [2, 1, 0] rfl)
          · skip
            refine lv_if_eq (tgt := 30) hx hb dX7_pieces_23 (by decide) (fun c_23 => ?_) (fun c_23 => absurd c_23 (by decide))
            refine lv_iconst (v := 0) hx hb dX7_pieces_30 (by decide) ?_
            refine lv_iadd hx hb dX7_pieces_31 ?_
            refine lv_topi (fun v_31 e_31 => ?_)
            have t_31 := ti_addk rfl tk_0 (by omega) (by omega) e_31
            refine lv_istore_n (lv' := [(1, .int v_31), (0, .ref (ya Z 0)), (2, .int z2)]) hx hb dX7_pieces_32 rfl hl (by decide) rfl (fun ls hl => ?_)
            obtain ⟨v_33, e_33⟩ : ∃ y : Int32, y = z2 + 1 := ⟨_, rfl⟩
            refine lv_iinc (v := v_33) (lv' := [(2, .int v_33), (1, .int v_31), (0, .ref (ya Z 0))]) hx hb dX7_pieces_33 hl (k := 2) rfl (by rw [e_33]; rfl) (by decide) rfl (fun ls hl => ?_)
            have t_33 := ti_addk rfl tk_1 (by omega) (by omega) e_33
            refine lv_goto (tgt := 4) hx hb dX7_pieces_36 (by decide) ?_
            exact ih4 v_31 v_33 (by omega) (by rw [show v_33.toInt.toNat = z2.toInt.toNat + 1 by omega]; first | (rw [cB_y (p := fpB (mC g)) b_20]; omega) | (rw [cB_n (p := fpB (mC g)) (by rw [b_20]; decide)]; omega)) (Or.inr (by omega)) (by omega) ls (lv_sub hl [2, 1, 0] rfl)
  refine lv_iconst (v := 0) hx hb dX7_pieces_0 (by decide) ?_
  refine lv_istore_n (lv' := [(1, .int 0), (0, .ref (ya Z 0))]) hx hb dX7_pieces_1 rfl hl (by decide) rfl (fun ls hl => ?_)
  refine lv_iconst (v := 0) hx hb dX7_pieces_2 (by decide) ?_
  refine lv_istore_n (lv' := [(2, .int 0), (1, .int 0), (0, .ref (ya Z 0))]) hx hb dX7_pieces_3 rfl hl (by decide) rfl (fun ls hl => ?_)
  exact L4 _ 0 0 (by decide) (by rw [tk_0]; rfl) (Or.inl (by decide)) (Nat.lt_succ_self _) ls (lv_sub hl [2, 1, 0] rfl)
set_option maxHeartbeats 4000000 in
set_option maxRecDepth 100000 in
theorem c_X7_pieceNow (l : Launch) (Z : YT) (hZ : MG Z) (g : Nat → Nat → Int32) (gl : Nat → Nat → Int64) (x1 : Int32) (x2 : Int32) (h1 : 0 ≤ x1.toInt ∧ x1.toInt < (cB (fpB (mC g)) 64 : Int)) (hJ : MJ g) : Met l yX7_pieceNow (Cond.code yX7_pieceNow cX7_pieceNow 7 (some .int) :: wsL_law) ({ frames := 6, cells := 0, slots := 0, locals := 141 } : Room) (va_Pc [.ref (ya Z 0), .int x1, .int x2] (MI Z g gl)) (rd_Qi (fun r => (∃ q, pcP (mC g) x1.toInt.toNat q ∧ ((x2.toInt = 0 ∧ r = mC g q) ∨ (x2.toInt = 1 ∧ r.toInt = (q : Int)) ∨ ((¬ x2.toInt = 0 ∧ ¬ x2.toInt = 1) ∧ ∃ l, laP (mC g) q l ∧ r.toInt = (l : Int)))))) 0 0 (fun _ => False) := by
  refine Met.ofW (cc := cX7_pieceNow) (maxL := 7) (ret := (some .int)) (by decide) rfl ?_
  intro p e s m args below meth c s₁ B hml hv
  obtain ⟨rfl, hI⟩ := hv
  have hx := B.exec
  have hb := B.bytes
  have hr := B.returns
  have hT : ∀ w ∈ wsL_law, w.before ([.ref (ya Z 0), .int x1, .int x2] : List Value).toArray s = true := fun w h => atoms_spec (ws := (Cond.code yX7_pieceNow cX7_pieceNow 7 (some .int) :: wsL_law)) B.pre w (List.mem_cons_of_mem _ h)
  have hown : s.vm.findClass RX7 = some m.cls := findClass_of_methodNamed B.named
  have hlocks := B.notSynchronized
  have hK := hI.2
  have hP := hI.1
  have hS : va_S (yA Z) s.heap s.heap [] := va_S.rf
  have hl := lv_entry ([.ref (ya Z 0), .int x1, .int x2]) (n := 7) (Nat.le_of_ble_eq_true rfl)
  rw [lg_entry_eq]
  generalize (lg_sl ([.ref (ya Z 0), .int x1, .int x2]) ++ List.replicate (7 - (lg_sl ([.ref (ya Z 0), .int x1, .int x2])).length) Slot.unset).toArray = ls at hl ⊢
  have hl : lv_has ls 7 [(0, .ref (ya Z 0)), (1, .int x1), (2, .int x2)] := hl
  have L52 : ∀ (n : Nat) (z3 : Int32) (z4 : Int32) (z5 : Int32) (z6 : Int32)  (hq9 : pcP (mC g) x1.toInt.toNat z3.toInt.toNat ∧ 0 ≤ z3.toInt) (hz5 : z5 = mC g z3.toInt.toNat) (h6 : z3.toInt ≤ z6.toInt ∧ z6.toInt ≤ 63) (hA : ∀ j, z3.toInt.toNat ≤ j → j ≤ z6.toInt.toNat → mC g j = mC g z3.toInt.toNat) (hn : (63 - z6.toInt).toNat < n) (ls : Array Slot) (hl : lv_has ls 7 [(0, .ref (ya Z 0)), (1, .int x1), (2, .int x2), (3, .int z3), (4, .int z4), (5, .int z5), (6, .int z6)]), W p l e ({ frames := 6, cells := 0, slots := 0, locals := 141 } : Room) s m ([.ref (ya Z 0), .int x1, .int x2] : List Value).toArray below meth c s.heap [] 0 0 (MQ below (rd_Qi (fun r => (∃ q, pcP (mC g) x1.toInt.toNat q ∧ ((x2.toInt = 0 ∧ r = mC g q) ∨ (x2.toInt = 1 ∧ r.toInt = (q : Int)) ∨ ((¬ x2.toInt = 0 ∧ ¬ x2.toInt = 1) ∧ ∃ l, laP (mC g) q l ∧ r.toInt = (l : Int)))))) ([.ref (ya Z 0), .int x1, .int x2] : List Value).toArray s 0 0 (fun _ => False)) (F0 m 52 ls []) := by
    intro n
    induction n with
    | zero => intro z3 z4 z5 z6 hq9 hz5 h6 hA hn; exact absurd hn (Nat.not_lt_zero _)
    | succ n ih52 =>
      intro z3 z4 z5 z6 hq9 hz5 h6 hA hn ls hl
      refine lv_iload hx hb dX7_pieceNow_52 (lv_at hl 6 rfl) ?_
      refine lv_bipush (v := 63) hx hb dX7_pieceNow_54 (by decide) ?_
      refine lv_icmp_ge (tgt := 78) hx hb dX7_pieceNow_56 (by decide) (fun c_56 => ?_) (fun c_56 => ?_)
      · skip
        have i_56 := ti_lek tk_63 rfl c_56
        refine lv_iload_n hx hb dX7_pieceNow_78 rfl (lv_at hl 2 rfl) ?_
        refine lv_if_ne (tgt := 87) hx hb dX7_pieceNow_79 (by decide) (fun c_79 => ?_) (fun c_79 => ?_)
        · skip
          have i_79 := ti_nek rfl tk_0 c_79
          refine lv_iload_n hx hb dX7_pieceNow_87 rfl (lv_at hl 2 rfl) ?_
          refine lv_iconst (v := 1) hx hb dX7_pieceNow_88 (by decide) ?_
          refine lv_icmp_ne (tgt := 96) hx hb dX7_pieceNow_89 (by decide) (fun c_89 => ?_) (fun c_89 => ?_)
          · skip
            have i_89 := ti_nek rfl tk_1 c_89
            refine lv_iload hx hb dX7_pieceNow_96 (lv_at hl 6 rfl) ?_
            exact W.iret (v := z6) hx hb hr (fun t ht hW => ⟨z6, rfl, ⟨z3.toInt.toNat, hq9.1, Or.inr (Or.inr ⟨by omega, z6.toInt.toNat, ⟨by omega, by omega, hA, by first | exact Or.inl (by omega) | exact Or.inr (by rw [← e64, ← hz5]; exact c_69)⟩, by omega⟩)⟩, ht⟩) (fun q hq => by cases hq) dX7_pieceNow_98
          · skip
            have i_89 := ti_eqk rfl tk_1 c_89
            refine lv_iload_n hx hb dX7_pieceNow_92 rfl (lv_at hl 3 rfl) ?_
            refine lv_goto (tgt := 98) hx hb dX7_pieceNow_93 (by decide) ?_
            exact W.iret (v := z3) hx hb hr (fun t ht hW => ⟨z3, rfl, ⟨z3.toInt.toNat, hq9.1, Or.inr (Or.inl ⟨by omega, by omega⟩)⟩, ht⟩) (fun q hq => by cases hq) dX7_pieceNow_98
        · skip
          have i_79 := ti_eqk rfl tk_0 c_79
          refine lv_iload hx hb dX7_pieceNow_82 (lv_at hl 5 rfl) ?_
          refine lv_goto (tgt := 98) hx hb dX7_pieceNow_84 (by decide) ?_
          exact W.iret (v := z5) hx hb hr (fun t ht hW => ⟨z5, rfl, ⟨z3.toInt.toNat, hq9.1, Or.inl ⟨by omega, hz5⟩⟩, ht⟩) (fun q hq => by cases hq) dX7_pieceNow_98
      · skip
        have i_56 := ti_nlek tk_63 rfl c_56
        refine lv_aload_n hx hb dX7_pieceNow_59 rfl (lv_at hl 0 rfl) ?_
        refine lv_iload hx hb dX7_pieceNow_60 (lv_at hl 6 rfl) ?_
        refine lv_iconst (v := 1) hx hb dX7_pieceNow_62 (by decide) ?_
        refine lv_iadd hx hb dX7_pieceNow_63 ?_
        refine lv_topi (fun v_63 e_63 => ?_)
        have t_63 := ti_addk rfl tk_1 (by omega) (by omega) e_63
        refine rd_ci (va_runV (As := [.int v_63]) (rest := []) ⟨hx, hb, hml, hown, hT⟩ (c_X7_cheapestFor l Z hZ g gl v_63 (by first | assumption | omega | decide) hJ) (cwV 1 hT (tb_V (fun _ h => h) (tr_22 _ (List.mem_of_getElem? (i := 18) rfl)) (tr_22 _ (List.mem_of_getElem? (i := 19) rfl)) (tr_22 _ (List.mem_of_getElem? (i := 20) rfl)) (tr_1 _ (List.mem_of_getElem? (i := 5) rfl)) (tr_22 _ (List.mem_of_getElem? (i := 21) rfl))) rfl rfl rfl (by decide +kernel) ⟨Nat.le_of_ble_eq_true rfl, Nat.le_of_ble_eq_true rfl⟩) ⟨fun a U f mk q => ⟨q.1, MI.blind f mk a q.2⟩, va_recv hK hP (ci := 7) (q0 := 0) rfl mw_0, fun U hU hW => ⟨rfl, hI.at hS hP hU hW⟩⟩ rfl rfl hl.1 rfl (lv_room (Nat.le_of_ble_eq_true rfl)) dX7_pieceNow_64 ⟨Nat.zero_le _, Nat.zero_le _⟩) (fun r_64 hr_64 => ?_)
        have e64 : r_64 = mC g (z6.toInt.toNat + 1) := by rw [hr_64.1]; unfold mC; rw [show v_63 = nI (z6.toInt.toNat + 1) from nI_ek (by omega)]
        refine lv_iload hx hb dX7_pieceNow_67 (lv_at hl 5 rfl) ?_
        refine lv_icmp_ne (tgt := 78) hx hb dX7_pieceNow_69 (by decide) (fun c_69 => ?_) (fun c_69 => ?_)
        · skip
          have i_69 := ti_nek rfl rfl c_69
          refine lv_iload_n hx hb dX7_pieceNow_78 rfl (lv_at hl 2 rfl) ?_
          refine lv_if_ne (tgt := 87) hx hb dX7_pieceNow_79 (by decide) (fun c_79 => ?_) (fun c_79 => ?_)
          · skip
            have i_79 := ti_nek rfl tk_0 c_79
            refine lv_iload_n hx hb dX7_pieceNow_87 rfl (lv_at hl 2 rfl) ?_
            refine lv_iconst (v := 1) hx hb dX7_pieceNow_88 (by decide) ?_
            refine lv_icmp_ne (tgt := 96) hx hb dX7_pieceNow_89 (by decide) (fun c_89 => ?_) (fun c_89 => ?_)
            · skip
              have i_89 := ti_nek rfl tk_1 c_89
              refine lv_iload hx hb dX7_pieceNow_96 (lv_at hl 6 rfl) ?_
              exact W.iret (v := z6) hx hb hr (fun t ht hW => ⟨z6, rfl, ⟨z3.toInt.toNat, hq9.1, Or.inr (Or.inr ⟨by omega, z6.toInt.toNat, ⟨by omega, by omega, hA, by first | exact Or.inl (by omega) | exact Or.inr (by rw [← e64, ← hz5]; exact c_69)⟩, by omega⟩)⟩, ht⟩) (fun q hq => by cases hq) dX7_pieceNow_98
            · skip
              have i_89 := ti_eqk rfl tk_1 c_89
              refine lv_iload_n hx hb dX7_pieceNow_92 rfl (lv_at hl 3 rfl) ?_
              refine lv_goto (tgt := 98) hx hb dX7_pieceNow_93 (by decide) ?_
              exact W.iret (v := z3) hx hb hr (fun t ht hW => ⟨z3, rfl, ⟨z3.toInt.toNat, hq9.1, Or.inr (Or.inl ⟨by omega, by omega⟩)⟩, ht⟩) (fun q hq => by cases hq) dX7_pieceNow_98
          · skip
            have i_79 := ti_eqk rfl tk_0 c_79
            refine lv_iload hx hb dX7_pieceNow_82 (lv_at hl 5 rfl) ?_
            refine lv_goto (tgt := 98) hx hb dX7_pieceNow_84 (by decide) ?_
            exact W.iret (v := z5) hx hb hr (fun t ht hW => ⟨z5, rfl, ⟨z3.toInt.toNat, hq9.1, Or.inl ⟨by omega, hz5⟩⟩, ht⟩) (fun q hq => by cases hq) dX7_pieceNow_98
        · skip
          have i_69 := ti_eqk rfl rfl c_69
          obtain ⟨v_72, e_72⟩ : ∃ y : Int32, y = z6 + 1 := ⟨_, rfl⟩
          refine lv_iinc (v := v_72) (lv' := [(6, .int v_72), (0, .ref (ya Z 0)), (1, .int x1), (2, .int x2), (3, .int z3), (4, .int z4), (5, .int z5)]) hx hb dX7_pieceNow_72 hl (k := 6) rfl (by rw [e_72]; rfl) (by decide) rfl (fun ls hl => ?_)
          have t_72 := ti_addk rfl tk_1 (by omega) (by omega) e_72
          refine lv_goto (tgt := 52) hx hb dX7_pieceNow_75 (by decide) ?_
          exact ih52 z3 z4 z5 v_72 hq9 hz5 (by omega) (fun j h2 h4 => by rcases Nat.lt_or_ge z6.toInt.toNat j with w | w; (rw [show j = z6.toInt.toNat + 1 by omega, ← e64, ← hz5]; exact c_69); exact hA j h2 w) (by omega) ls (lv_sub hl [1, 2, 3, 4, 5, 6, 0] rfl)
  have L5 : ∀ (n : Nat) (z3 : Int32) (z4 : Int32)  (h3 : 0 ≤ z3.toInt ∧ z3.toInt ≤ 63) (h4 : 0 ≤ z4.toInt) (hC : z4.toInt + (cB (fpB (mC g)) z3.toInt.toNat : Int) = x1.toInt) (hn : (64 - z3.toInt).toNat < n) (ls : Array Slot) (hl : lv_has ls 7 [(0, .ref (ya Z 0)), (1, .int x1), (2, .int x2), (3, .int z3), (4, .int z4)]), W p l e ({ frames := 6, cells := 0, slots := 0, locals := 141 } : Room) s m ([.ref (ya Z 0), .int x1, .int x2] : List Value).toArray below meth c s.heap [] 0 0 (MQ below (rd_Qi (fun r => (∃ q, pcP (mC g) x1.toInt.toNat q ∧ ((x2.toInt = 0 ∧ r = mC g q) ∨ (x2.toInt = 1 ∧ r.toInt = (q : Int)) ∨ ((¬ x2.toInt = 0 ∧ ¬ x2.toInt = 1) ∧ ∃ l, laP (mC g) q l ∧ r.toInt = (l : Int)))))) ([.ref (ya Z 0), .int x1, .int x2] : List Value).toArray s 0 0 (fun _ => False)) (F0 m 5 ls []) := by
    intro n
    induction n with
    | zero => intro z3 z4 h3 h4 hC hn; exact absurd hn (Nat.not_lt_zero _)
    | succ n ih5 =>
      intro z3 z4 h3 h4 hC hn ls hl
      refine lv_aload_n hx hb dX7_pieceNow_5 rfl (lv_at hl 0 rfl) ?_
      refine lv_iload_n hx hb dX7_pieceNow_6 rfl (lv_at hl 3 rfl) ?_
      refine rd_ci (va_runV (As := [.int z3]) (rest := []) ⟨hx, hb, hml, hown, hT⟩ (c_X7_isFirstOfPiece l Z hZ g gl z3 (by first | assumption | omega | decide) hJ) (cwV 1 hT (tb_V (fun _ h => h) (tr_31 _ (List.mem_of_getElem? (i := 1) rfl)) (tr_31 _ (List.mem_of_getElem? (i := 2) rfl)) (tr_31 _ (List.mem_of_getElem? (i := 3) rfl)) (tr_1 _ (List.mem_of_getElem? (i := 5) rfl)) (tr_31 _ (List.mem_of_getElem? (i := 4) rfl))) rfl rfl rfl (by decide +kernel) ⟨Nat.le_of_ble_eq_true rfl, Nat.le_of_ble_eq_true rfl⟩) ⟨fun a U f mk q => ⟨q.1, MI.blind f mk a q.2⟩, va_recv hK hP (ci := 7) (q0 := 0) rfl mw_0, fun U hU hW => ⟨rfl, hI.at hS hP hU hW⟩⟩ rfl rfl hl.1 rfl (lv_room (Nat.le_of_ble_eq_true rfl)) dX7_pieceNow_7 ⟨Nat.zero_le _, Nat.zero_le _⟩) (fun r_7 hr_7 => ?_)
      rcases hr_7 with ⟨rfl, b_7⟩ | ⟨rfl, b_7⟩
      · skip
        refine lv_if_eq (tgt := 18) hx hb dX7_pieceNow_10 (by decide) (fun c_10 => absurd c_10 (by decide)) (fun c_10 => ?_)
        refine lv_iload hx hb dX7_pieceNow_13 (lv_at hl 4 rfl) ?_
        refine lv_if_le (tgt := 42) hx hb dX7_pieceNow_15 (by decide) (fun c_15 => ?_) (fun c_15 => ?_)
        · skip
          have i_15 := ti_lek rfl tk_0 c_15
          refine lv_aload_n hx hb dX7_pieceNow_42 rfl (lv_at hl 0 rfl) ?_
          refine lv_iload_n hx hb dX7_pieceNow_43 rfl (lv_at hl 3 rfl) ?_
          refine rd_ci (va_runV (As := [.int z3]) (rest := []) ⟨hx, hb, hml, hown, hT⟩ (c_X7_cheapestFor l Z hZ g gl z3 (by first | assumption | omega | decide) hJ) (cwV 1 hT (tb_V (fun _ h => h) (tr_22 _ (List.mem_of_getElem? (i := 18) rfl)) (tr_22 _ (List.mem_of_getElem? (i := 19) rfl)) (tr_22 _ (List.mem_of_getElem? (i := 20) rfl)) (tr_1 _ (List.mem_of_getElem? (i := 5) rfl)) (tr_22 _ (List.mem_of_getElem? (i := 21) rfl))) rfl rfl rfl (by decide +kernel) ⟨Nat.le_of_ble_eq_true rfl, Nat.le_of_ble_eq_true rfl⟩) ⟨fun a U f mk q => ⟨q.1, MI.blind f mk a q.2⟩, va_recv hK hP (ci := 7) (q0 := 0) rfl mw_0, fun U hU hW => ⟨rfl, hI.at hS hP hU hW⟩⟩ rfl rfl hl.1 rfl (lv_room (Nat.le_of_ble_eq_true rfl)) dX7_pieceNow_44 ⟨Nat.zero_le _, Nat.zero_le _⟩) (fun r_44 hr_44 => ?_)
          have e44 : r_44 = mC g z3.toInt.toNat := by rw [hr_44.1]; unfold mC; rw [← show z3 = nI z3.toInt.toNat from nI_ek (by omega)]
          refine lv_istore (lv' := [(5, .int r_44), (0, .ref (ya Z 0)), (1, .int x1), (2, .int x2), (3, .int z3), (4, .int z4)]) hx hb dX7_pieceNow_47 hl (by decide) rfl (fun ls hl => ?_)
          refine lv_iload_n hx hb dX7_pieceNow_49 rfl (lv_at hl 4 rfl) ?_
          refine lv_istore (lv' := [(6, .int z3), (5, .int r_44), (0, .ref (ya Z 0)), (1, .int x1), (2, .int x2), (3, .int z3), (4, .int z4)]) hx hb dX7_pieceNow_50 hl (by decide) rfl (fun ls hl => ?_)
          exact L52 _ z3 z4 r_44 z3 ⟨⟨by omega, b_7, by omega⟩, by omega⟩ e44 (by omega) (fun j h2 h3 => by rw [show j = z3.toInt.toNat by omega]) (Nat.lt_succ_self _) ls (lv_sub hl [2, 3, 4, 5, 6, 1, 0] rfl)
        · skip
          have i_15 := ti_nlek rfl tk_0 c_15
          have rg4 := ti_rng z4
          refine lv_iload hx hb dX7_pieceNow_18 (lv_at hl 4 rfl) ?_
          refine lv_aload_n hx hb dX7_pieceNow_20 rfl (lv_at hl 0 rfl) ?_
          refine lv_iload_n hx hb dX7_pieceNow_21 rfl (lv_at hl 3 rfl) ?_
          refine rd_ci (va_runV (As := [.int z3]) (rest := [.int z4]) ⟨hx, hb, hml, hown, hT⟩ (c_X7_isFirstOfPiece l Z hZ g gl z3 (by first | assumption | omega | decide) hJ) (cwV 1 hT (tb_V (fun _ h => h) (tr_31 _ (List.mem_of_getElem? (i := 1) rfl)) (tr_31 _ (List.mem_of_getElem? (i := 2) rfl)) (tr_31 _ (List.mem_of_getElem? (i := 3) rfl)) (tr_1 _ (List.mem_of_getElem? (i := 5) rfl)) (tr_31 _ (List.mem_of_getElem? (i := 4) rfl))) rfl rfl rfl (by decide +kernel) ⟨Nat.le_of_ble_eq_true rfl, Nat.le_of_ble_eq_true rfl⟩) ⟨fun a U f mk q => ⟨q.1, MI.blind f mk a q.2⟩, va_recv hK hP (ci := 7) (q0 := 0) rfl mw_0, fun U hU hW => ⟨rfl, hI.at hS hP hU hW⟩⟩ rfl rfl hl.1 rfl (lv_room (Nat.le_of_ble_eq_true rfl)) dX7_pieceNow_22 ⟨Nat.zero_le _, Nat.zero_le _⟩) (fun r_22 hr_22 => ?_)
          rcases hr_22 with ⟨rfl, b_22⟩ | ⟨rfl, b_22⟩
          · skip
            refine lv_if_eq (tgt := 32) hx hb dX7_pieceNow_25 (by decide) (fun c_25 => absurd c_25 (by decide)) (fun c_25 => ?_)
            refine lv_iconst (v := 1) hx hb dX7_pieceNow_28 (by decide) ?_
            refine lv_goto (tgt := 33) hx hb dX7_pieceNow_29 (by decide) ?_
            refine lv_isub hx hb dX7_pieceNow_33 ?_
            refine lv_topi (fun v_33 e_33 => ?_)
            have t_33 := ti_subk rfl tk_1 (by omega) (by omega) e_33
            refine lv_istore (lv' := [(4, .int v_33), (0, .ref (ya Z 0)), (1, .int x1), (2, .int x2), (3, .int z3)]) hx hb dX7_pieceNow_34 hl (by decide) rfl (fun ls hl => ?_)
            obtain ⟨v_36, e_36⟩ : ∃ y : Int32, y = z3 + 1 := ⟨_, rfl⟩
            refine lv_iinc (v := v_36) (lv' := [(3, .int v_36), (4, .int v_33), (0, .ref (ya Z 0)), (1, .int x1), (2, .int x2)]) hx hb dX7_pieceNow_36 hl (k := 4) rfl (by rw [e_36]; rfl) (by decide) rfl (fun ls hl => ?_)
            have t_36 := ti_addk rfl tk_1 (by omega) (by omega) e_36
            refine lv_goto (tgt := 5) hx hb dX7_pieceNow_39 (by decide) ?_
            have qc : v_33.toInt + (cB (fpB (mC g)) v_36.toInt.toNat : Int) = x1.toInt := by rw [show v_36.toInt.toNat = z3.toInt.toNat + 1 by omega]; first | (rw [cB_y (p := fpB (mC g)) b_22]; omega) | (rw [cB_n (p := fpB (mC g)) (by rw [b_22]; decide)]; omega)
            exact ih5 v_36 v_33 (by have q : ¬ v_36.toInt = 64 := (fun h => by rw [h, show (64 : Int).toNat = 64 from rfl] at qc; omega); omega) (by omega) qc (by omega) ls (lv_sub hl [2, 3, 4, 0, 1] rfl)
          · skip
            exfalso
            rw [b_7] at b_22
            cases b_22
      · skip
        refine lv_if_eq (tgt := 18) hx hb dX7_pieceNow_10 (by decide) (fun c_10 => ?_) (fun c_10 => absurd c_10 (by decide))
        have rg4 := ti_rng z4
        refine lv_iload hx hb dX7_pieceNow_18 (lv_at hl 4 rfl) ?_
        refine lv_aload_n hx hb dX7_pieceNow_20 rfl (lv_at hl 0 rfl) ?_
        refine lv_iload_n hx hb dX7_pieceNow_21 rfl (lv_at hl 3 rfl) ?_
        refine rd_ci (va_runV (As := [.int z3]) (rest := [.int z4]) ⟨hx, hb, hml, hown, hT⟩ (c_X7_isFirstOfPiece l Z hZ g gl z3 (by first | assumption | omega | decide) hJ) (cwV 1 hT (tb_V (fun _ h => h) (tr_31 _ (List.mem_of_getElem? (i := 1) rfl)) (tr_31 _ (List.mem_of_getElem? (i := 2) rfl)) (tr_31 _ (List.mem_of_getElem? (i := 3) rfl)) (tr_1 _ (List.mem_of_getElem? (i := 5) rfl)) (tr_31 _ (List.mem_of_getElem? (i := 4) rfl))) rfl rfl rfl (by decide +kernel) ⟨Nat.le_of_ble_eq_true rfl, Nat.le_of_ble_eq_true rfl⟩) ⟨fun a U f mk q => ⟨q.1, MI.blind f mk a q.2⟩, va_recv hK hP (ci := 7) (q0 := 0) rfl mw_0, fun U hU hW => ⟨rfl, hI.at hS hP hU hW⟩⟩ rfl rfl hl.1 rfl (lv_room (Nat.le_of_ble_eq_true rfl)) dX7_pieceNow_22 ⟨Nat.zero_le _, Nat.zero_le _⟩) (fun r_22 hr_22 => ?_)
        rcases hr_22 with ⟨rfl, b_22⟩ | ⟨rfl, b_22⟩
        · skip
          exfalso
          rw [b_7] at b_22
          cases b_22
        · skip
          refine lv_if_eq (tgt := 32) hx hb dX7_pieceNow_25 (by decide) (fun c_25 => ?_) (fun c_25 => absurd c_25 (by decide))
          refine lv_iconst (v := 0) hx hb dX7_pieceNow_32 (by decide) ?_
          refine lv_isub hx hb dX7_pieceNow_33 ?_
          refine lv_topi (fun v_33 e_33 => ?_)
          have t_33 := ti_subk rfl tk_0 (by omega) (by omega) e_33
          refine lv_istore (lv' := [(4, .int v_33), (0, .ref (ya Z 0)), (1, .int x1), (2, .int x2), (3, .int z3)]) hx hb dX7_pieceNow_34 hl (by decide) rfl (fun ls hl => ?_)
          obtain ⟨v_36, e_36⟩ : ∃ y : Int32, y = z3 + 1 := ⟨_, rfl⟩
          refine lv_iinc (v := v_36) (lv' := [(3, .int v_36), (4, .int v_33), (0, .ref (ya Z 0)), (1, .int x1), (2, .int x2)]) hx hb dX7_pieceNow_36 hl (k := 4) rfl (by rw [e_36]; rfl) (by decide) rfl (fun ls hl => ?_)
          have t_36 := ti_addk rfl tk_1 (by omega) (by omega) e_36
          refine lv_goto (tgt := 5) hx hb dX7_pieceNow_39 (by decide) ?_
          have qc : v_33.toInt + (cB (fpB (mC g)) v_36.toInt.toNat : Int) = x1.toInt := by rw [show v_36.toInt.toNat = z3.toInt.toNat + 1 by omega]; first | (rw [cB_y (p := fpB (mC g)) b_22]; omega) | (rw [cB_n (p := fpB (mC g)) (by rw [b_22]; decide)]; omega)
          exact ih5 v_36 v_33 (by have q : ¬ v_36.toInt = 64 := (fun h => by rw [h, show (64 : Int).toNat = 64 from rfl] at qc; omega); omega) (by omega) qc (by omega) ls (lv_sub hl [2, 3, 4, 0, 1] rfl)
  refine lv_iconst (v := 0) hx hb dX7_pieceNow_0 (by decide) ?_
  refine lv_istore_n (lv' := [(3, .int 0), (0, .ref (ya Z 0)), (1, .int x1), (2, .int x2)]) hx hb dX7_pieceNow_1 rfl hl (by decide) rfl (fun ls hl => ?_)
  refine lv_iload_n hx hb dX7_pieceNow_2 rfl (lv_at hl 2 rfl) ?_
  refine lv_istore (lv' := [(4, .int x1), (3, .int 0), (0, .ref (ya Z 0)), (1, .int x1), (2, .int x2)]) hx hb dX7_pieceNow_3 hl (by decide) rfl (fun ls hl => ?_)
  exact L5 _ 0 x1 (by decide) (by omega) (by rw [show (0 : Int32).toInt.toNat = 0 by decide]; show _ + ((0 : Nat) : Int) = _; omega) (Nat.lt_succ_self _) ls (lv_sub hl [2, 3, 4, 1, 0] rfl)
set_option maxHeartbeats 4000000 in
set_option maxRecDepth 100000 in
theorem c_X7_piece (l : Launch) (Z : YT) (hZ : MG Z) (g : Nat → Nat → Int32) (gl : Nat → Nat → Int64) (x1 : Int32) (x2 : Int32) (hJ : MJ g) : Met l yX7_piece (Cond.code yX7_piece cX7_piece 3 (some .int) :: wsL_law) ({ frames := 7, cells := 0, slots := 0, locals := 167 } : Room) (va_Pc [.ref (ya Z 0), .int x1, .int x2] (MI Z g gl)) (rd_Qi (fun r => ((¬ (0 < (g 30 0).toInt ∧ 0 ≤ x1.toInt ∧ x1.toInt < (cB (fpB (mC g)) 64 : Int)) ∧ r = -101) ∨ ((0 < (g 30 0).toInt ∧ 0 ≤ x1.toInt ∧ x1.toInt < (cB (fpB (mC g)) 64 : Int)) ∧ ¬ (0 ≤ x2.toInt ∧ x2.toInt ≤ 2) ∧ r = -102) ∨ ((0 < (g 30 0).toInt ∧ 0 ≤ x1.toInt ∧ x1.toInt < (cB (fpB (mC g)) 64 : Int)) ∧ (0 ≤ x2.toInt ∧ x2.toInt ≤ 2) ∧ ∃ q, pcP (mC g) x1.toInt.toNat q ∧ ((x2.toInt = 0 ∧ r = mC g q) ∨ (x2.toInt = 1 ∧ r.toInt = (q : Int)) ∨ ((¬ x2.toInt = 0 ∧ ¬ x2.toInt = 1) ∧ ∃ l, laP (mC g) q l ∧ r.toInt = (l : Int))))))) 0 0 (fun _ => False) := by
  refine Met.ofW (cc := cX7_piece) (maxL := 3) (ret := (some .int)) (by decide) rfl ?_
  intro p e s m args below meth c s₁ B hml hv
  obtain ⟨rfl, hI⟩ := hv
  have hx := B.exec
  have hb := B.bytes
  have hr := B.returns
  have hT : ∀ w ∈ wsL_law, w.before ([.ref (ya Z 0), .int x1, .int x2] : List Value).toArray s = true := fun w h => atoms_spec (ws := (Cond.code yX7_piece cX7_piece 3 (some .int) :: wsL_law)) B.pre w (List.mem_cons_of_mem _ h)
  have hown : s.vm.findClass RX7 = some m.cls := findClass_of_methodNamed B.named
  have hlocks := B.notSynchronized
  have hK := hI.2
  have hP := hI.1
  have hS : va_S (yA Z) s.heap s.heap [] := va_S.rf
  have ml := cB_le (fpB (mC g)) 64
  have hl := lv_entry ([.ref (ya Z 0), .int x1, .int x2]) (n := 3) (Nat.le_of_ble_eq_true rfl)
  rw [lg_entry_eq]
  generalize (lg_sl ([.ref (ya Z 0), .int x1, .int x2]) ++ List.replicate (3 - (lg_sl ([.ref (ya Z 0), .int x1, .int x2])).length) Slot.unset).toArray = ls at hl ⊢
  have hl : lv_has ls 3 [(0, .ref (ya Z 0)), (1, .int x1), (2, .int x2)] := hl
  refine lv_iload_n hx hb dX7_piece_0 rfl (lv_at hl 1 rfl) ?_
  refine lv_iconst (v := 0) hx hb dX7_piece_1 (by decide) ?_
  refine lv_aload_n hx hb dX7_piece_2 rfl (lv_at hl 0 rfl) ?_
  refine rd_ci (va_runV (As := []) (rest := [.int 0, .int x1]) ⟨hx, hb, hml, hown, hT⟩ (c_X7_pieces l Z hZ g gl hJ) (cwV 0 hT (tb_V (fun _ h => h) (tr_30 _ (List.mem_of_getElem? (i := 21) rfl)) (tr_30 _ (List.mem_of_getElem? (i := 22) rfl)) (tr_30 _ (List.mem_of_getElem? (i := 23) rfl)) (tr_1 _ (List.mem_of_getElem? (i := 5) rfl)) (tr_31 _ (List.mem_of_getElem? (i := 0) rfl))) rfl rfl rfl (by decide +kernel) ⟨Nat.le_of_ble_eq_true rfl, Nat.le_of_ble_eq_true rfl⟩) ⟨fun a U f mk q => ⟨q.1, MI.blind f mk a q.2⟩, va_recv hK hP (ci := 7) (q0 := 0) rfl mw_0, fun U hU hW => ⟨rfl, hI.at hS hP hU hW⟩⟩ rfl rfl hl.1 rfl (lv_room (Nat.le_of_ble_eq_true rfl)) dX7_piece_3 ⟨Nat.zero_le _, Nat.zero_le _⟩) (fun r_3 hr_3 => ?_)
  have p3 : (0 < (g 30 0).toInt ∧ r_3.toInt = (cB (fpB (mC g)) 64 : Int)) ∨ (¬ 0 < (g 30 0).toInt ∧ r_3.toInt = 0) := by rcases Int.lt_or_le 0 (g 30 0).toInt with y | y; exact Or.inl ⟨y, hr_3.1 y⟩; exact Or.inr ⟨by omega, by rw [hr_3.2 (by omega)]; rfl⟩
  refine lv_iconst (v := 1) hx hb dX7_piece_6 (by decide) ?_
  refine lv_isub hx hb dX7_piece_7 ?_
  refine lv_topi (fun v_7 e_7 => ?_)
  have t_7 := ti_subk rfl tk_1 (by omega) (by omega) e_7
  refine rd_ci (va_runS (As := [.int x1, .int 0, .int v_7]) (rest := []) ⟨hx, hb, hml, hown, hT⟩ (c_X7_within l x1 0 v_7) (va_cwS 3 hT (tb_S (fun _ h => h) (tr_6 _ (List.mem_of_getElem? (i := 0) rfl)) (tr_6 _ (List.mem_of_getElem? (i := 1) rfl)) (tr_1 _ (List.mem_of_getElem? (i := 5) rfl)) (tr_6 _ (List.mem_of_getElem? (i := 2) rfl))) rfl rfl rfl (by decide +kernel) ⟨Nat.le_of_ble_eq_true rfl, Nat.le_of_ble_eq_true rfl⟩) ⟨fun _ _ _ _ q => q, fun U hU hW => ⟨rfl, trivial⟩⟩ rfl rfl hl.1 rfl (lv_room (Nat.le_of_ble_eq_true rfl)) dX7_piece_8 ⟨Nat.zero_le _, Nat.zero_le _⟩) (fun r_8 hr_8 => ?_)
  rcases hr_8 with ⟨rfl, b_8⟩ | ⟨rfl, b_8⟩
  · skip
    (try simp only [tk_0] at b_8)
    refine lv_if_ne (tgt := 17) hx hb dX7_piece_11 (by decide) (fun c_11 => ?_) (fun c_11 => absurd c_11 (by decide))
    refine lv_iload_n hx hb dX7_piece_17 rfl (lv_at hl 2 rfl) ?_
    refine lv_iconst (v := 0) hx hb dX7_piece_18 (by decide) ?_
    refine lv_iconst (v := 2) hx hb dX7_piece_19 (by decide) ?_
    refine rd_ci (va_runS (As := [.int x2, .int 0, .int 2]) (rest := []) ⟨hx, hb, hml, hown, hT⟩ (c_X7_within l x2 0 2) (va_cwS 3 hT (tb_S (fun _ h => h) (tr_6 _ (List.mem_of_getElem? (i := 0) rfl)) (tr_6 _ (List.mem_of_getElem? (i := 1) rfl)) (tr_1 _ (List.mem_of_getElem? (i := 5) rfl)) (tr_6 _ (List.mem_of_getElem? (i := 2) rfl))) rfl rfl rfl (by decide +kernel) ⟨Nat.le_of_ble_eq_true rfl, Nat.le_of_ble_eq_true rfl⟩) ⟨fun _ _ _ _ q => q, fun U hU hW => ⟨rfl, trivial⟩⟩ rfl rfl hl.1 rfl (lv_room (Nat.le_of_ble_eq_true rfl)) dX7_piece_20 ⟨Nat.zero_le _, Nat.zero_le _⟩) (fun r_20 hr_20 => ?_)
    rcases hr_20 with ⟨rfl, b_20⟩ | ⟨rfl, b_20⟩
    · skip
      (try simp only [tk_0, tk_2] at b_20)
      refine lv_if_eq (tgt := 35) hx hb dX7_piece_23 (by decide) (fun c_23 => absurd c_23 (by decide)) (fun c_23 => ?_)
      refine lv_aload_n hx hb dX7_piece_26 rfl (lv_at hl 0 rfl) ?_
      refine lv_iload_n hx hb dX7_piece_27 rfl (lv_at hl 1 rfl) ?_
      refine lv_iload_n hx hb dX7_piece_28 rfl (lv_at hl 2 rfl) ?_
      refine rd_ci (va_runV (As := [.int x1, .int x2]) (rest := []) ⟨hx, hb, hml, hown, hT⟩ (c_X7_pieceNow l Z hZ g gl x1 x2 (by omega) hJ) (cwV 2 hT (tb_V (fun _ h => h) (tr_31 _ (List.mem_of_getElem? (i := 5) rfl)) (tr_31 _ (List.mem_of_getElem? (i := 6) rfl)) (tr_31 _ (List.mem_of_getElem? (i := 7) rfl)) (tr_1 _ (List.mem_of_getElem? (i := 5) rfl)) (tr_31 _ (List.mem_of_getElem? (i := 8) rfl))) rfl rfl rfl (by decide +kernel) ⟨Nat.le_of_ble_eq_true rfl, Nat.le_of_ble_eq_true rfl⟩) ⟨fun a U f mk q => ⟨q.1, MI.blind f mk a q.2⟩, va_recv hK hP (ci := 7) (q0 := 0) rfl mw_0, fun U hU hW => ⟨rfl, hI.at hS hP hU hW⟩⟩ rfl rfl hl.1 rfl (lv_room (Nat.le_of_ble_eq_true rfl)) dX7_piece_29 ⟨Nat.zero_le _, Nat.zero_le _⟩) (fun r_29 hr_29 => ?_)
      refine lv_goto (tgt := 37) hx hb dX7_piece_32 (by decide) ?_
      exact W.iret (v := r_29) hx hb hr (fun t ht hW => ⟨r_29, rfl, Or.inr (Or.inr ⟨by clear hr_29; omega, b_20, hr_29⟩), ht⟩) (fun q hq => by cases hq) dX7_piece_37
    · skip
      (try simp only [tk_0, tk_2] at b_20)
      refine lv_if_eq (tgt := 35) hx hb dX7_piece_23 (by decide) (fun c_23 => ?_) (fun c_23 => absurd c_23 (by decide))
      refine lv_bipush (v := (-102)) hx hb dX7_piece_35 (by decide) ?_
      exact W.iret (v := (-102)) hx hb hr (fun t ht hW => ⟨(-102), rfl, Or.inr (Or.inl ⟨by omega, by omega, rfl⟩), ht⟩) (fun q hq => by cases hq) dX7_piece_37
  · skip
    (try simp only [tk_0] at b_8)
    refine lv_if_ne (tgt := 17) hx hb dX7_piece_11 (by decide) (fun c_11 => absurd c_11 (by decide)) (fun c_11 => ?_)
    refine lv_bipush (v := (-101)) hx hb dX7_piece_14 (by decide) ?_
    exact W.iret (v := (-101)) hx hb hr (fun t ht hW => ⟨(-101), rfl, Or.inl ⟨by omega, rfl⟩, ht⟩) (fun q hq => by cases hq) dX7_piece_16
set_option maxHeartbeats 4000000 in
set_option maxRecDepth 100000 in
theorem c_X7_bargainIn (l : Launch) (Z : YT) (hZ : MG Z) (g : Nat → Nat → Int32) (gl : Nat → Nat → Int64) (x1 : Int32) (x2 : Int32) (h1 : 0 ≤ x1.toInt ∧ x1.toInt ≤ x2.toInt) (h2 : x2.toInt ≤ 63) (hJ : MJ g) : Met l yX7_bargainIn (Cond.code yX7_bargainIn cX7_bargainIn 6 (some .int) :: wsL_law) ({ frames := 6, cells := 0, slots := 0, locals := 141 } : Room) (va_Pc [.ref (ya Z 0), .int x1, .int x2] (MI Z g gl)) (rd_Qi (fun r => isG (mC g) (prC g (mC g)) x1.toInt.toNat (x2.toInt.toNat + 1) r)) 0 0 (fun _ => False) := by
  refine Met.ofW (cc := cX7_bargainIn) (maxL := 6) (ret := (some .int)) (by decide) rfl ?_
  intro p e s m args below meth c s₁ B hml hv
  obtain ⟨rfl, hI⟩ := hv
  have hx := B.exec
  have hb := B.bytes
  have hr := B.returns
  have hT : ∀ w ∈ wsL_law, w.before ([.ref (ya Z 0), .int x1, .int x2] : List Value).toArray s = true := fun w h => atoms_spec (ws := (Cond.code yX7_bargainIn cX7_bargainIn 6 (some .int) :: wsL_law)) B.pre w (List.mem_cons_of_mem _ h)
  have hown : s.vm.findClass RX7 = some m.cls := findClass_of_methodNamed B.named
  have hlocks := B.notSynchronized
  have hK := hI.2
  have hP := hI.1
  have hS : va_S (yA Z) s.heap s.heap [] := va_S.rf
  have hl := lv_entry ([.ref (ya Z 0), .int x1, .int x2]) (n := 6) (Nat.le_of_ble_eq_true rfl)
  rw [lg_entry_eq]
  generalize (lg_sl ([.ref (ya Z 0), .int x1, .int x2]) ++ List.replicate (6 - (lg_sl ([.ref (ya Z 0), .int x1, .int x2])).length) Slot.unset).toArray = ls at hl ⊢
  have hl : lv_has ls 6 [(0, .ref (ya Z 0)), (1, .int x1), (2, .int x2)] := hl
  have L5 : ∀ (n : Nat) (z3 : Int32) (z4 : Int32)  (h3 : -1 ≤ z3.toInt ∧ z3.toInt ≤ 63) (h4 : x1.toInt - 1 ≤ z4.toInt ∧ z4.toInt ≤ x2.toInt) (hI9 : isG (mC g) (prC g (mC g)) (z4.toInt + 1).toNat (x2.toInt.toNat + 1) z3) (hn : (z4.toInt + 1).toNat < n) (ls : Array Slot) (hl : lv_has ls 6 [(0, .ref (ya Z 0)), (1, .int x1), (2, .int x2), (3, .int z3), (4, .int z4)]), W p l e ({ frames := 6, cells := 0, slots := 0, locals := 141 } : Room) s m ([.ref (ya Z 0), .int x1, .int x2] : List Value).toArray below meth c s.heap [] 0 0 (MQ below (rd_Qi (fun r => isG (mC g) (prC g (mC g)) x1.toInt.toNat (x2.toInt.toNat + 1) r)) ([.ref (ya Z 0), .int x1, .int x2] : List Value).toArray s 0 0 (fun _ => False)) (F0 m 5 ls []) := by
    intro n
    induction n with
    | zero => intro z3 z4 h3 h4 hI9 hn; exact absurd hn (Nat.not_lt_zero _)
    | succ n ih5 =>
      intro z3 z4 h3 h4 hI9 hn ls hl
      refine lv_iload hx hb dX7_bargainIn_5 (lv_at hl 4 rfl) ?_
      refine lv_iload_n hx hb dX7_bargainIn_7 rfl (lv_at hl 1 rfl) ?_
      refine lv_icmp_lt (tgt := 58) hx hb dX7_bargainIn_8 (by decide) (fun c_8 => ?_) (fun c_8 => ?_)
      · skip
        have i_8 := ti_ltk rfl rfl c_8
        refine lv_iload_n hx hb dX7_bargainIn_58 rfl (lv_at hl 3 rfl) ?_
        exact W.iret (v := z3) hx hb hr (fun t ht hW => ⟨z3, rfl, (by (try dsimp only); rw [show x1.toInt.toNat = (z4.toInt + 1).toNat by omega]; exact hI9), ht⟩) (fun q hq => by cases hq) dX7_bargainIn_59
      · skip
        have i_8 := ti_nltk rfl rfl c_8
        refine lv_aload_n hx hb dX7_bargainIn_11 rfl (lv_at hl 0 rfl) ?_
        refine lv_iload hx hb dX7_bargainIn_12 (lv_at hl 4 rfl) ?_
        refine rd_ci (va_runV (As := [.int z4]) (rest := []) ⟨hx, hb, hml, hown, hT⟩ (c_X7_cheapestFor l Z hZ g gl z4 (by first | assumption | omega | decide) hJ) (cwV 1 hT (tb_V (fun _ h => h) (tr_22 _ (List.mem_of_getElem? (i := 18) rfl)) (tr_22 _ (List.mem_of_getElem? (i := 19) rfl)) (tr_22 _ (List.mem_of_getElem? (i := 20) rfl)) (tr_1 _ (List.mem_of_getElem? (i := 5) rfl)) (tr_22 _ (List.mem_of_getElem? (i := 21) rfl))) rfl rfl rfl (by decide +kernel) ⟨Nat.le_of_ble_eq_true rfl, Nat.le_of_ble_eq_true rfl⟩) ⟨fun a U f mk q => ⟨q.1, MI.blind f mk a q.2⟩, va_recv hK hP (ci := 7) (q0 := 0) rfl mw_0, fun U hU hW => ⟨rfl, hI.at hS hP hU hW⟩⟩ rfl rfl hl.1 rfl (lv_room (Nat.le_of_ble_eq_true rfl)) dX7_bargainIn_14 ⟨Nat.zero_le _, Nat.zero_le _⟩) (fun r_14 hr_14 => ?_)
        have e14 : r_14 = mC g z4.toInt.toNat := by rw [hr_14.1]; unfold mC; rw [← show z4 = nI z4.toInt.toNat from nI_ek (by omega)]
        refine lv_istore (lv' := [(5, .int r_14), (0, .ref (ya Z 0)), (1, .int x1), (2, .int x2), (3, .int z3), (4, .int z4)]) hx hb dX7_bargainIn_17 hl (by decide) rfl (fun ls hl => ?_)
        refine lv_iload hx hb dX7_bargainIn_19 (lv_at hl 0 rfl) ?_
        refine lv_iconst (v := (-1)) hx hb dX7_bargainIn_21 (by decide) ?_
        refine lv_icmp_eq (tgt := 50) hx hb dX7_bargainIn_22 (by decide) (fun c_22 => ?_) (fun c_22 => ?_)
        · skip
          have i_22 := ti_eqk rfl tk_m1 c_22
          refine lv_iload_n hx hb dX7_bargainIn_50 rfl (lv_at hl 4 rfl) ?_
          refine lv_istore_n (lv' := [(3, .int z3), (5, .int r_14), (0, .ref (ya Z 0)), (1, .int x1), (2, .int x2), (4, .int z4)]) hx hb dX7_bargainIn_51 rfl hl (by decide) rfl (fun ls hl => ?_)
          obtain ⟨v_52, e_52⟩ : ∃ y : Int32, y = z4 + (-1) := ⟨_, rfl⟩
          refine lv_iinc (v := v_52) (lv' := [(4, .int v_52), (3, .int z3), (5, .int r_14), (0, .ref (ya Z 0)), (1, .int x1), (2, .int x2)]) hx hb dX7_bargainIn_52 hl (k := 5) rfl (by rw [e_52]; rfl) (by decide) rfl (fun ls hl => ?_)
          have t_52 := ti_addk rfl tk_m1 (by omega) (by omega) e_52
          refine lv_goto (tgt := 5) hx hb dX7_bargainIn_55 (by decide) ?_
          exact ih5 z3 v_52 (by omega) (by omega) (by have hI9 : isG (mC g) (prC g (mC g)) (z4.toInt.toNat + 1) (x2.toInt.toNat + 1) z3 := (by rw [show z4.toInt.toNat + 1 = (z4.toInt + 1).toNat by omega]; exact hI9); rw [show (v_52.toInt + 1).toNat = z4.toInt.toNat by omega]; first | exact isG_dn hI9 (by rw [← e14]; exact c_22) | exact isG_dk hI9 (b := z3.toInt.toNat) (nI_ek (by omega)) (by omega) (by rw [e_41, hr_33, hr_38] at c_42; have w := (lg_cmp_gt _ _).mp c_42; rw [Int64.lt_iff_toInt_lt, cs_i (q := z4.toInt.toNat) hJ.j4 (by omega) (by rw [← e14]; exact c_22), cs_i (q := z3.toInt.toNat) hJ.j4 (by omega) b3] at w; omega) (by omega)) (by omega) ls (lv_sub hl [3, 4, 5, 1, 0] rfl)
        · skip
          have i_22 := ti_nek rfl tk_m1 c_22
          refine lv_iload_n hx hb dX7_bargainIn_25 rfl (lv_at hl 4 rfl) ?_
          refine lv_iconst (v := (-1)) hx hb dX7_bargainIn_26 (by decide) ?_
          refine lv_icmp_eq (tgt := 45) hx hb dX7_bargainIn_27 (by decide) (fun c_27 => ?_) (fun c_27 => ?_)
          · skip
            have i_27 := ti_eqk rfl tk_m1 c_27
            refine lv_iload hx hb dX7_bargainIn_45 (lv_at hl 5 rfl) ?_
            refine lv_goto (tgt := 51) hx hb dX7_bargainIn_47 (by decide) ?_
            refine lv_istore_n (lv' := [(3, .int z4), (5, .int r_14), (0, .ref (ya Z 0)), (1, .int x1), (2, .int x2), (4, .int z4)]) hx hb dX7_bargainIn_51 rfl hl (by decide) rfl (fun ls hl => ?_)
            obtain ⟨v_52, e_52⟩ : ∃ y : Int32, y = z4 + (-1) := ⟨_, rfl⟩
            refine lv_iinc (v := v_52) (lv' := [(4, .int v_52), (3, .int z4), (5, .int r_14), (0, .ref (ya Z 0)), (1, .int x1), (2, .int x2)]) hx hb dX7_bargainIn_52 hl (k := 5) rfl (by rw [e_52]; rfl) (by decide) rfl (fun ls hl => ?_)
            have t_52 := ti_addk rfl tk_m1 (by omega) (by omega) e_52
            refine lv_goto (tgt := 5) hx hb dX7_bargainIn_55 (by decide) ?_
            exact ih5 z4 v_52 (by omega) (by omega) (by have hI9 : isG (mC g) (prC g (mC g)) (z4.toInt.toNat + 1) (x2.toInt.toNat + 1) z3 := (by rw [show z4.toInt.toNat + 1 = (z4.toInt + 1).toNat by omega]; exact hI9); have q := isG_dy hI9 (by omega) (by rw [← e14]; exact c_22) (by first | exact Or.inl c_27 | exact Or.inr ⟨z3.toInt.toNat, nI_ek (by omega), by omega, by rw [e_41, hr_33, hr_38] at c_42; have w := (fun z => c_42 ((lg_cmp_gt _ _).mpr z)); have w2 := Int64.not_lt.mp w; rw [Int64.le_iff_toInt_le, cs_i (q := z4.toInt.toNat) hJ.j4 (by omega) (by rw [← e14]; exact c_22), cs_i (q := z3.toInt.toNat) hJ.j4 (by omega) b3] at w2; omega⟩) (by omega); rw [← show z4 = nI z4.toInt.toNat from nI_ek (by omega)] at q; rw [show (v_52.toInt + 1).toNat = z4.toInt.toNat by omega]; exact q) (by omega) ls (lv_sub hl [3, 4, 5, 1, 0] rfl)
          · skip
            have i_27 := ti_nek rfl tk_m1 c_27
            have i27 := ti_nek rfl tk_m1 c_27
            have b3 : ¬ mC g z3.toInt.toNat = -1 := by rcases hI9 with y | ⟨b, y1, y2, y3, -⟩; (exact absurd y.1 c_27); rw [show z3.toInt.toNat = b by rw [y2, nI_toInt (by omega)]; rfl]; exact y3
            refine lv_aload_n hx hb dX7_bargainIn_30 rfl (lv_at hl 1 rfl) ?_
            refine lv_iload hx hb dX7_bargainIn_31 (lv_at hl 5 rfl) ?_
            refine rd_cl (va_runV (As := [.int z4]) (rest := []) ⟨hx, hb, hml, hown, hT⟩ (c_X7_costFor l Z hZ g gl z4 (by first | assumption | omega | decide) hJ) (cwV 1 hT (tb_V (fun _ h => h) (tr_29 _ (List.mem_of_getElem? (i := 20) rfl)) (tr_29 _ (List.mem_of_getElem? (i := 21) rfl)) (tr_29 _ (List.mem_of_getElem? (i := 22) rfl)) (tr_1 _ (List.mem_of_getElem? (i := 5) rfl)) (tr_29 _ (List.mem_of_getElem? (i := 23) rfl))) rfl rfl rfl (by decide +kernel) ⟨Nat.le_of_ble_eq_true rfl, Nat.le_of_ble_eq_true rfl⟩) ⟨fun a U f mk q => ⟨q.1, MI.blind f mk a q.2⟩, va_recv hK hP (ci := 7) (q0 := 0) rfl mw_0, fun U hU hW => ⟨rfl, hI.at hS hP hU hW⟩⟩ rfl rfl hl.1 rfl (lv_room (Nat.le_of_ble_eq_true rfl)) dX7_bargainIn_33 ⟨Nat.zero_le _, Nat.zero_le _⟩) (fun r_33 hr_33 => ?_)
            refine lv_aload_n hx hb dX7_bargainIn_36 rfl (lv_at hl 1 rfl) ?_
            refine lv_iload_n hx hb dX7_bargainIn_37 rfl (lv_at hl 4 rfl) ?_
            refine rd_cl (va_runV (As := [.int z3]) (rest := [.long r_33]) ⟨hx, hb, hml, hown, hT⟩ (c_X7_costFor l Z hZ g gl z3 (by first | assumption | omega | decide) hJ) (cwV 1 hT (tb_V (fun _ h => h) (tr_29 _ (List.mem_of_getElem? (i := 20) rfl)) (tr_29 _ (List.mem_of_getElem? (i := 21) rfl)) (tr_29 _ (List.mem_of_getElem? (i := 22) rfl)) (tr_1 _ (List.mem_of_getElem? (i := 5) rfl)) (tr_29 _ (List.mem_of_getElem? (i := 23) rfl))) rfl rfl rfl (by decide +kernel) ⟨Nat.le_of_ble_eq_true rfl, Nat.le_of_ble_eq_true rfl⟩) ⟨fun a U f mk q => ⟨q.1, MI.blind f mk a q.2⟩, va_recv hK hP (ci := 7) (q0 := 0) rfl mw_0, fun U hU hW => ⟨rfl, hI.at hS hP hU hW⟩⟩ rfl rfl hl.1 rfl (lv_room (Nat.le_of_ble_eq_true rfl)) dX7_bargainIn_38 ⟨Nat.zero_le _, Nat.zero_le _⟩) (fun r_38 hr_38 => ?_)
            refine W.lcmp hx hb dX7_bargainIn_41 ?_
            refine lv_topi (fun v_41 e_41 => ?_)
            refine lv_if_gt (tgt := 50) hx hb dX7_bargainIn_42 (by decide) (fun c_42 => ?_) (fun c_42 => ?_)
            · skip
              have i_42 := ti_ltk tk_0 rfl c_42
              refine lv_iload_n hx hb dX7_bargainIn_50 rfl (lv_at hl 4 rfl) ?_
              refine lv_istore_n (lv' := [(3, .int z3), (5, .int r_14), (0, .ref (ya Z 0)), (1, .int x1), (2, .int x2), (4, .int z4)]) hx hb dX7_bargainIn_51 rfl hl (by decide) rfl (fun ls hl => ?_)
              obtain ⟨v_52, e_52⟩ : ∃ y : Int32, y = z4 + (-1) := ⟨_, rfl⟩
              refine lv_iinc (v := v_52) (lv' := [(4, .int v_52), (3, .int z3), (5, .int r_14), (0, .ref (ya Z 0)), (1, .int x1), (2, .int x2)]) hx hb dX7_bargainIn_52 hl (k := 5) rfl (by rw [e_52]; rfl) (by decide) rfl (fun ls hl => ?_)
              have t_52 := ti_addk rfl tk_m1 (by omega) (by omega) e_52
              refine lv_goto (tgt := 5) hx hb dX7_bargainIn_55 (by decide) ?_
              exact ih5 z3 v_52 (by omega) (by omega) (by have hI9 : isG (mC g) (prC g (mC g)) (z4.toInt.toNat + 1) (x2.toInt.toNat + 1) z3 := (by rw [show z4.toInt.toNat + 1 = (z4.toInt + 1).toNat by omega]; exact hI9); rw [show (v_52.toInt + 1).toNat = z4.toInt.toNat by omega]; first | exact isG_dn hI9 (by rw [← e14]; exact c_22) | exact isG_dk hI9 (b := z3.toInt.toNat) (nI_ek (by omega)) (by omega) (by rw [e_41, hr_33, hr_38] at c_42; have w := (lg_cmp_gt _ _).mp c_42; rw [Int64.lt_iff_toInt_lt, cs_i (q := z4.toInt.toNat) hJ.j4 (by omega) (by rw [← e14]; exact c_22), cs_i (q := z3.toInt.toNat) hJ.j4 (by omega) b3] at w; omega) (by omega)) (by omega) ls (lv_sub hl [3, 4, 5, 1, 0] rfl)
            · skip
              have i_42 := ti_nltk tk_0 rfl c_42
              refine lv_iload hx hb dX7_bargainIn_45 (lv_at hl 5 rfl) ?_
              refine lv_goto (tgt := 51) hx hb dX7_bargainIn_47 (by decide) ?_
              refine lv_istore_n (lv' := [(3, .int z4), (5, .int r_14), (0, .ref (ya Z 0)), (1, .int x1), (2, .int x2), (4, .int z4)]) hx hb dX7_bargainIn_51 rfl hl (by decide) rfl (fun ls hl => ?_)
              obtain ⟨v_52, e_52⟩ : ∃ y : Int32, y = z4 + (-1) := ⟨_, rfl⟩
              refine lv_iinc (v := v_52) (lv' := [(4, .int v_52), (3, .int z4), (5, .int r_14), (0, .ref (ya Z 0)), (1, .int x1), (2, .int x2)]) hx hb dX7_bargainIn_52 hl (k := 5) rfl (by rw [e_52]; rfl) (by decide) rfl (fun ls hl => ?_)
              have t_52 := ti_addk rfl tk_m1 (by omega) (by omega) e_52
              refine lv_goto (tgt := 5) hx hb dX7_bargainIn_55 (by decide) ?_
              exact ih5 z4 v_52 (by omega) (by omega) (by have hI9 : isG (mC g) (prC g (mC g)) (z4.toInt.toNat + 1) (x2.toInt.toNat + 1) z3 := (by rw [show z4.toInt.toNat + 1 = (z4.toInt + 1).toNat by omega]; exact hI9); have q := isG_dy hI9 (by omega) (by rw [← e14]; exact c_22) (by first | exact Or.inl c_27 | exact Or.inr ⟨z3.toInt.toNat, nI_ek (by omega), by omega, by rw [e_41, hr_33, hr_38] at c_42; have w := (fun z => c_42 ((lg_cmp_gt _ _).mpr z)); have w2 := Int64.not_lt.mp w; rw [Int64.le_iff_toInt_le, cs_i (q := z4.toInt.toNat) hJ.j4 (by omega) (by rw [← e14]; exact c_22), cs_i (q := z3.toInt.toNat) hJ.j4 (by omega) b3] at w2; omega⟩) (by omega); rw [← show z4 = nI z4.toInt.toNat from nI_ek (by omega)] at q; rw [show (v_52.toInt + 1).toNat = z4.toInt.toNat by omega]; exact q) (by omega) ls (lv_sub hl [3, 4, 5, 1, 0] rfl)
  refine lv_iconst (v := (-1)) hx hb dX7_bargainIn_0 (by decide) ?_
  refine lv_istore_n (lv' := [(3, .int (-1)), (0, .ref (ya Z 0)), (1, .int x1), (2, .int x2)]) hx hb dX7_bargainIn_1 rfl hl (by decide) rfl (fun ls hl => ?_)
  refine lv_iload_n hx hb dX7_bargainIn_2 rfl (lv_at hl 3 rfl) ?_
  refine lv_istore (lv' := [(4, .int x2), (3, .int (-1)), (0, .ref (ya Z 0)), (1, .int x1), (2, .int x2)]) hx hb dX7_bargainIn_3 hl (by decide) rfl (fun ls hl => ?_)
  exact L5 _ (-1) x2 (by decide) (by omega) (by rw [show (x2.toInt + 1).toNat = x2.toInt.toNat + 1 by omega]; exact isG_0) (Nat.lt_succ_self _) ls (lv_sub hl [2, 3, 4, 1, 0] rfl)
set_option maxHeartbeats 4000000 in
set_option maxRecDepth 100000 in
theorem c_X7_bargain (l : Launch) (Z : YT) (hZ : MG Z) (g : Nat → Nat → Int32) (gl : Nat → Nat → Int64) (x1 : Int32) (x2 : Int32) (hJ : MJ g) : Met l yX7_bargain (Cond.code yX7_bargain cX7_bargain 3 (some .int) :: wsL_law) ({ frames := 7, cells := 0, slots := 0, locals := 166 } : Room) (va_Pc [.ref (ya Z 0), .int x1, .int x2] (MI Z g gl)) (rd_Qi (fun r => ((¬ (0 ≤ x1.toInt ∧ x1.toInt ≤ x2.toInt ∧ x2.toInt ≤ 63) ∧ r = -102) ∨ ((0 ≤ x1.toInt ∧ x1.toInt ≤ x2.toInt ∧ x2.toInt ≤ 63) ∧ g 30 0 = 0 ∧ r = -103) ∨ ((0 ≤ x1.toInt ∧ x1.toInt ≤ x2.toInt ∧ x2.toInt ≤ 63) ∧ ¬ g 30 0 = 0 ∧ isG (mC g) (prC g (mC g)) x1.toInt.toNat (x2.toInt.toNat + 1) r)))) 0 0 (fun _ => False) := by
  refine Met.ofW (cc := cX7_bargain) (maxL := 3) (ret := (some .int)) (by decide) rfl ?_
  intro p e s m args below meth c s₁ B hml hv
  obtain ⟨rfl, hI⟩ := hv
  have hx := B.exec
  have hb := B.bytes
  have hr := B.returns
  have hT : ∀ w ∈ wsL_law, w.before ([.ref (ya Z 0), .int x1, .int x2] : List Value).toArray s = true := fun w h => atoms_spec (ws := (Cond.code yX7_bargain cX7_bargain 3 (some .int) :: wsL_law)) B.pre w (List.mem_cons_of_mem _ h)
  have hown : s.vm.findClass RX7 = some m.cls := findClass_of_methodNamed B.named
  have hlocks := B.notSynchronized
  have hK := hI.2
  have hP := hI.1
  have hS : va_S (yA Z) s.heap s.heap [] := va_S.rf
  have hl := lv_entry ([.ref (ya Z 0), .int x1, .int x2]) (n := 3) (Nat.le_of_ble_eq_true rfl)
  rw [lg_entry_eq]
  generalize (lg_sl ([.ref (ya Z 0), .int x1, .int x2]) ++ List.replicate (3 - (lg_sl ([.ref (ya Z 0), .int x1, .int x2])).length) Slot.unset).toArray = ls at hl ⊢
  have hl : lv_has ls 3 [(0, .ref (ya Z 0)), (1, .int x1), (2, .int x2)] := hl
  refine lv_iload_n hx hb dX7_bargain_0 rfl (lv_at hl 1 rfl) ?_
  refine rd_ci (va_runS (As := [.int x1]) (rest := []) ⟨hx, hb, hml, hown, hT⟩ (c_X7_isQuantity l x1) (va_cwS 1 hT (tb_S (fun _ h => h) (tr_25 _ (List.mem_of_getElem? (i := 2) rfl)) (tr_25 _ (List.mem_of_getElem? (i := 3) rfl)) (tr_1 _ (List.mem_of_getElem? (i := 5) rfl)) (tr_25 _ (List.mem_of_getElem? (i := 4) rfl))) rfl rfl rfl (by decide +kernel) ⟨Nat.le_of_ble_eq_true rfl, Nat.le_of_ble_eq_true rfl⟩) ⟨fun _ _ _ _ q => q, fun U hU hW => ⟨rfl, trivial⟩⟩ rfl rfl hl.1 rfl (lv_room (Nat.le_of_ble_eq_true rfl)) dX7_bargain_1 ⟨Nat.zero_le _, Nat.zero_le _⟩) (fun r_1 hr_1 => ?_)
  rcases hr_1 with ⟨rfl, b_1⟩ | ⟨rfl, b_1⟩
  · skip
    refine lv_if_eq (tgt := 17) hx hb dX7_bargain_4 (by decide) (fun c_4 => absurd c_4 (by decide)) (fun c_4 => ?_)
    refine lv_iload_n hx hb dX7_bargain_7 rfl (lv_at hl 2 rfl) ?_
    refine lv_iload_n hx hb dX7_bargain_8 rfl (lv_at hl 1 rfl) ?_
    refine lv_bipush (v := 63) hx hb dX7_bargain_9 (by decide) ?_
    refine rd_ci (va_runS (As := [.int x2, .int x1, .int 63]) (rest := []) ⟨hx, hb, hml, hown, hT⟩ (c_X7_within l x2 x1 63) (va_cwS 3 hT (tb_S (fun _ h => h) (tr_6 _ (List.mem_of_getElem? (i := 0) rfl)) (tr_6 _ (List.mem_of_getElem? (i := 1) rfl)) (tr_1 _ (List.mem_of_getElem? (i := 5) rfl)) (tr_6 _ (List.mem_of_getElem? (i := 2) rfl))) rfl rfl rfl (by decide +kernel) ⟨Nat.le_of_ble_eq_true rfl, Nat.le_of_ble_eq_true rfl⟩) ⟨fun _ _ _ _ q => q, fun U hU hW => ⟨rfl, trivial⟩⟩ rfl rfl hl.1 rfl (lv_room (Nat.le_of_ble_eq_true rfl)) dX7_bargain_11 ⟨Nat.zero_le _, Nat.zero_le _⟩) (fun r_11 hr_11 => ?_)
    rcases hr_11 with ⟨rfl, b_11⟩ | ⟨rfl, b_11⟩
    · skip
      (try simp only [tk_63] at b_11)
      refine lv_if_ne (tgt := 20) hx hb dX7_bargain_14 (by decide) (fun c_14 => ?_) (fun c_14 => absurd c_14 (by decide))
      refine lv_aload_n hx hb dX7_bargain_20 rfl (lv_at hl 0 rfl) ?_
      refine va_get (D := yD Z) (ci := 7) (v := .int (g 30 0)) (C := RX7) (T := TX7) (N := 31) hx hb hT inlX7 hown hK hP 0 mw_0 rfl 0 (by decide) (hT _ (tr_17 _ (List.mem_of_getElem? (i := 15) rfl))) (fun _ h9 => h9) rfl dX7_bargain_21 ?_
      refine lv_if_ne (tgt := 32) hx hb dX7_bargain_24 (by decide) (fun c_24 => ?_) (fun c_24 => ?_)
      · skip
        have i_24 := ti_nek rfl tk_0 c_24
        refine lv_aload_n hx hb dX7_bargain_32 rfl (lv_at hl 0 rfl) ?_
        refine lv_iload_n hx hb dX7_bargain_33 rfl (lv_at hl 1 rfl) ?_
        refine lv_iload_n hx hb dX7_bargain_34 rfl (lv_at hl 2 rfl) ?_
        refine rd_ci (va_runV (As := [.int x1, .int x2]) (rest := []) ⟨hx, hb, hml, hown, hT⟩ (c_X7_bargainIn l Z hZ g gl x1 x2 (by first | assumption | omega | decide) (by first | assumption | omega | decide) hJ) (cwV 2 hT (tb_V (fun _ h => h) (tr_31 _ (List.mem_of_getElem? (i := 17) rfl)) (tr_31 _ (List.mem_of_getElem? (i := 18) rfl)) (tr_31 _ (List.mem_of_getElem? (i := 19) rfl)) (tr_1 _ (List.mem_of_getElem? (i := 5) rfl)) (tr_31 _ (List.mem_of_getElem? (i := 20) rfl))) rfl rfl rfl (by decide +kernel) ⟨Nat.le_of_ble_eq_true rfl, Nat.le_of_ble_eq_true rfl⟩) ⟨fun a U f mk q => ⟨q.1, MI.blind f mk a q.2⟩, va_recv hK hP (ci := 7) (q0 := 0) rfl mw_0, fun U hU hW => ⟨rfl, hI.at hS hP hU hW⟩⟩ rfl rfl hl.1 rfl (lv_room (Nat.le_of_ble_eq_true rfl)) dX7_bargain_35 ⟨Nat.zero_le _, Nat.zero_le _⟩) (fun r_35 hr_35 => ?_)
        exact W.iret (v := r_35) hx hb hr (fun t ht hW => ⟨r_35, rfl, Or.inr (Or.inr ⟨by omega, c_24, hr_35⟩), ht⟩) (fun q hq => by cases hq) dX7_bargain_38
      · skip
        have i_24 := ti_eqk rfl tk_0 c_24
        refine lv_bipush (v := (-103)) hx hb dX7_bargain_27 (by decide) ?_
        refine lv_goto (tgt := 38) hx hb dX7_bargain_29 (by decide) ?_
        exact W.iret (v := (-103)) hx hb hr (fun t ht hW => ⟨(-103), rfl, Or.inr (Or.inl ⟨by omega, c_24, rfl⟩), ht⟩) (fun q hq => by cases hq) dX7_bargain_38
    · skip
      (try simp only [tk_63] at b_11)
      refine lv_if_ne (tgt := 20) hx hb dX7_bargain_14 (by decide) (fun c_14 => absurd c_14 (by decide)) (fun c_14 => ?_)
      refine lv_bipush (v := (-102)) hx hb dX7_bargain_17 (by decide) ?_
      exact W.iret (v := (-102)) hx hb hr (fun t ht hW => ⟨(-102), rfl, Or.inl ⟨by omega, rfl⟩, ht⟩) (fun q hq => by cases hq) dX7_bargain_19
  · skip
    refine lv_if_eq (tgt := 17) hx hb dX7_bargain_4 (by decide) (fun c_4 => ?_) (fun c_4 => absurd c_4 (by decide))
    refine lv_bipush (v := (-102)) hx hb dX7_bargain_17 (by decide) ?_
    exact W.iret (v := (-102)) hx hb hr (fun t ht hW => ⟨(-102), rfl, Or.inl ⟨by omega, rfl⟩, ht⟩) (fun q hq => by cases hq) dX7_bargain_19
set_option maxHeartbeats 4000000 in
set_option maxRecDepth 100000 in
theorem c_X7_crossingOf (l : Launch) (Z : YT) (hZ : MG Z) (g : Nat → Nat → Int32) (gl : Nat → Nat → Int64) (x1 : Int32) (x2 : Int32) (ht : 0 ≤ x1.toInt ∧ x1.toInt < 70) (ht2 : 0 ≤ x2.toInt ∧ x2.toInt < 70) (hJ : MJ g) : Met l yX7_crossingOf (Cond.code yX7_crossingOf cX7_crossingOf 4 (some .int) :: wsL_law) ({ frames := 4, cells := 0, slots := 0, locals := 95 } : Room) (va_Pc [.ref (ya Z 0), .int x1, .int x2] (MI Z g gl)) (rd_Qi (fun r => ((∃ q : Nat, q < 64 ∧ r.toInt = q ∧ ((g 4 x1.toInt.toNat).toInt ≤ (q : Int) ∧ (q : Int) ≤ (g 5 x1.toInt.toNat).toInt ∧ (g 4 x2.toInt.toNat).toInt ≤ (q : Int) ∧ (q : Int) ≤ (g 5 x2.toInt.toNat).toInt ∧ mbt g x2 x1 (nI q) = true) ∧ (∀ j : Nat, j < q → ¬ ((g 4 x1.toInt.toNat).toInt ≤ (j : Int) ∧ (j : Int) ≤ (g 5 x1.toInt.toNat).toInt ∧ (g 4 x2.toInt.toNat).toInt ≤ (j : Int) ∧ (j : Int) ≤ (g 5 x2.toInt.toNat).toInt ∧ mbt g x2 x1 (nI j) = true))) ∨ (r = -1 ∧ (∀ j : Nat, j < 64 → ¬ ((g 4 x1.toInt.toNat).toInt ≤ (j : Int) ∧ (j : Int) ≤ (g 5 x1.toInt.toNat).toInt ∧ (g 4 x2.toInt.toNat).toInt ≤ (j : Int) ∧ (j : Int) ≤ (g 5 x2.toInt.toNat).toInt ∧ mbt g x2 x1 (nI j) = true)))))) 0 0 (fun _ => False) := by
  refine Met.ofW (cc := cX7_crossingOf) (maxL := 4) (ret := (some .int)) (by decide) rfl ?_
  intro p e s m args below meth c s₁ B hml hv
  obtain ⟨rfl, hI⟩ := hv
  have hx := B.exec
  have hb := B.bytes
  have hr := B.returns
  have hT : ∀ w ∈ wsL_law, w.before ([.ref (ya Z 0), .int x1, .int x2] : List Value).toArray s = true := fun w h => atoms_spec (ws := (Cond.code yX7_crossingOf cX7_crossingOf 4 (some .int) :: wsL_law)) B.pre w (List.mem_cons_of_mem _ h)
  have hown : s.vm.findClass RX7 = some m.cls := findClass_of_methodNamed B.named
  have hlocks := B.notSynchronized
  have hK := hI.2
  have hP := hI.1
  have hS : va_S (yA Z) s.heap s.heap [] := va_S.rf
  have hl := lv_entry ([.ref (ya Z 0), .int x1, .int x2]) (n := 4) (Nat.le_of_ble_eq_true rfl)
  rw [lg_entry_eq]
  generalize (lg_sl ([.ref (ya Z 0), .int x1, .int x2]) ++ List.replicate (4 - (lg_sl ([.ref (ya Z 0), .int x1, .int x2])).length) Slot.unset).toArray = ls at hl ⊢
  have hl : lv_has ls 4 [(0, .ref (ya Z 0)), (1, .int x1), (2, .int x2)] := hl
  have L2 : ∀ (n : Nat) (z3 : Int32)  (h3 : 0 ≤ z3.toInt) (hA : ∀ q : Nat, (q : Int) < z3.toInt → ¬ ((g 4 x1.toInt.toNat).toInt ≤ (q : Int) ∧ (q : Int) ≤ (g 5 x1.toInt.toNat).toInt ∧ (g 4 x2.toInt.toNat).toInt ≤ (q : Int) ∧ (q : Int) ≤ (g 5 x2.toInt.toNat).toInt ∧ mbt g x2 x1 (nI q) = true)) (hn : (64 - z3.toInt).toNat < n) (ls : Array Slot) (hl : lv_has ls 4 [(0, .ref (ya Z 0)), (1, .int x1), (2, .int x2), (3, .int z3)]), W p l e ({ frames := 4, cells := 0, slots := 0, locals := 95 } : Room) s m ([.ref (ya Z 0), .int x1, .int x2] : List Value).toArray below meth c s.heap [] 0 0 (MQ below (rd_Qi (fun r => ((∃ q : Nat, q < 64 ∧ r.toInt = q ∧ ((g 4 x1.toInt.toNat).toInt ≤ (q : Int) ∧ (q : Int) ≤ (g 5 x1.toInt.toNat).toInt ∧ (g 4 x2.toInt.toNat).toInt ≤ (q : Int) ∧ (q : Int) ≤ (g 5 x2.toInt.toNat).toInt ∧ mbt g x2 x1 (nI q) = true) ∧ (∀ j : Nat, j < q → ¬ ((g 4 x1.toInt.toNat).toInt ≤ (j : Int) ∧ (j : Int) ≤ (g 5 x1.toInt.toNat).toInt ∧ (g 4 x2.toInt.toNat).toInt ≤ (j : Int) ∧ (j : Int) ≤ (g 5 x2.toInt.toNat).toInt ∧ mbt g x2 x1 (nI j) = true))) ∨ (r = -1 ∧ (∀ j : Nat, j < 64 → ¬ ((g 4 x1.toInt.toNat).toInt ≤ (j : Int) ∧ (j : Int) ≤ (g 5 x1.toInt.toNat).toInt ∧ (g 4 x2.toInt.toNat).toInt ≤ (j : Int) ∧ (j : Int) ≤ (g 5 x2.toInt.toNat).toInt ∧ mbt g x2 x1 (nI j) = true)))))) ([.ref (ya Z 0), .int x1, .int x2] : List Value).toArray s 0 0 (fun _ => False)) (F0 m 2 ls []) := by
    intro n
    induction n with
    | zero => intro z3 h3 hA hn; exact absurd hn (Nat.not_lt_zero _)
    | succ n ih2 =>
      intro z3 h3 hA hn ls hl
      refine lv_iload_n hx hb dX7_crossingOf_2 rfl (lv_at hl 3 rfl) ?_
      refine lv_bipush (v := 64) hx hb dX7_crossingOf_3 (by decide) ?_
      refine lv_icmp_ge (tgt := 44) hx hb dX7_crossingOf_5 (by decide) (fun c_5 => ?_) (fun c_5 => ?_)
      · skip
        have i_5 := ti_lek tk_64 rfl c_5
        refine lv_iconst (v := (-1)) hx hb dX7_crossingOf_44 (by decide) ?_
        exact W.iret (v := (-1)) hx hb hr (fun t ht hW => ⟨(-1), rfl, Or.inr ⟨rfl, fun j hj => hA j (by omega)⟩, ht⟩) (fun q hq => by cases hq) dX7_crossingOf_45
      · skip
        have i_5 := ti_nlek tk_64 rfl c_5
        refine lv_aload_n hx hb dX7_crossingOf_8 rfl (lv_at hl 0 rfl) ?_
        refine lv_iload_n hx hb dX7_crossingOf_9 rfl (lv_at hl 1 rfl) ?_
        refine lv_iload_n hx hb dX7_crossingOf_10 rfl (lv_at hl 3 rfl) ?_
        refine rd_ci (va_runV (As := [.int x1, .int z3]) (rest := []) ⟨hx, hb, hml, hown, hT⟩ (c_X7_has l Z hZ g gl x1 z3 (by first | assumption | omega | decide) hJ) (cwV 2 hT (tb_V (fun _ h => h) (tr_25 _ (List.mem_of_getElem? (i := 5) rfl)) (tr_25 _ (List.mem_of_getElem? (i := 6) rfl)) (tr_25 _ (List.mem_of_getElem? (i := 7) rfl)) (tr_1 _ (List.mem_of_getElem? (i := 5) rfl)) (tr_25 _ (List.mem_of_getElem? (i := 8) rfl))) rfl rfl rfl (by decide +kernel) ⟨Nat.le_of_ble_eq_true rfl, Nat.le_of_ble_eq_true rfl⟩) ⟨fun a U f mk q => ⟨q.1, MI.blind f mk a q.2⟩, va_recv hK hP (ci := 7) (q0 := 0) rfl mw_0, fun U hU hW => ⟨rfl, hI.at hS hP hU hW⟩⟩ rfl rfl hl.1 rfl (lv_room (Nat.le_of_ble_eq_true rfl)) dX7_crossingOf_11 ⟨Nat.zero_le _, Nat.zero_le _⟩) (fun r_11 hr_11 => ?_)
        rcases hr_11 with ⟨rfl, b_11⟩ | ⟨rfl, b_11⟩
        · skip
          refine lv_if_eq (tgt := 38) hx hb dX7_crossingOf_14 (by decide) (fun c_14 => absurd c_14 (by decide)) (fun c_14 => ?_)
          refine lv_aload_n hx hb dX7_crossingOf_17 rfl (lv_at hl 0 rfl) ?_
          refine lv_iload_n hx hb dX7_crossingOf_18 rfl (lv_at hl 2 rfl) ?_
          refine lv_iload_n hx hb dX7_crossingOf_19 rfl (lv_at hl 3 rfl) ?_
          refine rd_ci (va_runV (As := [.int x2, .int z3]) (rest := []) ⟨hx, hb, hml, hown, hT⟩ (c_X7_has l Z hZ g gl x2 z3 (by first | assumption | omega | decide) hJ) (cwV 2 hT (tb_V (fun _ h => h) (tr_25 _ (List.mem_of_getElem? (i := 5) rfl)) (tr_25 _ (List.mem_of_getElem? (i := 6) rfl)) (tr_25 _ (List.mem_of_getElem? (i := 7) rfl)) (tr_1 _ (List.mem_of_getElem? (i := 5) rfl)) (tr_25 _ (List.mem_of_getElem? (i := 8) rfl))) rfl rfl rfl (by decide +kernel) ⟨Nat.le_of_ble_eq_true rfl, Nat.le_of_ble_eq_true rfl⟩) ⟨fun a U f mk q => ⟨q.1, MI.blind f mk a q.2⟩, va_recv hK hP (ci := 7) (q0 := 0) rfl mw_0, fun U hU hW => ⟨rfl, hI.at hS hP hU hW⟩⟩ rfl rfl hl.1 rfl (lv_room (Nat.le_of_ble_eq_true rfl)) dX7_crossingOf_20 ⟨Nat.zero_le _, Nat.zero_le _⟩) (fun r_20 hr_20 => ?_)
          rcases hr_20 with ⟨rfl, b_20⟩ | ⟨rfl, b_20⟩
          · skip
            refine lv_if_eq (tgt := 38) hx hb dX7_crossingOf_23 (by decide) (fun c_23 => absurd c_23 (by decide)) (fun c_23 => ?_)
            refine lv_aload_n hx hb dX7_crossingOf_26 rfl (lv_at hl 0 rfl) ?_
            refine lv_iload_n hx hb dX7_crossingOf_27 rfl (lv_at hl 2 rfl) ?_
            refine lv_iload_n hx hb dX7_crossingOf_28 rfl (lv_at hl 1 rfl) ?_
            refine lv_iload_n hx hb dX7_crossingOf_29 rfl (lv_at hl 3 rfl) ?_
            refine rd_ci (va_runV (As := [.int x2, .int x1, .int z3]) (rest := []) ⟨hx, hb, hml, hown, hT⟩ (c_X7_isBetter l Z hZ g gl x2 x1 z3 (by first | assumption | omega | decide) (by first | assumption | omega | decide) hJ) (cwV 3 hT (tb_V (fun _ h => h) (tr_19 _ (List.mem_of_getElem? (i := 1) rfl)) (tr_19 _ (List.mem_of_getElem? (i := 2) rfl)) (tr_19 _ (List.mem_of_getElem? (i := 3) rfl)) (tr_1 _ (List.mem_of_getElem? (i := 5) rfl)) (tr_19 _ (List.mem_of_getElem? (i := 4) rfl))) rfl rfl rfl (by decide +kernel) ⟨Nat.le_of_ble_eq_true rfl, Nat.le_of_ble_eq_true rfl⟩) ⟨fun a U f mk q => ⟨q.1, MI.blind f mk a q.2⟩, va_recv hK hP (ci := 7) (q0 := 0) rfl mw_0, fun U hU hW => ⟨rfl, hI.at hS hP hU hW⟩⟩ rfl rfl hl.1 rfl (lv_room (Nat.le_of_ble_eq_true rfl)) dX7_crossingOf_30 ⟨Nat.zero_le _, Nat.zero_le _⟩) (fun r_30 hr_30 => ?_)
            rcases hr_30 with ⟨rfl, b_30⟩ | ⟨rfl, b_30⟩
            · skip
              refine lv_if_eq (tgt := 38) hx hb dX7_crossingOf_33 (by decide) (fun c_33 => absurd c_33 (by decide)) (fun c_33 => ?_)
              refine lv_iload_n hx hb dX7_crossingOf_36 rfl (lv_at hl 3 rfl) ?_
              exact W.iret (v := z3) hx hb hr (fun t ht hW => ⟨z3, rfl, Or.inl ⟨z3.toInt.toNat, by omega, by omega, ⟨by omega, by omega, by omega, by omega, by rw [nI_toN (by omega)]; exact b_30⟩, fun j hj => hA j (by omega)⟩, ht⟩) (fun q hq => by cases hq) dX7_crossingOf_37
            · skip
              refine lv_if_eq (tgt := 38) hx hb dX7_crossingOf_33 (by decide) (fun c_33 => ?_) (fun c_33 => absurd c_33 (by decide))
              obtain ⟨v_38, e_38⟩ : ∃ y : Int32, y = z3 + 1 := ⟨_, rfl⟩
              refine lv_iinc (v := v_38) (lv' := [(3, .int v_38), (0, .ref (ya Z 0)), (1, .int x1), (2, .int x2)]) hx hb dX7_crossingOf_38 hl (k := 3) rfl (by rw [e_38]; rfl) (by decide) rfl (fun ls hl => ?_)
              have t_38 := ti_addk rfl tk_1 (by omega) (by omega) e_38
              refine lv_goto (tgt := 2) hx hb dX7_crossingOf_41 (by decide) ?_
              exact ih2 v_38 (by first | assumption | omega | decide) (fun q hq h => by rcases Int.lt_or_le (q : Int) z3.toInt with y | y; exact hA q y h; have e : (q : Int) = z3.toInt := (by omega); first | exact b_11 (by omega) | exact b_20 (by omega) | (have b := b_30; rw [show z3 = nI q by rw [show q = z3.toInt.toNat by omega, nI_toN (by omega)], h.2.2.2.2] at b; cases b)) (by omega) ls (lv_sub hl [1, 2, 3, 0] rfl)
          · skip
            refine lv_if_eq (tgt := 38) hx hb dX7_crossingOf_23 (by decide) (fun c_23 => ?_) (fun c_23 => absurd c_23 (by decide))
            obtain ⟨v_38, e_38⟩ : ∃ y : Int32, y = z3 + 1 := ⟨_, rfl⟩
            refine lv_iinc (v := v_38) (lv' := [(3, .int v_38), (0, .ref (ya Z 0)), (1, .int x1), (2, .int x2)]) hx hb dX7_crossingOf_38 hl (k := 3) rfl (by rw [e_38]; rfl) (by decide) rfl (fun ls hl => ?_)
            have t_38 := ti_addk rfl tk_1 (by omega) (by omega) e_38
            refine lv_goto (tgt := 2) hx hb dX7_crossingOf_41 (by decide) ?_
            exact ih2 v_38 (by first | assumption | omega | decide) (fun q hq h => by rcases Int.lt_or_le (q : Int) z3.toInt with y | y; exact hA q y h; have e : (q : Int) = z3.toInt := (by omega); first | exact b_11 (by omega) | exact b_20 (by omega) | (have b := b_30; rw [show z3 = nI q by rw [show q = z3.toInt.toNat by omega, nI_toN (by omega)], h.2.2.2.2] at b; cases b)) (by omega) ls (lv_sub hl [1, 2, 3, 0] rfl)
        · skip
          refine lv_if_eq (tgt := 38) hx hb dX7_crossingOf_14 (by decide) (fun c_14 => ?_) (fun c_14 => absurd c_14 (by decide))
          obtain ⟨v_38, e_38⟩ : ∃ y : Int32, y = z3 + 1 := ⟨_, rfl⟩
          refine lv_iinc (v := v_38) (lv' := [(3, .int v_38), (0, .ref (ya Z 0)), (1, .int x1), (2, .int x2)]) hx hb dX7_crossingOf_38 hl (k := 3) rfl (by rw [e_38]; rfl) (by decide) rfl (fun ls hl => ?_)
          have t_38 := ti_addk rfl tk_1 (by omega) (by omega) e_38
          refine lv_goto (tgt := 2) hx hb dX7_crossingOf_41 (by decide) ?_
          exact ih2 v_38 (by first | assumption | omega | decide) (fun q hq h => by rcases Int.lt_or_le (q : Int) z3.toInt with y | y; exact hA q y h; have e : (q : Int) = z3.toInt := (by omega); first | exact b_11 (by omega) | exact b_20 (by omega) | (have b := b_30; rw [show z3 = nI q by rw [show q = z3.toInt.toNat by omega, nI_toN (by omega)], h.2.2.2.2] at b; cases b)) (by omega) ls (lv_sub hl [1, 2, 3, 0] rfl)
  refine lv_iconst (v := 0) hx hb dX7_crossingOf_0 (by decide) ?_
  refine lv_istore_n (lv' := [(3, .int 0), (0, .ref (ya Z 0)), (1, .int x1), (2, .int x2)]) hx hb dX7_crossingOf_1 rfl hl (by decide) rfl (fun ls hl => ?_)
  exact L2 _ 0 (by first | assumption | omega | decide) (fun q hq h => by rw [tk_0] at hq; omega) (Nat.lt_succ_self _) ls (lv_sub hl [1, 2, 3, 0] rfl)
set_option maxHeartbeats 4000000 in
set_option maxRecDepth 100000 in
theorem c_X7_crossing (l : Launch) (Z : YT) (hZ : MG Z) (g : Nat → Nat → Int32) (gl : Nat → Nat → Int64) (x1 : Int32) (x2 : Int32) (hJ : MJ g) : Met l yX7_crossing (Cond.code yX7_crossing cX7_crossing 3 (some .int) :: wsL_law) ({ frames := 5, cells := 0, slots := 0, locals := 118 } : Room) (va_Pc [.ref (ya Z 0), .int x1, .int x2] (MI Z g gl)) (rd_Qi (fun r => ((¬ ((0 ≤ x1.toInt ∧ x1.toInt < (g 31 0).toInt) ∧ (0 ≤ x2.toInt ∧ x2.toInt < (g 31 0).toInt) ∧ ¬ x1 = x2) ∧ r = -101) ∨ (((0 ≤ x1.toInt ∧ x1.toInt < (g 31 0).toInt) ∧ (0 ≤ x2.toInt ∧ x2.toInt < (g 31 0).toInt) ∧ ¬ x1 = x2) ∧ ((∃ q : Nat, q < 64 ∧ r.toInt = q ∧ ((g 4 x1.toInt.toNat).toInt ≤ (q : Int) ∧ (q : Int) ≤ (g 5 x1.toInt.toNat).toInt ∧ (g 4 x2.toInt.toNat).toInt ≤ (q : Int) ∧ (q : Int) ≤ (g 5 x2.toInt.toNat).toInt ∧ mbt g x2 x1 (nI q) = true) ∧ (∀ j : Nat, j < q → ¬ ((g 4 x1.toInt.toNat).toInt ≤ (j : Int) ∧ (j : Int) ≤ (g 5 x1.toInt.toNat).toInt ∧ (g 4 x2.toInt.toNat).toInt ≤ (j : Int) ∧ (j : Int) ≤ (g 5 x2.toInt.toNat).toInt ∧ mbt g x2 x1 (nI j) = true))) ∨ (r = -1 ∧ (∀ j : Nat, j < 64 → ¬ ((g 4 x1.toInt.toNat).toInt ≤ (j : Int) ∧ (j : Int) ≤ (g 5 x1.toInt.toNat).toInt ∧ (g 4 x2.toInt.toNat).toInt ≤ (j : Int) ∧ (j : Int) ≤ (g 5 x2.toInt.toNat).toInt ∧ mbt g x2 x1 (nI j) = true)))))))) 0 0 (fun _ => False) := by
  refine Met.ofW (cc := cX7_crossing) (maxL := 3) (ret := (some .int)) (by decide) rfl ?_
  intro p e s m args below meth c s₁ B hml hv
  obtain ⟨rfl, hI⟩ := hv
  have hx := B.exec
  have hb := B.bytes
  have hr := B.returns
  have hT : ∀ w ∈ wsL_law, w.before ([.ref (ya Z 0), .int x1, .int x2] : List Value).toArray s = true := fun w h => atoms_spec (ws := (Cond.code yX7_crossing cX7_crossing 3 (some .int) :: wsL_law)) B.pre w (List.mem_cons_of_mem _ h)
  have hown : s.vm.findClass RX7 = some m.cls := findClass_of_methodNamed B.named
  have hlocks := B.notSynchronized
  have hK := hI.2
  have hP := hI.1
  have hS : va_S (yA Z) s.heap s.heap [] := va_S.rf
  have j31 := hJ.j31
  have hl := lv_entry ([.ref (ya Z 0), .int x1, .int x2]) (n := 3) (Nat.le_of_ble_eq_true rfl)
  rw [lg_entry_eq]
  generalize (lg_sl ([.ref (ya Z 0), .int x1, .int x2]) ++ List.replicate (3 - (lg_sl ([.ref (ya Z 0), .int x1, .int x2])).length) Slot.unset).toArray = ls at hl ⊢
  have hl : lv_has ls 3 [(0, .ref (ya Z 0)), (1, .int x1), (2, .int x2)] := hl
  refine lv_aload_n hx hb dX7_crossing_0 rfl (lv_at hl 0 rfl) ?_
  refine lv_iload_n hx hb dX7_crossing_1 rfl (lv_at hl 1 rfl) ?_
  refine rd_ci (va_runV (As := [.int x1]) (rest := []) ⟨hx, hb, hml, hown, hT⟩ (c_X7_isTariff l Z hZ g gl x1 hJ) (cwV 1 hT (tb_V (fun _ h => h) (tr_22 _ (List.mem_of_getElem? (i := 2) rfl)) (tr_22 _ (List.mem_of_getElem? (i := 3) rfl)) (tr_22 _ (List.mem_of_getElem? (i := 4) rfl)) (tr_1 _ (List.mem_of_getElem? (i := 5) rfl)) (tr_22 _ (List.mem_of_getElem? (i := 5) rfl))) rfl rfl rfl (by decide +kernel) ⟨Nat.le_of_ble_eq_true rfl, Nat.le_of_ble_eq_true rfl⟩) ⟨fun a U f mk q => ⟨q.1, MI.blind f mk a q.2⟩, va_recv hK hP (ci := 7) (q0 := 0) rfl mw_0, fun U hU hW => ⟨rfl, hI.at hS hP hU hW⟩⟩ rfl rfl hl.1 rfl (lv_room (Nat.le_of_ble_eq_true rfl)) dX7_crossing_2 ⟨Nat.zero_le _, Nat.zero_le _⟩) (fun r_2 hr_2 => ?_)
  rcases hr_2 with ⟨rfl, b_2⟩ | ⟨rfl, b_2⟩
  · skip
    refine lv_if_eq (tgt := 30) hx hb dX7_crossing_5 (by decide) (fun c_5 => absurd c_5 (by decide)) (fun c_5 => ?_)
    refine lv_aload_n hx hb dX7_crossing_8 rfl (lv_at hl 0 rfl) ?_
    refine lv_iload_n hx hb dX7_crossing_9 rfl (lv_at hl 2 rfl) ?_
    refine rd_ci (va_runV (As := [.int x2]) (rest := []) ⟨hx, hb, hml, hown, hT⟩ (c_X7_isTariff l Z hZ g gl x2 hJ) (cwV 1 hT (tb_V (fun _ h => h) (tr_22 _ (List.mem_of_getElem? (i := 2) rfl)) (tr_22 _ (List.mem_of_getElem? (i := 3) rfl)) (tr_22 _ (List.mem_of_getElem? (i := 4) rfl)) (tr_1 _ (List.mem_of_getElem? (i := 5) rfl)) (tr_22 _ (List.mem_of_getElem? (i := 5) rfl))) rfl rfl rfl (by decide +kernel) ⟨Nat.le_of_ble_eq_true rfl, Nat.le_of_ble_eq_true rfl⟩) ⟨fun a U f mk q => ⟨q.1, MI.blind f mk a q.2⟩, va_recv hK hP (ci := 7) (q0 := 0) rfl mw_0, fun U hU hW => ⟨rfl, hI.at hS hP hU hW⟩⟩ rfl rfl hl.1 rfl (lv_room (Nat.le_of_ble_eq_true rfl)) dX7_crossing_10 ⟨Nat.zero_le _, Nat.zero_le _⟩) (fun r_10 hr_10 => ?_)
    rcases hr_10 with ⟨rfl, b_10⟩ | ⟨rfl, b_10⟩
    · skip
      refine lv_if_eq (tgt := 30) hx hb dX7_crossing_13 (by decide) (fun c_13 => absurd c_13 (by decide)) (fun c_13 => ?_)
      refine lv_iload_n hx hb dX7_crossing_16 rfl (lv_at hl 1 rfl) ?_
      refine lv_iload_n hx hb dX7_crossing_17 rfl (lv_at hl 2 rfl) ?_
      refine lv_icmp_eq (tgt := 30) hx hb dX7_crossing_18 (by decide) (fun c_18 => ?_) (fun c_18 => ?_)
      · skip
        have i_18 := ti_eqk rfl rfl c_18
        refine lv_bipush (v := (-101)) hx hb dX7_crossing_30 (by decide) ?_
        exact W.iret (v := (-101)) hx hb hr (fun t ht hW => ⟨(-101), rfl, Or.inl ⟨fun z => by first | exact b_2 z.1 | exact b_10 z.2.1 | exact z.2.2 c_18, rfl⟩, ht⟩) (fun q hq => by cases hq) dX7_crossing_32
      · skip
        have i_18 := ti_nek rfl rfl c_18
        refine lv_aload_n hx hb dX7_crossing_21 rfl (lv_at hl 0 rfl) ?_
        refine lv_iload_n hx hb dX7_crossing_22 rfl (lv_at hl 1 rfl) ?_
        refine lv_iload_n hx hb dX7_crossing_23 rfl (lv_at hl 2 rfl) ?_
        refine rd_ci (va_runV (As := [.int x1, .int x2]) (rest := []) ⟨hx, hb, hml, hown, hT⟩ (c_X7_crossingOf l Z hZ g gl x1 x2 (by first | assumption | omega | decide) (by first | assumption | omega | decide) hJ) (cwV 2 hT (tb_V (fun _ h => h) (tr_32 _ (List.mem_of_getElem? (i := 8) rfl)) (tr_32 _ (List.mem_of_getElem? (i := 9) rfl)) (tr_32 _ (List.mem_of_getElem? (i := 10) rfl)) (tr_1 _ (List.mem_of_getElem? (i := 5) rfl)) (tr_32 _ (List.mem_of_getElem? (i := 11) rfl))) rfl rfl rfl (by decide +kernel) ⟨Nat.le_of_ble_eq_true rfl, Nat.le_of_ble_eq_true rfl⟩) ⟨fun a U f mk q => ⟨q.1, MI.blind f mk a q.2⟩, va_recv hK hP (ci := 7) (q0 := 0) rfl mw_0, fun U hU hW => ⟨rfl, hI.at hS hP hU hW⟩⟩ rfl rfl hl.1 rfl (lv_room (Nat.le_of_ble_eq_true rfl)) dX7_crossing_24 ⟨Nat.zero_le _, Nat.zero_le _⟩) (fun r_24 hr_24 => ?_)
        refine lv_goto (tgt := 32) hx hb dX7_crossing_27 (by decide) ?_
        exact W.iret (v := r_24) hx hb hr (fun t ht hW => ⟨r_24, rfl, Or.inr ⟨⟨b_2, b_10, c_18⟩, hr_24⟩, ht⟩) (fun q hq => by cases hq) dX7_crossing_32
    · skip
      refine lv_if_eq (tgt := 30) hx hb dX7_crossing_13 (by decide) (fun c_13 => ?_) (fun c_13 => absurd c_13 (by decide))
      refine lv_bipush (v := (-101)) hx hb dX7_crossing_30 (by decide) ?_
      exact W.iret (v := (-101)) hx hb hr (fun t ht hW => ⟨(-101), rfl, Or.inl ⟨fun z => by first | exact b_2 z.1 | exact b_10 z.2.1 | exact z.2.2 c_18, rfl⟩, ht⟩) (fun q hq => by cases hq) dX7_crossing_32
  · skip
    refine lv_if_eq (tgt := 30) hx hb dX7_crossing_5 (by decide) (fun c_5 => ?_) (fun c_5 => absurd c_5 (by decide))
    refine lv_bipush (v := (-101)) hx hb dX7_crossing_30 (by decide) ?_
    exact W.iret (v := (-101)) hx hb hr (fun t ht hW => ⟨(-101), rfl, Or.inl ⟨fun z => by first | exact b_2 z.1 | exact b_10 z.2.1 | exact z.2.2 c_18, rfl⟩, ht⟩) (fun q hq => by cases hq) dX7_crossing_32
