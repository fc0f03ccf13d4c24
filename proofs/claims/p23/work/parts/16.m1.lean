set_option maxHeartbeats 4000000 in
set_option maxRecDepth 100000 in
theorem c_X7_often (l : Launch) (x1 : Int32) (x2 : Int32) (x3 : Int32) : Met l yX7_often (Cond.code yX7_often cX7_often 3 (some .long) :: wsL_law) ({ frames := 0, cells := 0, slots := 0, locals := 0 } : Room) (va_Pc [.int x1, .int x2, .int x3] (fun _ => True)) (rd_Ql (fun r => r = oftF x1 x2 x3)) 0 0 (fun _ => False) := by
  refine Met.ofW (cc := cX7_often) (maxL := 3) (ret := (some .long)) (by decide) rfl ?_
  intro p e s m args below meth c s₁ B hml hv
  obtain ⟨rfl, hI⟩ := hv
  have hx := B.exec
  have hb := B.bytes
  have hr := B.returns
  have hT : ∀ w ∈ wsL_law, w.before ([.int x1, .int x2, .int x3] : List Value).toArray s = true := fun w h => atoms_spec (ws := (Cond.code yX7_often cX7_often 3 (some .long) :: wsL_law)) B.pre w (List.mem_cons_of_mem _ h)
  have hown : s.vm.findClass RX7 = some m.cls := findClass_of_methodNamed B.named
  have hlocks := B.notSynchronized
  have hl := lv_entry ([.int x1, .int x2, .int x3]) (n := 3) (Nat.le_of_ble_eq_true rfl)
  rw [lg_entry_eq]
  generalize (lg_sl ([.int x1, .int x2, .int x3]) ++ List.replicate (3 - (lg_sl ([.int x1, .int x2, .int x3])).length) Slot.unset).toArray = ls at hl ⊢
  have hl : lv_has ls 3 [(0, .int x1), (1, .int x2), (2, .int x3)] := hl
  refine lv_iload_n hx hb dX7_often_0 rfl (lv_at hl 0 rfl) ?_
  by_cases w_1_1 : x1 = 1
  · skip
    refine lv_tableIn (tgt := 32) (off := 31) hx hb dX7_often_1 (by rw [w_1_1]; decide) (by rw [w_1_1]; decide) (by rw [w_1_1]; decide) (by decide) ?_
    refine lv_lconst (v := 0) hx hb dX7_often_32 (by decide) ?_
    exact W.lret (v := 0) hx hb hr (fun t ht hW => ⟨0, rfl, (by (try dsimp only); unfold oftF; rw [if_pos w_1_1]), ht⟩) (fun q hq => by cases hq) dX7_often_33
  by_cases w_1_2 : x1 = 2
  · skip
    refine lv_tableIn (tgt := 34) (off := 33) hx hb dX7_often_1 (by rw [w_1_2]; decide) (by rw [w_1_2]; decide) (by rw [w_1_2]; decide) (by decide) ?_
    refine lv_ldc2 (v := 2) hx hb hown (hT _ (tr_19 _ (List.mem_of_getElem? (i := 15) rfl))) dX7_often_34 ?_
    refine lv_iload_n hx hb dX7_often_37 rfl (lv_at hl 2 rfl) ?_
    refine lv_i2l hx hb dX7_often_38 rfl ?_
    refine lv_topl (fun v_38 e_38 => ?_)
    refine lv_lmul hx hb dX7_often_39 ?_
    refine lv_topl (fun v_39 e_39 => ?_)
    exact W.lret (v := v_39) hx hb hr (fun t ht hW => ⟨v_39, rfl, (by (try dsimp only); unfold oftF; rw [if_neg w_1_1, if_pos w_1_2, e_39, e_38]), ht⟩) (fun q hq => by cases hq) dX7_often_40
  by_cases w_1_3 : x1 = 3
  · skip
    refine lv_tableIn (tgt := 41) (off := 40) hx hb dX7_often_1 (by rw [w_1_3]; decide) (by rw [w_1_3]; decide) (by rw [w_1_3]; decide) (by decide) ?_
    refine lv_iload_n hx hb dX7_often_41 rfl (lv_at hl 2 rfl) ?_
    refine lv_i2l hx hb dX7_often_42 rfl ?_
    refine lv_topl (fun v_42 e_42 => ?_)
    refine lv_iload_n hx hb dX7_often_43 rfl (lv_at hl 1 rfl) ?_
    refine lv_i2l hx hb dX7_often_44 rfl ?_
    refine lv_topl (fun v_44 e_44 => ?_)
    refine lv_lsub hx hb dX7_often_45 ?_
    refine lv_topl (fun v_45 e_45 => ?_)
    exact W.lret (v := v_45) hx hb hr (fun t ht hW => ⟨v_45, rfl, (by (try dsimp only); unfold oftF; rw [if_neg w_1_1, if_neg w_1_2, if_pos (by first | exact Or.inl w_1_3 | exact Or.inr w_1_4), e_45, e_42, e_44]), ht⟩) (fun q hq => by cases hq) dX7_often_46
  by_cases w_1_4 : x1 = 4
  · skip
    refine lv_tableIn (tgt := 41) (off := 40) hx hb dX7_often_1 (by rw [w_1_4]; decide) (by rw [w_1_4]; decide) (by rw [w_1_4]; decide) (by decide) ?_
    refine lv_iload_n hx hb dX7_often_41 rfl (lv_at hl 2 rfl) ?_
    refine lv_i2l hx hb dX7_often_42 rfl ?_
    refine lv_topl (fun v_42 e_42 => ?_)
    refine lv_iload_n hx hb dX7_often_43 rfl (lv_at hl 1 rfl) ?_
    refine lv_i2l hx hb dX7_often_44 rfl ?_
    refine lv_topl (fun v_44 e_44 => ?_)
    refine lv_lsub hx hb dX7_often_45 ?_
    refine lv_topl (fun v_45 e_45 => ?_)
    exact W.lret (v := v_45) hx hb hr (fun t ht hW => ⟨v_45, rfl, (by (try dsimp only); unfold oftF; rw [if_neg w_1_1, if_neg w_1_2, if_pos (by first | exact Or.inl w_1_3 | exact Or.inr w_1_4), e_45, e_42, e_44]), ht⟩) (fun q hq => by cases hq) dX7_often_46
  have n_1_1 := ti_nek rfl tk_1 w_1_1
  have n_1_2 := ti_nek rfl tk_2 w_1_2
  have n_1_3 := ti_nek rfl tk_3 w_1_3
  have n_1_4 := ti_nek rfl tk_4 w_1_4
  refine lv_tableOut (tgt := 47) hx hb dX7_often_1 (by omega) (by decide) ?_
  refine lv_iload_n hx hb dX7_often_47 rfl (lv_at hl 2 rfl) ?_
  refine lv_i2l hx hb dX7_often_48 rfl ?_
  refine lv_topl (fun v_48 e_48 => ?_)
  exact W.lret (v := v_48) hx hb hr (fun t ht hW => ⟨v_48, rfl, (by (try dsimp only); unfold oftF; rw [if_neg w_1_1, if_neg w_1_2, if_neg (fun h => h.elim w_1_3 w_1_4), e_48]), ht⟩) (fun q hq => by cases hq) dX7_often_49
set_option maxHeartbeats 4000000 in
set_option maxRecDepth 100000 in
theorem c_X7_asBase (l : Launch) (x1 : Int32) (x2 : Int32) : Met l yX7_asBase (Cond.code yX7_asBase cX7_asBase 2 (some .long) :: wsL_law) ({ frames := 0, cells := 0, slots := 0, locals := 0 } : Room) (va_Pc [.int x1, .int x2] (fun _ => True)) (rd_Ql (fun r => r = abF x1 x2)) 0 0 (fun _ => False) := by
  refine Met.ofW (cc := cX7_asBase) (maxL := 2) (ret := (some .long)) (by decide) rfl ?_
  intro p e s m args below meth c s₁ B hml hv
  obtain ⟨rfl, hI⟩ := hv
  have hx := B.exec
  have hb := B.bytes
  have hr := B.returns
  have hT : ∀ w ∈ wsL_law, w.before ([.int x1, .int x2] : List Value).toArray s = true := fun w h => atoms_spec (ws := (Cond.code yX7_asBase cX7_asBase 2 (some .long) :: wsL_law)) B.pre w (List.mem_cons_of_mem _ h)
  have hown : s.vm.findClass RX7 = some m.cls := findClass_of_methodNamed B.named
  have hlocks := B.notSynchronized
  have hl := lv_entry ([.int x1, .int x2]) (n := 2) (Nat.le_of_ble_eq_true rfl)
  rw [lg_entry_eq]
  generalize (lg_sl ([.int x1, .int x2]) ++ List.replicate (2 - (lg_sl ([.int x1, .int x2])).length) Slot.unset).toArray = ls at hl ⊢
  have hl : lv_has ls 2 [(0, .int x1), (1, .int x2)] := hl
  refine lv_iload_n hx hb dX7_asBase_0 rfl (lv_at hl 0 rfl) ?_
  refine lv_iconst (v := 4) hx hb dX7_asBase_1 (by decide) ?_
  refine lv_icmp_ne (tgt := 12) hx hb dX7_asBase_2 (by decide) (fun c_2 => ?_) (fun c_2 => ?_)
  · skip
    have i_2 := ti_nek rfl tk_4 c_2
    refine lv_iload_n hx hb dX7_asBase_12 rfl (lv_at hl 1 rfl) ?_
    refine lv_i2l hx hb dX7_asBase_13 rfl ?_
    refine lv_topl (fun v_13 e_13 => ?_)
    exact W.lret (v := v_13) hx hb hr (fun t ht hW => ⟨v_13, rfl, (by (try dsimp only); unfold abF; rw [if_neg c_2, e_13]), ht⟩) (fun q hq => by cases hq) dX7_asBase_14
  · skip
    have i_2 := ti_eqk rfl tk_4 c_2
    refine lv_iload_n hx hb dX7_asBase_5 rfl (lv_at hl 1 rfl) ?_
    refine lv_iconst (v := 1) hx hb dX7_asBase_6 (by decide) ?_
    refine lv_ishr hx hb dX7_asBase_7 ?_
    refine lv_topi (fun v_7 e_7 => ?_)
    refine lv_i2l hx hb dX7_asBase_8 rfl ?_
    refine lv_topl (fun v_8 e_8 => ?_)
    refine lv_goto (tgt := 14) hx hb dX7_asBase_9 (by decide) ?_
    exact W.lret (v := v_8) hx hb hr (fun t ht hW => ⟨v_8, rfl, (by (try dsimp only); unfold abF; rw [if_pos c_2, e_8, e_7]), ht⟩) (fun q hq => by cases hq) dX7_asBase_14
set_option maxHeartbeats 4000000 in
set_option maxRecDepth 100000 in
theorem c_X7_priceBy (l : Launch) (x1 : Int32) (x2 : Int32) (x3 : Int32) (x4 : Int32) (x5 : Int32) : Met l yX7_priceBy (Cond.code yX7_priceBy cX7_priceBy 5 (some .long) :: wsL_law) ({ frames := 1, cells := 0, slots := 0, locals := 22 } : Room) (va_Pc [.int x1, .int x2, .int x3, .int x4, .int x5] (fun _ => True)) (rd_Ql (fun r => r = mpF x1 x2 x3 x4 x5)) 0 0 (fun _ => False) := by
  refine Met.ofW (cc := cX7_priceBy) (maxL := 5) (ret := (some .long)) (by decide) rfl ?_
  intro p e s m args below meth c s₁ B hml hv
  obtain ⟨rfl, hI⟩ := hv
  have hx := B.exec
  have hb := B.bytes
  have hr := B.returns
  have hT : ∀ w ∈ wsL_law, w.before ([.int x1, .int x2, .int x3, .int x4, .int x5] : List Value).toArray s = true := fun w h => atoms_spec (ws := (Cond.code yX7_priceBy cX7_priceBy 5 (some .long) :: wsL_law)) B.pre w (List.mem_cons_of_mem _ h)
  have hown : s.vm.findClass RX7 = some m.cls := findClass_of_methodNamed B.named
  have hlocks := B.notSynchronized
  have hl := lv_entry ([.int x1, .int x2, .int x3, .int x4, .int x5]) (n := 5) (Nat.le_of_ble_eq_true rfl)
  rw [lg_entry_eq]
  generalize (lg_sl ([.int x1, .int x2, .int x3, .int x4, .int x5]) ++ List.replicate (5 - (lg_sl ([.int x1, .int x2, .int x3, .int x4, .int x5])).length) Slot.unset).toArray = ls at hl ⊢
  have hl : lv_has ls 5 [(0, .int x1), (1, .int x2), (2, .int x3), (3, .int x4), (4, .int x5)] := hl
  refine lv_iload_n hx hb dX7_priceBy_0 rfl (lv_at hl 0 rfl) ?_
  refine lv_iload_n hx hb dX7_priceBy_1 rfl (lv_at hl 3 rfl) ?_
  refine lv_iload hx hb dX7_priceBy_2 (lv_at hl 4 rfl) ?_
  refine rd_cl (va_runS (As := [.int x1, .int x4, .int x5]) (rest := []) ⟨hx, hb, hml, hown, hT⟩ (c_X7_often l x1 x4 x5) (va_cwS 3 hT (tb_S (fun _ h => h) (tr_19 _ (List.mem_of_getElem? (i := 12) rfl)) (tr_19 _ (List.mem_of_getElem? (i := 13) rfl)) (tr_1 _ (List.mem_of_getElem? (i := 5) rfl)) (tr_19 _ (List.mem_of_getElem? (i := 14) rfl))) rfl rfl rfl (by decide +kernel) ⟨Nat.le_of_ble_eq_true rfl, Nat.le_of_ble_eq_true rfl⟩) ⟨fun _ _ _ _ q => q, fun U hU hW => ⟨rfl, trivial⟩⟩ rfl rfl hl.1 rfl (lv_room (Nat.le_of_ble_eq_true rfl)) dX7_priceBy_4 ⟨Nat.zero_le _, Nat.zero_le _⟩) (fun r_4 hr_4 => ?_)
  refine lv_iload_n hx hb dX7_priceBy_7 rfl (lv_at hl 1 rfl) ?_
  refine lv_i2l hx hb dX7_priceBy_8 rfl ?_
  refine lv_topl (fun v_8 e_8 => ?_)
  refine lv_lmul hx hb dX7_priceBy_9 ?_
  refine lv_topl (fun v_9 e_9 => ?_)
  refine lv_iload_n hx hb dX7_priceBy_10 rfl (lv_at hl 0 rfl) ?_
  refine lv_iload_n hx hb dX7_priceBy_11 rfl (lv_at hl 2 rfl) ?_
  refine rd_cl (va_runS (As := [.int x1, .int x3]) (rest := [.long v_9]) ⟨hx, hb, hml, hown, hT⟩ (c_X7_asBase l x1 x3) (va_cwS 2 hT (tb_S (fun _ h => h) (tr_19 _ (List.mem_of_getElem? (i := 16) rfl)) (tr_19 _ (List.mem_of_getElem? (i := 17) rfl)) (tr_1 _ (List.mem_of_getElem? (i := 5) rfl)) (tr_19 _ (List.mem_of_getElem? (i := 18) rfl))) rfl rfl rfl (by decide +kernel) ⟨Nat.le_of_ble_eq_true rfl, Nat.le_of_ble_eq_true rfl⟩) ⟨fun _ _ _ _ q => q, fun U hU hW => ⟨rfl, trivial⟩⟩ rfl rfl hl.1 rfl (lv_room (Nat.le_of_ble_eq_true rfl)) dX7_priceBy_12 ⟨Nat.zero_le _, Nat.zero_le _⟩) (fun r_12 hr_12 => ?_)
  refine lv_ladd hx hb dX7_priceBy_15 ?_
  refine lv_topl (fun v_15 e_15 => ?_)
  exact W.lret (v := v_15) hx hb hr (fun t ht hW => ⟨v_15, rfl, (by (try dsimp only); unfold mpF; rw [e_15, e_9, hr_4, hr_12, e_8]), ht⟩) (fun q hq => by cases hq) dX7_priceBy_16
set_option maxHeartbeats 4000000 in
set_option maxRecDepth 100000 in
theorem c_X7_priceOf (l : Launch) (Z : YT) (hZ : MG Z) (g : Nat → Nat → Int32) (gl : Nat → Nat → Int64) (x1 : Int32) (x2 : Int32) (ht : 0 ≤ x1.toInt ∧ x1.toInt < 70) (hJ : MJ g) : Met l yX7_priceOf (Cond.code yX7_priceOf cX7_priceOf 3 (some .long) :: wsL_law) ({ frames := 2, cells := 0, slots := 0, locals := 46 } : Room) (va_Pc [.ref (ya Z 0), .int x1, .int x2] (MI Z g gl)) (rd_Ql (fun r => r = mpr g x1.toNatClampNeg x2)) 0 0 (fun _ => False) := by
  refine Met.ofW (cc := cX7_priceOf) (maxL := 3) (ret := (some .long)) (by decide) rfl ?_
  intro p e s m args below meth c s₁ B hml hv
  obtain ⟨rfl, hI⟩ := hv
  have hx := B.exec
  have hb := B.bytes
  have hr := B.returns
  have hT : ∀ w ∈ wsL_law, w.before ([.ref (ya Z 0), .int x1, .int x2] : List Value).toArray s = true := fun w h => atoms_spec (ws := (Cond.code yX7_priceOf cX7_priceOf 3 (some .long) :: wsL_law)) B.pre w (List.mem_cons_of_mem _ h)
  have hown : s.vm.findClass RX7 = some m.cls := findClass_of_methodNamed B.named
  have hlocks := B.notSynchronized
  have hK := hI.2
  have hP := hI.1
  have hS : va_S (yA Z) s.heap s.heap [] := va_S.rf
  have hl := lv_entry ([.ref (ya Z 0), .int x1, .int x2]) (n := 3) (Nat.le_of_ble_eq_true rfl)
  rw [lg_entry_eq]
  generalize (lg_sl ([.ref (ya Z 0), .int x1, .int x2]) ++ List.replicate (3 - (lg_sl ([.ref (ya Z 0), .int x1, .int x2])).length) Slot.unset).toArray = ls at hl ⊢
  have hl : lv_has ls 3 [(0, .ref (ya Z 0)), (1, .int x1), (2, .int x2)] := hl
  refine lv_aload_n hx hb dX7_priceOf_0 rfl (lv_at hl 0 rfl) ?_
  refine va_get (D := yD Z) (ci := 7) (v := .ref (ya Z 1)) (C := RX7) (T := TX7) (N := 31) hx hb hT inlX7 hown hK hP 0 mw_0 rfl 2 (by decide) (hT _ (tr_4 _ (List.mem_of_getElem? (i := 13) rfl))) (fun _ h9 => h9) rfl dX7_priceOf_1 ?_
  refine lv_iload_n hx hb dX7_priceOf_4 rfl (lv_at hl 1 rfl) ?_
  have h_5 : vp_in x1 70 := (ti_vp (by omega) (by omega))
  refine va_iald hx hb hK hP 1 1 mw_1 rfl h_5 dX7_priceOf_5 ?_
  refine lv_topi (fun v_5 e_5 => ?_)
  refine lv_aload_n hx hb dX7_priceOf_6 rfl (lv_at hl 0 rfl) ?_
  refine va_get (D := yD Z) (ci := 7) (v := .ref (ya Z 2)) (C := RX7) (T := TX7) (N := 31) hx hb hT inlX7 hown hK hP 0 mw_0 rfl 3 (by decide) (hT _ (tr_4 _ (List.mem_of_getElem? (i := 14) rfl))) (fun _ h9 => h9) rfl dX7_priceOf_7 ?_
  refine lv_iload_n hx hb dX7_priceOf_10 rfl (lv_at hl 1 rfl) ?_
  have h_11 : vp_in x1 70 := (ti_vp (by omega) (by omega))
  refine va_iald hx hb hK hP 2 1 mw_2 rfl h_11 dX7_priceOf_11 ?_
  refine lv_topi (fun v_11 e_11 => ?_)
  refine lv_aload_n hx hb dX7_priceOf_12 rfl (lv_at hl 0 rfl) ?_
  refine va_get (D := yD Z) (ci := 7) (v := .ref (ya Z 3)) (C := RX7) (T := TX7) (N := 31) hx hb hT inlX7 hown hK hP 0 mw_0 rfl 4 (by decide) (hT _ (tr_4 _ (List.mem_of_getElem? (i := 15) rfl))) (fun _ h9 => h9) rfl dX7_priceOf_13 ?_
  refine lv_iload_n hx hb dX7_priceOf_16 rfl (lv_at hl 1 rfl) ?_
  have h_17 : vp_in x1 70 := (ti_vp (by omega) (by omega))
  refine va_iald hx hb hK hP 3 1 mw_3 rfl h_17 dX7_priceOf_17 ?_
  refine lv_topi (fun v_17 e_17 => ?_)
  refine lv_aload_n hx hb dX7_priceOf_18 rfl (lv_at hl 0 rfl) ?_
  refine va_get (D := yD Z) (ci := 7) (v := .ref (ya Z 4)) (C := RX7) (T := TX7) (N := 31) hx hb hT inlX7 hown hK hP 0 mw_0 rfl 5 (by decide) (hT _ (tr_4 _ (List.mem_of_getElem? (i := 16) rfl))) (fun _ h9 => h9) rfl dX7_priceOf_19 ?_
  refine lv_iload_n hx hb dX7_priceOf_22 rfl (lv_at hl 1 rfl) ?_
  have h_23 : vp_in x1 70 := (ti_vp (by omega) (by omega))
  refine va_iald hx hb hK hP 4 1 mw_4 rfl h_23 dX7_priceOf_23 ?_
  refine lv_topi (fun v_23 e_23 => ?_)
  refine lv_iload_n hx hb dX7_priceOf_24 rfl (lv_at hl 2 rfl) ?_
  refine rd_cl (va_runS (As := [.int v_5, .int v_11, .int v_17, .int v_23, .int x2]) (rest := []) ⟨hx, hb, hml, hown, hT⟩ (c_X7_priceBy l v_5 v_11 v_17 v_23 x2) (va_cwS 5 hT (tb_S (fun _ h => h) (tr_19 _ (List.mem_of_getElem? (i := 9) rfl)) (tr_19 _ (List.mem_of_getElem? (i := 10) rfl)) (tr_1 _ (List.mem_of_getElem? (i := 5) rfl)) (tr_19 _ (List.mem_of_getElem? (i := 11) rfl))) rfl rfl rfl (by decide +kernel) ⟨Nat.le_of_ble_eq_true rfl, Nat.le_of_ble_eq_true rfl⟩) ⟨fun _ _ _ _ q => q, fun U hU hW => ⟨rfl, trivial⟩⟩ rfl rfl hl.1 rfl (lv_room (Nat.le_of_ble_eq_true rfl)) dX7_priceOf_25 ⟨Nat.zero_le _, Nat.zero_le _⟩) (fun r_25 hr_25 => ?_)
  exact W.lret (v := r_25) hx hb hr (fun t ht hW => ⟨r_25, rfl, (by (try dsimp only); rw [hr_25, e_5, e_11, e_17, e_23]; rfl), ht⟩) (fun q hq => by cases hq) dX7_priceOf_28
set_option maxHeartbeats 4000000 in
set_option maxRecDepth 100000 in
theorem c_X7_isGreat (l : Launch) (x1 : Int64) : Met l yX7_isGreat (Cond.code yX7_isGreat cX7_isGreat 2 (some .boolean) :: wsL_law) ({ frames := 0, cells := 0, slots := 0, locals := 0 } : Room) (va_Pc [.long x1] (fun _ => True)) (rd_Qi (fun r => (r = 1 ∧ grL x1) ∨ (r = 0 ∧ ¬ grL x1))) 0 0 (fun _ => False) := by
  refine Met.ofW (cc := cX7_isGreat) (maxL := 2) (ret := (some .boolean)) (by decide) rfl ?_
  intro p e s m args below meth c s₁ B hml hv
  obtain ⟨rfl, hI⟩ := hv
  have hx := B.exec
  have hb := B.bytes
  have hr := B.returns
  have hT : ∀ w ∈ wsL_law, w.before ([.long x1] : List Value).toArray s = true := fun w h => atoms_spec (ws := (Cond.code yX7_isGreat cX7_isGreat 2 (some .boolean) :: wsL_law)) B.pre w (List.mem_cons_of_mem _ h)
  have hown : s.vm.findClass RX7 = some m.cls := findClass_of_methodNamed B.named
  have hlocks := B.notSynchronized
  have hl := lv_entry ([.long x1]) (n := 2) (Nat.le_of_ble_eq_true rfl)
  rw [lg_entry_eq]
  generalize (lg_sl ([.long x1]) ++ List.replicate (2 - (lg_sl ([.long x1])).length) Slot.unset).toArray = ls at hl ⊢
  have hl : lv_has ls 2 [(0, .long x1)] := hl
  refine lv_lload_n hx hb dX7_isGreat_0 rfl (lv_at hl 0 rfl) ?_
  refine lv_ldc2 (v := (-2147483648)) hx hb hown (hT _ (tr_27 _ (List.mem_of_getElem? (i := 20) rfl))) dX7_isGreat_1 ?_
  refine W.lcmp hx hb dX7_isGreat_4 ?_
  refine lv_topi (fun v_4 e_4 => ?_)
  refine lv_if_lt (tgt := 16) hx hb dX7_isGreat_5 (by decide) (fun c_5 => ?_) (fun c_5 => ?_)
  · skip
    have i_5 := ti_ltk rfl tk_0 c_5
    refine lv_iconst (v := 1) hx hb dX7_isGreat_16 (by decide) ?_
    refine lv_goto (tgt := 21) hx hb dX7_isGreat_17 (by decide) ?_
    exact W.zret (v := 1) (ty := .boolean) hx hb hr rfl (fun t ht hW => ⟨1, rfl, Or.inl ⟨rfl, (by (try dsimp only); first | (rw [e_12] at c_13; have q := Int64.not_le.mp (fun z => c_13 ((lg_cmp_le x1 2147483647).mpr z)); rw [Int64.lt_iff_toInt_lt, show (2147483647 : Int64).toInt = 2147483647 by decide] at q; exact Or.inr q) | (rw [e_4] at c_5; have q := (lg_cmp_lt x1 (-2147483648)).mp c_5; rw [Int64.lt_iff_toInt_lt, show (-2147483648 : Int64).toInt = -2147483648 by decide] at q; exact Or.inl q))⟩, ht⟩) (fun q hq => by cases hq) dX7_isGreat_21
  · skip
    have i_5 := ti_nltk rfl tk_0 c_5
    refine lv_lload_n hx hb dX7_isGreat_8 rfl (lv_at hl 0 rfl) ?_
    refine lv_ldc2 (v := 2147483647) hx hb hown (hT _ (tr_27 _ (List.mem_of_getElem? (i := 21) rfl))) dX7_isGreat_9 ?_
    refine W.lcmp hx hb dX7_isGreat_12 ?_
    refine lv_topi (fun v_12 e_12 => ?_)
    refine lv_if_le (tgt := 20) hx hb dX7_isGreat_13 (by decide) (fun c_13 => ?_) (fun c_13 => ?_)
    · skip
      have i_13 := ti_lek rfl tk_0 c_13
      refine lv_iconst (v := 0) hx hb dX7_isGreat_20 (by decide) ?_
      exact W.zret (v := 0) (ty := .boolean) hx hb hr rfl (fun t ht hW => ⟨0, rfl, Or.inr ⟨rfl, (fun h => by unfold grL at h; rw [e_4] at c_5; rw [e_12] at c_13; have q1 : ¬ x1 < -2147483648 := fun z => c_5 ((lg_cmp_lt x1 (-2147483648)).mpr z); have q2 := (lg_cmp_le x1 2147483647).mp c_13; rw [Int64.lt_iff_toInt_lt, show (-2147483648 : Int64).toInt = -2147483648 by decide] at q1; rw [Int64.le_iff_toInt_le, show (2147483647 : Int64).toInt = 2147483647 by decide] at q2; omega)⟩, ht⟩) (fun q hq => by cases hq) dX7_isGreat_21
    · skip
      have i_13 := ti_nlek rfl tk_0 c_13
      refine lv_iconst (v := 1) hx hb dX7_isGreat_16 (by decide) ?_
      refine lv_goto (tgt := 21) hx hb dX7_isGreat_17 (by decide) ?_
      exact W.zret (v := 1) (ty := .boolean) hx hb hr rfl (fun t ht hW => ⟨1, rfl, Or.inl ⟨rfl, (by (try dsimp only); first | (rw [e_12] at c_13; have q := Int64.not_le.mp (fun z => c_13 ((lg_cmp_le x1 2147483647).mpr z)); rw [Int64.lt_iff_toInt_lt, show (2147483647 : Int64).toInt = 2147483647 by decide] at q; exact Or.inr q) | (rw [e_4] at c_5; have q := (lg_cmp_lt x1 (-2147483648)).mp c_5; rw [Int64.lt_iff_toInt_lt, show (-2147483648 : Int64).toInt = -2147483648 by decide] at q; exact Or.inl q))⟩, ht⟩) (fun q hq => by cases hq) dX7_isGreat_21
set_option maxHeartbeats 4000000 in
set_option maxRecDepth 100000 in
theorem c_X7_isTooGreat (l : Launch) (x1 : Int32) (x2 : Int32) (x3 : Int32) (x4 : Int32) (x5 : Int32) : Met l yX7_isTooGreat (Cond.code yX7_isTooGreat cX7_isTooGreat 6 (some .boolean) :: wsL_law) ({ frames := 2, cells := 0, slots := 0, locals := 46 } : Room) (va_Pc [.int x1, .int x2, .int x3, .int x4, .int x5] (fun _ => True)) (rd_Qi (fun r => (r = 1 ∧ tgF x1 x2 x3 x4 x5) ∨ (r = 0 ∧ ¬ tgF x1 x2 x3 x4 x5))) 0 0 (fun _ => False) := by
  refine Met.ofW (cc := cX7_isTooGreat) (maxL := 6) (ret := (some .boolean)) (by decide) rfl ?_
  intro p e s m args below meth c s₁ B hml hv
  obtain ⟨rfl, hI⟩ := hv
  have hx := B.exec
  have hb := B.bytes
  have hr := B.returns
  have hT : ∀ w ∈ wsL_law, w.before ([.int x1, .int x2, .int x3, .int x4, .int x5] : List Value).toArray s = true := fun w h => atoms_spec (ws := (Cond.code yX7_isTooGreat cX7_isTooGreat 6 (some .boolean) :: wsL_law)) B.pre w (List.mem_cons_of_mem _ h)
  have hown : s.vm.findClass RX7 = some m.cls := findClass_of_methodNamed B.named
  have hlocks := B.notSynchronized
  have hl := lv_entry ([.int x1, .int x2, .int x3, .int x4, .int x5]) (n := 6) (Nat.le_of_ble_eq_true rfl)
  rw [lg_entry_eq]
  generalize (lg_sl ([.int x1, .int x2, .int x3, .int x4, .int x5]) ++ List.replicate (6 - (lg_sl ([.int x1, .int x2, .int x3, .int x4, .int x5])).length) Slot.unset).toArray = ls at hl ⊢
  have hl : lv_has ls 6 [(0, .int x1), (1, .int x2), (2, .int x3), (3, .int x4), (4, .int x5)] := hl
  refine lv_iload_n hx hb dX7_isTooGreat_0 rfl (lv_at hl 0 rfl) ?_
  refine lv_iconst (v := 2) hx hb dX7_isTooGreat_1 (by decide) ?_
  refine lv_icmp_ne (tgt := 21) hx hb dX7_isTooGreat_2 (by decide) (fun c_2 => ?_) (fun c_2 => ?_)
  · skip
    have i_2 := ti_nek rfl tk_2 c_2
    refine lv_iconst (v := 0) hx hb dX7_isTooGreat_21 (by decide) ?_
    refine lv_istore (lv' := [(5, .int 0), (0, .int x1), (1, .int x2), (2, .int x3), (3, .int x4), (4, .int x5)]) hx hb dX7_isTooGreat_22 hl (by decide) rfl (fun ls hl => ?_)
    refine lv_iload hx hb dX7_isTooGreat_24 (lv_at hl 0 rfl) ?_
    refine lv_if_ne (tgt := 60) hx hb dX7_isTooGreat_26 (by decide) (fun c_26 => absurd c_26 (by decide)) (fun c_26 => ?_)
    refine lv_iload_n hx hb dX7_isTooGreat_29 rfl (lv_at hl 1 rfl) ?_
    refine lv_iload_n hx hb dX7_isTooGreat_30 rfl (lv_at hl 4 rfl) ?_
    refine lv_iload_n hx hb dX7_isTooGreat_31 rfl (lv_at hl 4 rfl) ?_
    refine rd_cl (va_runS (As := [.int x1, .int x4, .int x4]) (rest := []) ⟨hx, hb, hml, hown, hT⟩ (c_X7_often l x1 x4 x4) (va_cwS 3 hT (tb_S (fun _ h => h) (tr_19 _ (List.mem_of_getElem? (i := 12) rfl)) (tr_19 _ (List.mem_of_getElem? (i := 13) rfl)) (tr_1 _ (List.mem_of_getElem? (i := 5) rfl)) (tr_19 _ (List.mem_of_getElem? (i := 14) rfl))) rfl rfl rfl (by decide +kernel) ⟨Nat.le_of_ble_eq_true rfl, Nat.le_of_ble_eq_true rfl⟩) ⟨fun _ _ _ _ q => q, fun U hU hW => ⟨rfl, trivial⟩⟩ rfl rfl hl.1 rfl (lv_room (Nat.le_of_ble_eq_true rfl)) dX7_isTooGreat_32 ⟨Nat.zero_le _, Nat.zero_le _⟩) (fun r_32 hr_32 => ?_)
    refine lv_iload_n hx hb dX7_isTooGreat_35 rfl (lv_at hl 2 rfl) ?_
    refine lv_i2l hx hb dX7_isTooGreat_36 rfl ?_
    refine lv_topl (fun v_36 e_36 => ?_)
    refine lv_lmul hx hb dX7_isTooGreat_37 ?_
    refine lv_topl (fun v_37 e_37 => ?_)
    refine rd_ci (va_runS (As := [.long v_37]) (rest := []) ⟨hx, hb, hml, hown, hT⟩ (c_X7_isGreat l v_37) (va_cwS 1 hT (tb_S (fun _ h => h) (tr_27 _ (List.mem_of_getElem? (i := 17) rfl)) (tr_27 _ (List.mem_of_getElem? (i := 18) rfl)) (tr_1 _ (List.mem_of_getElem? (i := 5) rfl)) (tr_27 _ (List.mem_of_getElem? (i := 19) rfl))) rfl rfl rfl (by decide +kernel) ⟨Nat.le_of_ble_eq_true rfl, Nat.le_of_ble_eq_true rfl⟩) ⟨fun _ _ _ _ q => q, fun U hU hW => ⟨rfl, trivial⟩⟩ rfl rfl hl.1 rfl (lv_room (Nat.le_of_ble_eq_true rfl)) dX7_isTooGreat_38 ⟨Nat.zero_le _, Nat.zero_le _⟩) (fun r_38 hr_38 => ?_)
    rcases hr_38 with ⟨rfl, b_38⟩ | ⟨rfl, b_38⟩
    · skip
      refine lv_if_ne (tgt := 60) hx hb dX7_isTooGreat_41 (by decide) (fun c_41 => ?_) (fun c_41 => absurd c_41 (by decide))
      refine lv_iconst (v := 1) hx hb dX7_isTooGreat_60 (by decide) ?_
      refine lv_goto (tgt := 65) hx hb dX7_isTooGreat_61 (by decide) ?_
      refine lv_istore (lv' := [(5, .int 1), (0, .int x1), (1, .int x2), (2, .int x3), (3, .int x4), (4, .int x5)]) hx hb dX7_isTooGreat_65 hl (by decide) rfl (fun ls hl => ?_)
      refine lv_iload hx hb dX7_isTooGreat_67 (lv_at hl 0 rfl) ?_
      refine lv_if_ne (tgt := 101) hx hb dX7_isTooGreat_69 (by decide) (fun c_69 => ?_) (fun c_69 => absurd c_69 (by decide))
      refine lv_iconst (v := 1) hx hb dX7_isTooGreat_101 (by decide) ?_
      refine lv_goto (tgt := 106) hx hb dX7_isTooGreat_102 (by decide) ?_
      exact W.zret (v := 1) (ty := .boolean) hx hb hr rfl (fun t ht hW => ⟨1, rfl, Or.inl ⟨rfl, (by (try dsimp only); rw [e_37, hr_32, e_36] at b_38; exact Or.inr (Or.inl b_38))⟩, ht⟩) (fun q hq => by cases hq) dX7_isTooGreat_106
    · skip
      refine lv_if_ne (tgt := 60) hx hb dX7_isTooGreat_41 (by decide) (fun c_41 => absurd c_41 (by decide)) (fun c_41 => ?_)
      refine lv_iload_n hx hb dX7_isTooGreat_44 rfl (lv_at hl 1 rfl) ?_
      refine lv_iload_n hx hb dX7_isTooGreat_45 rfl (lv_at hl 4 rfl) ?_
      refine lv_iload hx hb dX7_isTooGreat_46 (lv_at hl 5 rfl) ?_
      refine rd_cl (va_runS (As := [.int x1, .int x4, .int x5]) (rest := []) ⟨hx, hb, hml, hown, hT⟩ (c_X7_often l x1 x4 x5) (va_cwS 3 hT (tb_S (fun _ h => h) (tr_19 _ (List.mem_of_getElem? (i := 12) rfl)) (tr_19 _ (List.mem_of_getElem? (i := 13) rfl)) (tr_1 _ (List.mem_of_getElem? (i := 5) rfl)) (tr_19 _ (List.mem_of_getElem? (i := 14) rfl))) rfl rfl rfl (by decide +kernel) ⟨Nat.le_of_ble_eq_true rfl, Nat.le_of_ble_eq_true rfl⟩) ⟨fun _ _ _ _ q => q, fun U hU hW => ⟨rfl, trivial⟩⟩ rfl rfl hl.1 rfl (lv_room (Nat.le_of_ble_eq_true rfl)) dX7_isTooGreat_48 ⟨Nat.zero_le _, Nat.zero_le _⟩) (fun r_48 hr_48 => ?_)
      refine lv_iload_n hx hb dX7_isTooGreat_51 rfl (lv_at hl 2 rfl) ?_
      refine lv_i2l hx hb dX7_isTooGreat_52 rfl ?_
      refine lv_topl (fun v_52 e_52 => ?_)
      refine lv_lmul hx hb dX7_isTooGreat_53 ?_
      refine lv_topl (fun v_53 e_53 => ?_)
      refine rd_ci (va_runS (As := [.long v_53]) (rest := []) ⟨hx, hb, hml, hown, hT⟩ (c_X7_isGreat l v_53) (va_cwS 1 hT (tb_S (fun _ h => h) (tr_27 _ (List.mem_of_getElem? (i := 17) rfl)) (tr_27 _ (List.mem_of_getElem? (i := 18) rfl)) (tr_1 _ (List.mem_of_getElem? (i := 5) rfl)) (tr_27 _ (List.mem_of_getElem? (i := 19) rfl))) rfl rfl rfl (by decide +kernel) ⟨Nat.le_of_ble_eq_true rfl, Nat.le_of_ble_eq_true rfl⟩) ⟨fun _ _ _ _ q => q, fun U hU hW => ⟨rfl, trivial⟩⟩ rfl rfl hl.1 rfl (lv_room (Nat.le_of_ble_eq_true rfl)) dX7_isTooGreat_54 ⟨Nat.zero_le _, Nat.zero_le _⟩) (fun r_54 hr_54 => ?_)
      rcases hr_54 with ⟨rfl, b_54⟩ | ⟨rfl, b_54⟩
      · skip
        refine lv_if_eq (tgt := 64) hx hb dX7_isTooGreat_57 (by decide) (fun c_57 => absurd c_57 (by decide)) (fun c_57 => ?_)
        refine lv_iconst (v := 1) hx hb dX7_isTooGreat_60 (by decide) ?_
        refine lv_goto (tgt := 65) hx hb dX7_isTooGreat_61 (by decide) ?_
        refine lv_istore (lv' := [(5, .int 1), (0, .int x1), (1, .int x2), (2, .int x3), (3, .int x4), (4, .int x5)]) hx hb dX7_isTooGreat_65 hl (by decide) rfl (fun ls hl => ?_)
        refine lv_iload hx hb dX7_isTooGreat_67 (lv_at hl 0 rfl) ?_
        refine lv_if_ne (tgt := 101) hx hb dX7_isTooGreat_69 (by decide) (fun c_69 => ?_) (fun c_69 => absurd c_69 (by decide))
        refine lv_iconst (v := 1) hx hb dX7_isTooGreat_101 (by decide) ?_
        refine lv_goto (tgt := 106) hx hb dX7_isTooGreat_102 (by decide) ?_
        exact W.zret (v := 1) (ty := .boolean) hx hb hr rfl (fun t ht hW => ⟨1, rfl, Or.inl ⟨rfl, (by (try dsimp only); rw [e_53, hr_48, e_52] at b_54; exact Or.inr (Or.inr (Or.inl b_54)))⟩, ht⟩) (fun q hq => by cases hq) dX7_isTooGreat_106
      · skip
        refine lv_if_eq (tgt := 64) hx hb dX7_isTooGreat_57 (by decide) (fun c_57 => ?_) (fun c_57 => absurd c_57 (by decide))
        refine lv_iconst (v := 0) hx hb dX7_isTooGreat_64 (by decide) ?_
        refine lv_istore (lv' := [(5, .int 0), (0, .int x1), (1, .int x2), (2, .int x3), (3, .int x4), (4, .int x5)]) hx hb dX7_isTooGreat_65 hl (by decide) rfl (fun ls hl => ?_)
        refine lv_iload hx hb dX7_isTooGreat_67 (lv_at hl 0 rfl) ?_
        refine lv_if_ne (tgt := 101) hx hb dX7_isTooGreat_69 (by decide) (fun c_69 => absurd c_69 (by decide)) (fun c_69 => ?_)
        refine lv_iload_n hx hb dX7_isTooGreat_72 rfl (lv_at hl 1 rfl) ?_
        refine lv_iload_n hx hb dX7_isTooGreat_73 rfl (lv_at hl 2 rfl) ?_
        refine lv_iload_n hx hb dX7_isTooGreat_74 rfl (lv_at hl 3 rfl) ?_
        refine lv_iload_n hx hb dX7_isTooGreat_75 rfl (lv_at hl 4 rfl) ?_
        refine lv_iload_n hx hb dX7_isTooGreat_76 rfl (lv_at hl 4 rfl) ?_
        refine rd_cl (va_runS (As := [.int x1, .int x2, .int x3, .int x4, .int x4]) (rest := []) ⟨hx, hb, hml, hown, hT⟩ (c_X7_priceBy l x1 x2 x3 x4 x4) (va_cwS 5 hT (tb_S (fun _ h => h) (tr_19 _ (List.mem_of_getElem? (i := 9) rfl)) (tr_19 _ (List.mem_of_getElem? (i := 10) rfl)) (tr_1 _ (List.mem_of_getElem? (i := 5) rfl)) (tr_19 _ (List.mem_of_getElem? (i := 11) rfl))) rfl rfl rfl (by decide +kernel) ⟨Nat.le_of_ble_eq_true rfl, Nat.le_of_ble_eq_true rfl⟩) ⟨fun _ _ _ _ q => q, fun U hU hW => ⟨rfl, trivial⟩⟩ rfl rfl hl.1 rfl (lv_room (Nat.le_of_ble_eq_true rfl)) dX7_isTooGreat_77 ⟨Nat.zero_le _, Nat.zero_le _⟩) (fun r_77 hr_77 => ?_)
        refine rd_ci (va_runS (As := [.long r_77]) (rest := []) ⟨hx, hb, hml, hown, hT⟩ (c_X7_isGreat l r_77) (va_cwS 1 hT (tb_S (fun _ h => h) (tr_27 _ (List.mem_of_getElem? (i := 17) rfl)) (tr_27 _ (List.mem_of_getElem? (i := 18) rfl)) (tr_1 _ (List.mem_of_getElem? (i := 5) rfl)) (tr_27 _ (List.mem_of_getElem? (i := 19) rfl))) rfl rfl rfl (by decide +kernel) ⟨Nat.le_of_ble_eq_true rfl, Nat.le_of_ble_eq_true rfl⟩) ⟨fun _ _ _ _ q => q, fun U hU hW => ⟨rfl, trivial⟩⟩ rfl rfl hl.1 rfl (lv_room (Nat.le_of_ble_eq_true rfl)) dX7_isTooGreat_80 ⟨Nat.zero_le _, Nat.zero_le _⟩) (fun r_80 hr_80 => ?_)
        rcases hr_80 with ⟨rfl, b_80⟩ | ⟨rfl, b_80⟩
        · skip
          refine lv_if_ne (tgt := 101) hx hb dX7_isTooGreat_83 (by decide) (fun c_83 => ?_) (fun c_83 => absurd c_83 (by decide))
          refine lv_iconst (v := 1) hx hb dX7_isTooGreat_101 (by decide) ?_
          refine lv_goto (tgt := 106) hx hb dX7_isTooGreat_102 (by decide) ?_
          exact W.zret (v := 1) (ty := .boolean) hx hb hr rfl (fun t ht hW => ⟨1, rfl, Or.inl ⟨rfl, (by (try dsimp only); rw [hr_77] at b_80; exact Or.inr (Or.inr (Or.inr (Or.inl b_80))))⟩, ht⟩) (fun q hq => by cases hq) dX7_isTooGreat_106
        · skip
          refine lv_if_ne (tgt := 101) hx hb dX7_isTooGreat_83 (by decide) (fun c_83 => absurd c_83 (by decide)) (fun c_83 => ?_)
          refine lv_iload_n hx hb dX7_isTooGreat_86 rfl (lv_at hl 1 rfl) ?_
          refine lv_iload_n hx hb dX7_isTooGreat_87 rfl (lv_at hl 2 rfl) ?_
          refine lv_iload_n hx hb dX7_isTooGreat_88 rfl (lv_at hl 3 rfl) ?_
          refine lv_iload_n hx hb dX7_isTooGreat_89 rfl (lv_at hl 4 rfl) ?_
          refine lv_iload hx hb dX7_isTooGreat_90 (lv_at hl 5 rfl) ?_
          refine rd_cl (va_runS (As := [.int x1, .int x2, .int x3, .int x4, .int x5]) (rest := []) ⟨hx, hb, hml, hown, hT⟩ (c_X7_priceBy l x1 x2 x3 x4 x5) (va_cwS 5 hT (tb_S (fun _ h => h) (tr_19 _ (List.mem_of_getElem? (i := 9) rfl)) (tr_19 _ (List.mem_of_getElem? (i := 10) rfl)) (tr_1 _ (List.mem_of_getElem? (i := 5) rfl)) (tr_19 _ (List.mem_of_getElem? (i := 11) rfl))) rfl rfl rfl (by decide +kernel) ⟨Nat.le_of_ble_eq_true rfl, Nat.le_of_ble_eq_true rfl⟩) ⟨fun _ _ _ _ q => q, fun U hU hW => ⟨rfl, trivial⟩⟩ rfl rfl hl.1 rfl (lv_room (Nat.le_of_ble_eq_true rfl)) dX7_isTooGreat_92 ⟨Nat.zero_le _, Nat.zero_le _⟩) (fun r_92 hr_92 => ?_)
          refine rd_ci (va_runS (As := [.long r_92]) (rest := []) ⟨hx, hb, hml, hown, hT⟩ (c_X7_isGreat l r_92) (va_cwS 1 hT (tb_S (fun _ h => h) (tr_27 _ (List.mem_of_getElem? (i := 17) rfl)) (tr_27 _ (List.mem_of_getElem? (i := 18) rfl)) (tr_1 _ (List.mem_of_getElem? (i := 5) rfl)) (tr_27 _ (List.mem_of_getElem? (i := 19) rfl))) rfl rfl rfl (by decide +kernel) ⟨Nat.le_of_ble_eq_true rfl, Nat.le_of_ble_eq_true rfl⟩) ⟨fun _ _ _ _ q => q, fun U hU hW => ⟨rfl, trivial⟩⟩ rfl rfl hl.1 rfl (lv_room (Nat.le_of_ble_eq_true rfl)) dX7_isTooGreat_95 ⟨Nat.zero_le _, Nat.zero_le _⟩) (fun r_95 hr_95 => ?_)
          rcases hr_95 with ⟨rfl, b_95⟩ | ⟨rfl, b_95⟩
          · skip
            refine lv_if_eq (tgt := 105) hx hb dX7_isTooGreat_98 (by decide) (fun c_98 => absurd c_98 (by decide)) (fun c_98 => ?_)
            refine lv_iconst (v := 1) hx hb dX7_isTooGreat_101 (by decide) ?_
            refine lv_goto (tgt := 106) hx hb dX7_isTooGreat_102 (by decide) ?_
            exact W.zret (v := 1) (ty := .boolean) hx hb hr rfl (fun t ht hW => ⟨1, rfl, Or.inl ⟨rfl, (by (try dsimp only); rw [hr_92] at b_95; exact Or.inr (Or.inr (Or.inr (Or.inr b_95))))⟩, ht⟩) (fun q hq => by cases hq) dX7_isTooGreat_106
          · skip
            refine lv_if_eq (tgt := 105) hx hb dX7_isTooGreat_98 (by decide) (fun c_98 => ?_) (fun c_98 => absurd c_98 (by decide))
            refine lv_iconst (v := 0) hx hb dX7_isTooGreat_105 (by decide) ?_
            exact W.zret (v := 0) (ty := .boolean) hx hb hr rfl (fun t ht hW => ⟨0, rfl, Or.inr ⟨rfl, (fun h => by rw [e_37, hr_32, e_36] at b_38; rw [e_53, hr_48, e_52] at b_54; rw [hr_77] at b_80; rw [hr_92] at b_95; rcases h with h | h | h | h | h; exact c_2 h.1; exact b_38 h; exact b_54 h; exact b_80 h; exact b_95 h)⟩, ht⟩) (fun q hq => by cases hq) dX7_isTooGreat_106
  · skip
    have i_2 := ti_eqk rfl tk_2 c_2
    refine lv_ldc2 (v := 2) hx hb hown (hT _ (tr_19 _ (List.mem_of_getElem? (i := 15) rfl))) dX7_isTooGreat_5 ?_
    refine lv_iload_n hx hb dX7_isTooGreat_8 rfl (lv_at hl 1 rfl) ?_
    refine lv_i2l hx hb dX7_isTooGreat_9 rfl ?_
    refine lv_topl (fun v_9 e_9 => ?_)
    refine lv_lmul hx hb dX7_isTooGreat_10 ?_
    refine lv_topl (fun v_10 e_10 => ?_)
    refine rd_ci (va_runS (As := [.long v_10]) (rest := []) ⟨hx, hb, hml, hown, hT⟩ (c_X7_isGreat l v_10) (va_cwS 1 hT (tb_S (fun _ h => h) (tr_27 _ (List.mem_of_getElem? (i := 17) rfl)) (tr_27 _ (List.mem_of_getElem? (i := 18) rfl)) (tr_1 _ (List.mem_of_getElem? (i := 5) rfl)) (tr_27 _ (List.mem_of_getElem? (i := 19) rfl))) rfl rfl rfl (by decide +kernel) ⟨Nat.le_of_ble_eq_true rfl, Nat.le_of_ble_eq_true rfl⟩) ⟨fun _ _ _ _ q => q, fun U hU hW => ⟨rfl, trivial⟩⟩ rfl rfl hl.1 rfl (lv_room (Nat.le_of_ble_eq_true rfl)) dX7_isTooGreat_11 ⟨Nat.zero_le _, Nat.zero_le _⟩) (fun r_11 hr_11 => ?_)
    rcases hr_11 with ⟨rfl, b_11⟩ | ⟨rfl, b_11⟩
    · skip
      refine lv_if_eq (tgt := 21) hx hb dX7_isTooGreat_14 (by decide) (fun c_14 => absurd c_14 (by decide)) (fun c_14 => ?_)
      refine lv_iconst (v := 1) hx hb dX7_isTooGreat_17 (by decide) ?_
      refine lv_goto (tgt := 22) hx hb dX7_isTooGreat_18 (by decide) ?_
      refine lv_istore (lv' := [(5, .int 1), (0, .int x1), (1, .int x2), (2, .int x3), (3, .int x4), (4, .int x5)]) hx hb dX7_isTooGreat_22 hl (by decide) rfl (fun ls hl => ?_)
      refine lv_iload hx hb dX7_isTooGreat_24 (lv_at hl 0 rfl) ?_
      refine lv_if_ne (tgt := 60) hx hb dX7_isTooGreat_26 (by decide) (fun c_26 => ?_) (fun c_26 => absurd c_26 (by decide))
      refine lv_iconst (v := 1) hx hb dX7_isTooGreat_60 (by decide) ?_
      refine lv_goto (tgt := 65) hx hb dX7_isTooGreat_61 (by decide) ?_
      refine lv_istore (lv' := [(5, .int 1), (0, .int x1), (1, .int x2), (2, .int x3), (3, .int x4), (4, .int x5)]) hx hb dX7_isTooGreat_65 hl (by decide) rfl (fun ls hl => ?_)
      refine lv_iload hx hb dX7_isTooGreat_67 (lv_at hl 0 rfl) ?_
      refine lv_if_ne (tgt := 101) hx hb dX7_isTooGreat_69 (by decide) (fun c_69 => ?_) (fun c_69 => absurd c_69 (by decide))
      refine lv_iconst (v := 1) hx hb dX7_isTooGreat_101 (by decide) ?_
      refine lv_goto (tgt := 106) hx hb dX7_isTooGreat_102 (by decide) ?_
      exact W.zret (v := 1) (ty := .boolean) hx hb hr rfl (fun t ht hW => ⟨1, rfl, Or.inl ⟨rfl, (Or.inl ⟨c_2, by rw [e_10, e_9] at b_11; exact b_11⟩)⟩, ht⟩) (fun q hq => by cases hq) dX7_isTooGreat_106
    · skip
      refine lv_if_eq (tgt := 21) hx hb dX7_isTooGreat_14 (by decide) (fun c_14 => ?_) (fun c_14 => absurd c_14 (by decide))
      refine lv_iconst (v := 0) hx hb dX7_isTooGreat_21 (by decide) ?_
      refine lv_istore (lv' := [(5, .int 0), (0, .int x1), (1, .int x2), (2, .int x3), (3, .int x4), (4, .int x5)]) hx hb dX7_isTooGreat_22 hl (by decide) rfl (fun ls hl => ?_)
      refine lv_iload hx hb dX7_isTooGreat_24 (lv_at hl 0 rfl) ?_
      refine lv_if_ne (tgt := 60) hx hb dX7_isTooGreat_26 (by decide) (fun c_26 => absurd c_26 (by decide)) (fun c_26 => ?_)
      refine lv_iload_n hx hb dX7_isTooGreat_29 rfl (lv_at hl 1 rfl) ?_
      refine lv_iload_n hx hb dX7_isTooGreat_30 rfl (lv_at hl 4 rfl) ?_
      refine lv_iload_n hx hb dX7_isTooGreat_31 rfl (lv_at hl 4 rfl) ?_
      refine rd_cl (va_runS (As := [.int x1, .int x4, .int x4]) (rest := []) ⟨hx, hb, hml, hown, hT⟩ (c_X7_often l x1 x4 x4) (va_cwS 3 hT (tb_S (fun _ h => h) (tr_19 _ (List.mem_of_getElem? (i := 12) rfl)) (tr_19 _ (List.mem_of_getElem? (i := 13) rfl)) (tr_1 _ (List.mem_of_getElem? (i := 5) rfl)) (tr_19 _ (List.mem_of_getElem? (i := 14) rfl))) rfl rfl rfl (by decide +kernel) ⟨Nat.le_of_ble_eq_true rfl, Nat.le_of_ble_eq_true rfl⟩) ⟨fun _ _ _ _ q => q, fun U hU hW => ⟨rfl, trivial⟩⟩ rfl rfl hl.1 rfl (lv_room (Nat.le_of_ble_eq_true rfl)) dX7_isTooGreat_32 ⟨Nat.zero_le _, Nat.zero_le _⟩) (fun r_32 hr_32 => ?_)
      refine lv_iload_n hx hb dX7_isTooGreat_35 rfl (lv_at hl 2 rfl) ?_
      refine lv_i2l hx hb dX7_isTooGreat_36 rfl ?_
      refine lv_topl (fun v_36 e_36 => ?_)
      refine lv_lmul hx hb dX7_isTooGreat_37 ?_
      refine lv_topl (fun v_37 e_37 => ?_)
      refine rd_ci (va_runS (As := [.long v_37]) (rest := []) ⟨hx, hb, hml, hown, hT⟩ (c_X7_isGreat l v_37) (va_cwS 1 hT (tb_S (fun _ h => h) (tr_27 _ (List.mem_of_getElem? (i := 17) rfl)) (tr_27 _ (List.mem_of_getElem? (i := 18) rfl)) (tr_1 _ (List.mem_of_getElem? (i := 5) rfl)) (tr_27 _ (List.mem_of_getElem? (i := 19) rfl))) rfl rfl rfl (by decide +kernel) ⟨Nat.le_of_ble_eq_true rfl, Nat.le_of_ble_eq_true rfl⟩) ⟨fun _ _ _ _ q => q, fun U hU hW => ⟨rfl, trivial⟩⟩ rfl rfl hl.1 rfl (lv_room (Nat.le_of_ble_eq_true rfl)) dX7_isTooGreat_38 ⟨Nat.zero_le _, Nat.zero_le _⟩) (fun r_38 hr_38 => ?_)
      rcases hr_38 with ⟨rfl, b_38⟩ | ⟨rfl, b_38⟩
      · skip
        refine lv_if_ne (tgt := 60) hx hb dX7_isTooGreat_41 (by decide) (fun c_41 => ?_) (fun c_41 => absurd c_41 (by decide))
        refine lv_iconst (v := 1) hx hb dX7_isTooGreat_60 (by decide) ?_
        refine lv_goto (tgt := 65) hx hb dX7_isTooGreat_61 (by decide) ?_
        refine lv_istore (lv' := [(5, .int 1), (0, .int x1), (1, .int x2), (2, .int x3), (3, .int x4), (4, .int x5)]) hx hb dX7_isTooGreat_65 hl (by decide) rfl (fun ls hl => ?_)
        refine lv_iload hx hb dX7_isTooGreat_67 (lv_at hl 0 rfl) ?_
        refine lv_if_ne (tgt := 101) hx hb dX7_isTooGreat_69 (by decide) (fun c_69 => ?_) (fun c_69 => absurd c_69 (by decide))
        refine lv_iconst (v := 1) hx hb dX7_isTooGreat_101 (by decide) ?_
        refine lv_goto (tgt := 106) hx hb dX7_isTooGreat_102 (by decide) ?_
        exact W.zret (v := 1) (ty := .boolean) hx hb hr rfl (fun t ht hW => ⟨1, rfl, Or.inl ⟨rfl, (by (try dsimp only); rw [e_37, hr_32, e_36] at b_38; exact Or.inr (Or.inl b_38))⟩, ht⟩) (fun q hq => by cases hq) dX7_isTooGreat_106
      · skip
        refine lv_if_ne (tgt := 60) hx hb dX7_isTooGreat_41 (by decide) (fun c_41 => absurd c_41 (by decide)) (fun c_41 => ?_)
        refine lv_iload_n hx hb dX7_isTooGreat_44 rfl (lv_at hl 1 rfl) ?_
        refine lv_iload_n hx hb dX7_isTooGreat_45 rfl (lv_at hl 4 rfl) ?_
        refine lv_iload hx hb dX7_isTooGreat_46 (lv_at hl 5 rfl) ?_
        refine rd_cl (va_runS (As := [.int x1, .int x4, .int x5]) (rest := []) ⟨hx, hb, hml, hown, hT⟩ (c_X7_often l x1 x4 x5) (va_cwS 3 hT (tb_S (fun _ h => h) (tr_19 _ (List.mem_of_getElem? (i := 12) rfl)) (tr_19 _ (List.mem_of_getElem? (i := 13) rfl)) (tr_1 _ (List.mem_of_getElem? (i := 5) rfl)) (tr_19 _ (List.mem_of_getElem? (i := 14) rfl))) rfl rfl rfl (by decide +kernel) ⟨Nat.le_of_ble_eq_true rfl, Nat.le_of_ble_eq_true rfl⟩) ⟨fun _ _ _ _ q => q, fun U hU hW => ⟨rfl, trivial⟩⟩ rfl rfl hl.1 rfl (lv_room (Nat.le_of_ble_eq_true rfl)) dX7_isTooGreat_48 ⟨Nat.zero_le _, Nat.zero_le _⟩) (fun r_48 hr_48 => ?_)
        refine lv_iload_n hx hb dX7_isTooGreat_51 rfl (lv_at hl 2 rfl) ?_
        refine lv_i2l hx hb dX7_isTooGreat_52 rfl ?_
        refine lv_topl (fun v_52 e_52 => ?_)
        refine lv_lmul hx hb dX7_isTooGreat_53 ?_
        refine lv_topl (fun v_53 e_53 => ?_)
        refine rd_ci (va_runS (As := [.long v_53]) (rest := []) ⟨hx, hb, hml, hown, hT⟩ (c_X7_isGreat l v_53) (va_cwS 1 hT (tb_S (fun _ h => h) (tr_27 _ (List.mem_of_getElem? (i := 17) rfl)) (tr_27 _ (List.mem_of_getElem? (i := 18) rfl)) (tr_1 _ (List.mem_of_getElem? (i := 5) rfl)) (tr_27 _ (List.mem_of_getElem? (i := 19) rfl))) rfl rfl rfl (by decide +kernel) ⟨Nat.le_of_ble_eq_true rfl, Nat.le_of_ble_eq_true rfl⟩) ⟨fun _ _ _ _ q => q, fun U hU hW => ⟨rfl, trivial⟩⟩ rfl rfl hl.1 rfl (lv_room (Nat.le_of_ble_eq_true rfl)) dX7_isTooGreat_54 ⟨Nat.zero_le _, Nat.zero_le _⟩) (fun r_54 hr_54 => ?_)
        rcases hr_54 with ⟨rfl, b_54⟩ | ⟨rfl, b_54⟩
        · skip
          refine lv_if_eq (tgt := 64) hx hb dX7_isTooGreat_57 (by decide) (fun c_57 => absurd c_57 (by decide)) (fun c_57 => ?_)
          refine lv_iconst (v := 1) hx hb dX7_isTooGreat_60 (by decide) ?_
          refine lv_goto (tgt := 65) hx hb dX7_isTooGreat_61 (by decide) ?_
          refine lv_istore (lv' := [(5, .int 1), (0, .int x1), (1, .int x2), (2, .int x3), (3, .int x4), (4, .int x5)]) hx hb dX7_isTooGreat_65 hl (by decide) rfl (fun ls hl => ?_)
          refine lv_iload hx hb dX7_isTooGreat_67 (lv_at hl 0 rfl) ?_
          refine lv_if_ne (tgt := 101) hx hb dX7_isTooGreat_69 (by decide) (fun c_69 => ?_) (fun c_69 => absurd c_69 (by decide))
          refine lv_iconst (v := 1) hx hb dX7_isTooGreat_101 (by decide) ?_
          refine lv_goto (tgt := 106) hx hb dX7_isTooGreat_102 (by decide) ?_
          exact W.zret (v := 1) (ty := .boolean) hx hb hr rfl (fun t ht hW => ⟨1, rfl, Or.inl ⟨rfl, (by (try dsimp only); rw [e_53, hr_48, e_52] at b_54; exact Or.inr (Or.inr (Or.inl b_54)))⟩, ht⟩) (fun q hq => by cases hq) dX7_isTooGreat_106
        · skip
          refine lv_if_eq (tgt := 64) hx hb dX7_isTooGreat_57 (by decide) (fun c_57 => ?_) (fun c_57 => absurd c_57 (by decide))
          refine lv_iconst (v := 0) hx hb dX7_isTooGreat_64 (by decide) ?_
          refine lv_istore (lv' := [(5, .int 0), (0, .int x1), (1, .int x2), (2, .int x3), (3, .int x4), (4, .int x5)]) hx hb dX7_isTooGreat_65 hl (by decide) rfl (fun ls hl => ?_)
          refine lv_iload hx hb dX7_isTooGreat_67 (lv_at hl 0 rfl) ?_
          refine lv_if_ne (tgt := 101) hx hb dX7_isTooGreat_69 (by decide) (fun c_69 => absurd c_69 (by decide)) (fun c_69 => ?_)
          refine lv_iload_n hx hb dX7_isTooGreat_72 rfl (lv_at hl 1 rfl) ?_
          refine lv_iload_n hx hb dX7_isTooGreat_73 rfl (lv_at hl 2 rfl) ?_
          refine lv_iload_n hx hb dX7_isTooGreat_74 rfl (lv_at hl 3 rfl) ?_
          refine lv_iload_n hx hb dX7_isTooGreat_75 rfl (lv_at hl 4 rfl) ?_
          refine lv_iload_n hx hb dX7_isTooGreat_76 rfl (lv_at hl 4 rfl) ?_
          refine rd_cl (va_runS (As := [.int x1, .int x2, .int x3, .int x4, .int x4]) (rest := []) ⟨hx, hb, hml, hown, hT⟩ (c_X7_priceBy l x1 x2 x3 x4 x4) (va_cwS 5 hT (tb_S (fun _ h => h) (tr_19 _ (List.mem_of_getElem? (i := 9) rfl)) (tr_19 _ (List.mem_of_getElem? (i := 10) rfl)) (tr_1 _ (List.mem_of_getElem? (i := 5) rfl)) (tr_19 _ (List.mem_of_getElem? (i := 11) rfl))) rfl rfl rfl (by decide +kernel) ⟨Nat.le_of_ble_eq_true rfl, Nat.le_of_ble_eq_true rfl⟩) ⟨fun _ _ _ _ q => q, fun U hU hW => ⟨rfl, trivial⟩⟩ rfl rfl hl.1 rfl (lv_room (Nat.le_of_ble_eq_true rfl)) dX7_isTooGreat_77 ⟨Nat.zero_le _, Nat.zero_le _⟩) (fun r_77 hr_77 => ?_)
          refine rd_ci (va_runS (As := [.long r_77]) (rest := []) ⟨hx, hb, hml, hown, hT⟩ (c_X7_isGreat l r_77) (va_cwS 1 hT (tb_S (fun _ h => h) (tr_27 _ (List.mem_of_getElem? (i := 17) rfl)) (tr_27 _ (List.mem_of_getElem? (i := 18) rfl)) (tr_1 _ (List.mem_of_getElem? (i := 5) rfl)) (tr_27 _ (List.mem_of_getElem? (i := 19) rfl))) rfl rfl rfl (by decide +kernel) ⟨Nat.le_of_ble_eq_true rfl, Nat.le_of_ble_eq_true rfl⟩) ⟨fun _ _ _ _ q => q, fun U hU hW => ⟨rfl, trivial⟩⟩ rfl rfl hl.1 rfl (lv_room (Nat.le_of_ble_eq_true rfl)) dX7_isTooGreat_80 ⟨Nat.zero_le _, Nat.zero_le _⟩) (fun r_80 hr_80 => ?_)
          rcases hr_80 with ⟨rfl, b_80⟩ | ⟨rfl, b_80⟩
          · skip
            refine lv_if_ne (tgt := 101) hx hb dX7_isTooGreat_83 (by decide) (fun c_83 => ?_) (fun c_83 => absurd c_83 (by decide))
            refine lv_iconst (v := 1) hx hb dX7_isTooGreat_101 (by decide) ?_
            refine lv_goto (tgt := 106) hx hb dX7_isTooGreat_102 (by decide) ?_
            exact W.zret (v := 1) (ty := .boolean) hx hb hr rfl (fun t ht hW => ⟨1, rfl, Or.inl ⟨rfl, (by (try dsimp only); rw [hr_77] at b_80; exact Or.inr (Or.inr (Or.inr (Or.inl b_80))))⟩, ht⟩) (fun q hq => by cases hq) dX7_isTooGreat_106
          · skip
            refine lv_if_ne (tgt := 101) hx hb dX7_isTooGreat_83 (by decide) (fun c_83 => absurd c_83 (by decide)) (fun c_83 => ?_)
            refine lv_iload_n hx hb dX7_isTooGreat_86 rfl (lv_at hl 1 rfl) ?_
            refine lv_iload_n hx hb dX7_isTooGreat_87 rfl (lv_at hl 2 rfl) ?_
            refine lv_iload_n hx hb dX7_isTooGreat_88 rfl (lv_at hl 3 rfl) ?_
            refine lv_iload_n hx hb dX7_isTooGreat_89 rfl (lv_at hl 4 rfl) ?_
            refine lv_iload hx hb dX7_isTooGreat_90 (lv_at hl 5 rfl) ?_
            refine rd_cl (va_runS (As := [.int x1, .int x2, .int x3, .int x4, .int x5]) (rest := []) ⟨hx, hb, hml, hown, hT⟩ (c_X7_priceBy l x1 x2 x3 x4 x5) (va_cwS 5 hT (tb_S (fun _ h => h) (tr_19 _ (List.mem_of_getElem? (i := 9) rfl)) (tr_19 _ (List.mem_of_getElem? (i := 10) rfl)) (tr_1 _ (List.mem_of_getElem? (i := 5) rfl)) (tr_19 _ (List.mem_of_getElem? (i := 11) rfl))) rfl rfl rfl (by decide +kernel) ⟨Nat.le_of_ble_eq_true rfl, Nat.le_of_ble_eq_true rfl⟩) ⟨fun _ _ _ _ q => q, fun U hU hW => ⟨rfl, trivial⟩⟩ rfl rfl hl.1 rfl (lv_room (Nat.le_of_ble_eq_true rfl)) dX7_isTooGreat_92 ⟨Nat.zero_le _, Nat.zero_le _⟩) (fun r_92 hr_92 => ?_)
            refine rd_ci (va_runS (As := [.long r_92]) (rest := []) ⟨hx, hb, hml, hown, hT⟩ (c_X7_isGreat l r_92) (va_cwS 1 hT (tb_S (fun _ h => h) (tr_27 _ (List.mem_of_getElem? (i := 17) rfl)) (tr_27 _ (List.mem_of_getElem? (i := 18) rfl)) (tr_1 _ (List.mem_of_getElem? (i := 5) rfl)) (tr_27 _ (List.mem_of_getElem? (i := 19) rfl))) rfl rfl rfl (by decide +kernel) ⟨Nat.le_of_ble_eq_true rfl, Nat.le_of_ble_eq_true rfl⟩) ⟨fun _ _ _ _ q => q, fun U hU hW => ⟨rfl, trivial⟩⟩ rfl rfl hl.1 rfl (lv_room (Nat.le_of_ble_eq_true rfl)) dX7_isTooGreat_95 ⟨Nat.zero_le _, Nat.zero_le _⟩) (fun r_95 hr_95 => ?_)
            rcases hr_95 with ⟨rfl, b_95⟩ | ⟨rfl, b_95⟩
            · skip
              refine lv_if_eq (tgt := 105) hx hb dX7_isTooGreat_98 (by decide) (fun c_98 => absurd c_98 (by decide)) (fun c_98 => ?_)
              refine lv_iconst (v := 1) hx hb dX7_isTooGreat_101 (by decide) ?_
              refine lv_goto (tgt := 106) hx hb dX7_isTooGreat_102 (by decide) ?_
              exact W.zret (v := 1) (ty := .boolean) hx hb hr rfl (fun t ht hW => ⟨1, rfl, Or.inl ⟨rfl, (by (try dsimp only); rw [hr_92] at b_95; exact Or.inr (Or.inr (Or.inr (Or.inr b_95))))⟩, ht⟩) (fun q hq => by cases hq) dX7_isTooGreat_106
            · skip
              refine lv_if_eq (tgt := 105) hx hb dX7_isTooGreat_98 (by decide) (fun c_98 => ?_) (fun c_98 => absurd c_98 (by decide))
              refine lv_iconst (v := 0) hx hb dX7_isTooGreat_105 (by decide) ?_
              exact W.zret (v := 0) (ty := .boolean) hx hb hr rfl (fun t ht hW => ⟨0, rfl, Or.inr ⟨rfl, (fun h => by rw [e_37, hr_32, e_36] at b_38; rw [e_53, hr_48, e_52] at b_54; rw [hr_77] at b_80; rw [hr_92] at b_95; rcases h with h | h | h | h | h; (rw [e_10, e_9] at b_11; exact b_11 h.2); exact b_38 h; exact b_54 h; exact b_80 h; exact b_95 h)⟩, ht⟩) (fun q hq => by cases hq) dX7_isTooGreat_106
set_option maxHeartbeats 4000000 in
set_option maxRecDepth 100000 in
theorem c_X7_isBetter (l : Launch) (Z : YT) (hZ : MG Z) (g : Nat → Nat → Int32) (gl : Nat → Nat → Int64) (x1 : Int32) (x2 : Int32) (x3 : Int32) (ht : 0 ≤ x1.toInt ∧ x1.toInt < 70) (ht2 : 0 ≤ x2.toInt ∧ x2.toInt < 70) (hJ : MJ g) : Met l yX7_isBetter (Cond.code yX7_isBetter cX7_isBetter 8 (some .boolean) :: wsL_law) ({ frames := 3, cells := 0, slots := 0, locals := 68 } : Room) (va_Pc [.ref (ya Z 0), .int x1, .int x2, .int x3] (MI Z g gl)) (rd_Qi (fun r => (r = 1 ∧ mbt g x1 x2 x3 = true) ∨ (r = 0 ∧ mbt g x1 x2 x3 = false))) 0 0 (fun _ => False) := by
  refine Met.ofW (cc := cX7_isBetter) (maxL := 8) (ret := (some .boolean)) (by decide) rfl ?_
  intro p e s m args below meth c s₁ B hml hv
  obtain ⟨rfl, hI⟩ := hv
  have hx := B.exec
  have hb := B.bytes
  have hr := B.returns
  have hT : ∀ w ∈ wsL_law, w.before ([.ref (ya Z 0), .int x1, .int x2, .int x3] : List Value).toArray s = true := fun w h => atoms_spec (ws := (Cond.code yX7_isBetter cX7_isBetter 8 (some .boolean) :: wsL_law)) B.pre w (List.mem_cons_of_mem _ h)
  have hown : s.vm.findClass RX7 = some m.cls := findClass_of_methodNamed B.named
  have hlocks := B.notSynchronized
  have hK := hI.2
  have hP := hI.1
  have hS : va_S (yA Z) s.heap s.heap [] := va_S.rf
  have hl := lv_entry ([.ref (ya Z 0), .int x1, .int x2, .int x3]) (n := 8) (Nat.le_of_ble_eq_true rfl)
  rw [lg_entry_eq]
  generalize (lg_sl ([.ref (ya Z 0), .int x1, .int x2, .int x3]) ++ List.replicate (8 - (lg_sl ([.ref (ya Z 0), .int x1, .int x2, .int x3])).length) Slot.unset).toArray = ls at hl ⊢
  have hl : lv_has ls 8 [(0, .ref (ya Z 0)), (1, .int x1), (2, .int x2), (3, .int x3)] := hl
  refine lv_aload_n hx hb dX7_isBetter_0 rfl (lv_at hl 0 rfl) ?_
  refine lv_iload_n hx hb dX7_isBetter_1 rfl (lv_at hl 1 rfl) ?_
  refine lv_iload_n hx hb dX7_isBetter_2 rfl (lv_at hl 3 rfl) ?_
  refine rd_cl (va_runV (As := [.int x1, .int x3]) (rest := []) ⟨hx, hb, hml, hown, hT⟩ (c_X7_priceOf l Z hZ g gl x1 x3 (by first | assumption | omega | decide) hJ) (cwV 2 hT (tb_V (fun _ h => h) (tr_19 _ (List.mem_of_getElem? (i := 5) rfl)) (tr_19 _ (List.mem_of_getElem? (i := 6) rfl)) (tr_19 _ (List.mem_of_getElem? (i := 7) rfl)) (tr_1 _ (List.mem_of_getElem? (i := 5) rfl)) (tr_19 _ (List.mem_of_getElem? (i := 8) rfl))) rfl rfl rfl (by decide +kernel) ⟨Nat.le_of_ble_eq_true rfl, Nat.le_of_ble_eq_true rfl⟩) ⟨fun a U f mk q => ⟨q.1, MI.blind f mk a q.2⟩, va_recv hK hP (ci := 7) (q0 := 0) rfl mw_0, fun U hU hW => ⟨rfl, hI.at hS hP hU hW⟩⟩ rfl rfl hl.1 rfl (lv_room (Nat.le_of_ble_eq_true rfl)) dX7_isBetter_3 ⟨Nat.zero_le _, Nat.zero_le _⟩) (fun r_3 hr_3 => ?_)
  refine lv_lstore (lv' := [(4, .long r_3), (0, .ref (ya Z 0)), (1, .int x1), (2, .int x2), (3, .int x3)]) hx hb dX7_isBetter_6 hl (by decide) rfl (fun ls hl => ?_)
  refine lv_aload_n hx hb dX7_isBetter_8 rfl (lv_at hl 1 rfl) ?_
  refine lv_iload_n hx hb dX7_isBetter_9 rfl (lv_at hl 3 rfl) ?_
  refine lv_iload_n hx hb dX7_isBetter_10 rfl (lv_at hl 4 rfl) ?_
  refine rd_cl (va_runV (As := [.int x2, .int x3]) (rest := []) ⟨hx, hb, hml, hown, hT⟩ (c_X7_priceOf l Z hZ g gl x2 x3 (by first | assumption | omega | decide) hJ) (cwV 2 hT (tb_V (fun _ h => h) (tr_19 _ (List.mem_of_getElem? (i := 5) rfl)) (tr_19 _ (List.mem_of_getElem? (i := 6) rfl)) (tr_19 _ (List.mem_of_getElem? (i := 7) rfl)) (tr_1 _ (List.mem_of_getElem? (i := 5) rfl)) (tr_19 _ (List.mem_of_getElem? (i := 8) rfl))) rfl rfl rfl (by decide +kernel) ⟨Nat.le_of_ble_eq_true rfl, Nat.le_of_ble_eq_true rfl⟩) ⟨fun a U f mk q => ⟨q.1, MI.blind f mk a q.2⟩, va_recv hK hP (ci := 7) (q0 := 0) rfl mw_0, fun U hU hW => ⟨rfl, hI.at hS hP hU hW⟩⟩ rfl rfl hl.1 rfl (lv_room (Nat.le_of_ble_eq_true rfl)) dX7_isBetter_11 ⟨Nat.zero_le _, Nat.zero_le _⟩) (fun r_11 hr_11 => ?_)
  refine lv_lstore (lv' := [(6, .long r_11), (4, .long r_3), (0, .ref (ya Z 0)), (1, .int x1), (2, .int x2), (3, .int x3)]) hx hb dX7_isBetter_14 hl (by decide) rfl (fun ls hl => ?_)
  refine lv_lload hx hb dX7_isBetter_16 (lv_at hl 1 rfl) ?_
  refine lv_lload hx hb dX7_isBetter_18 (lv_at hl 0 rfl) ?_
  refine W.lcmp hx hb dX7_isBetter_20 ?_
  refine lv_topi (fun v_20 e_20 => ?_)
  refine lv_if_lt (tgt := 37) hx hb dX7_isBetter_21 (by decide) (fun c_21 => ?_) (fun c_21 => ?_)
  · skip
    have i_21 := ti_ltk rfl tk_0 c_21
    refine lv_iconst (v := 1) hx hb dX7_isBetter_37 (by decide) ?_
    refine lv_goto (tgt := 42) hx hb dX7_isBetter_38 (by decide) ?_
    exact W.zret (v := 1) (ty := .boolean) hx hb hr rfl (fun t ht hW => ⟨1, rfl, Or.inl ⟨rfl, (by (try dsimp only); first | exact mbt_2 (by rw [← hr_3, ← hr_11]; exact (lg_cmp_eq _ _).mp (by rw [← e_28]; exact c_29)) (Int32.not_le.mp c_34) | exact mbt_1 (by rw [← hr_3, ← hr_11]; exact (lg_cmp_lt _ _).mp (by rw [← e_20]; exact c_21)))⟩, ht⟩) (fun q hq => by cases hq) dX7_isBetter_42
  · skip
    have i_21 := ti_nltk rfl tk_0 c_21
    refine lv_lload hx hb dX7_isBetter_24 (lv_at hl 1 rfl) ?_
    refine lv_lload hx hb dX7_isBetter_26 (lv_at hl 0 rfl) ?_
    refine W.lcmp hx hb dX7_isBetter_28 ?_
    refine lv_topi (fun v_28 e_28 => ?_)
    refine lv_if_ne (tgt := 41) hx hb dX7_isBetter_29 (by decide) (fun c_29 => ?_) (fun c_29 => ?_)
    · skip
      have i_29 := ti_nek rfl tk_0 c_29
      refine lv_iconst (v := 0) hx hb dX7_isBetter_41 (by decide) ?_
      exact W.zret (v := 0) (ty := .boolean) hx hb hr rfl (fun t ht hW => ⟨0, rfl, Or.inr ⟨rfl, (by (try dsimp only); first | exact mbt_4 (by rw [← hr_3, ← hr_11]; exact fun h => c_21 (by rw [e_20]; exact (lg_cmp_lt _ _).mpr h)) (fun h => absurd h (Int32.not_lt.mpr c_34)) | exact mbt_3 (by rw [← hr_3, ← hr_11]; exact fun h => c_21 (by rw [e_20]; exact (lg_cmp_lt _ _).mpr h)) (by rw [← hr_3, ← hr_11]; exact fun h => c_29 (by rw [e_28]; exact (lg_cmp_eq _ _).mpr h)))⟩, ht⟩) (fun q hq => by cases hq) dX7_isBetter_42
    · skip
      have i_29 := ti_eqk rfl tk_0 c_29
      refine lv_iload_n hx hb dX7_isBetter_32 rfl (lv_at hl 3 rfl) ?_
      refine lv_iload_n hx hb dX7_isBetter_33 rfl (lv_at hl 4 rfl) ?_
      refine lv_icmp_ge (tgt := 41) hx hb dX7_isBetter_34 (by decide) (fun c_34 => ?_) (fun c_34 => ?_)
      · skip
        have i_34 := ti_lek rfl rfl c_34
        refine lv_iconst (v := 0) hx hb dX7_isBetter_41 (by decide) ?_
        exact W.zret (v := 0) (ty := .boolean) hx hb hr rfl (fun t ht hW => ⟨0, rfl, Or.inr ⟨rfl, (by (try dsimp only); first | exact mbt_4 (by rw [← hr_3, ← hr_11]; exact fun h => c_21 (by rw [e_20]; exact (lg_cmp_lt _ _).mpr h)) (fun h => absurd h (Int32.not_lt.mpr c_34)) | exact mbt_3 (by rw [← hr_3, ← hr_11]; exact fun h => c_21 (by rw [e_20]; exact (lg_cmp_lt _ _).mpr h)) (by rw [← hr_3, ← hr_11]; exact fun h => c_29 (by rw [e_28]; exact (lg_cmp_eq _ _).mpr h)))⟩, ht⟩) (fun q hq => by cases hq) dX7_isBetter_42
      · skip
        have i_34 := ti_nlek rfl rfl c_34
        refine lv_iconst (v := 1) hx hb dX7_isBetter_37 (by decide) ?_
        refine lv_goto (tgt := 42) hx hb dX7_isBetter_38 (by decide) ?_
        exact W.zret (v := 1) (ty := .boolean) hx hb hr rfl (fun t ht hW => ⟨1, rfl, Or.inl ⟨rfl, (by (try dsimp only); first | exact mbt_2 (by rw [← hr_3, ← hr_11]; exact (lg_cmp_eq _ _).mp (by rw [← e_28]; exact c_29)) (Int32.not_le.mp c_34) | exact mbt_1 (by rw [← hr_3, ← hr_11]; exact (lg_cmp_lt _ _).mp (by rw [← e_20]; exact c_21)))⟩, ht⟩) (fun q hq => by cases hq) dX7_isBetter_42
set_option maxHeartbeats 4000000 in
set_option maxRecDepth 100000 in
theorem c_X7_has (l : Launch) (Z : YT) (hZ : MG Z) (g : Nat → Nat → Int32) (gl : Nat → Nat → Int64) (x1 : Int32) (x2 : Int32) (ht : 0 ≤ x1.toInt ∧ x1.toInt < 70) (hJ : MJ g) : Met l yX7_has (Cond.code yX7_has cX7_has 3 (some .boolean) :: wsL_law) ({ frames := 1, cells := 0, slots := 0, locals := 22 } : Room) (va_Pc [.ref (ya Z 0), .int x1, .int x2] (MI Z g gl)) (rd_Qi (fun r => (r = 1 ∧ ((g 4 x1.toInt.toNat).toInt ≤ x2.toInt ∧ x2.toInt ≤ (g 5 x1.toInt.toNat).toInt)) ∨ (r = 0 ∧ ¬ ((g 4 x1.toInt.toNat).toInt ≤ x2.toInt ∧ x2.toInt ≤ (g 5 x1.toInt.toNat).toInt)))) 0 0 (fun _ => False) := by
  refine Met.ofW (cc := cX7_has) (maxL := 3) (ret := (some .boolean)) (by decide) rfl ?_
  intro p e s m args below meth c s₁ B hml hv
  obtain ⟨rfl, hI⟩ := hv
  have hx := B.exec
  have hb := B.bytes
  have hr := B.returns
  have hT : ∀ w ∈ wsL_law, w.before ([.ref (ya Z 0), .int x1, .int x2] : List Value).toArray s = true := fun w h => atoms_spec (ws := (Cond.code yX7_has cX7_has 3 (some .boolean) :: wsL_law)) B.pre w (List.mem_cons_of_mem _ h)
  have hown : s.vm.findClass RX7 = some m.cls := findClass_of_methodNamed B.named
  have hlocks := B.notSynchronized
  have hK := hI.2
  have hP := hI.1
  have hS : va_S (yA Z) s.heap s.heap [] := va_S.rf
  have hl := lv_entry ([.ref (ya Z 0), .int x1, .int x2]) (n := 3) (Nat.le_of_ble_eq_true rfl)
  rw [lg_entry_eq]
  generalize (lg_sl ([.ref (ya Z 0), .int x1, .int x2]) ++ List.replicate (3 - (lg_sl ([.ref (ya Z 0), .int x1, .int x2])).length) Slot.unset).toArray = ls at hl ⊢
  have hl : lv_has ls 3 [(0, .ref (ya Z 0)), (1, .int x1), (2, .int x2)] := hl
  refine lv_iload_n hx hb dX7_has_0 rfl (lv_at hl 2 rfl) ?_
  refine lv_aload_n hx hb dX7_has_1 rfl (lv_at hl 0 rfl) ?_
  refine va_get (D := yD Z) (ci := 7) (v := .ref (ya Z 4)) (C := RX7) (T := TX7) (N := 31) hx hb hT inlX7 hown hK hP 0 mw_0 rfl 5 (by decide) (hT _ (tr_4 _ (List.mem_of_getElem? (i := 16) rfl))) (fun _ h9 => h9) rfl dX7_has_2 ?_
  refine lv_iload_n hx hb dX7_has_5 rfl (lv_at hl 1 rfl) ?_
  have h_6 : vp_in x1 70 := (ti_vp (by omega) (by omega))
  refine va_iald hx hb hK hP 4 1 mw_4 rfl h_6 dX7_has_6 ?_
  refine lv_topi (fun v_6 e_6 => ?_)
  refine lv_aload_n hx hb dX7_has_7 rfl (lv_at hl 0 rfl) ?_
  refine va_get (D := yD Z) (ci := 7) (v := .ref (ya Z 5)) (C := RX7) (T := TX7) (N := 31) hx hb hT inlX7 hown hK hP 0 mw_0 rfl 6 (by decide) (hT _ (tr_4 _ (List.mem_of_getElem? (i := 17) rfl))) (fun _ h9 => h9) rfl dX7_has_8 ?_
  refine lv_iload_n hx hb dX7_has_11 rfl (lv_at hl 1 rfl) ?_
  have h_12 : vp_in x1 70 := (ti_vp (by omega) (by omega))
  refine va_iald hx hb hK hP 5 1 mw_5 rfl h_12 dX7_has_12 ?_
  refine lv_topi (fun v_12 e_12 => ?_)
  refine rd_ci (va_runS (As := [.int x2, .int v_6, .int v_12]) (rest := []) ⟨hx, hb, hml, hown, hT⟩ (c_X7_within l x2 v_6 v_12) (va_cwS 3 hT (tb_S (fun _ h => h) (tr_6 _ (List.mem_of_getElem? (i := 0) rfl)) (tr_6 _ (List.mem_of_getElem? (i := 1) rfl)) (tr_1 _ (List.mem_of_getElem? (i := 5) rfl)) (tr_6 _ (List.mem_of_getElem? (i := 2) rfl))) rfl rfl rfl (by decide +kernel) ⟨Nat.le_of_ble_eq_true rfl, Nat.le_of_ble_eq_true rfl⟩) ⟨fun _ _ _ _ q => q, fun U hU hW => ⟨rfl, trivial⟩⟩ rfl rfl hl.1 rfl (lv_room (Nat.le_of_ble_eq_true rfl)) dX7_has_13 ⟨Nat.zero_le _, Nat.zero_le _⟩) (fun r_13 hr_13 => ?_)
  rcases hr_13 with ⟨rfl, b_13⟩ | ⟨rfl, b_13⟩
  · skip
    exact W.zret (v := 1) (ty := .boolean) hx hb hr rfl (fun t ht hW => ⟨1, rfl, Or.inl ⟨rfl, (by (try dsimp only); rw [e_6, e_12] at b_13; exact b_13)⟩, ht⟩) (fun q hq => by cases hq) dX7_has_16
  · skip
    exact W.zret (v := 0) (ty := .boolean) hx hb hr rfl (fun t ht hW => ⟨0, rfl, Or.inr ⟨rfl, (by (try dsimp only); rw [e_6, e_12] at b_13; exact b_13)⟩, ht⟩) (fun q hq => by cases hq) dX7_has_16
set_option maxHeartbeats 4000000 in
set_option maxRecDepth 100000 in
theorem c_X7_lengthOf (l : Launch) (x1 : Int32) (h1 : 1 ≤ x1.toInt ∧ x1.toInt ≤ 127) : Met l yX7_lengthOf (Cond.code yX7_lengthOf cX7_lengthOf 3 (some .int) :: wsL_law) ({ frames := 0, cells := 0, slots := 0, locals := 0 } : Room) (va_Pc [.int x1] (fun _ => True)) (rd_Qi (fun r => r.toInt = lenP x1.toInt)) 0 0 (fun _ => False) := by
  refine Met.ofW (cc := cX7_lengthOf) (maxL := 3) (ret := (some .int)) (by decide) rfl ?_
  intro p e s m args below meth c s₁ B hml hv
  obtain ⟨rfl, hI⟩ := hv
  have hx := B.exec
  have hb := B.bytes
  have hr := B.returns
  have hT : ∀ w ∈ wsL_law, w.before ([.int x1] : List Value).toArray s = true := fun w h => atoms_spec (ws := (Cond.code yX7_lengthOf cX7_lengthOf 3 (some .int) :: wsL_law)) B.pre w (List.mem_cons_of_mem _ h)
  have hown : s.vm.findClass RX7 = some m.cls := findClass_of_methodNamed B.named
  have hlocks := B.notSynchronized
  have hl := lv_entry ([.int x1]) (n := 3) (Nat.le_of_ble_eq_true rfl)
  rw [lg_entry_eq]
  generalize (lg_sl ([.int x1]) ++ List.replicate (3 - (lg_sl ([.int x1])).length) Slot.unset).toArray = ls at hl ⊢
  have hl : lv_has ls 3 [(0, .int x1)] := hl
  have L5 : ∀ (n : Nat) (z1 : Int32) (z2 : Int32)  (h3 : 1 ≤ z2.toInt ∧ z2.toInt ≤ 127) (h4 : 0 ≤ z1.toInt) (hE : lenQ z2.toInt z1.toInt = lenP x1.toInt) (hn : z2.toInt.toNat < n) (ls : Array Slot) (hl : lv_has ls 3 [(0, .int x1), (1, .int z1), (2, .int z2)]), W p l e ({ frames := 0, cells := 0, slots := 0, locals := 0 } : Room) s m ([.int x1] : List Value).toArray below meth c s.heap [] 0 0 (MQ below (rd_Qi (fun r => r.toInt = lenP x1.toInt)) ([.int x1] : List Value).toArray s 0 0 (fun _ => False)) (F0 m 5 ls []) := by
    intro n
    induction n with
    | zero => intro z1 z2 h3 h4 hE hn; exact absurd hn (Nat.not_lt_zero _)
    | succ n ih5 =>
      intro z1 z2 h3 h4 hE hn ls hl
      refine lv_iload_n hx hb dX7_lengthOf_5 rfl (lv_at hl 2 rfl) ?_
      refine lv_iconst (v := 1) hx hb dX7_lengthOf_6 (by decide) ?_
      refine lv_icmp_le (tgt := 21) hx hb dX7_lengthOf_7 (by decide) (fun c_7 => ?_) (fun c_7 => ?_)
      · skip
        have i_7 := ti_lek rfl tk_1 c_7
        refine lv_iload_n hx hb dX7_lengthOf_21 rfl (lv_at hl 1 rfl) ?_
        exact W.iret (v := z1) hx hb hr (fun t ht hW => ⟨z1, rfl, (by (try dsimp only); rw [← hE, lenQ_1 (by omega)]), ht⟩) (fun q hq => by cases hq) dX7_lengthOf_22
      · skip
        have i_7 := ti_nlek rfl tk_1 c_7
        refine lv_iload_n hx hb dX7_lengthOf_10 rfl (lv_at hl 1 rfl) ?_
        refine lv_iconst (v := 2) hx hb dX7_lengthOf_11 (by decide) ?_
        refine lv_idiv hx hb dX7_lengthOf_12 (by decide) ?_
        refine lv_topi (fun v_12 e_12 => ?_)
        have t_12 := ti_half (by omega) e_12
        refine lv_istore_n (lv' := [(1, .int v_12), (0, .int x1), (2, .int z2)]) hx hb dX7_lengthOf_13 rfl hl (by decide) rfl (fun ls hl => ?_)
        refine lv_iload_n hx hb dX7_lengthOf_14 rfl (lv_at hl 2 rfl) ?_
        refine lv_iconst (v := 2) hx hb dX7_lengthOf_15 (by decide) ?_
        refine lv_idiv hx hb dX7_lengthOf_16 (by decide) ?_
        refine lv_topi (fun v_16 e_16 => ?_)
        have t_16 := ti_half (by omega) e_16
        refine lv_istore_n (lv' := [(2, .int v_16), (1, .int v_12), (0, .int x1)]) hx hb dX7_lengthOf_17 rfl hl (by decide) rfl (fun ls hl => ?_)
        refine lv_goto (tgt := 5) hx hb dX7_lengthOf_18 (by decide) ?_
        exact ih5 v_12 v_16 (by first | assumption | omega | decide) (by first | assumption | omega | decide) (by rw [t_12, t_16, lenQ_step (by omega) (by omega) (by omega)]; exact hE) (by omega) ls (lv_sub hl [2, 1, 0] rfl)
  refine lv_bipush (v := 64) hx hb dX7_lengthOf_0 (by decide) ?_
  refine lv_istore_n (lv' := [(1, .int 64), (0, .int x1)]) hx hb dX7_lengthOf_2 rfl hl (by decide) rfl (fun ls hl => ?_)
  refine lv_iload_n hx hb dX7_lengthOf_3 rfl (lv_at hl 1 rfl) ?_
  refine lv_istore_n (lv' := [(2, .int x1), (1, .int 64), (0, .int x1)]) hx hb dX7_lengthOf_4 rfl hl (by decide) rfl (fun ls hl => ?_)
  exact L5 _ 64 x1 (by first | assumption | omega | decide) (by first | assumption | omega | decide) (by rw [tk_64]; exact lenQ_64 _) (Nat.lt_succ_self _) ls (lv_sub hl [2, 1, 0] rfl)
set_option maxHeartbeats 4000000 in
set_option maxRecDepth 100000 in
theorem c_X7_firstAt (l : Launch) (x1 : Int32) (h1 : 1 ≤ x1.toInt ∧ x1.toInt ≤ 127) : Met l yX7_firstAt (Cond.code yX7_firstAt cX7_firstAt 2 (some .int) :: wsL_law) ({ frames := 1, cells := 0, slots := 0, locals := 22 } : Room) (va_Pc [.int x1] (fun _ => True)) (rd_Qi (fun r => r.toInt = firP x1.toInt)) 0 0 (fun _ => False) := by
  refine Met.ofW (cc := cX7_firstAt) (maxL := 2) (ret := (some .int)) (by decide) rfl ?_
  intro p e s m args below meth c s₁ B hml hv
  obtain ⟨rfl, hI⟩ := hv
  have hx := B.exec
  have hb := B.bytes
  have hr := B.returns
  have hT : ∀ w ∈ wsL_law, w.before ([.int x1] : List Value).toArray s = true := fun w h => atoms_spec (ws := (Cond.code yX7_firstAt cX7_firstAt 2 (some .int) :: wsL_law)) B.pre w (List.mem_cons_of_mem _ h)
  have hown : s.vm.findClass RX7 = some m.cls := findClass_of_methodNamed B.named
  have hlocks := B.notSynchronized
  have hl := lv_entry ([.int x1]) (n := 2) (Nat.le_of_ble_eq_true rfl)
  rw [lg_entry_eq]
  generalize (lg_sl ([.int x1]) ++ List.replicate (2 - (lg_sl ([.int x1])).length) Slot.unset).toArray = ls at hl ⊢
  have hl : lv_has ls 2 [(0, .int x1)] := hl
  refine lv_iload_n hx hb dX7_firstAt_0 rfl (lv_at hl 0 rfl) ?_
  refine rd_ci (va_runS (As := [.int x1]) (rest := []) ⟨hx, hb, hml, hown, hT⟩ (c_X7_lengthOf l x1 (by first | assumption | omega | decide)) (va_cwS 1 hT (tb_S (fun _ h => h) (tr_18 _ (List.mem_of_getElem? (i := 12) rfl)) (tr_18 _ (List.mem_of_getElem? (i := 13) rfl)) (tr_1 _ (List.mem_of_getElem? (i := 5) rfl)) (tr_18 _ (List.mem_of_getElem? (i := 14) rfl))) rfl rfl rfl (by decide +kernel) ⟨Nat.le_of_ble_eq_true rfl, Nat.le_of_ble_eq_true rfl⟩) ⟨fun _ _ _ _ q => q, fun U hU hW => ⟨rfl, trivial⟩⟩ rfl rfl hl.1 rfl (lv_room (Nat.le_of_ble_eq_true rfl)) dX7_firstAt_1 ⟨Nat.zero_le _, Nat.zero_le _⟩) (fun r_1 hr_1 => ?_)
  refine lv_istore_n (lv' := [(1, .int r_1), (0, .int x1)]) hx hb dX7_firstAt_4 rfl hl (by decide) rfl (fun ls hl => ?_)
  refine lv_iload_n hx hb dX7_firstAt_5 rfl (lv_at hl 1 rfl) ?_
  refine lv_iload_n hx hb dX7_firstAt_6 rfl (lv_at hl 0 rfl) ?_
  refine lv_imul hx hb dX7_firstAt_7 ?_
  refine lv_topi (fun v_7 e_7 => ?_)
  have qm := lenP_mul h1.1 h1.2
  rw [← hr_1] at qm
  have t7 : v_7.toInt = firP x1.toInt + 64 := by rw [e_7, ti_mul (by rw [qm.1]; omega) (by rw [qm.1]; omega), qm.1]
  refine lv_bipush (v := 64) hx hb dX7_firstAt_8 (by decide) ?_
  refine lv_isub hx hb dX7_firstAt_10 ?_
  refine lv_topi (fun v_10 e_10 => ?_)
  have t_10 := ti_subk rfl tk_64 (by omega) (by omega) e_10
  exact W.iret (v := v_10) hx hb hr (fun t ht hW => ⟨v_10, rfl, (by first | assumption | omega | decide), ht⟩) (fun q hq => by cases hq) dX7_firstAt_11
set_option maxHeartbeats 4000000 in
set_option maxRecDepth 100000 in
theorem c_X7_lastAt (l : Launch) (x1 : Int32) (h1 : 1 ≤ x1.toInt ∧ x1.toInt ≤ 127) : Met l yX7_lastAt (Cond.code yX7_lastAt cX7_lastAt 1 (some .int) :: wsL_law) ({ frames := 2, cells := 0, slots := 0, locals := 43 } : Room) (va_Pc [.int x1] (fun _ => True)) (rd_Qi (fun r => r.toInt = lasP x1.toInt)) 0 0 (fun _ => False) := by
  refine Met.ofW (cc := cX7_lastAt) (maxL := 1) (ret := (some .int)) (by decide) rfl ?_
  intro p e s m args below meth c s₁ B hml hv
  obtain ⟨rfl, hI⟩ := hv
  have hx := B.exec
  have hb := B.bytes
  have hr := B.returns
  have hT : ∀ w ∈ wsL_law, w.before ([.int x1] : List Value).toArray s = true := fun w h => atoms_spec (ws := (Cond.code yX7_lastAt cX7_lastAt 1 (some .int) :: wsL_law)) B.pre w (List.mem_cons_of_mem _ h)
  have hown : s.vm.findClass RX7 = some m.cls := findClass_of_methodNamed B.named
  have hlocks := B.notSynchronized
  have hl := lv_entry ([.int x1]) (n := 1) (Nat.le_of_ble_eq_true rfl)
  rw [lg_entry_eq]
  generalize (lg_sl ([.int x1]) ++ List.replicate (1 - (lg_sl ([.int x1])).length) Slot.unset).toArray = ls at hl ⊢
  have hl : lv_has ls 1 [(0, .int x1)] := hl
  refine lv_iload_n hx hb dX7_lastAt_0 rfl (lv_at hl 0 rfl) ?_
  refine rd_ci (va_runS (As := [.int x1]) (rest := []) ⟨hx, hb, hml, hown, hT⟩ (c_X7_firstAt l x1 (by first | assumption | omega | decide)) (va_cwS 1 hT (tb_S (fun _ h => h) (tr_18 _ (List.mem_of_getElem? (i := 9) rfl)) (tr_18 _ (List.mem_of_getElem? (i := 10) rfl)) (tr_1 _ (List.mem_of_getElem? (i := 5) rfl)) (tr_18 _ (List.mem_of_getElem? (i := 11) rfl))) rfl rfl rfl (by decide +kernel) ⟨Nat.le_of_ble_eq_true rfl, Nat.le_of_ble_eq_true rfl⟩) ⟨fun _ _ _ _ q => q, fun U hU hW => ⟨rfl, trivial⟩⟩ rfl rfl hl.1 rfl (lv_room (Nat.le_of_ble_eq_true rfl)) dX7_lastAt_1 ⟨Nat.zero_le _, Nat.zero_le _⟩) (fun r_1 hr_1 => ?_)
  have q1 := (lenP_mul h1.1 h1.2).2
  refine lv_iload_n hx hb dX7_lastAt_4 rfl (lv_at hl 0 rfl) ?_
  refine rd_ci (va_runS (As := [.int x1]) (rest := [.int r_1]) ⟨hx, hb, hml, hown, hT⟩ (c_X7_lengthOf l x1 (by first | assumption | omega | decide)) (va_cwS 1 hT (tb_S (fun _ h => h) (tr_18 _ (List.mem_of_getElem? (i := 12) rfl)) (tr_18 _ (List.mem_of_getElem? (i := 13) rfl)) (tr_1 _ (List.mem_of_getElem? (i := 5) rfl)) (tr_18 _ (List.mem_of_getElem? (i := 14) rfl))) rfl rfl rfl (by decide +kernel) ⟨Nat.le_of_ble_eq_true rfl, Nat.le_of_ble_eq_true rfl⟩) ⟨fun _ _ _ _ q => q, fun U hU hW => ⟨rfl, trivial⟩⟩ rfl rfl hl.1 rfl (lv_room (Nat.le_of_ble_eq_true rfl)) dX7_lastAt_5 ⟨Nat.zero_le _, Nat.zero_le _⟩) (fun r_5 hr_5 => ?_)
  have q5 := lenP_rng x1.toInt
  refine lv_iadd hx hb dX7_lastAt_8 ?_
  refine lv_topi (fun v_8 e_8 => ?_)
  have t_8 := ti_addk rfl rfl (by omega) (by omega) e_8
  refine lv_iconst (v := 1) hx hb dX7_lastAt_9 (by decide) ?_
  refine lv_isub hx hb dX7_lastAt_10 ?_
  refine lv_topi (fun v_10 e_10 => ?_)
  have t_10 := ti_subk rfl tk_1 (by omega) (by omega) e_10
  exact W.iret (v := v_10) hx hb hr (fun t ht hW => ⟨v_10, rfl, (by (try dsimp only); unfold lasP; omega), ht⟩) (fun q hq => by cases hq) dX7_lastAt_11
set_option maxHeartbeats 4000000 in
set_option maxRecDepth 100000 in
theorem c_X7_middleAt (l : Launch) (x1 : Int32) (h1 : 1 ≤ x1.toInt ∧ x1.toInt ≤ 127) : Met l yX7_middleAt (Cond.code yX7_middleAt cX7_middleAt 1 (some .int) :: wsL_law) ({ frames := 2, cells := 0, slots := 0, locals := 43 } : Room) (va_Pc [.int x1] (fun _ => True)) (rd_Qi (fun r => r.toInt = (miN x1.toInt.toNat : Int))) 0 0 (fun _ => False) := by
  refine Met.ofW (cc := cX7_middleAt) (maxL := 1) (ret := (some .int)) (by decide) rfl ?_
  intro p e s m args below meth c s₁ B hml hv
  obtain ⟨rfl, hI⟩ := hv
  have hx := B.exec
  have hb := B.bytes
  have hr := B.returns
  have hT : ∀ w ∈ wsL_law, w.before ([.int x1] : List Value).toArray s = true := fun w h => atoms_spec (ws := (Cond.code yX7_middleAt cX7_middleAt 1 (some .int) :: wsL_law)) B.pre w (List.mem_cons_of_mem _ h)
  have hown : s.vm.findClass RX7 = some m.cls := findClass_of_methodNamed B.named
  have hlocks := B.notSynchronized
  have hl := lv_entry ([.int x1]) (n := 1) (Nat.le_of_ble_eq_true rfl)
  rw [lg_entry_eq]
  generalize (lg_sl ([.int x1]) ++ List.replicate (1 - (lg_sl ([.int x1])).length) Slot.unset).toArray = ls at hl ⊢
  have hl : lv_has ls 1 [(0, .int x1)] := hl
  refine lv_iload_n hx hb dX7_middleAt_0 rfl (lv_at hl 0 rfl) ?_
  refine rd_ci (va_runS (As := [.int x1]) (rest := []) ⟨hx, hb, hml, hown, hT⟩ (c_X7_lengthOf l x1 (by first | assumption | omega | decide)) (va_cwS 1 hT (tb_S (fun _ h => h) (tr_18 _ (List.mem_of_getElem? (i := 12) rfl)) (tr_18 _ (List.mem_of_getElem? (i := 13) rfl)) (tr_1 _ (List.mem_of_getElem? (i := 5) rfl)) (tr_18 _ (List.mem_of_getElem? (i := 14) rfl))) rfl rfl rfl (by decide +kernel) ⟨Nat.le_of_ble_eq_true rfl, Nat.le_of_ble_eq_true rfl⟩) ⟨fun _ _ _ _ q => q, fun U hU hW => ⟨rfl, trivial⟩⟩ rfl rfl hl.1 rfl (lv_room (Nat.le_of_ble_eq_true rfl)) dX7_middleAt_1 ⟨Nat.zero_le _, Nat.zero_le _⟩) (fun r_1 hr_1 => ?_)
  have ql := lenP_rng x1.toInt
  refine lv_iconst (v := 1) hx hb dX7_middleAt_4 (by decide) ?_
  refine lv_icmp_ne (tgt := 15) hx hb dX7_middleAt_5 (by decide) (fun c_5 => ?_) (fun c_5 => ?_)
  · skip
    have i_5 := ti_nek rfl tk_1 c_5
    refine lv_iload_n hx hb dX7_middleAt_15 rfl (lv_at hl 0 rfl) ?_
    refine rd_ci (va_runS (As := [.int x1]) (rest := []) ⟨hx, hb, hml, hown, hT⟩ (c_X7_firstAt l x1 (by first | assumption | omega | decide)) (va_cwS 1 hT (tb_S (fun _ h => h) (tr_18 _ (List.mem_of_getElem? (i := 9) rfl)) (tr_18 _ (List.mem_of_getElem? (i := 10) rfl)) (tr_1 _ (List.mem_of_getElem? (i := 5) rfl)) (tr_18 _ (List.mem_of_getElem? (i := 11) rfl))) rfl rfl rfl (by decide +kernel) ⟨Nat.le_of_ble_eq_true rfl, Nat.le_of_ble_eq_true rfl⟩) ⟨fun _ _ _ _ q => q, fun U hU hW => ⟨rfl, trivial⟩⟩ rfl rfl hl.1 rfl (lv_room (Nat.le_of_ble_eq_true rfl)) dX7_middleAt_16 ⟨Nat.zero_le _, Nat.zero_le _⟩) (fun r_16 hr_16 => ?_)
    have qf := (lenP_mul h1.1 h1.2).2
    refine lv_iload_n hx hb dX7_middleAt_19 rfl (lv_at hl 0 rfl) ?_
    refine rd_ci (va_runS (As := [.int x1]) (rest := [.int r_16]) ⟨hx, hb, hml, hown, hT⟩ (c_X7_lengthOf l x1 (by first | assumption | omega | decide)) (va_cwS 1 hT (tb_S (fun _ h => h) (tr_18 _ (List.mem_of_getElem? (i := 12) rfl)) (tr_18 _ (List.mem_of_getElem? (i := 13) rfl)) (tr_1 _ (List.mem_of_getElem? (i := 5) rfl)) (tr_18 _ (List.mem_of_getElem? (i := 14) rfl))) rfl rfl rfl (by decide +kernel) ⟨Nat.le_of_ble_eq_true rfl, Nat.le_of_ble_eq_true rfl⟩) ⟨fun _ _ _ _ q => q, fun U hU hW => ⟨rfl, trivial⟩⟩ rfl rfl hl.1 rfl (lv_room (Nat.le_of_ble_eq_true rfl)) dX7_middleAt_20 ⟨Nat.zero_le _, Nat.zero_le _⟩) (fun r_20 hr_20 => ?_)
    refine lv_iconst (v := 2) hx hb dX7_middleAt_23 (by decide) ?_
    refine lv_idiv hx hb dX7_middleAt_24 (by decide) ?_
    refine lv_topi (fun v_24 e_24 => ?_)
    have t_24 := ti_half (by omega) e_24
    refine lv_iadd hx hb dX7_middleAt_25 ?_
    refine lv_topi (fun v_25 e_25 => ?_)
    have t_25 := ti_addk rfl rfl (by omega) (by omega) e_25
    refine lv_iconst (v := 1) hx hb dX7_middleAt_26 (by decide) ?_
    refine lv_isub hx hb dX7_middleAt_27 ?_
    refine lv_topi (fun v_27 e_27 => ?_)
    have t_27 := ti_subk rfl tk_1 (by omega) (by omega) e_27
    exact W.iret (v := v_27) hx hb hr (fun t ht hW => ⟨v_27, rfl, (by (try dsimp only); have q := midP2 h1 (by rw [← hr_1]; exact i_5); omega), ht⟩) (fun q hq => by cases hq) dX7_middleAt_28
  · skip
    have i_5 := ti_eqk rfl tk_1 c_5
    refine lv_iload_n hx hb dX7_middleAt_8 rfl (lv_at hl 0 rfl) ?_
    refine rd_ci (va_runS (As := [.int x1]) (rest := []) ⟨hx, hb, hml, hown, hT⟩ (c_X7_firstAt l x1 (by first | assumption | omega | decide)) (va_cwS 1 hT (tb_S (fun _ h => h) (tr_18 _ (List.mem_of_getElem? (i := 9) rfl)) (tr_18 _ (List.mem_of_getElem? (i := 10) rfl)) (tr_1 _ (List.mem_of_getElem? (i := 5) rfl)) (tr_18 _ (List.mem_of_getElem? (i := 11) rfl))) rfl rfl rfl (by decide +kernel) ⟨Nat.le_of_ble_eq_true rfl, Nat.le_of_ble_eq_true rfl⟩) ⟨fun _ _ _ _ q => q, fun U hU hW => ⟨rfl, trivial⟩⟩ rfl rfl hl.1 rfl (lv_room (Nat.le_of_ble_eq_true rfl)) dX7_middleAt_9 ⟨Nat.zero_le _, Nat.zero_le _⟩) (fun r_9 hr_9 => ?_)
    refine lv_goto (tgt := 28) hx hb dX7_middleAt_12 (by decide) ?_
    exact W.iret (v := r_9) hx hb hr (fun t ht hW => ⟨r_9, rfl, (by (try dsimp only); have q := midP h1; rw [← hr_1, i_5] at q; omega), ht⟩) (fun q hq => by cases hq) dX7_middleAt_28
set_option maxHeartbeats 4000000 in
set_option maxRecDepth 100000 in
theorem c_X7_push (l : Launch) (Z : YT) (hZ : MG Z) (g : Nat → Nat → Int32) (gl : Nat → Nat → Int64) (x1 : Int32) (x2 : Int32) (h1 : 1 ≤ x1.toInt ∧ x1.toInt ≤ 127) (h2 : 0 ≤ x2.toInt ∧ x2.toInt < 70) (hJ : MJ g) : Met l yX7_push (Cond.code yX7_push cX7_push 9 none :: wsL_law) ({ frames := 4, cells := 0, slots := 0, locals := 95 } : Room) (va_Pc [.ref (ya Z 0), .int x1, .int x2] (MI Z g gl)) (va_Qv (fun (u : (Nat → Nat → Int32) × (Nat → Nat → Int64)) => Fr [6] g u.1 ∧ MJ u.1 ∧ gl = u.2 ∧ u.1 6 = psh g 7 (g 6) x1.toInt.toNat x2) (fun u t => va_P (yD Z) vwCl (mw Z u.1 u.2) t.heap) (yA Z)) 0 0 (yA Z) := by
  refine Met.ofW (cc := cX7_push) (maxL := 9) (ret := none) (by decide) rfl ?_
  intro p e s m args below meth c s₁ B hml hv
  obtain ⟨rfl, hI⟩ := hv
  have hx := B.exec
  have hb := B.bytes
  have hr := B.returns
  have hT : ∀ w ∈ wsL_law, w.before ([.ref (ya Z 0), .int x1, .int x2] : List Value).toArray s = true := fun w h => atoms_spec (ws := (Cond.code yX7_push cX7_push 9 none :: wsL_law)) B.pre w (List.mem_cons_of_mem _ h)
  have hown : s.vm.findClass RX7 = some m.cls := findClass_of_methodNamed B.named
  have hlocks := B.notSynchronized
  have hK := hI.2
  have hP := hI.1
  have hS : va_S (yA Z) s.heap s.heap [] := va_S.rf
  have hF : Fr [6] g g := Fr.rf
  have hl := lv_entry ([.ref (ya Z 0), .int x1, .int x2]) (n := 9) (Nat.le_of_ble_eq_true rfl)
  rw [lg_entry_eq]
  generalize (lg_sl ([.ref (ya Z 0), .int x1, .int x2]) ++ List.replicate (9 - (lg_sl ([.ref (ya Z 0), .int x1, .int x2])).length) Slot.unset).toArray = ls at hl ⊢
  have hl : lv_has ls 9 [(0, .ref (ya Z 0)), (1, .int x1), (2, .int x2)] := hl
  have L5 : ∀ (n : Nat) (f : Nat) (z3 : Int32) (z4 : Int32) (g1 : Nat → Nat → Int32) (H : Heap) (locs : List Loc) (hP : va_P (yD Z) vwCl (mw Z g1 gl) H) (hF : Fr [6] g g1) (hJ : MJ g1) (hS : va_S (yA Z) s.heap H locs) (h3 : 1 ≤ z3.toInt ∧ z3.toInt ≤ 127) (h4 : 0 ≤ z4.toInt ∧ z4.toInt < 70) (hf : 128 ≤ z3.toInt.toNat * 2 ^ f) (hE : psh g f (g1 6) z3.toInt.toNat z4 = psh g 7 (g 6) x1.toInt.toNat x2) (hn : (128 - z3.toInt).toNat < n) (ls : Array Slot) (hl : lv_has ls 9 [(0, .ref (ya Z 0)), (1, .int x1), (2, .int x2), (3, .int z3), (4, .int z4)]), W p l e ({ frames := 4, cells := 0, slots := 0, locals := 95 } : Room) s m ([.ref (ya Z 0), .int x1, .int x2] : List Value).toArray below meth c H locs 0 0 (MQ below (va_Qv (fun (u : (Nat → Nat → Int32) × (Nat → Nat → Int64)) => Fr [6] g u.1 ∧ MJ u.1 ∧ gl = u.2 ∧ u.1 6 = psh g 7 (g 6) x1.toInt.toNat x2) (fun u t => va_P (yD Z) vwCl (mw Z u.1 u.2) t.heap) (yA Z)) ([.ref (ya Z 0), .int x1, .int x2] : List Value).toArray s 0 0 (yA Z)) (F0 m 5 ls []) := by
    intro n
    induction n with
    | zero => intro f z3 z4 g1 H locs hP hF hJ hS h3 h4 hf hE hn; exact absurd hn (Nat.not_lt_zero _)
    | succ n ih5 =>
      intro f z3 z4 g1 H locs hP hF hJ hS h3 h4 hf hE hn ls hl
      refine lv_iload hx hb dX7_push_5 (lv_at hl 4 rfl) ?_
      refine lv_iconst (v := (-1)) hx hb dX7_push_7 (by decide) ?_
      refine lv_icmp_eq (tgt := 176) hx hb dX7_push_8 (by decide) (fun c_8 => ?_) (fun c_8 => ?_)
      · skip
        have i_8 := ti_eqk rfl tk_m1 c_8
        exfalso
        omega
      · skip
        have i_8 := ti_nek rfl tk_m1 c_8
        have hv : 1 ≤ z3.toInt.toNat ∧ z3.toInt.toNat ≤ 127 := by omega
        have c3 : ((z3.toInt.toNat : Nat) : Int) = z3.toInt := by omega
        obtain ⟨f, rfl⟩ : ∃ f2, f = f2 + 1 := by
          cases f with
          | zero => exact absurd hf (by rw [Nat.pow_zero]; omega)
          | succ f2 => exact ⟨f2, rfl⟩
        have hF0 := hF
        refine lv_aload_n hx hb dX7_push_11 rfl (lv_at hl 0 rfl) ?_
        refine va_get (D := yD Z) (ci := 7) (v := .ref (ya Z 6)) (C := RX7) (T := TX7) (N := 31) hx hb hT inlX7 hown hK hP 0 mw_0 rfl 7 (by decide) (hT _ (tr_4 _ (List.mem_of_getElem? (i := 18) rfl))) (fun _ h9 => h9) rfl dX7_push_12 ?_
        refine lv_iload_n hx hb dX7_push_15 rfl (lv_at hl 3 rfl) ?_
        have h_16 : vp_in z3 128 := (ti_vp (by omega) (by omega))
        refine va_iald hx hb hK hP 6 1 mw_6 rfl h_16 dX7_push_16 ?_
        refine lv_topi (fun v_16 e_16 => ?_)
        have e16 : v_16 = g1 6 z3.toInt.toNat := e_16
        refine lv_iconst (v := (-1)) hx hb dX7_push_17 (by decide) ?_
        refine lv_icmp_ne (tgt := 35) hx hb dX7_push_18 (by decide) (fun c_18 => ?_) (fun c_18 => ?_)
        · skip
          have i_18 := ti_nek rfl tk_m1 c_18
          refine lv_aload_n hx hb dX7_push_35 rfl (lv_at hl 0 rfl) ?_
          refine va_get (D := yD Z) (ci := 7) (v := .ref (ya Z 6)) (C := RX7) (T := TX7) (N := 31) hx hb hT inlX7 hown hK hP 0 mw_0 rfl 7 (by decide) (hT _ (tr_4 _ (List.mem_of_getElem? (i := 18) rfl))) (fun _ h9 => h9) rfl dX7_push_36 ?_
          refine lv_iload_n hx hb dX7_push_39 rfl (lv_at hl 3 rfl) ?_
          have h_40 : vp_in z3 128 := (ti_vp (by omega) (by omega))
          refine va_iald hx hb hK hP 6 1 mw_6 rfl h_40 dX7_push_40 ?_
          rw [← e_16]
          refine lv_istore (lv' := [(5, .int v_16), (0, .ref (ya Z 0)), (1, .int x1), (2, .int x2), (3, .int z3), (4, .int z4)]) hx hb dX7_push_41 hl (by decide) rfl (fun ls hl => ?_)
          have j16 := hJ.j6 z3.toNatClampNeg
          rw [← e_16] at j16
          refine lv_aload_n hx hb dX7_push_43 rfl (lv_at hl 1 rfl) ?_
          refine lv_iload hx hb dX7_push_44 (lv_at hl 5 rfl) ?_
          refine lv_iload hx hb dX7_push_46 (lv_at hl 0 rfl) ?_
          refine lv_iload_n hx hb dX7_push_48 rfl (lv_at hl 4 rfl) ?_
          refine rd_ci (va_runS (As := [.int z3]) (rest := [.int v_16, .int z4, .ref (ya Z 0)]) ⟨hx, hb, hml, hown, hT⟩ (c_X7_middleAt l z3 (by first | assumption | omega | decide)) (va_cwS 1 hT (tb_S (fun _ h => h) (tr_18 _ (List.mem_of_getElem? (i := 22) rfl)) (tr_18 _ (List.mem_of_getElem? (i := 23) rfl)) (tr_1 _ (List.mem_of_getElem? (i := 5) rfl)) (tr_19 _ (List.mem_of_getElem? (i := 0) rfl))) rfl rfl rfl (by decide +kernel) ⟨Nat.le_of_ble_eq_true rfl, Nat.le_of_ble_eq_true rfl⟩) ⟨fun _ _ _ _ q => q, fun U hU hW => ⟨rfl, trivial⟩⟩ rfl rfl hl.1 rfl (lv_room (Nat.le_of_ble_eq_true rfl)) dX7_push_49 ⟨Nat.zero_le _, Nat.zero_le _⟩) (fun r_49 hr_49 => ?_)
          have q49 := nI_ek hr_49
          refine rd_ci (va_runV (As := [.int z4, .int v_16, .int r_49]) (rest := []) ⟨hx, hb, hml, hown, hT⟩ (c_X7_isBetter l Z hZ g1 gl z4 v_16 r_49 (by first | assumption | omega | decide) (by first | assumption | omega | decide) hJ) (cwV 3 hT (tb_V (fun _ h => h) (tr_19 _ (List.mem_of_getElem? (i := 1) rfl)) (tr_19 _ (List.mem_of_getElem? (i := 2) rfl)) (tr_19 _ (List.mem_of_getElem? (i := 3) rfl)) (tr_1 _ (List.mem_of_getElem? (i := 5) rfl)) (tr_19 _ (List.mem_of_getElem? (i := 4) rfl))) rfl rfl rfl (by decide +kernel) ⟨Nat.le_of_ble_eq_true rfl, Nat.le_of_ble_eq_true rfl⟩) ⟨fun a U f mk q => ⟨q.1, MI.blind f mk a q.2⟩, va_recv hK hP (ci := 7) (q0 := 0) rfl mw_0, fun U hU hW => ⟨rfl, hI.at hS hP hU hW⟩⟩ rfl rfl hl.1 rfl (lv_room (Nat.le_of_ble_eq_true rfl)) dX7_push_52 ⟨Nat.zero_le _, Nat.zero_le _⟩) (fun r_52 hr_52 => ?_)
          rcases hr_52 with ⟨rfl, b_52⟩ | ⟨rfl, b_52⟩
          · skip
            have b52 : mbt g z4 v_16 (nI (miN z3.toInt.toNat)) = true := by rw [q49, mbt_fr hF0 (by decide)] at b_52; exact b_52
            refine lv_istore (lv' := [(6, .int 1), (5, .int v_16), (0, .ref (ya Z 0)), (1, .int x1), (2, .int x2), (3, .int z3), (4, .int z4)]) hx hb dX7_push_55 hl (by decide) rfl (fun ls hl => ?_)
            refine lv_aload_n hx hb dX7_push_57 rfl (lv_at hl 2 rfl) ?_
            refine va_get (D := yD Z) (ci := 7) (v := .ref (ya Z 6)) (C := RX7) (T := TX7) (N := 31) hx hb hT inlX7 hown hK hP 0 mw_0 rfl 7 (by decide) (hT _ (tr_4 _ (List.mem_of_getElem? (i := 18) rfl))) (fun _ h9 => h9) rfl dX7_push_58 ?_
            refine lv_iload_n hx hb dX7_push_61 rfl (lv_at hl 5 rfl) ?_
            refine lv_iload hx hb dX7_push_62 (lv_at hl 0 rfl) ?_
            refine lv_if_eq (tgt := 72) hx hb dX7_push_64 (by decide) (fun c_64 => absurd c_64 (by decide)) (fun c_64 => ?_)
            refine lv_iload hx hb dX7_push_67 (lv_at hl 6 rfl) ?_
            refine lv_goto (tgt := 74) hx hb dX7_push_69 (by decide) ?_
            have h_74 : vp_in z3 128 := (ti_vp (by omega) (by omega))
            refine va_iast hx hb hK hP hZ.D hS 6 1 mw_6 rfl h_74 dX7_push_74 (fun H locs hP _ hS => ?_)
            replace hP := ms_6 hP
            have hF := hF.uR (i := 6) (r := upd (g1 6) z3.toNatClampNeg z4) (by decide)
            have hJ := hJ.a6 (k := z3.toNatClampNeg) (v := z4) (by first | omega | decide)
            refine lv_iload hx hb dX7_push_75 (lv_at hl 0 rfl) ?_
            refine lv_if_eq (tgt := 85) hx hb dX7_push_77 (by decide) (fun c_77 => absurd c_77 (by decide)) (fun c_77 => ?_)
            refine lv_iload hx hb dX7_push_80 (lv_at hl 1 rfl) ?_
            refine lv_goto (tgt := 87) hx hb dX7_push_82 (by decide) ?_
            refine lv_istore (lv' := [(4, .int v_16), (6, .int 1), (5, .int v_16), (0, .ref (ya Z 0)), (1, .int x1), (2, .int x2), (3, .int z3)]) hx hb dX7_push_87 hl (by decide) rfl (fun ls hl => ?_)
            refine lv_aload_n hx hb dX7_push_89 rfl (lv_at hl 3 rfl) ?_
            refine lv_iload hx hb dX7_push_90 (lv_at hl 0 rfl) ?_
            refine lv_aload_n hx hb dX7_push_92 rfl (lv_at hl 3 rfl) ?_
            refine va_get (D := yD Z) (ci := 7) (v := .ref (ya Z 6)) (C := RX7) (T := TX7) (N := 31) hx hb hT inlX7 hown hK hP 0 mw_0 rfl 7 (by decide) (hT _ (tr_4 _ (List.mem_of_getElem? (i := 18) rfl))) (fun _ h9 => h9) rfl dX7_push_93 ?_
            refine lv_iload_n hx hb dX7_push_96 rfl (lv_at hl 6 rfl) ?_
            have h_97 : vp_in z3 128 := (ti_vp (by omega) (by omega))
            refine va_iald hx hb hK hP 6 1 mw_6 rfl h_97 dX7_push_97 ?_
            refine lv_topi (fun v_97 e_97 => ?_)
            have q97 : v_97 = z4 := by rw [e_97]; exact pk_us
            have w97 : v_97.toInt = z4.toInt := by rw [q97]
            refine lv_iload_n hx hb dX7_push_98 rfl (lv_at hl 6 rfl) ?_
            refine rd_ci (va_runS (As := [.int z3]) (rest := [.int v_97, .int v_16, .ref (ya Z 0)]) ⟨hx, hb, hml, hown, hT⟩ (c_X7_firstAt l z3 (by first | assumption | omega | decide)) (va_cwS 1 hT (tb_S (fun _ h => h) (tr_18 _ (List.mem_of_getElem? (i := 9) rfl)) (tr_18 _ (List.mem_of_getElem? (i := 10) rfl)) (tr_1 _ (List.mem_of_getElem? (i := 5) rfl)) (tr_18 _ (List.mem_of_getElem? (i := 11) rfl))) rfl rfl rfl (by decide +kernel) ⟨Nat.le_of_ble_eq_true rfl, Nat.le_of_ble_eq_true rfl⟩) ⟨fun _ _ _ _ q => q, fun U hU hW => ⟨rfl, trivial⟩⟩ rfl rfl hl.1 rfl (lv_room (Nat.le_of_ble_eq_true rfl)) dX7_push_99 ⟨Nat.zero_le _, Nat.zero_le _⟩) (fun r_99 hr_99 => ?_)
            rw [← c3, firP_N hv.1 hv.2] at hr_99
            have q99 := nI_ek hr_99
            refine rd_ci (va_runV (As := [.int v_16, .int v_97, .int r_99]) (rest := []) ⟨hx, hb, hml, hown, hT⟩ (c_X7_isBetter l Z hZ (upR g1 6 (upd (g1 6) z3.toNatClampNeg z4)) gl v_16 v_97 r_99 (by first | assumption | omega | decide) (by first | assumption | omega | decide) hJ) (cwV 3 hT (tb_V (fun _ h => h) (tr_19 _ (List.mem_of_getElem? (i := 1) rfl)) (tr_19 _ (List.mem_of_getElem? (i := 2) rfl)) (tr_19 _ (List.mem_of_getElem? (i := 3) rfl)) (tr_1 _ (List.mem_of_getElem? (i := 5) rfl)) (tr_19 _ (List.mem_of_getElem? (i := 4) rfl))) rfl rfl rfl (by decide +kernel) ⟨Nat.le_of_ble_eq_true rfl, Nat.le_of_ble_eq_true rfl⟩) ⟨fun a U f mk q => ⟨q.1, MI.blind f mk a q.2⟩, va_recv hK hP (ci := 7) (q0 := 0) rfl mw_0, fun U hU hW => ⟨rfl, hI.at hS hP hU hW⟩⟩ rfl rfl hl.1 rfl (lv_room (Nat.le_of_ble_eq_true rfl)) dX7_push_102 ⟨Nat.zero_le _, Nat.zero_le _⟩) (fun r_102 hr_102 => ?_)
            rcases hr_102 with ⟨rfl, b_102⟩ | ⟨rfl, b_102⟩
            · skip
              have b102 : mbt g v_16 z4 (nI (fiN z3.toInt.toNat)) = true := by rw [q97, q99, mbt_fr hF (by decide)] at b_102; exact b_102
              have nl : z3.toInt ≤ 63 := by
                rcases Int.lt_or_le 63 z3.toInt with q | q
                · exfalso
                  have lq := nd_leaf (v := z3.toInt.toNat) (by omega)
                  rw [lq.1] at b102
                  have z := mbt_asym b52
                  rw [z] at b102; cases b102
                · exact q
              refine lv_istore (lv' := [(7, .int 1), (4, .int v_16), (6, .int 1), (5, .int v_16), (0, .ref (ya Z 0)), (1, .int x1), (2, .int x2), (3, .int z3)]) hx hb dX7_push_105 hl (by decide) rfl (fun ls hl => ?_)
              refine lv_iload hx hb dX7_push_107 (lv_at hl 0 rfl) ?_
              refine lv_if_ne (tgt := 135) hx hb dX7_push_109 (by decide) (fun c_109 => ?_) (fun c_109 => absurd c_109 (by decide))
              refine lv_iconst (v := 0) hx hb dX7_push_135 (by decide) ?_
              refine lv_istore (lv' := [(8, .int 0), (7, .int 1), (4, .int v_16), (6, .int 1), (5, .int v_16), (0, .ref (ya Z 0)), (1, .int x1), (2, .int x2), (3, .int z3)]) hx hb dX7_push_136 hl (by decide) rfl (fun ls hl => ?_)
              refine lv_iload hx hb dX7_push_138 (lv_at hl 1 rfl) ?_
              refine lv_if_ne (tgt := 148) hx hb dX7_push_140 (by decide) (fun c_140 => ?_) (fun c_140 => absurd c_140 (by decide))
              refine lv_iload hx hb dX7_push_148 (lv_at hl 2 rfl) ?_
              refine lv_goto (tgt := 154) hx hb dX7_push_150 (by decide) ?_
              refine lv_istore (lv' := [(4, .int v_16), (8, .int 0), (7, .int 1), (6, .int 1), (5, .int v_16), (0, .ref (ya Z 0)), (1, .int x1), (2, .int x2), (3, .int z3)]) hx hb dX7_push_154 hl (by decide) rfl (fun ls hl => ?_)
              refine lv_iload hx hb dX7_push_156 (lv_at hl 2 rfl) ?_
              refine lv_if_eq (tgt := 167) hx hb dX7_push_158 (by decide) (fun c_158 => absurd c_158 (by decide)) (fun c_158 => ?_)
              refine lv_iconst (v := 2) hx hb dX7_push_161 (by decide) ?_
              refine lv_iload_n hx hb dX7_push_162 rfl (lv_at hl 8 rfl) ?_
              refine lv_imul hx hb dX7_push_163 ?_
              refine lv_topi (fun v_163 e_163 => ?_)
              have t_163 := ti_mulk tk_2 rfl (by omega) (by omega) e_163
              refine lv_goto (tgt := 172) hx hb dX7_push_164 (by decide) ?_
              refine lv_istore_n (lv' := [(3, .int v_163), (4, .int v_16), (8, .int 0), (7, .int 1), (6, .int 1), (5, .int v_16), (0, .ref (ya Z 0)), (1, .int x1), (2, .int x2)]) hx hb dX7_push_172 rfl hl (by decide) rfl (fun ls hl => ?_)
              refine lv_goto (tgt := 5) hx hb dX7_push_173 (by decide) ?_
              exact ih5 f v_163 v_16 (upR g1 6 (upd (g1 6) z3.toNatClampNeg z4)) _ _ hP hF hJ hS (by first | assumption | omega | decide) (by first | assumption | omega | decide) (by rw [Nat.pow_succ] at hf; rw [show v_163.toInt.toNat = 2 * z3.toInt.toNat by omega]; have q := Nat.mul_le_mul_right (2 ^ f) (show z3.toInt.toNat * 2 ≤ 2 * z3.toInt.toNat by omega); rw [Nat.mul_comm (2 ^ f) 2, ← Nat.mul_assoc] at hf; omega) (by show psh g f (upd (g1 6) z3.toInt.toNat z4) _ _ = _; rw [show v_163.toInt.toNat = 2 * z3.toInt.toNat by omega, ← pM_yl hv (fun z => c_18 (e16.trans z)) e16 b52 b102]; exact hE) (by omega) ls (lv_sub hl [6, 7, 8, 0, 1] rfl)
            · skip
              have b102 : mbt g v_16 z4 (nI (fiN z3.toInt.toNat)) = false := by rw [q97, q99, mbt_fr hF (by decide)] at b_102; exact b_102
              refine lv_istore (lv' := [(7, .int 0), (4, .int v_16), (6, .int 1), (5, .int v_16), (0, .ref (ya Z 0)), (1, .int x1), (2, .int x2), (3, .int z3)]) hx hb dX7_push_105 hl (by decide) rfl (fun ls hl => ?_)
              refine lv_iload hx hb dX7_push_107 (lv_at hl 0 rfl) ?_
              refine lv_if_ne (tgt := 135) hx hb dX7_push_109 (by decide) (fun c_109 => absurd c_109 (by decide)) (fun c_109 => ?_)
              refine lv_aload_n hx hb dX7_push_112 rfl (lv_at hl 4 rfl) ?_
              refine lv_iload hx hb dX7_push_113 (lv_at hl 1 rfl) ?_
              refine lv_aload_n hx hb dX7_push_115 rfl (lv_at hl 4 rfl) ?_
              refine va_get (D := yD Z) (ci := 7) (v := .ref (ya Z 6)) (C := RX7) (T := TX7) (N := 31) hx hb hT inlX7 hown hK hP 0 mw_0 rfl 7 (by decide) (hT _ (tr_4 _ (List.mem_of_getElem? (i := 18) rfl))) (fun _ h9 => h9) rfl dX7_push_116 ?_
              refine lv_iload_n hx hb dX7_push_119 rfl (lv_at hl 7 rfl) ?_
              have h_120 : vp_in z3 128 := (ti_vp (by omega) (by omega))
              refine va_iald hx hb hK hP 6 1 mw_6 rfl h_120 dX7_push_120 ?_
              rw [← e_97]
              refine lv_iload_n hx hb dX7_push_121 rfl (lv_at hl 7 rfl) ?_
              refine rd_ci (va_runS (As := [.int z3]) (rest := [.int v_97, .int v_16, .ref (ya Z 0)]) ⟨hx, hb, hml, hown, hT⟩ (c_X7_lastAt l z3 (by first | assumption | omega | decide)) (va_cwS 1 hT (tb_S (fun _ h => h) (tr_18 _ (List.mem_of_getElem? (i := 15) rfl)) (tr_18 _ (List.mem_of_getElem? (i := 16) rfl)) (tr_1 _ (List.mem_of_getElem? (i := 5) rfl)) (tr_18 _ (List.mem_of_getElem? (i := 17) rfl))) rfl rfl rfl (by decide +kernel) ⟨Nat.le_of_ble_eq_true rfl, Nat.le_of_ble_eq_true rfl⟩) ⟨fun _ _ _ _ q => q, fun U hU hW => ⟨rfl, trivial⟩⟩ rfl rfl hl.1 rfl (lv_room (Nat.le_of_ble_eq_true rfl)) dX7_push_122 ⟨Nat.zero_le _, Nat.zero_le _⟩) (fun r_122 hr_122 => ?_)
              rw [← c3, lasP_N hv.1 hv.2] at hr_122
              have q122 := nI_ek hr_122
              refine rd_ci (va_runV (As := [.int v_16, .int v_97, .int r_122]) (rest := []) ⟨hx, hb, hml, hown, hT⟩ (c_X7_isBetter l Z hZ (upR g1 6 (upd (g1 6) z3.toNatClampNeg z4)) gl v_16 v_97 r_122 (by first | assumption | omega | decide) (by first | assumption | omega | decide) hJ) (cwV 3 hT (tb_V (fun _ h => h) (tr_19 _ (List.mem_of_getElem? (i := 1) rfl)) (tr_19 _ (List.mem_of_getElem? (i := 2) rfl)) (tr_19 _ (List.mem_of_getElem? (i := 3) rfl)) (tr_1 _ (List.mem_of_getElem? (i := 5) rfl)) (tr_19 _ (List.mem_of_getElem? (i := 4) rfl))) rfl rfl rfl (by decide +kernel) ⟨Nat.le_of_ble_eq_true rfl, Nat.le_of_ble_eq_true rfl⟩) ⟨fun a U f mk q => ⟨q.1, MI.blind f mk a q.2⟩, va_recv hK hP (ci := 7) (q0 := 0) rfl mw_0, fun U hU hW => ⟨rfl, hI.at hS hP hU hW⟩⟩ rfl rfl hl.1 rfl (lv_room (Nat.le_of_ble_eq_true rfl)) dX7_push_125 ⟨Nat.zero_le _, Nat.zero_le _⟩) (fun r_125 hr_125 => ?_)
              rcases hr_125 with ⟨rfl, b_125⟩ | ⟨rfl, b_125⟩
              · skip
                have b125 : mbt g v_16 z4 (nI (laN z3.toInt.toNat)) = true := by rw [q97, q122, mbt_fr hF (by decide)] at b_125; exact b_125
                have nl : z3.toInt ≤ 63 := by
                  rcases Int.lt_or_le 63 z3.toInt with q | q
                  · exfalso
                    have lq := nd_leaf (v := z3.toInt.toNat) (by omega)
                    rw [lq.2.1] at b125
                    have z := mbt_asym b52
                    rw [z] at b125; cases b125
                  · exact q
                refine lv_if_eq (tgt := 135) hx hb dX7_push_128 (by decide) (fun c_128 => absurd c_128 (by decide)) (fun c_128 => ?_)
                refine lv_iconst (v := 1) hx hb dX7_push_131 (by decide) ?_
                refine lv_goto (tgt := 136) hx hb dX7_push_132 (by decide) ?_
                refine lv_istore (lv' := [(8, .int 1), (7, .int 0), (4, .int v_16), (6, .int 1), (5, .int v_16), (0, .ref (ya Z 0)), (1, .int x1), (2, .int x2), (3, .int z3)]) hx hb dX7_push_136 hl (by decide) rfl (fun ls hl => ?_)
                refine lv_iload hx hb dX7_push_138 (lv_at hl 1 rfl) ?_
                refine lv_if_ne (tgt := 148) hx hb dX7_push_140 (by decide) (fun c_140 => absurd c_140 (by decide)) (fun c_140 => ?_)
                refine lv_iload hx hb dX7_push_143 (lv_at hl 0 rfl) ?_
                refine lv_if_eq (tgt := 153) hx hb dX7_push_145 (by decide) (fun c_145 => absurd c_145 (by decide)) (fun c_145 => ?_)
                refine lv_iload hx hb dX7_push_148 (lv_at hl 2 rfl) ?_
                refine lv_goto (tgt := 154) hx hb dX7_push_150 (by decide) ?_
                refine lv_istore (lv' := [(4, .int v_16), (8, .int 1), (7, .int 0), (6, .int 1), (5, .int v_16), (0, .ref (ya Z 0)), (1, .int x1), (2, .int x2), (3, .int z3)]) hx hb dX7_push_154 hl (by decide) rfl (fun ls hl => ?_)
                refine lv_iload hx hb dX7_push_156 (lv_at hl 2 rfl) ?_
                refine lv_if_eq (tgt := 167) hx hb dX7_push_158 (by decide) (fun c_158 => ?_) (fun c_158 => absurd c_158 (by decide))
                refine lv_iconst (v := 2) hx hb dX7_push_167 (by decide) ?_
                refine lv_iload_n hx hb dX7_push_168 rfl (lv_at hl 8 rfl) ?_
                refine lv_imul hx hb dX7_push_169 ?_
                refine lv_topi (fun v_169 e_169 => ?_)
                have t_169 := ti_mulk tk_2 rfl (by omega) (by omega) e_169
                refine lv_iconst (v := 1) hx hb dX7_push_170 (by decide) ?_
                refine lv_iadd hx hb dX7_push_171 ?_
                refine lv_topi (fun v_171 e_171 => ?_)
                have t_171 := ti_addk rfl tk_1 (by omega) (by omega) e_171
                refine lv_istore_n (lv' := [(3, .int v_171), (4, .int v_16), (8, .int 1), (7, .int 0), (6, .int 1), (5, .int v_16), (0, .ref (ya Z 0)), (1, .int x1), (2, .int x2)]) hx hb dX7_push_172 rfl hl (by decide) rfl (fun ls hl => ?_)
                refine lv_goto (tgt := 5) hx hb dX7_push_173 (by decide) ?_
                exact ih5 f v_171 v_16 (upR g1 6 (upd (g1 6) z3.toNatClampNeg z4)) _ _ hP hF hJ hS (by first | assumption | omega | decide) (by first | assumption | omega | decide) (by rw [Nat.pow_succ] at hf; rw [show v_171.toInt.toNat = 2 * z3.toInt.toNat + 1 by omega]; have q := Nat.mul_le_mul_right (2 ^ f) (show z3.toInt.toNat * 2 ≤ 2 * z3.toInt.toNat + 1 by omega); rw [Nat.mul_comm (2 ^ f) 2, ← Nat.mul_assoc] at hf; omega) (by show psh g f (upd (g1 6) z3.toInt.toNat z4) _ _ = _; rw [show v_171.toInt.toNat = 2 * z3.toInt.toNat + 1 by omega, ← pM_yh hv (fun z => c_18 (e16.trans z)) e16 b52 b102 b125]; exact hE) (by omega) ls (lv_sub hl [6, 7, 8, 0, 1] rfl)
              · skip
                have b125 : mbt g v_16 z4 (nI (laN z3.toInt.toNat)) = false := by rw [q97, q122, mbt_fr hF (by decide)] at b_125; exact b_125
                refine lv_if_eq (tgt := 135) hx hb dX7_push_128 (by decide) (fun c_128 => ?_) (fun c_128 => absurd c_128 (by decide))
                refine lv_iconst (v := 0) hx hb dX7_push_135 (by decide) ?_
                refine lv_istore (lv' := [(8, .int 0), (7, .int 0), (4, .int v_16), (6, .int 1), (5, .int v_16), (0, .ref (ya Z 0)), (1, .int x1), (2, .int x2), (3, .int z3)]) hx hb dX7_push_136 hl (by decide) rfl (fun ls hl => ?_)
                refine lv_iload hx hb dX7_push_138 (lv_at hl 1 rfl) ?_
                refine lv_if_ne (tgt := 148) hx hb dX7_push_140 (by decide) (fun c_140 => absurd c_140 (by decide)) (fun c_140 => ?_)
                refine lv_iload hx hb dX7_push_143 (lv_at hl 0 rfl) ?_
                refine lv_if_eq (tgt := 153) hx hb dX7_push_145 (by decide) (fun c_145 => ?_) (fun c_145 => absurd c_145 (by decide))
                refine lv_iconst (v := (-1)) hx hb dX7_push_153 (by decide) ?_
                refine lv_istore (lv' := [(4, .int (-1)), (8, .int 0), (7, .int 0), (6, .int 1), (5, .int v_16), (0, .ref (ya Z 0)), (1, .int x1), (2, .int x2), (3, .int z3)]) hx hb dX7_push_154 hl (by decide) rfl (fun ls hl => ?_)
                refine lv_iload hx hb dX7_push_156 (lv_at hl 2 rfl) ?_
                refine lv_if_eq (tgt := 167) hx hb dX7_push_158 (by decide) (fun c_158 => ?_) (fun c_158 => absurd c_158 (by decide))
                refine lv_iconst (v := 2) hx hb dX7_push_167 (by decide) ?_
                refine lv_iload_n hx hb dX7_push_168 rfl (lv_at hl 8 rfl) ?_
                refine lv_imul hx hb dX7_push_169 ?_
                refine lv_topi (fun v_169 e_169 => ?_)
                have t_169 := ti_mulk tk_2 rfl (by omega) (by omega) e_169
                refine lv_iconst (v := 1) hx hb dX7_push_170 (by decide) ?_
                refine lv_iadd hx hb dX7_push_171 ?_
                refine lv_topi (fun v_171 e_171 => ?_)
                have t_171 := ti_addk rfl tk_1 (by omega) (by omega) e_171
                refine lv_istore_n (lv' := [(3, .int v_171), (4, .int (-1)), (8, .int 0), (7, .int 0), (6, .int 1), (5, .int v_16), (0, .ref (ya Z 0)), (1, .int x1), (2, .int x2)]) hx hb dX7_push_172 rfl hl (by decide) rfl (fun ls hl => ?_)
                refine lv_goto (tgt := 5) hx hb dX7_push_173 (by decide) ?_
                refine lv_iload hx hb dX7_push_5 (lv_at hl 1 rfl) ?_
                refine lv_iconst (v := (-1)) hx hb dX7_push_7 (by decide) ?_
                refine lv_icmp_eq (tgt := 176) hx hb dX7_push_8 (by decide) (fun c_8 => ?_) (fun c_8 => absurd c_8 (by decide))
                exact W.vret hx hb hr (fun t ht hW => ⟨⟨((upR g1 6 (upd (g1 6) z3.toNatClampNeg z4)), gl), rfl, ⟨hF, hJ, rfl, (by (try dsimp only); show upd (g1 6) z3.toInt.toNat z4 = _; rw [← hE, pM_y0 hv (fun z => c_18 (e16.trans z)) e16 b52 b102 b125])⟩, by show va_P (yD Z) vwCl (mw Z (upR g1 6 (upd (g1 6) z3.toNatClampNeg z4)) gl) t.heap; rw [ht]; exact hP⟩, hS.F ht⟩) hS.2.2 dX7_push_176
          · skip
            have b52 : mbt g z4 v_16 (nI (miN z3.toInt.toNat)) = false := by rw [q49, mbt_fr hF0 (by decide)] at b_52; exact b_52
            refine lv_istore (lv' := [(6, .int 0), (5, .int v_16), (0, .ref (ya Z 0)), (1, .int x1), (2, .int x2), (3, .int z3), (4, .int z4)]) hx hb dX7_push_55 hl (by decide) rfl (fun ls hl => ?_)
            refine lv_aload_n hx hb dX7_push_57 rfl (lv_at hl 2 rfl) ?_
            refine va_get (D := yD Z) (ci := 7) (v := .ref (ya Z 6)) (C := RX7) (T := TX7) (N := 31) hx hb hT inlX7 hown hK hP 0 mw_0 rfl 7 (by decide) (hT _ (tr_4 _ (List.mem_of_getElem? (i := 18) rfl))) (fun _ h9 => h9) rfl dX7_push_58 ?_
            refine lv_iload_n hx hb dX7_push_61 rfl (lv_at hl 5 rfl) ?_
            refine lv_iload hx hb dX7_push_62 (lv_at hl 0 rfl) ?_
            refine lv_if_eq (tgt := 72) hx hb dX7_push_64 (by decide) (fun c_64 => ?_) (fun c_64 => absurd c_64 (by decide))
            refine lv_iload hx hb dX7_push_72 (lv_at hl 1 rfl) ?_
            have h_74 : vp_in z3 128 := (ti_vp (by omega) (by omega))
            refine va_iast hx hb hK hP hZ.D hS 6 1 mw_6 rfl h_74 dX7_push_74 (fun H locs hP _ hS => ?_)
            replace hP := ms_6 hP
            have hF := hF.uR (i := 6) (r := upd (g1 6) z3.toNatClampNeg v_16) (by decide)
            have hJ := hJ.a6 (k := z3.toNatClampNeg) (v := v_16) (by first | omega | decide)
            refine lv_iload hx hb dX7_push_75 (lv_at hl 0 rfl) ?_
            refine lv_if_eq (tgt := 85) hx hb dX7_push_77 (by decide) (fun c_77 => ?_) (fun c_77 => absurd c_77 (by decide))
            refine lv_iload hx hb dX7_push_85 (lv_at hl 6 rfl) ?_
            refine lv_istore (lv' := [(4, .int z4), (6, .int 0), (5, .int v_16), (0, .ref (ya Z 0)), (1, .int x1), (2, .int x2), (3, .int z3)]) hx hb dX7_push_87 hl (by decide) rfl (fun ls hl => ?_)
            refine lv_aload_n hx hb dX7_push_89 rfl (lv_at hl 3 rfl) ?_
            refine lv_iload hx hb dX7_push_90 (lv_at hl 0 rfl) ?_
            refine lv_aload_n hx hb dX7_push_92 rfl (lv_at hl 3 rfl) ?_
            refine va_get (D := yD Z) (ci := 7) (v := .ref (ya Z 6)) (C := RX7) (T := TX7) (N := 31) hx hb hT inlX7 hown hK hP 0 mw_0 rfl 7 (by decide) (hT _ (tr_4 _ (List.mem_of_getElem? (i := 18) rfl))) (fun _ h9 => h9) rfl dX7_push_93 ?_
            refine lv_iload_n hx hb dX7_push_96 rfl (lv_at hl 6 rfl) ?_
            have h_97 : vp_in z3 128 := (ti_vp (by omega) (by omega))
            refine va_iald hx hb hK hP 6 1 mw_6 rfl h_97 dX7_push_97 ?_
            refine lv_topi (fun v_97 e_97 => ?_)
            have q97 : v_97 = v_16 := by rw [e_97]; exact pk_us
            have w97 : v_97.toInt = v_16.toInt := by rw [q97]
            refine lv_iload_n hx hb dX7_push_98 rfl (lv_at hl 6 rfl) ?_
            refine rd_ci (va_runS (As := [.int z3]) (rest := [.int v_97, .int z4, .ref (ya Z 0)]) ⟨hx, hb, hml, hown, hT⟩ (c_X7_firstAt l z3 (by first | assumption | omega | decide)) (va_cwS 1 hT (tb_S (fun _ h => h) (tr_18 _ (List.mem_of_getElem? (i := 9) rfl)) (tr_18 _ (List.mem_of_getElem? (i := 10) rfl)) (tr_1 _ (List.mem_of_getElem? (i := 5) rfl)) (tr_18 _ (List.mem_of_getElem? (i := 11) rfl))) rfl rfl rfl (by decide +kernel) ⟨Nat.le_of_ble_eq_true rfl, Nat.le_of_ble_eq_true rfl⟩) ⟨fun _ _ _ _ q => q, fun U hU hW => ⟨rfl, trivial⟩⟩ rfl rfl hl.1 rfl (lv_room (Nat.le_of_ble_eq_true rfl)) dX7_push_99 ⟨Nat.zero_le _, Nat.zero_le _⟩) (fun r_99 hr_99 => ?_)
            rw [← c3, firP_N hv.1 hv.2] at hr_99
            have q99 := nI_ek hr_99
            refine rd_ci (va_runV (As := [.int z4, .int v_97, .int r_99]) (rest := []) ⟨hx, hb, hml, hown, hT⟩ (c_X7_isBetter l Z hZ (upR g1 6 (upd (g1 6) z3.toNatClampNeg v_16)) gl z4 v_97 r_99 (by first | assumption | omega | decide) (by first | assumption | omega | decide) hJ) (cwV 3 hT (tb_V (fun _ h => h) (tr_19 _ (List.mem_of_getElem? (i := 1) rfl)) (tr_19 _ (List.mem_of_getElem? (i := 2) rfl)) (tr_19 _ (List.mem_of_getElem? (i := 3) rfl)) (tr_1 _ (List.mem_of_getElem? (i := 5) rfl)) (tr_19 _ (List.mem_of_getElem? (i := 4) rfl))) rfl rfl rfl (by decide +kernel) ⟨Nat.le_of_ble_eq_true rfl, Nat.le_of_ble_eq_true rfl⟩) ⟨fun a U f mk q => ⟨q.1, MI.blind f mk a q.2⟩, va_recv hK hP (ci := 7) (q0 := 0) rfl mw_0, fun U hU hW => ⟨rfl, hI.at hS hP hU hW⟩⟩ rfl rfl hl.1 rfl (lv_room (Nat.le_of_ble_eq_true rfl)) dX7_push_102 ⟨Nat.zero_le _, Nat.zero_le _⟩) (fun r_102 hr_102 => ?_)
            rcases hr_102 with ⟨rfl, b_102⟩ | ⟨rfl, b_102⟩
            · skip
              have b102 : mbt g z4 v_16 (nI (fiN z3.toInt.toNat)) = true := by rw [q97, q99, mbt_fr hF (by decide)] at b_102; exact b_102
              have nl : z3.toInt ≤ 63 := by
                rcases Int.lt_or_le 63 z3.toInt with q | q
                · exfalso
                  have lq := nd_leaf (v := z3.toInt.toNat) (by omega)
                  rw [lq.1] at b102
                  rw [b52] at b102; cases b102
                · exact q
              refine lv_istore (lv' := [(7, .int 1), (4, .int z4), (6, .int 0), (5, .int v_16), (0, .ref (ya Z 0)), (1, .int x1), (2, .int x2), (3, .int z3)]) hx hb dX7_push_105 hl (by decide) rfl (fun ls hl => ?_)
              refine lv_iload hx hb dX7_push_107 (lv_at hl 0 rfl) ?_
              refine lv_if_ne (tgt := 135) hx hb dX7_push_109 (by decide) (fun c_109 => ?_) (fun c_109 => absurd c_109 (by decide))
              refine lv_iconst (v := 0) hx hb dX7_push_135 (by decide) ?_
              refine lv_istore (lv' := [(8, .int 0), (7, .int 1), (4, .int z4), (6, .int 0), (5, .int v_16), (0, .ref (ya Z 0)), (1, .int x1), (2, .int x2), (3, .int z3)]) hx hb dX7_push_136 hl (by decide) rfl (fun ls hl => ?_)
              refine lv_iload hx hb dX7_push_138 (lv_at hl 1 rfl) ?_
              refine lv_if_ne (tgt := 148) hx hb dX7_push_140 (by decide) (fun c_140 => ?_) (fun c_140 => absurd c_140 (by decide))
              refine lv_iload hx hb dX7_push_148 (lv_at hl 2 rfl) ?_
              refine lv_goto (tgt := 154) hx hb dX7_push_150 (by decide) ?_
              refine lv_istore (lv' := [(4, .int z4), (8, .int 0), (7, .int 1), (6, .int 0), (5, .int v_16), (0, .ref (ya Z 0)), (1, .int x1), (2, .int x2), (3, .int z3)]) hx hb dX7_push_154 hl (by decide) rfl (fun ls hl => ?_)
              refine lv_iload hx hb dX7_push_156 (lv_at hl 2 rfl) ?_
              refine lv_if_eq (tgt := 167) hx hb dX7_push_158 (by decide) (fun c_158 => absurd c_158 (by decide)) (fun c_158 => ?_)
              refine lv_iconst (v := 2) hx hb dX7_push_161 (by decide) ?_
              refine lv_iload_n hx hb dX7_push_162 rfl (lv_at hl 8 rfl) ?_
              refine lv_imul hx hb dX7_push_163 ?_
              refine lv_topi (fun v_163 e_163 => ?_)
              have t_163 := ti_mulk tk_2 rfl (by omega) (by omega) e_163
              refine lv_goto (tgt := 172) hx hb dX7_push_164 (by decide) ?_
              refine lv_istore_n (lv' := [(3, .int v_163), (4, .int z4), (8, .int 0), (7, .int 1), (6, .int 0), (5, .int v_16), (0, .ref (ya Z 0)), (1, .int x1), (2, .int x2)]) hx hb dX7_push_172 rfl hl (by decide) rfl (fun ls hl => ?_)
              refine lv_goto (tgt := 5) hx hb dX7_push_173 (by decide) ?_
              exact ih5 f v_163 z4 (upR g1 6 (upd (g1 6) z3.toNatClampNeg v_16)) _ _ hP hF hJ hS (by first | assumption | omega | decide) (by first | assumption | omega | decide) (by rw [Nat.pow_succ] at hf; rw [show v_163.toInt.toNat = 2 * z3.toInt.toNat by omega]; have q := Nat.mul_le_mul_right (2 ^ f) (show z3.toInt.toNat * 2 ≤ 2 * z3.toInt.toNat by omega); rw [Nat.mul_comm (2 ^ f) 2, ← Nat.mul_assoc] at hf; omega) (by show psh g f (upd (g1 6) z3.toInt.toNat v_16) _ _ = _; rw [show v_163.toInt.toNat = 2 * z3.toInt.toNat by omega, ← pM_nl hv (fun z => c_18 (e16.trans z)) e16 b52 b102]; exact hE) (by omega) ls (lv_sub hl [6, 7, 8, 0, 1] rfl)
            · skip
              have b102 : mbt g z4 v_16 (nI (fiN z3.toInt.toNat)) = false := by rw [q97, q99, mbt_fr hF (by decide)] at b_102; exact b_102
              refine lv_istore (lv' := [(7, .int 0), (4, .int z4), (6, .int 0), (5, .int v_16), (0, .ref (ya Z 0)), (1, .int x1), (2, .int x2), (3, .int z3)]) hx hb dX7_push_105 hl (by decide) rfl (fun ls hl => ?_)
              refine lv_iload hx hb dX7_push_107 (lv_at hl 0 rfl) ?_
              refine lv_if_ne (tgt := 135) hx hb dX7_push_109 (by decide) (fun c_109 => absurd c_109 (by decide)) (fun c_109 => ?_)
              refine lv_aload_n hx hb dX7_push_112 rfl (lv_at hl 4 rfl) ?_
              refine lv_iload hx hb dX7_push_113 (lv_at hl 1 rfl) ?_
              refine lv_aload_n hx hb dX7_push_115 rfl (lv_at hl 4 rfl) ?_
              refine va_get (D := yD Z) (ci := 7) (v := .ref (ya Z 6)) (C := RX7) (T := TX7) (N := 31) hx hb hT inlX7 hown hK hP 0 mw_0 rfl 7 (by decide) (hT _ (tr_4 _ (List.mem_of_getElem? (i := 18) rfl))) (fun _ h9 => h9) rfl dX7_push_116 ?_
              refine lv_iload_n hx hb dX7_push_119 rfl (lv_at hl 7 rfl) ?_
              have h_120 : vp_in z3 128 := (ti_vp (by omega) (by omega))
              refine va_iald hx hb hK hP 6 1 mw_6 rfl h_120 dX7_push_120 ?_
              rw [← e_97]
              refine lv_iload_n hx hb dX7_push_121 rfl (lv_at hl 7 rfl) ?_
              refine rd_ci (va_runS (As := [.int z3]) (rest := [.int v_97, .int z4, .ref (ya Z 0)]) ⟨hx, hb, hml, hown, hT⟩ (c_X7_lastAt l z3 (by first | assumption | omega | decide)) (va_cwS 1 hT (tb_S (fun _ h => h) (tr_18 _ (List.mem_of_getElem? (i := 15) rfl)) (tr_18 _ (List.mem_of_getElem? (i := 16) rfl)) (tr_1 _ (List.mem_of_getElem? (i := 5) rfl)) (tr_18 _ (List.mem_of_getElem? (i := 17) rfl))) rfl rfl rfl (by decide +kernel) ⟨Nat.le_of_ble_eq_true rfl, Nat.le_of_ble_eq_true rfl⟩) ⟨fun _ _ _ _ q => q, fun U hU hW => ⟨rfl, trivial⟩⟩ rfl rfl hl.1 rfl (lv_room (Nat.le_of_ble_eq_true rfl)) dX7_push_122 ⟨Nat.zero_le _, Nat.zero_le _⟩) (fun r_122 hr_122 => ?_)
              rw [← c3, lasP_N hv.1 hv.2] at hr_122
              have q122 := nI_ek hr_122
              refine rd_ci (va_runV (As := [.int z4, .int v_97, .int r_122]) (rest := []) ⟨hx, hb, hml, hown, hT⟩ (c_X7_isBetter l Z hZ (upR g1 6 (upd (g1 6) z3.toNatClampNeg v_16)) gl z4 v_97 r_122 (by first | assumption | omega | decide) (by first | assumption | omega | decide) hJ) (cwV 3 hT (tb_V (fun _ h => h) (tr_19 _ (List.mem_of_getElem? (i := 1) rfl)) (tr_19 _ (List.mem_of_getElem? (i := 2) rfl)) (tr_19 _ (List.mem_of_getElem? (i := 3) rfl)) (tr_1 _ (List.mem_of_getElem? (i := 5) rfl)) (tr_19 _ (List.mem_of_getElem? (i := 4) rfl))) rfl rfl rfl (by decide +kernel) ⟨Nat.le_of_ble_eq_true rfl, Nat.le_of_ble_eq_true rfl⟩) ⟨fun a U f mk q => ⟨q.1, MI.blind f mk a q.2⟩, va_recv hK hP (ci := 7) (q0 := 0) rfl mw_0, fun U hU hW => ⟨rfl, hI.at hS hP hU hW⟩⟩ rfl rfl hl.1 rfl (lv_room (Nat.le_of_ble_eq_true rfl)) dX7_push_125 ⟨Nat.zero_le _, Nat.zero_le _⟩) (fun r_125 hr_125 => ?_)
              rcases hr_125 with ⟨rfl, b_125⟩ | ⟨rfl, b_125⟩
              · skip
                have b125 : mbt g z4 v_16 (nI (laN z3.toInt.toNat)) = true := by rw [q97, q122, mbt_fr hF (by decide)] at b_125; exact b_125
                have nl : z3.toInt ≤ 63 := by
                  rcases Int.lt_or_le 63 z3.toInt with q | q
                  · exfalso
                    have lq := nd_leaf (v := z3.toInt.toNat) (by omega)
                    rw [lq.2.1] at b125
                    rw [b52] at b125; cases b125
                  · exact q
                refine lv_if_eq (tgt := 135) hx hb dX7_push_128 (by decide) (fun c_128 => absurd c_128 (by decide)) (fun c_128 => ?_)
                refine lv_iconst (v := 1) hx hb dX7_push_131 (by decide) ?_
                refine lv_goto (tgt := 136) hx hb dX7_push_132 (by decide) ?_
                refine lv_istore (lv' := [(8, .int 1), (7, .int 0), (4, .int z4), (6, .int 0), (5, .int v_16), (0, .ref (ya Z 0)), (1, .int x1), (2, .int x2), (3, .int z3)]) hx hb dX7_push_136 hl (by decide) rfl (fun ls hl => ?_)
                refine lv_iload hx hb dX7_push_138 (lv_at hl 1 rfl) ?_
                refine lv_if_ne (tgt := 148) hx hb dX7_push_140 (by decide) (fun c_140 => absurd c_140 (by decide)) (fun c_140 => ?_)
                refine lv_iload hx hb dX7_push_143 (lv_at hl 0 rfl) ?_
                refine lv_if_eq (tgt := 153) hx hb dX7_push_145 (by decide) (fun c_145 => absurd c_145 (by decide)) (fun c_145 => ?_)
                refine lv_iload hx hb dX7_push_148 (lv_at hl 2 rfl) ?_
                refine lv_goto (tgt := 154) hx hb dX7_push_150 (by decide) ?_
                refine lv_istore (lv' := [(4, .int z4), (8, .int 1), (7, .int 0), (6, .int 0), (5, .int v_16), (0, .ref (ya Z 0)), (1, .int x1), (2, .int x2), (3, .int z3)]) hx hb dX7_push_154 hl (by decide) rfl (fun ls hl => ?_)
                refine lv_iload hx hb dX7_push_156 (lv_at hl 2 rfl) ?_
                refine lv_if_eq (tgt := 167) hx hb dX7_push_158 (by decide) (fun c_158 => ?_) (fun c_158 => absurd c_158 (by decide))
                refine lv_iconst (v := 2) hx hb dX7_push_167 (by decide) ?_
                refine lv_iload_n hx hb dX7_push_168 rfl (lv_at hl 8 rfl) ?_
                refine lv_imul hx hb dX7_push_169 ?_
                refine lv_topi (fun v_169 e_169 => ?_)
                have t_169 := ti_mulk tk_2 rfl (by omega) (by omega) e_169
                refine lv_iconst (v := 1) hx hb dX7_push_170 (by decide) ?_
                refine lv_iadd hx hb dX7_push_171 ?_
                refine lv_topi (fun v_171 e_171 => ?_)
                have t_171 := ti_addk rfl tk_1 (by omega) (by omega) e_171
                refine lv_istore_n (lv' := [(3, .int v_171), (4, .int z4), (8, .int 1), (7, .int 0), (6, .int 0), (5, .int v_16), (0, .ref (ya Z 0)), (1, .int x1), (2, .int x2)]) hx hb dX7_push_172 rfl hl (by decide) rfl (fun ls hl => ?_)
                refine lv_goto (tgt := 5) hx hb dX7_push_173 (by decide) ?_
                exact ih5 f v_171 z4 (upR g1 6 (upd (g1 6) z3.toNatClampNeg v_16)) _ _ hP hF hJ hS (by first | assumption | omega | decide) (by first | assumption | omega | decide) (by rw [Nat.pow_succ] at hf; rw [show v_171.toInt.toNat = 2 * z3.toInt.toNat + 1 by omega]; have q := Nat.mul_le_mul_right (2 ^ f) (show z3.toInt.toNat * 2 ≤ 2 * z3.toInt.toNat + 1 by omega); rw [Nat.mul_comm (2 ^ f) 2, ← Nat.mul_assoc] at hf; omega) (by show psh g f (upd (g1 6) z3.toInt.toNat v_16) _ _ = _; rw [show v_171.toInt.toNat = 2 * z3.toInt.toNat + 1 by omega, ← pM_nh hv (fun z => c_18 (e16.trans z)) e16 b52 b102 b125]; exact hE) (by omega) ls (lv_sub hl [6, 7, 8, 0, 1] rfl)
              · skip
                have b125 : mbt g z4 v_16 (nI (laN z3.toInt.toNat)) = false := by rw [q97, q122, mbt_fr hF (by decide)] at b_125; exact b_125
                refine lv_if_eq (tgt := 135) hx hb dX7_push_128 (by decide) (fun c_128 => ?_) (fun c_128 => absurd c_128 (by decide))
                refine lv_iconst (v := 0) hx hb dX7_push_135 (by decide) ?_
                refine lv_istore (lv' := [(8, .int 0), (7, .int 0), (4, .int z4), (6, .int 0), (5, .int v_16), (0, .ref (ya Z 0)), (1, .int x1), (2, .int x2), (3, .int z3)]) hx hb dX7_push_136 hl (by decide) rfl (fun ls hl => ?_)
                refine lv_iload hx hb dX7_push_138 (lv_at hl 1 rfl) ?_
                refine lv_if_ne (tgt := 148) hx hb dX7_push_140 (by decide) (fun c_140 => absurd c_140 (by decide)) (fun c_140 => ?_)
                refine lv_iload hx hb dX7_push_143 (lv_at hl 0 rfl) ?_
                refine lv_if_eq (tgt := 153) hx hb dX7_push_145 (by decide) (fun c_145 => ?_) (fun c_145 => absurd c_145 (by decide))
                refine lv_iconst (v := (-1)) hx hb dX7_push_153 (by decide) ?_
                refine lv_istore (lv' := [(4, .int (-1)), (8, .int 0), (7, .int 0), (6, .int 0), (5, .int v_16), (0, .ref (ya Z 0)), (1, .int x1), (2, .int x2), (3, .int z3)]) hx hb dX7_push_154 hl (by decide) rfl (fun ls hl => ?_)
                refine lv_iload hx hb dX7_push_156 (lv_at hl 2 rfl) ?_
                refine lv_if_eq (tgt := 167) hx hb dX7_push_158 (by decide) (fun c_158 => ?_) (fun c_158 => absurd c_158 (by decide))
                refine lv_iconst (v := 2) hx hb dX7_push_167 (by decide) ?_
                refine lv_iload_n hx hb dX7_push_168 rfl (lv_at hl 8 rfl) ?_
                refine lv_imul hx hb dX7_push_169 ?_
                refine lv_topi (fun v_169 e_169 => ?_)
                have t_169 := ti_mulk tk_2 rfl (by omega) (by omega) e_169
                refine lv_iconst (v := 1) hx hb dX7_push_170 (by decide) ?_
                refine lv_iadd hx hb dX7_push_171 ?_
                refine lv_topi (fun v_171 e_171 => ?_)
                have t_171 := ti_addk rfl tk_1 (by omega) (by omega) e_171
                refine lv_istore_n (lv' := [(3, .int v_171), (4, .int (-1)), (8, .int 0), (7, .int 0), (6, .int 0), (5, .int v_16), (0, .ref (ya Z 0)), (1, .int x1), (2, .int x2)]) hx hb dX7_push_172 rfl hl (by decide) rfl (fun ls hl => ?_)
                refine lv_goto (tgt := 5) hx hb dX7_push_173 (by decide) ?_
                refine lv_iload hx hb dX7_push_5 (lv_at hl 1 rfl) ?_
                refine lv_iconst (v := (-1)) hx hb dX7_push_7 (by decide) ?_
                refine lv_icmp_eq (tgt := 176) hx hb dX7_push_8 (by decide) (fun c_8 => ?_) (fun c_8 => absurd c_8 (by decide))
                exact W.vret hx hb hr (fun t ht hW => ⟨⟨((upR g1 6 (upd (g1 6) z3.toNatClampNeg v_16)), gl), rfl, ⟨hF, hJ, rfl, (by (try dsimp only); show upd (g1 6) z3.toInt.toNat v_16 = _; rw [← hE, pM_n0 hv (fun z => c_18 (e16.trans z)) e16 b52 b102 b125])⟩, by show va_P (yD Z) vwCl (mw Z (upR g1 6 (upd (g1 6) z3.toNatClampNeg v_16)) gl) t.heap; rw [ht]; exact hP⟩, hS.F ht⟩) hS.2.2 dX7_push_176
        · skip
          have i_18 := ti_eqk rfl tk_m1 c_18
          refine lv_aload_n hx hb dX7_push_21 rfl (lv_at hl 0 rfl) ?_
          refine va_get (D := yD Z) (ci := 7) (v := .ref (ya Z 6)) (C := RX7) (T := TX7) (N := 31) hx hb hT inlX7 hown hK hP 0 mw_0 rfl 7 (by decide) (hT _ (tr_4 _ (List.mem_of_getElem? (i := 18) rfl))) (fun _ h9 => h9) rfl dX7_push_22 ?_
          refine lv_iload_n hx hb dX7_push_25 rfl (lv_at hl 3 rfl) ?_
          refine lv_iload hx hb dX7_push_26 (lv_at hl 4 rfl) ?_
          have h_28 : vp_in z3 128 := (ti_vp (by omega) (by omega))
          refine va_iast hx hb hK hP hZ.D hS 6 1 mw_6 rfl h_28 dX7_push_28 (fun H locs hP _ hS => ?_)
          replace hP := ms_6 hP
          have hF := hF.uR (i := 6) (r := upd (g1 6) z3.toNatClampNeg z4) (by decide)
          have hJ := hJ.a6 (k := z3.toNatClampNeg) (v := z4) (by first | omega | decide)
          refine lv_iconst (v := (-1)) hx hb dX7_push_29 (by decide) ?_
          refine lv_istore (lv' := [(4, .int (-1)), (0, .ref (ya Z 0)), (1, .int x1), (2, .int x2), (3, .int z3)]) hx hb dX7_push_30 hl (by decide) rfl (fun ls hl => ?_)
          refine lv_goto (tgt := 5) hx hb dX7_push_32 (by decide) ?_
          refine lv_iload hx hb dX7_push_5 (lv_at hl 0 rfl) ?_
          refine lv_iconst (v := (-1)) hx hb dX7_push_7 (by decide) ?_
          refine lv_icmp_eq (tgt := 176) hx hb dX7_push_8 (by decide) (fun c_8 => ?_) (fun c_8 => absurd c_8 (by decide))
          exact W.vret hx hb hr (fun t ht hW => ⟨⟨((upR g1 6 (upd (g1 6) z3.toNatClampNeg z4)), gl), rfl, ⟨hF, hJ, rfl, (by (try dsimp only); show upd (g1 6) z3.toInt.toNat z4 = _; rw [← hE, psh_e hv (e16.symm.trans c_18)])⟩, by show va_P (yD Z) vwCl (mw Z (upR g1 6 (upd (g1 6) z3.toNatClampNeg z4)) gl) t.heap; rw [ht]; exact hP⟩, hS.F ht⟩) hS.2.2 dX7_push_176
  refine lv_iload_n hx hb dX7_push_0 rfl (lv_at hl 1 rfl) ?_
  refine lv_istore_n (lv' := [(3, .int x1), (0, .ref (ya Z 0)), (1, .int x1), (2, .int x2)]) hx hb dX7_push_1 rfl hl (by decide) rfl (fun ls hl => ?_)
  refine lv_iload_n hx hb dX7_push_2 rfl (lv_at hl 3 rfl) ?_
  refine lv_istore (lv' := [(4, .int x2), (3, .int x1), (0, .ref (ya Z 0)), (1, .int x1), (2, .int x2)]) hx hb dX7_push_3 hl (by decide) rfl (fun ls hl => ?_)
  exact L5 _ 7 x1 x2 g _ _ hP hF hJ hS (by first | assumption | omega | decide) (by first | assumption | omega | decide) (by rw [show (2 : Nat) ^ 7 = 128 from rfl]; omega) rfl (Nat.lt_succ_self _) ls (lv_sub hl [2, 3, 4, 1, 0] rfl)
set_option maxHeartbeats 4000000 in
set_option maxRecDepth 100000 in
theorem c_X7_isAll (l : Launch) (Z : YT) (hZ : MG Z) (g : Nat → Nat → Int32) (gl : Nat → Nat → Int64) (x1 : Int32) (x2 : Int32) (h1 : 0 ≤ x1.toInt ∧ x1.toInt ≤ 127) (h2 : 0 ≤ x2.toInt ∧ x2.toInt < 70) (hJ : MJ g) : Met l yX7_isAll (Cond.code yX7_isAll cX7_isAll 3 (some .boolean) :: wsL_law) ({ frames := 3, cells := 0, slots := 0, locals := 63 } : Room) (va_Pc [.ref (ya Z 0), .int x1, .int x2] (MI Z g gl)) (rd_Qi (fun r => (r = 1 ∧ (1 ≤ x1.toInt ∧ (g 4 x2.toInt.toNat).toInt ≤ firP x1.toInt ∧ lasP x1.toInt ≤ (g 5 x2.toInt.toNat).toInt)) ∨ (r = 0 ∧ ¬ (1 ≤ x1.toInt ∧ (g 4 x2.toInt.toNat).toInt ≤ firP x1.toInt ∧ lasP x1.toInt ≤ (g 5 x2.toInt.toNat).toInt)))) 0 0 (fun _ => False) := by
  refine Met.ofW (cc := cX7_isAll) (maxL := 3) (ret := (some .boolean)) (by decide) rfl ?_
  intro p e s m args below meth c s₁ B hml hv
  obtain ⟨rfl, hI⟩ := hv
  have hx := B.exec
  have hb := B.bytes
  have hr := B.returns
  have hT : ∀ w ∈ wsL_law, w.before ([.ref (ya Z 0), .int x1, .int x2] : List Value).toArray s = true := fun w h => atoms_spec (ws := (Cond.code yX7_isAll cX7_isAll 3 (some .boolean) :: wsL_law)) B.pre w (List.mem_cons_of_mem _ h)
  have hown : s.vm.findClass RX7 = some m.cls := findClass_of_methodNamed B.named
  have hlocks := B.notSynchronized
  have hK := hI.2
  have hP := hI.1
  have hS : va_S (yA Z) s.heap s.heap [] := va_S.rf
  have hl := lv_entry ([.ref (ya Z 0), .int x1, .int x2]) (n := 3) (Nat.le_of_ble_eq_true rfl)
  rw [lg_entry_eq]
  generalize (lg_sl ([.ref (ya Z 0), .int x1, .int x2]) ++ List.replicate (3 - (lg_sl ([.ref (ya Z 0), .int x1, .int x2])).length) Slot.unset).toArray = ls at hl ⊢
  have hl : lv_has ls 3 [(0, .ref (ya Z 0)), (1, .int x1), (2, .int x2)] := hl
  refine lv_iload_n hx hb dX7_isAll_0 rfl (lv_at hl 1 rfl) ?_
  refine lv_if_le (tgt := 34) hx hb dX7_isAll_1 (by decide) (fun c_1 => ?_) (fun c_1 => ?_)
  · skip
    have i_1 := ti_lek rfl tk_0 c_1
    refine lv_iconst (v := 0) hx hb dX7_isAll_34 (by decide) ?_
    exact W.zret (v := 0) (ty := .boolean) hx hb hr rfl (fun t ht hW => ⟨0, rfl, Or.inr ⟨rfl, (by (try dsimp only); first | omega | (have a := congrArg Int32.toInt (show v_13 = g 4 x2.toInt.toNat from e_13); have b := congrArg Int32.toInt (show v_26 = g 5 x2.toInt.toNat from e_26); omega) | (have a := congrArg Int32.toInt (show v_13 = g 4 x2.toInt.toNat from e_13); omega))⟩, ht⟩) (fun q hq => by cases hq) dX7_isAll_35
  · skip
    have i_1 := ti_nlek rfl tk_0 c_1
    refine lv_iload_n hx hb dX7_isAll_4 rfl (lv_at hl 1 rfl) ?_
    refine rd_ci (va_runS (As := [.int x1]) (rest := []) ⟨hx, hb, hml, hown, hT⟩ (c_X7_firstAt l x1 (by first | assumption | omega | decide)) (va_cwS 1 hT (tb_S (fun _ h => h) (tr_18 _ (List.mem_of_getElem? (i := 9) rfl)) (tr_18 _ (List.mem_of_getElem? (i := 10) rfl)) (tr_1 _ (List.mem_of_getElem? (i := 5) rfl)) (tr_18 _ (List.mem_of_getElem? (i := 11) rfl))) rfl rfl rfl (by decide +kernel) ⟨Nat.le_of_ble_eq_true rfl, Nat.le_of_ble_eq_true rfl⟩) ⟨fun _ _ _ _ q => q, fun U hU hW => ⟨rfl, trivial⟩⟩ rfl rfl hl.1 rfl (lv_room (Nat.le_of_ble_eq_true rfl)) dX7_isAll_5 ⟨Nat.zero_le _, Nat.zero_le _⟩) (fun r_5 hr_5 => ?_)
    refine lv_aload_n hx hb dX7_isAll_8 rfl (lv_at hl 0 rfl) ?_
    refine va_get (D := yD Z) (ci := 7) (v := .ref (ya Z 4)) (C := RX7) (T := TX7) (N := 31) hx hb hT inlX7 hown hK hP 0 mw_0 rfl 5 (by decide) (hT _ (tr_4 _ (List.mem_of_getElem? (i := 16) rfl))) (fun _ h9 => h9) rfl dX7_isAll_9 ?_
    refine lv_iload_n hx hb dX7_isAll_12 rfl (lv_at hl 2 rfl) ?_
    have h_13 : vp_in x2 70 := (ti_vp (by omega) (by omega))
    refine va_iald hx hb hK hP 4 1 mw_4 rfl h_13 dX7_isAll_13 ?_
    refine lv_topi (fun v_13 e_13 => ?_)
    refine lv_icmp_lt (tgt := 34) hx hb dX7_isAll_14 (by decide) (fun c_14 => ?_) (fun c_14 => ?_)
    · skip
      have i_14 := ti_ltk rfl rfl c_14
      refine lv_iconst (v := 0) hx hb dX7_isAll_34 (by decide) ?_
      exact W.zret (v := 0) (ty := .boolean) hx hb hr rfl (fun t ht hW => ⟨0, rfl, Or.inr ⟨rfl, (by (try dsimp only); first | omega | (have a := congrArg Int32.toInt (show v_13 = g 4 x2.toInt.toNat from e_13); have b := congrArg Int32.toInt (show v_26 = g 5 x2.toInt.toNat from e_26); omega) | (have a := congrArg Int32.toInt (show v_13 = g 4 x2.toInt.toNat from e_13); omega))⟩, ht⟩) (fun q hq => by cases hq) dX7_isAll_35
    · skip
      have i_14 := ti_nltk rfl rfl c_14
      refine lv_iload_n hx hb dX7_isAll_17 rfl (lv_at hl 1 rfl) ?_
      refine rd_ci (va_runS (As := [.int x1]) (rest := []) ⟨hx, hb, hml, hown, hT⟩ (c_X7_lastAt l x1 (by first | assumption | omega | decide)) (va_cwS 1 hT (tb_S (fun _ h => h) (tr_18 _ (List.mem_of_getElem? (i := 15) rfl)) (tr_18 _ (List.mem_of_getElem? (i := 16) rfl)) (tr_1 _ (List.mem_of_getElem? (i := 5) rfl)) (tr_18 _ (List.mem_of_getElem? (i := 17) rfl))) rfl rfl rfl (by decide +kernel) ⟨Nat.le_of_ble_eq_true rfl, Nat.le_of_ble_eq_true rfl⟩) ⟨fun _ _ _ _ q => q, fun U hU hW => ⟨rfl, trivial⟩⟩ rfl rfl hl.1 rfl (lv_room (Nat.le_of_ble_eq_true rfl)) dX7_isAll_18 ⟨Nat.zero_le _, Nat.zero_le _⟩) (fun r_18 hr_18 => ?_)
      refine lv_aload_n hx hb dX7_isAll_21 rfl (lv_at hl 0 rfl) ?_
      refine va_get (D := yD Z) (ci := 7) (v := .ref (ya Z 5)) (C := RX7) (T := TX7) (N := 31) hx hb hT inlX7 hown hK hP 0 mw_0 rfl 6 (by decide) (hT _ (tr_4 _ (List.mem_of_getElem? (i := 17) rfl))) (fun _ h9 => h9) rfl dX7_isAll_22 ?_
      refine lv_iload_n hx hb dX7_isAll_25 rfl (lv_at hl 2 rfl) ?_
      have h_26 : vp_in x2 70 := (ti_vp (by omega) (by omega))
      refine va_iald hx hb hK hP 5 1 mw_5 rfl h_26 dX7_isAll_26 ?_
      refine lv_topi (fun v_26 e_26 => ?_)
      refine lv_icmp_gt (tgt := 34) hx hb dX7_isAll_27 (by decide) (fun c_27 => ?_) (fun c_27 => ?_)
      · skip
        have i_27 := ti_ltk rfl rfl c_27
        refine lv_iconst (v := 0) hx hb dX7_isAll_34 (by decide) ?_
        exact W.zret (v := 0) (ty := .boolean) hx hb hr rfl (fun t ht hW => ⟨0, rfl, Or.inr ⟨rfl, (by (try dsimp only); first | omega | (have a := congrArg Int32.toInt (show v_13 = g 4 x2.toInt.toNat from e_13); have b := congrArg Int32.toInt (show v_26 = g 5 x2.toInt.toNat from e_26); omega) | (have a := congrArg Int32.toInt (show v_13 = g 4 x2.toInt.toNat from e_13); omega))⟩, ht⟩) (fun q hq => by cases hq) dX7_isAll_35
      · skip
        have i_27 := ti_nltk rfl rfl c_27
        refine lv_iconst (v := 1) hx hb dX7_isAll_30 (by decide) ?_
        refine lv_goto (tgt := 35) hx hb dX7_isAll_31 (by decide) ?_
        exact W.zret (v := 1) (ty := .boolean) hx hb hr rfl (fun t ht hW => ⟨1, rfl, Or.inl ⟨rfl, (by (try dsimp only); have a := congrArg Int32.toInt (show v_13 = g 4 x2.toInt.toNat from e_13); have b := congrArg Int32.toInt (show v_26 = g 5 x2.toInt.toNat from e_26); omega)⟩, ht⟩) (fun q hq => by cases hq) dX7_isAll_35
set_option maxHeartbeats 4000000 in
set_option maxRecDepth 100000 in
theorem c_X7_offerNow (l : Launch) (Z : YT) (hZ : MG Z) (g : Nat → Nat → Int32) (gl : Nat → Nat → Int64) (x1 : Int32) (ht : 0 ≤ x1.toInt ∧ x1.toInt < 70) (hJ : MJ g) : Met l yX7_offerNow (Cond.code yX7_offerNow cX7_offerNow 4 none :: wsL_law) ({ frames := 5, cells := 0, slots := 0, locals := 123 } : Room) (va_Pc [.ref (ya Z 0), .int x1] (MI Z g gl)) (va_Qv (fun (u : (Nat → Nat → Int32) × (Nat → Nat → Int64)) => Fr [6] g u.1 ∧ MJ u.1 ∧ gl = u.2 ∧ u.1 6 = ofr g (g 6) (cns g x1.toInt.toNat) x1) (fun u t => va_P (yD Z) vwCl (mw Z u.1 u.2) t.heap) (yA Z)) 0 0 (yA Z) := by
  refine Met.ofW (cc := cX7_offerNow) (maxL := 4) (ret := none) (by decide) rfl ?_
  intro p e s m args below meth c s₁ B hml hv
  obtain ⟨rfl, hI⟩ := hv
  have hx := B.exec
  have hb := B.bytes
  have hr := B.returns
  have hT : ∀ w ∈ wsL_law, w.before ([.ref (ya Z 0), .int x1] : List Value).toArray s = true := fun w h => atoms_spec (ws := (Cond.code yX7_offerNow cX7_offerNow 4 none :: wsL_law)) B.pre w (List.mem_cons_of_mem _ h)
  have hown : s.vm.findClass RX7 = some m.cls := findClass_of_methodNamed B.named
  have hlocks := B.notSynchronized
  have hK := hI.2
  have hP := hI.1
  have hS : va_S (yA Z) s.heap s.heap [] := va_S.rf
  have hF : Fr [6] g g := Fr.rf
  have hl := lv_entry ([.ref (ya Z 0), .int x1]) (n := 4) (Nat.le_of_ble_eq_true rfl)
  rw [lg_entry_eq]
  generalize (lg_sl ([.ref (ya Z 0), .int x1]) ++ List.replicate (4 - (lg_sl ([.ref (ya Z 0), .int x1])).length) Slot.unset).toArray = ls at hl ⊢
  have hl : lv_has ls 4 [(0, .ref (ya Z 0)), (1, .int x1)] := hl
  have L7 : ∀ (n : Nat) (k : Nat) (z2 : Int32) (g1 : Nat → Nat → Int32) (H : Heap) (locs : List Loc) (hP : va_P (yD Z) vwCl (mw Z g1 gl) H) (hF : Fr [6] g g1) (hJ : MJ g1) (hS : va_S (yA Z) s.heap H locs) (h2 : 0 ≤ z2.toInt ∧ z2.toInt ≤ 64) (hk : 64 ≤ z2.toInt.toNat + k) (hO : ofr g (g1 6) (cmI k z2.toInt (g 4 x1.toInt.toNat).toInt (g 5 x1.toInt.toNat).toInt) x1 = ofr g (g 6) (cns g x1.toInt.toNat) x1) (hn : (64 - z2.toInt).toNat < n) (ls : Array Slot) (hl : lv_has ls 4 [(0, .ref (ya Z 0)), (1, .int x1), (2, .int z2)]), W p l e ({ frames := 5, cells := 0, slots := 0, locals := 123 } : Room) s m ([.ref (ya Z 0), .int x1] : List Value).toArray below meth c H locs 0 0 (MQ below (va_Qv (fun (u : (Nat → Nat → Int32) × (Nat → Nat → Int64)) => Fr [6] g u.1 ∧ MJ u.1 ∧ gl = u.2 ∧ u.1 6 = ofr g (g 6) (cns g x1.toInt.toNat) x1) (fun u t => va_P (yD Z) vwCl (mw Z u.1 u.2) t.heap) (yA Z)) ([.ref (ya Z 0), .int x1] : List Value).toArray s 0 0 (yA Z)) (F0 m 7 ls []) := by
    intro n
    induction n with
    | zero => intro k z2 g1 H locs hP hF hJ hS h2 hk hO hn; exact absurd hn (Nat.not_lt_zero _)
    | succ n ih7 =>
      intro k z2 g1 H locs hP hF hJ hS h2 hk hO hn ls hl
      have L22 : ∀ (n : Nat) (f : Nat) (z3 : Int32) (g1 : Nat → Nat → Int32) (H : Heap) (locs : List Loc) (hP : va_P (yD Z) vwCl (mw Z g1 gl) H) (hF : Fr [6] g g1) (hJ : MJ g1) (hS : va_S (yA Z) s.heap H locs) (h3 : 1 ≤ z3.toInt ∧ z3.toInt ≤ 127) (hq : 0 ≤ z2.toInt ∧ z2.toInt ≤ 63) (hq5 : z2.toInt ≤ (g 5 x1.toInt.toNat).toInt) (hc : firP z3.toInt ≤ z2.toInt ∧ z2.toInt ≤ lasP z3.toInt) (hf : z3.toInt.toNat < 2 ^ f) (hWd : wdm f z3.toInt.toNat (g 4 x1.toInt.toNat).toInt.toNat (g 5 x1.toInt.toNat).toInt.toNat = (wdm 7 (64 + z2.toInt.toNat) (g 4 x1.toInt.toNat).toInt.toNat (g 5 x1.toInt.toNat).toInt.toNat)) (hO : ofr g (g1 6) (cmI k z2.toInt (g 4 x1.toInt.toNat).toInt (g 5 x1.toInt.toNat).toInt) x1 = ofr g (g 6) (cns g x1.toInt.toNat) x1) (hk : 64 ≤ z2.toInt.toNat + k) (hn : z3.toInt.toNat < n) (ls : Array Slot) (hl : lv_has ls 4 [(0, .ref (ya Z 0)), (1, .int x1), (2, .int z2), (3, .int z3)]), W p l e ({ frames := 5, cells := 0, slots := 0, locals := 123 } : Room) s m ([.ref (ya Z 0), .int x1] : List Value).toArray below meth c H locs 0 0 (MQ below (va_Qv (fun (u : (Nat → Nat → Int32) × (Nat → Nat → Int64)) => Fr [6] g u.1 ∧ MJ u.1 ∧ gl = u.2 ∧ u.1 6 = ofr g (g 6) (cns g x1.toInt.toNat) x1) (fun u t => va_P (yD Z) vwCl (mw Z u.1 u.2) t.heap) (yA Z)) ([.ref (ya Z 0), .int x1] : List Value).toArray s 0 0 (yA Z)) (F0 m 22 ls []) := by
        intro n
        induction n with
        | zero => intro f z3 g1 H locs hP hF hJ hS h3 hq hq5 hc hf hWd hO hk hn; exact absurd hn (Nat.not_lt_zero _)
        | succ n ih22 =>
          intro f z3 g1 H locs hP hF hJ hS h3 hq hq5 hc hf hWd hO hk hn ls hl
          have hF1 := hF
          have q4 : g1 4 = g 4 := hF 4 (by decide)
          have q5 : g1 5 = g 5 := hF 5 (by decide)
          have j5L := hJ.j5 x1.toInt.toNat
          rw [q5] at j5L
          refine lv_aload_n hx hb dX7_offerNow_22 rfl (lv_at hl 0 rfl) ?_
          refine lv_iload_n hx hb dX7_offerNow_23 rfl (lv_at hl 3 rfl) ?_
          refine lv_iconst (v := 2) hx hb dX7_offerNow_24 (by decide) ?_
          refine lv_idiv hx hb dX7_offerNow_25 (by decide) ?_
          refine lv_topi (fun v_25 e_25 => ?_)
          have t_25 := ti_half (by omega) e_25
          refine lv_iload_n hx hb dX7_offerNow_26 rfl (lv_at hl 1 rfl) ?_
          refine rd_ci (va_runV (As := [.int v_25, .int x1]) (rest := []) ⟨hx, hb, hml, hown, hT⟩ (c_X7_isAll l Z hZ g1 gl v_25 x1 (by first | assumption | omega | decide) (by first | assumption | omega | decide) hJ) (cwV 2 hT (tb_V (fun _ h => h) (tr_18 _ (List.mem_of_getElem? (i := 5) rfl)) (tr_18 _ (List.mem_of_getElem? (i := 6) rfl)) (tr_18 _ (List.mem_of_getElem? (i := 7) rfl)) (tr_1 _ (List.mem_of_getElem? (i := 5) rfl)) (tr_18 _ (List.mem_of_getElem? (i := 8) rfl))) rfl rfl rfl (by decide +kernel) ⟨Nat.le_of_ble_eq_true rfl, Nat.le_of_ble_eq_true rfl⟩) ⟨fun a U f mk q => ⟨q.1, MI.blind f mk a q.2⟩, va_recv hK hP (ci := 7) (q0 := 0) rfl mw_0, fun U hU hW => ⟨rfl, hI.at hS hP hU hW⟩⟩ rfl rfl hl.1 rfl (lv_room (Nat.le_of_ble_eq_true rfl)) dX7_offerNow_27 ⟨Nat.zero_le _, Nat.zero_le _⟩) (fun r_27 hr_27 => ?_)
          rcases hr_27 with ⟨rfl, b_27⟩ | ⟨rfl, b_27⟩
          · skip
            rw [q4, q5, t_25, show z3.toInt / 2 = ((z3.toInt.toNat / 2 : Nat) : Int) by omega] at b_27
            have fN := fun h => firP_N (v := z3.toInt.toNat / 2) h (by omega)
            have lN := fun h => lasP_N (v := z3.toInt.toNat / 2) h (by omega)
            have fN := fN (by omega)
            have lN := lN (by omega)
            refine lv_if_eq (tgt := 40) hx hb dX7_offerNow_30 (by decide) (fun c_30 => absurd c_30 (by decide)) (fun c_30 => ?_)
            obtain ⟨f, rfl⟩ : ∃ f2, f = f2 + 1 := by
              cases f with
              | zero => exact absurd hf (by rw [Nat.pow_zero]; omega)
              | succ f2 => exact ⟨f2, rfl⟩
            refine lv_iload_n hx hb dX7_offerNow_33 rfl (lv_at hl 3 rfl) ?_
            refine lv_iconst (v := 2) hx hb dX7_offerNow_34 (by decide) ?_
            refine lv_idiv hx hb dX7_offerNow_35 (by decide) ?_
            refine lv_topi (fun v_35 e_35 => ?_)
            have t_35 := ti_half (by omega) e_35
            refine lv_istore_n (lv' := [(3, .int v_35), (0, .ref (ya Z 0)), (1, .int x1), (2, .int z2)]) hx hb dX7_offerNow_36 rfl hl (by decide) rfl (fun ls hl => ?_)
            refine lv_goto (tgt := 22) hx hb dX7_offerNow_37 (by decide) ?_
            exact ih22 f v_35 g1 _ _ hP hF hJ hS (by first | assumption | omega | decide) (by first | assumption | omega | decide) (by first | assumption | omega | decide) (by have q := up_has (n := z3.toInt) (by omega) (by omega); rw [t_35]; omega) (by rw [Nat.pow_succ] at hf; omega) (by rw [← hWd, show v_35.toInt.toNat = z3.toInt.toNat / 2 by omega, wdm_y (by omega)]) (by first | assumption | omega | decide) (by first | assumption | omega | decide) (by omega) ls (lv_sub hl [1, 2, 3, 0] rfl)
          · skip
            rw [q4, q5, t_25, show z3.toInt / 2 = ((z3.toInt.toNat / 2 : Nat) : Int) by omega] at b_27
            have hWn : z3.toInt.toNat = (wdm 7 (64 + z2.toInt.toNat) (g 4 x1.toInt.toNat).toInt.toNat (g 5 x1.toInt.toNat).toInt.toNat) := by rw [← hWd, wdm_s (fun z => b_27 (by have fN := firP_N (v := z3.toInt.toNat / 2) z.1 (by omega); have lN := lasP_N (v := z3.toInt.toNat / 2) z.1 (by omega); omega))]
            refine lv_if_eq (tgt := 40) hx hb dX7_offerNow_30 (by decide) (fun c_30 => ?_) (fun c_30 => absurd c_30 (by decide))
            obtain ⟨k2, rfl⟩ : ∃ k2, k = k2 + 1 := by
              cases k with
              | zero => exact absurd hk (by omega)
              | succ k2 => exact ⟨k2, rfl⟩
            refine lv_aload_n hx hb dX7_offerNow_40 rfl (lv_at hl 0 rfl) ?_
            refine lv_iload_n hx hb dX7_offerNow_41 rfl (lv_at hl 3 rfl) ?_
            refine lv_iload_n hx hb dX7_offerNow_42 rfl (lv_at hl 1 rfl) ?_
            refine va_callv (va_runV (As := [.int z3, .int x1]) (rest := []) ⟨hx, hb, hml, hown, hT⟩ (c_X7_push l Z hZ g1 gl z3 x1 (by first | assumption | omega | decide) (by first | assumption | omega | decide) hJ) (cwV 2 hT (tb_V (fun _ h => h) (tr_18 _ (List.mem_of_getElem? (i := 18) rfl)) (tr_18 _ (List.mem_of_getElem? (i := 19) rfl)) (tr_18 _ (List.mem_of_getElem? (i := 20) rfl)) (tr_1 _ (List.mem_of_getElem? (i := 5) rfl)) (tr_18 _ (List.mem_of_getElem? (i := 21) rfl))) rfl rfl rfl (by decide +kernel) ⟨Nat.le_of_ble_eq_true rfl, Nat.le_of_ble_eq_true rfl⟩) ⟨fun a U f mk q => ⟨q.1, MI.blind f mk a q.2⟩, va_recv hK hP (ci := 7) (q0 := 0) rfl mw_0, fun U hU hW => ⟨rfl, hI.at hS hP hU hW⟩⟩ rfl rfl hl.1 rfl (lv_room (Nat.le_of_ble_eq_true rfl)) dX7_offerNow_43 ⟨Nat.zero_le _, Nat.zero_le _⟩) hS (fun q _ h => h) (fun q h => h) (fun u_43 t_43 H locs ht_43 _ hw_43 hB_43 _ _ hS => ?_)
            obtain ⟨g_43, gl_43⟩ := u_43
            have hP : va_P (yD Z) vwCl (mw Z g_43 gl_43) H := ht_43 ▸ hB_43
            obtain ⟨hf_43, hJ, el_43, hr_43⟩ := hw_43
            have hF := hF.tr hf_43 (by decide)
            dsimp only at hf_43 hJ hF el_43 hr_43
            subst el_43
            refine lv_iload_n hx hb dX7_offerNow_46 rfl (lv_at hl 3 rfl) ?_
            refine rd_ci (va_runS (As := [.int z3]) (rest := []) ⟨hx, hb, hml, hown, hT⟩ (c_X7_lastAt l z3 (by first | assumption | omega | decide)) (va_cwS 1 hT (tb_S (fun _ h => h) (tr_18 _ (List.mem_of_getElem? (i := 15) rfl)) (tr_18 _ (List.mem_of_getElem? (i := 16) rfl)) (tr_1 _ (List.mem_of_getElem? (i := 5) rfl)) (tr_18 _ (List.mem_of_getElem? (i := 17) rfl))) rfl rfl rfl (by decide +kernel) ⟨Nat.le_of_ble_eq_true rfl, Nat.le_of_ble_eq_true rfl⟩) ⟨fun _ _ _ _ q => q, fun U hU hW => ⟨rfl, trivial⟩⟩ rfl rfl hl.1 rfl (lv_room (Nat.le_of_ble_eq_true rfl)) dX7_offerNow_47 ⟨Nat.zero_le _, Nat.zero_le _⟩) (fun r_47 hr_47 => ?_)
            have q47 := lasP_rng h3.1 h3.2
            have m47 := lasP_N (v := z3.toInt.toNat) (by omega) (by omega)
            rw [show ((z3.toInt.toNat : Nat) : Int) = z3.toInt by omega, hWn] at m47
            refine lv_iconst (v := 1) hx hb dX7_offerNow_50 (by decide) ?_
            refine lv_iadd hx hb dX7_offerNow_51 ?_
            refine lv_topi (fun v_51 e_51 => ?_)
            have t_51 := ti_addk rfl tk_1 (by omega) (by omega) e_51
            refine lv_istore_n (lv' := [(2, .int v_51), (0, .ref (ya Z 0)), (1, .int x1), (3, .int z3)]) hx hb dX7_offerNow_52 rfl hl (by decide) rfl (fun ls hl => ?_)
            refine lv_goto (tgt := 7) hx hb dX7_offerNow_53 (by decide) ?_
            exact ih7 k2 v_51 g_43 _ _ hP hF hJ hS (by first | assumption | omega | decide) (by omega) (by rw [show v_51.toInt = ((laN (wdm 7 (64 + z2.toInt.toNat) (g 4 x1.toInt.toNat).toInt.toNat (g 5 x1.toInt.toNat).toInt.toNat) + 1 : Nat) : Int) by omega, hr_43, psh_ce (fun a b q => mbt_fr hF1 (by decide)), show z3.toInt.toNat = (wdm 7 (64 + z2.toInt.toNat) (g 4 x1.toInt.toNat).toInt.toNat (g 5 x1.toInt.toNat).toInt.toNat) by omega]; rw [cmI_c (by omega) (by omega) (by omega), ofr] at hO; exact hO) (by omega) ls (lv_sub hl [1, 2, 0] rfl)
      have hF1 := hF
      have q4 : g1 4 = g 4 := hF 4 (by decide)
      have q5 : g1 5 = g 5 := hF 5 (by decide)
      refine lv_iload_n hx hb dX7_offerNow_7 rfl (lv_at hl 2 rfl) ?_
      refine lv_aload_n hx hb dX7_offerNow_8 rfl (lv_at hl 0 rfl) ?_
      refine va_get (D := yD Z) (ci := 7) (v := .ref (ya Z 5)) (C := RX7) (T := TX7) (N := 31) hx hb hT inlX7 hown hK hP 0 mw_0 rfl 6 (by decide) (hT _ (tr_4 _ (List.mem_of_getElem? (i := 17) rfl))) (fun _ h9 => h9) rfl dX7_offerNow_9 ?_
      refine lv_iload_n hx hb dX7_offerNow_12 rfl (lv_at hl 1 rfl) ?_
      have h_13 : vp_in x1 70 := (ti_vp (by omega) (by omega))
      refine va_iald hx hb hK hP 5 1 mw_5 rfl h_13 dX7_offerNow_13 ?_
      refine lv_topi (fun v_13 e_13 => ?_)
      have j13 := hJ.j5 x1.toNatClampNeg
      rw [← e_13] at j13
      have e13 : v_13.toInt = (g 5 x1.toInt.toNat).toInt := by rw [e_13, q5]; rfl
      refine lv_icmp_gt (tgt := 56) hx hb dX7_offerNow_14 (by decide) (fun c_14 => ?_) (fun c_14 => ?_)
      · skip
        have i_14 := ti_ltk rfl rfl c_14
        exact W.vret hx hb hr (fun t ht hW => ⟨⟨(g1, gl), rfl, ⟨hF, hJ, rfl, (by (try dsimp only); rw [← hO, cmI_e (by omega)]; rfl)⟩, by show va_P (yD Z) vwCl (mw Z g1 gl) t.heap; rw [ht]; exact hP⟩, hS.F ht⟩) hS.2.2 dX7_offerNow_56
      · skip
        have i_14 := ti_nltk rfl rfl c_14
        refine lv_bipush (v := 64) hx hb dX7_offerNow_17 (by decide) ?_
        refine lv_iload_n hx hb dX7_offerNow_19 rfl (lv_at hl 2 rfl) ?_
        refine lv_iadd hx hb dX7_offerNow_20 ?_
        refine lv_topi (fun v_20 e_20 => ?_)
        have t_20 := ti_addk tk_64 rfl (by omega) (by omega) e_20
        refine lv_istore_n (lv' := [(3, .int v_20), (0, .ref (ya Z 0)), (1, .int x1), (2, .int z2)]) hx hb dX7_offerNow_21 rfl hl (by decide) rfl (fun ls hl => ?_)
        exact L22 _ 7 v_20 g1 _ _ hP hF hJ hS (by first | assumption | omega | decide) (by first | assumption | omega | decide) (by first | assumption | omega | decide) (by have q := lenP_leaf (n := v_20.toInt) (by omega); omega) (by rw [show (2 : Nat) ^ 7 = 128 from rfl]; omega) (by rw [show v_20.toInt.toNat = 64 + z2.toInt.toNat by omega]) (by first | assumption | omega | decide) (by first | assumption | omega | decide) (Nat.lt_succ_self _) ls (lv_sub hl [1, 2, 3, 0] rfl)
  refine lv_aload_n hx hb dX7_offerNow_0 rfl (lv_at hl 0 rfl) ?_
  refine va_get (D := yD Z) (ci := 7) (v := .ref (ya Z 4)) (C := RX7) (T := TX7) (N := 31) hx hb hT inlX7 hown hK hP 0 mw_0 rfl 5 (by decide) (hT _ (tr_4 _ (List.mem_of_getElem? (i := 16) rfl))) (fun _ h9 => h9) rfl dX7_offerNow_1 ?_
  refine lv_iload_n hx hb dX7_offerNow_4 rfl (lv_at hl 1 rfl) ?_
  have h_5 : vp_in x1 70 := (ti_vp (by omega) (by omega))
  refine va_iald hx hb hK hP 4 1 mw_4 rfl h_5 dX7_offerNow_5 ?_
  refine lv_topi (fun v_5 e_5 => ?_)
  have j5 := hJ.j4 x1.toNatClampNeg
  rw [← e_5] at j5
  refine lv_istore_n (lv' := [(2, .int v_5), (0, .ref (ya Z 0)), (1, .int x1)]) hx hb dX7_offerNow_6 rfl hl (by decide) rfl (fun ls hl => ?_)
  exact L7 _ 64 v_5 g _ _ hP hF hJ hS (by first | assumption | omega | decide) (by omega) (by rw [cns_cm hJ.j4 hJ.j5, ← show v_5 = g 4 x1.toInt.toNat from e_5]) (Nat.lt_succ_self _) ls (lv_sub hl [1, 2, 0] rfl)
set_option maxHeartbeats 4000000 in
set_option maxRecDepth 100000 in
theorem c_X7_take (l : Launch) (Z : YT) (hZ : MG Z) (g : Nat → Nat → Int32) (gl : Nat → Nat → Int64) (x1 : Int32) (x2 : Int32) (x3 : Int32) (x4 : Int32) (x5 : Int32) (h4 : 0 ≤ x4.toInt ∧ x4.toInt ≤ 63) (h5 : x5.toInt ≤ 63) (ht : (g 31 0).toInt < 70) (hJ : MJ g) : Met l yX7_take (Cond.code yX7_take cX7_take 6 none :: wsL_law) ({ frames := 6, cells := 0, slots := 0, locals := 146 } : Room) (va_Pc [.ref (ya Z 0), .int x1, .int x2, .int x3, .int x4, .int x5] (MI Z g gl)) (va_Qv (fun (u : (Nat → Nat → Int32) × (Nat → Nat → Int64)) => Fr [1, 2, 3, 4, 5, 6, 31] g u.1 ∧ MJ u.1 ∧ gl = u.2 ∧ (tkR g u.1 x1 x2 x3 x4 x5 ∧ u.1 6 = ofr u.1 (g 6) (cns u.1 (g 31 0).toInt.toNat) (g 31 0))) (fun u t => va_P (yD Z) vwCl (mw Z u.1 u.2) t.heap) (yA Z)) 0 0 (yA Z) := by
  refine Met.ofW (cc := cX7_take) (maxL := 6) (ret := none) (by decide) rfl ?_
  intro p e s m args below meth c s₁ B hml hv
  obtain ⟨rfl, hI⟩ := hv
  have hx := B.exec
  have hb := B.bytes
  have hr := B.returns
  have hT : ∀ w ∈ wsL_law, w.before ([.ref (ya Z 0), .int x1, .int x2, .int x3, .int x4, .int x5] : List Value).toArray s = true := fun w h => atoms_spec (ws := (Cond.code yX7_take cX7_take 6 none :: wsL_law)) B.pre w (List.mem_cons_of_mem _ h)
  have hown : s.vm.findClass RX7 = some m.cls := findClass_of_methodNamed B.named
  have hlocks := B.notSynchronized
  have hK := hI.2
  have hP := hI.1
  have hS : va_S (yA Z) s.heap s.heap [] := va_S.rf
  have hF : Fr [1, 2, 3, 4, 5, 6, 31] g g := Fr.rf
  have j31 := hJ.j31
  have hl := lv_entry ([.ref (ya Z 0), .int x1, .int x2, .int x3, .int x4, .int x5]) (n := 6) (Nat.le_of_ble_eq_true rfl)
  rw [lg_entry_eq]
  generalize (lg_sl ([.ref (ya Z 0), .int x1, .int x2, .int x3, .int x4, .int x5]) ++ List.replicate (6 - (lg_sl ([.ref (ya Z 0), .int x1, .int x2, .int x3, .int x4, .int x5])).length) Slot.unset).toArray = ls at hl ⊢
  have hl : lv_has ls 6 [(0, .ref (ya Z 0)), (1, .int x1), (2, .int x2), (3, .int x3), (4, .int x4), (5, .int x5)] := hl
  refine lv_aload_n hx hb dX7_take_0 rfl (lv_at hl 0 rfl) ?_
  refine va_get (D := yD Z) (ci := 7) (v := .ref (ya Z 1)) (C := RX7) (T := TX7) (N := 31) hx hb hT inlX7 hown hK hP 0 mw_0 rfl 2 (by decide) (hT _ (tr_4 _ (List.mem_of_getElem? (i := 13) rfl))) (fun _ h9 => h9) rfl dX7_take_1 ?_
  refine lv_aload_n hx hb dX7_take_4 rfl (lv_at hl 0 rfl) ?_
  refine va_get (D := yD Z) (ci := 7) (v := .int (g 31 0)) (C := RX7) (T := TX7) (N := 31) hx hb hT inlX7 hown hK hP 0 mw_0 rfl 1 (by decide) (hT _ (tr_17 _ (List.mem_of_getElem? (i := 14) rfl))) (fun _ h9 => h9) rfl dX7_take_5 ?_
  refine lv_iload_n hx hb dX7_take_8 rfl (lv_at hl 1 rfl) ?_
  have h_9 : vp_in (g 31 0) 70 := (ti_vp (by omega) (by omega))
  refine va_iast hx hb hK hP hZ.D hS 1 1 mw_1 rfl h_9 dX7_take_9 (fun H locs hP _ hS => ?_)
  replace hP := ms_1 hP
  have hF := hF.uR (i := 1) (r := upd (g 1) (g 31 0).toNatClampNeg x1) (by decide)
  have hJ := hJ.au (i := 1) (r := upd (g 1) (g 31 0).toNatClampNeg x1) (by decide)
  refine lv_aload_n hx hb dX7_take_10 rfl (lv_at hl 0 rfl) ?_
  refine va_get (D := yD Z) (ci := 7) (v := .ref (ya Z 2)) (C := RX7) (T := TX7) (N := 31) hx hb hT inlX7 hown hK hP 0 mw_0 rfl 3 (by decide) (hT _ (tr_4 _ (List.mem_of_getElem? (i := 14) rfl))) (fun _ h9 => h9) rfl dX7_take_11 ?_
  refine lv_aload_n hx hb dX7_take_14 rfl (lv_at hl 0 rfl) ?_
  refine va_get (D := yD Z) (ci := 7) (v := .int (g 31 0)) (C := RX7) (T := TX7) (N := 31) hx hb hT inlX7 hown hK hP 0 mw_0 rfl 1 (by decide) (hT _ (tr_17 _ (List.mem_of_getElem? (i := 14) rfl))) (fun _ h9 => h9) rfl dX7_take_15 ?_
  refine lv_iload_n hx hb dX7_take_18 rfl (lv_at hl 2 rfl) ?_
  have h_19 : vp_in (g 31 0) 70 := (ti_vp (by omega) (by omega))
  refine va_iast hx hb hK hP hZ.D hS 2 1 mw_2 rfl h_19 dX7_take_19 (fun H locs hP _ hS => ?_)
  replace hP := ms_2 hP
  have hF := hF.uR (i := 2) (r := upd (g 2) (g 31 0).toNatClampNeg x2) (by decide)
  have hJ := hJ.au (i := 2) (r := upd (g 2) (g 31 0).toNatClampNeg x2) (by decide)
  refine lv_aload_n hx hb dX7_take_20 rfl (lv_at hl 0 rfl) ?_
  refine va_get (D := yD Z) (ci := 7) (v := .ref (ya Z 3)) (C := RX7) (T := TX7) (N := 31) hx hb hT inlX7 hown hK hP 0 mw_0 rfl 4 (by decide) (hT _ (tr_4 _ (List.mem_of_getElem? (i := 15) rfl))) (fun _ h9 => h9) rfl dX7_take_21 ?_
  refine lv_aload_n hx hb dX7_take_24 rfl (lv_at hl 0 rfl) ?_
  refine va_get (D := yD Z) (ci := 7) (v := .int (g 31 0)) (C := RX7) (T := TX7) (N := 31) hx hb hT inlX7 hown hK hP 0 mw_0 rfl 1 (by decide) (hT _ (tr_17 _ (List.mem_of_getElem? (i := 14) rfl))) (fun _ h9 => h9) rfl dX7_take_25 ?_
  refine lv_iload_n hx hb dX7_take_28 rfl (lv_at hl 3 rfl) ?_
  have h_29 : vp_in (g 31 0) 70 := (ti_vp (by omega) (by omega))
  refine va_iast hx hb hK hP hZ.D hS 3 1 mw_3 rfl h_29 dX7_take_29 (fun H locs hP _ hS => ?_)
  replace hP := ms_3 hP
  have hF := hF.uR (i := 3) (r := upd (g 3) (g 31 0).toNatClampNeg x3) (by decide)
  have hJ := hJ.au (i := 3) (r := upd (g 3) (g 31 0).toNatClampNeg x3) (by decide)
  refine lv_aload_n hx hb dX7_take_30 rfl (lv_at hl 0 rfl) ?_
  refine va_get (D := yD Z) (ci := 7) (v := .ref (ya Z 4)) (C := RX7) (T := TX7) (N := 31) hx hb hT inlX7 hown hK hP 0 mw_0 rfl 5 (by decide) (hT _ (tr_4 _ (List.mem_of_getElem? (i := 16) rfl))) (fun _ h9 => h9) rfl dX7_take_31 ?_
  refine lv_aload_n hx hb dX7_take_34 rfl (lv_at hl 0 rfl) ?_
  refine va_get (D := yD Z) (ci := 7) (v := .int (g 31 0)) (C := RX7) (T := TX7) (N := 31) hx hb hT inlX7 hown hK hP 0 mw_0 rfl 1 (by decide) (hT _ (tr_17 _ (List.mem_of_getElem? (i := 14) rfl))) (fun _ h9 => h9) rfl dX7_take_35 ?_
  refine lv_iload hx hb dX7_take_38 (lv_at hl 4 rfl) ?_
  have h_40 : vp_in (g 31 0) 70 := (ti_vp (by omega) (by omega))
  refine va_iast hx hb hK hP hZ.D hS 4 1 mw_4 rfl h_40 dX7_take_40 (fun H locs hP _ hS => ?_)
  replace hP := ms_4 hP
  have hF := hF.uR (i := 4) (r := upd (g 4) (g 31 0).toNatClampNeg x4) (by decide)
  have hJ := hJ.a4 (k := (g 31 0).toNatClampNeg) (v := x4) (by first | omega | decide)
  refine lv_aload_n hx hb dX7_take_41 rfl (lv_at hl 0 rfl) ?_
  refine va_get (D := yD Z) (ci := 7) (v := .ref (ya Z 5)) (C := RX7) (T := TX7) (N := 31) hx hb hT inlX7 hown hK hP 0 mw_0 rfl 6 (by decide) (hT _ (tr_4 _ (List.mem_of_getElem? (i := 17) rfl))) (fun _ h9 => h9) rfl dX7_take_42 ?_
  refine lv_aload_n hx hb dX7_take_45 rfl (lv_at hl 0 rfl) ?_
  refine va_get (D := yD Z) (ci := 7) (v := .int (g 31 0)) (C := RX7) (T := TX7) (N := 31) hx hb hT inlX7 hown hK hP 0 mw_0 rfl 1 (by decide) (hT _ (tr_17 _ (List.mem_of_getElem? (i := 14) rfl))) (fun _ h9 => h9) rfl dX7_take_46 ?_
  refine lv_iload hx hb dX7_take_49 (lv_at hl 5 rfl) ?_
  have h_51 : vp_in (g 31 0) 70 := (ti_vp (by omega) (by omega))
  refine va_iast hx hb hK hP hZ.D hS 5 1 mw_5 rfl h_51 dX7_take_51 (fun H locs hP _ hS => ?_)
  replace hP := ms_5 hP
  have hF := hF.uR (i := 5) (r := upd (g 5) (g 31 0).toNatClampNeg x5) (by decide)
  have hJ := hJ.a5 (k := (g 31 0).toNatClampNeg) (v := x5) (by first | omega | decide)
  refine lv_aload_n hx hb dX7_take_52 rfl (lv_at hl 0 rfl) ?_
  refine lv_dup hx hb dX7_take_53 rfl ?_
  refine va_get (D := yD Z) (ci := 7) (v := .int (g 31 0)) (C := RX7) (T := TX7) (N := 31) hx hb hT inlX7 hown hK hP 0 mw_0 rfl 1 (by decide) (hT _ (tr_17 _ (List.mem_of_getElem? (i := 14) rfl))) (fun _ h9 => h9) rfl dX7_take_54 ?_
  refine lv_iconst (v := 1) hx hb dX7_take_57 (by decide) ?_
  refine lv_iadd hx hb dX7_take_58 ?_
  refine lv_topi (fun v_58 e_58 => ?_)
  have t_58 := ti_addk rfl tk_1 (by omega) (by omega) e_58
  refine va_put (D := yD Z) (ci := 7) (v := .int v_58) (ty := .int) (C := RX7) (T := TX7) (N := 31) hx hb hT inlX7 tyX7 tyX7_ok nmX7 hown hK hP hZ.D hS 0 mw_0 rfl 1 (by decide) (hT _ (tr_17 _ (List.mem_of_getElem? (i := 14) rfl))) (fun _ h9 => h9) rfl (by decide +kernel) rfl rfl (Nat.le_of_ble_eq_true rfl) dX7_take_59 (fun H locs hP _ hS => ?_)
  replace hP := mf_1 hP
  have hF := hF.u2 (i := 31) (k := 0) (v := v_58) (by decide)
  have hJ := hJ.p31 (v := v_58) (by first | omega | decide)
  refine lv_aload_n hx hb dX7_take_62 rfl (lv_at hl 0 rfl) ?_
  refine lv_aload_n hx hb dX7_take_63 rfl (lv_at hl 0 rfl) ?_
  refine va_get (D := yD Z) (ci := 7) (v := .int v_58) (C := RX7) (T := TX7) (N := 31) hx hb hT inlX7 hown hK hP 0 mw_0 rfl 1 (by decide) (hT _ (tr_17 _ (List.mem_of_getElem? (i := 14) rfl))) (fun _ h9 => h9) rfl dX7_take_64 ?_
  refine lv_iconst (v := 1) hx hb dX7_take_67 (by decide) ?_
  refine lv_isub hx hb dX7_take_68 ?_
  refine lv_topi (fun v_68 e_68 => ?_)
  have t_68 := ti_subk rfl tk_1 (by omega) (by omega) e_68
  refine va_callv (va_runV (As := [.int v_68]) (rest := []) ⟨hx, hb, hml, hown, hT⟩ (c_X7_offerNow l Z hZ (up2 (upR (upR (upR (upR (upR g 1 (upd (g 1) (g 31 0).toNatClampNeg x1)) 2 (upd (g 2) (g 31 0).toNatClampNeg x2)) 3 (upd (g 3) (g 31 0).toNatClampNeg x3)) 4 (upd (g 4) (g 31 0).toNatClampNeg x4)) 5 (upd (g 5) (g 31 0).toNatClampNeg x5)) 31 0 v_58) gl v_68 (by first | assumption | omega | decide) hJ) (cwV 1 hT (tb_V (fun _ h => h) (tr_18 _ (List.mem_of_getElem? (i := 1) rfl)) (tr_18 _ (List.mem_of_getElem? (i := 2) rfl)) (tr_18 _ (List.mem_of_getElem? (i := 3) rfl)) (tr_1 _ (List.mem_of_getElem? (i := 5) rfl)) (tr_18 _ (List.mem_of_getElem? (i := 4) rfl))) rfl rfl rfl (by decide +kernel) ⟨Nat.le_of_ble_eq_true rfl, Nat.le_of_ble_eq_true rfl⟩) ⟨fun a U f mk q => ⟨q.1, MI.blind f mk a q.2⟩, va_recv hK hP (ci := 7) (q0 := 0) rfl mw_0, fun U hU hW => ⟨rfl, hI.at hS hP hU hW⟩⟩ rfl rfl hl.1 rfl (lv_room (Nat.le_of_ble_eq_true rfl)) dX7_take_69 ⟨Nat.zero_le _, Nat.zero_le _⟩) hS (fun q _ h => h) (fun q h => h) (fun u_69 t_69 H locs ht_69 _ hw_69 hB_69 _ _ hS => ?_)
  obtain ⟨g_69, gl_69⟩ := u_69
  have hP : va_P (yD Z) vwCl (mw Z g_69 gl_69) H := ht_69 ▸ hB_69
  obtain ⟨hf_69, hJ, el_69, hr_69⟩ := hw_69
  have hF := hF.tr hf_69 (by decide)
  dsimp only at hf_69 hJ hF el_69 hr_69
  subst el_69
  exact W.vret hx hb hr (fun t ht hW => ⟨⟨(g_69, gl), rfl, ⟨hF, hJ, rfl, (by (try dsimp only); first | done | exact ⟨by unfold tkR; rw [hf_69 31 (by decide), hf_69 1 (by decide), hf_69 2 (by decide), hf_69 3 (by decide), hf_69 4 (by decide), hf_69 5 (by decide)]; exact ⟨e_58, rfl, rfl, rfl, rfl, rfl⟩, by have q68 : v_68 = g 31 0 := Int32.toInt_inj.mp (by omega); rw [q68] at hr_69; rw [ofr_ce (fun a b q => mbt_fr hf_69 (by decide)), cns_fr hf_69 (by decide)]; exact hr_69⟩)⟩, by show va_P (yD Z) vwCl (mw Z g_69 gl) t.heap; rw [ht]; exact hP⟩, hS.F ht⟩) hS.2.2 dX7_take_72
set_option maxHeartbeats 4000000 in
set_option maxRecDepth 100000 in
theorem c_X7_again (l : Launch) (Z : YT) (hZ : MG Z) (g : Nat → Nat → Int32) (gl : Nat → Nat → Int64) (x1 : Int32) (h1 : 0 ≤ x1.toInt ∧ x1.toInt ≤ 70) (hJ : MJ g) : Met l yX7_again (Cond.code yX7_again cX7_again 3 none :: wsL_law) ({ frames := 6, cells := 0, slots := 0, locals := 146 } : Room) (va_Pc [.ref (ya Z 0), .int x1] (MI Z g gl)) (va_Qv (fun (u : (Nat → Nat → Int32) × (Nat → Nat → Int64)) => Fr [6, 31] g u.1 ∧ MJ u.1 ∧ gl = u.2 ∧ (u.1 31 0 = x1 ∧ Eq1 (u.1 6) (TR g x1.toInt.toNat))) (fun u t => va_P (yD Z) vwCl (mw Z u.1 u.2) t.heap) (yA Z)) 0 0 (yA Z) := by
  refine Met.ofW (cc := cX7_again) (maxL := 3) (ret := none) (by decide) rfl ?_
  intro p e s m args below meth c s₁ B hml hv
  obtain ⟨rfl, hI⟩ := hv
  have hx := B.exec
  have hb := B.bytes
  have hr := B.returns
  have hT : ∀ w ∈ wsL_law, w.before ([.ref (ya Z 0), .int x1] : List Value).toArray s = true := fun w h => atoms_spec (ws := (Cond.code yX7_again cX7_again 3 none :: wsL_law)) B.pre w (List.mem_cons_of_mem _ h)
  have hown : s.vm.findClass RX7 = some m.cls := findClass_of_methodNamed B.named
  have hlocks := B.notSynchronized
  have hK := hI.2
  have hP := hI.1
  have hS : va_S (yA Z) s.heap s.heap [] := va_S.rf
  have hF : Fr [6, 31] g g := Fr.rf
  have hl := lv_entry ([.ref (ya Z 0), .int x1]) (n := 3) (Nat.le_of_ble_eq_true rfl)
  rw [lg_entry_eq]
  generalize (lg_sl ([.ref (ya Z 0), .int x1]) ++ List.replicate (3 - (lg_sl ([.ref (ya Z 0), .int x1])).length) Slot.unset).toArray = ls at hl ⊢
  have hl : lv_has ls 3 [(0, .ref (ya Z 0)), (1, .int x1)] := hl
  have L29 : ∀ (n : Nat) (z2 : Int32) (g1 : Nat → Nat → Int32) (H : Heap) (locs : List Loc) (hP : va_P (yD Z) vwCl (mw Z g1 gl) H) (hF : Fr [6, 31] g g1) (hJ : MJ g1) (hS : va_S (yA Z) s.heap H locs) (h2 : 0 ≤ z2.toInt ∧ z2.toInt ≤ x1.toInt) (hq : g1 31 0 = x1) (hE : Eq1 (g1 6) (TR g z2.toInt.toNat)) (hn : (70 - z2.toInt).toNat < n) (ls : Array Slot) (hl : lv_has ls 3 [(0, .ref (ya Z 0)), (1, .int x1), (2, .int z2)]), W p l e ({ frames := 6, cells := 0, slots := 0, locals := 146 } : Room) s m ([.ref (ya Z 0), .int x1] : List Value).toArray below meth c H locs 0 0 (MQ below (va_Qv (fun (u : (Nat → Nat → Int32) × (Nat → Nat → Int64)) => Fr [6, 31] g u.1 ∧ MJ u.1 ∧ gl = u.2 ∧ (u.1 31 0 = x1 ∧ Eq1 (u.1 6) (TR g x1.toInt.toNat))) (fun u t => va_P (yD Z) vwCl (mw Z u.1 u.2) t.heap) (yA Z)) ([.ref (ya Z 0), .int x1] : List Value).toArray s 0 0 (yA Z)) (F0 m 29 ls []) := by
    intro n
    induction n with
    | zero => intro z2 g1 H locs hP hF hJ hS h2 hq hE hn; exact absurd hn (Nat.not_lt_zero _)
    | succ n ih29 =>
      intro z2 g1 H locs hP hF hJ hS h2 hq hE hn ls hl
      have hF0 := hF
      refine lv_iload_n hx hb dX7_again_29 rfl (lv_at hl 2 rfl) ?_
      refine lv_iload_n hx hb dX7_again_30 rfl (lv_at hl 1 rfl) ?_
      refine lv_icmp_ge (tgt := 45) hx hb dX7_again_31 (by decide) (fun c_31 => ?_) (fun c_31 => ?_)
      · skip
        have i_31 := ti_lek rfl rfl c_31
        exact W.vret hx hb hr (fun t ht hW => ⟨⟨(g1, gl), rfl, ⟨hF, hJ, rfl, (by (try dsimp only); first | done | exact ⟨hq, by rw [show x1.toInt.toNat = z2.toInt.toNat by omega]; exact hE⟩)⟩, by show va_P (yD Z) vwCl (mw Z g1 gl) t.heap; rw [ht]; exact hP⟩, hS.F ht⟩) hS.2.2 dX7_again_45
      · skip
        have i_31 := ti_nlek rfl rfl c_31
        refine lv_aload_n hx hb dX7_again_34 rfl (lv_at hl 0 rfl) ?_
        refine lv_iload_n hx hb dX7_again_35 rfl (lv_at hl 2 rfl) ?_
        refine va_callv (va_runV (As := [.int z2]) (rest := []) ⟨hx, hb, hml, hown, hT⟩ (c_X7_offerNow l Z hZ g1 gl z2 (by first | assumption | omega | decide) hJ) (cwV 1 hT (tb_V (fun _ h => h) (tr_18 _ (List.mem_of_getElem? (i := 1) rfl)) (tr_18 _ (List.mem_of_getElem? (i := 2) rfl)) (tr_18 _ (List.mem_of_getElem? (i := 3) rfl)) (tr_1 _ (List.mem_of_getElem? (i := 5) rfl)) (tr_18 _ (List.mem_of_getElem? (i := 4) rfl))) rfl rfl rfl (by decide +kernel) ⟨Nat.le_of_ble_eq_true rfl, Nat.le_of_ble_eq_true rfl⟩) ⟨fun a U f mk q => ⟨q.1, MI.blind f mk a q.2⟩, va_recv hK hP (ci := 7) (q0 := 0) rfl mw_0, fun U hU hW => ⟨rfl, hI.at hS hP hU hW⟩⟩ rfl rfl hl.1 rfl (lv_room (Nat.le_of_ble_eq_true rfl)) dX7_again_36 ⟨Nat.zero_le _, Nat.zero_le _⟩) hS (fun q _ h => h) (fun q h => h) (fun u_36 t_36 H locs ht_36 _ hw_36 hB_36 _ _ hS => ?_)
        obtain ⟨g_36, gl_36⟩ := u_36
        have hP : va_P (yD Z) vwCl (mw Z g_36 gl_36) H := ht_36 ▸ hB_36
        obtain ⟨hf_36, hJ, el_36, hr_36⟩ := hw_36
        have hF := hF.tr hf_36 (by decide)
        dsimp only at hf_36 hJ hF el_36 hr_36
        subst el_36
        obtain ⟨v_39, e_39⟩ : ∃ y : Int32, y = z2 + 1 := ⟨_, rfl⟩
        refine lv_iinc (v := v_39) (lv' := [(2, .int v_39), (0, .ref (ya Z 0)), (1, .int x1)]) hx hb dX7_again_39 hl (k := 2) rfl (by rw [e_39]; rfl) (by decide) rfl (fun ls hl => ?_)
        have t_39 := ti_addk rfl tk_1 (by omega) (by omega) e_39
        refine lv_goto (tgt := 29) hx hb dX7_again_42 (by decide) ?_
        exact ih29 v_39 g_36 _ _ hP hF hJ hS (by omega) ((congrFun (hf_36 31 (by decide)) 0).trans hq) (by rw [show v_39.toInt.toNat = z2.toInt.toNat + 1 by omega, TR, hr_36, ofr_ce (fun a b q => mbt_fr hF0 (by decide)), cns_fr hF0 (by decide), show z2 = nI z2.toInt.toNat from nI_ek (by omega), nI_toInt (by omega)]; exact (ofr_cs g _ _ _ _ hE).1) (by omega) ls (lv_sub hl [1, 2, 0] rfl)
  have L7 : ∀ (n : Nat) (z2 : Int32) (g1 : Nat → Nat → Int32) (H : Heap) (locs : List Loc) (hP : va_P (yD Z) vwCl (mw Z g1 gl) H) (hF : Fr [6, 31] g g1) (hJ : MJ g1) (hS : va_S (yA Z) s.heap H locs) (h2 : 0 ≤ z2.toInt ∧ z2.toInt ≤ 128) (hq : g1 31 0 = x1) (hA : ∀ j : Nat, (j : Int) < z2.toInt → g1 6 j = -1) (hn : (128 - z2.toInt).toNat < n) (ls : Array Slot) (hl : lv_has ls 3 [(0, .ref (ya Z 0)), (1, .int x1), (2, .int z2)]), W p l e ({ frames := 6, cells := 0, slots := 0, locals := 146 } : Room) s m ([.ref (ya Z 0), .int x1] : List Value).toArray below meth c H locs 0 0 (MQ below (va_Qv (fun (u : (Nat → Nat → Int32) × (Nat → Nat → Int64)) => Fr [6, 31] g u.1 ∧ MJ u.1 ∧ gl = u.2 ∧ (u.1 31 0 = x1 ∧ Eq1 (u.1 6) (TR g x1.toInt.toNat))) (fun u t => va_P (yD Z) vwCl (mw Z u.1 u.2) t.heap) (yA Z)) ([.ref (ya Z 0), .int x1] : List Value).toArray s 0 0 (yA Z)) (F0 m 7 ls []) := by
    intro n
    induction n with
    | zero => intro z2 g1 H locs hP hF hJ hS h2 hq hA hn; exact absurd hn (Nat.not_lt_zero _)
    | succ n ih7 =>
      intro z2 g1 H locs hP hF hJ hS h2 hq hA hn ls hl
      refine lv_iload_n hx hb dX7_again_7 rfl (lv_at hl 2 rfl) ?_
      refine lv_sipush (v := 128) hx hb dX7_again_8 (by decide) ?_
      refine lv_icmp_ge (tgt := 27) hx hb dX7_again_11 (by decide) (fun c_11 => ?_) (fun c_11 => ?_)
      · skip
        have i_11 := ti_lek tk_128 rfl c_11
        refine lv_iconst (v := 0) hx hb dX7_again_27 (by decide) ?_
        refine lv_istore_n (lv' := [(2, .int 0), (0, .ref (ya Z 0)), (1, .int x1)]) hx hb dX7_again_28 rfl hl (by decide) rfl (fun ls hl => ?_)
        exact L29 _ 0 g1 _ _ hP hF hJ hS (by rw [tk_0]; omega) hq (by rw [tk_0]; exact fun w a b => hA w (by omega)) (Nat.lt_succ_self _) ls (lv_sub hl [1, 2, 0] rfl)
      · skip
        have i_11 := ti_nlek tk_128 rfl c_11
        refine lv_aload_n hx hb dX7_again_14 rfl (lv_at hl 0 rfl) ?_
        refine va_get (D := yD Z) (ci := 7) (v := .ref (ya Z 6)) (C := RX7) (T := TX7) (N := 31) hx hb hT inlX7 hown hK hP 0 mw_0 rfl 7 (by decide) (hT _ (tr_4 _ (List.mem_of_getElem? (i := 18) rfl))) (fun _ h9 => h9) rfl dX7_again_15 ?_
        refine lv_iload_n hx hb dX7_again_18 rfl (lv_at hl 2 rfl) ?_
        refine lv_iconst (v := (-1)) hx hb dX7_again_19 (by decide) ?_
        have h_20 : vp_in z2 128 := (ti_vp (by omega) (by omega))
        refine va_iast hx hb hK hP hZ.D hS 6 1 mw_6 rfl h_20 dX7_again_20 (fun H locs hP _ hS => ?_)
        replace hP := ms_6 hP
        have hF := hF.uR (i := 6) (r := upd (g1 6) z2.toNatClampNeg (-1)) (by decide)
        have hJ := hJ.a6 (k := z2.toNatClampNeg) (v := (-1)) (by first | omega | decide)
        obtain ⟨v_21, e_21⟩ : ∃ y : Int32, y = z2 + 1 := ⟨_, rfl⟩
        refine lv_iinc (v := v_21) (lv' := [(2, .int v_21), (0, .ref (ya Z 0)), (1, .int x1)]) hx hb dX7_again_21 hl (k := 2) rfl (by rw [e_21]; rfl) (by decide) rfl (fun ls hl => ?_)
        have t_21 := ti_addk rfl tk_1 (by omega) (by omega) e_21
        refine lv_goto (tgt := 7) hx hb dX7_again_24 (by decide) ?_
        exact ih7 v_21 (upR g1 6 (upd (g1 6) z2.toNatClampNeg (-1))) _ _ hP hF hJ hS (by omega) hq (fun j hj => by show upd (g1 6) z2.toNatClampNeg (-1) j = -1; by_cases y : j = z2.toNatClampNeg; (rw [upd_at y]); rw [pk_un y]; exact hA j (by have y2 : ¬ (j : Int) = z2.toInt := (fun y3 => y (ti_clamp y3.symm).symm); omega)) (by omega) ls (lv_sub hl [1, 2, 0] rfl)
  refine lv_aload_n hx hb dX7_again_0 rfl (lv_at hl 0 rfl) ?_
  refine lv_iload_n hx hb dX7_again_1 rfl (lv_at hl 1 rfl) ?_
  refine va_put (D := yD Z) (ci := 7) (v := .int x1) (ty := .int) (C := RX7) (T := TX7) (N := 31) hx hb hT inlX7 tyX7 tyX7_ok nmX7 hown hK hP hZ.D hS 0 mw_0 rfl 1 (by decide) (hT _ (tr_17 _ (List.mem_of_getElem? (i := 14) rfl))) (fun _ h9 => h9) rfl (by decide +kernel) rfl rfl (Nat.le_of_ble_eq_true rfl) dX7_again_2 (fun H locs hP _ hS => ?_)
  replace hP := mf_1 hP
  have hF := hF.u2 (i := 31) (k := 0) (v := x1) (by decide)
  have hJ := hJ.p31 (v := x1) (by first | omega | decide)
  refine lv_iconst (v := 0) hx hb dX7_again_5 (by decide) ?_
  refine lv_istore_n (lv' := [(2, .int 0), (0, .ref (ya Z 0)), (1, .int x1)]) hx hb dX7_again_6 rfl hl (by decide) rfl (fun ls hl => ?_)
  exact L7 _ 0 (up2 g 31 0 x1) _ _ hP hF hJ hS (by decide) rfl (fun j hj => by rw [tk_0] at hj; omega) (Nat.lt_succ_self _) ls (lv_sub hl [1, 2, 0] rfl)
set_option maxHeartbeats 4000000 in
set_option maxRecDepth 100000 in
theorem c_X7_cheapestFor (l : Launch) (Z : YT) (hZ : MG Z) (g : Nat → Nat → Int32) (gl : Nat → Nat → Int64) (x1 : Int32) (h1 : 0 ≤ x1.toInt ∧ x1.toInt ≤ 63) (hJ : MJ g) : Met l yX7_cheapestFor (Cond.code yX7_cheapestFor cX7_cheapestFor 5 (some .int) :: wsL_law) ({ frames := 4, cells := 0, slots := 0, locals := 95 } : Room) (va_Pc [.ref (ya Z 0), .int x1] (MI Z g gl)) (rd_Qi (fun r => r = mch g x1 ∧ (-1 ≤ r.toInt ∧ r.toInt < 70))) 0 0 (fun _ => False) := by
  refine Met.ofW (cc := cX7_cheapestFor) (maxL := 5) (ret := (some .int)) (by decide) rfl ?_
  intro p e s m args below meth c s₁ B hml hv
  obtain ⟨rfl, hI⟩ := hv
  have hx := B.exec
  have hb := B.bytes
  have hr := B.returns
  have hT : ∀ w ∈ wsL_law, w.before ([.ref (ya Z 0), .int x1] : List Value).toArray s = true := fun w h => atoms_spec (ws := (Cond.code yX7_cheapestFor cX7_cheapestFor 5 (some .int) :: wsL_law)) B.pre w (List.mem_cons_of_mem _ h)
  have hown : s.vm.findClass RX7 = some m.cls := findClass_of_methodNamed B.named
  have hlocks := B.notSynchronized
  have hK := hI.2
  have hP := hI.1
  have hS : va_S (yA Z) s.heap s.heap [] := va_S.rf
  have hl := lv_entry ([.ref (ya Z 0), .int x1]) (n := 5) (Nat.le_of_ble_eq_true rfl)
  rw [lg_entry_eq]
  generalize (lg_sl ([.ref (ya Z 0), .int x1]) ++ List.replicate (5 - (lg_sl ([.ref (ya Z 0), .int x1])).length) Slot.unset).toArray = ls at hl ⊢
  have hl : lv_has ls 5 [(0, .ref (ya Z 0)), (1, .int x1)] := hl
  have L7 : ∀ (n : Nat) (f : Nat) (z2 : Int32) (z3 : Int32)  (h2 : -1 ≤ z2.toInt ∧ z2.toInt < 70) (h3 : 0 ≤ z3.toInt ∧ z3.toInt ≤ 127) (hf : z3.toNatClampNeg < 2 ^ f) (hE : mchL g (g 6) x1 f z3.toNatClampNeg z2 = mch g x1) (hn : z3.toInt.toNat < n) (ls : Array Slot) (hl : lv_has ls 5 [(0, .ref (ya Z 0)), (1, .int x1), (2, .int z2), (3, .int z3)]), W p l e ({ frames := 4, cells := 0, slots := 0, locals := 95 } : Room) s m ([.ref (ya Z 0), .int x1] : List Value).toArray below meth c s.heap [] 0 0 (MQ below (rd_Qi (fun r => r = mch g x1 ∧ (-1 ≤ r.toInt ∧ r.toInt < 70))) ([.ref (ya Z 0), .int x1] : List Value).toArray s 0 0 (fun _ => False)) (F0 m 7 ls []) := by
    intro n
    induction n with
    | zero => intro f z2 z3 h2 h3 hf hE hn; exact absurd hn (Nat.not_lt_zero _)
    | succ n ih7 =>
      intro f z2 z3 h2 h3 hf hE hn ls hl
      refine lv_iload_n hx hb dX7_cheapestFor_7 rfl (lv_at hl 3 rfl) ?_
      refine lv_if_le (tgt := 55) hx hb dX7_cheapestFor_8 (by decide) (fun c_8 => ?_) (fun c_8 => ?_)
      · skip
        have i_8 := ti_lek rfl tk_0 c_8
        refine lv_iload_n hx hb dX7_cheapestFor_55 rfl (lv_at hl 2 rfl) ?_
        exact W.iret (v := z2) hx hb hr (fun t ht hW => ⟨z2, rfl, ⟨by rw [← hE, show z3.toNatClampNeg = 0 by show z3.toInt.toNat = 0; omega, mchL_0], h2⟩, ht⟩) (fun q hq => by cases hq) dX7_cheapestFor_56
      · skip
        have i_8 := ti_nlek rfl tk_0 c_8
        obtain ⟨f, rfl⟩ : ∃ f2, f = f2 + 1 := by
          cases f with
          | zero => exact absurd hf (by show ¬ z3.toInt.toNat < 2 ^ 0; omega)
          | succ f2 => exact ⟨f2, rfl⟩
        refine lv_aload_n hx hb dX7_cheapestFor_11 rfl (lv_at hl 0 rfl) ?_
        refine va_get (D := yD Z) (ci := 7) (v := .ref (ya Z 6)) (C := RX7) (T := TX7) (N := 31) hx hb hT inlX7 hown hK hP 0 mw_0 rfl 7 (by decide) (hT _ (tr_4 _ (List.mem_of_getElem? (i := 18) rfl))) (fun _ h9 => h9) rfl dX7_cheapestFor_12 ?_
        refine lv_iload_n hx hb dX7_cheapestFor_15 rfl (lv_at hl 3 rfl) ?_
        have h_16 : vp_in z3 128 := (ti_vp (by omega) (by omega))
        refine va_iald hx hb hK hP 6 1 mw_6 rfl h_16 dX7_cheapestFor_16 ?_
        refine lv_topi (fun v_16 e_16 => ?_)
        have j16 := hJ.j6 z3.toNatClampNeg
        rw [← e_16] at j16
        refine lv_istore (lv' := [(4, .int v_16), (0, .ref (ya Z 0)), (1, .int x1), (2, .int z2), (3, .int z3)]) hx hb dX7_cheapestFor_17 hl (by decide) rfl (fun ls hl => ?_)
        refine lv_iload hx hb dX7_cheapestFor_19 (lv_at hl 0 rfl) ?_
        refine lv_iconst (v := (-1)) hx hb dX7_cheapestFor_21 (by decide) ?_
        refine lv_icmp_eq (tgt := 46) hx hb dX7_cheapestFor_22 (by decide) (fun c_22 => ?_) (fun c_22 => ?_)
        · skip
          have i_22 := ti_eqk rfl tk_m1 c_22
          refine lv_iload_n hx hb dX7_cheapestFor_46 rfl (lv_at hl 3 rfl) ?_
          refine lv_istore_n (lv' := [(2, .int z2), (4, .int v_16), (0, .ref (ya Z 0)), (1, .int x1), (3, .int z3)]) hx hb dX7_cheapestFor_47 rfl hl (by decide) rfl (fun ls hl => ?_)
          refine lv_iload_n hx hb dX7_cheapestFor_48 rfl (lv_at hl 4 rfl) ?_
          refine lv_iconst (v := 2) hx hb dX7_cheapestFor_49 (by decide) ?_
          refine lv_idiv hx hb dX7_cheapestFor_50 (by decide) ?_
          refine lv_topi (fun v_50 e_50 => ?_)
          have t_50 := ti_half (by omega) e_50
          refine lv_istore_n (lv' := [(3, .int v_50), (2, .int z2), (4, .int v_16), (0, .ref (ya Z 0)), (1, .int x1)]) hx hb dX7_cheapestFor_51 rfl hl (by decide) rfl (fun ls hl => ?_)
          refine lv_goto (tgt := 7) hx hb dX7_cheapestFor_52 (by decide) ?_
          exact ih7 f z2 v_50 (by first | assumption | omega | decide) (by first | assumption | omega | decide) (by have q : z3.toInt.toNat < 2 ^ (f + 1) := hf; rw [Nat.pow_succ] at q; show v_50.toInt.toNat < 2 ^ f; omega) (mchL_s hE (by show ¬ z3.toInt.toNat = 0; omega) (by show v_50.toInt.toNat = z3.toInt.toNat / 2; omega) (by first | exact mstep_m e_16 c_27 b_35 | exact mstep_n e_16 c_22)) (by omega) ls (lv_sub hl [3, 4, 1, 0] rfl)
        · skip
          have i_22 := ti_nek rfl tk_m1 c_22
          refine lv_iload_n hx hb dX7_cheapestFor_25 rfl (lv_at hl 3 rfl) ?_
          refine lv_iconst (v := (-1)) hx hb dX7_cheapestFor_26 (by decide) ?_
          refine lv_icmp_eq (tgt := 41) hx hb dX7_cheapestFor_27 (by decide) (fun c_27 => ?_) (fun c_27 => ?_)
          · skip
            have i_27 := ti_eqk rfl tk_m1 c_27
            refine lv_iload hx hb dX7_cheapestFor_41 (lv_at hl 0 rfl) ?_
            refine lv_goto (tgt := 47) hx hb dX7_cheapestFor_43 (by decide) ?_
            refine lv_istore_n (lv' := [(2, .int v_16), (4, .int v_16), (0, .ref (ya Z 0)), (1, .int x1), (3, .int z3)]) hx hb dX7_cheapestFor_47 rfl hl (by decide) rfl (fun ls hl => ?_)
            refine lv_iload_n hx hb dX7_cheapestFor_48 rfl (lv_at hl 4 rfl) ?_
            refine lv_iconst (v := 2) hx hb dX7_cheapestFor_49 (by decide) ?_
            refine lv_idiv hx hb dX7_cheapestFor_50 (by decide) ?_
            refine lv_topi (fun v_50 e_50 => ?_)
            have t_50 := ti_half (by omega) e_50
            refine lv_istore_n (lv' := [(3, .int v_50), (2, .int v_16), (4, .int v_16), (0, .ref (ya Z 0)), (1, .int x1)]) hx hb dX7_cheapestFor_51 rfl hl (by decide) rfl (fun ls hl => ?_)
            refine lv_goto (tgt := 7) hx hb dX7_cheapestFor_52 (by decide) ?_
            exact ih7 f v_16 v_50 (by first | assumption | omega | decide) (by first | assumption | omega | decide) (by have q : z3.toInt.toNat < 2 ^ (f + 1) := hf; rw [Nat.pow_succ] at q; show v_50.toInt.toNat < 2 ^ f; omega) (mchL_s hE (by show ¬ z3.toInt.toNat = 0; omega) (by show v_50.toInt.toNat = z3.toInt.toNat / 2; omega) (by first | exact mstep_y e_16 c_22 (Or.inr b_35) | exact mstep_y e_16 c_22 (Or.inl c_27))) (by omega) ls (lv_sub hl [3, 4, 1, 0] rfl)
          · skip
            have i_27 := ti_nek rfl tk_m1 c_27
            refine lv_aload_n hx hb dX7_cheapestFor_30 rfl (lv_at hl 1 rfl) ?_
            refine lv_iload hx hb dX7_cheapestFor_31 (lv_at hl 0 rfl) ?_
            refine lv_iload_n hx hb dX7_cheapestFor_33 rfl (lv_at hl 3 rfl) ?_
            refine lv_iload_n hx hb dX7_cheapestFor_34 rfl (lv_at hl 2 rfl) ?_
            refine rd_ci (va_runV (As := [.int v_16, .int z2, .int x1]) (rest := []) ⟨hx, hb, hml, hown, hT⟩ (c_X7_isBetter l Z hZ g gl v_16 z2 x1 (by first | assumption | omega | decide) (by first | assumption | omega | decide) hJ) (cwV 3 hT (tb_V (fun _ h => h) (tr_19 _ (List.mem_of_getElem? (i := 1) rfl)) (tr_19 _ (List.mem_of_getElem? (i := 2) rfl)) (tr_19 _ (List.mem_of_getElem? (i := 3) rfl)) (tr_1 _ (List.mem_of_getElem? (i := 5) rfl)) (tr_19 _ (List.mem_of_getElem? (i := 4) rfl))) rfl rfl rfl (by decide +kernel) ⟨Nat.le_of_ble_eq_true rfl, Nat.le_of_ble_eq_true rfl⟩) ⟨fun a U f mk q => ⟨q.1, MI.blind f mk a q.2⟩, va_recv hK hP (ci := 7) (q0 := 0) rfl mw_0, fun U hU hW => ⟨rfl, hI.at hS hP hU hW⟩⟩ rfl rfl hl.1 rfl (lv_room (Nat.le_of_ble_eq_true rfl)) dX7_cheapestFor_35 ⟨Nat.zero_le _, Nat.zero_le _⟩) (fun r_35 hr_35 => ?_)
            rcases hr_35 with ⟨rfl, b_35⟩ | ⟨rfl, b_35⟩
            · skip
              refine lv_if_eq (tgt := 46) hx hb dX7_cheapestFor_38 (by decide) (fun c_38 => absurd c_38 (by decide)) (fun c_38 => ?_)
              refine lv_iload hx hb dX7_cheapestFor_41 (lv_at hl 0 rfl) ?_
              refine lv_goto (tgt := 47) hx hb dX7_cheapestFor_43 (by decide) ?_
              refine lv_istore_n (lv' := [(2, .int v_16), (4, .int v_16), (0, .ref (ya Z 0)), (1, .int x1), (3, .int z3)]) hx hb dX7_cheapestFor_47 rfl hl (by decide) rfl (fun ls hl => ?_)
              refine lv_iload_n hx hb dX7_cheapestFor_48 rfl (lv_at hl 4 rfl) ?_
              refine lv_iconst (v := 2) hx hb dX7_cheapestFor_49 (by decide) ?_
              refine lv_idiv hx hb dX7_cheapestFor_50 (by decide) ?_
              refine lv_topi (fun v_50 e_50 => ?_)
              have t_50 := ti_half (by omega) e_50
              refine lv_istore_n (lv' := [(3, .int v_50), (2, .int v_16), (4, .int v_16), (0, .ref (ya Z 0)), (1, .int x1)]) hx hb dX7_cheapestFor_51 rfl hl (by decide) rfl (fun ls hl => ?_)
              refine lv_goto (tgt := 7) hx hb dX7_cheapestFor_52 (by decide) ?_
              exact ih7 f v_16 v_50 (by first | assumption | omega | decide) (by first | assumption | omega | decide) (by have q : z3.toInt.toNat < 2 ^ (f + 1) := hf; rw [Nat.pow_succ] at q; show v_50.toInt.toNat < 2 ^ f; omega) (mchL_s hE (by show ¬ z3.toInt.toNat = 0; omega) (by show v_50.toInt.toNat = z3.toInt.toNat / 2; omega) (by first | exact mstep_y e_16 c_22 (Or.inr b_35) | exact mstep_y e_16 c_22 (Or.inl c_27))) (by omega) ls (lv_sub hl [3, 4, 1, 0] rfl)
            · skip
              refine lv_if_eq (tgt := 46) hx hb dX7_cheapestFor_38 (by decide) (fun c_38 => ?_) (fun c_38 => absurd c_38 (by decide))
              refine lv_iload_n hx hb dX7_cheapestFor_46 rfl (lv_at hl 3 rfl) ?_
              refine lv_istore_n (lv' := [(2, .int z2), (4, .int v_16), (0, .ref (ya Z 0)), (1, .int x1), (3, .int z3)]) hx hb dX7_cheapestFor_47 rfl hl (by decide) rfl (fun ls hl => ?_)
              refine lv_iload_n hx hb dX7_cheapestFor_48 rfl (lv_at hl 4 rfl) ?_
              refine lv_iconst (v := 2) hx hb dX7_cheapestFor_49 (by decide) ?_
              refine lv_idiv hx hb dX7_cheapestFor_50 (by decide) ?_
              refine lv_topi (fun v_50 e_50 => ?_)
              have t_50 := ti_half (by omega) e_50
              refine lv_istore_n (lv' := [(3, .int v_50), (2, .int z2), (4, .int v_16), (0, .ref (ya Z 0)), (1, .int x1)]) hx hb dX7_cheapestFor_51 rfl hl (by decide) rfl (fun ls hl => ?_)
              refine lv_goto (tgt := 7) hx hb dX7_cheapestFor_52 (by decide) ?_
              exact ih7 f z2 v_50 (by first | assumption | omega | decide) (by first | assumption | omega | decide) (by have q : z3.toInt.toNat < 2 ^ (f + 1) := hf; rw [Nat.pow_succ] at q; show v_50.toInt.toNat < 2 ^ f; omega) (mchL_s hE (by show ¬ z3.toInt.toNat = 0; omega) (by show v_50.toInt.toNat = z3.toInt.toNat / 2; omega) (by first | exact mstep_m e_16 c_27 b_35 | exact mstep_n e_16 c_22)) (by omega) ls (lv_sub hl [3, 4, 1, 0] rfl)
  refine lv_iconst (v := (-1)) hx hb dX7_cheapestFor_0 (by decide) ?_
  refine lv_istore_n (lv' := [(2, .int (-1)), (0, .ref (ya Z 0)), (1, .int x1)]) hx hb dX7_cheapestFor_1 rfl hl (by decide) rfl (fun ls hl => ?_)
  refine lv_bipush (v := 64) hx hb dX7_cheapestFor_2 (by decide) ?_
  refine lv_iload_n hx hb dX7_cheapestFor_4 rfl (lv_at hl 2 rfl) ?_
  refine lv_iadd hx hb dX7_cheapestFor_5 ?_
  refine lv_topi (fun v_5 e_5 => ?_)
  have t_5 := ti_addk tk_64 rfl (by omega) (by omega) e_5
  refine lv_istore_n (lv' := [(3, .int v_5), (2, .int (-1)), (0, .ref (ya Z 0)), (1, .int x1)]) hx hb dX7_cheapestFor_6 rfl hl (by decide) rfl (fun ls hl => ?_)
  exact L7 _ 8 (-1) v_5 (by first | assumption | omega | decide) (by first | assumption | omega | decide) (by show v_5.toInt.toNat < 2 ^ 8; omega) (by unfold mch mcS; rw [show v_5.toNatClampNeg = 64 + x1.toNatClampNeg by show v_5.toInt.toNat = 64 + x1.toInt.toNat; omega]) (Nat.lt_succ_self _) ls (lv_sub hl [2, 3, 1, 0] rfl)
set_option maxHeartbeats 4000000 in
set_option maxRecDepth 100000 in
theorem c_X7_nodesOf (l : Launch) (Z : YT) (hZ : MG Z) (g : Nat → Nat → Int32) (gl : Nat → Nat → Int64) (x1 : Int32) (hJ : MJ g) : Met l yX7_nodesOf (Cond.code yX7_nodesOf cX7_nodesOf 4 (some .int) :: wsL_law) ({ frames := 0, cells := 0, slots := 0, locals := 0 } : Room) (va_Pc [.ref (ya Z 0), .int x1] (MI Z g gl)) (rd_Qi (fun r => r.toInt = (cB (ndB (g 6) x1.toInt x1.toInt) 128 : Int))) 0 0 (fun _ => False) := by
  refine Met.ofW (cc := cX7_nodesOf) (maxL := 4) (ret := (some .int)) (by decide) rfl ?_
  intro p e s m args below meth c s₁ B hml hv
  obtain ⟨rfl, hI⟩ := hv
  have hx := B.exec
  have hb := B.bytes
  have hr := B.returns
  have hT : ∀ w ∈ wsL_law, w.before ([.ref (ya Z 0), .int x1] : List Value).toArray s = true := fun w h => atoms_spec (ws := (Cond.code yX7_nodesOf cX7_nodesOf 4 (some .int) :: wsL_law)) B.pre w (List.mem_cons_of_mem _ h)
  have hown : s.vm.findClass RX7 = some m.cls := findClass_of_methodNamed B.named
  have hlocks := B.notSynchronized
  have hK := hI.2
  have hP := hI.1
  have hS : va_S (yA Z) s.heap s.heap [] := va_S.rf
  have hl := lv_entry ([.ref (ya Z 0), .int x1]) (n := 4) (Nat.le_of_ble_eq_true rfl)
  rw [lg_entry_eq]
  generalize (lg_sl ([.ref (ya Z 0), .int x1]) ++ List.replicate (4 - (lg_sl ([.ref (ya Z 0), .int x1])).length) Slot.unset).toArray = ls at hl ⊢
  have hl : lv_has ls 4 [(0, .ref (ya Z 0)), (1, .int x1)] := hl
  have L4 : ∀ (n : Nat) (z2 : Int32) (z3 : Int32)  (h3 : 1 ≤ z3.toInt ∧ z3.toInt ≤ 128) (hC : z2.toInt = (cB (ndB (g 6) x1.toInt x1.toInt) z3.toInt.toNat : Int)) (hn : (128 - z3.toInt).toNat < n) (ls : Array Slot) (hl : lv_has ls 4 [(0, .ref (ya Z 0)), (1, .int x1), (2, .int z2), (3, .int z3)]), W p l e ({ frames := 0, cells := 0, slots := 0, locals := 0 } : Room) s m ([.ref (ya Z 0), .int x1] : List Value).toArray below meth c s.heap [] 0 0 (MQ below (rd_Qi (fun r => r.toInt = (cB (ndB (g 6) x1.toInt x1.toInt) 128 : Int))) ([.ref (ya Z 0), .int x1] : List Value).toArray s 0 0 (fun _ => False)) (F0 m 4 ls []) := by
    intro n
    induction n with
    | zero => intro z2 z3 h3 hC hn; exact absurd hn (Nat.not_lt_zero _)
    | succ n ih4 =>
      intro z2 z3 h3 hC hn ls hl
      refine lv_iload_n hx hb dX7_nodesOf_4 rfl (lv_at hl 3 rfl) ?_
      refine lv_sipush (v := 128) hx hb dX7_nodesOf_5 (by decide) ?_
      refine lv_icmp_ge (tgt := 35) hx hb dX7_nodesOf_8 (by decide) (fun c_8 => ?_) (fun c_8 => ?_)
      · skip
        have i_8 := ti_lek tk_128 rfl c_8
        refine lv_iload_n hx hb dX7_nodesOf_35 rfl (lv_at hl 2 rfl) ?_
        exact W.iret (v := z2) hx hb hr (fun t ht hW => ⟨z2, rfl, (by (try dsimp only); rw [hC, show z3.toInt.toNat = 128 by omega]), ht⟩) (fun q hq => by cases hq) dX7_nodesOf_36
      · skip
        have i_8 := ti_nlek tk_128 rfl c_8
        have cl := cB_le (ndB (g 6) x1.toInt x1.toInt) z3.toInt.toNat
        refine lv_iload_n hx hb dX7_nodesOf_11 rfl (lv_at hl 2 rfl) ?_
        refine lv_aload_n hx hb dX7_nodesOf_12 rfl (lv_at hl 0 rfl) ?_
        refine va_get (D := yD Z) (ci := 7) (v := .ref (ya Z 6)) (C := RX7) (T := TX7) (N := 31) hx hb hT inlX7 hown hK hP 0 mw_0 rfl 7 (by decide) (hT _ (tr_4 _ (List.mem_of_getElem? (i := 18) rfl))) (fun _ h9 => h9) rfl dX7_nodesOf_13 ?_
        refine lv_iload_n hx hb dX7_nodesOf_16 rfl (lv_at hl 3 rfl) ?_
        have h_17 : vp_in z3 128 := (ti_vp (by omega) (by omega))
        refine va_iald hx hb hK hP 6 1 mw_6 rfl h_17 dX7_nodesOf_17 ?_
        refine lv_topi (fun v_17 e_17 => ?_)
        refine lv_iload_n hx hb dX7_nodesOf_18 rfl (lv_at hl 1 rfl) ?_
        refine lv_icmp_ne (tgt := 26) hx hb dX7_nodesOf_19 (by decide) (fun c_19 => ?_) (fun c_19 => ?_)
        · skip
          have i_19 := ti_nek rfl rfl c_19
          refine lv_iconst (v := 0) hx hb dX7_nodesOf_26 (by decide) ?_
          refine lv_iadd hx hb dX7_nodesOf_27 ?_
          refine lv_topi (fun v_27 e_27 => ?_)
          have t_27 := ti_addk rfl tk_0 (by omega) (by omega) e_27
          refine lv_istore_n (lv' := [(2, .int v_27), (0, .ref (ya Z 0)), (1, .int x1), (3, .int z3)]) hx hb dX7_nodesOf_28 rfl hl (by decide) rfl (fun ls hl => ?_)
          obtain ⟨v_29, e_29⟩ : ∃ y : Int32, y = z3 + 1 := ⟨_, rfl⟩
          refine lv_iinc (v := v_29) (lv' := [(3, .int v_29), (2, .int v_27), (0, .ref (ya Z 0)), (1, .int x1)]) hx hb dX7_nodesOf_29 hl (k := 3) rfl (by rw [e_29]; rfl) (by decide) rfl (fun ls hl => ?_)
          have t_29 := ti_addk rfl tk_1 (by omega) (by omega) e_29
          refine lv_goto (tgt := 4) hx hb dX7_nodesOf_32 (by decide) ?_
          exact ih4 v_27 v_29 (by omega) (by have e17 : g 6 z3.toInt.toNat = v_17 := e_17.symm; rw [show v_29.toInt.toNat = z3.toInt.toNat + 1 by omega]; first | (rw [cB_y (p := (ndB (g 6) x1.toInt x1.toInt)) (n := z3.toInt.toNat) (by unfold ndB; rw [e17]; exact decide_eq_true ⟨by omega, by omega, by omega⟩)]; omega) | (rw [cB_n (p := (ndB (g 6) x1.toInt x1.toInt)) (n := z3.toInt.toNat) (by unfold ndB; rw [e17]; exact fun z => by have z := of_decide_eq_true z; omega)]; omega)) (by omega) ls (lv_sub hl [2, 3, 1, 0] rfl)
        · skip
          have i_19 := ti_eqk rfl rfl c_19
          refine lv_iconst (v := 1) hx hb dX7_nodesOf_22 (by decide) ?_
          refine lv_goto (tgt := 27) hx hb dX7_nodesOf_23 (by decide) ?_
          refine lv_iadd hx hb dX7_nodesOf_27 ?_
          refine lv_topi (fun v_27 e_27 => ?_)
          have t_27 := ti_addk rfl tk_1 (by omega) (by omega) e_27
          refine lv_istore_n (lv' := [(2, .int v_27), (0, .ref (ya Z 0)), (1, .int x1), (3, .int z3)]) hx hb dX7_nodesOf_28 rfl hl (by decide) rfl (fun ls hl => ?_)
          obtain ⟨v_29, e_29⟩ : ∃ y : Int32, y = z3 + 1 := ⟨_, rfl⟩
          refine lv_iinc (v := v_29) (lv' := [(3, .int v_29), (2, .int v_27), (0, .ref (ya Z 0)), (1, .int x1)]) hx hb dX7_nodesOf_29 hl (k := 3) rfl (by rw [e_29]; rfl) (by decide) rfl (fun ls hl => ?_)
          have t_29 := ti_addk rfl tk_1 (by omega) (by omega) e_29
          refine lv_goto (tgt := 4) hx hb dX7_nodesOf_32 (by decide) ?_
          exact ih4 v_27 v_29 (by omega) (by have e17 : g 6 z3.toInt.toNat = v_17 := e_17.symm; rw [show v_29.toInt.toNat = z3.toInt.toNat + 1 by omega]; first | (rw [cB_y (p := (ndB (g 6) x1.toInt x1.toInt)) (n := z3.toInt.toNat) (by unfold ndB; rw [e17]; exact decide_eq_true ⟨by omega, by omega, by omega⟩)]; omega) | (rw [cB_n (p := (ndB (g 6) x1.toInt x1.toInt)) (n := z3.toInt.toNat) (by unfold ndB; rw [e17]; exact fun z => by have z := of_decide_eq_true z; omega)]; omega)) (by omega) ls (lv_sub hl [2, 3, 1, 0] rfl)
  refine lv_iconst (v := 0) hx hb dX7_nodesOf_0 (by decide) ?_
  refine lv_istore_n (lv' := [(2, .int 0), (0, .ref (ya Z 0)), (1, .int x1)]) hx hb dX7_nodesOf_1 rfl hl (by decide) rfl (fun ls hl => ?_)
  refine lv_iconst (v := 1) hx hb dX7_nodesOf_2 (by decide) ?_
  refine lv_istore_n (lv' := [(3, .int 1), (2, .int 0), (0, .ref (ya Z 0)), (1, .int x1)]) hx hb dX7_nodesOf_3 rfl hl (by decide) rfl (fun ls hl => ?_)
  exact L4 _ 0 1 (by decide) (by rw [tk_0, tk_1]; rfl) (Nat.lt_succ_self _) ls (lv_sub hl [2, 3, 1, 0] rfl)
set_option maxHeartbeats 4000000 in
set_option maxRecDepth 100000 in
theorem c_X7_quantitiesOf (l : Launch) (Z : YT) (hZ : MG Z) (g : Nat → Nat → Int32) (gl : Nat → Nat → Int64) (x1 : Int32) (hJ : MJ g) : Met l yX7_quantitiesOf (Cond.code yX7_quantitiesOf cX7_quantitiesOf 4 (some .int) :: wsL_law) ({ frames := 5, cells := 0, slots := 0, locals := 119 } : Room) (va_Pc [.ref (ya Z 0), .int x1] (MI Z g gl)) (rd_Qi (fun r => r.toInt = (cB (qnB (mC g) x1.toInt x1.toInt) 64 : Int))) 0 0 (fun _ => False) := by
  refine Met.ofW (cc := cX7_quantitiesOf) (maxL := 4) (ret := (some .int)) (by decide) rfl ?_
  intro p e s m args below meth c s₁ B hml hv
  obtain ⟨rfl, hI⟩ := hv
  have hx := B.exec
  have hb := B.bytes
  have hr := B.returns
  have hT : ∀ w ∈ wsL_law, w.before ([.ref (ya Z 0), .int x1] : List Value).toArray s = true := fun w h => atoms_spec (ws := (Cond.code yX7_quantitiesOf cX7_quantitiesOf 4 (some .int) :: wsL_law)) B.pre w (List.mem_cons_of_mem _ h)
  have hown : s.vm.findClass RX7 = some m.cls := findClass_of_methodNamed B.named
  have hlocks := B.notSynchronized
  have hK := hI.2
  have hP := hI.1
  have hS : va_S (yA Z) s.heap s.heap [] := va_S.rf
  have hl := lv_entry ([.ref (ya Z 0), .int x1]) (n := 4) (Nat.le_of_ble_eq_true rfl)
  rw [lg_entry_eq]
  generalize (lg_sl ([.ref (ya Z 0), .int x1]) ++ List.replicate (4 - (lg_sl ([.ref (ya Z 0), .int x1])).length) Slot.unset).toArray = ls at hl ⊢
  have hl : lv_has ls 4 [(0, .ref (ya Z 0)), (1, .int x1)] := hl
  have L4 : ∀ (n : Nat) (z2 : Int32) (z3 : Int32)  (h3 : 0 ≤ z3.toInt ∧ z3.toInt ≤ 64) (hC : z2.toInt = (cB (qnB (mC g) x1.toInt x1.toInt) z3.toInt.toNat : Int)) (hn : (64 - z3.toInt).toNat < n) (ls : Array Slot) (hl : lv_has ls 4 [(0, .ref (ya Z 0)), (1, .int x1), (2, .int z2), (3, .int z3)]), W p l e ({ frames := 5, cells := 0, slots := 0, locals := 119 } : Room) s m ([.ref (ya Z 0), .int x1] : List Value).toArray below meth c s.heap [] 0 0 (MQ below (rd_Qi (fun r => r.toInt = (cB (qnB (mC g) x1.toInt x1.toInt) 64 : Int))) ([.ref (ya Z 0), .int x1] : List Value).toArray s 0 0 (fun _ => False)) (F0 m 4 ls []) := by
    intro n
    induction n with
    | zero => intro z2 z3 h3 hC hn; exact absurd hn (Nat.not_lt_zero _)
    | succ n ih4 =>
      intro z2 z3 h3 hC hn ls hl
      refine lv_iload_n hx hb dX7_quantitiesOf_4 rfl (lv_at hl 3 rfl) ?_
      refine lv_bipush (v := 64) hx hb dX7_quantitiesOf_5 (by decide) ?_
      refine lv_icmp_ge (tgt := 33) hx hb dX7_quantitiesOf_7 (by decide) (fun c_7 => ?_) (fun c_7 => ?_)
      · skip
        have i_7 := ti_lek tk_64 rfl c_7
        refine lv_iload_n hx hb dX7_quantitiesOf_33 rfl (lv_at hl 2 rfl) ?_
        exact W.iret (v := z2) hx hb hr (fun t ht hW => ⟨z2, rfl, (by (try dsimp only); rw [hC, show z3.toInt.toNat = 64 by omega]), ht⟩) (fun q hq => by cases hq) dX7_quantitiesOf_34
      · skip
        have i_7 := ti_nlek tk_64 rfl c_7
        refine lv_iload_n hx hb dX7_quantitiesOf_10 rfl (lv_at hl 2 rfl) ?_
        refine lv_aload_n hx hb dX7_quantitiesOf_11 rfl (lv_at hl 0 rfl) ?_
        refine lv_iload_n hx hb dX7_quantitiesOf_12 rfl (lv_at hl 3 rfl) ?_
        refine rd_ci (va_runV (As := [.int z3]) (rest := [.int z2]) ⟨hx, hb, hml, hown, hT⟩ (c_X7_cheapestFor l Z hZ g gl z3 (by first | assumption | omega | decide) hJ) (cwV 1 hT (tb_V (fun _ h => h) (tr_22 _ (List.mem_of_getElem? (i := 18) rfl)) (tr_22 _ (List.mem_of_getElem? (i := 19) rfl)) (tr_22 _ (List.mem_of_getElem? (i := 20) rfl)) (tr_1 _ (List.mem_of_getElem? (i := 5) rfl)) (tr_22 _ (List.mem_of_getElem? (i := 21) rfl))) rfl rfl rfl (by decide +kernel) ⟨Nat.le_of_ble_eq_true rfl, Nat.le_of_ble_eq_true rfl⟩) ⟨fun a U f mk q => ⟨q.1, MI.blind f mk a q.2⟩, va_recv hK hP (ci := 7) (q0 := 0) rfl mw_0, fun U hU hW => ⟨rfl, hI.at hS hP hU hW⟩⟩ rfl rfl hl.1 rfl (lv_room (Nat.le_of_ble_eq_true rfl)) dX7_quantitiesOf_13 ⟨Nat.zero_le _, Nat.zero_le _⟩) (fun r_13 hr_13 => ?_)
        have e13 : r_13 = mC g z3.toInt.toNat := by rw [hr_13.1]; unfold mC; rw [← show z3 = nI z3.toInt.toNat from nI_ek (by omega)]
        have cl := cB_le (qnB (mC g) x1.toInt x1.toInt) z3.toInt.toNat
        refine lv_iload_n hx hb dX7_quantitiesOf_16 rfl (lv_at hl 1 rfl) ?_
        refine lv_icmp_ne (tgt := 24) hx hb dX7_quantitiesOf_17 (by decide) (fun c_17 => ?_) (fun c_17 => ?_)
        · skip
          have i_17 := ti_nek rfl rfl c_17
          refine lv_iconst (v := 0) hx hb dX7_quantitiesOf_24 (by decide) ?_
          refine lv_iadd hx hb dX7_quantitiesOf_25 ?_
          refine lv_topi (fun v_25 e_25 => ?_)
          have t_25 := ti_addk rfl tk_0 (by omega) (by omega) e_25
          refine lv_istore_n (lv' := [(2, .int v_25), (0, .ref (ya Z 0)), (1, .int x1), (3, .int z3)]) hx hb dX7_quantitiesOf_26 rfl hl (by decide) rfl (fun ls hl => ?_)
          obtain ⟨v_27, e_27⟩ : ∃ y : Int32, y = z3 + 1 := ⟨_, rfl⟩
          refine lv_iinc (v := v_27) (lv' := [(3, .int v_27), (2, .int v_25), (0, .ref (ya Z 0)), (1, .int x1)]) hx hb dX7_quantitiesOf_27 hl (k := 3) rfl (by rw [e_27]; rfl) (by decide) rfl (fun ls hl => ?_)
          have t_27 := ti_addk rfl tk_1 (by omega) (by omega) e_27
          refine lv_goto (tgt := 4) hx hb dX7_quantitiesOf_30 (by decide) ?_
          exact ih4 v_25 v_27 (by omega) (by rw [show v_27.toInt.toNat = z3.toInt.toNat + 1 by omega]; first | (rw [cB_y (p := (qnB (mC g) x1.toInt x1.toInt)) (n := z3.toInt.toNat) (by unfold qnB; rw [← e13]; exact decide_eq_true ⟨by omega, by omega⟩)]; omega) | (rw [cB_n (p := (qnB (mC g) x1.toInt x1.toInt)) (n := z3.toInt.toNat) (by unfold qnB; rw [← e13]; exact fun z => by have z := of_decide_eq_true z; omega)]; omega)) (by omega) ls (lv_sub hl [2, 3, 1, 0] rfl)
        · skip
          have i_17 := ti_eqk rfl rfl c_17
          refine lv_iconst (v := 1) hx hb dX7_quantitiesOf_20 (by decide) ?_
          refine lv_goto (tgt := 25) hx hb dX7_quantitiesOf_21 (by decide) ?_
          refine lv_iadd hx hb dX7_quantitiesOf_25 ?_
          refine lv_topi (fun v_25 e_25 => ?_)
          have t_25 := ti_addk rfl tk_1 (by omega) (by omega) e_25
          refine lv_istore_n (lv' := [(2, .int v_25), (0, .ref (ya Z 0)), (1, .int x1), (3, .int z3)]) hx hb dX7_quantitiesOf_26 rfl hl (by decide) rfl (fun ls hl => ?_)
          obtain ⟨v_27, e_27⟩ : ∃ y : Int32, y = z3 + 1 := ⟨_, rfl⟩
          refine lv_iinc (v := v_27) (lv' := [(3, .int v_27), (2, .int v_25), (0, .ref (ya Z 0)), (1, .int x1)]) hx hb dX7_quantitiesOf_27 hl (k := 3) rfl (by rw [e_27]; rfl) (by decide) rfl (fun ls hl => ?_)
          have t_27 := ti_addk rfl tk_1 (by omega) (by omega) e_27
          refine lv_goto (tgt := 4) hx hb dX7_quantitiesOf_30 (by decide) ?_
          exact ih4 v_25 v_27 (by omega) (by rw [show v_27.toInt.toNat = z3.toInt.toNat + 1 by omega]; first | (rw [cB_y (p := (qnB (mC g) x1.toInt x1.toInt)) (n := z3.toInt.toNat) (by unfold qnB; rw [← e13]; exact decide_eq_true ⟨by omega, by omega⟩)]; omega) | (rw [cB_n (p := (qnB (mC g) x1.toInt x1.toInt)) (n := z3.toInt.toNat) (by unfold qnB; rw [← e13]; exact fun z => by have z := of_decide_eq_true z; omega)]; omega)) (by omega) ls (lv_sub hl [2, 3, 1, 0] rfl)
  refine lv_iconst (v := 0) hx hb dX7_quantitiesOf_0 (by decide) ?_
  refine lv_istore_n (lv' := [(2, .int 0), (0, .ref (ya Z 0)), (1, .int x1)]) hx hb dX7_quantitiesOf_1 rfl hl (by decide) rfl (fun ls hl => ?_)
  refine lv_iconst (v := 0) hx hb dX7_quantitiesOf_2 (by decide) ?_
  refine lv_istore_n (lv' := [(3, .int 0), (2, .int 0), (0, .ref (ya Z 0)), (1, .int x1)]) hx hb dX7_quantitiesOf_3 rfl hl (by decide) rfl (fun ls hl => ?_)
  exact L4 _ 0 0 (by decide) (by rw [tk_0]; rfl) (Nat.lt_succ_self _) ls (lv_sub hl [2, 3, 1, 0] rfl)
