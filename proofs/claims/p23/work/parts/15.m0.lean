set_option maxHeartbeats 4000000 in
set_option maxRecDepth 100000 in
theorem c_X7_within (l : Launch) (x1 : Int32) (x2 : Int32) (x3 : Int32) : Met l yX7_within (Cond.code yX7_within cX7_within 3 (some .boolean) :: wsL_law) ({ frames := 0, cells := 0, slots := 0, locals := 0 } : Room) (va_Pc [.int x1, .int x2, .int x3] (fun _ => True)) (rd_Qi (fun r => (r = 1 ∧ (x2.toInt ≤ x1.toInt ∧ x1.toInt ≤ x3.toInt)) ∨ (r = 0 ∧ ¬ (x2.toInt ≤ x1.toInt ∧ x1.toInt ≤ x3.toInt)))) 0 0 (fun _ => False) := by
  refine Met.ofW (cc := cX7_within) (maxL := 3) (ret := (some .boolean)) (by decide) rfl ?_
  intro p e s m args below meth c s₁ B hml hv
  obtain ⟨rfl, hI⟩ := hv
  have hx := B.exec
  have hb := B.bytes
  have hr := B.returns
  have hT : ∀ w ∈ wsL_law, w.before ([.int x1, .int x2, .int x3] : List Value).toArray s = true := fun w h => atoms_spec (ws := (Cond.code yX7_within cX7_within 3 (some .boolean) :: wsL_law)) B.pre w (List.mem_cons_of_mem _ h)
  have hown : s.vm.findClass RX7 = some m.cls := findClass_of_methodNamed B.named
  have hlocks := B.notSynchronized
  have hl := lv_entry ([.int x1, .int x2, .int x3]) (n := 3) (Nat.le_of_ble_eq_true rfl)
  rw [lg_entry_eq]
  generalize (lg_sl ([.int x1, .int x2, .int x3]) ++ List.replicate (3 - (lg_sl ([.int x1, .int x2, .int x3])).length) Slot.unset).toArray = ls at hl ⊢
  have hl : lv_has ls 3 [(0, .int x1), (1, .int x2), (2, .int x3)] := hl
  refine lv_iload_n hx hb dX7_within_0 rfl (lv_at hl 0 rfl) ?_
  refine lv_iload_n hx hb dX7_within_1 rfl (lv_at hl 1 rfl) ?_
  refine lv_icmp_lt (tgt := 14) hx hb dX7_within_2 (by decide) (fun c_2 => ?_) (fun c_2 => ?_)
  · skip
    have i_2 := ti_ltk rfl rfl c_2
    refine lv_iconst (v := 0) hx hb dX7_within_14 (by decide) ?_
    exact W.zret (v := 0) (ty := .boolean) hx hb hr rfl (fun t ht hW => ⟨0, rfl, Or.inr ⟨rfl, (by first | assumption | omega | decide)⟩, ht⟩) (fun q hq => by cases hq) dX7_within_15
  · skip
    have i_2 := ti_nltk rfl rfl c_2
    refine lv_iload_n hx hb dX7_within_5 rfl (lv_at hl 0 rfl) ?_
    refine lv_iload_n hx hb dX7_within_6 rfl (lv_at hl 2 rfl) ?_
    refine lv_icmp_gt (tgt := 14) hx hb dX7_within_7 (by decide) (fun c_7 => ?_) (fun c_7 => ?_)
    · skip
      have i_7 := ti_ltk rfl rfl c_7
      refine lv_iconst (v := 0) hx hb dX7_within_14 (by decide) ?_
      exact W.zret (v := 0) (ty := .boolean) hx hb hr rfl (fun t ht hW => ⟨0, rfl, Or.inr ⟨rfl, (by first | assumption | omega | decide)⟩, ht⟩) (fun q hq => by cases hq) dX7_within_15
    · skip
      have i_7 := ti_nltk rfl rfl c_7
      refine lv_iconst (v := 1) hx hb dX7_within_10 (by decide) ?_
      refine lv_goto (tgt := 15) hx hb dX7_within_11 (by decide) ?_
      exact W.zret (v := 1) (ty := .boolean) hx hb hr rfl (fun t ht hW => ⟨1, rfl, Or.inl ⟨rfl, (by first | assumption | omega | decide)⟩, ht⟩) (fun q hq => by cases hq) dX7_within_15
set_option maxHeartbeats 4000000 in
set_option maxRecDepth 100000 in
theorem c_X7_isIn (l : Launch) (x1 : Int32) (x2 : Int32) (h0 : 0 ≤ x2.toInt) : Met l yX7_isIn (Cond.code yX7_isIn cX7_isIn 2 (some .boolean) :: wsL_law) ({ frames := 0, cells := 0, slots := 0, locals := 0 } : Room) (va_Pc [.int x1, .int x2] (fun _ => True)) (rd_Qi (fun r => (r = 1 ∧ inB x1 x2.toInt.toNat = true) ∨ (r = 0 ∧ inB x1 x2.toInt.toNat = false))) 0 0 (fun _ => False) := by
  refine Met.ofW (cc := cX7_isIn) (maxL := 2) (ret := (some .boolean)) (by decide) rfl ?_
  intro p e s m args below meth c s₁ B hml hv
  obtain ⟨rfl, hI⟩ := hv
  have hx := B.exec
  have hb := B.bytes
  have hr := B.returns
  have hT : ∀ w ∈ wsL_law, w.before ([.int x1, .int x2] : List Value).toArray s = true := fun w h => atoms_spec (ws := (Cond.code yX7_isIn cX7_isIn 2 (some .boolean) :: wsL_law)) B.pre w (List.mem_cons_of_mem _ h)
  have hown : s.vm.findClass RX7 = some m.cls := findClass_of_methodNamed B.named
  have hlocks := B.notSynchronized
  have hx2 : nI x2.toInt.toNat = x2 := nI_toN h0
  have hl := lv_entry ([.int x1, .int x2]) (n := 2) (Nat.le_of_ble_eq_true rfl)
  rw [lg_entry_eq]
  generalize (lg_sl ([.int x1, .int x2]) ++ List.replicate (2 - (lg_sl ([.int x1, .int x2])).length) Slot.unset).toArray = ls at hl ⊢
  have hl : lv_has ls 2 [(0, .int x1), (1, .int x2)] := hl
  refine lv_iload_n hx hb dX7_isIn_0 rfl (lv_at hl 0 rfl) ?_
  refine lv_iload_n hx hb dX7_isIn_1 rfl (lv_at hl 1 rfl) ?_
  refine lv_ishr hx hb dX7_isIn_2 ?_
  refine lv_topi (fun v_2 e_2 => ?_)
  refine lv_iconst (v := 1) hx hb dX7_isIn_3 (by decide) ?_
  refine lv_iand hx hb dX7_isIn_4 ?_
  refine lv_topi (fun v_4 e_4 => ?_)
  refine lv_iconst (v := 1) hx hb dX7_isIn_5 (by decide) ?_
  refine lv_icmp_ne (tgt := 13) hx hb dX7_isIn_6 (by decide) (fun c_6 => ?_) (fun c_6 => ?_)
  · skip
    have i_6 := ti_nek rfl tk_1 c_6
    refine lv_iconst (v := 0) hx hb dX7_isIn_13 (by decide) ?_
    exact W.zret (v := 0) (ty := .boolean) hx hb hr rfl (fun t ht hW => ⟨0, rfl, Or.inr ⟨rfl, (by (try dsimp only); unfold inB; rw [hx2, ← e_2, ← e_4]; exact decide_eq_false c_6)⟩, ht⟩) (fun q hq => by cases hq) dX7_isIn_14
  · skip
    have i_6 := ti_eqk rfl tk_1 c_6
    refine lv_iconst (v := 1) hx hb dX7_isIn_9 (by decide) ?_
    refine lv_goto (tgt := 14) hx hb dX7_isIn_10 (by decide) ?_
    exact W.zret (v := 1) (ty := .boolean) hx hb hr rfl (fun t ht hW => ⟨1, rfl, Or.inl ⟨rfl, (by (try dsimp only); unfold inB; rw [hx2, ← e_2, ← e_4]; exact decide_eq_true c_6)⟩, ht⟩) (fun q hq => by cases hq) dX7_isIn_14
set_option maxHeartbeats 4000000 in
set_option maxRecDepth 100000 in
theorem c_X7_kindBy (l : Launch) (x1 : Int32) : Met l yX7_kindBy (Cond.code yX7_kindBy cX7_kindBy 1 (some .int) :: wsL_law) ({ frames := 0, cells := 0, slots := 0, locals := 0 } : Room) (va_Pc [.int x1] (fun _ => True)) (rd_Qi (fun r => r = kdF x1)) 0 0 (fun _ => False) := by
  refine Met.ofW (cc := cX7_kindBy) (maxL := 1) (ret := (some .int)) (by decide) rfl ?_
  intro p e s m args below meth c s₁ B hml hv
  obtain ⟨rfl, hI⟩ := hv
  have hx := B.exec
  have hb := B.bytes
  have hr := B.returns
  have hT : ∀ w ∈ wsL_law, w.before ([.int x1] : List Value).toArray s = true := fun w h => atoms_spec (ws := (Cond.code yX7_kindBy cX7_kindBy 1 (some .int) :: wsL_law)) B.pre w (List.mem_cons_of_mem _ h)
  have hown : s.vm.findClass RX7 = some m.cls := findClass_of_methodNamed B.named
  have hlocks := B.notSynchronized
  have hl := lv_entry ([.int x1]) (n := 1) (Nat.le_of_ble_eq_true rfl)
  rw [lg_entry_eq]
  generalize (lg_sl ([.int x1]) ++ List.replicate (1 - (lg_sl ([.int x1])).length) Slot.unset).toArray = ls at hl ⊢
  have hl : lv_has ls 1 [(0, .int x1)] := hl
  refine lv_iload_n hx hb dX7_kindBy_0 rfl (lv_at hl 0 rfl) ?_
  by_cases w_1_98 : x1 = 98
  · skip
    refine lv_lookup (tgt := 58) (off := 57) hx hb dX7_kindBy_1 (by decide) (by rw [w_1_98]; decide) (by decide) ?_
    refine lv_iconst (v := 3) hx hb dX7_kindBy_58 (by decide) ?_
    exact W.iret (v := 3) hx hb hr (fun t ht hW => ⟨3, rfl, (by (try dsimp only); rw [w_1_98]; rfl), ht⟩) (fun q hq => by cases hq) dX7_kindBy_59
  by_cases w_1_102 : x1 = 102
  · skip
    refine lv_lookup (tgt := 54) (off := 53) hx hb dX7_kindBy_1 (by decide) (by rw [w_1_102]; decide) (by decide) ?_
    refine lv_iconst (v := 1) hx hb dX7_kindBy_54 (by decide) ?_
    exact W.iret (v := 1) hx hb hr (fun t ht hW => ⟨1, rfl, (by (try dsimp only); rw [w_1_102]; rfl), ht⟩) (fun q hq => by cases hq) dX7_kindBy_55
  by_cases w_1_111 : x1 = 111
  · skip
    refine lv_lookup (tgt := 60) (off := 59) hx hb dX7_kindBy_1 (by decide) (by rw [w_1_111]; decide) (by decide) ?_
    refine lv_iconst (v := 4) hx hb dX7_kindBy_60 (by decide) ?_
    exact W.iret (v := 4) hx hb hr (fun t ht hW => ⟨4, rfl, (by (try dsimp only); rw [w_1_111]; rfl), ht⟩) (fun q hq => by cases hq) dX7_kindBy_61
  by_cases w_1_115 : x1 = 115
  · skip
    refine lv_lookup (tgt := 56) (off := 55) hx hb dX7_kindBy_1 (by decide) (by rw [w_1_115]; decide) (by decide) ?_
    refine lv_iconst (v := 2) hx hb dX7_kindBy_56 (by decide) ?_
    exact W.iret (v := 2) hx hb hr (fun t ht hW => ⟨2, rfl, (by (try dsimp only); rw [w_1_115]; rfl), ht⟩) (fun q hq => by cases hq) dX7_kindBy_57
  by_cases w_1_116 : x1 = 116
  · skip
    refine lv_lookup (tgt := 52) (off := 51) hx hb dX7_kindBy_1 (by decide) (by rw [w_1_116]; decide) (by decide) ?_
    refine lv_iconst (v := 0) hx hb dX7_kindBy_52 (by decide) ?_
    exact W.iret (v := 0) hx hb hr (fun t ht hW => ⟨0, rfl, (by (try dsimp only); rw [w_1_116]; rfl), ht⟩) (fun q hq => by cases hq) dX7_kindBy_53
  have n_1_98 := ti_nek rfl tk_98 w_1_98
  have n_1_102 := ti_nek rfl tk_102 w_1_102
  have n_1_111 := ti_nek rfl tk_111 w_1_111
  have n_1_115 := ti_nek rfl tk_115 w_1_115
  have n_1_116 := ti_nek rfl tk_116 w_1_116
  refine lv_lookup (tgt := 62) (off := 61) hx hb dX7_kindBy_1 (by decide) (by rw [lv_osw w_1_98 tk_98]; rw [lv_osw w_1_102 tk_102]; rw [lv_osw w_1_111 tk_111]; rw [lv_osw w_1_115 tk_115]; rw [lv_osw w_1_116 tk_116]; rfl) (by decide) ?_
  refine lv_iconst (v := (-1)) hx hb dX7_kindBy_62 (by decide) ?_
  exact W.iret (v := (-1)) hx hb hr (fun t ht hW => ⟨(-1), rfl, (by (try dsimp only); unfold kdF; rw [if_neg w_1_116, if_neg w_1_102, if_neg w_1_115, if_neg w_1_98, if_neg w_1_111]), ht⟩) (fun q hq => by cases hq) dX7_kindBy_63
set_option maxHeartbeats 4000000 in
set_option maxRecDepth 100000 in
theorem c_X7_at (l : Launch) (Z : YT) (hZ : MG Z) (g : Nat → Nat → Int32) (gl : Nat → Nat → Int64) (x1 : Int32) (h0 : 0 ≤ x1.toInt) (hJ : MJ g) : Met l yX7_at (Cond.code yX7_at cX7_at 2 (some .int) :: wsL_law) ({ frames := 0, cells := 0, slots := 0, locals := 0 } : Room) (va_Pc [.ref (ya Z 0), .int x1] (MI Z g gl)) (rd_Qi (fun r => (∀ k : Nat, x1.toInt = k → r.toInt = atp (g 10) (g 42 0).toInt k) ∧ (0 ≤ r.toInt ∧ r.toInt ≤ 126) ∧ (∀ k : Nat, x1.toInt = k → (k : Int) < (g 42 0).toInt → r = g 10 k))) 0 0 (fun _ => False) := by
  refine Met.ofW (cc := cX7_at) (maxL := 2) (ret := (some .int)) (by decide) rfl ?_
  intro p e s m args below meth c s₁ B hml hv
  obtain ⟨rfl, hI⟩ := hv
  have hx := B.exec
  have hb := B.bytes
  have hr := B.returns
  have hT : ∀ w ∈ wsL_law, w.before ([.ref (ya Z 0), .int x1] : List Value).toArray s = true := fun w h => atoms_spec (ws := (Cond.code yX7_at cX7_at 2 (some .int) :: wsL_law)) B.pre w (List.mem_cons_of_mem _ h)
  have hown : s.vm.findClass RX7 = some m.cls := findClass_of_methodNamed B.named
  have hlocks := B.notSynchronized
  have hK := hI.2
  have hP := hI.1
  have hS : va_S (yA Z) s.heap s.heap [] := va_S.rf
  have j42 := hJ.j42
  have hl := lv_entry ([.ref (ya Z 0), .int x1]) (n := 2) (Nat.le_of_ble_eq_true rfl)
  rw [lg_entry_eq]
  generalize (lg_sl ([.ref (ya Z 0), .int x1]) ++ List.replicate (2 - (lg_sl ([.ref (ya Z 0), .int x1])).length) Slot.unset).toArray = ls at hl ⊢
  have hl : lv_has ls 2 [(0, .ref (ya Z 0)), (1, .int x1)] := hl
  refine lv_iload_n hx hb dX7_at_0 rfl (lv_at hl 1 rfl) ?_
  refine lv_aload_n hx hb dX7_at_1 rfl (lv_at hl 0 rfl) ?_
  refine va_get (D := yD Z) (ci := 7) (v := .int (g 42 0)) (C := RX7) (T := TX7) (N := 31) hx hb hT inlX7 hown hK hP 0 mw_0 rfl 12 (by decide) (hT _ (tr_5 _ (List.mem_of_getElem? (i := 23) rfl))) (fun _ h9 => h9) rfl dX7_at_2 ?_
  refine lv_icmp_ge (tgt := 17) hx hb dX7_at_5 (by decide) (fun c_5 => ?_) (fun c_5 => ?_)
  · skip
    have i_5 := ti_lek rfl rfl c_5
    refine lv_iconst (v := 0) hx hb dX7_at_17 (by decide) ?_
    exact W.iret (v := 0) hx hb hr (fun t ht hW => ⟨0, rfl, ⟨fun k hk => by rw [atp_out (by omega)]; decide, by decide, fun k hk h => by omega⟩, ht⟩) (fun q hq => by cases hq) dX7_at_18
  · skip
    have i_5 := ti_nlek rfl rfl c_5
    refine lv_aload_n hx hb dX7_at_8 rfl (lv_at hl 0 rfl) ?_
    refine va_get (D := yD Z) (ci := 7) (v := .ref (ya Z 10)) (C := RX7) (T := TX7) (N := 31) hx hb hT inlX7 hown hK hP 0 mw_0 rfl 13 (by decide) (hT _ (tr_4 _ (List.mem_of_getElem? (i := 23) rfl))) (fun _ h9 => h9) rfl dX7_at_9 ?_
    refine lv_iload_n hx hb dX7_at_12 rfl (lv_at hl 1 rfl) ?_
    have h_13 : vp_in x1 50 := (ti_vp (by omega) (by omega))
    refine va_bald hx hb hK hP 10 0 mw_10 rfl h_13 dX7_at_13 ?_
    refine lv_topi (fun v_13 e_13 => ?_)
    refine lv_goto (tgt := 18) hx hb dX7_at_14 (by decide) ?_
    exact W.iret (v := v_13) hx hb hr (fun t ht hW => ⟨v_13, rfl, ⟨fun k hk => by rw [atp_in (by omega), e_13, ti_clamp hk], by rw [e_13]; exact hJ.j10 _, fun k hk _ => by rw [e_13, ti_clamp hk]⟩, ht⟩) (fun q hq => by cases hq) dX7_at_18
set_option maxHeartbeats 4000000 in
set_option maxRecDepth 100000 in
theorem c_X7_figure (l : Launch) (Z : YT) (hZ : MG Z) (g : Nat → Nat → Int32) (gl : Nat → Nat → Int64) (x1 : Int32) (h0 : 0 ≤ x1.toInt) (hJ : MJ g) : Met l yX7_figure (Cond.code yX7_figure cX7_figure 2 (some .int) :: wsL_law) ({ frames := 1, cells := 0, slots := 0, locals := 21 } : Room) (va_Pc [.ref (ya Z 0), .int x1] (MI Z g gl)) (rd_Qi (fun r => (∀ k : Nat, x1.toInt = k → r.toInt = atp (g 10) (g 42 0).toInt k - 48) ∧ (-48 ≤ r.toInt ∧ r.toInt ≤ 78) ∧ (∀ k : Nat, x1.toInt = k → (k : Int) < (g 42 0).toInt → r = g 10 k - 48))) 0 0 (fun _ => False) := by
  refine Met.ofW (cc := cX7_figure) (maxL := 2) (ret := (some .int)) (by decide) rfl ?_
  intro p e s m args below meth c s₁ B hml hv
  obtain ⟨rfl, hI⟩ := hv
  have hx := B.exec
  have hb := B.bytes
  have hr := B.returns
  have hT : ∀ w ∈ wsL_law, w.before ([.ref (ya Z 0), .int x1] : List Value).toArray s = true := fun w h => atoms_spec (ws := (Cond.code yX7_figure cX7_figure 2 (some .int) :: wsL_law)) B.pre w (List.mem_cons_of_mem _ h)
  have hown : s.vm.findClass RX7 = some m.cls := findClass_of_methodNamed B.named
  have hlocks := B.notSynchronized
  have hK := hI.2
  have hP := hI.1
  have hS : va_S (yA Z) s.heap s.heap [] := va_S.rf
  have hl := lv_entry ([.ref (ya Z 0), .int x1]) (n := 2) (Nat.le_of_ble_eq_true rfl)
  rw [lg_entry_eq]
  generalize (lg_sl ([.ref (ya Z 0), .int x1]) ++ List.replicate (2 - (lg_sl ([.ref (ya Z 0), .int x1])).length) Slot.unset).toArray = ls at hl ⊢
  have hl : lv_has ls 2 [(0, .ref (ya Z 0)), (1, .int x1)] := hl
  refine lv_aload_n hx hb dX7_figure_0 rfl (lv_at hl 0 rfl) ?_
  refine lv_iload_n hx hb dX7_figure_1 rfl (lv_at hl 1 rfl) ?_
  refine rd_ci (va_runV (As := [.int x1]) (rest := []) ⟨hx, hb, hml, hown, hT⟩ (c_X7_at l Z hZ g gl x1 (by first | assumption | omega | decide) hJ) (cwV 1 hT (tb_V (fun _ h => h) (tr_11 _ (List.mem_of_getElem? (i := 22) rfl)) (tr_11 _ (List.mem_of_getElem? (i := 23) rfl)) (tr_12 _ (List.mem_of_getElem? (i := 0) rfl)) (tr_1 _ (List.mem_of_getElem? (i := 5) rfl)) (tr_12 _ (List.mem_of_getElem? (i := 1) rfl))) rfl rfl rfl (by decide +kernel) ⟨Nat.le_of_ble_eq_true rfl, Nat.le_of_ble_eq_true rfl⟩) ⟨fun a U f mk q => ⟨q.1, MI.blind f mk a q.2⟩, va_recv hK hP (ci := 7) (q0 := 0) rfl mw_0, fun U hU hW => ⟨rfl, hI.at hS hP hU hW⟩⟩ rfl rfl hl.1 rfl (lv_room (Nat.le_of_ble_eq_true rfl)) dX7_figure_2 ⟨Nat.zero_le _, Nat.zero_le _⟩) (fun r_2 hr_2 => ?_)
  have q2 := hr_2.2.1
  refine lv_bipush (v := 48) hx hb dX7_figure_5 (by decide) ?_
  refine lv_isub hx hb dX7_figure_7 ?_
  refine lv_topi (fun v_7 e_7 => ?_)
  have t_7 := ti_subk rfl tk_48 (by omega) (by omega) e_7
  exact W.iret (v := v_7) hx hb hr (fun t ht hW => ⟨v_7, rfl, ⟨fun k hk => by rw [← hr_2.1 k hk]; exact t_7, by omega, fun k hk h => by rw [e_7, hr_2.2.2 k hk h]⟩, ht⟩) (fun q hq => by cases hq) dX7_figure_8
set_option maxHeartbeats 4000000 in
set_option maxRecDepth 100000 in
theorem c_X7_isSign (l : Launch) (Z : YT) (hZ : MG Z) (g : Nat → Nat → Int32) (gl : Nat → Nat → Int64) (x1 : Int32) (h0 : 0 ≤ x1.toInt) (k : Nat) (hk : x1.toInt = k) (hJ : MJ g) : Met l yX7_isSign (Cond.code yX7_isSign cX7_isSign 2 (some .boolean) :: wsL_law) ({ frames := 1, cells := 0, slots := 0, locals := 21 } : Room) (va_Pc [.ref (ya Z 0), .int x1] (MI Z g gl)) (rd_Qi (fun r => (r = 1 ∧ (atp (g 10) (g 42 0).toInt k = 43 ∨ atp (g 10) (g 42 0).toInt k = 45)) ∨ (r = 0 ∧ ¬ (atp (g 10) (g 42 0).toInt k = 43 ∨ atp (g 10) (g 42 0).toInt k = 45)))) 0 0 (fun _ => False) := by
  refine Met.ofW (cc := cX7_isSign) (maxL := 2) (ret := (some .boolean)) (by decide) rfl ?_
  intro p e s m args below meth c s₁ B hml hv
  obtain ⟨rfl, hI⟩ := hv
  have hx := B.exec
  have hb := B.bytes
  have hr := B.returns
  have hT : ∀ w ∈ wsL_law, w.before ([.ref (ya Z 0), .int x1] : List Value).toArray s = true := fun w h => atoms_spec (ws := (Cond.code yX7_isSign cX7_isSign 2 (some .boolean) :: wsL_law)) B.pre w (List.mem_cons_of_mem _ h)
  have hown : s.vm.findClass RX7 = some m.cls := findClass_of_methodNamed B.named
  have hlocks := B.notSynchronized
  have hK := hI.2
  have hP := hI.1
  have hS : va_S (yA Z) s.heap s.heap [] := va_S.rf
  have hl := lv_entry ([.ref (ya Z 0), .int x1]) (n := 2) (Nat.le_of_ble_eq_true rfl)
  rw [lg_entry_eq]
  generalize (lg_sl ([.ref (ya Z 0), .int x1]) ++ List.replicate (2 - (lg_sl ([.ref (ya Z 0), .int x1])).length) Slot.unset).toArray = ls at hl ⊢
  have hl : lv_has ls 2 [(0, .ref (ya Z 0)), (1, .int x1)] := hl
  refine lv_aload_n hx hb dX7_isSign_0 rfl (lv_at hl 0 rfl) ?_
  refine lv_iload_n hx hb dX7_isSign_1 rfl (lv_at hl 1 rfl) ?_
  refine rd_ci (va_runV (As := [.int x1]) (rest := []) ⟨hx, hb, hml, hown, hT⟩ (c_X7_at l Z hZ g gl x1 (by first | assumption | omega | decide) hJ) (cwV 1 hT (tb_V (fun _ h => h) (tr_11 _ (List.mem_of_getElem? (i := 22) rfl)) (tr_11 _ (List.mem_of_getElem? (i := 23) rfl)) (tr_12 _ (List.mem_of_getElem? (i := 0) rfl)) (tr_1 _ (List.mem_of_getElem? (i := 5) rfl)) (tr_12 _ (List.mem_of_getElem? (i := 1) rfl))) rfl rfl rfl (by decide +kernel) ⟨Nat.le_of_ble_eq_true rfl, Nat.le_of_ble_eq_true rfl⟩) ⟨fun a U f mk q => ⟨q.1, MI.blind f mk a q.2⟩, va_recv hK hP (ci := 7) (q0 := 0) rfl mw_0, fun U hU hW => ⟨rfl, hI.at hS hP hU hW⟩⟩ rfl rfl hl.1 rfl (lv_room (Nat.le_of_ble_eq_true rfl)) dX7_isSign_2 ⟨Nat.zero_le _, Nat.zero_le _⟩) (fun r_2 hr_2 => ?_)
  have q2 := hr_2.1 k hk
  refine lv_bipush (v := 43) hx hb dX7_isSign_5 (by decide) ?_
  refine lv_icmp_eq (tgt := 20) hx hb dX7_isSign_7 (by decide) (fun c_7 => ?_) (fun c_7 => ?_)
  · skip
    have i_7 := ti_eqk rfl tk_43 c_7
    refine lv_iconst (v := 1) hx hb dX7_isSign_20 (by decide) ?_
    refine lv_goto (tgt := 25) hx hb dX7_isSign_21 (by decide) ?_
    exact W.zret (v := 1) (ty := .boolean) hx hb hr rfl (fun t ht hW => ⟨1, rfl, Or.inl ⟨rfl, (by first | assumption | omega | decide)⟩, ht⟩) (fun q hq => by cases hq) dX7_isSign_25
  · skip
    have i_7 := ti_nek rfl tk_43 c_7
    refine lv_aload_n hx hb dX7_isSign_10 rfl (lv_at hl 0 rfl) ?_
    refine lv_iload_n hx hb dX7_isSign_11 rfl (lv_at hl 1 rfl) ?_
    refine rd_ci (va_runV (As := [.int x1]) (rest := []) ⟨hx, hb, hml, hown, hT⟩ (c_X7_at l Z hZ g gl x1 (by first | assumption | omega | decide) hJ) (cwV 1 hT (tb_V (fun _ h => h) (tr_11 _ (List.mem_of_getElem? (i := 22) rfl)) (tr_11 _ (List.mem_of_getElem? (i := 23) rfl)) (tr_12 _ (List.mem_of_getElem? (i := 0) rfl)) (tr_1 _ (List.mem_of_getElem? (i := 5) rfl)) (tr_12 _ (List.mem_of_getElem? (i := 1) rfl))) rfl rfl rfl (by decide +kernel) ⟨Nat.le_of_ble_eq_true rfl, Nat.le_of_ble_eq_true rfl⟩) ⟨fun a U f mk q => ⟨q.1, MI.blind f mk a q.2⟩, va_recv hK hP (ci := 7) (q0 := 0) rfl mw_0, fun U hU hW => ⟨rfl, hI.at hS hP hU hW⟩⟩ rfl rfl hl.1 rfl (lv_room (Nat.le_of_ble_eq_true rfl)) dX7_isSign_12 ⟨Nat.zero_le _, Nat.zero_le _⟩) (fun r_12 hr_12 => ?_)
    have q12 := hr_12.1 k hk
    refine lv_bipush (v := 45) hx hb dX7_isSign_15 (by decide) ?_
    refine lv_icmp_ne (tgt := 24) hx hb dX7_isSign_17 (by decide) (fun c_17 => ?_) (fun c_17 => ?_)
    · skip
      have i_17 := ti_nek rfl tk_45 c_17
      refine lv_iconst (v := 0) hx hb dX7_isSign_24 (by decide) ?_
      exact W.zret (v := 0) (ty := .boolean) hx hb hr rfl (fun t ht hW => ⟨0, rfl, Or.inr ⟨rfl, (by first | assumption | omega | decide)⟩, ht⟩) (fun q hq => by cases hq) dX7_isSign_25
    · skip
      have i_17 := ti_eqk rfl tk_45 c_17
      refine lv_iconst (v := 1) hx hb dX7_isSign_20 (by decide) ?_
      refine lv_goto (tgt := 25) hx hb dX7_isSign_21 (by decide) ?_
      exact W.zret (v := 1) (ty := .boolean) hx hb hr rfl (fun t ht hW => ⟨1, rfl, Or.inl ⟨rfl, (by first | assumption | omega | decide)⟩, ht⟩) (fun q hq => by cases hq) dX7_isSign_25
set_option maxHeartbeats 4000000 in
set_option maxRecDepth 100000 in
theorem c_X7_isLetter (l : Launch) (Z : YT) (hZ : MG Z) (g : Nat → Nat → Int32) (gl : Nat → Nat → Int64) (x1 : Int32) (x2 : Int32) (k : Nat) (hk : x1.toInt + x2.toInt = k) (hk2 : k < 47) (hm : x2.toInt = ((k % 12 : Nat) : Int)) (hm2 : k % 12 ≤ 10) (h0 : 0 ≤ x1.toInt) (hpre : ∀ j, j < k → okp (g 10) j ∧ (j : Int) < (g 42 0).toInt) (hJ : MJ g) : Met l yX7_isLetter (Cond.code yX7_isLetter cX7_isLetter 4 (some .boolean) :: wsL_law) ({ frames := 2, cells := 0, slots := 0, locals := 42 } : Room) (va_Pc [.ref (ya Z 0), .int x1, .int x2] (MI Z g gl)) (rd_Qi (fun r => (r = 1 ∧ (okp (g 10) k ∧ (k : Int) < (g 42 0).toInt)) ∨ (r = 0 ∧ ¬ (okp (g 10) k ∧ (k : Int) < (g 42 0).toInt)))) 0 0 (fun _ => False) := by
  refine Met.ofW (cc := cX7_isLetter) (maxL := 4) (ret := (some .boolean)) (by decide) rfl ?_
  intro p e s m args below meth c s₁ B hml hv
  obtain ⟨rfl, hI⟩ := hv
  have hx := B.exec
  have hb := B.bytes
  have hr := B.returns
  have hT : ∀ w ∈ wsL_law, w.before ([.ref (ya Z 0), .int x1, .int x2] : List Value).toArray s = true := fun w h => atoms_spec (ws := (Cond.code yX7_isLetter cX7_isLetter 4 (some .boolean) :: wsL_law)) B.pre w (List.mem_cons_of_mem _ h)
  have hown : s.vm.findClass RX7 = some m.cls := findClass_of_methodNamed B.named
  have hlocks := B.notSynchronized
  have hK := hI.2
  have hP := hI.1
  have hS : va_S (yA Z) s.heap s.heap [] := va_S.rf
  have y0 : ((k : Int) < (g 42 0).toInt ∧ atp (g 10) (g 42 0).toInt k = (g 10 k).toInt) ∨ (¬ (k : Int) < (g 42 0).toInt ∧ atp (g 10) (g 42 0).toInt k = 0) := by rcases Int.lt_or_le (k : Int) (g 42 0).toInt with hkn | hkn; exact Or.inl ⟨hkn, atp_in hkn⟩; exact Or.inr ⟨by omega, atp_out (by omega)⟩
  have hl := lv_entry ([.ref (ya Z 0), .int x1, .int x2]) (n := 4) (Nat.le_of_ble_eq_true rfl)
  rw [lg_entry_eq]
  generalize (lg_sl ([.ref (ya Z 0), .int x1, .int x2]) ++ List.replicate (4 - (lg_sl ([.ref (ya Z 0), .int x1, .int x2])).length) Slot.unset).toArray = ls at hl ⊢
  have hl : lv_has ls 4 [(0, .ref (ya Z 0)), (1, .int x1), (2, .int x2)] := hl
  refine lv_iload_n hx hb dX7_isLetter_0 rfl (lv_at hl 1 rfl) ?_
  refine lv_iload_n hx hb dX7_isLetter_1 rfl (lv_at hl 2 rfl) ?_
  refine lv_iadd hx hb dX7_isLetter_2 ?_
  refine lv_topi (fun v_2 e_2 => ?_)
  have t_2 := ti_addk rfl rfl (by omega) (by omega) e_2
  refine lv_istore_n (lv' := [(3, .int v_2), (0, .ref (ya Z 0)), (1, .int x1), (2, .int x2)]) hx hb dX7_isLetter_3 rfl hl (by decide) rfl (fun ls hl => ?_)
  refine lv_iload_n hx hb dX7_isLetter_4 rfl (lv_at hl 3 rfl) ?_
  by_cases w_5_0 : x2 = 0
  · skip
    refine lv_tableIn (tgt := 64) (off := 59) hx hb dX7_isLetter_5 (by rw [w_5_0]; decide) (by rw [w_5_0]; decide) (by rw [w_5_0]; decide) (by decide) ?_
    have m_0 := ti_eqk rfl tk_0 w_5_0
    refine lv_aload_n hx hb dX7_isLetter_64 rfl (lv_at hl 1 rfl) ?_
    refine lv_iload_n hx hb dX7_isLetter_65 rfl (lv_at hl 0 rfl) ?_
    refine rd_ci (va_runV (As := [.int v_2]) (rest := []) ⟨hx, hb, hml, hown, hT⟩ (c_X7_at l Z hZ g gl v_2 (by first | assumption | omega | decide) hJ) (cwV 1 hT (tb_V (fun _ h => h) (tr_11 _ (List.mem_of_getElem? (i := 22) rfl)) (tr_11 _ (List.mem_of_getElem? (i := 23) rfl)) (tr_12 _ (List.mem_of_getElem? (i := 0) rfl)) (tr_1 _ (List.mem_of_getElem? (i := 5) rfl)) (tr_12 _ (List.mem_of_getElem? (i := 1) rfl))) rfl rfl rfl (by decide +kernel) ⟨Nat.le_of_ble_eq_true rfl, Nat.le_of_ble_eq_true rfl⟩) ⟨fun a U f mk q => ⟨q.1, MI.blind f mk a q.2⟩, va_recv hK hP (ci := 7) (q0 := 0) rfl mw_0, fun U hU hW => ⟨rfl, hI.at hS hP hU hW⟩⟩ rfl rfl hl.1 rfl (lv_room (Nat.le_of_ble_eq_true rfl)) dX7_isLetter_66 ⟨Nat.zero_le _, Nat.zero_le _⟩) (fun r_66 hr_66 => ?_)
    have q66 := hr_66.1 k (by omega)
    refine rd_ci (va_runS (As := [.int r_66]) (rest := []) ⟨hx, hb, hml, hown, hT⟩ (c_X7_kindBy l r_66) (va_cwS 1 hT (tb_S (fun _ h => h) (tr_12 _ (List.mem_of_getElem? (i := 2) rfl)) (tr_12 _ (List.mem_of_getElem? (i := 3) rfl)) (tr_1 _ (List.mem_of_getElem? (i := 5) rfl)) (tr_12 _ (List.mem_of_getElem? (i := 4) rfl))) rfl rfl rfl (by decide +kernel) ⟨Nat.le_of_ble_eq_true rfl, Nat.le_of_ble_eq_true rfl⟩) ⟨fun _ _ _ _ q => q, fun U hU hW => ⟨rfl, trivial⟩⟩ rfl rfl hl.1 rfl (lv_room (Nat.le_of_ble_eq_true rfl)) dX7_isLetter_69 ⟨Nat.zero_le _, Nat.zero_le _⟩) (fun r_69 hr_69 => ?_)
    have hk69 := kd_iff r_66
    have kd69 := kd_m1 r_66
    rw [← hr_69] at hk69 kd69
    refine lv_iconst (v := (-1)) hx hb dX7_isLetter_72 (by decide) ?_
    refine lv_icmp_eq (tgt := 80) hx hb dX7_isLetter_73 (by decide) (fun c_73 => ?_) (fun c_73 => ?_)
    · skip
      have i_73 := ti_eqk rfl tk_m1 c_73
      refine lv_iconst (v := 0) hx hb dX7_isLetter_80 (by decide) ?_
      exact W.zret (v := 0) (ty := .boolean) hx hb hr rfl (fun t ht hW => ⟨0, rfl, Or.inr ⟨rfl, (fun q => by have q1 := ((ok0 (by omega)).mp q.1).2; have q2 := q.2; omega)⟩, ht⟩) (fun q hq => by cases hq) dX7_isLetter_81
    · skip
      have i_73 := ti_nek rfl tk_m1 c_73
      refine lv_iconst (v := 1) hx hb dX7_isLetter_76 (by decide) ?_
      refine lv_goto (tgt := 81) hx hb dX7_isLetter_77 (by decide) ?_
      exact W.zret (v := 1) (ty := .boolean) hx hb hr rfl (fun t ht hW => ⟨1, rfl, Or.inl ⟨rfl, ⟨(ok0 (by omega)).mpr (by omega), by omega⟩⟩, ht⟩) (fun q hq => by cases hq) dX7_isLetter_81
  by_cases w_5_1 : x2 = 1
  · skip
    refine lv_tableIn (tgt := 82) (off := 77) hx hb dX7_isLetter_5 (by rw [w_5_1]; decide) (by rw [w_5_1]; decide) (by rw [w_5_1]; decide) (by decide) ?_
    have m_1 := ti_eqk rfl tk_1 w_5_1
    refine lv_aload_n hx hb dX7_isLetter_82 rfl (lv_at hl 1 rfl) ?_
    refine lv_iload_n hx hb dX7_isLetter_83 rfl (lv_at hl 0 rfl) ?_
    refine rd_ci (va_runV (As := [.int v_2]) (rest := []) ⟨hx, hb, hml, hown, hT⟩ (c_X7_isSign l Z hZ g gl v_2 (by first | assumption | omega | decide) k (by omega) hJ) (cwV 1 hT (tb_V (fun _ h => h) (tr_12 _ (List.mem_of_getElem? (i := 5) rfl)) (tr_12 _ (List.mem_of_getElem? (i := 6) rfl)) (tr_12 _ (List.mem_of_getElem? (i := 7) rfl)) (tr_1 _ (List.mem_of_getElem? (i := 5) rfl)) (tr_12 _ (List.mem_of_getElem? (i := 8) rfl))) rfl rfl rfl (by decide +kernel) ⟨Nat.le_of_ble_eq_true rfl, Nat.le_of_ble_eq_true rfl⟩) ⟨fun a U f mk q => ⟨q.1, MI.blind f mk a q.2⟩, va_recv hK hP (ci := 7) (q0 := 0) rfl mw_0, fun U hU hW => ⟨rfl, hI.at hS hP hU hW⟩⟩ rfl rfl hl.1 rfl (lv_room (Nat.le_of_ble_eq_true rfl)) dX7_isLetter_84 ⟨Nat.zero_le _, Nat.zero_le _⟩) (fun r_84 hr_84 => ?_)
    rcases hr_84 with ⟨rfl, b_84⟩ | ⟨rfl, b_84⟩
    · skip
      exact W.zret (v := 1) (ty := .boolean) hx hb hr rfl (fun t ht hW => ⟨1, rfl, Or.inl ⟨rfl, ⟨(ok1 (by omega)).mpr (by omega), by omega⟩⟩, ht⟩) (fun q hq => by cases hq) dX7_isLetter_87
    · skip
      exact W.zret (v := 0) (ty := .boolean) hx hb hr rfl (fun t ht hW => ⟨0, rfl, Or.inr ⟨rfl, (fun q => by have q1 := ((ok1 (by omega)).mp q.1).2; have q2 := q.2; omega)⟩, ht⟩) (fun q hq => by cases hq) dX7_isLetter_87
  by_cases w_5_2 : x2 = 2
  · skip
    refine lv_tableIn (tgt := 217) (off := 212) hx hb dX7_isLetter_5 (by rw [w_5_2]; decide) (by rw [w_5_2]; decide) (by rw [w_5_2]; decide) (by decide) ?_
    have m_2 := ti_eqk rfl tk_2 w_5_2
    refine lv_aload_n hx hb dX7_isLetter_217 rfl (lv_at hl 1 rfl) ?_
    refine lv_iload_n hx hb dX7_isLetter_218 rfl (lv_at hl 0 rfl) ?_
    refine rd_ci (va_runV (As := [.int v_2]) (rest := []) ⟨hx, hb, hml, hown, hT⟩ (c_X7_figure l Z hZ g gl v_2 (by first | assumption | omega | decide) hJ) (cwV 1 hT (tb_V (fun _ h => h) (tr_12 _ (List.mem_of_getElem? (i := 9) rfl)) (tr_12 _ (List.mem_of_getElem? (i := 10) rfl)) (tr_12 _ (List.mem_of_getElem? (i := 11) rfl)) (tr_1 _ (List.mem_of_getElem? (i := 5) rfl)) (tr_12 _ (List.mem_of_getElem? (i := 12) rfl))) rfl rfl rfl (by decide +kernel) ⟨Nat.le_of_ble_eq_true rfl, Nat.le_of_ble_eq_true rfl⟩) ⟨fun a U f mk q => ⟨q.1, MI.blind f mk a q.2⟩, va_recv hK hP (ci := 7) (q0 := 0) rfl mw_0, fun U hU hW => ⟨rfl, hI.at hS hP hU hW⟩⟩ rfl rfl hl.1 rfl (lv_room (Nat.le_of_ble_eq_true rfl)) dX7_isLetter_219 ⟨Nat.zero_le _, Nat.zero_le _⟩) (fun r_219 hr_219 => ?_)
    have q219 := hr_219.1 k (by omega)
    refine lv_iconst (v := 0) hx hb dX7_isLetter_222 (by decide) ?_
    refine lv_bipush (v := 9) hx hb dX7_isLetter_223 (by decide) ?_
    refine rd_ci (va_runS (As := [.int r_219, .int 0, .int 9]) (rest := []) ⟨hx, hb, hml, hown, hT⟩ (c_X7_within l r_219 0 9) (va_cwS 3 hT (tb_S (fun _ h => h) (tr_6 _ (List.mem_of_getElem? (i := 0) rfl)) (tr_6 _ (List.mem_of_getElem? (i := 1) rfl)) (tr_1 _ (List.mem_of_getElem? (i := 5) rfl)) (tr_6 _ (List.mem_of_getElem? (i := 2) rfl))) rfl rfl rfl (by decide +kernel) ⟨Nat.le_of_ble_eq_true rfl, Nat.le_of_ble_eq_true rfl⟩) ⟨fun _ _ _ _ q => q, fun U hU hW => ⟨rfl, trivial⟩⟩ rfl rfl hl.1 rfl (lv_room (Nat.le_of_ble_eq_true rfl)) dX7_isLetter_225 ⟨Nat.zero_le _, Nat.zero_le _⟩) (fun r_225 hr_225 => ?_)
    rcases hr_225 with ⟨rfl, b_225⟩ | ⟨rfl, b_225⟩
    · skip
      (try simp only [tk_0, tk_9] at b_225)
      exact W.zret (v := 1) (ty := .boolean) hx hb hr rfl (fun t ht hW => ⟨1, rfl, Or.inl ⟨rfl, ⟨(ok2 (by omega)).mpr (by omega), by omega⟩⟩, ht⟩) (fun q hq => by cases hq) dX7_isLetter_228
    · skip
      (try simp only [tk_0, tk_9] at b_225)
      exact W.zret (v := 0) (ty := .boolean) hx hb hr rfl (fun t ht hW => ⟨0, rfl, Or.inr ⟨rfl, (fun q => by have q1 := ((ok2 (by omega)).mp q.1).2; have q2 := q.2; omega)⟩, ht⟩) (fun q hq => by cases hq) dX7_isLetter_228
  by_cases w_5_3 : x2 = 3
  · skip
    refine lv_tableIn (tgt := 82) (off := 77) hx hb dX7_isLetter_5 (by rw [w_5_3]; decide) (by rw [w_5_3]; decide) (by rw [w_5_3]; decide) (by decide) ?_
    have m_3 := ti_eqk rfl tk_3 w_5_3
    refine lv_aload_n hx hb dX7_isLetter_82 rfl (lv_at hl 1 rfl) ?_
    refine lv_iload_n hx hb dX7_isLetter_83 rfl (lv_at hl 0 rfl) ?_
    refine rd_ci (va_runV (As := [.int v_2]) (rest := []) ⟨hx, hb, hml, hown, hT⟩ (c_X7_isSign l Z hZ g gl v_2 (by first | assumption | omega | decide) k (by omega) hJ) (cwV 1 hT (tb_V (fun _ h => h) (tr_12 _ (List.mem_of_getElem? (i := 5) rfl)) (tr_12 _ (List.mem_of_getElem? (i := 6) rfl)) (tr_12 _ (List.mem_of_getElem? (i := 7) rfl)) (tr_1 _ (List.mem_of_getElem? (i := 5) rfl)) (tr_12 _ (List.mem_of_getElem? (i := 8) rfl))) rfl rfl rfl (by decide +kernel) ⟨Nat.le_of_ble_eq_true rfl, Nat.le_of_ble_eq_true rfl⟩) ⟨fun a U f mk q => ⟨q.1, MI.blind f mk a q.2⟩, va_recv hK hP (ci := 7) (q0 := 0) rfl mw_0, fun U hU hW => ⟨rfl, hI.at hS hP hU hW⟩⟩ rfl rfl hl.1 rfl (lv_room (Nat.le_of_ble_eq_true rfl)) dX7_isLetter_84 ⟨Nat.zero_le _, Nat.zero_le _⟩) (fun r_84 hr_84 => ?_)
    rcases hr_84 with ⟨rfl, b_84⟩ | ⟨rfl, b_84⟩
    · skip
      exact W.zret (v := 1) (ty := .boolean) hx hb hr rfl (fun t ht hW => ⟨1, rfl, Or.inl ⟨rfl, ⟨(ok1 (by omega)).mpr (by omega), by omega⟩⟩, ht⟩) (fun q hq => by cases hq) dX7_isLetter_87
    · skip
      exact W.zret (v := 0) (ty := .boolean) hx hb hr rfl (fun t ht hW => ⟨0, rfl, Or.inr ⟨rfl, (fun q => by have q1 := ((ok1 (by omega)).mp q.1).2; have q2 := q.2; omega)⟩, ht⟩) (fun q hq => by cases hq) dX7_isLetter_87
  by_cases w_5_4 : x2 = 4
  · skip
    refine lv_tableIn (tgt := 217) (off := 212) hx hb dX7_isLetter_5 (by rw [w_5_4]; decide) (by rw [w_5_4]; decide) (by rw [w_5_4]; decide) (by decide) ?_
    have m_4 := ti_eqk rfl tk_4 w_5_4
    refine lv_aload_n hx hb dX7_isLetter_217 rfl (lv_at hl 1 rfl) ?_
    refine lv_iload_n hx hb dX7_isLetter_218 rfl (lv_at hl 0 rfl) ?_
    refine rd_ci (va_runV (As := [.int v_2]) (rest := []) ⟨hx, hb, hml, hown, hT⟩ (c_X7_figure l Z hZ g gl v_2 (by first | assumption | omega | decide) hJ) (cwV 1 hT (tb_V (fun _ h => h) (tr_12 _ (List.mem_of_getElem? (i := 9) rfl)) (tr_12 _ (List.mem_of_getElem? (i := 10) rfl)) (tr_12 _ (List.mem_of_getElem? (i := 11) rfl)) (tr_1 _ (List.mem_of_getElem? (i := 5) rfl)) (tr_12 _ (List.mem_of_getElem? (i := 12) rfl))) rfl rfl rfl (by decide +kernel) ⟨Nat.le_of_ble_eq_true rfl, Nat.le_of_ble_eq_true rfl⟩) ⟨fun a U f mk q => ⟨q.1, MI.blind f mk a q.2⟩, va_recv hK hP (ci := 7) (q0 := 0) rfl mw_0, fun U hU hW => ⟨rfl, hI.at hS hP hU hW⟩⟩ rfl rfl hl.1 rfl (lv_room (Nat.le_of_ble_eq_true rfl)) dX7_isLetter_219 ⟨Nat.zero_le _, Nat.zero_le _⟩) (fun r_219 hr_219 => ?_)
    have q219 := hr_219.1 k (by omega)
    refine lv_iconst (v := 0) hx hb dX7_isLetter_222 (by decide) ?_
    refine lv_bipush (v := 9) hx hb dX7_isLetter_223 (by decide) ?_
    refine rd_ci (va_runS (As := [.int r_219, .int 0, .int 9]) (rest := []) ⟨hx, hb, hml, hown, hT⟩ (c_X7_within l r_219 0 9) (va_cwS 3 hT (tb_S (fun _ h => h) (tr_6 _ (List.mem_of_getElem? (i := 0) rfl)) (tr_6 _ (List.mem_of_getElem? (i := 1) rfl)) (tr_1 _ (List.mem_of_getElem? (i := 5) rfl)) (tr_6 _ (List.mem_of_getElem? (i := 2) rfl))) rfl rfl rfl (by decide +kernel) ⟨Nat.le_of_ble_eq_true rfl, Nat.le_of_ble_eq_true rfl⟩) ⟨fun _ _ _ _ q => q, fun U hU hW => ⟨rfl, trivial⟩⟩ rfl rfl hl.1 rfl (lv_room (Nat.le_of_ble_eq_true rfl)) dX7_isLetter_225 ⟨Nat.zero_le _, Nat.zero_le _⟩) (fun r_225 hr_225 => ?_)
    rcases hr_225 with ⟨rfl, b_225⟩ | ⟨rfl, b_225⟩
    · skip
      (try simp only [tk_0, tk_9] at b_225)
      exact W.zret (v := 1) (ty := .boolean) hx hb hr rfl (fun t ht hW => ⟨1, rfl, Or.inl ⟨rfl, ⟨(ok2 (by omega)).mpr (by omega), by omega⟩⟩, ht⟩) (fun q hq => by cases hq) dX7_isLetter_228
    · skip
      (try simp only [tk_0, tk_9] at b_225)
      exact W.zret (v := 0) (ty := .boolean) hx hb hr rfl (fun t ht hW => ⟨0, rfl, Or.inr ⟨rfl, (fun q => by have q1 := ((ok2 (by omega)).mp q.1).2; have q2 := q.2; omega)⟩, ht⟩) (fun q hq => by cases hq) dX7_isLetter_228
  by_cases w_5_5 : x2 = 5
  · skip
    refine lv_tableIn (tgt := 217) (off := 212) hx hb dX7_isLetter_5 (by rw [w_5_5]; decide) (by rw [w_5_5]; decide) (by rw [w_5_5]; decide) (by decide) ?_
    have m_5 := ti_eqk rfl tk_5 w_5_5
    refine lv_aload_n hx hb dX7_isLetter_217 rfl (lv_at hl 1 rfl) ?_
    refine lv_iload_n hx hb dX7_isLetter_218 rfl (lv_at hl 0 rfl) ?_
    refine rd_ci (va_runV (As := [.int v_2]) (rest := []) ⟨hx, hb, hml, hown, hT⟩ (c_X7_figure l Z hZ g gl v_2 (by first | assumption | omega | decide) hJ) (cwV 1 hT (tb_V (fun _ h => h) (tr_12 _ (List.mem_of_getElem? (i := 9) rfl)) (tr_12 _ (List.mem_of_getElem? (i := 10) rfl)) (tr_12 _ (List.mem_of_getElem? (i := 11) rfl)) (tr_1 _ (List.mem_of_getElem? (i := 5) rfl)) (tr_12 _ (List.mem_of_getElem? (i := 12) rfl))) rfl rfl rfl (by decide +kernel) ⟨Nat.le_of_ble_eq_true rfl, Nat.le_of_ble_eq_true rfl⟩) ⟨fun a U f mk q => ⟨q.1, MI.blind f mk a q.2⟩, va_recv hK hP (ci := 7) (q0 := 0) rfl mw_0, fun U hU hW => ⟨rfl, hI.at hS hP hU hW⟩⟩ rfl rfl hl.1 rfl (lv_room (Nat.le_of_ble_eq_true rfl)) dX7_isLetter_219 ⟨Nat.zero_le _, Nat.zero_le _⟩) (fun r_219 hr_219 => ?_)
    have q219 := hr_219.1 k (by omega)
    refine lv_iconst (v := 0) hx hb dX7_isLetter_222 (by decide) ?_
    refine lv_bipush (v := 9) hx hb dX7_isLetter_223 (by decide) ?_
    refine rd_ci (va_runS (As := [.int r_219, .int 0, .int 9]) (rest := []) ⟨hx, hb, hml, hown, hT⟩ (c_X7_within l r_219 0 9) (va_cwS 3 hT (tb_S (fun _ h => h) (tr_6 _ (List.mem_of_getElem? (i := 0) rfl)) (tr_6 _ (List.mem_of_getElem? (i := 1) rfl)) (tr_1 _ (List.mem_of_getElem? (i := 5) rfl)) (tr_6 _ (List.mem_of_getElem? (i := 2) rfl))) rfl rfl rfl (by decide +kernel) ⟨Nat.le_of_ble_eq_true rfl, Nat.le_of_ble_eq_true rfl⟩) ⟨fun _ _ _ _ q => q, fun U hU hW => ⟨rfl, trivial⟩⟩ rfl rfl hl.1 rfl (lv_room (Nat.le_of_ble_eq_true rfl)) dX7_isLetter_225 ⟨Nat.zero_le _, Nat.zero_le _⟩) (fun r_225 hr_225 => ?_)
    rcases hr_225 with ⟨rfl, b_225⟩ | ⟨rfl, b_225⟩
    · skip
      (try simp only [tk_0, tk_9] at b_225)
      exact W.zret (v := 1) (ty := .boolean) hx hb hr rfl (fun t ht hW => ⟨1, rfl, Or.inl ⟨rfl, ⟨(ok2 (by omega)).mpr (by omega), by omega⟩⟩, ht⟩) (fun q hq => by cases hq) dX7_isLetter_228
    · skip
      (try simp only [tk_0, tk_9] at b_225)
      exact W.zret (v := 0) (ty := .boolean) hx hb hr rfl (fun t ht hW => ⟨0, rfl, Or.inr ⟨rfl, (fun q => by have q1 := ((ok2 (by omega)).mp q.1).2; have q2 := q.2; omega)⟩, ht⟩) (fun q hq => by cases hq) dX7_isLetter_228
  by_cases w_5_6 : x2 = 6
  · skip
    refine lv_tableIn (tgt := 88) (off := 83) hx hb dX7_isLetter_5 (by rw [w_5_6]; decide) (by rw [w_5_6]; decide) (by rw [w_5_6]; decide) (by decide) ?_
    have m_6 := ti_eqk rfl tk_6 w_5_6
    refine lv_aload_n hx hb dX7_isLetter_88 rfl (lv_at hl 1 rfl) ?_
    refine lv_iload_n hx hb dX7_isLetter_89 rfl (lv_at hl 0 rfl) ?_
    refine rd_ci (va_runV (As := [.int v_2]) (rest := []) ⟨hx, hb, hml, hown, hT⟩ (c_X7_at l Z hZ g gl v_2 (by first | assumption | omega | decide) hJ) (cwV 1 hT (tb_V (fun _ h => h) (tr_11 _ (List.mem_of_getElem? (i := 22) rfl)) (tr_11 _ (List.mem_of_getElem? (i := 23) rfl)) (tr_12 _ (List.mem_of_getElem? (i := 0) rfl)) (tr_1 _ (List.mem_of_getElem? (i := 5) rfl)) (tr_12 _ (List.mem_of_getElem? (i := 1) rfl))) rfl rfl rfl (by decide +kernel) ⟨Nat.le_of_ble_eq_true rfl, Nat.le_of_ble_eq_true rfl⟩) ⟨fun a U f mk q => ⟨q.1, MI.blind f mk a q.2⟩, va_recv hK hP (ci := 7) (q0 := 0) rfl mw_0, fun U hU hW => ⟨rfl, hI.at hS hP hU hW⟩⟩ rfl rfl hl.1 rfl (lv_room (Nat.le_of_ble_eq_true rfl)) dX7_isLetter_90 ⟨Nat.zero_le _, Nat.zero_le _⟩) (fun r_90 hr_90 => ?_)
    have q90 := hr_90.1 k (by omega)
    refine lv_bipush (v := 64) hx hb dX7_isLetter_93 (by decide) ?_
    refine lv_icmp_ne (tgt := 102) hx hb dX7_isLetter_95 (by decide) (fun c_95 => ?_) (fun c_95 => ?_)
    · skip
      have i_95 := ti_nek rfl tk_64 c_95
      refine lv_iconst (v := 0) hx hb dX7_isLetter_102 (by decide) ?_
      exact W.zret (v := 0) (ty := .boolean) hx hb hr rfl (fun t ht hW => ⟨0, rfl, Or.inr ⟨rfl, (fun q => by have q1 := ((ok6 (by omega)).mp q.1).2; have q2 := q.2; omega)⟩, ht⟩) (fun q hq => by cases hq) dX7_isLetter_103
    · skip
      have i_95 := ti_eqk rfl tk_64 c_95
      refine lv_iconst (v := 1) hx hb dX7_isLetter_98 (by decide) ?_
      refine lv_goto (tgt := 103) hx hb dX7_isLetter_99 (by decide) ?_
      exact W.zret (v := 1) (ty := .boolean) hx hb hr rfl (fun t ht hW => ⟨1, rfl, Or.inl ⟨rfl, ⟨(ok6 (by omega)).mpr (by omega), by omega⟩⟩, ht⟩) (fun q hq => by cases hq) dX7_isLetter_103
  by_cases w_5_7 : x2 = 7
  · skip
    refine lv_tableIn (tgt := 104) (off := 99) hx hb dX7_isLetter_5 (by rw [w_5_7]; decide) (by rw [w_5_7]; decide) (by rw [w_5_7]; decide) (by decide) ?_
    have m_7 := ti_eqk rfl tk_7 w_5_7
    refine lv_aload_n hx hb dX7_isLetter_104 rfl (lv_at hl 1 rfl) ?_
    refine lv_iload_n hx hb dX7_isLetter_105 rfl (lv_at hl 0 rfl) ?_
    refine rd_ci (va_runV (As := [.int v_2]) (rest := []) ⟨hx, hb, hml, hown, hT⟩ (c_X7_figure l Z hZ g gl v_2 (by first | assumption | omega | decide) hJ) (cwV 1 hT (tb_V (fun _ h => h) (tr_12 _ (List.mem_of_getElem? (i := 9) rfl)) (tr_12 _ (List.mem_of_getElem? (i := 10) rfl)) (tr_12 _ (List.mem_of_getElem? (i := 11) rfl)) (tr_1 _ (List.mem_of_getElem? (i := 5) rfl)) (tr_12 _ (List.mem_of_getElem? (i := 12) rfl))) rfl rfl rfl (by decide +kernel) ⟨Nat.le_of_ble_eq_true rfl, Nat.le_of_ble_eq_true rfl⟩) ⟨fun a U f mk q => ⟨q.1, MI.blind f mk a q.2⟩, va_recv hK hP (ci := 7) (q0 := 0) rfl mw_0, fun U hU hW => ⟨rfl, hI.at hS hP hU hW⟩⟩ rfl rfl hl.1 rfl (lv_room (Nat.le_of_ble_eq_true rfl)) dX7_isLetter_106 ⟨Nat.zero_le _, Nat.zero_le _⟩) (fun r_106 hr_106 => ?_)
    have q106 := hr_106.1 k (by omega)
    refine lv_iconst (v := 0) hx hb dX7_isLetter_109 (by decide) ?_
    refine lv_bipush (v := 6) hx hb dX7_isLetter_110 (by decide) ?_
    refine rd_ci (va_runS (As := [.int r_106, .int 0, .int 6]) (rest := []) ⟨hx, hb, hml, hown, hT⟩ (c_X7_within l r_106 0 6) (va_cwS 3 hT (tb_S (fun _ h => h) (tr_6 _ (List.mem_of_getElem? (i := 0) rfl)) (tr_6 _ (List.mem_of_getElem? (i := 1) rfl)) (tr_1 _ (List.mem_of_getElem? (i := 5) rfl)) (tr_6 _ (List.mem_of_getElem? (i := 2) rfl))) rfl rfl rfl (by decide +kernel) ⟨Nat.le_of_ble_eq_true rfl, Nat.le_of_ble_eq_true rfl⟩) ⟨fun _ _ _ _ q => q, fun U hU hW => ⟨rfl, trivial⟩⟩ rfl rfl hl.1 rfl (lv_room (Nat.le_of_ble_eq_true rfl)) dX7_isLetter_112 ⟨Nat.zero_le _, Nat.zero_le _⟩) (fun r_112 hr_112 => ?_)
    rcases hr_112 with ⟨rfl, b_112⟩ | ⟨rfl, b_112⟩
    · skip
      (try simp only [tk_0, tk_6] at b_112)
      exact W.zret (v := 1) (ty := .boolean) hx hb hr rfl (fun t ht hW => ⟨1, rfl, Or.inl ⟨rfl, ⟨(ok7 (by omega)).mpr (by omega), by omega⟩⟩, ht⟩) (fun q hq => by cases hq) dX7_isLetter_115
    · skip
      (try simp only [tk_0, tk_6] at b_112)
      exact W.zret (v := 0) (ty := .boolean) hx hb hr rfl (fun t ht hW => ⟨0, rfl, Or.inr ⟨rfl, (fun q => by have q1 := ((ok7 (by omega)).mp q.1).2; have q2 := q.2; omega)⟩, ht⟩) (fun q hq => by cases hq) dX7_isLetter_115
  by_cases w_5_8 : x2 = 8
  · skip
    refine lv_tableIn (tgt := 116) (off := 111) hx hb dX7_isLetter_5 (by rw [w_5_8]; decide) (by rw [w_5_8]; decide) (by rw [w_5_8]; decide) (by decide) ?_
    have m_8 := ti_eqk rfl tk_8 w_5_8
    have o1 := ((ok7 (by omega)).mp (hpre (k - 1) (by omega)).1).2
    refine lv_aload_n hx hb dX7_isLetter_116 rfl (lv_at hl 1 rfl) ?_
    refine lv_iload_n hx hb dX7_isLetter_117 rfl (lv_at hl 0 rfl) ?_
    refine rd_ci (va_runV (As := [.int v_2]) (rest := []) ⟨hx, hb, hml, hown, hT⟩ (c_X7_figure l Z hZ g gl v_2 (by first | assumption | omega | decide) hJ) (cwV 1 hT (tb_V (fun _ h => h) (tr_12 _ (List.mem_of_getElem? (i := 9) rfl)) (tr_12 _ (List.mem_of_getElem? (i := 10) rfl)) (tr_12 _ (List.mem_of_getElem? (i := 11) rfl)) (tr_1 _ (List.mem_of_getElem? (i := 5) rfl)) (tr_12 _ (List.mem_of_getElem? (i := 12) rfl))) rfl rfl rfl (by decide +kernel) ⟨Nat.le_of_ble_eq_true rfl, Nat.le_of_ble_eq_true rfl⟩) ⟨fun a U f mk q => ⟨q.1, MI.blind f mk a q.2⟩, va_recv hK hP (ci := 7) (q0 := 0) rfl mw_0, fun U hU hW => ⟨rfl, hI.at hS hP hU hW⟩⟩ rfl rfl hl.1 rfl (lv_room (Nat.le_of_ble_eq_true rfl)) dX7_isLetter_118 ⟨Nat.zero_le _, Nat.zero_le _⟩) (fun r_118 hr_118 => ?_)
    have q118 := hr_118.1 k (by omega)
    refine lv_iconst (v := 0) hx hb dX7_isLetter_121 (by decide) ?_
    refine lv_aload_n hx hb dX7_isLetter_122 rfl (lv_at hl 1 rfl) ?_
    refine lv_iload_n hx hb dX7_isLetter_123 rfl (lv_at hl 0 rfl) ?_
    refine lv_iconst (v := 1) hx hb dX7_isLetter_124 (by decide) ?_
    refine lv_isub hx hb dX7_isLetter_125 ?_
    refine lv_topi (fun v_125 e_125 => ?_)
    have t_125 := ti_subk rfl tk_1 (by omega) (by omega) e_125
    refine rd_ci (va_runV (As := [.int v_125]) (rest := [.int 0, .int r_118]) ⟨hx, hb, hml, hown, hT⟩ (c_X7_figure l Z hZ g gl v_125 (by first | assumption | omega | decide) hJ) (cwV 1 hT (tb_V (fun _ h => h) (tr_12 _ (List.mem_of_getElem? (i := 9) rfl)) (tr_12 _ (List.mem_of_getElem? (i := 10) rfl)) (tr_12 _ (List.mem_of_getElem? (i := 11) rfl)) (tr_1 _ (List.mem_of_getElem? (i := 5) rfl)) (tr_12 _ (List.mem_of_getElem? (i := 12) rfl))) rfl rfl rfl (by decide +kernel) ⟨Nat.le_of_ble_eq_true rfl, Nat.le_of_ble_eq_true rfl⟩) ⟨fun a U f mk q => ⟨q.1, MI.blind f mk a q.2⟩, va_recv hK hP (ci := 7) (q0 := 0) rfl mw_0, fun U hU hW => ⟨rfl, hI.at hS hP hU hW⟩⟩ rfl rfl hl.1 rfl (lv_room (Nat.le_of_ble_eq_true rfl)) dX7_isLetter_126 ⟨Nat.zero_le _, Nat.zero_le _⟩) (fun r_126 hr_126 => ?_)
    have q126 := hr_126.1 (k - 1) (by omega)
    rw [atp_in (hpre (k - 1) (by omega)).2] at q126
    refine lv_bipush (v := 6) hx hb dX7_isLetter_129 (by decide) ?_
    refine lv_icmp_ne (tgt := 138) hx hb dX7_isLetter_131 (by decide) (fun c_131 => ?_) (fun c_131 => ?_)
    · skip
      have i_131 := ti_nek rfl tk_6 c_131
      refine lv_bipush (v := 9) hx hb dX7_isLetter_138 (by decide) ?_
      refine rd_ci (va_runS (As := [.int r_118, .int 0, .int 9]) (rest := []) ⟨hx, hb, hml, hown, hT⟩ (c_X7_within l r_118 0 9) (va_cwS 3 hT (tb_S (fun _ h => h) (tr_6 _ (List.mem_of_getElem? (i := 0) rfl)) (tr_6 _ (List.mem_of_getElem? (i := 1) rfl)) (tr_1 _ (List.mem_of_getElem? (i := 5) rfl)) (tr_6 _ (List.mem_of_getElem? (i := 2) rfl))) rfl rfl rfl (by decide +kernel) ⟨Nat.le_of_ble_eq_true rfl, Nat.le_of_ble_eq_true rfl⟩) ⟨fun _ _ _ _ q => q, fun U hU hW => ⟨rfl, trivial⟩⟩ rfl rfl hl.1 rfl (lv_room (Nat.le_of_ble_eq_true rfl)) dX7_isLetter_140 ⟨Nat.zero_le _, Nat.zero_le _⟩) (fun r_140 hr_140 => ?_)
      rcases hr_140 with ⟨rfl, b_140⟩ | ⟨rfl, b_140⟩
      · skip
        (try simp only [tk_0, tk_9] at b_140)
        exact W.zret (v := 1) (ty := .boolean) hx hb hr rfl (fun t ht hW => ⟨1, rfl, Or.inl ⟨rfl, ⟨(ok8 (by omega)).mpr (by omega), by omega⟩⟩, ht⟩) (fun q hq => by cases hq) dX7_isLetter_143
      · skip
        (try simp only [tk_0, tk_9] at b_140)
        exact W.zret (v := 0) (ty := .boolean) hx hb hr rfl (fun t ht hW => ⟨0, rfl, Or.inr ⟨rfl, (fun q => by have q1 := ((ok8 (by omega)).mp q.1).2; have q2 := q.2; omega)⟩, ht⟩) (fun q hq => by cases hq) dX7_isLetter_143
    · skip
      have i_131 := ti_eqk rfl tk_6 c_131
      refine lv_iconst (v := 3) hx hb dX7_isLetter_134 (by decide) ?_
      refine lv_goto (tgt := 140) hx hb dX7_isLetter_135 (by decide) ?_
      refine rd_ci (va_runS (As := [.int r_118, .int 0, .int 3]) (rest := []) ⟨hx, hb, hml, hown, hT⟩ (c_X7_within l r_118 0 3) (va_cwS 3 hT (tb_S (fun _ h => h) (tr_6 _ (List.mem_of_getElem? (i := 0) rfl)) (tr_6 _ (List.mem_of_getElem? (i := 1) rfl)) (tr_1 _ (List.mem_of_getElem? (i := 5) rfl)) (tr_6 _ (List.mem_of_getElem? (i := 2) rfl))) rfl rfl rfl (by decide +kernel) ⟨Nat.le_of_ble_eq_true rfl, Nat.le_of_ble_eq_true rfl⟩) ⟨fun _ _ _ _ q => q, fun U hU hW => ⟨rfl, trivial⟩⟩ rfl rfl hl.1 rfl (lv_room (Nat.le_of_ble_eq_true rfl)) dX7_isLetter_140 ⟨Nat.zero_le _, Nat.zero_le _⟩) (fun r_140 hr_140 => ?_)
      rcases hr_140 with ⟨rfl, b_140⟩ | ⟨rfl, b_140⟩
      · skip
        (try simp only [tk_0, tk_3] at b_140)
        exact W.zret (v := 1) (ty := .boolean) hx hb hr rfl (fun t ht hW => ⟨1, rfl, Or.inl ⟨rfl, ⟨(ok8 (by omega)).mpr (by omega), by omega⟩⟩, ht⟩) (fun q hq => by cases hq) dX7_isLetter_143
      · skip
        (try simp only [tk_0, tk_3] at b_140)
        exact W.zret (v := 0) (ty := .boolean) hx hb hr rfl (fun t ht hW => ⟨0, rfl, Or.inr ⟨rfl, (fun q => by have q1 := ((ok8 (by omega)).mp q.1).2; have q2 := q.2; omega)⟩, ht⟩) (fun q hq => by cases hq) dX7_isLetter_143
  by_cases w_5_9 : x2 = 9
  · skip
    refine lv_tableIn (tgt := 144) (off := 139) hx hb dX7_isLetter_5 (by rw [w_5_9]; decide) (by rw [w_5_9]; decide) (by rw [w_5_9]; decide) (by decide) ?_
    have m_9 := ti_eqk rfl tk_9 w_5_9
    have o2 := ((ok7 (by omega)).mp (hpre (k - 2) (by omega)).1).2
    refine lv_aload_n hx hb dX7_isLetter_144 rfl (lv_at hl 1 rfl) ?_
    refine lv_iload_n hx hb dX7_isLetter_145 rfl (lv_at hl 0 rfl) ?_
    refine rd_ci (va_runV (As := [.int v_2]) (rest := []) ⟨hx, hb, hml, hown, hT⟩ (c_X7_figure l Z hZ g gl v_2 (by first | assumption | omega | decide) hJ) (cwV 1 hT (tb_V (fun _ h => h) (tr_12 _ (List.mem_of_getElem? (i := 9) rfl)) (tr_12 _ (List.mem_of_getElem? (i := 10) rfl)) (tr_12 _ (List.mem_of_getElem? (i := 11) rfl)) (tr_1 _ (List.mem_of_getElem? (i := 5) rfl)) (tr_12 _ (List.mem_of_getElem? (i := 12) rfl))) rfl rfl rfl (by decide +kernel) ⟨Nat.le_of_ble_eq_true rfl, Nat.le_of_ble_eq_true rfl⟩) ⟨fun a U f mk q => ⟨q.1, MI.blind f mk a q.2⟩, va_recv hK hP (ci := 7) (q0 := 0) rfl mw_0, fun U hU hW => ⟨rfl, hI.at hS hP hU hW⟩⟩ rfl rfl hl.1 rfl (lv_room (Nat.le_of_ble_eq_true rfl)) dX7_isLetter_146 ⟨Nat.zero_le _, Nat.zero_le _⟩) (fun r_146 hr_146 => ?_)
    have q146 := hr_146.1 k (by omega)
    refine lv_aload_n hx hb dX7_isLetter_149 rfl (lv_at hl 1 rfl) ?_
    refine lv_iload_n hx hb dX7_isLetter_150 rfl (lv_at hl 0 rfl) ?_
    refine lv_iconst (v := 2) hx hb dX7_isLetter_151 (by decide) ?_
    refine lv_isub hx hb dX7_isLetter_152 ?_
    refine lv_topi (fun v_152 e_152 => ?_)
    have t_152 := ti_subk rfl tk_2 (by omega) (by omega) e_152
    refine rd_ci (va_runV (As := [.int v_152]) (rest := [.int r_146]) ⟨hx, hb, hml, hown, hT⟩ (c_X7_figure l Z hZ g gl v_152 (by first | assumption | omega | decide) hJ) (cwV 1 hT (tb_V (fun _ h => h) (tr_12 _ (List.mem_of_getElem? (i := 9) rfl)) (tr_12 _ (List.mem_of_getElem? (i := 10) rfl)) (tr_12 _ (List.mem_of_getElem? (i := 11) rfl)) (tr_1 _ (List.mem_of_getElem? (i := 5) rfl)) (tr_12 _ (List.mem_of_getElem? (i := 12) rfl))) rfl rfl rfl (by decide +kernel) ⟨Nat.le_of_ble_eq_true rfl, Nat.le_of_ble_eq_true rfl⟩) ⟨fun a U f mk q => ⟨q.1, MI.blind f mk a q.2⟩, va_recv hK hP (ci := 7) (q0 := 0) rfl mw_0, fun U hU hW => ⟨rfl, hI.at hS hP hU hW⟩⟩ rfl rfl hl.1 rfl (lv_room (Nat.le_of_ble_eq_true rfl)) dX7_isLetter_153 ⟨Nat.zero_le _, Nat.zero_le _⟩) (fun r_153 hr_153 => ?_)
    have q153 := hr_153.1 (k - 2) (by omega)
    rw [atp_in (hpre (k - 2) (by omega)).2] at q153
    refine lv_bipush (v := 6) hx hb dX7_isLetter_156 (by decide) ?_
    refine rd_ci (va_runS (As := [.int r_146, .int r_153, .int 6]) (rest := []) ⟨hx, hb, hml, hown, hT⟩ (c_X7_within l r_146 r_153 6) (va_cwS 3 hT (tb_S (fun _ h => h) (tr_6 _ (List.mem_of_getElem? (i := 0) rfl)) (tr_6 _ (List.mem_of_getElem? (i := 1) rfl)) (tr_1 _ (List.mem_of_getElem? (i := 5) rfl)) (tr_6 _ (List.mem_of_getElem? (i := 2) rfl))) rfl rfl rfl (by decide +kernel) ⟨Nat.le_of_ble_eq_true rfl, Nat.le_of_ble_eq_true rfl⟩) ⟨fun _ _ _ _ q => q, fun U hU hW => ⟨rfl, trivial⟩⟩ rfl rfl hl.1 rfl (lv_room (Nat.le_of_ble_eq_true rfl)) dX7_isLetter_158 ⟨Nat.zero_le _, Nat.zero_le _⟩) (fun r_158 hr_158 => ?_)
    rcases hr_158 with ⟨rfl, b_158⟩ | ⟨rfl, b_158⟩
    · skip
      (try simp only [tk_6] at b_158)
      exact W.zret (v := 1) (ty := .boolean) hx hb hr rfl (fun t ht hW => ⟨1, rfl, Or.inl ⟨rfl, ⟨(ok9 (by omega)).mpr (by omega), by omega⟩⟩, ht⟩) (fun q hq => by cases hq) dX7_isLetter_161
    · skip
      (try simp only [tk_6] at b_158)
      exact W.zret (v := 0) (ty := .boolean) hx hb hr rfl (fun t ht hW => ⟨0, rfl, Or.inr ⟨rfl, (fun q => by have q1 := ((ok9 (by omega)).mp q.1).2; have q2 := q.2; omega)⟩, ht⟩) (fun q hq => by cases hq) dX7_isLetter_161
  by_cases w_5_10 : x2 = 10
  · skip
    refine lv_tableIn (tgt := 162) (off := 157) hx hb dX7_isLetter_5 (by rw [w_5_10]; decide) (by rw [w_5_10]; decide) (by rw [w_5_10]; decide) (by decide) ?_
    have m_10 := ti_eqk rfl tk_10 w_5_10
    have o1 := ((ok9 (by omega)).mp (hpre (k - 1) (by omega)).1).2
    rw [show k - 1 - 2 = k - 3 by omega] at o1
    have o2 := ((ok8 (by omega)).mp (hpre (k - 2) (by omega)).1).2
    rw [show k - 2 - 1 = k - 3 by omega] at o2
    have o3 := ((ok7 (by omega)).mp (hpre (k - 3) (by omega)).1).2
    refine lv_aload_n hx hb dX7_isLetter_162 rfl (lv_at hl 1 rfl) ?_
    refine lv_iload_n hx hb dX7_isLetter_163 rfl (lv_at hl 0 rfl) ?_
    refine rd_ci (va_runV (As := [.int v_2]) (rest := []) ⟨hx, hb, hml, hown, hT⟩ (c_X7_figure l Z hZ g gl v_2 (by first | assumption | omega | decide) hJ) (cwV 1 hT (tb_V (fun _ h => h) (tr_12 _ (List.mem_of_getElem? (i := 9) rfl)) (tr_12 _ (List.mem_of_getElem? (i := 10) rfl)) (tr_12 _ (List.mem_of_getElem? (i := 11) rfl)) (tr_1 _ (List.mem_of_getElem? (i := 5) rfl)) (tr_12 _ (List.mem_of_getElem? (i := 12) rfl))) rfl rfl rfl (by decide +kernel) ⟨Nat.le_of_ble_eq_true rfl, Nat.le_of_ble_eq_true rfl⟩) ⟨fun a U f mk q => ⟨q.1, MI.blind f mk a q.2⟩, va_recv hK hP (ci := 7) (q0 := 0) rfl mw_0, fun U hU hW => ⟨rfl, hI.at hS hP hU hW⟩⟩ rfl rfl hl.1 rfl (lv_room (Nat.le_of_ble_eq_true rfl)) dX7_isLetter_164 ⟨Nat.zero_le _, Nat.zero_le _⟩) (fun r_164 hr_164 => ?_)
    have q164 := hr_164.1 k (by omega)
    refine lv_aload_n hx hb dX7_isLetter_167 rfl (lv_at hl 1 rfl) ?_
    refine lv_iload_n hx hb dX7_isLetter_168 rfl (lv_at hl 0 rfl) ?_
    refine lv_iconst (v := 1) hx hb dX7_isLetter_169 (by decide) ?_
    refine lv_isub hx hb dX7_isLetter_170 ?_
    refine lv_topi (fun v_170 e_170 => ?_)
    have t_170 := ti_subk rfl tk_1 (by omega) (by omega) e_170
    refine rd_ci (va_runV (As := [.int v_170]) (rest := [.int r_164]) ⟨hx, hb, hml, hown, hT⟩ (c_X7_figure l Z hZ g gl v_170 (by first | assumption | omega | decide) hJ) (cwV 1 hT (tb_V (fun _ h => h) (tr_12 _ (List.mem_of_getElem? (i := 9) rfl)) (tr_12 _ (List.mem_of_getElem? (i := 10) rfl)) (tr_12 _ (List.mem_of_getElem? (i := 11) rfl)) (tr_1 _ (List.mem_of_getElem? (i := 5) rfl)) (tr_12 _ (List.mem_of_getElem? (i := 12) rfl))) rfl rfl rfl (by decide +kernel) ⟨Nat.le_of_ble_eq_true rfl, Nat.le_of_ble_eq_true rfl⟩) ⟨fun a U f mk q => ⟨q.1, MI.blind f mk a q.2⟩, va_recv hK hP (ci := 7) (q0 := 0) rfl mw_0, fun U hU hW => ⟨rfl, hI.at hS hP hU hW⟩⟩ rfl rfl hl.1 rfl (lv_room (Nat.le_of_ble_eq_true rfl)) dX7_isLetter_171 ⟨Nat.zero_le _, Nat.zero_le _⟩) (fun r_171 hr_171 => ?_)
    have q171 := hr_171.1 (k - 1) (by omega)
    rw [atp_in (hpre (k - 1) (by omega)).2] at q171
    refine lv_aload_n hx hb dX7_isLetter_174 rfl (lv_at hl 1 rfl) ?_
    refine lv_iload_n hx hb dX7_isLetter_175 rfl (lv_at hl 0 rfl) ?_
    refine lv_iconst (v := 3) hx hb dX7_isLetter_176 (by decide) ?_
    refine lv_isub hx hb dX7_isLetter_177 ?_
    refine lv_topi (fun v_177 e_177 => ?_)
    have t_177 := ti_subk rfl tk_3 (by omega) (by omega) e_177
    refine rd_ci (va_runV (As := [.int v_177]) (rest := [.int r_171, .int r_164]) ⟨hx, hb, hml, hown, hT⟩ (c_X7_figure l Z hZ g gl v_177 (by first | assumption | omega | decide) hJ) (cwV 1 hT (tb_V (fun _ h => h) (tr_12 _ (List.mem_of_getElem? (i := 9) rfl)) (tr_12 _ (List.mem_of_getElem? (i := 10) rfl)) (tr_12 _ (List.mem_of_getElem? (i := 11) rfl)) (tr_1 _ (List.mem_of_getElem? (i := 5) rfl)) (tr_12 _ (List.mem_of_getElem? (i := 12) rfl))) rfl rfl rfl (by decide +kernel) ⟨Nat.le_of_ble_eq_true rfl, Nat.le_of_ble_eq_true rfl⟩) ⟨fun a U f mk q => ⟨q.1, MI.blind f mk a q.2⟩, va_recv hK hP (ci := 7) (q0 := 0) rfl mw_0, fun U hU hW => ⟨rfl, hI.at hS hP hU hW⟩⟩ rfl rfl hl.1 rfl (lv_room (Nat.le_of_ble_eq_true rfl)) dX7_isLetter_178 ⟨Nat.zero_le _, Nat.zero_le _⟩) (fun r_178 hr_178 => ?_)
    have q178 := hr_178.1 (k - 3) (by omega)
    rw [atp_in (hpre (k - 3) (by omega)).2] at q178
    refine lv_icmp_ne (tgt := 194) hx hb dX7_isLetter_181 (by decide) (fun c_181 => ?_) (fun c_181 => ?_)
    · skip
      have i_181 := ti_nek rfl rfl c_181
      refine lv_iconst (v := 0) hx hb dX7_isLetter_194 (by decide) ?_
      refine lv_aload_n hx hb dX7_isLetter_195 rfl (lv_at hl 1 rfl) ?_
      refine lv_iload_n hx hb dX7_isLetter_196 rfl (lv_at hl 0 rfl) ?_
      refine lv_iconst (v := 1) hx hb dX7_isLetter_197 (by decide) ?_
      refine lv_isub hx hb dX7_isLetter_198 ?_
      refine lv_topi (fun v_198 e_198 => ?_)
      have t_198 := ti_subk rfl tk_1 (by omega) (by omega) e_198
      refine rd_ci (va_runV (As := [.int v_198]) (rest := [.int 0, .int r_164]) ⟨hx, hb, hml, hown, hT⟩ (c_X7_figure l Z hZ g gl v_198 (by first | assumption | omega | decide) hJ) (cwV 1 hT (tb_V (fun _ h => h) (tr_12 _ (List.mem_of_getElem? (i := 9) rfl)) (tr_12 _ (List.mem_of_getElem? (i := 10) rfl)) (tr_12 _ (List.mem_of_getElem? (i := 11) rfl)) (tr_1 _ (List.mem_of_getElem? (i := 5) rfl)) (tr_12 _ (List.mem_of_getElem? (i := 12) rfl))) rfl rfl rfl (by decide +kernel) ⟨Nat.le_of_ble_eq_true rfl, Nat.le_of_ble_eq_true rfl⟩) ⟨fun a U f mk q => ⟨q.1, MI.blind f mk a q.2⟩, va_recv hK hP (ci := 7) (q0 := 0) rfl mw_0, fun U hU hW => ⟨rfl, hI.at hS hP hU hW⟩⟩ rfl rfl hl.1 rfl (lv_room (Nat.le_of_ble_eq_true rfl)) dX7_isLetter_199 ⟨Nat.zero_le _, Nat.zero_le _⟩) (fun r_199 hr_199 => ?_)
      have q199 := hr_199.1 (k - 1) (by omega)
      rw [atp_in (hpre (k - 1) (by omega)).2] at q199
      refine lv_bipush (v := 6) hx hb dX7_isLetter_202 (by decide) ?_
      refine lv_icmp_ne (tgt := 211) hx hb dX7_isLetter_204 (by decide) (fun c_204 => ?_) (fun c_204 => ?_)
      · skip
        have i_204 := ti_nek rfl tk_6 c_204
        refine lv_bipush (v := 9) hx hb dX7_isLetter_211 (by decide) ?_
        refine rd_ci (va_runS (As := [.int r_164, .int 0, .int 9]) (rest := []) ⟨hx, hb, hml, hown, hT⟩ (c_X7_within l r_164 0 9) (va_cwS 3 hT (tb_S (fun _ h => h) (tr_6 _ (List.mem_of_getElem? (i := 0) rfl)) (tr_6 _ (List.mem_of_getElem? (i := 1) rfl)) (tr_1 _ (List.mem_of_getElem? (i := 5) rfl)) (tr_6 _ (List.mem_of_getElem? (i := 2) rfl))) rfl rfl rfl (by decide +kernel) ⟨Nat.le_of_ble_eq_true rfl, Nat.le_of_ble_eq_true rfl⟩) ⟨fun _ _ _ _ q => q, fun U hU hW => ⟨rfl, trivial⟩⟩ rfl rfl hl.1 rfl (lv_room (Nat.le_of_ble_eq_true rfl)) dX7_isLetter_213 ⟨Nat.zero_le _, Nat.zero_le _⟩) (fun r_213 hr_213 => ?_)
        rcases hr_213 with ⟨rfl, b_213⟩ | ⟨rfl, b_213⟩
        · skip
          (try simp only [tk_0, tk_9] at b_213)
          exact W.zret (v := 1) (ty := .boolean) hx hb hr rfl (fun t ht hW => ⟨1, rfl, Or.inl ⟨rfl, ⟨(ok10 (by omega)).mpr (by omega), by omega⟩⟩, ht⟩) (fun q hq => by cases hq) dX7_isLetter_216
        · skip
          (try simp only [tk_0, tk_9] at b_213)
          exact W.zret (v := 0) (ty := .boolean) hx hb hr rfl (fun t ht hW => ⟨0, rfl, Or.inr ⟨rfl, (fun q => by have q1 := ((ok10 (by omega)).mp q.1).2; have q2 := q.2; omega)⟩, ht⟩) (fun q hq => by cases hq) dX7_isLetter_216
      · skip
        have i_204 := ti_eqk rfl tk_6 c_204
        refine lv_iconst (v := 3) hx hb dX7_isLetter_207 (by decide) ?_
        refine lv_goto (tgt := 213) hx hb dX7_isLetter_208 (by decide) ?_
        refine rd_ci (va_runS (As := [.int r_164, .int 0, .int 3]) (rest := []) ⟨hx, hb, hml, hown, hT⟩ (c_X7_within l r_164 0 3) (va_cwS 3 hT (tb_S (fun _ h => h) (tr_6 _ (List.mem_of_getElem? (i := 0) rfl)) (tr_6 _ (List.mem_of_getElem? (i := 1) rfl)) (tr_1 _ (List.mem_of_getElem? (i := 5) rfl)) (tr_6 _ (List.mem_of_getElem? (i := 2) rfl))) rfl rfl rfl (by decide +kernel) ⟨Nat.le_of_ble_eq_true rfl, Nat.le_of_ble_eq_true rfl⟩) ⟨fun _ _ _ _ q => q, fun U hU hW => ⟨rfl, trivial⟩⟩ rfl rfl hl.1 rfl (lv_room (Nat.le_of_ble_eq_true rfl)) dX7_isLetter_213 ⟨Nat.zero_le _, Nat.zero_le _⟩) (fun r_213 hr_213 => ?_)
        rcases hr_213 with ⟨rfl, b_213⟩ | ⟨rfl, b_213⟩
        · skip
          (try simp only [tk_0, tk_3] at b_213)
          exact W.zret (v := 1) (ty := .boolean) hx hb hr rfl (fun t ht hW => ⟨1, rfl, Or.inl ⟨rfl, ⟨(ok10 (by omega)).mpr (by omega), by omega⟩⟩, ht⟩) (fun q hq => by cases hq) dX7_isLetter_216
        · skip
          (try simp only [tk_0, tk_3] at b_213)
          exact W.zret (v := 0) (ty := .boolean) hx hb hr rfl (fun t ht hW => ⟨0, rfl, Or.inr ⟨rfl, (fun q => by have q1 := ((ok10 (by omega)).mp q.1).2; have q2 := q.2; omega)⟩, ht⟩) (fun q hq => by cases hq) dX7_isLetter_216
    · skip
      have i_181 := ti_eqk rfl rfl c_181
      refine lv_aload_n hx hb dX7_isLetter_184 rfl (lv_at hl 1 rfl) ?_
      refine lv_iload_n hx hb dX7_isLetter_185 rfl (lv_at hl 0 rfl) ?_
      refine lv_iconst (v := 2) hx hb dX7_isLetter_186 (by decide) ?_
      refine lv_isub hx hb dX7_isLetter_187 ?_
      refine lv_topi (fun v_187 e_187 => ?_)
      have t_187 := ti_subk rfl tk_2 (by omega) (by omega) e_187
      refine rd_ci (va_runV (As := [.int v_187]) (rest := [.int r_164]) ⟨hx, hb, hml, hown, hT⟩ (c_X7_figure l Z hZ g gl v_187 (by first | assumption | omega | decide) hJ) (cwV 1 hT (tb_V (fun _ h => h) (tr_12 _ (List.mem_of_getElem? (i := 9) rfl)) (tr_12 _ (List.mem_of_getElem? (i := 10) rfl)) (tr_12 _ (List.mem_of_getElem? (i := 11) rfl)) (tr_1 _ (List.mem_of_getElem? (i := 5) rfl)) (tr_12 _ (List.mem_of_getElem? (i := 12) rfl))) rfl rfl rfl (by decide +kernel) ⟨Nat.le_of_ble_eq_true rfl, Nat.le_of_ble_eq_true rfl⟩) ⟨fun a U f mk q => ⟨q.1, MI.blind f mk a q.2⟩, va_recv hK hP (ci := 7) (q0 := 0) rfl mw_0, fun U hU hW => ⟨rfl, hI.at hS hP hU hW⟩⟩ rfl rfl hl.1 rfl (lv_room (Nat.le_of_ble_eq_true rfl)) dX7_isLetter_188 ⟨Nat.zero_le _, Nat.zero_le _⟩) (fun r_188 hr_188 => ?_)
      have q188 := hr_188.1 (k - 2) (by omega)
      rw [atp_in (hpre (k - 2) (by omega)).2] at q188
      refine lv_goto (tgt := 195) hx hb dX7_isLetter_191 (by decide) ?_
      refine lv_aload_n hx hb dX7_isLetter_195 rfl (lv_at hl 1 rfl) ?_
      refine lv_iload_n hx hb dX7_isLetter_196 rfl (lv_at hl 0 rfl) ?_
      refine lv_iconst (v := 1) hx hb dX7_isLetter_197 (by decide) ?_
      refine lv_isub hx hb dX7_isLetter_198 ?_
      refine lv_topi (fun v_198 e_198 => ?_)
      have t_198 := ti_subk rfl tk_1 (by omega) (by omega) e_198
      refine rd_ci (va_runV (As := [.int v_198]) (rest := [.int r_188, .int r_164]) ⟨hx, hb, hml, hown, hT⟩ (c_X7_figure l Z hZ g gl v_198 (by first | assumption | omega | decide) hJ) (cwV 1 hT (tb_V (fun _ h => h) (tr_12 _ (List.mem_of_getElem? (i := 9) rfl)) (tr_12 _ (List.mem_of_getElem? (i := 10) rfl)) (tr_12 _ (List.mem_of_getElem? (i := 11) rfl)) (tr_1 _ (List.mem_of_getElem? (i := 5) rfl)) (tr_12 _ (List.mem_of_getElem? (i := 12) rfl))) rfl rfl rfl (by decide +kernel) ⟨Nat.le_of_ble_eq_true rfl, Nat.le_of_ble_eq_true rfl⟩) ⟨fun a U f mk q => ⟨q.1, MI.blind f mk a q.2⟩, va_recv hK hP (ci := 7) (q0 := 0) rfl mw_0, fun U hU hW => ⟨rfl, hI.at hS hP hU hW⟩⟩ rfl rfl hl.1 rfl (lv_room (Nat.le_of_ble_eq_true rfl)) dX7_isLetter_199 ⟨Nat.zero_le _, Nat.zero_le _⟩) (fun r_199 hr_199 => ?_)
      have q199 := hr_199.1 (k - 1) (by omega)
      rw [atp_in (hpre (k - 1) (by omega)).2] at q199
      refine lv_bipush (v := 6) hx hb dX7_isLetter_202 (by decide) ?_
      refine lv_icmp_ne (tgt := 211) hx hb dX7_isLetter_204 (by decide) (fun c_204 => ?_) (fun c_204 => ?_)
      · skip
        have i_204 := ti_nek rfl tk_6 c_204
        refine lv_bipush (v := 9) hx hb dX7_isLetter_211 (by decide) ?_
        refine rd_ci (va_runS (As := [.int r_164, .int r_188, .int 9]) (rest := []) ⟨hx, hb, hml, hown, hT⟩ (c_X7_within l r_164 r_188 9) (va_cwS 3 hT (tb_S (fun _ h => h) (tr_6 _ (List.mem_of_getElem? (i := 0) rfl)) (tr_6 _ (List.mem_of_getElem? (i := 1) rfl)) (tr_1 _ (List.mem_of_getElem? (i := 5) rfl)) (tr_6 _ (List.mem_of_getElem? (i := 2) rfl))) rfl rfl rfl (by decide +kernel) ⟨Nat.le_of_ble_eq_true rfl, Nat.le_of_ble_eq_true rfl⟩) ⟨fun _ _ _ _ q => q, fun U hU hW => ⟨rfl, trivial⟩⟩ rfl rfl hl.1 rfl (lv_room (Nat.le_of_ble_eq_true rfl)) dX7_isLetter_213 ⟨Nat.zero_le _, Nat.zero_le _⟩) (fun r_213 hr_213 => ?_)
        rcases hr_213 with ⟨rfl, b_213⟩ | ⟨rfl, b_213⟩
        · skip
          (try simp only [tk_9] at b_213)
          exact W.zret (v := 1) (ty := .boolean) hx hb hr rfl (fun t ht hW => ⟨1, rfl, Or.inl ⟨rfl, ⟨(ok10 (by omega)).mpr (by omega), by omega⟩⟩, ht⟩) (fun q hq => by cases hq) dX7_isLetter_216
        · skip
          (try simp only [tk_9] at b_213)
          exact W.zret (v := 0) (ty := .boolean) hx hb hr rfl (fun t ht hW => ⟨0, rfl, Or.inr ⟨rfl, (fun q => by have q1 := ((ok10 (by omega)).mp q.1).2; have q2 := q.2; omega)⟩, ht⟩) (fun q hq => by cases hq) dX7_isLetter_216
      · skip
        have i_204 := ti_eqk rfl tk_6 c_204
        refine lv_iconst (v := 3) hx hb dX7_isLetter_207 (by decide) ?_
        refine lv_goto (tgt := 213) hx hb dX7_isLetter_208 (by decide) ?_
        refine rd_ci (va_runS (As := [.int r_164, .int r_188, .int 3]) (rest := []) ⟨hx, hb, hml, hown, hT⟩ (c_X7_within l r_164 r_188 3) (va_cwS 3 hT (tb_S (fun _ h => h) (tr_6 _ (List.mem_of_getElem? (i := 0) rfl)) (tr_6 _ (List.mem_of_getElem? (i := 1) rfl)) (tr_1 _ (List.mem_of_getElem? (i := 5) rfl)) (tr_6 _ (List.mem_of_getElem? (i := 2) rfl))) rfl rfl rfl (by decide +kernel) ⟨Nat.le_of_ble_eq_true rfl, Nat.le_of_ble_eq_true rfl⟩) ⟨fun _ _ _ _ q => q, fun U hU hW => ⟨rfl, trivial⟩⟩ rfl rfl hl.1 rfl (lv_room (Nat.le_of_ble_eq_true rfl)) dX7_isLetter_213 ⟨Nat.zero_le _, Nat.zero_le _⟩) (fun r_213 hr_213 => ?_)
        rcases hr_213 with ⟨rfl, b_213⟩ | ⟨rfl, b_213⟩
        · skip
          (try simp only [tk_3] at b_213)
          exact W.zret (v := 1) (ty := .boolean) hx hb hr rfl (fun t ht hW => ⟨1, rfl, Or.inl ⟨rfl, ⟨(ok10 (by omega)).mpr (by omega), by omega⟩⟩, ht⟩) (fun q hq => by cases hq) dX7_isLetter_216
        · skip
          (try simp only [tk_3] at b_213)
          exact W.zret (v := 0) (ty := .boolean) hx hb hr rfl (fun t ht hW => ⟨0, rfl, Or.inr ⟨rfl, (fun q => by have q1 := ((ok10 (by omega)).mp q.1).2; have q2 := q.2; omega)⟩, ht⟩) (fun q hq => by cases hq) dX7_isLetter_216
  have n_5_0 := ti_nek rfl tk_0 w_5_0
  have n_5_1 := ti_nek rfl tk_1 w_5_1
  have n_5_2 := ti_nek rfl tk_2 w_5_2
  have n_5_3 := ti_nek rfl tk_3 w_5_3
  have n_5_4 := ti_nek rfl tk_4 w_5_4
  have n_5_5 := ti_nek rfl tk_5 w_5_5
  have n_5_6 := ti_nek rfl tk_6 w_5_6
  have n_5_7 := ti_nek rfl tk_7 w_5_7
  have n_5_8 := ti_nek rfl tk_8 w_5_8
  have n_5_9 := ti_nek rfl tk_9 w_5_9
  have n_5_10 := ti_nek rfl tk_10 w_5_10
  refine lv_tableOut (tgt := 217) hx hb dX7_isLetter_5 (by omega) (by decide) ?_
  refine lv_aload_n hx hb dX7_isLetter_217 rfl (lv_at hl 1 rfl) ?_
  refine lv_iload_n hx hb dX7_isLetter_218 rfl (lv_at hl 0 rfl) ?_
  refine rd_ci (va_runV (As := [.int v_2]) (rest := []) ⟨hx, hb, hml, hown, hT⟩ (c_X7_figure l Z hZ g gl v_2 (by first | assumption | omega | decide) hJ) (cwV 1 hT (tb_V (fun _ h => h) (tr_12 _ (List.mem_of_getElem? (i := 9) rfl)) (tr_12 _ (List.mem_of_getElem? (i := 10) rfl)) (tr_12 _ (List.mem_of_getElem? (i := 11) rfl)) (tr_1 _ (List.mem_of_getElem? (i := 5) rfl)) (tr_12 _ (List.mem_of_getElem? (i := 12) rfl))) rfl rfl rfl (by decide +kernel) ⟨Nat.le_of_ble_eq_true rfl, Nat.le_of_ble_eq_true rfl⟩) ⟨fun a U f mk q => ⟨q.1, MI.blind f mk a q.2⟩, va_recv hK hP (ci := 7) (q0 := 0) rfl mw_0, fun U hU hW => ⟨rfl, hI.at hS hP hU hW⟩⟩ rfl rfl hl.1 rfl (lv_room (Nat.le_of_ble_eq_true rfl)) dX7_isLetter_219 ⟨Nat.zero_le _, Nat.zero_le _⟩) (fun r_219 hr_219 => ?_)
  have q219 := hr_219.1 k (by omega)
  refine lv_iconst (v := 0) hx hb dX7_isLetter_222 (by decide) ?_
  refine lv_bipush (v := 9) hx hb dX7_isLetter_223 (by decide) ?_
  refine rd_ci (va_runS (As := [.int r_219, .int 0, .int 9]) (rest := []) ⟨hx, hb, hml, hown, hT⟩ (c_X7_within l r_219 0 9) (va_cwS 3 hT (tb_S (fun _ h => h) (tr_6 _ (List.mem_of_getElem? (i := 0) rfl)) (tr_6 _ (List.mem_of_getElem? (i := 1) rfl)) (tr_1 _ (List.mem_of_getElem? (i := 5) rfl)) (tr_6 _ (List.mem_of_getElem? (i := 2) rfl))) rfl rfl rfl (by decide +kernel) ⟨Nat.le_of_ble_eq_true rfl, Nat.le_of_ble_eq_true rfl⟩) ⟨fun _ _ _ _ q => q, fun U hU hW => ⟨rfl, trivial⟩⟩ rfl rfl hl.1 rfl (lv_room (Nat.le_of_ble_eq_true rfl)) dX7_isLetter_225 ⟨Nat.zero_le _, Nat.zero_le _⟩) (fun r_225 hr_225 => ?_)
  rcases hr_225 with ⟨rfl, b_225⟩ | ⟨rfl, b_225⟩
  · skip
    (try simp only [tk_0, tk_9] at b_225)
    exact W.zret (v := 1) (ty := .boolean) hx hb hr rfl (fun t ht hW => ⟨1, rfl, Or.inl ⟨rfl, ⟨(ok2 (by omega)).mpr (by omega), by omega⟩⟩, ht⟩) (fun q hq => by cases hq) dX7_isLetter_228
  · skip
    (try simp only [tk_0, tk_9] at b_225)
    exact W.zret (v := 0) (ty := .boolean) hx hb hr rfl (fun t ht hW => ⟨0, rfl, Or.inr ⟨rfl, (fun q => by have q1 := ((ok2 (by omega)).mp q.1).2; have q2 := q.2; omega)⟩, ht⟩) (fun q hq => by cases hq) dX7_isLetter_228
