set_option maxHeartbeats 4000000 in
set_option maxRecDepth 100000 in
theorem c_X6_isKind (l : Launch) (x1 : Int32) : Met l yX6_isKind (Cond.code yX6_isKind cX6_isKind 1 (some .boolean) :: wsL_law) ({ frames := 0, cells := 0, slots := 0, locals := 0 } : Room) (va_Pc [.int x1] (fun _ => True)) (rd_Qi (fun r => (r = 1 ∧ (0 ≤ x1.toInt ∧ x1.toInt ≤ 4)) ∨ (r = 0 ∧ ¬ (0 ≤ x1.toInt ∧ x1.toInt ≤ 4)))) 0 0 (fun _ => False) := by
  refine Met.ofW (cc := cX6_isKind) (maxL := 1) (ret := (some .boolean)) (by decide) rfl ?_
  intro p e s m args below meth c s₁ B hml hv
  obtain ⟨rfl, hI⟩ := hv
  have hx := B.exec
  have hb := B.bytes
  have hr := B.returns
  have hT : ∀ w ∈ wsL_law, w.before ([.int x1] : List Value).toArray s = true := fun w h => atoms_spec (ws := (Cond.code yX6_isKind cX6_isKind 1 (some .boolean) :: wsL_law)) B.pre w (List.mem_cons_of_mem _ h)
  have hown : s.vm.findClass RX6 = some m.cls := findClass_of_methodNamed B.named
  have hlocks := B.notSynchronized
  have hl := lv_entry ([.int x1]) (n := 1) (Nat.le_of_ble_eq_true rfl)
  rw [lg_entry_eq]
  generalize (lg_sl ([.int x1]) ++ List.replicate (1 - (lg_sl ([.int x1])).length) Slot.unset).toArray = ls at hl ⊢
  have hl : lv_has ls 1 [(0, .int x1)] := hl
  refine lv_iload_n hx hb dX6_isKind_0 rfl (lv_at hl 0 rfl) ?_
  refine lv_if_lt (tgt := 13) hx hb dX6_isKind_1 (by decide) (fun c_1 => ?_) (fun c_1 => ?_)
  · skip
    have i_1 := ti_ltk rfl tk_0 c_1
    refine lv_iconst (v := 0) hx hb dX6_isKind_13 (by decide) ?_
    exact W.zret (v := 0) (ty := .boolean) hx hb hr rfl (fun t ht hW => ⟨0, rfl, Or.inr ⟨rfl, (by first | assumption | omega | decide)⟩, ht⟩) (fun q hq => by cases hq) dX6_isKind_14
  · skip
    have i_1 := ti_nltk rfl tk_0 c_1
    refine lv_iload_n hx hb dX6_isKind_4 rfl (lv_at hl 0 rfl) ?_
    refine lv_iconst (v := 5) hx hb dX6_isKind_5 (by decide) ?_
    refine lv_icmp_ge (tgt := 13) hx hb dX6_isKind_6 (by decide) (fun c_6 => ?_) (fun c_6 => ?_)
    · skip
      have i_6 := ti_lek tk_5 rfl c_6
      refine lv_iconst (v := 0) hx hb dX6_isKind_13 (by decide) ?_
      exact W.zret (v := 0) (ty := .boolean) hx hb hr rfl (fun t ht hW => ⟨0, rfl, Or.inr ⟨rfl, (by first | assumption | omega | decide)⟩, ht⟩) (fun q hq => by cases hq) dX6_isKind_14
    · skip
      have i_6 := ti_nlek tk_5 rfl c_6
      refine lv_iconst (v := 1) hx hb dX6_isKind_9 (by decide) ?_
      refine lv_goto (tgt := 14) hx hb dX6_isKind_10 (by decide) ?_
      exact W.zret (v := 1) (ty := .boolean) hx hb hr rfl (fun t ht hW => ⟨1, rfl, Or.inl ⟨rfl, (by first | assumption | omega | decide)⟩, ht⟩) (fun q hq => by cases hq) dX6_isKind_14
set_option maxHeartbeats 4000000 in
set_option maxRecDepth 100000 in
theorem c_X6_mixed (l : Launch) (x1 : Int64) (x2 : Int64) : Met l yX6_mixed (Cond.code yX6_mixed cX6_mixed 4 (some .long) :: wsL_law) ({ frames := 0, cells := 0, slots := 0, locals := 0 } : Room) (va_Pc [.long x1, .long x2] (fun _ => True)) (rd_Ql (fun r => r = 31 * x1 + x2)) 0 0 (fun _ => False) := by
  refine Met.ofW (cc := cX6_mixed) (maxL := 4) (ret := (some .long)) (by decide) rfl ?_
  intro p e s m args below meth c s₁ B hml hv
  obtain ⟨rfl, hI⟩ := hv
  have hx := B.exec
  have hb := B.bytes
  have hr := B.returns
  have hT : ∀ w ∈ wsL_law, w.before ([.long x1, .long x2] : List Value).toArray s = true := fun w h => atoms_spec (ws := (Cond.code yX6_mixed cX6_mixed 4 (some .long) :: wsL_law)) B.pre w (List.mem_cons_of_mem _ h)
  have hown : s.vm.findClass RX6 = some m.cls := findClass_of_methodNamed B.named
  have hlocks := B.notSynchronized
  have hl := lv_entry ([.long x1, .long x2]) (n := 4) (Nat.le_of_ble_eq_true rfl)
  rw [lg_entry_eq]
  generalize (lg_sl ([.long x1, .long x2]) ++ List.replicate (4 - (lg_sl ([.long x1, .long x2])).length) Slot.unset).toArray = ls at hl ⊢
  have hl : lv_has ls 4 [(0, .long x1), (2, .long x2)] := hl
  refine lv_ldc2 (v := 31) hx hb hown (hT _ (tr_38 _ (List.mem_of_getElem? (i := 1) rfl))) dX6_mixed_0 ?_
  refine lv_lload_n hx hb dX6_mixed_3 rfl (lv_at hl 0 rfl) ?_
  refine lv_lmul hx hb dX6_mixed_4 ?_
  refine lv_topl (fun v_4 e_4 => ?_)
  refine lv_lload_n hx hb dX6_mixed_5 rfl (lv_at hl 1 rfl) ?_
  refine lv_ladd hx hb dX6_mixed_6 ?_
  refine lv_topl (fun v_6 e_6 => ?_)
  exact W.lret (v := v_6) hx hb hr (fun t ht hW => ⟨v_6, rfl, (by (try dsimp only); rw [e_6, e_4]), ht⟩) (fun q hq => by cases hq) dX6_mixed_7
set_option maxHeartbeats 4000000 in
set_option maxRecDepth 100000 in
theorem c_X6_quantitiesOf (l : Launch) (Z : ZT) (hZ : XG Z) (g : Nat → Nat → Int32) (gl : Nat → Nat → Int64) (tf : Nat → Nat → Int32) (x1 : Int32) (x2 : Int32) (hG : Gd Z tf) : Met l yX6_quantitiesOf (Cond.code yX6_quantitiesOf cX6_quantitiesOf 6 (some .int) :: wsL_law) ({ frames := 2, cells := 0, slots := 0, locals := 41 } : Room) (va_Pc [.ref (za Z 0), .int x1, .int x2] (XI Z g gl tf)) (rd_Qi (fun r => r.toInt = (cB (qnB (g 10) x1.toInt x2.toInt) 64 : Int))) 0 0 (fun _ => False) := by
  refine Met.ofW (cc := cX6_quantitiesOf) (maxL := 6) (ret := (some .int)) (by decide) rfl ?_
  intro p e s m args below meth c s₁ B hml hv
  obtain ⟨rfl, hI⟩ := hv
  have hx := B.exec
  have hb := B.bytes
  have hr := B.returns
  have hT : ∀ w ∈ wsL_law, w.before ([.ref (za Z 0), .int x1, .int x2] : List Value).toArray s = true := fun w h => atoms_spec (ws := (Cond.code yX6_quantitiesOf cX6_quantitiesOf 6 (some .int) :: wsL_law)) B.pre w (List.mem_cons_of_mem _ h)
  have hown : s.vm.findClass RX6 = some m.cls := findClass_of_methodNamed B.named
  have hlocks := B.notSynchronized
  have hK := hI.2.1
  have hP := hI.1
  have hS : va_S (zA Z) s.heap s.heap [] := va_S.rf
  have hl := lv_entry ([.ref (za Z 0), .int x1, .int x2]) (n := 6) (Nat.le_of_ble_eq_true rfl)
  rw [lg_entry_eq]
  generalize (lg_sl ([.ref (za Z 0), .int x1, .int x2]) ++ List.replicate (6 - (lg_sl ([.ref (za Z 0), .int x1, .int x2])).length) Slot.unset).toArray = ls at hl ⊢
  have hl : lv_has ls 6 [(0, .ref (za Z 0)), (1, .int x1), (2, .int x2)] := hl
  have L5 : ∀ (n : Nat) (z3 : Int32) (z4 : Int32)  (h4 : 0 ≤ z4.toInt ∧ z4.toInt ≤ 64) (hC : z3.toInt = (cB (qnB (g 10) x1.toInt x2.toInt) z4.toInt.toNat : Int)) (hn : (64 - z4.toInt).toNat < n) (ls : Array Slot) (hl : lv_has ls 6 [(0, .ref (za Z 0)), (1, .int x1), (2, .int x2), (3, .int z3), (4, .int z4)]), W p l e ({ frames := 2, cells := 0, slots := 0, locals := 41 } : Room) s m ([.ref (za Z 0), .int x1, .int x2] : List Value).toArray below meth c s.heap [] 0 0 (MQ below (rd_Qi (fun r => r.toInt = (cB (qnB (g 10) x1.toInt x2.toInt) 64 : Int))) ([.ref (za Z 0), .int x1, .int x2] : List Value).toArray s 0 0 (fun _ => False)) (F0 m 5 ls []) := by
    intro n
    induction n with
    | zero => intro z3 z4 h4 hC hn; exact absurd hn (Nat.not_lt_zero _)
    | succ n ih5 =>
      intro z3 z4 h4 hC hn ls hl
      refine lv_iload hx hb dX6_quantitiesOf_5 (lv_at hl 4 rfl) ?_
      refine lv_bipush (v := 64) hx hb dX6_quantitiesOf_7 (by decide) ?_
      refine lv_icmp_ge (tgt := 44) hx hb dX6_quantitiesOf_9 (by decide) (fun c_9 => ?_) (fun c_9 => ?_)
      · skip
        have i_9 := ti_lek tk_64 rfl c_9
        refine lv_iload_n hx hb dX6_quantitiesOf_44 rfl (lv_at hl 3 rfl) ?_
        exact W.iret (v := z3) hx hb hr (fun t ht hW => ⟨z3, rfl, (by (try dsimp only); rw [hC, show z4.toInt.toNat = 64 by omega]), ht⟩) (fun q hq => by cases hq) dX6_quantitiesOf_45
      · skip
        have i_9 := ti_nlek tk_64 rfl c_9
        refine lv_aload_n hx hb dX6_quantitiesOf_12 rfl (lv_at hl 0 rfl) ?_
        refine va_get (D := zD Z) (ci := 6) (v := .ref (za Z 5)) (C := RX6) (T := TX6) (N := 11) hx hb hT inlX6 hown hK hP 0 xw_0 rfl 2 (by decide) (hT _ (tr_1 _ (List.mem_of_getElem? (i := 23) rfl))) (fun _ h9 => h9) rfl dX6_quantitiesOf_13 ?_
        refine lv_iload hx hb dX6_quantitiesOf_16 (lv_at hl 4 rfl) ?_
        refine rd_ci (va_runV (As := [.int z4]) (rest := []) ⟨hx, hb, hml, hown, hT⟩ (c_X5_lowestFor l Z hZ g gl tf z4 hG) (cwV 1 hT (tb_V (fun _ h => h) (tr_20 _ (List.mem_of_getElem? (i := 15) rfl)) (tr_20 _ (List.mem_of_getElem? (i := 16) rfl)) (tr_20 _ (List.mem_of_getElem? (i := 17) rfl)) (tr_1 _ (List.mem_of_getElem? (i := 22) rfl)) (tr_20 _ (List.mem_of_getElem? (i := 18) rfl))) rfl rfl rfl (by decide +kernel) ⟨Nat.le_of_ble_eq_true rfl, Nat.le_of_ble_eq_true rfl⟩) ⟨fun a U f mk q => ⟨q.1, XI.blind f mk a q.2⟩, va_recv hK hP (ci := 5) (q0 := 5) rfl xw_5, fun U hU hW => ⟨rfl, hI.at hS hP hU hW⟩⟩ rfl rfl hl.1 rfl (lv_room (Nat.le_of_ble_eq_true rfl)) dX6_quantitiesOf_18 ⟨Nat.zero_le _, Nat.zero_le _⟩) (fun r_18 hr_18 => ?_)
        have e18 : r_18 = g 10 z4.toInt.toNat := hr_18 (by omega)
        have cl := cB_le (qnB (g 10) x1.toInt x2.toInt) z4.toInt.toNat
        refine lv_istore (lv' := [(5, .int r_18), (0, .ref (za Z 0)), (1, .int x1), (2, .int x2), (3, .int z3), (4, .int z4)]) hx hb dX6_quantitiesOf_21 hl (by decide) rfl (fun ls hl => ?_)
        refine lv_iload hx hb dX6_quantitiesOf_23 (lv_at hl 0 rfl) ?_
        refine lv_iload_n hx hb dX6_quantitiesOf_25 rfl (lv_at hl 2 rfl) ?_
        refine lv_icmp_lt (tgt := 38) hx hb dX6_quantitiesOf_26 (by decide) (fun c_26 => ?_) (fun c_26 => ?_)
        · skip
          have i_26 := ti_ltk rfl rfl c_26
          obtain ⟨v_38, e_38⟩ : ∃ y : Int32, y = z4 + 1 := ⟨_, rfl⟩
          refine lv_iinc (v := v_38) (lv' := [(4, .int v_38), (5, .int r_18), (0, .ref (za Z 0)), (1, .int x1), (2, .int x2), (3, .int z3)]) hx hb dX6_quantitiesOf_38 hl (k := 5) rfl (by rw [e_38]; rfl) (by decide) rfl (fun ls hl => ?_)
          have t_38 := ti_addk rfl tk_1 (by omega) (by omega) e_38
          refine lv_goto (tgt := 5) hx hb dX6_quantitiesOf_41 (by decide) ?_
          exact ih5 z3 v_38 (by omega) (by rw [show v_38.toInt.toNat = z4.toInt.toNat + 1 by omega, cB_n (p := (qnB (g 10) x1.toInt x2.toInt)) (n := z4.toInt.toNat) (by unfold qnB; rw [← e18]; exact fun z => by have z := of_decide_eq_true z; omega)]; exact hC) (by omega) ls (lv_sub hl [2, 3, 4, 5, 0] rfl)
        · skip
          have i_26 := ti_nltk rfl rfl c_26
          refine lv_iload hx hb dX6_quantitiesOf_29 (lv_at hl 0 rfl) ?_
          refine lv_iload_n hx hb dX6_quantitiesOf_31 rfl (lv_at hl 3 rfl) ?_
          refine lv_icmp_gt (tgt := 38) hx hb dX6_quantitiesOf_32 (by decide) (fun c_32 => ?_) (fun c_32 => ?_)
          · skip
            have i_32 := ti_ltk rfl rfl c_32
            obtain ⟨v_38, e_38⟩ : ∃ y : Int32, y = z4 + 1 := ⟨_, rfl⟩
            refine lv_iinc (v := v_38) (lv' := [(4, .int v_38), (5, .int r_18), (0, .ref (za Z 0)), (1, .int x1), (2, .int x2), (3, .int z3)]) hx hb dX6_quantitiesOf_38 hl (k := 5) rfl (by rw [e_38]; rfl) (by decide) rfl (fun ls hl => ?_)
            have t_38 := ti_addk rfl tk_1 (by omega) (by omega) e_38
            refine lv_goto (tgt := 5) hx hb dX6_quantitiesOf_41 (by decide) ?_
            exact ih5 z3 v_38 (by omega) (by rw [show v_38.toInt.toNat = z4.toInt.toNat + 1 by omega, cB_n (p := (qnB (g 10) x1.toInt x2.toInt)) (n := z4.toInt.toNat) (by unfold qnB; rw [← e18]; exact fun z => by have z := of_decide_eq_true z; omega)]; exact hC) (by omega) ls (lv_sub hl [2, 3, 4, 5, 0] rfl)
          · skip
            have i_32 := ti_nltk rfl rfl c_32
            obtain ⟨v_35, e_35⟩ : ∃ y : Int32, y = z3 + 1 := ⟨_, rfl⟩
            refine lv_iinc (v := v_35) (lv' := [(3, .int v_35), (5, .int r_18), (0, .ref (za Z 0)), (1, .int x1), (2, .int x2), (4, .int z4)]) hx hb dX6_quantitiesOf_35 hl (k := 4) rfl (by rw [e_35]; rfl) (by decide) rfl (fun ls hl => ?_)
            have t_35 := ti_addk rfl tk_1 (by omega) (by omega) e_35
            obtain ⟨v_38, e_38⟩ : ∃ y : Int32, y = z4 + 1 := ⟨_, rfl⟩
            refine lv_iinc (v := v_38) (lv' := [(4, .int v_38), (3, .int v_35), (5, .int r_18), (0, .ref (za Z 0)), (1, .int x1), (2, .int x2)]) hx hb dX6_quantitiesOf_38 hl (k := 5) rfl (by rw [e_38]; rfl) (by decide) rfl (fun ls hl => ?_)
            have t_38 := ti_addk rfl tk_1 (by omega) (by omega) e_38
            refine lv_goto (tgt := 5) hx hb dX6_quantitiesOf_41 (by decide) ?_
            exact ih5 v_35 v_38 (by omega) (by rw [show v_38.toInt.toNat = z4.toInt.toNat + 1 by omega, cB_y (p := (qnB (g 10) x1.toInt x2.toInt)) (n := z4.toInt.toNat) (by unfold qnB; rw [← e18]; exact decide_eq_true ⟨by omega, by omega⟩)]; omega) (by omega) ls (lv_sub hl [3, 4, 5, 1, 0] rfl)
  refine lv_iconst (v := 0) hx hb dX6_quantitiesOf_0 (by decide) ?_
  refine lv_istore_n (lv' := [(3, .int 0), (0, .ref (za Z 0)), (1, .int x1), (2, .int x2)]) hx hb dX6_quantitiesOf_1 rfl hl (by decide) rfl (fun ls hl => ?_)
  refine lv_iconst (v := 0) hx hb dX6_quantitiesOf_2 (by decide) ?_
  refine lv_istore (lv' := [(4, .int 0), (3, .int 0), (0, .ref (za Z 0)), (1, .int x1), (2, .int x2)]) hx hb dX6_quantitiesOf_3 hl (by decide) rfl (fun ls hl => ?_)
  exact L5 _ 0 0 (by decide) (by rw [tk_0]; rfl) (Nat.lt_succ_self _) ls (lv_sub hl [2, 3, 4, 1, 0] rfl)
set_option maxHeartbeats 4000000 in
set_option maxRecDepth 100000 in
theorem c_X6_tariffsNeverLowest (l : Launch) (Z : ZT) (hZ : XG Z) (g : Nat → Nat → Int32) (gl : Nat → Nat → Int64) (tf : Nat → Nat → Int32) (hn7 : 0 ≤ (g 3 1).toInt ∧ (g 3 1).toInt ≤ 70) (hG : Gd Z tf) : Met l yX6_tariffsNeverLowest (Cond.code yX6_tariffsNeverLowest cX6_tariffsNeverLowest 3 (some .int) :: wsL_law) ({ frames := 3, cells := 0, slots := 0, locals := 66 } : Room) (va_Pc [.ref (za Z 0)] (XI Z g gl tf)) (rd_Qi (fun r => r.toInt = (cB (idB (g 10)) (g 3 1).toInt.toNat : Int))) 0 0 (fun _ => False) := by
  refine Met.ofW (cc := cX6_tariffsNeverLowest) (maxL := 3) (ret := (some .int)) (by decide) rfl ?_
  intro p e s m args below meth c s₁ B hml hv
  obtain ⟨rfl, hI⟩ := hv
  have hx := B.exec
  have hb := B.bytes
  have hr := B.returns
  have hT : ∀ w ∈ wsL_law, w.before ([.ref (za Z 0)] : List Value).toArray s = true := fun w h => atoms_spec (ws := (Cond.code yX6_tariffsNeverLowest cX6_tariffsNeverLowest 3 (some .int) :: wsL_law)) B.pre w (List.mem_cons_of_mem _ h)
  have hown : s.vm.findClass RX6 = some m.cls := findClass_of_methodNamed B.named
  have hlocks := B.notSynchronized
  have hK := hI.2.1
  have hP := hI.1
  have hS : va_S (zA Z) s.heap s.heap [] := va_S.rf
  have hl := lv_entry ([.ref (za Z 0)]) (n := 3) (Nat.le_of_ble_eq_true rfl)
  rw [lg_entry_eq]
  generalize (lg_sl ([.ref (za Z 0)]) ++ List.replicate (3 - (lg_sl ([.ref (za Z 0)])).length) Slot.unset).toArray = ls at hl ⊢
  have hl : lv_has ls 3 [(0, .ref (za Z 0))] := hl
  have L4 : ∀ (n : Nat) (z1 : Int32) (z2 : Int32)  (h2 : 0 ≤ z2.toInt ∧ z2.toInt ≤ (g 3 1).toInt) (hC : z1.toInt = (cB (idB (g 10)) z2.toInt.toNat : Int)) (hn : ((g 3 1).toInt - z2.toInt).toNat < n) (ls : Array Slot) (hl : lv_has ls 3 [(0, .ref (za Z 0)), (1, .int z1), (2, .int z2)]), W p l e ({ frames := 3, cells := 0, slots := 0, locals := 66 } : Room) s m ([.ref (za Z 0)] : List Value).toArray below meth c s.heap [] 0 0 (MQ below (rd_Qi (fun r => r.toInt = (cB (idB (g 10)) (g 3 1).toInt.toNat : Int))) ([.ref (za Z 0)] : List Value).toArray s 0 0 (fun _ => False)) (F0 m 4 ls []) := by
    intro n
    induction n with
    | zero => intro z1 z2 h2 hC hn; exact absurd hn (Nat.not_lt_zero _)
    | succ n ih4 =>
      intro z1 z2 h2 hC hn ls hl
      refine lv_iload_n hx hb dX6_tariffsNeverLowest_4 rfl (lv_at hl 2 rfl) ?_
      refine lv_aload_n hx hb dX6_tariffsNeverLowest_5 rfl (lv_at hl 0 rfl) ?_
      refine va_get (D := zD Z) (ci := 6) (v := .ref (za Z 3)) (C := RX6) (T := TX6) (N := 11) hx hb hT inlX6 hown hK hP 0 xw_0 rfl 1 (by decide) (hT _ (tr_1 _ (List.mem_of_getElem? (i := 19) rfl))) (fun _ h9 => h9) rfl dX6_tariffsNeverLowest_6 ?_
      refine va_get (D := zD Z) (ci := 4) (v := .int (g 3 1)) (C := RX4) (T := TX4) (N := 2) hx hb hT inlX4 hown hK hP 3 xw_3 rfl 1 (by decide) (hT _ (tr_12 _ (List.mem_of_getElem? (i := 21) rfl))) (fun _ h9 => h9) rfl dX6_tariffsNeverLowest_9 ?_
      refine lv_icmp_ge (tgt := 33) hx hb dX6_tariffsNeverLowest_12 (by decide) (fun c_12 => ?_) (fun c_12 => ?_)
      · skip
        have i_12 := ti_lek rfl rfl c_12
        refine lv_iload_n hx hb dX6_tariffsNeverLowest_33 rfl (lv_at hl 1 rfl) ?_
        exact W.iret (v := z1) hx hb hr (fun t ht hW => ⟨z1, rfl, (by (try dsimp only); rw [hC, show z2.toInt.toNat = (g 3 1).toInt.toNat by omega]), ht⟩) (fun q hq => by cases hq) dX6_tariffsNeverLowest_34
      · skip
        have i_12 := ti_nlek rfl rfl c_12
        have cl := cB_le (idB (g 10)) z2.toInt.toNat
        refine lv_aload_n hx hb dX6_tariffsNeverLowest_15 rfl (lv_at hl 0 rfl) ?_
        refine lv_iload_n hx hb dX6_tariffsNeverLowest_16 rfl (lv_at hl 2 rfl) ?_
        refine lv_iload_n hx hb dX6_tariffsNeverLowest_17 rfl (lv_at hl 2 rfl) ?_
        refine rd_ci (va_runV (As := [.int z2, .int z2]) (rest := []) ⟨hx, hb, hml, hown, hT⟩ (c_X6_quantitiesOf l Z hZ g gl tf z2 z2 hG) (cwV 2 hT (tb_V (fun _ h => h) (tr_20 _ (List.mem_of_getElem? (i := 11) rfl)) (tr_20 _ (List.mem_of_getElem? (i := 12) rfl)) (tr_20 _ (List.mem_of_getElem? (i := 13) rfl)) (tr_1 _ (List.mem_of_getElem? (i := 2) rfl)) (tr_20 _ (List.mem_of_getElem? (i := 14) rfl))) rfl rfl rfl (by decide +kernel) ⟨Nat.le_of_ble_eq_true rfl, Nat.le_of_ble_eq_true rfl⟩) ⟨fun a U f mk q => ⟨q.1, XI.blind f mk a q.2⟩, va_recv hK hP (ci := 6) (q0 := 0) rfl xw_0, fun U hU hW => ⟨rfl, hI.at hS hP hU hW⟩⟩ rfl rfl hl.1 rfl (lv_room (Nat.le_of_ble_eq_true rfl)) dX6_tariffsNeverLowest_18 ⟨Nat.zero_le _, Nat.zero_le _⟩) (fun r_18 hr_18 => ?_)
        refine lv_if_ne (tgt := 27) hx hb dX6_tariffsNeverLowest_21 (by decide) (fun c_21 => ?_) (fun c_21 => ?_)
        · skip
          have i_21 := ti_nek rfl tk_0 c_21
          obtain ⟨v_27, e_27⟩ : ∃ y : Int32, y = z2 + 1 := ⟨_, rfl⟩
          refine lv_iinc (v := v_27) (lv' := [(2, .int v_27), (0, .ref (za Z 0)), (1, .int z1)]) hx hb dX6_tariffsNeverLowest_27 hl (k := 2) rfl (by rw [e_27]; rfl) (by decide) rfl (fun ls hl => ?_)
          have t_27 := ti_addk rfl tk_1 (by omega) (by omega) e_27
          refine lv_goto (tgt := 4) hx hb dX6_tariffsNeverLowest_30 (by decide) ?_
          exact ih4 z1 v_27 (by omega) (by have w18 : r_18.toInt = (cB (qnB (g 10) (z2.toInt.toNat : Int) (z2.toInt.toNat : Int)) 64 : Int) := (by rw [hr_18, show ((z2.toInt.toNat : Nat) : Int) = z2.toInt by omega]); rw [show v_27.toInt.toNat = z2.toInt.toNat + 1 by omega, cB_n (p := idB (g 10)) (n := z2.toInt.toNat) (by unfold idB; exact fun z => by have z := of_decide_eq_true z; omega)]; exact hC) (by omega) ls (lv_sub hl [1, 2, 0] rfl)
        · skip
          have i_21 := ti_eqk rfl tk_0 c_21
          obtain ⟨v_24, e_24⟩ : ∃ y : Int32, y = z1 + 1 := ⟨_, rfl⟩
          refine lv_iinc (v := v_24) (lv' := [(1, .int v_24), (0, .ref (za Z 0)), (2, .int z2)]) hx hb dX6_tariffsNeverLowest_24 hl (k := 1) rfl (by rw [e_24]; rfl) (by decide) rfl (fun ls hl => ?_)
          have t_24 := ti_addk rfl tk_1 (by omega) (by omega) e_24
          obtain ⟨v_27, e_27⟩ : ∃ y : Int32, y = z2 + 1 := ⟨_, rfl⟩
          refine lv_iinc (v := v_27) (lv' := [(2, .int v_27), (1, .int v_24), (0, .ref (za Z 0))]) hx hb dX6_tariffsNeverLowest_27 hl (k := 2) rfl (by rw [e_27]; rfl) (by decide) rfl (fun ls hl => ?_)
          have t_27 := ti_addk rfl tk_1 (by omega) (by omega) e_27
          refine lv_goto (tgt := 4) hx hb dX6_tariffsNeverLowest_30 (by decide) ?_
          exact ih4 v_24 v_27 (by omega) (by have w18 : r_18.toInt = (cB (qnB (g 10) (z2.toInt.toNat : Int) (z2.toInt.toNat : Int)) 64 : Int) := (by rw [hr_18, show ((z2.toInt.toNat : Nat) : Int) = z2.toInt by omega]); rw [show v_27.toInt.toNat = z2.toInt.toNat + 1 by omega, cB_y (p := idB (g 10)) (n := z2.toInt.toNat) (by unfold idB; exact decide_eq_true (by omega))]; omega) (by omega) ls (lv_sub hl [2, 1, 0] rfl)
  refine lv_iconst (v := 0) hx hb dX6_tariffsNeverLowest_0 (by decide) ?_
  refine lv_istore_n (lv' := [(1, .int 0), (0, .ref (za Z 0))]) hx hb dX6_tariffsNeverLowest_1 rfl hl (by decide) rfl (fun ls hl => ?_)
  refine lv_iconst (v := 0) hx hb dX6_tariffsNeverLowest_2 (by decide) ?_
  refine lv_istore_n (lv' := [(2, .int 0), (1, .int 0), (0, .ref (za Z 0))]) hx hb dX6_tariffsNeverLowest_3 rfl hl (by decide) rfl (fun ls hl => ?_)
  exact L4 _ 0 0 (by rw [tk_0]; omega) (by rw [tk_0]; rfl) (Nat.lt_succ_self _) ls (lv_sub hl [2, 1, 0] rfl)
set_option maxHeartbeats 4000000 in
set_option maxRecDepth 100000 in
theorem c_X6_beginsPiece (l : Launch) (Z : ZT) (hZ : XG Z) (g : Nat → Nat → Int32) (gl : Nat → Nat → Int64) (tf : Nat → Nat → Int32) (x1 : Int32) (h1 : 0 ≤ x1.toInt ∧ x1.toInt ≤ 63) (hG : Gd Z tf) : Met l yX6_beginsPiece (Cond.code yX6_beginsPiece cX6_beginsPiece 3 (some .boolean) :: wsL_law) ({ frames := 2, cells := 0, slots := 0, locals := 41 } : Room) (va_Pc [.ref (za Z 0), .int x1] (XI Z g gl tf)) (rd_Qi (fun r => (r = 1 ∧ fpB (g 10) x1.toInt.toNat = true) ∨ (r = 0 ∧ fpB (g 10) x1.toInt.toNat = false))) 0 0 (fun _ => False) := by
  refine Met.ofW (cc := cX6_beginsPiece) (maxL := 3) (ret := (some .boolean)) (by decide) rfl ?_
  intro p e s m args below meth c s₁ B hml hv
  obtain ⟨rfl, hI⟩ := hv
  have hx := B.exec
  have hb := B.bytes
  have hr := B.returns
  have hT : ∀ w ∈ wsL_law, w.before ([.ref (za Z 0), .int x1] : List Value).toArray s = true := fun w h => atoms_spec (ws := (Cond.code yX6_beginsPiece cX6_beginsPiece 3 (some .boolean) :: wsL_law)) B.pre w (List.mem_cons_of_mem _ h)
  have hown : s.vm.findClass RX6 = some m.cls := findClass_of_methodNamed B.named
  have hlocks := B.notSynchronized
  have hK := hI.2.1
  have hP := hI.1
  have hS : va_S (zA Z) s.heap s.heap [] := va_S.rf
  have hl := lv_entry ([.ref (za Z 0), .int x1]) (n := 3) (Nat.le_of_ble_eq_true rfl)
  rw [lg_entry_eq]
  generalize (lg_sl ([.ref (za Z 0), .int x1]) ++ List.replicate (3 - (lg_sl ([.ref (za Z 0), .int x1])).length) Slot.unset).toArray = ls at hl ⊢
  have hl : lv_has ls 3 [(0, .ref (za Z 0)), (1, .int x1)] := hl
  refine lv_aload_n hx hb dX6_beginsPiece_0 rfl (lv_at hl 0 rfl) ?_
  refine va_get (D := zD Z) (ci := 6) (v := .ref (za Z 5)) (C := RX6) (T := TX6) (N := 11) hx hb hT inlX6 hown hK hP 0 xw_0 rfl 2 (by decide) (hT _ (tr_1 _ (List.mem_of_getElem? (i := 23) rfl))) (fun _ h9 => h9) rfl dX6_beginsPiece_1 ?_
  refine lv_iload_n hx hb dX6_beginsPiece_4 rfl (lv_at hl 1 rfl) ?_
  refine rd_ci (va_runV (As := [.int x1]) (rest := []) ⟨hx, hb, hml, hown, hT⟩ (c_X5_lowestFor l Z hZ g gl tf x1 hG) (cwV 1 hT (tb_V (fun _ h => h) (tr_20 _ (List.mem_of_getElem? (i := 15) rfl)) (tr_20 _ (List.mem_of_getElem? (i := 16) rfl)) (tr_20 _ (List.mem_of_getElem? (i := 17) rfl)) (tr_1 _ (List.mem_of_getElem? (i := 22) rfl)) (tr_20 _ (List.mem_of_getElem? (i := 18) rfl))) rfl rfl rfl (by decide +kernel) ⟨Nat.le_of_ble_eq_true rfl, Nat.le_of_ble_eq_true rfl⟩) ⟨fun a U f mk q => ⟨q.1, XI.blind f mk a q.2⟩, va_recv hK hP (ci := 5) (q0 := 5) rfl xw_5, fun U hU hW => ⟨rfl, hI.at hS hP hU hW⟩⟩ rfl rfl hl.1 rfl (lv_room (Nat.le_of_ble_eq_true rfl)) dX6_beginsPiece_5 ⟨Nat.zero_le _, Nat.zero_le _⟩) (fun r_5 hr_5 => ?_)
  have e5 : r_5 = g 10 x1.toInt.toNat := hr_5 h1
  refine lv_istore_n (lv' := [(2, .int r_5), (0, .ref (za Z 0)), (1, .int x1)]) hx hb dX6_beginsPiece_8 rfl hl (by decide) rfl (fun ls hl => ?_)
  refine lv_iload_n hx hb dX6_beginsPiece_9 rfl (lv_at hl 0 rfl) ?_
  refine lv_iconst (v := (-1)) hx hb dX6_beginsPiece_10 (by decide) ?_
  refine lv_icmp_eq (tgt := 36) hx hb dX6_beginsPiece_11 (by decide) (fun c_11 => ?_) (fun c_11 => ?_)
  · skip
    have i_11 := ti_eqk rfl tk_m1 c_11
    refine lv_iconst (v := 0) hx hb dX6_beginsPiece_36 (by decide) ?_
    exact W.zret (v := 0) (ty := .boolean) hx hb hr rfl (fun t ht hW => ⟨0, rfl, Or.inr ⟨rfl, (fp_n (by first | exact Or.inl (by rw [← e5]; exact c_11) | exact Or.inr ⟨by omega, by rw [← e25, ← e5]; exact c_29⟩))⟩, ht⟩) (fun q hq => by cases hq) dX6_beginsPiece_37
  · skip
    have i_11 := ti_nek rfl tk_m1 c_11
    refine lv_iload_n hx hb dX6_beginsPiece_14 rfl (lv_at hl 2 rfl) ?_
    refine lv_if_eq (tgt := 32) hx hb dX6_beginsPiece_15 (by decide) (fun c_15 => ?_) (fun c_15 => ?_)
    · skip
      have i_15 := ti_eqk rfl tk_0 c_15
      refine lv_iconst (v := 1) hx hb dX6_beginsPiece_32 (by decide) ?_
      refine lv_goto (tgt := 37) hx hb dX6_beginsPiece_33 (by decide) ?_
      exact W.zret (v := 1) (ty := .boolean) hx hb hr rfl (fun t ht hW => ⟨1, rfl, Or.inl ⟨rfl, (fp_y (by rw [← e5]; exact c_11) (by first | exact Or.inl (by omega) | exact Or.inr (by rw [← e25, ← e5]; exact c_29)))⟩, ht⟩) (fun q hq => by cases hq) dX6_beginsPiece_37
    · skip
      have i_15 := ti_nek rfl tk_0 c_15
      refine lv_aload_n hx hb dX6_beginsPiece_18 rfl (lv_at hl 1 rfl) ?_
      refine va_get (D := zD Z) (ci := 6) (v := .ref (za Z 5)) (C := RX6) (T := TX6) (N := 11) hx hb hT inlX6 hown hK hP 0 xw_0 rfl 2 (by decide) (hT _ (tr_1 _ (List.mem_of_getElem? (i := 23) rfl))) (fun _ h9 => h9) rfl dX6_beginsPiece_19 ?_
      refine lv_iload_n hx hb dX6_beginsPiece_22 rfl (lv_at hl 2 rfl) ?_
      refine lv_iconst (v := 1) hx hb dX6_beginsPiece_23 (by decide) ?_
      refine lv_isub hx hb dX6_beginsPiece_24 ?_
      refine lv_topi (fun v_24 e_24 => ?_)
      have t_24 := ti_subk rfl tk_1 (by omega) (by omega) e_24
      refine rd_ci (va_runV (As := [.int v_24]) (rest := []) ⟨hx, hb, hml, hown, hT⟩ (c_X5_lowestFor l Z hZ g gl tf v_24 hG) (cwV 1 hT (tb_V (fun _ h => h) (tr_20 _ (List.mem_of_getElem? (i := 15) rfl)) (tr_20 _ (List.mem_of_getElem? (i := 16) rfl)) (tr_20 _ (List.mem_of_getElem? (i := 17) rfl)) (tr_1 _ (List.mem_of_getElem? (i := 22) rfl)) (tr_20 _ (List.mem_of_getElem? (i := 18) rfl))) rfl rfl rfl (by decide +kernel) ⟨Nat.le_of_ble_eq_true rfl, Nat.le_of_ble_eq_true rfl⟩) ⟨fun a U f mk q => ⟨q.1, XI.blind f mk a q.2⟩, va_recv hK hP (ci := 5) (q0 := 5) rfl xw_5, fun U hU hW => ⟨rfl, hI.at hS hP hU hW⟩⟩ rfl rfl hl.1 rfl (lv_room (Nat.le_of_ble_eq_true rfl)) dX6_beginsPiece_25 ⟨Nat.zero_le _, Nat.zero_le _⟩) (fun r_25 hr_25 => ?_)
      have e25 : r_25 = g 10 (x1.toInt.toNat - 1) := by rw [hr_25 (by omega), show v_24.toInt.toNat = x1.toInt.toNat - 1 by omega]
      refine lv_iload_n hx hb dX6_beginsPiece_28 rfl (lv_at hl 0 rfl) ?_
      refine lv_icmp_eq (tgt := 36) hx hb dX6_beginsPiece_29 (by decide) (fun c_29 => ?_) (fun c_29 => ?_)
      · skip
        have i_29 := ti_eqk rfl rfl c_29
        refine lv_iconst (v := 0) hx hb dX6_beginsPiece_36 (by decide) ?_
        exact W.zret (v := 0) (ty := .boolean) hx hb hr rfl (fun t ht hW => ⟨0, rfl, Or.inr ⟨rfl, (fp_n (by first | exact Or.inl (by rw [← e5]; exact c_11) | exact Or.inr ⟨by omega, by rw [← e25, ← e5]; exact c_29⟩))⟩, ht⟩) (fun q hq => by cases hq) dX6_beginsPiece_37
      · skip
        have i_29 := ti_nek rfl rfl c_29
        refine lv_iconst (v := 1) hx hb dX6_beginsPiece_32 (by decide) ?_
        refine lv_goto (tgt := 37) hx hb dX6_beginsPiece_33 (by decide) ?_
        exact W.zret (v := 1) (ty := .boolean) hx hb hr rfl (fun t ht hW => ⟨1, rfl, Or.inl ⟨rfl, (fp_y (by rw [← e5]; exact c_11) (by first | exact Or.inl (by omega) | exact Or.inr (by rw [← e25, ← e5]; exact c_29)))⟩, ht⟩) (fun q hq => by cases hq) dX6_beginsPiece_37
set_option maxHeartbeats 4000000 in
set_option maxRecDepth 100000 in
theorem c_X6_pieces (l : Launch) (Z : ZT) (hZ : XG Z) (g : Nat → Nat → Int32) (gl : Nat → Nat → Int64) (tf : Nat → Nat → Int32)  (hG : Gd Z tf) : Met l yX6_pieces (Cond.code yX6_pieces cX6_pieces 3 (some .int) :: wsL_law) ({ frames := 3, cells := 0, slots := 0, locals := 63 } : Room) (va_Pc [.ref (za Z 0)] (XI Z g gl tf)) (rd_Qi (fun r => r.toInt = (cB (fpB (g 10)) 64 : Int))) 0 0 (fun _ => False) := by
  refine Met.ofW (cc := cX6_pieces) (maxL := 3) (ret := (some .int)) (by decide) rfl ?_
  intro p e s m args below meth c s₁ B hml hv
  obtain ⟨rfl, hI⟩ := hv
  have hx := B.exec
  have hb := B.bytes
  have hr := B.returns
  have hT : ∀ w ∈ wsL_law, w.before ([.ref (za Z 0)] : List Value).toArray s = true := fun w h => atoms_spec (ws := (Cond.code yX6_pieces cX6_pieces 3 (some .int) :: wsL_law)) B.pre w (List.mem_cons_of_mem _ h)
  have hown : s.vm.findClass RX6 = some m.cls := findClass_of_methodNamed B.named
  have hlocks := B.notSynchronized
  have hK := hI.2.1
  have hP := hI.1
  have hS : va_S (zA Z) s.heap s.heap [] := va_S.rf
  have hl := lv_entry ([.ref (za Z 0)]) (n := 3) (Nat.le_of_ble_eq_true rfl)
  rw [lg_entry_eq]
  generalize (lg_sl ([.ref (za Z 0)]) ++ List.replicate (3 - (lg_sl ([.ref (za Z 0)])).length) Slot.unset).toArray = ls at hl ⊢
  have hl : lv_has ls 3 [(0, .ref (za Z 0))] := hl
  have L4 : ∀ (n : Nat) (z1 : Int32) (z2 : Int32)  (h2 : 0 ≤ z2.toInt ∧ z2.toInt ≤ 64) (hC : z1.toInt = (cB (fpB (g 10)) z2.toInt.toNat : Int)) (hn : (64 - z2.toInt).toNat < n) (ls : Array Slot) (hl : lv_has ls 3 [(0, .ref (za Z 0)), (1, .int z1), (2, .int z2)]), W p l e ({ frames := 3, cells := 0, slots := 0, locals := 63 } : Room) s m ([.ref (za Z 0)] : List Value).toArray below meth c s.heap [] 0 0 (MQ below (rd_Qi (fun r => r.toInt = (cB (fpB (g 10)) 64 : Int))) ([.ref (za Z 0)] : List Value).toArray s 0 0 (fun _ => False)) (F0 m 4 ls []) := by
    intro n
    induction n with
    | zero => intro z1 z2 h2 hC hn; exact absurd hn (Nat.not_lt_zero _)
    | succ n ih4 =>
      intro z1 z2 h2 hC hn ls hl
      refine lv_iload_n hx hb dX6_pieces_4 rfl (lv_at hl 2 rfl) ?_
      refine lv_bipush (v := 64) hx hb dX6_pieces_5 (by decide) ?_
      refine lv_icmp_ge (tgt := 27) hx hb dX6_pieces_7 (by decide) (fun c_7 => ?_) (fun c_7 => ?_)
      · skip
        have i_7 := ti_lek tk_64 rfl c_7
        refine lv_iload_n hx hb dX6_pieces_27 rfl (lv_at hl 1 rfl) ?_
        exact W.iret (v := z1) hx hb hr (fun t ht hW => ⟨z1, rfl, (by (try dsimp only); rw [hC, show z2.toInt.toNat = 64 by omega]), ht⟩) (fun q hq => by cases hq) dX6_pieces_28
      · skip
        have i_7 := ti_nlek tk_64 rfl c_7
        have cl := cB_le (fpB (g 10)) z2.toInt.toNat
        refine lv_aload_n hx hb dX6_pieces_10 rfl (lv_at hl 0 rfl) ?_
        refine lv_iload_n hx hb dX6_pieces_11 rfl (lv_at hl 2 rfl) ?_
        refine rd_ci (va_runV (As := [.int z2]) (rest := []) ⟨hx, hb, hml, hown, hT⟩ (c_X6_beginsPiece l Z hZ g gl tf z2 (by first | assumption | omega | decide) hG) (cwV 1 hT (tb_V (fun _ h => h) (tr_30 _ (List.mem_of_getElem? (i := 9) rfl)) (tr_30 _ (List.mem_of_getElem? (i := 10) rfl)) (tr_30 _ (List.mem_of_getElem? (i := 11) rfl)) (tr_1 _ (List.mem_of_getElem? (i := 2) rfl)) (tr_30 _ (List.mem_of_getElem? (i := 12) rfl))) rfl rfl rfl (by decide +kernel) ⟨Nat.le_of_ble_eq_true rfl, Nat.le_of_ble_eq_true rfl⟩) ⟨fun a U f mk q => ⟨q.1, XI.blind f mk a q.2⟩, va_recv hK hP (ci := 6) (q0 := 0) rfl xw_0, fun U hU hW => ⟨rfl, hI.at hS hP hU hW⟩⟩ rfl rfl hl.1 rfl (lv_room (Nat.le_of_ble_eq_true rfl)) dX6_pieces_12 ⟨Nat.zero_le _, Nat.zero_le _⟩) (fun r_12 hr_12 => ?_)
        rcases hr_12 with ⟨rfl, b_12⟩ | ⟨rfl, b_12⟩
        · skip
          refine lv_if_eq (tgt := 21) hx hb dX6_pieces_15 (by decide) (fun c_15 => absurd c_15 (by decide)) (fun c_15 => ?_)
          obtain ⟨v_18, e_18⟩ : ∃ y : Int32, y = z1 + 1 := ⟨_, rfl⟩
          refine lv_iinc (v := v_18) (lv' := [(1, .int v_18), (0, .ref (za Z 0)), (2, .int z2)]) hx hb dX6_pieces_18 hl (k := 1) rfl (by rw [e_18]; rfl) (by decide) rfl (fun ls hl => ?_)
          have t_18 := ti_addk rfl tk_1 (by omega) (by omega) e_18
          obtain ⟨v_21, e_21⟩ : ∃ y : Int32, y = z2 + 1 := ⟨_, rfl⟩
          refine lv_iinc (v := v_21) (lv' := [(2, .int v_21), (1, .int v_18), (0, .ref (za Z 0))]) hx hb dX6_pieces_21 hl (k := 2) rfl (by rw [e_21]; rfl) (by decide) rfl (fun ls hl => ?_)
          have t_21 := ti_addk rfl tk_1 (by omega) (by omega) e_21
          refine lv_goto (tgt := 4) hx hb dX6_pieces_24 (by decide) ?_
          exact ih4 v_18 v_21 (by omega) (by rw [show v_21.toInt.toNat = z2.toInt.toNat + 1 by omega, cB_y (p := fpB (g 10)) b_12]; omega) (by omega) ls (lv_sub hl [2, 1, 0] rfl)
        · skip
          refine lv_if_eq (tgt := 21) hx hb dX6_pieces_15 (by decide) (fun c_15 => ?_) (fun c_15 => absurd c_15 (by decide))
          obtain ⟨v_21, e_21⟩ : ∃ y : Int32, y = z2 + 1 := ⟨_, rfl⟩
          refine lv_iinc (v := v_21) (lv' := [(2, .int v_21), (0, .ref (za Z 0)), (1, .int z1)]) hx hb dX6_pieces_21 hl (k := 2) rfl (by rw [e_21]; rfl) (by decide) rfl (fun ls hl => ?_)
          have t_21 := ti_addk rfl tk_1 (by omega) (by omega) e_21
          refine lv_goto (tgt := 4) hx hb dX6_pieces_24 (by decide) ?_
          exact ih4 z1 v_21 (by omega) (by rw [show v_21.toInt.toNat = z2.toInt.toNat + 1 by omega, cB_n (p := fpB (g 10)) (by rw [b_12]; decide)]; exact hC) (by omega) ls (lv_sub hl [1, 2, 0] rfl)
  refine lv_iconst (v := 0) hx hb dX6_pieces_0 (by decide) ?_
  refine lv_istore_n (lv' := [(1, .int 0), (0, .ref (za Z 0))]) hx hb dX6_pieces_1 rfl hl (by decide) rfl (fun ls hl => ?_)
  refine lv_iconst (v := 0) hx hb dX6_pieces_2 (by decide) ?_
  refine lv_istore_n (lv' := [(2, .int 0), (1, .int 0), (0, .ref (za Z 0))]) hx hb dX6_pieces_3 rfl hl (by decide) rfl (fun ls hl => ?_)
  exact L4 _ 0 0 (by decide) (by rw [tk_0]; rfl) (Nat.lt_succ_self _) ls (lv_sub hl [2, 1, 0] rfl)
set_option maxHeartbeats 4000000 in
set_option maxRecDepth 100000 in
theorem c_X6_firstOfPiece (l : Launch) (Z : ZT) (hZ : XG Z) (g : Nat → Nat → Int32) (gl : Nat → Nat → Int64) (tf : Nat → Nat → Int32) (x1 : Int32) (hG : Gd Z tf) : Met l yX6_firstOfPiece (Cond.code yX6_firstOfPiece cX6_firstOfPiece 4 (some .int) :: wsL_law) ({ frames := 3, cells := 0, slots := 0, locals := 63 } : Room) (va_Pc [.ref (za Z 0), .int x1] (XI Z g gl tf)) (rd_Qi (fun r => ((∃ q, pcP (g 10) x1.toInt.toNat q ∧ 0 ≤ x1.toInt ∧ r.toInt = (q : Int)) ∨ (r = -1 ∧ ¬ (0 ≤ x1.toInt ∧ x1.toInt < (cB (fpB (g 10)) 64 : Int)))))) 0 0 (fun _ => False) := by
  refine Met.ofW (cc := cX6_firstOfPiece) (maxL := 4) (ret := (some .int)) (by decide) rfl ?_
  intro p e s m args below meth c s₁ B hml hv
  obtain ⟨rfl, hI⟩ := hv
  have hx := B.exec
  have hb := B.bytes
  have hr := B.returns
  have hT : ∀ w ∈ wsL_law, w.before ([.ref (za Z 0), .int x1] : List Value).toArray s = true := fun w h => atoms_spec (ws := (Cond.code yX6_firstOfPiece cX6_firstOfPiece 4 (some .int) :: wsL_law)) B.pre w (List.mem_cons_of_mem _ h)
  have hown : s.vm.findClass RX6 = some m.cls := findClass_of_methodNamed B.named
  have hlocks := B.notSynchronized
  have hK := hI.2.1
  have hP := hI.1
  have hS : va_S (zA Z) s.heap s.heap [] := va_S.rf
  have hl := lv_entry ([.ref (za Z 0), .int x1]) (n := 4) (Nat.le_of_ble_eq_true rfl)
  rw [lg_entry_eq]
  generalize (lg_sl ([.ref (za Z 0), .int x1]) ++ List.replicate (4 - (lg_sl ([.ref (za Z 0), .int x1])).length) Slot.unset).toArray = ls at hl ⊢
  have hl : lv_has ls 4 [(0, .ref (za Z 0)), (1, .int x1)] := hl
  have L4 : ∀ (n : Nat) (z2 : Int32) (z3 : Int32)  (h3 : 0 ≤ z3.toInt ∧ z3.toInt ≤ 64) (hC : z2.toInt = (cB (fpB (g 10)) z3.toInt.toNat : Int)) (hN : ∀ q : Nat, (q : Int) < z3.toInt → fpB (g 10) q = true → ¬ (cB (fpB (g 10)) q : Int) = x1.toInt) (hn : (64 - z3.toInt).toNat < n) (ls : Array Slot) (hl : lv_has ls 4 [(0, .ref (za Z 0)), (1, .int x1), (2, .int z2), (3, .int z3)]), W p l e ({ frames := 3, cells := 0, slots := 0, locals := 63 } : Room) s m ([.ref (za Z 0), .int x1] : List Value).toArray below meth c s.heap [] 0 0 (MQ below (rd_Qi (fun r => ((∃ q, pcP (g 10) x1.toInt.toNat q ∧ 0 ≤ x1.toInt ∧ r.toInt = (q : Int)) ∨ (r = -1 ∧ ¬ (0 ≤ x1.toInt ∧ x1.toInt < (cB (fpB (g 10)) 64 : Int)))))) ([.ref (za Z 0), .int x1] : List Value).toArray s 0 0 (fun _ => False)) (F0 m 4 ls []) := by
    intro n
    induction n with
    | zero => intro z2 z3 h3 hC hN hn; exact absurd hn (Nat.not_lt_zero _)
    | succ n ih4 =>
      intro z2 z3 h3 hC hN hn ls hl
      refine lv_iload_n hx hb dX6_firstOfPiece_4 rfl (lv_at hl 3 rfl) ?_
      refine lv_bipush (v := 64) hx hb dX6_firstOfPiece_5 (by decide) ?_
      refine lv_icmp_ge (tgt := 34) hx hb dX6_firstOfPiece_7 (by decide) (fun c_7 => ?_) (fun c_7 => ?_)
      · skip
        have i_7 := ti_lek tk_64 rfl c_7
        refine lv_iconst (v := (-1)) hx hb dX6_firstOfPiece_34 (by decide) ?_
        exact W.iret (v := (-1)) hx hb hr (fun t ht hW => ⟨(-1), rfl, Or.inr ⟨rfl, fun z => by obtain ⟨q, a, b, c⟩ := cB_iv (p := fpB (g 10)) 64 x1.toInt.toNat (by omega); exact hN q (by omega) b (by omega)⟩, ht⟩) (fun q hq => by cases hq) dX6_firstOfPiece_35
      · skip
        have i_7 := ti_nlek tk_64 rfl c_7
        have cl := cB_le (fpB (g 10)) z3.toInt.toNat
        refine lv_aload_n hx hb dX6_firstOfPiece_10 rfl (lv_at hl 0 rfl) ?_
        refine lv_iload_n hx hb dX6_firstOfPiece_11 rfl (lv_at hl 3 rfl) ?_
        refine rd_ci (va_runV (As := [.int z3]) (rest := []) ⟨hx, hb, hml, hown, hT⟩ (c_X6_beginsPiece l Z hZ g gl tf z3 (by first | assumption | omega | decide) hG) (cwV 1 hT (tb_V (fun _ h => h) (tr_30 _ (List.mem_of_getElem? (i := 9) rfl)) (tr_30 _ (List.mem_of_getElem? (i := 10) rfl)) (tr_30 _ (List.mem_of_getElem? (i := 11) rfl)) (tr_1 _ (List.mem_of_getElem? (i := 2) rfl)) (tr_30 _ (List.mem_of_getElem? (i := 12) rfl))) rfl rfl rfl (by decide +kernel) ⟨Nat.le_of_ble_eq_true rfl, Nat.le_of_ble_eq_true rfl⟩) ⟨fun a U f mk q => ⟨q.1, XI.blind f mk a q.2⟩, va_recv hK hP (ci := 6) (q0 := 0) rfl xw_0, fun U hU hW => ⟨rfl, hI.at hS hP hU hW⟩⟩ rfl rfl hl.1 rfl (lv_room (Nat.le_of_ble_eq_true rfl)) dX6_firstOfPiece_12 ⟨Nat.zero_le _, Nat.zero_le _⟩) (fun r_12 hr_12 => ?_)
        rcases hr_12 with ⟨rfl, b_12⟩ | ⟨rfl, b_12⟩
        · skip
          refine lv_if_eq (tgt := 28) hx hb dX6_firstOfPiece_15 (by decide) (fun c_15 => absurd c_15 (by decide)) (fun c_15 => ?_)
          refine lv_iload_n hx hb dX6_firstOfPiece_18 rfl (lv_at hl 2 rfl) ?_
          refine lv_iload_n hx hb dX6_firstOfPiece_19 rfl (lv_at hl 1 rfl) ?_
          refine lv_icmp_ne (tgt := 25) hx hb dX6_firstOfPiece_20 (by decide) (fun c_20 => ?_) (fun c_20 => ?_)
          · skip
            have i_20 := ti_nek rfl rfl c_20
            obtain ⟨v_25, e_25⟩ : ∃ y : Int32, y = z2 + 1 := ⟨_, rfl⟩
            refine lv_iinc (v := v_25) (lv' := [(2, .int v_25), (0, .ref (za Z 0)), (1, .int x1), (3, .int z3)]) hx hb dX6_firstOfPiece_25 hl (k := 2) rfl (by rw [e_25]; rfl) (by decide) rfl (fun ls hl => ?_)
            have t_25 := ti_addk rfl tk_1 (by omega) (by omega) e_25
            obtain ⟨v_28, e_28⟩ : ∃ y : Int32, y = z3 + 1 := ⟨_, rfl⟩
            refine lv_iinc (v := v_28) (lv' := [(3, .int v_28), (2, .int v_25), (0, .ref (za Z 0)), (1, .int x1)]) hx hb dX6_firstOfPiece_28 hl (k := 3) rfl (by rw [e_28]; rfl) (by decide) rfl (fun ls hl => ?_)
            have t_28 := ti_addk rfl tk_1 (by omega) (by omega) e_28
            refine lv_goto (tgt := 4) hx hb dX6_firstOfPiece_31 (by decide) ?_
            exact ih4 v_25 v_28 (by omega) (by rw [show v_28.toInt.toNat = z3.toInt.toNat + 1 by omega, cB_y (p := fpB (g 10)) b_12]; omega) (fun q hq hp => by rcases Int.lt_or_le (q : Int) z3.toInt with w | w; exact hN q w hp; have e : q = z3.toInt.toNat := (by omega); subst e; first | omega | (rw [b_12] at hp; cases hp)) (by omega) ls (lv_sub hl [2, 3, 1, 0] rfl)
          · skip
            have i_20 := ti_eqk rfl rfl c_20
            refine lv_iload_n hx hb dX6_firstOfPiece_23 rfl (lv_at hl 3 rfl) ?_
            exact W.iret (v := z3) hx hb hr (fun t ht hW => ⟨z3, rfl, Or.inl ⟨z3.toInt.toNat, ⟨by omega, b_12, by omega⟩, by omega, by omega⟩, ht⟩) (fun q hq => by cases hq) dX6_firstOfPiece_24
        · skip
          refine lv_if_eq (tgt := 28) hx hb dX6_firstOfPiece_15 (by decide) (fun c_15 => ?_) (fun c_15 => absurd c_15 (by decide))
          obtain ⟨v_28, e_28⟩ : ∃ y : Int32, y = z3 + 1 := ⟨_, rfl⟩
          refine lv_iinc (v := v_28) (lv' := [(3, .int v_28), (0, .ref (za Z 0)), (1, .int x1), (2, .int z2)]) hx hb dX6_firstOfPiece_28 hl (k := 3) rfl (by rw [e_28]; rfl) (by decide) rfl (fun ls hl => ?_)
          have t_28 := ti_addk rfl tk_1 (by omega) (by omega) e_28
          refine lv_goto (tgt := 4) hx hb dX6_firstOfPiece_31 (by decide) ?_
          exact ih4 z2 v_28 (by omega) (by rw [show v_28.toInt.toNat = z3.toInt.toNat + 1 by omega, cB_n (p := fpB (g 10)) (by rw [b_12]; decide)]; exact hC) (fun q hq hp => by rcases Int.lt_or_le (q : Int) z3.toInt with w | w; exact hN q w hp; have e : q = z3.toInt.toNat := (by omega); subst e; first | omega | (rw [b_12] at hp; cases hp)) (by omega) ls (lv_sub hl [1, 2, 3, 0] rfl)
  refine lv_iconst (v := 0) hx hb dX6_firstOfPiece_0 (by decide) ?_
  refine lv_istore_n (lv' := [(2, .int 0), (0, .ref (za Z 0)), (1, .int x1)]) hx hb dX6_firstOfPiece_1 rfl hl (by decide) rfl (fun ls hl => ?_)
  refine lv_iconst (v := 0) hx hb dX6_firstOfPiece_2 (by decide) ?_
  refine lv_istore_n (lv' := [(3, .int 0), (2, .int 0), (0, .ref (za Z 0)), (1, .int x1)]) hx hb dX6_firstOfPiece_3 rfl hl (by decide) rfl (fun ls hl => ?_)
  exact L4 _ 0 0 (by decide) (by rw [tk_0]; rfl) (fun q hq => by rw [tk_0] at hq; omega) (Nat.lt_succ_self _) ls (lv_sub hl [2, 3, 1, 0] rfl)
set_option maxHeartbeats 4000000 in
set_option maxRecDepth 100000 in
theorem c_X6_lastOfPiece (l : Launch) (Z : ZT) (hZ : XG Z) (g : Nat → Nat → Int32) (gl : Nat → Nat → Int64) (tf : Nat → Nat → Int32) (x1 : Int32) (h1 : 0 ≤ x1.toInt ∧ x1.toInt ≤ 63) (hG : Gd Z tf) : Met l yX6_lastOfPiece (Cond.code yX6_lastOfPiece cX6_lastOfPiece 4 (some .int) :: wsL_law) ({ frames := 2, cells := 0, slots := 0, locals := 41 } : Room) (va_Pc [.ref (za Z 0), .int x1] (XI Z g gl tf)) (rd_Qi (fun r => (∃ q, laP (g 10) x1.toInt.toNat q ∧ r.toInt = (q : Int)))) 0 0 (fun _ => False) := by
  refine Met.ofW (cc := cX6_lastOfPiece) (maxL := 4) (ret := (some .int)) (by decide) rfl ?_
  intro p e s m args below meth c s₁ B hml hv
  obtain ⟨rfl, hI⟩ := hv
  have hx := B.exec
  have hb := B.bytes
  have hr := B.returns
  have hT : ∀ w ∈ wsL_law, w.before ([.ref (za Z 0), .int x1] : List Value).toArray s = true := fun w h => atoms_spec (ws := (Cond.code yX6_lastOfPiece cX6_lastOfPiece 4 (some .int) :: wsL_law)) B.pre w (List.mem_cons_of_mem _ h)
  have hown : s.vm.findClass RX6 = some m.cls := findClass_of_methodNamed B.named
  have hlocks := B.notSynchronized
  have hK := hI.2.1
  have hP := hI.1
  have hS : va_S (zA Z) s.heap s.heap [] := va_S.rf
  have hl := lv_entry ([.ref (za Z 0), .int x1]) (n := 4) (Nat.le_of_ble_eq_true rfl)
  rw [lg_entry_eq]
  generalize (lg_sl ([.ref (za Z 0), .int x1]) ++ List.replicate (4 - (lg_sl ([.ref (za Z 0), .int x1])).length) Slot.unset).toArray = ls at hl ⊢
  have hl : lv_has ls 4 [(0, .ref (za Z 0)), (1, .int x1)] := hl
  have L11 : ∀ (n : Nat) (z2 : Int32) (z3 : Int32)  (hz2 : z2 = g 10 x1.toInt.toNat) (h3 : x1.toInt ≤ z3.toInt ∧ z3.toInt ≤ 63) (hA : ∀ j, x1.toInt.toNat ≤ j → j ≤ z3.toInt.toNat → g 10 j = g 10 x1.toInt.toNat) (hn : (63 - z3.toInt).toNat < n) (ls : Array Slot) (hl : lv_has ls 4 [(0, .ref (za Z 0)), (1, .int x1), (2, .int z2), (3, .int z3)]), W p l e ({ frames := 2, cells := 0, slots := 0, locals := 41 } : Room) s m ([.ref (za Z 0), .int x1] : List Value).toArray below meth c s.heap [] 0 0 (MQ below (rd_Qi (fun r => (∃ q, laP (g 10) x1.toInt.toNat q ∧ r.toInt = (q : Int)))) ([.ref (za Z 0), .int x1] : List Value).toArray s 0 0 (fun _ => False)) (F0 m 11 ls []) := by
    intro n
    induction n with
    | zero => intro z2 z3 hz2 h3 hA hn; exact absurd hn (Nat.not_lt_zero _)
    | succ n ih11 =>
      intro z2 z3 hz2 h3 hA hn ls hl
      refine lv_iload_n hx hb dX6_lastOfPiece_11 rfl (lv_at hl 3 rfl) ?_
      refine lv_bipush (v := 63) hx hb dX6_lastOfPiece_12 (by decide) ?_
      refine lv_icmp_ge (tgt := 37) hx hb dX6_lastOfPiece_14 (by decide) (fun c_14 => ?_) (fun c_14 => ?_)
      · skip
        have i_14 := ti_lek tk_63 rfl c_14
        refine lv_iload_n hx hb dX6_lastOfPiece_37 rfl (lv_at hl 3 rfl) ?_
        exact W.iret (v := z3) hx hb hr (fun t ht hW => ⟨z3, rfl, ⟨z3.toInt.toNat, ⟨by omega, by omega, hA, by first | exact Or.inl (by omega) | exact Or.inr (by rw [← e24, ← hz2]; exact c_28)⟩, by omega⟩, ht⟩) (fun q hq => by cases hq) dX6_lastOfPiece_38
      · skip
        have i_14 := ti_nlek tk_63 rfl c_14
        refine lv_aload_n hx hb dX6_lastOfPiece_17 rfl (lv_at hl 0 rfl) ?_
        refine va_get (D := zD Z) (ci := 6) (v := .ref (za Z 5)) (C := RX6) (T := TX6) (N := 11) hx hb hT inlX6 hown hK hP 0 xw_0 rfl 2 (by decide) (hT _ (tr_1 _ (List.mem_of_getElem? (i := 23) rfl))) (fun _ h9 => h9) rfl dX6_lastOfPiece_18 ?_
        refine lv_iload_n hx hb dX6_lastOfPiece_21 rfl (lv_at hl 3 rfl) ?_
        refine lv_iconst (v := 1) hx hb dX6_lastOfPiece_22 (by decide) ?_
        refine lv_iadd hx hb dX6_lastOfPiece_23 ?_
        refine lv_topi (fun v_23 e_23 => ?_)
        have t_23 := ti_addk rfl tk_1 (by omega) (by omega) e_23
        refine rd_ci (va_runV (As := [.int v_23]) (rest := []) ⟨hx, hb, hml, hown, hT⟩ (c_X5_lowestFor l Z hZ g gl tf v_23 hG) (cwV 1 hT (tb_V (fun _ h => h) (tr_20 _ (List.mem_of_getElem? (i := 15) rfl)) (tr_20 _ (List.mem_of_getElem? (i := 16) rfl)) (tr_20 _ (List.mem_of_getElem? (i := 17) rfl)) (tr_1 _ (List.mem_of_getElem? (i := 22) rfl)) (tr_20 _ (List.mem_of_getElem? (i := 18) rfl))) rfl rfl rfl (by decide +kernel) ⟨Nat.le_of_ble_eq_true rfl, Nat.le_of_ble_eq_true rfl⟩) ⟨fun a U f mk q => ⟨q.1, XI.blind f mk a q.2⟩, va_recv hK hP (ci := 5) (q0 := 5) rfl xw_5, fun U hU hW => ⟨rfl, hI.at hS hP hU hW⟩⟩ rfl rfl hl.1 rfl (lv_room (Nat.le_of_ble_eq_true rfl)) dX6_lastOfPiece_24 ⟨Nat.zero_le _, Nat.zero_le _⟩) (fun r_24 hr_24 => ?_)
        have e24 : r_24 = g 10 (z3.toInt.toNat + 1) := by rw [hr_24 (by omega), show v_23.toInt.toNat = z3.toInt.toNat + 1 by omega]
        refine lv_iload_n hx hb dX6_lastOfPiece_27 rfl (lv_at hl 2 rfl) ?_
        refine lv_icmp_ne (tgt := 37) hx hb dX6_lastOfPiece_28 (by decide) (fun c_28 => ?_) (fun c_28 => ?_)
        · skip
          have i_28 := ti_nek rfl rfl c_28
          refine lv_iload_n hx hb dX6_lastOfPiece_37 rfl (lv_at hl 3 rfl) ?_
          exact W.iret (v := z3) hx hb hr (fun t ht hW => ⟨z3, rfl, ⟨z3.toInt.toNat, ⟨by omega, by omega, hA, by first | exact Or.inl (by omega) | exact Or.inr (by rw [← e24, ← hz2]; exact c_28)⟩, by omega⟩, ht⟩) (fun q hq => by cases hq) dX6_lastOfPiece_38
        · skip
          have i_28 := ti_eqk rfl rfl c_28
          obtain ⟨v_31, e_31⟩ : ∃ y : Int32, y = z3 + 1 := ⟨_, rfl⟩
          refine lv_iinc (v := v_31) (lv' := [(3, .int v_31), (0, .ref (za Z 0)), (1, .int x1), (2, .int z2)]) hx hb dX6_lastOfPiece_31 hl (k := 3) rfl (by rw [e_31]; rfl) (by decide) rfl (fun ls hl => ?_)
          have t_31 := ti_addk rfl tk_1 (by omega) (by omega) e_31
          refine lv_goto (tgt := 11) hx hb dX6_lastOfPiece_34 (by decide) ?_
          exact ih11 z2 v_31 hz2 (by omega) (fun j h2 h4 => by rcases Nat.lt_or_ge z3.toInt.toNat j with w | w; (rw [show j = z3.toInt.toNat + 1 by omega, ← e24, ← hz2]; exact c_28); exact hA j h2 w) (by omega) ls (lv_sub hl [1, 2, 3, 0] rfl)
  refine lv_aload_n hx hb dX6_lastOfPiece_0 rfl (lv_at hl 0 rfl) ?_
  refine va_get (D := zD Z) (ci := 6) (v := .ref (za Z 5)) (C := RX6) (T := TX6) (N := 11) hx hb hT inlX6 hown hK hP 0 xw_0 rfl 2 (by decide) (hT _ (tr_1 _ (List.mem_of_getElem? (i := 23) rfl))) (fun _ h9 => h9) rfl dX6_lastOfPiece_1 ?_
  refine lv_iload_n hx hb dX6_lastOfPiece_4 rfl (lv_at hl 1 rfl) ?_
  refine rd_ci (va_runV (As := [.int x1]) (rest := []) ⟨hx, hb, hml, hown, hT⟩ (c_X5_lowestFor l Z hZ g gl tf x1 hG) (cwV 1 hT (tb_V (fun _ h => h) (tr_20 _ (List.mem_of_getElem? (i := 15) rfl)) (tr_20 _ (List.mem_of_getElem? (i := 16) rfl)) (tr_20 _ (List.mem_of_getElem? (i := 17) rfl)) (tr_1 _ (List.mem_of_getElem? (i := 22) rfl)) (tr_20 _ (List.mem_of_getElem? (i := 18) rfl))) rfl rfl rfl (by decide +kernel) ⟨Nat.le_of_ble_eq_true rfl, Nat.le_of_ble_eq_true rfl⟩) ⟨fun a U f mk q => ⟨q.1, XI.blind f mk a q.2⟩, va_recv hK hP (ci := 5) (q0 := 5) rfl xw_5, fun U hU hW => ⟨rfl, hI.at hS hP hU hW⟩⟩ rfl rfl hl.1 rfl (lv_room (Nat.le_of_ble_eq_true rfl)) dX6_lastOfPiece_5 ⟨Nat.zero_le _, Nat.zero_le _⟩) (fun r_5 hr_5 => ?_)
  refine lv_istore_n (lv' := [(2, .int r_5), (0, .ref (za Z 0)), (1, .int x1)]) hx hb dX6_lastOfPiece_8 rfl hl (by decide) rfl (fun ls hl => ?_)
  refine lv_iload_n hx hb dX6_lastOfPiece_9 rfl (lv_at hl 2 rfl) ?_
  refine lv_istore_n (lv' := [(3, .int x1), (2, .int r_5), (0, .ref (za Z 0)), (1, .int x1)]) hx hb dX6_lastOfPiece_10 rfl hl (by decide) rfl (fun ls hl => ?_)
  exact L11 _ r_5 x1 (hr_5 h1) (by omega) (fun j h2 h3 => by rw [show j = x1.toInt.toNat by omega]) (Nat.lt_succ_self _) ls (lv_sub hl [2, 3, 1, 0] rfl)
set_option maxHeartbeats 4000000 in
set_option maxRecDepth 100000 in
theorem c_X6_refusalOf (l : Launch) (Z : ZT) (hZ : XG Z) (g : Nat → Nat → Int32) (gl : Nat → Nat → Int64) (tf : Nat → Nat → Int32) (x1 : Int32) (x2 : Int32) (x3 : Int32) (x4 : Int32) (hG : Gd Z tf) : Met l yX6_refusalOf (Cond.code yX6_refusalOf cX6_refusalOf 7 (some .int) :: wsL_law) ({ frames := 5, cells := 0, slots := 0, locals := 106 } : Room) (va_Pc [.ref (za Z 0), .int x1, .int x2, .int x3, .int x4] (XI Z g gl tf)) (va_Qi (fun (r : Int32) (u : (Nat → Nat → Int32) × (Nat → Nat → Int64) × (Nat → Nat → Int32)) => Fr [] g u.1 ∧ Gd Z u.2.2 ∧ g = u.1 ∧ (rjF (g 0 8) (g 3 1) x1 x2 x3 x4 r ∧ (∀ b, b ≠ za Z 24 → u.2.2 b = tf b) ∧ (r = 0 → u.2.2 = wrT tf (za Z 24) x1 x2 x3 (x4 / 100) (x4 - x4 / 100 * 100)))) (fun u t => va_P (zD Z) vwCl (xw Z u.1 u.2.1 u.2.2) t.heap) (zA Z)) 0 0 (zA Z) := by
  refine Met.ofW (cc := cX6_refusalOf) (maxL := 7) (ret := (some .int)) (by decide) rfl ?_
  intro p e s m args below meth c s₁ B hml hv
  obtain ⟨rfl, hI⟩ := hv
  have hx := B.exec
  have hb := B.bytes
  have hr := B.returns
  have hT : ∀ w ∈ wsL_law, w.before ([.ref (za Z 0), .int x1, .int x2, .int x3, .int x4] : List Value).toArray s = true := fun w h => atoms_spec (ws := (Cond.code yX6_refusalOf cX6_refusalOf 7 (some .int) :: wsL_law)) B.pre w (List.mem_cons_of_mem _ h)
  have hown : s.vm.findClass RX6 = some m.cls := findClass_of_methodNamed B.named
  have hlocks := B.notSynchronized
  have hK := hI.2.1
  have hP := hI.1
  have hS : va_S (zA Z) s.heap s.heap [] := va_S.rf
  have hF : Fr [] g g := Fr.rf
  have hl := lv_entry ([.ref (za Z 0), .int x1, .int x2, .int x3, .int x4]) (n := 7) (Nat.le_of_ble_eq_true rfl)
  rw [lg_entry_eq]
  generalize (lg_sl ([.ref (za Z 0), .int x1, .int x2, .int x3, .int x4]) ++ List.replicate (7 - (lg_sl ([.ref (za Z 0), .int x1, .int x2, .int x3, .int x4])).length) Slot.unset).toArray = ls at hl ⊢
  have hl : lv_has ls 7 [(0, .ref (za Z 0)), (1, .int x1), (2, .int x2), (3, .int x3), (4, .int x4)] := hl
  refine lv_iload hx hb dX6_refusalOf_0 (lv_at hl 4 rfl) ?_
  refine lv_bipush (v := 100) hx hb dX6_refusalOf_2 (by decide) ?_
  refine lv_idiv hx hb dX6_refusalOf_4 (by decide) ?_
  refine lv_topi (fun v_4 e_4 => ?_)
  refine lv_istore (lv' := [(5, .int v_4), (0, .ref (za Z 0)), (1, .int x1), (2, .int x2), (3, .int x3), (4, .int x4)]) hx hb dX6_refusalOf_5 hl (by decide) rfl (fun ls hl => ?_)
  refine lv_iload hx hb dX6_refusalOf_7 (lv_at hl 5 rfl) ?_
  refine lv_bipush (v := 100) hx hb dX6_refusalOf_9 (by decide) ?_
  refine lv_irem hx hb dX6_refusalOf_11 (by decide) ?_
  refine lv_topi (fun v_11 e_11 => ?_)
  refine lv_istore (lv' := [(6, .int v_11), (5, .int v_4), (0, .ref (za Z 0)), (1, .int x1), (2, .int x2), (3, .int x3), (4, .int x4)]) hx hb dX6_refusalOf_12 hl (by decide) rfl (fun ls hl => ?_)
  refine lv_iload_n hx hb dX6_refusalOf_14 rfl (lv_at hl 3 rfl) ?_
  refine rd_ci (va_runS (As := [.int x1]) (rest := []) ⟨hx, hb, hml, hown, hT⟩ (c_X6_isKind l x1) (va_cwS 1 hT (tb_S (fun _ h => h) (tr_23 _ (List.mem_of_getElem? (i := 22) rfl)) (tr_23 _ (List.mem_of_getElem? (i := 23) rfl)) (tr_1 _ (List.mem_of_getElem? (i := 2) rfl)) (tr_24 _ (List.mem_of_getElem? (i := 0) rfl))) rfl rfl rfl (by decide +kernel) ⟨Nat.le_of_ble_eq_true rfl, Nat.le_of_ble_eq_true rfl⟩) ⟨fun _ _ _ _ q => q, fun U hU hW => ⟨rfl, trivial⟩⟩ rfl rfl hl.1 rfl (lv_room (Nat.le_of_ble_eq_true rfl)) dX6_refusalOf_15 ⟨Nat.zero_le _, Nat.zero_le _⟩) (fun r_15 hr_15 => ?_)
  rcases hr_15 with ⟨rfl, b_15⟩ | ⟨rfl, b_15⟩
  · skip
    refine lv_if_eq (tgt := 49) hx hb dX6_refusalOf_18 (by decide) (fun c_18 => absurd c_18 (by decide)) (fun c_18 => ?_)
    refine lv_iload hx hb dX6_refusalOf_21 (lv_at hl 6 rfl) ?_
    refine lv_if_lt (tgt := 49) hx hb dX6_refusalOf_23 (by decide) (fun c_23 => ?_) (fun c_23 => ?_)
    · skip
      have i_23 := ti_ltk rfl tk_0 c_23
      refine lv_bipush (v := (-102)) hx hb dX6_refusalOf_49 (by decide) ?_
      exact W.iret (v := (-102)) hx hb hr (fun t ht hW => ⟨⟨(-102), (g, gl, tf), rfl, ⟨hF, hG, rfl, (by (try dsimp only); first | done | exact ⟨Or.inl ⟨fun q => by obtain ⟨q1, q2, q3, q4, q5, -⟩ := q; rw [← e_11] at q4 q5; rw [← e_4] at q3 q5; have q6 := dv100 q2; rw [← e_11, ← e_4] at q6; omega, rfl⟩, fun _ _ => rfl, fun h => absurd h (by decide)⟩)⟩, by show va_P (zD Z) vwCl (xw Z g gl tf) t.heap; rw [ht]; exact hP⟩, hS.F ht⟩) hS.2.2 dX6_refusalOf_51
    · skip
      have i_23 := ti_nltk rfl tk_0 c_23
      refine lv_iload hx hb dX6_refusalOf_26 (lv_at hl 1 rfl) ?_
      refine rd_ci (va_runS (As := [.int v_4]) (rest := []) ⟨hx, hb, hml, hown, hT⟩ (c_X6_isQuantity l v_4) (va_cwS 1 hT (tb_S (fun _ h => h) (tr_24 _ (List.mem_of_getElem? (i := 16) rfl)) (tr_20 _ (List.mem_of_getElem? (i := 19) rfl)) (tr_1 _ (List.mem_of_getElem? (i := 2) rfl)) (tr_20 _ (List.mem_of_getElem? (i := 20) rfl))) rfl rfl rfl (by decide +kernel) ⟨Nat.le_of_ble_eq_true rfl, Nat.le_of_ble_eq_true rfl⟩) ⟨fun _ _ _ _ q => q, fun U hU hW => ⟨rfl, trivial⟩⟩ rfl rfl hl.1 rfl (lv_room (Nat.le_of_ble_eq_true rfl)) dX6_refusalOf_28 ⟨Nat.zero_le _, Nat.zero_le _⟩) (fun r_28 hr_28 => ?_)
      rcases hr_28 with ⟨rfl, b_28⟩ | ⟨rfl, b_28⟩
      · skip
        refine lv_if_eq (tgt := 49) hx hb dX6_refusalOf_31 (by decide) (fun c_31 => absurd c_31 (by decide)) (fun c_31 => ?_)
        refine lv_iload hx hb dX6_refusalOf_34 (lv_at hl 0 rfl) ?_
        refine rd_ci (va_runS (As := [.int v_11]) (rest := []) ⟨hx, hb, hml, hown, hT⟩ (c_X6_isQuantity l v_11) (va_cwS 1 hT (tb_S (fun _ h => h) (tr_24 _ (List.mem_of_getElem? (i := 16) rfl)) (tr_20 _ (List.mem_of_getElem? (i := 19) rfl)) (tr_1 _ (List.mem_of_getElem? (i := 2) rfl)) (tr_20 _ (List.mem_of_getElem? (i := 20) rfl))) rfl rfl rfl (by decide +kernel) ⟨Nat.le_of_ble_eq_true rfl, Nat.le_of_ble_eq_true rfl⟩) ⟨fun _ _ _ _ q => q, fun U hU hW => ⟨rfl, trivial⟩⟩ rfl rfl hl.1 rfl (lv_room (Nat.le_of_ble_eq_true rfl)) dX6_refusalOf_36 ⟨Nat.zero_le _, Nat.zero_le _⟩) (fun r_36 hr_36 => ?_)
        rcases hr_36 with ⟨rfl, b_36⟩ | ⟨rfl, b_36⟩
        · skip
          refine lv_if_eq (tgt := 49) hx hb dX6_refusalOf_39 (by decide) (fun c_39 => absurd c_39 (by decide)) (fun c_39 => ?_)
          refine lv_iload hx hb dX6_refusalOf_42 (lv_at hl 1 rfl) ?_
          refine lv_iload hx hb dX6_refusalOf_44 (lv_at hl 0 rfl) ?_
          refine lv_icmp_le (tgt := 52) hx hb dX6_refusalOf_46 (by decide) (fun c_46 => ?_) (fun c_46 => ?_)
          · skip
            have i_46 := ti_lek rfl rfl c_46
            have i4 := congrArg Int32.toInt e_4
            have i11 := congrArg Int32.toInt e_11
            refine lv_aload_n hx hb dX6_refusalOf_52 rfl (lv_at hl 2 rfl) ?_
            refine va_get (D := zD Z) (ci := 6) (v := .ref (za Z 24)) (C := RX6) (T := TX6) (N := 11) hx hb hT inlX6 hown hK hP 0 xw_0 rfl 5 (by decide) (hT _ (tr_2 _ (List.mem_of_getElem? (i := 11) rfl))) (fun _ h9 => h9) rfl dX6_refusalOf_53 ?_
            refine lv_iload_n hx hb dX6_refusalOf_56 rfl (lv_at hl 3 rfl) ?_
            refine lv_iload_n hx hb dX6_refusalOf_57 rfl (lv_at hl 4 rfl) ?_
            refine lv_iload_n hx hb dX6_refusalOf_58 rfl (lv_at hl 5 rfl) ?_
            refine lv_iload hx hb dX6_refusalOf_59 (lv_at hl 1 rfl) ?_
            refine lv_iload hx hb dX6_refusalOf_61 (lv_at hl 0 rfl) ?_
            obtain ⟨k_63, hk_63⟩ := xt_at (g := g) (gl := gl) (tf := tf) hZ.ask
            refine va_callv (va_runV (As := [.int x1, .int x2, .int x3, .int v_4, .int v_11]) (rest := []) ⟨hx, hb, hml, hown, hT⟩ (c_X3_write l Z hZ g gl tf (za Z 24) hZ.ask x1 x2 x3 v_4 v_11 (by first | assumption | omega | decide) (by first | assumption | omega | decide) hG) (cwV 5 hT (tb_V (fun _ h => h) (tr_26 _ (List.mem_of_getElem? (i := 12) rfl)) (tr_13 _ (List.mem_of_getElem? (i := 18) rfl)) (tr_13 _ (List.mem_of_getElem? (i := 19) rfl)) (tr_2 _ (List.mem_of_getElem? (i := 10) rfl)) (tr_13 _ (List.mem_of_getElem? (i := 20) rfl))) rfl rfl rfl (by decide +kernel) ⟨Nat.le_of_ble_eq_true rfl, Nat.le_of_ble_eq_true rfl⟩) ⟨fun a U f mk q => ⟨q.1, XI.blind f mk a q.2⟩, va_recv hK hP (ci := 3) (q0 := k_63) rfl hk_63, fun U hU hW => ⟨rfl, hI.at hS hP hU hW⟩⟩ rfl rfl hl.1 rfl (lv_room (Nat.le_of_ble_eq_true rfl)) dX6_refusalOf_63 ⟨Nat.zero_le _, Nat.zero_le _⟩) hS (fun q _ h => h) (fun q h => h) (fun u_63 t_63 H locs ht_63 _ hw_63 hB_63 _ _ hS => ?_)
            obtain ⟨g_63, gl_63, tf_63⟩ := u_63
            have hP : va_P (zD Z) vwCl (xw Z g_63 gl_63 tf_63) H := ht_63 ▸ hB_63
            obtain ⟨hf_63, hG, et_63, eg_63⟩ := hw_63
            have hF := hF.tr hf_63 (by decide)
            dsimp only at hf_63 hG hF et_63 eg_63
            subst et_63
            subst eg_63
            refine lv_aload_n hx hb dX6_refusalOf_66 rfl (lv_at hl 2 rfl) ?_
            refine va_get (D := zD Z) (ci := 6) (v := .ref (za Z 24)) (C := RX6) (T := TX6) (N := 11) hx hb hT inlX6 hown hK hP 0 xw_0 rfl 5 (by decide) (hT _ (tr_2 _ (List.mem_of_getElem? (i := 11) rfl))) (fun _ h9 => h9) rfl dX6_refusalOf_67 ?_
            have wv : wrT tf (za Z 24) x1 x2 x3 v_4 v_11 = wrT tf (za Z 24) x1 x2 x3 (x4 / 100) (x4 - x4 / 100 * 100) := by rw [e_4, e_11]
            obtain ⟨k_70, hk_70⟩ := xt_at (g := g) (gl := gl_63) (tf := (wrT tf (za Z 24) x1 x2 x3 v_4 v_11)) hZ.ask
            refine rd_ci (va_runV (As := []) (rest := []) ⟨hx, hb, hml, hown, hT⟩ (c_X3_isTooGreat l Z hZ g gl_63 (wrT tf (za Z 24) x1 x2 x3 v_4 v_11) (za Z 24) hZ.ask hG) (cwV 0 hT (tb_V (fun _ h => h) (tr_26 _ (List.mem_of_getElem? (i := 13) rfl)) (tr_26 _ (List.mem_of_getElem? (i := 14) rfl)) (tr_26 _ (List.mem_of_getElem? (i := 15) rfl)) (tr_2 _ (List.mem_of_getElem? (i := 10) rfl)) (tr_26 _ (List.mem_of_getElem? (i := 16) rfl))) rfl rfl rfl (by decide +kernel) ⟨Nat.le_of_ble_eq_true rfl, Nat.le_of_ble_eq_true rfl⟩) ⟨fun a U f mk q => ⟨q.1, XI.blind f mk a q.2⟩, va_recv hK hP (ci := 3) (q0 := k_70) rfl hk_70, fun U hU hW => ⟨rfl, hI.at hS hP hU hW⟩⟩ rfl rfl hl.1 rfl (lv_room (Nat.le_of_ble_eq_true rfl)) dX6_refusalOf_70 ⟨Nat.zero_le _, Nat.zero_le _⟩) (fun r_70 hr_70 => ?_)
            rcases hr_70 with ⟨rfl, b_70⟩ | ⟨rfl, b_70⟩
            · skip
              rw [wrT_0, wrT_1, wrT_2, wrT_3, wrT_4, e_4, e_11] at b_70
              refine lv_if_eq (tgt := 79) hx hb dX6_refusalOf_73 (by decide) (fun c_73 => absurd c_73 (by decide)) (fun c_73 => ?_)
              refine lv_bipush (v := (-102)) hx hb dX6_refusalOf_76 (by decide) ?_
              exact W.iret (v := (-102)) hx hb hr (fun t ht hW => ⟨⟨(-102), (g, gl_63, (wrT tf (za Z 24) x1 x2 x3 v_4 v_11)), rfl, ⟨hF, hG, rfl, (by (try dsimp only); first | done | exact ⟨Or.inl ⟨fun q => q.2.2.2.2.2 b_70, rfl⟩, fun b hb => wrT_ne hb, fun h => absurd h (by decide)⟩)⟩, by show va_P (zD Z) vwCl (xw Z g gl_63 (wrT tf (za Z 24) x1 x2 x3 v_4 v_11)) t.heap; rw [ht]; exact hP⟩, hS.F ht⟩) hS.2.2 dX6_refusalOf_78
            · skip
              rw [wrT_0, wrT_1, wrT_2, wrT_3, wrT_4, e_4, e_11] at b_70
              refine lv_if_eq (tgt := 79) hx hb dX6_refusalOf_73 (by decide) (fun c_73 => ?_) (fun c_73 => absurd c_73 (by decide))
              refine lv_aload_n hx hb dX6_refusalOf_79 rfl (lv_at hl 2 rfl) ?_
              refine va_get (D := zD Z) (ci := 6) (v := .int (g 0 8)) (C := RX6) (T := TX6) (N := 11) hx hb hT inlX6 hown hK hP 0 xw_0 rfl 8 (by decide) (hT _ (tr_12 _ (List.mem_of_getElem? (i := 19) rfl))) (fun _ h9 => h9) rfl dX6_refusalOf_80 ?_
              refine lv_if_ne (tgt := 89) hx hb dX6_refusalOf_83 (by decide) (fun c_83 => ?_) (fun c_83 => ?_)
              · skip
                have i_83 := ti_nek rfl tk_0 c_83
                refine lv_aload_n hx hb dX6_refusalOf_89 rfl (lv_at hl 2 rfl) ?_
                refine va_get (D := zD Z) (ci := 6) (v := .ref (za Z 3)) (C := RX6) (T := TX6) (N := 11) hx hb hT inlX6 hown hK hP 0 xw_0 rfl 1 (by decide) (hT _ (tr_1 _ (List.mem_of_getElem? (i := 19) rfl))) (fun _ h9 => h9) rfl dX6_refusalOf_90 ?_
                refine va_get (D := zD Z) (ci := 4) (v := .int (g 3 1)) (C := RX4) (T := TX4) (N := 2) hx hb hT inlX4 hown hK hP 3 xw_3 rfl 1 (by decide) (hT _ (tr_12 _ (List.mem_of_getElem? (i := 21) rfl))) (fun _ h9 => h9) rfl dX6_refusalOf_93 ?_
                refine lv_bipush (v := 40) hx hb dX6_refusalOf_96 (by decide) ?_
                refine lv_icmp_lt (tgt := 106) hx hb dX6_refusalOf_98 (by decide) (fun c_98 => ?_) (fun c_98 => ?_)
                · skip
                  have i_98 := ti_ltk rfl tk_40 c_98
                  refine lv_iconst (v := 0) hx hb dX6_refusalOf_106 (by decide) ?_
                  exact W.iret (v := 0) hx hb hr (fun t ht hW => ⟨⟨0, (g, gl_63, (wrT tf (za Z 24) x1 x2 x3 v_4 v_11)), rfl, ⟨hF, hG, rfl, (by (try dsimp only); first | done | exact ⟨Or.inr (Or.inr (Or.inr ⟨⟨by omega, by omega, by omega, by omega, by omega, b_70⟩, c_83, by omega, rfl⟩)), fun b hb => wrT_ne hb, fun _ => wv⟩)⟩, by show va_P (zD Z) vwCl (xw Z g gl_63 (wrT tf (za Z 24) x1 x2 x3 v_4 v_11)) t.heap; rw [ht]; exact hP⟩, hS.F ht⟩) hS.2.2 dX6_refusalOf_107
                · skip
                  have i_98 := ti_nltk rfl tk_40 c_98
                  refine lv_bipush (v := (-104)) hx hb dX6_refusalOf_101 (by decide) ?_
                  refine lv_goto (tgt := 107) hx hb dX6_refusalOf_103 (by decide) ?_
                  exact W.iret (v := (-104)) hx hb hr (fun t ht hW => ⟨⟨(-104), (g, gl_63, (wrT tf (za Z 24) x1 x2 x3 v_4 v_11)), rfl, ⟨hF, hG, rfl, (by (try dsimp only); first | done | exact ⟨Or.inr (Or.inr (Or.inl ⟨⟨by omega, by omega, by omega, by omega, by omega, b_70⟩, c_83, by omega, rfl⟩)), fun b hb => wrT_ne hb, fun h => absurd h (by decide)⟩)⟩, by show va_P (zD Z) vwCl (xw Z g gl_63 (wrT tf (za Z 24) x1 x2 x3 v_4 v_11)) t.heap; rw [ht]; exact hP⟩, hS.F ht⟩) hS.2.2 dX6_refusalOf_107
              · skip
                have i_83 := ti_eqk rfl tk_0 c_83
                refine lv_bipush (v := (-103)) hx hb dX6_refusalOf_86 (by decide) ?_
                exact W.iret (v := (-103)) hx hb hr (fun t ht hW => ⟨⟨(-103), (g, gl_63, (wrT tf (za Z 24) x1 x2 x3 v_4 v_11)), rfl, ⟨hF, hG, rfl, (by (try dsimp only); first | done | exact ⟨Or.inr (Or.inl ⟨⟨by omega, by omega, by omega, by omega, by omega, b_70⟩, c_83, rfl⟩), fun b hb => wrT_ne hb, fun h => absurd h (by decide)⟩)⟩, by show va_P (zD Z) vwCl (xw Z g gl_63 (wrT tf (za Z 24) x1 x2 x3 v_4 v_11)) t.heap; rw [ht]; exact hP⟩, hS.F ht⟩) hS.2.2 dX6_refusalOf_88
          · skip
            have i_46 := ti_nlek rfl rfl c_46
            refine lv_bipush (v := (-102)) hx hb dX6_refusalOf_49 (by decide) ?_
            exact W.iret (v := (-102)) hx hb hr (fun t ht hW => ⟨⟨(-102), (g, gl, tf), rfl, ⟨hF, hG, rfl, (by (try dsimp only); first | done | exact ⟨Or.inl ⟨fun q => by obtain ⟨q1, q2, q3, q4, q5, -⟩ := q; rw [← e_11] at q4 q5; rw [← e_4] at q3 q5; have q6 := dv100 q2; rw [← e_11, ← e_4] at q6; omega, rfl⟩, fun _ _ => rfl, fun h => absurd h (by decide)⟩)⟩, by show va_P (zD Z) vwCl (xw Z g gl tf) t.heap; rw [ht]; exact hP⟩, hS.F ht⟩) hS.2.2 dX6_refusalOf_51
        · skip
          refine lv_if_eq (tgt := 49) hx hb dX6_refusalOf_39 (by decide) (fun c_39 => ?_) (fun c_39 => absurd c_39 (by decide))
          refine lv_bipush (v := (-102)) hx hb dX6_refusalOf_49 (by decide) ?_
          exact W.iret (v := (-102)) hx hb hr (fun t ht hW => ⟨⟨(-102), (g, gl, tf), rfl, ⟨hF, hG, rfl, (by (try dsimp only); first | done | exact ⟨Or.inl ⟨fun q => by obtain ⟨q1, q2, q3, q4, q5, -⟩ := q; rw [← e_11] at q4 q5; rw [← e_4] at q3 q5; have q6 := dv100 q2; rw [← e_11, ← e_4] at q6; omega, rfl⟩, fun _ _ => rfl, fun h => absurd h (by decide)⟩)⟩, by show va_P (zD Z) vwCl (xw Z g gl tf) t.heap; rw [ht]; exact hP⟩, hS.F ht⟩) hS.2.2 dX6_refusalOf_51
      · skip
        refine lv_if_eq (tgt := 49) hx hb dX6_refusalOf_31 (by decide) (fun c_31 => ?_) (fun c_31 => absurd c_31 (by decide))
        refine lv_bipush (v := (-102)) hx hb dX6_refusalOf_49 (by decide) ?_
        exact W.iret (v := (-102)) hx hb hr (fun t ht hW => ⟨⟨(-102), (g, gl, tf), rfl, ⟨hF, hG, rfl, (by (try dsimp only); first | done | exact ⟨Or.inl ⟨fun q => by obtain ⟨q1, q2, q3, q4, q5, -⟩ := q; rw [← e_11] at q4 q5; rw [← e_4] at q3 q5; have q6 := dv100 q2; rw [← e_11, ← e_4] at q6; omega, rfl⟩, fun _ _ => rfl, fun h => absurd h (by decide)⟩)⟩, by show va_P (zD Z) vwCl (xw Z g gl tf) t.heap; rw [ht]; exact hP⟩, hS.F ht⟩) hS.2.2 dX6_refusalOf_51
  · skip
    refine lv_if_eq (tgt := 49) hx hb dX6_refusalOf_18 (by decide) (fun c_18 => ?_) (fun c_18 => absurd c_18 (by decide))
    refine lv_bipush (v := (-102)) hx hb dX6_refusalOf_49 (by decide) ?_
    exact W.iret (v := (-102)) hx hb hr (fun t ht hW => ⟨⟨(-102), (g, gl, tf), rfl, ⟨hF, hG, rfl, (by (try dsimp only); first | done | exact ⟨Or.inl ⟨fun q => by obtain ⟨q1, q2, q3, q4, q5, -⟩ := q; rw [← e_11] at q4 q5; rw [← e_4] at q3 q5; have q6 := dv100 q2; rw [← e_11, ← e_4] at q6; omega, rfl⟩, fun _ _ => rfl, fun h => absurd h (by decide)⟩)⟩, by show va_P (zD Z) vwCl (xw Z g gl tf) t.heap; rw [ht]; exact hP⟩, hS.F ht⟩) hS.2.2 dX6_refusalOf_51
set_option maxHeartbeats 4000000 in
set_option maxRecDepth 100000 in
theorem c_X6_tariff (l : Launch) (Z : ZT) (hZ : XG Z) (g : Nat → Nat → Int32) (gl : Nat → Nat → Int64) (tf : Nat → Nat → Int32) (x1 : Int32) (x2 : Int32) (hn7 : 0 ≤ (g 3 1).toInt ∧ (g 3 1).toInt ≤ 70) (hsz : 0 ≤ (g 11 4).toInt ∧ (g 11 4).toInt ≤ 6) (hsq : ∀ i : Nat, (i : Int) < (g 11 4).toInt → 0 ≤ (g 13 i).toInt ∧ (g 13 i).toInt ≤ 63) (hG : Gd Z tf) : Met l yX6_tariff (Cond.code yX6_tariff cX6_tariff 4 (some .int) :: wsL_law) ({ frames := 6, cells := 0, slots := 0, locals := 140 } : Room) (va_Pc [.ref (za Z 0), .int x1, .int x2] (XI Z g gl tf)) (va_Qi (fun (r : Int32) (u : (Nat → Nat → Int32) × (Nat → Nat → Int64) × (Nat → Nat → Int32)) => Fr [] g u.1 ∧ Gd Z u.2.2 ∧ tf = u.2.2 ∧ ((¬ (0 ≤ x1.toInt ∧ x1.toInt < (g 3 1).toInt) ∧ r = -101) ∨ ((0 ≤ x1.toInt ∧ x1.toInt < (g 3 1).toInt) ∧ ¬ (0 ≤ x2.toInt ∧ x2.toInt ≤ 6) ∧ r = -102) ∨ ((0 ≤ x1.toInt ∧ x1.toInt < (g 3 1).toInt) ∧ (0 ≤ x2.toInt ∧ x2.toInt ≤ 6) ∧ r = tvF (xr Z tf) (g 6) (g 10) (g 12) (g 13) (g 14) (g 11 4).toInt.toNat x1.toInt.toNat x2.toInt.toNat))) (fun u t => va_P (zD Z) vwCl (xw Z u.1 u.2.1 u.2.2) t.heap) (zA Z)) 0 0 (zA Z) := by
  refine Met.ofW (cc := cX6_tariff) (maxL := 4) (ret := (some .int)) (by decide) rfl ?_
  intro p e s m args below meth c s₁ B hml hv
  obtain ⟨rfl, hI⟩ := hv
  have hx := B.exec
  have hb := B.bytes
  have hr := B.returns
  have hT : ∀ w ∈ wsL_law, w.before ([.ref (za Z 0), .int x1, .int x2] : List Value).toArray s = true := fun w h => atoms_spec (ws := (Cond.code yX6_tariff cX6_tariff 4 (some .int) :: wsL_law)) B.pre w (List.mem_cons_of_mem _ h)
  have hown : s.vm.findClass RX6 = some m.cls := findClass_of_methodNamed B.named
  have hlocks := B.notSynchronized
  have hK := hI.2.1
  have hP := hI.1
  have hS : va_S (zA Z) s.heap s.heap [] := va_S.rf
  have hF : Fr [] g g := Fr.rf
  have hl := lv_entry ([.ref (za Z 0), .int x1, .int x2]) (n := 4) (Nat.le_of_ble_eq_true rfl)
  rw [lg_entry_eq]
  generalize (lg_sl ([.ref (za Z 0), .int x1, .int x2]) ++ List.replicate (4 - (lg_sl ([.ref (za Z 0), .int x1, .int x2])).length) Slot.unset).toArray = ls at hl ⊢
  have hl : lv_has ls 4 [(0, .ref (za Z 0)), (1, .int x1), (2, .int x2)] := hl
  refine lv_aload_n hx hb dX6_tariff_0 rfl (lv_at hl 0 rfl) ?_
  refine va_get (D := zD Z) (ci := 6) (v := .ref (za Z 3)) (C := RX6) (T := TX6) (N := 11) hx hb hT inlX6 hown hK hP 0 xw_0 rfl 1 (by decide) (hT _ (tr_1 _ (List.mem_of_getElem? (i := 19) rfl))) (fun _ h9 => h9) rfl dX6_tariff_1 ?_
  refine lv_iload_n hx hb dX6_tariff_4 rfl (lv_at hl 1 rfl) ?_
  refine rd_ci (va_runV (As := [.int x1]) (rest := []) ⟨hx, hb, hml, hown, hT⟩ (c_X4_hasNumber l Z hZ g gl tf x1 hG) (cwV 1 hT (tb_V (fun _ h => h) (tr_20 _ (List.mem_of_getElem? (i := 2) rfl)) (tr_20 _ (List.mem_of_getElem? (i := 3) rfl)) (tr_20 _ (List.mem_of_getElem? (i := 4) rfl)) (tr_1 _ (List.mem_of_getElem? (i := 18) rfl)) (tr_20 _ (List.mem_of_getElem? (i := 5) rfl))) rfl rfl rfl (by decide +kernel) ⟨Nat.le_of_ble_eq_true rfl, Nat.le_of_ble_eq_true rfl⟩) ⟨fun a U f mk q => ⟨q.1, XI.blind f mk a q.2⟩, va_recv hK hP (ci := 4) (q0 := 3) rfl xw_3, fun U hU hW => ⟨rfl, hI.at hS hP hU hW⟩⟩ rfl rfl hl.1 rfl (lv_room (Nat.le_of_ble_eq_true rfl)) dX6_tariff_5 ⟨Nat.zero_le _, Nat.zero_le _⟩) (fun r_5 hr_5 => ?_)
  rcases hr_5 with ⟨rfl, b_5⟩ | ⟨rfl, b_5⟩
  · skip
    refine lv_if_ne (tgt := 14) hx hb dX6_tariff_8 (by decide) (fun c_8 => ?_) (fun c_8 => absurd c_8 (by decide))
    refine lv_aload_n hx hb dX6_tariff_14 rfl (lv_at hl 0 rfl) ?_
    refine va_get (D := zD Z) (ci := 6) (v := .ref (za Z 3)) (C := RX6) (T := TX6) (N := 11) hx hb hT inlX6 hown hK hP 0 xw_0 rfl 1 (by decide) (hT _ (tr_1 _ (List.mem_of_getElem? (i := 19) rfl))) (fun _ h9 => h9) rfl dX6_tariff_15 ?_
    refine lv_iload_n hx hb dX6_tariff_18 rfl (lv_at hl 1 rfl) ?_
    refine rd_cr (va_runV (As := [.int x1]) (rest := []) ⟨hx, hb, hml, hown, hT⟩ (c_X4_at_3 l Z hZ g gl tf x1 hG) (cwV 1 hT (tb_V (fun _ h => h) (tr_20 _ (List.mem_of_getElem? (i := 6) rfl)) (tr_14 _ (List.mem_of_getElem? (i := 14) rfl)) (tr_14 _ (List.mem_of_getElem? (i := 15) rfl)) (tr_1 _ (List.mem_of_getElem? (i := 18) rfl)) (tr_14 _ (List.mem_of_getElem? (i := 16) rfl))) rfl rfl rfl (by decide +kernel) ⟨Nat.le_of_ble_eq_true rfl, Nat.le_of_ble_eq_true rfl⟩) ⟨fun a U f mk q => ⟨q.1, XI.blind f mk a q.2⟩, va_recv hK hP (ci := 4) (q0 := 3) rfl xw_3, fun U hU hW => ⟨rfl, hI.at hS hP hU hW⟩⟩ rfl rfl hl.1 rfl (lv_room (Nat.le_of_ble_eq_true rfl)) dX6_tariff_19 ⟨Nat.zero_le _, Nat.zero_le _⟩) (fun r_19 hr_19 => ?_)
    have e19 := hr_19.2 x1.toInt.toNat (by omega) (by omega)
    subst e19
    refine lv_astore_n (lv' := [(3, .ref (ro Z x1.toInt.toNat)), (0, .ref (za Z 0)), (1, .int x1), (2, .int x2)]) hx hb dX6_tariff_22 rfl hl (by decide) rfl (fun ls hl => ?_)
    refine lv_iload_n hx hb dX6_tariff_23 rfl (lv_at hl 3 rfl) ?_
    by_cases w_24_0 : x2 = 0
    · skip
      refine lv_tableIn (tgt := 68) (off := 44) hx hb dX6_tariff_24 (by rw [w_24_0]; decide) (by rw [w_24_0]; decide) (by rw [w_24_0]; decide) (by decide) ?_
      refine lv_aload_n hx hb dX6_tariff_68 rfl (lv_at hl 0 rfl) ?_
      obtain ⟨k_69, hk_69⟩ := xt_at (g := g) (gl := gl) (tf := tf) hr_19.1
      refine va_get (D := zD Z) (ci := 3) (v := .int (tf (ro Z x1.toInt.toNat) 0)) (C := RX3) (T := TX3) (N := 5) hx hb hT inlX3 hown hK hP k_69 hk_69 rfl 0 (by decide) (hT _ (tr_19 _ (List.mem_of_getElem? (i := 23) rfl))) (fun _ h9 => h9) rfl dX6_tariff_69 ?_
      exact W.iret (v := (tf (ro Z x1.toInt.toNat) 0)) hx hb hr (fun t ht hW => ⟨⟨(tf (ro Z x1.toInt.toNat) 0), (g, gl, tf), rfl, ⟨hF, hG, rfl, (by (try dsimp only); first | done | exact Or.inr (Or.inr ⟨b_5, by rw [w_24_0]; decide, by rw [w_24_0, show (0 : Int32).toInt.toNat = 0 from rfl, tv_0]; rfl⟩))⟩, by show va_P (zD Z) vwCl (xw Z g gl tf) t.heap; rw [ht]; exact hP⟩, hS.F ht⟩) hS.2.2 dX6_tariff_72
    by_cases w_24_1 : x2 = 1
    · skip
      refine lv_tableIn (tgt := 73) (off := 49) hx hb dX6_tariff_24 (by rw [w_24_1]; decide) (by rw [w_24_1]; decide) (by rw [w_24_1]; decide) (by decide) ?_
      refine lv_aload_n hx hb dX6_tariff_73 rfl (lv_at hl 0 rfl) ?_
      obtain ⟨k_74, hk_74⟩ := xt_at (g := g) (gl := gl) (tf := tf) hr_19.1
      refine va_get (D := zD Z) (ci := 3) (v := .int (tf (ro Z x1.toInt.toNat) 3)) (C := RX3) (T := TX3) (N := 5) hx hb hT inlX3 hown hK hP k_74 hk_74 rfl 3 (by decide) (hT _ (tr_20 _ (List.mem_of_getElem? (i := 0) rfl))) (fun _ h9 => h9) rfl dX6_tariff_74 ?_
      exact W.iret (v := (tf (ro Z x1.toInt.toNat) 3)) hx hb hr (fun t ht hW => ⟨⟨(tf (ro Z x1.toInt.toNat) 3), (g, gl, tf), rfl, ⟨hF, hG, rfl, (by (try dsimp only); first | done | exact Or.inr (Or.inr ⟨b_5, by rw [w_24_1]; decide, by rw [w_24_1, show (1 : Int32).toInt.toNat = 1 from rfl, tv_1]; rfl⟩))⟩, by show va_P (zD Z) vwCl (xw Z g gl tf) t.heap; rw [ht]; exact hP⟩, hS.F ht⟩) hS.2.2 dX6_tariff_77
    by_cases w_24_2 : x2 = 2
    · skip
      refine lv_tableIn (tgt := 78) (off := 54) hx hb dX6_tariff_24 (by rw [w_24_2]; decide) (by rw [w_24_2]; decide) (by rw [w_24_2]; decide) (by decide) ?_
      refine lv_aload_n hx hb dX6_tariff_78 rfl (lv_at hl 0 rfl) ?_
      obtain ⟨k_79, hk_79⟩ := xt_at (g := g) (gl := gl) (tf := tf) hr_19.1
      refine va_get (D := zD Z) (ci := 3) (v := .int (tf (ro Z x1.toInt.toNat) 4)) (C := RX3) (T := TX3) (N := 5) hx hb hT inlX3 hown hK hP k_79 hk_79 rfl 4 (by decide) (hT _ (tr_20 _ (List.mem_of_getElem? (i := 1) rfl))) (fun _ h9 => h9) rfl dX6_tariff_79 ?_
      exact W.iret (v := (tf (ro Z x1.toInt.toNat) 4)) hx hb hr (fun t ht hW => ⟨⟨(tf (ro Z x1.toInt.toNat) 4), (g, gl, tf), rfl, ⟨hF, hG, rfl, (by (try dsimp only); first | done | exact Or.inr (Or.inr ⟨b_5, by rw [w_24_2]; decide, by rw [w_24_2, show (2 : Int32).toInt.toNat = 2 from rfl, tv_2]; rfl⟩))⟩, by show va_P (zD Z) vwCl (xw Z g gl tf) t.heap; rw [ht]; exact hP⟩, hS.F ht⟩) hS.2.2 dX6_tariff_82
    by_cases w_24_3 : x2 = 3
    · skip
      refine lv_tableIn (tgt := 83) (off := 59) hx hb dX6_tariff_24 (by rw [w_24_3]; decide) (by rw [w_24_3]; decide) (by rw [w_24_3]; decide) (by decide) ?_
      refine lv_aload_n hx hb dX6_tariff_83 rfl (lv_at hl 1 rfl) ?_
      refine va_get (D := zD Z) (ci := 6) (v := .ref (za Z 5)) (C := RX6) (T := TX6) (N := 11) hx hb hT inlX6 hown hK hP 0 xw_0 rfl 2 (by decide) (hT _ (tr_1 _ (List.mem_of_getElem? (i := 23) rfl))) (fun _ h9 => h9) rfl dX6_tariff_84 ?_
      refine lv_iload_n hx hb dX6_tariff_87 rfl (lv_at hl 2 rfl) ?_
      refine lv_iload_n hx hb dX6_tariff_88 rfl (lv_at hl 2 rfl) ?_
      refine rd_ci (va_runV (As := [.int x1, .int x1]) (rest := []) ⟨hx, hb, hml, hown, hT⟩ (c_X5_nodesOf l Z hZ g gl tf x1 x1 hG) (cwV 2 hT (tb_V (fun _ h => h) (tr_20 _ (List.mem_of_getElem? (i := 7) rfl)) (tr_20 _ (List.mem_of_getElem? (i := 8) rfl)) (tr_20 _ (List.mem_of_getElem? (i := 9) rfl)) (tr_1 _ (List.mem_of_getElem? (i := 22) rfl)) (tr_20 _ (List.mem_of_getElem? (i := 10) rfl))) rfl rfl rfl (by decide +kernel) ⟨Nat.le_of_ble_eq_true rfl, Nat.le_of_ble_eq_true rfl⟩) ⟨fun a U f mk q => ⟨q.1, XI.blind f mk a q.2⟩, va_recv hK hP (ci := 5) (q0 := 5) rfl xw_5, fun U hU hW => ⟨rfl, hI.at hS hP hU hW⟩⟩ rfl rfl hl.1 rfl (lv_room (Nat.le_of_ble_eq_true rfl)) dX6_tariff_89 ⟨Nat.zero_le _, Nat.zero_le _⟩) (fun r_89 hr_89 => ?_)
      exact W.iret (v := r_89) hx hb hr (fun t ht hW => ⟨⟨r_89, (g, gl, tf), rfl, ⟨hF, hG, rfl, (by (try dsimp only); first | done | exact Or.inr (Or.inr ⟨b_5, by rw [w_24_3]; decide, by rw [w_24_3, show (3 : Int32).toInt.toNat = 3 from rfl, tv_3, show ((x1.toInt.toNat : Nat) : Int) = x1.toInt by omega]; exact nI_ek hr_89⟩))⟩, by show va_P (zD Z) vwCl (xw Z g gl tf) t.heap; rw [ht]; exact hP⟩, hS.F ht⟩) hS.2.2 dX6_tariff_92
    by_cases w_24_4 : x2 = 4
    · skip
      refine lv_tableIn (tgt := 93) (off := 69) hx hb dX6_tariff_24 (by rw [w_24_4]; decide) (by rw [w_24_4]; decide) (by rw [w_24_4]; decide) (by decide) ?_
      refine lv_aload_n hx hb dX6_tariff_93 rfl (lv_at hl 1 rfl) ?_
      refine lv_iload_n hx hb dX6_tariff_94 rfl (lv_at hl 2 rfl) ?_
      refine lv_iload_n hx hb dX6_tariff_95 rfl (lv_at hl 2 rfl) ?_
      refine rd_ci (va_runV (As := [.int x1, .int x1]) (rest := []) ⟨hx, hb, hml, hown, hT⟩ (c_X6_quantitiesOf l Z hZ g gl tf x1 x1 hG) (cwV 2 hT (tb_V (fun _ h => h) (tr_20 _ (List.mem_of_getElem? (i := 11) rfl)) (tr_20 _ (List.mem_of_getElem? (i := 12) rfl)) (tr_20 _ (List.mem_of_getElem? (i := 13) rfl)) (tr_1 _ (List.mem_of_getElem? (i := 2) rfl)) (tr_20 _ (List.mem_of_getElem? (i := 14) rfl))) rfl rfl rfl (by decide +kernel) ⟨Nat.le_of_ble_eq_true rfl, Nat.le_of_ble_eq_true rfl⟩) ⟨fun a U f mk q => ⟨q.1, XI.blind f mk a q.2⟩, va_recv hK hP (ci := 6) (q0 := 0) rfl xw_0, fun U hU hW => ⟨rfl, hI.at hS hP hU hW⟩⟩ rfl rfl hl.1 rfl (lv_room (Nat.le_of_ble_eq_true rfl)) dX6_tariff_96 ⟨Nat.zero_le _, Nat.zero_le _⟩) (fun r_96 hr_96 => ?_)
      exact W.iret (v := r_96) hx hb hr (fun t ht hW => ⟨⟨r_96, (g, gl, tf), rfl, ⟨hF, hG, rfl, (by (try dsimp only); first | done | exact Or.inr (Or.inr ⟨b_5, by rw [w_24_4]; decide, by rw [w_24_4, show (4 : Int32).toInt.toNat = 4 from rfl, tv_4, show ((x1.toInt.toNat : Nat) : Int) = x1.toInt by omega]; exact nI_ek hr_96⟩))⟩, by show va_P (zD Z) vwCl (xw Z g gl tf) t.heap; rw [ht]; exact hP⟩, hS.F ht⟩) hS.2.2 dX6_tariff_99
    by_cases w_24_5 : x2 = 5
    · skip
      refine lv_tableIn (tgt := 100) (off := 76) hx hb dX6_tariff_24 (by rw [w_24_5]; decide) (by rw [w_24_5]; decide) (by rw [w_24_5]; decide) (by decide) ?_
      refine lv_aload_n hx hb dX6_tariff_100 rfl (lv_at hl 1 rfl) ?_
      refine va_get (D := zD Z) (ci := 6) (v := .ref (za Z 11)) (C := RX6) (T := TX6) (N := 11) hx hb hT inlX6 hown hK hP 0 xw_0 rfl 3 (by decide) (hT _ (tr_2 _ (List.mem_of_getElem? (i := 3) rfl))) (fun _ h9 => h9) rfl dX6_tariff_101 ?_
      refine lv_iload_n hx hb dX6_tariff_104 rfl (lv_at hl 2 rfl) ?_
      refine lv_aload_n hx hb dX6_tariff_105 rfl (lv_at hl 0 rfl) ?_
      refine rd_ci (va_runV (As := [.int x1, .ref (ro Z x1.toInt.toNat)]) (rest := []) ⟨hx, hb, hml, hown, hT⟩ (c_X2_sortsOf l Z hZ g gl tf x1 (ro Z x1.toInt.toNat) hr_19.1 (by first | assumption | omega | decide) (by first | assumption | omega | decide) (by omega) rfl hG) (cwV 2 hT (tb_V (fun _ h => h) (tr_20 _ (List.mem_of_getElem? (i := 21) rfl)) (tr_20 _ (List.mem_of_getElem? (i := 22) rfl)) (tr_20 _ (List.mem_of_getElem? (i := 23) rfl)) (tr_2 _ (List.mem_of_getElem? (i := 2) rfl)) (tr_21 _ (List.mem_of_getElem? (i := 0) rfl))) rfl rfl rfl (by decide +kernel) ⟨Nat.le_of_ble_eq_true rfl, Nat.le_of_ble_eq_true rfl⟩) ⟨fun a U f mk q => ⟨q.1, XI.blind f mk a q.2⟩, va_recv hK hP (ci := 2) (q0 := 11) rfl xw_11, fun U hU hW => ⟨rfl, hI.at hS hP hU hW⟩⟩ rfl rfl hl.1 rfl (lv_room (Nat.le_of_ble_eq_true rfl)) dX6_tariff_106 ⟨Nat.zero_le _, Nat.zero_le _⟩) (fun r_106 hr_106 => ?_)
      exact W.iret (v := r_106) hx hb hr (fun t ht hW => ⟨⟨r_106, (g, gl, tf), rfl, ⟨hF, hG, rfl, (by (try dsimp only); first | done | exact Or.inr (Or.inr ⟨b_5, by rw [w_24_5]; decide, by rw [w_24_5, show (5 : Int32).toInt.toNat = 5 from rfl, tv_5]; exact hr_106⟩))⟩, by show va_P (zD Z) vwCl (xw Z g gl tf) t.heap; rw [ht]; exact hP⟩, hS.F ht⟩) hS.2.2 dX6_tariff_109
    by_cases w_24_6 : x2 = 6
    · skip
      refine lv_tableIn (tgt := 110) (off := 86) hx hb dX6_tariff_24 (by rw [w_24_6]; decide) (by rw [w_24_6]; decide) (by rw [w_24_6]; decide) (by decide) ?_
      refine lv_aload_n hx hb dX6_tariff_110 rfl (lv_at hl 1 rfl) ?_
      refine va_get (D := zD Z) (ci := 6) (v := .ref (za Z 11)) (C := RX6) (T := TX6) (N := 11) hx hb hT inlX6 hown hK hP 0 xw_0 rfl 3 (by decide) (hT _ (tr_2 _ (List.mem_of_getElem? (i := 3) rfl))) (fun _ h9 => h9) rfl dX6_tariff_111 ?_
      refine lv_iload_n hx hb dX6_tariff_114 rfl (lv_at hl 2 rfl) ?_
      refine lv_aload_n hx hb dX6_tariff_115 rfl (lv_at hl 0 rfl) ?_
      refine va_calli (va_runV (As := [.int x1, .ref (ro Z x1.toInt.toNat)]) (rest := []) ⟨hx, hb, hml, hown, hT⟩ (c_X2_nextToAsk l Z hZ g gl tf x1 (ro Z x1.toInt.toNat) hr_19.1 (by first | assumption | omega | decide) (by first | assumption | omega | decide) (by omega) rfl hG) (cwV 2 hT (tb_V (fun _ h => h) (tr_21 _ (List.mem_of_getElem? (i := 10) rfl)) (tr_21 _ (List.mem_of_getElem? (i := 11) rfl)) (tr_21 _ (List.mem_of_getElem? (i := 12) rfl)) (tr_2 _ (List.mem_of_getElem? (i := 2) rfl)) (tr_21 _ (List.mem_of_getElem? (i := 13) rfl))) rfl rfl rfl (by decide +kernel) ⟨Nat.le_of_ble_eq_true rfl, Nat.le_of_ble_eq_true rfl⟩) ⟨fun a U f mk q => ⟨q.1, XI.blind f mk a q.2⟩, va_recv hK hP (ci := 2) (q0 := 11) rfl xw_11, fun U hU hW => ⟨rfl, hI.at hS hP hU hW⟩⟩ rfl rfl hl.1 rfl (lv_room (Nat.le_of_ble_eq_true rfl)) dX6_tariff_116 ⟨Nat.zero_le _, Nat.zero_le _⟩) hS (fun q _ h => h) (fun q h => h) (fun r_116 u_116 t_116 H locs ht_116 _ hw_116 hB_116 _ _ hS => ?_)
      obtain ⟨g_116, gl_116, tf_116⟩ := u_116
      have hP : va_P (zD Z) vwCl (xw Z g_116 gl_116 tf_116) H := ht_116 ▸ hB_116
      obtain ⟨hf_116, hG, et_116, hr_116⟩ := hw_116
      have hF := hF.tr hf_116 (by decide)
      (try dsimp only at hf_116 hG hF et_116 hr_116)
      subst et_116
      exact W.iret (v := r_116) hx hb hr (fun t ht hW => ⟨⟨r_116, (g_116, gl_116, tf), rfl, ⟨hF, hG, rfl, (by (try dsimp only); first | done | exact Or.inr (Or.inr ⟨b_5, by rw [w_24_6]; decide, by rw [w_24_6, show (6 : Int32).toInt.toNat = 6 from rfl, tv_6]; exact hr_116⟩))⟩, by show va_P (zD Z) vwCl (xw Z g_116 gl_116 tf) t.heap; rw [ht]; exact hP⟩, hS.F ht⟩) hS.2.2 dX6_tariff_119
    have n_24_0 := ti_nek rfl tk_0 w_24_0
    have n_24_1 := ti_nek rfl tk_1 w_24_1
    have n_24_2 := ti_nek rfl tk_2 w_24_2
    have n_24_3 := ti_nek rfl tk_3 w_24_3
    have n_24_4 := ti_nek rfl tk_4 w_24_4
    have n_24_5 := ti_nek rfl tk_5 w_24_5
    have n_24_6 := ti_nek rfl tk_6 w_24_6
    refine lv_tableOut (tgt := 120) hx hb dX6_tariff_24 (by omega) (by decide) ?_
    refine lv_bipush (v := (-102)) hx hb dX6_tariff_120 (by decide) ?_
    exact W.iret (v := (-102)) hx hb hr (fun t ht hW => ⟨⟨(-102), (g, gl, tf), rfl, ⟨hF, hG, rfl, (by (try dsimp only); first | done | exact Or.inr (Or.inl ⟨b_5, by omega, rfl⟩))⟩, by show va_P (zD Z) vwCl (xw Z g gl tf) t.heap; rw [ht]; exact hP⟩, hS.F ht⟩) hS.2.2 dX6_tariff_122
  · skip
    refine lv_if_ne (tgt := 14) hx hb dX6_tariff_8 (by decide) (fun c_8 => absurd c_8 (by decide)) (fun c_8 => ?_)
    refine lv_bipush (v := (-101)) hx hb dX6_tariff_11 (by decide) ?_
    exact W.iret (v := (-101)) hx hb hr (fun t ht hW => ⟨⟨(-101), (g, gl, tf), rfl, ⟨hF, hG, rfl, (by (try dsimp only); first | done | exact Or.inl ⟨b_5, rfl⟩)⟩, by show va_P (zD Z) vwCl (xw Z g gl tf) t.heap; rw [ht]; exact hP⟩, hS.F ht⟩) hS.2.2 dX6_tariff_13
set_option maxHeartbeats 4000000 in
set_option maxRecDepth 100000 in
theorem c_X6_as (l : Launch) (Z : ZT) (hZ : XG Z) (g : Nat → Nat → Int32) (gl : Nat → Nat → Int64) (tf : Nat → Nat → Int32) (x1 : Int32) (x2 : Int32) (hn3 : (g 3 1).toInt ≤ 70) (hG : Gd Z tf) : Met l yX6_as (Cond.code yX6_as cX6_as 3 (some .int) :: wsL_law) ({ frames := 1, cells := 0, slots := 0, locals := 21 } : Room) (va_Pc [.ref (za Z 0), .int x1, .int x2] (XI Z g gl tf)) (rd_Qi (fun r => ((¬ (0 ≤ x1.toInt ∧ x1.toInt < (g 3 1).toInt) ∧ r = -101) ∨ ((0 ≤ x1.toInt ∧ x1.toInt < (g 3 1).toInt) ∧ ¬ (0 ≤ x2.toInt ∧ x2.toInt ≤ 4) ∧ r = -102) ∨ ((0 ≤ x1.toInt ∧ x1.toInt < (g 3 1).toInt) ∧ (0 ≤ x2.toInt ∧ x2.toInt ≤ 4) ∧ (x2.toInt = 0 ∨ x2.toInt = (tf (ro Z x1.toInt.toNat) 0).toInt ∨ (x2.toInt = 3 ∧ (tf (ro Z x1.toInt.toNat) 0).toInt = 4)) ∧ r = x1) ∨ ((0 ≤ x1.toInt ∧ x1.toInt < (g 3 1).toInt) ∧ (0 ≤ x2.toInt ∧ x2.toInt ≤ 4) ∧ ¬ (x2.toInt = 0 ∨ x2.toInt = (tf (ro Z x1.toInt.toNat) 0).toInt ∨ (x2.toInt = 3 ∧ (tf (ro Z x1.toInt.toNat) 0).toInt = 4)) ∧ r = -1)))) 0 0 (fun _ => False) := by
  refine Met.ofW (cc := cX6_as) (maxL := 3) (ret := (some .int)) (by decide) rfl ?_
  intro p e s m args below meth c s₁ B hml hv
  obtain ⟨rfl, hI⟩ := hv
  have hx := B.exec
  have hb := B.bytes
  have hr := B.returns
  have hT : ∀ w ∈ wsL_law, w.before ([.ref (za Z 0), .int x1, .int x2] : List Value).toArray s = true := fun w h => atoms_spec (ws := (Cond.code yX6_as cX6_as 3 (some .int) :: wsL_law)) B.pre w (List.mem_cons_of_mem _ h)
  have hown : s.vm.findClass RX6 = some m.cls := findClass_of_methodNamed B.named
  have hlocks := B.notSynchronized
  have hK := hI.2.1
  have hP := hI.1
  have hS : va_S (zA Z) s.heap s.heap [] := va_S.rf
  have hl := lv_entry ([.ref (za Z 0), .int x1, .int x2]) (n := 3) (Nat.le_of_ble_eq_true rfl)
  rw [lg_entry_eq]
  generalize (lg_sl ([.ref (za Z 0), .int x1, .int x2]) ++ List.replicate (3 - (lg_sl ([.ref (za Z 0), .int x1, .int x2])).length) Slot.unset).toArray = ls at hl ⊢
  have hl : lv_has ls 3 [(0, .ref (za Z 0)), (1, .int x1), (2, .int x2)] := hl
  refine lv_aload_n hx hb dX6_as_0 rfl (lv_at hl 0 rfl) ?_
  refine va_get (D := zD Z) (ci := 6) (v := .ref (za Z 3)) (C := RX6) (T := TX6) (N := 11) hx hb hT inlX6 hown hK hP 0 xw_0 rfl 1 (by decide) (hT _ (tr_1 _ (List.mem_of_getElem? (i := 19) rfl))) (fun _ h9 => h9) rfl dX6_as_1 ?_
  refine lv_iload_n hx hb dX6_as_4 rfl (lv_at hl 1 rfl) ?_
  refine rd_ci (va_runV (As := [.int x1]) (rest := []) ⟨hx, hb, hml, hown, hT⟩ (c_X4_hasNumber l Z hZ g gl tf x1 hG) (cwV 1 hT (tb_V (fun _ h => h) (tr_20 _ (List.mem_of_getElem? (i := 2) rfl)) (tr_20 _ (List.mem_of_getElem? (i := 3) rfl)) (tr_20 _ (List.mem_of_getElem? (i := 4) rfl)) (tr_1 _ (List.mem_of_getElem? (i := 18) rfl)) (tr_20 _ (List.mem_of_getElem? (i := 5) rfl))) rfl rfl rfl (by decide +kernel) ⟨Nat.le_of_ble_eq_true rfl, Nat.le_of_ble_eq_true rfl⟩) ⟨fun a U f mk q => ⟨q.1, XI.blind f mk a q.2⟩, va_recv hK hP (ci := 4) (q0 := 3) rfl xw_3, fun U hU hW => ⟨rfl, hI.at hS hP hU hW⟩⟩ rfl rfl hl.1 rfl (lv_room (Nat.le_of_ble_eq_true rfl)) dX6_as_5 ⟨Nat.zero_le _, Nat.zero_le _⟩) (fun r_5 hr_5 => ?_)
  rcases hr_5 with ⟨rfl, b_5⟩ | ⟨rfl, b_5⟩
  · skip
    refine lv_if_ne (tgt := 14) hx hb dX6_as_8 (by decide) (fun c_8 => ?_) (fun c_8 => absurd c_8 (by decide))
    refine lv_iload_n hx hb dX6_as_14 rfl (lv_at hl 2 rfl) ?_
    refine rd_ci (va_runS (As := [.int x2]) (rest := []) ⟨hx, hb, hml, hown, hT⟩ (c_X6_isKind l x2) (va_cwS 1 hT (tb_S (fun _ h => h) (tr_23 _ (List.mem_of_getElem? (i := 22) rfl)) (tr_23 _ (List.mem_of_getElem? (i := 23) rfl)) (tr_1 _ (List.mem_of_getElem? (i := 2) rfl)) (tr_24 _ (List.mem_of_getElem? (i := 0) rfl))) rfl rfl rfl (by decide +kernel) ⟨Nat.le_of_ble_eq_true rfl, Nat.le_of_ble_eq_true rfl⟩) ⟨fun _ _ _ _ q => q, fun U hU hW => ⟨rfl, trivial⟩⟩ rfl rfl hl.1 rfl (lv_room (Nat.le_of_ble_eq_true rfl)) dX6_as_15 ⟨Nat.zero_le _, Nat.zero_le _⟩) (fun r_15 hr_15 => ?_)
    rcases hr_15 with ⟨rfl, b_15⟩ | ⟨rfl, b_15⟩
    · skip
      refine lv_if_ne (tgt := 24) hx hb dX6_as_18 (by decide) (fun c_18 => ?_) (fun c_18 => absurd c_18 (by decide))
      refine lv_aload_n hx hb dX6_as_24 rfl (lv_at hl 0 rfl) ?_
      refine va_get (D := zD Z) (ci := 6) (v := .ref (za Z 3)) (C := RX6) (T := TX6) (N := 11) hx hb hT inlX6 hown hK hP 0 xw_0 rfl 1 (by decide) (hT _ (tr_1 _ (List.mem_of_getElem? (i := 19) rfl))) (fun _ h9 => h9) rfl dX6_as_25 ?_
      refine lv_iload_n hx hb dX6_as_28 rfl (lv_at hl 1 rfl) ?_
      refine rd_cr (va_runV (As := [.int x1]) (rest := []) ⟨hx, hb, hml, hown, hT⟩ (c_X4_at_3 l Z hZ g gl tf x1 hG) (cwV 1 hT (tb_V (fun _ h => h) (tr_20 _ (List.mem_of_getElem? (i := 6) rfl)) (tr_14 _ (List.mem_of_getElem? (i := 14) rfl)) (tr_14 _ (List.mem_of_getElem? (i := 15) rfl)) (tr_1 _ (List.mem_of_getElem? (i := 18) rfl)) (tr_14 _ (List.mem_of_getElem? (i := 16) rfl))) rfl rfl rfl (by decide +kernel) ⟨Nat.le_of_ble_eq_true rfl, Nat.le_of_ble_eq_true rfl⟩) ⟨fun a U f mk q => ⟨q.1, XI.blind f mk a q.2⟩, va_recv hK hP (ci := 4) (q0 := 3) rfl xw_3, fun U hU hW => ⟨rfl, hI.at hS hP hU hW⟩⟩ rfl rfl hl.1 rfl (lv_room (Nat.le_of_ble_eq_true rfl)) dX6_as_29 ⟨Nat.zero_le _, Nat.zero_le _⟩) (fun r_29 hr_29 => ?_)
      have e29 := hr_29.2 x1.toInt.toNat (by omega) (by omega)
      subst e29
      refine lv_iload_n hx hb dX6_as_32 rfl (lv_at hl 2 rfl) ?_
      obtain ⟨k_33, hk_33⟩ := xt_at (g := g) (gl := gl) (tf := tf) hr_29.1
      refine rd_ci (va_runV (As := [.int x2]) (rest := []) ⟨hx, hb, hml, hown, hT⟩ (c_X3_isOf l Z hZ g gl tf (ro Z x1.toInt.toNat) hr_29.1 x2 hG) (cwV 1 hT (tb_V (fun _ h => h) (tr_24 _ (List.mem_of_getElem? (i := 1) rfl)) (tr_24 _ (List.mem_of_getElem? (i := 2) rfl)) (tr_24 _ (List.mem_of_getElem? (i := 3) rfl)) (tr_2 _ (List.mem_of_getElem? (i := 10) rfl)) (tr_24 _ (List.mem_of_getElem? (i := 4) rfl))) rfl rfl rfl (by decide +kernel) ⟨Nat.le_of_ble_eq_true rfl, Nat.le_of_ble_eq_true rfl⟩) ⟨fun a U f mk q => ⟨q.1, XI.blind f mk a q.2⟩, va_recv hK hP (ci := 3) (q0 := k_33) rfl hk_33, fun U hU hW => ⟨rfl, hI.at hS hP hU hW⟩⟩ rfl rfl hl.1 rfl (lv_room (Nat.le_of_ble_eq_true rfl)) dX6_as_33 ⟨Nat.zero_le _, Nat.zero_le _⟩) (fun r_33 hr_33 => ?_)
      rcases hr_33 with ⟨rfl, b_33⟩ | ⟨rfl, b_33⟩
      · skip
        refine lv_if_eq (tgt := 43) hx hb dX6_as_36 (by decide) (fun c_36 => absurd c_36 (by decide)) (fun c_36 => ?_)
        refine lv_iload_n hx hb dX6_as_39 rfl (lv_at hl 1 rfl) ?_
        refine lv_goto (tgt := 44) hx hb dX6_as_40 (by decide) ?_
        exact W.iret (v := x1) hx hb hr (fun t ht hW => ⟨x1, rfl, Or.inr (Or.inr (Or.inl ⟨b_5, b_15, b_33, rfl⟩)), ht⟩) (fun q hq => by cases hq) dX6_as_44
      · skip
        refine lv_if_eq (tgt := 43) hx hb dX6_as_36 (by decide) (fun c_36 => ?_) (fun c_36 => absurd c_36 (by decide))
        refine lv_iconst (v := (-1)) hx hb dX6_as_43 (by decide) ?_
        exact W.iret (v := (-1)) hx hb hr (fun t ht hW => ⟨(-1), rfl, Or.inr (Or.inr (Or.inr ⟨b_5, b_15, b_33, rfl⟩)), ht⟩) (fun q hq => by cases hq) dX6_as_44
    · skip
      refine lv_if_ne (tgt := 24) hx hb dX6_as_18 (by decide) (fun c_18 => absurd c_18 (by decide)) (fun c_18 => ?_)
      refine lv_bipush (v := (-102)) hx hb dX6_as_21 (by decide) ?_
      exact W.iret (v := (-102)) hx hb hr (fun t ht hW => ⟨(-102), rfl, Or.inr (Or.inl ⟨b_5, b_15, rfl⟩), ht⟩) (fun q hq => by cases hq) dX6_as_23
  · skip
    refine lv_if_ne (tgt := 14) hx hb dX6_as_8 (by decide) (fun c_8 => absurd c_8 (by decide)) (fun c_8 => ?_)
    refine lv_bipush (v := (-101)) hx hb dX6_as_11 (by decide) ?_
    exact W.iret (v := (-101)) hx hb hr (fun t ht hW => ⟨(-101), rfl, Or.inl ⟨b_5, rfl⟩, ht⟩) (fun q hq => by cases hq) dX6_as_13
set_option maxHeartbeats 4000000 in
set_option maxRecDepth 100000 in
theorem c_X6_price (l : Launch) (Z : ZT) (hZ : XG Z) (g : Nat → Nat → Int32) (gl : Nat → Nat → Int64) (tf : Nat → Nat → Int32) (x1 : Int32) (x2 : Int32) (hn3 : (g 3 1).toInt ≤ 70) (hG : Gd Z tf) : Met l yX6_price (Cond.code yX6_price cX6_price 4 (some .long) :: wsL_law) ({ frames := 3, cells := 0, slots := 0, locals := 64 } : Room) (va_Pc [.ref (za Z 0), .int x1, .int x2] (XI Z g gl tf)) (rd_Ql (fun r => ((¬ ((0 ≤ x1.toInt ∧ x1.toInt < (g 3 1).toInt) ∧ (0 ≤ x2.toInt ∧ x2.toInt ≤ 63)) ∧ r = -101) ∨ (((0 ≤ x1.toInt ∧ x1.toInt < (g 3 1).toInt) ∧ (0 ≤ x2.toInt ∧ x2.toInt ≤ 63)) ∧ ¬ ((tf (ro Z x1.toInt.toNat) 3).toInt ≤ x2.toInt ∧ x2.toInt ≤ (tf (ro Z x1.toInt.toNat) 4).toInt) ∧ r = -102) ∨ (((0 ≤ x1.toInt ∧ x1.toInt < (g 3 1).toInt) ∧ (0 ≤ x2.toInt ∧ x2.toInt ≤ 63)) ∧ ((tf (ro Z x1.toInt.toNat) 3).toInt ≤ x2.toInt ∧ x2.toInt ≤ (tf (ro Z x1.toInt.toNat) 4).toInt) ∧ r = 3000000000 + mpr (xr Z tf) x1.toInt.toNat x2)))) 0 0 (fun _ => False) := by
  refine Met.ofW (cc := cX6_price) (maxL := 4) (ret := (some .long)) (by decide) rfl ?_
  intro p e s m args below meth c s₁ B hml hv
  obtain ⟨rfl, hI⟩ := hv
  have hx := B.exec
  have hb := B.bytes
  have hr := B.returns
  have hT : ∀ w ∈ wsL_law, w.before ([.ref (za Z 0), .int x1, .int x2] : List Value).toArray s = true := fun w h => atoms_spec (ws := (Cond.code yX6_price cX6_price 4 (some .long) :: wsL_law)) B.pre w (List.mem_cons_of_mem _ h)
  have hown : s.vm.findClass RX6 = some m.cls := findClass_of_methodNamed B.named
  have hlocks := B.notSynchronized
  have hK := hI.2.1
  have hP := hI.1
  have hS : va_S (zA Z) s.heap s.heap [] := va_S.rf
  have hl := lv_entry ([.ref (za Z 0), .int x1, .int x2]) (n := 4) (Nat.le_of_ble_eq_true rfl)
  rw [lg_entry_eq]
  generalize (lg_sl ([.ref (za Z 0), .int x1, .int x2]) ++ List.replicate (4 - (lg_sl ([.ref (za Z 0), .int x1, .int x2])).length) Slot.unset).toArray = ls at hl ⊢
  have hl : lv_has ls 4 [(0, .ref (za Z 0)), (1, .int x1), (2, .int x2)] := hl
  refine lv_aload_n hx hb dX6_price_0 rfl (lv_at hl 0 rfl) ?_
  refine va_get (D := zD Z) (ci := 6) (v := .ref (za Z 3)) (C := RX6) (T := TX6) (N := 11) hx hb hT inlX6 hown hK hP 0 xw_0 rfl 1 (by decide) (hT _ (tr_1 _ (List.mem_of_getElem? (i := 19) rfl))) (fun _ h9 => h9) rfl dX6_price_1 ?_
  refine lv_iload_n hx hb dX6_price_4 rfl (lv_at hl 1 rfl) ?_
  refine rd_ci (va_runV (As := [.int x1]) (rest := []) ⟨hx, hb, hml, hown, hT⟩ (c_X4_hasNumber l Z hZ g gl tf x1 hG) (cwV 1 hT (tb_V (fun _ h => h) (tr_20 _ (List.mem_of_getElem? (i := 2) rfl)) (tr_20 _ (List.mem_of_getElem? (i := 3) rfl)) (tr_20 _ (List.mem_of_getElem? (i := 4) rfl)) (tr_1 _ (List.mem_of_getElem? (i := 18) rfl)) (tr_20 _ (List.mem_of_getElem? (i := 5) rfl))) rfl rfl rfl (by decide +kernel) ⟨Nat.le_of_ble_eq_true rfl, Nat.le_of_ble_eq_true rfl⟩) ⟨fun a U f mk q => ⟨q.1, XI.blind f mk a q.2⟩, va_recv hK hP (ci := 4) (q0 := 3) rfl xw_3, fun U hU hW => ⟨rfl, hI.at hS hP hU hW⟩⟩ rfl rfl hl.1 rfl (lv_room (Nat.le_of_ble_eq_true rfl)) dX6_price_5 ⟨Nat.zero_le _, Nat.zero_le _⟩) (fun r_5 hr_5 => ?_)
  rcases hr_5 with ⟨rfl, b_5⟩ | ⟨rfl, b_5⟩
  · skip
    refine lv_if_eq (tgt := 18) hx hb dX6_price_8 (by decide) (fun c_8 => absurd c_8 (by decide)) (fun c_8 => ?_)
    refine lv_iload_n hx hb dX6_price_11 rfl (lv_at hl 2 rfl) ?_
    refine rd_ci (va_runS (As := [.int x2]) (rest := []) ⟨hx, hb, hml, hown, hT⟩ (c_X6_isQuantity l x2) (va_cwS 1 hT (tb_S (fun _ h => h) (tr_24 _ (List.mem_of_getElem? (i := 16) rfl)) (tr_20 _ (List.mem_of_getElem? (i := 19) rfl)) (tr_1 _ (List.mem_of_getElem? (i := 2) rfl)) (tr_20 _ (List.mem_of_getElem? (i := 20) rfl))) rfl rfl rfl (by decide +kernel) ⟨Nat.le_of_ble_eq_true rfl, Nat.le_of_ble_eq_true rfl⟩) ⟨fun _ _ _ _ q => q, fun U hU hW => ⟨rfl, trivial⟩⟩ rfl rfl hl.1 rfl (lv_room (Nat.le_of_ble_eq_true rfl)) dX6_price_12 ⟨Nat.zero_le _, Nat.zero_le _⟩) (fun r_12 hr_12 => ?_)
    rcases hr_12 with ⟨rfl, b_12⟩ | ⟨rfl, b_12⟩
    · skip
      refine lv_if_ne (tgt := 22) hx hb dX6_price_15 (by decide) (fun c_15 => ?_) (fun c_15 => absurd c_15 (by decide))
      refine lv_aload_n hx hb dX6_price_22 rfl (lv_at hl 0 rfl) ?_
      refine va_get (D := zD Z) (ci := 6) (v := .ref (za Z 3)) (C := RX6) (T := TX6) (N := 11) hx hb hT inlX6 hown hK hP 0 xw_0 rfl 1 (by decide) (hT _ (tr_1 _ (List.mem_of_getElem? (i := 19) rfl))) (fun _ h9 => h9) rfl dX6_price_23 ?_
      refine lv_iload_n hx hb dX6_price_26 rfl (lv_at hl 1 rfl) ?_
      refine rd_cr (va_runV (As := [.int x1]) (rest := []) ⟨hx, hb, hml, hown, hT⟩ (c_X4_at_3 l Z hZ g gl tf x1 hG) (cwV 1 hT (tb_V (fun _ h => h) (tr_20 _ (List.mem_of_getElem? (i := 6) rfl)) (tr_14 _ (List.mem_of_getElem? (i := 14) rfl)) (tr_14 _ (List.mem_of_getElem? (i := 15) rfl)) (tr_1 _ (List.mem_of_getElem? (i := 18) rfl)) (tr_14 _ (List.mem_of_getElem? (i := 16) rfl))) rfl rfl rfl (by decide +kernel) ⟨Nat.le_of_ble_eq_true rfl, Nat.le_of_ble_eq_true rfl⟩) ⟨fun a U f mk q => ⟨q.1, XI.blind f mk a q.2⟩, va_recv hK hP (ci := 4) (q0 := 3) rfl xw_3, fun U hU hW => ⟨rfl, hI.at hS hP hU hW⟩⟩ rfl rfl hl.1 rfl (lv_room (Nat.le_of_ble_eq_true rfl)) dX6_price_27 ⟨Nat.zero_le _, Nat.zero_le _⟩) (fun r_27 hr_27 => ?_)
      have e27 := hr_27.2 x1.toInt.toNat (by omega) (by omega)
      subst e27
      refine lv_astore_n (lv' := [(3, .ref (ro Z x1.toInt.toNat)), (0, .ref (za Z 0)), (1, .int x1), (2, .int x2)]) hx hb dX6_price_30 rfl hl (by decide) rfl (fun ls hl => ?_)
      refine lv_aload_n hx hb dX6_price_31 rfl (lv_at hl 0 rfl) ?_
      refine lv_iload_n hx hb dX6_price_32 rfl (lv_at hl 3 rfl) ?_
      obtain ⟨k_33, hk_33⟩ := xt_at (g := g) (gl := gl) (tf := tf) hr_27.1
      refine rd_ci (va_runV (As := [.int x2]) (rest := []) ⟨hx, hb, hml, hown, hT⟩ (c_X3_spans l Z hZ g gl tf (ro Z x1.toInt.toNat) hr_27.1 x2 hG) (cwV 1 hT (tb_V (fun _ h => h) (tr_24 _ (List.mem_of_getElem? (i := 17) rfl)) (tr_17 _ (List.mem_of_getElem? (i := 7) rfl)) (tr_17 _ (List.mem_of_getElem? (i := 8) rfl)) (tr_2 _ (List.mem_of_getElem? (i := 10) rfl)) (tr_17 _ (List.mem_of_getElem? (i := 9) rfl))) rfl rfl rfl (by decide +kernel) ⟨Nat.le_of_ble_eq_true rfl, Nat.le_of_ble_eq_true rfl⟩) ⟨fun a U f mk q => ⟨q.1, XI.blind f mk a q.2⟩, va_recv hK hP (ci := 3) (q0 := k_33) rfl hk_33, fun U hU hW => ⟨rfl, hI.at hS hP hU hW⟩⟩ rfl rfl hl.1 rfl (lv_room (Nat.le_of_ble_eq_true rfl)) dX6_price_33 ⟨Nat.zero_le _, Nat.zero_le _⟩) (fun r_33 hr_33 => ?_)
      rcases hr_33 with ⟨rfl, b_33⟩ | ⟨rfl, b_33⟩
      · skip
        refine lv_if_eq (tgt := 51) hx hb dX6_price_36 (by decide) (fun c_36 => absurd c_36 (by decide)) (fun c_36 => ?_)
        refine lv_ldc2 (v := 3000000000) hx hb hown (hT _ (tr_24 _ (List.mem_of_getElem? (i := 14) rfl))) dX6_price_39 ?_
        refine lv_aload_n hx hb dX6_price_42 rfl (lv_at hl 0 rfl) ?_
        refine lv_iload_n hx hb dX6_price_43 rfl (lv_at hl 3 rfl) ?_
        obtain ⟨k_44, hk_44⟩ := xt_at (g := g) (gl := gl) (tf := tf) hr_27.1
        refine rd_cl (va_runV (As := [.int x2]) (rest := [.long 3000000000]) ⟨hx, hb, hml, hown, hT⟩ (c_X3_priceFor l Z hZ g gl tf (ro Z x1.toInt.toNat) hr_27.1 x2 hG) (cwV 1 hT (tb_V (fun _ h => h) (tr_24 _ (List.mem_of_getElem? (i := 18) rfl)) (tr_16 _ (List.mem_of_getElem? (i := 6) rfl)) (tr_16 _ (List.mem_of_getElem? (i := 7) rfl)) (tr_2 _ (List.mem_of_getElem? (i := 10) rfl)) (tr_16 _ (List.mem_of_getElem? (i := 8) rfl))) rfl rfl rfl (by decide +kernel) ⟨Nat.le_of_ble_eq_true rfl, Nat.le_of_ble_eq_true rfl⟩) ⟨fun a U f mk q => ⟨q.1, XI.blind f mk a q.2⟩, va_recv hK hP (ci := 3) (q0 := k_44) rfl hk_44, fun U hU hW => ⟨rfl, hI.at hS hP hU hW⟩⟩ rfl rfl hl.1 rfl (lv_room (Nat.le_of_ble_eq_true rfl)) dX6_price_44 ⟨Nat.zero_le _, Nat.zero_le _⟩) (fun r_44 hr_44 => ?_)
        refine lv_ladd hx hb dX6_price_47 ?_
        refine lv_topl (fun v_47 e_47 => ?_)
        refine lv_goto (tgt := 54) hx hb dX6_price_48 (by decide) ?_
        exact W.lret (v := v_47) hx hb hr (fun t ht hW => ⟨v_47, rfl, Or.inr (Or.inr ⟨by omega, b_33, by rw [e_47, hr_44 (by omega)]; rfl⟩), ht⟩) (fun q hq => by cases hq) dX6_price_54
      · skip
        refine lv_if_eq (tgt := 51) hx hb dX6_price_36 (by decide) (fun c_36 => ?_) (fun c_36 => absurd c_36 (by decide))
        refine lv_ldc2 (v := (-102)) hx hb hown (hT _ (tr_24 _ (List.mem_of_getElem? (i := 15) rfl))) dX6_price_51 ?_
        exact W.lret (v := (-102)) hx hb hr (fun t ht hW => ⟨(-102), rfl, Or.inr (Or.inl ⟨by omega, b_33, rfl⟩), ht⟩) (fun q hq => by cases hq) dX6_price_54
    · skip
      refine lv_if_ne (tgt := 22) hx hb dX6_price_15 (by decide) (fun c_15 => absurd c_15 (by decide)) (fun c_15 => ?_)
      refine lv_ldc2 (v := (-101)) hx hb hown (hT _ (tr_24 _ (List.mem_of_getElem? (i := 13) rfl))) dX6_price_18 ?_
      exact W.lret (v := (-101)) hx hb hr (fun t ht hW => ⟨(-101), rfl, Or.inl ⟨by omega, rfl⟩, ht⟩) (fun q hq => by cases hq) dX6_price_21
  · skip
    refine lv_if_eq (tgt := 18) hx hb dX6_price_8 (by decide) (fun c_8 => ?_) (fun c_8 => absurd c_8 (by decide))
    refine lv_ldc2 (v := (-101)) hx hb hown (hT _ (tr_24 _ (List.mem_of_getElem? (i := 13) rfl))) dX6_price_18 ?_
    exact W.lret (v := (-101)) hx hb hr (fun t ht hW => ⟨(-101), rfl, Or.inl ⟨by omega, rfl⟩, ht⟩) (fun q hq => by cases hq) dX6_price_21
set_option maxHeartbeats 4000000 in
set_option maxRecDepth 100000 in
theorem c_X6_node (l : Launch) (Z : ZT) (hZ : XG Z) (g : Nat → Nat → Int32) (gl : Nat → Nat → Int64) (tf : Nat → Nat → Int32) (x1 : Int32) (x2 : Int32) (hG : Gd Z tf) : Met l yX6_node (Cond.code yX6_node cX6_node 3 (some .int) :: wsL_law) ({ frames := 3, cells := 0, slots := 0, locals := 62 } : Room) (va_Pc [.ref (za Z 0), .int x1, .int x2] (XI Z g gl tf)) (rd_Qi (fun r => True)) 0 0 (fun _ => False) := by
  refine Met.ofW (cc := cX6_node) (maxL := 3) (ret := (some .int)) (by decide) rfl ?_
  intro p e s m args below meth c s₁ B hml hv
  obtain ⟨rfl, hI⟩ := hv
  have hx := B.exec
  have hb := B.bytes
  have hr := B.returns
  have hT : ∀ w ∈ wsL_law, w.before ([.ref (za Z 0), .int x1, .int x2] : List Value).toArray s = true := fun w h => atoms_spec (ws := (Cond.code yX6_node cX6_node 3 (some .int) :: wsL_law)) B.pre w (List.mem_cons_of_mem _ h)
  have hown : s.vm.findClass RX6 = some m.cls := findClass_of_methodNamed B.named
  have hlocks := B.notSynchronized
  have hK := hI.2.1
  have hP := hI.1
  have hS : va_S (zA Z) s.heap s.heap [] := va_S.rf
  have hl := lv_entry ([.ref (za Z 0), .int x1, .int x2]) (n := 3) (Nat.le_of_ble_eq_true rfl)
  rw [lg_entry_eq]
  generalize (lg_sl ([.ref (za Z 0), .int x1, .int x2]) ++ List.replicate (3 - (lg_sl ([.ref (za Z 0), .int x1, .int x2])).length) Slot.unset).toArray = ls at hl ⊢
  have hl : lv_has ls 3 [(0, .ref (za Z 0)), (1, .int x1), (2, .int x2)] := hl
  refine lv_iload_n hx hb dX6_node_0 rfl (lv_at hl 1 rfl) ?_
  refine lv_iconst (v := 1) hx hb dX6_node_1 (by decide) ?_
  refine lv_icmp_lt (tgt := 11) hx hb dX6_node_2 (by decide) (fun c_2 => ?_) (fun c_2 => ?_)
  · skip
    have i_2 := ti_ltk rfl tk_1 c_2
    refine lv_bipush (v := (-101)) hx hb dX6_node_11 (by decide) ?_
    exact W.iret (v := (-101)) hx hb hr (fun t ht hW => ⟨(-101), rfl, trivial, ht⟩) (fun q hq => by cases hq) dX6_node_13
  · skip
    have i_2 := ti_nltk rfl tk_1 c_2
    refine lv_iload_n hx hb dX6_node_5 rfl (lv_at hl 1 rfl) ?_
    refine lv_bipush (v := 127) hx hb dX6_node_6 (by decide) ?_
    refine lv_icmp_le (tgt := 14) hx hb dX6_node_8 (by decide) (fun c_8 => ?_) (fun c_8 => ?_)
    · skip
      have i_8 := ti_lek rfl tk_127 c_8
      refine lv_iload_n hx hb dX6_node_14 rfl (lv_at hl 2 rfl) ?_
      by_cases w_15_0 : x2 = 0
      · skip
        refine lv_tableIn (tgt := 44) (off := 29) hx hb dX6_node_15 (by rw [w_15_0]; decide) (by rw [w_15_0]; decide) (by rw [w_15_0]; decide) (by decide) ?_
        refine lv_aload_n hx hb dX6_node_44 rfl (lv_at hl 0 rfl) ?_
        refine va_get (D := zD Z) (ci := 6) (v := .ref (za Z 5)) (C := RX6) (T := TX6) (N := 11) hx hb hT inlX6 hown hK hP 0 xw_0 rfl 2 (by decide) (hT _ (tr_1 _ (List.mem_of_getElem? (i := 23) rfl))) (fun _ h9 => h9) rfl dX6_node_45 ?_
        refine lv_iload_n hx hb dX6_node_48 rfl (lv_at hl 1 rfl) ?_
        refine rd_ci (va_runV (As := [.int x1]) (rest := []) ⟨hx, hb, hml, hown, hT⟩ (c_X5_standingAt l Z hZ g gl tf x1 hG) (cwV 1 hT (tb_V (fun _ h => h) (tr_25 _ (List.mem_of_getElem? (i := 13) rfl)) (tr_25 _ (List.mem_of_getElem? (i := 14) rfl)) (tr_25 _ (List.mem_of_getElem? (i := 15) rfl)) (tr_1 _ (List.mem_of_getElem? (i := 22) rfl)) (tr_25 _ (List.mem_of_getElem? (i := 16) rfl))) rfl rfl rfl (by decide +kernel) ⟨Nat.le_of_ble_eq_true rfl, Nat.le_of_ble_eq_true rfl⟩) ⟨fun a U f mk q => ⟨q.1, XI.blind f mk a q.2⟩, va_recv hK hP (ci := 5) (q0 := 5) rfl xw_5, fun U hU hW => ⟨rfl, hI.at hS hP hU hW⟩⟩ rfl rfl hl.1 rfl (lv_room (Nat.le_of_ble_eq_true rfl)) dX6_node_49 ⟨Nat.zero_le _, Nat.zero_le _⟩) (fun r_49 hr_49 => ?_)
        exact W.iret (v := r_49) hx hb hr (fun t ht hW => ⟨r_49, rfl, trivial, ht⟩) (fun q hq => by cases hq) dX6_node_52
      by_cases w_15_1 : x2 = 1
      · skip
        refine lv_tableIn (tgt := 53) (off := 38) hx hb dX6_node_15 (by rw [w_15_1]; decide) (by rw [w_15_1]; decide) (by rw [w_15_1]; decide) (by decide) ?_
        refine lv_iload_n hx hb dX6_node_53 rfl (lv_at hl 1 rfl) ?_
        refine rd_ci (va_runS (As := [.int x1]) (rest := []) ⟨hx, hb, hml, hown, hT⟩ (c_X5_firstOf l x1 (by first | assumption | omega | decide)) (va_cwS 1 hT (tb_S (fun _ h => h) (tr_25 _ (List.mem_of_getElem? (i := 17) rfl)) (tr_15 _ (List.mem_of_getElem? (i := 5) rfl)) (tr_1 _ (List.mem_of_getElem? (i := 22) rfl)) (tr_15 _ (List.mem_of_getElem? (i := 6) rfl))) rfl rfl rfl (by decide +kernel) ⟨Nat.le_of_ble_eq_true rfl, Nat.le_of_ble_eq_true rfl⟩) ⟨fun _ _ _ _ q => q, fun U hU hW => ⟨rfl, trivial⟩⟩ rfl rfl hl.1 rfl (lv_room (Nat.le_of_ble_eq_true rfl)) dX6_node_54 ⟨Nat.zero_le _, Nat.zero_le _⟩) (fun r_54 hr_54 => ?_)
        exact W.iret (v := r_54) hx hb hr (fun t ht hW => ⟨r_54, rfl, trivial, ht⟩) (fun q hq => by cases hq) dX6_node_57
      by_cases w_15_2 : x2 = 2
      · skip
        refine lv_tableIn (tgt := 58) (off := 43) hx hb dX6_node_15 (by rw [w_15_2]; decide) (by rw [w_15_2]; decide) (by rw [w_15_2]; decide) (by decide) ?_
        refine lv_iload_n hx hb dX6_node_58 rfl (lv_at hl 1 rfl) ?_
        refine rd_ci (va_runS (As := [.int x1]) (rest := []) ⟨hx, hb, hml, hown, hT⟩ (c_X5_lastOf l x1 (by first | assumption | omega | decide)) (va_cwS 1 hT (tb_S (fun _ h => h) (tr_25 _ (List.mem_of_getElem? (i := 18) rfl)) (tr_15 _ (List.mem_of_getElem? (i := 2) rfl)) (tr_1 _ (List.mem_of_getElem? (i := 22) rfl)) (tr_15 _ (List.mem_of_getElem? (i := 3) rfl))) rfl rfl rfl (by decide +kernel) ⟨Nat.le_of_ble_eq_true rfl, Nat.le_of_ble_eq_true rfl⟩) ⟨fun _ _ _ _ q => q, fun U hU hW => ⟨rfl, trivial⟩⟩ rfl rfl hl.1 rfl (lv_room (Nat.le_of_ble_eq_true rfl)) dX6_node_59 ⟨Nat.zero_le _, Nat.zero_le _⟩) (fun r_59 hr_59 => ?_)
        exact W.iret (v := r_59) hx hb hr (fun t ht hW => ⟨r_59, rfl, trivial, ht⟩) (fun q hq => by cases hq) dX6_node_62
      by_cases w_15_3 : x2 = 3
      · skip
        refine lv_tableIn (tgt := 63) (off := 48) hx hb dX6_node_15 (by rw [w_15_3]; decide) (by rw [w_15_3]; decide) (by rw [w_15_3]; decide) (by decide) ?_
        refine lv_iload_n hx hb dX6_node_63 rfl (lv_at hl 1 rfl) ?_
        refine rd_ci (va_runS (As := [.int x1]) (rest := []) ⟨hx, hb, hml, hown, hT⟩ (c_X5_middleOf l x1 (by first | assumption | omega | decide)) (va_cwS 1 hT (tb_S (fun _ h => h) (tr_25 _ (List.mem_of_getElem? (i := 19) rfl)) (tr_15 _ (List.mem_of_getElem? (i := 23) rfl)) (tr_1 _ (List.mem_of_getElem? (i := 22) rfl)) (tr_16 _ (List.mem_of_getElem? (i := 0) rfl))) rfl rfl rfl (by decide +kernel) ⟨Nat.le_of_ble_eq_true rfl, Nat.le_of_ble_eq_true rfl⟩) ⟨fun _ _ _ _ q => q, fun U hU hW => ⟨rfl, trivial⟩⟩ rfl rfl hl.1 rfl (lv_room (Nat.le_of_ble_eq_true rfl)) dX6_node_64 ⟨Nat.zero_le _, Nat.zero_le _⟩) (fun r_64 hr_64 => ?_)
        exact W.iret (v := r_64) hx hb hr (fun t ht hW => ⟨r_64, rfl, trivial, ht⟩) (fun q hq => by cases hq) dX6_node_67
      have n_15_0 := ti_nek rfl tk_0 w_15_0
      have n_15_1 := ti_nek rfl tk_1 w_15_1
      have n_15_2 := ti_nek rfl tk_2 w_15_2
      have n_15_3 := ti_nek rfl tk_3 w_15_3
      refine lv_tableOut (tgt := 68) hx hb dX6_node_15 (by omega) (by decide) ?_
      refine lv_bipush (v := (-102)) hx hb dX6_node_68 (by decide) ?_
      exact W.iret (v := (-102)) hx hb hr (fun t ht hW => ⟨(-102), rfl, trivial, ht⟩) (fun q hq => by cases hq) dX6_node_70
    · skip
      have i_8 := ti_nlek rfl tk_127 c_8
      refine lv_bipush (v := (-101)) hx hb dX6_node_11 (by decide) ?_
      exact W.iret (v := (-101)) hx hb hr (fun t ht hW => ⟨(-101), rfl, trivial, ht⟩) (fun q hq => by cases hq) dX6_node_13
set_option maxHeartbeats 4000000 in
set_option maxRecDepth 100000 in
theorem c_X6_offer (l : Launch) (Z : ZT) (hZ : XG Z) (g : Nat → Nat → Int32) (gl : Nat → Nat → Int64) (tf : Nat → Nat → Int32) (x1 : Int32) (x2 : Int32) (x3 : Int32) (x4 : Int32) (hn4 : 0 ≤ (g 3 1).toInt ∧ (g 3 1).toInt ≤ 40) (hTx : TX (xr Z tf) (g 3 1).toInt.toNat g) (hG : Gd Z tf) : Met l yX6_offer (Cond.code yX6_offer cX6_offer 6 (some .int) :: wsL_law) ({ frames := 7, cells := 0, slots := 0, locals := 166 } : Room) (va_Pc [.ref (za Z 0), .int x1, .int x2, .int x3, .int x4] (XI Z g gl tf)) (va_Qi (fun (r : Int32) (u : (Nat → Nat → Int32) × (Nat → Nat → Int64) × (Nat → Nat → Int32)) => Fr [3, 5, 6, 7, 8, 9, 10] g u.1 ∧ Gd Z u.2.2 ∧ ((∃ c, rjF (g 0 8) (g 3 1) x1 x2 x3 x4 c ∧ ((¬ c = 0 ∧ r = c ∧ u.1 = g) ∨ (c = 0 ∧ (u.1 3 1 = g 3 1 + 1 ∧ TX (xr Z u.2.2) ((g 3 1).toInt.toNat + 1) u.1 ∧ r.toInt = (ofc (xr Z u.2.2) (TR (xr Z u.2.2) (g 3 1).toInt.toNat) (cns (xr Z u.2.2) (g 3 1).toInt.toNat) (g 3 1) : Int)) ∧ u.2.2 (ro Z (g 3 1).toInt.toNat) 0 = x1 ∧ u.2.2 (ro Z (g 3 1).toInt.toNat) 1 = x2 ∧ u.2.2 (ro Z (g 3 1).toInt.toNat) 2 = x3 ∧ u.2.2 (ro Z (g 3 1).toInt.toNat) 3 = x4 / 100 ∧ u.2.2 (ro Z (g 3 1).toInt.toNat) 4 = x4 - x4 / 100 * 100))) ∧ (∀ b, b ≠ za Z 24 → b ≠ (ro Z (g 3 1).toInt.toNat) → u.2.2 b = tf b))) (fun u t => va_P (zD Z) vwCl (xw Z u.1 u.2.1 u.2.2) t.heap) (zA Z)) 0 0 (zA Z) := by
  refine Met.ofW (cc := cX6_offer) (maxL := 6) (ret := (some .int)) (by decide) rfl ?_
  intro p e s m args below meth c s₁ B hml hv
  obtain ⟨rfl, hI⟩ := hv
  have hx := B.exec
  have hb := B.bytes
  have hr := B.returns
  have hT : ∀ w ∈ wsL_law, w.before ([.ref (za Z 0), .int x1, .int x2, .int x3, .int x4] : List Value).toArray s = true := fun w h => atoms_spec (ws := (Cond.code yX6_offer cX6_offer 6 (some .int) :: wsL_law)) B.pre w (List.mem_cons_of_mem _ h)
  have hown : s.vm.findClass RX6 = some m.cls := findClass_of_methodNamed B.named
  have hlocks := B.notSynchronized
  have hK := hI.2.1
  have hP := hI.1
  have hS : va_S (zA Z) s.heap s.heap [] := va_S.rf
  have hF : Fr [3, 5, 6, 7, 8, 9, 10] g g := Fr.rf
  have hl := lv_entry ([.ref (za Z 0), .int x1, .int x2, .int x3, .int x4]) (n := 6) (Nat.le_of_ble_eq_true rfl)
  rw [lg_entry_eq]
  generalize (lg_sl ([.ref (za Z 0), .int x1, .int x2, .int x3, .int x4]) ++ List.replicate (6 - (lg_sl ([.ref (za Z 0), .int x1, .int x2, .int x3, .int x4])).length) Slot.unset).toArray = ls at hl ⊢
  have hl : lv_has ls 6 [(0, .ref (za Z 0)), (1, .int x1), (2, .int x2), (3, .int x3), (4, .int x4)] := hl
  refine lv_aload_n hx hb dX6_offer_0 rfl (lv_at hl 0 rfl) ?_
  refine lv_iload_n hx hb dX6_offer_1 rfl (lv_at hl 1 rfl) ?_
  refine lv_iload_n hx hb dX6_offer_2 rfl (lv_at hl 2 rfl) ?_
  refine lv_iload_n hx hb dX6_offer_3 rfl (lv_at hl 3 rfl) ?_
  refine lv_iload hx hb dX6_offer_4 (lv_at hl 4 rfl) ?_
  refine va_calli (va_runV (As := [.int x1, .int x2, .int x3, .int x4]) (rest := []) ⟨hx, hb, hml, hown, hT⟩ (c_X6_refusalOf l Z hZ g gl tf x1 x2 x3 x4 hG) (cwV 4 hT (tb_V (fun _ h => h) (tr_26 _ (List.mem_of_getElem? (i := 8) rfl)) (tr_26 _ (List.mem_of_getElem? (i := 9) rfl)) (tr_26 _ (List.mem_of_getElem? (i := 10) rfl)) (tr_1 _ (List.mem_of_getElem? (i := 2) rfl)) (tr_26 _ (List.mem_of_getElem? (i := 11) rfl))) rfl rfl rfl (by decide +kernel) ⟨Nat.le_of_ble_eq_true rfl, Nat.le_of_ble_eq_true rfl⟩) ⟨fun a U f mk q => ⟨q.1, XI.blind f mk a q.2⟩, va_recv hK hP (ci := 6) (q0 := 0) rfl xw_0, fun U hU hW => ⟨rfl, hI.at hS hP hU hW⟩⟩ rfl rfl hl.1 rfl (lv_room (Nat.le_of_ble_eq_true rfl)) dX6_offer_6 ⟨Nat.zero_le _, Nat.zero_le _⟩) hS (fun q _ h => h) (fun q h => h) (fun r_6 u_6 t_6 H locs ht_6 _ hw_6 hB_6 _ _ hS => ?_)
  obtain ⟨g_6, gl_6, tf_6⟩ := u_6
  have hP : va_P (zD Z) vwCl (xw Z g_6 gl_6 tf_6) H := ht_6 ▸ hB_6
  obtain ⟨hf_6, hG, eg_6, hr_6⟩ := hw_6
  have hF := hF.tr hf_6 (by decide)
  (try dsimp only at hf_6 hG hF eg_6 hr_6)
  subst eg_6
  refine lv_istore (lv' := [(5, .int r_6), (0, .ref (za Z 0)), (1, .int x1), (2, .int x2), (3, .int x3), (4, .int x4)]) hx hb dX6_offer_9 hl (by decide) rfl (fun ls hl => ?_)
  refine lv_iload hx hb dX6_offer_11 (lv_at hl 0 rfl) ?_
  refine lv_if_ne (tgt := 30) hx hb dX6_offer_13 (by decide) (fun c_13 => ?_) (fun c_13 => ?_)
  · skip
    have i_13 := ti_nek rfl tk_0 c_13
    refine lv_iload hx hb dX6_offer_30 (lv_at hl 0 rfl) ?_
    exact W.iret (v := r_6) hx hb hr (fun t ht hW => ⟨⟨r_6, (g, gl_6, tf_6), rfl, ⟨hF, hG, (by (try dsimp only); first | done | exact ⟨⟨r_6, hr_6.1, Or.inl ⟨c_13, rfl, rfl⟩⟩, fun b h1 _ => hr_6.2.1 b h1⟩)⟩, by show va_P (zD Z) vwCl (xw Z g gl_6 tf_6) t.heap; rw [ht]; exact hP⟩, hS.F ht⟩) hS.2.2 dX6_offer_32
  · skip
    have i_13 := ti_eqk rfl tk_0 c_13
    have v6 := rjF_0 hr_6.1 c_13
    have w6 := hr_6.2.2 c_13
    subst w6
    refine lv_aload_n hx hb dX6_offer_16 rfl (lv_at hl 1 rfl) ?_
    refine va_get (D := zD Z) (ci := 6) (v := .ref (za Z 5)) (C := RX6) (T := TX6) (N := 11) hx hb hT inlX6 hown hK hP 0 xw_0 rfl 2 (by decide) (hT _ (tr_1 _ (List.mem_of_getElem? (i := 23) rfl))) (fun _ h9 => h9) rfl dX6_offer_17 ?_
    refine lv_aload_n hx hb dX6_offer_20 rfl (lv_at hl 1 rfl) ?_
    refine va_get (D := zD Z) (ci := 6) (v := .ref (za Z 24)) (C := RX6) (T := TX6) (N := 11) hx hb hT inlX6 hown hK hP 0 xw_0 rfl 5 (by decide) (hT _ (tr_2 _ (List.mem_of_getElem? (i := 11) rfl))) (fun _ h9 => h9) rfl dX6_offer_21 ?_
    refine va_calli (va_runV (As := [.ref (za Z 24)]) (rest := []) ⟨hx, hb, hml, hown, hT⟩ (c_X5_take l Z hZ g gl_6 (wrT tf (za Z 24) x1 x2 x3 (x4 / 100) (x4 - x4 / 100 * 100)) (za Z 24) hZ.ask (by first | assumption | omega | decide) (TX_cr (by omega) (xr_Rw hZ (fun t ht => wrT_ne (hZ.ra (by omega)))) hTx) hG) (cwV 1 hT (tb_V (fun _ h => h) (tr_14 _ (List.mem_of_getElem? (i := 2) rfl)) (tr_14 _ (List.mem_of_getElem? (i := 3) rfl)) (tr_14 _ (List.mem_of_getElem? (i := 4) rfl)) (tr_1 _ (List.mem_of_getElem? (i := 22) rfl)) (tr_14 _ (List.mem_of_getElem? (i := 5) rfl))) rfl rfl rfl (by decide +kernel) ⟨Nat.le_of_ble_eq_true rfl, Nat.le_of_ble_eq_true rfl⟩) ⟨fun a U f mk q => ⟨q.1, XI.blind f mk a q.2⟩, va_recv hK hP (ci := 5) (q0 := 5) rfl xw_5, fun U hU hW => ⟨rfl, hI.at hS hP hU hW⟩⟩ rfl rfl hl.1 rfl (lv_room (Nat.le_of_ble_eq_true rfl)) dX6_offer_24 ⟨Nat.zero_le _, Nat.zero_le _⟩) hS (fun q _ h => h) (fun q h => h) (fun r_24 u_24 t_24 H locs ht_24 _ hw_24 hB_24 _ _ hS => ?_)
    obtain ⟨g_24, gl_24, tf_24⟩ := u_24
    have hP : va_P (zD Z) vwCl (xw Z g_24 gl_24 tf_24) H := ht_24 ▸ hB_24
    obtain ⟨hf_24, hG, et_24, hr_24⟩ := hw_24
    have hF := hF.tr hf_24 (by decide)
    (try dsimp only at hf_24 hG hF et_24 hr_24)
    subst et_24
    refine lv_goto (tgt := 32) hx hb dX6_offer_27 (by decide) ?_
    exact W.iret (v := r_24) hx hb hr (fun t ht hW => ⟨⟨r_24, (g_24, gl_24, (wrT (wrT tf (za Z 24) x1 x2 x3 (x4 / 100) (x4 - x4 / 100 * 100)) (ro Z (g 3 1).toInt.toNat) ((wrT tf (za Z 24) x1 x2 x3 (x4 / 100) (x4 - x4 / 100 * 100)) (za Z 24) 0) ((wrT tf (za Z 24) x1 x2 x3 (x4 / 100) (x4 - x4 / 100 * 100)) (za Z 24) 1) ((wrT tf (za Z 24) x1 x2 x3 (x4 / 100) (x4 - x4 / 100 * 100)) (za Z 24) 2) ((wrT tf (za Z 24) x1 x2 x3 (x4 / 100) (x4 - x4 / 100 * 100)) (za Z 24) 3) ((wrT tf (za Z 24) x1 x2 x3 (x4 / 100) (x4 - x4 / 100 * 100)) (za Z 24) 4))), rfl, ⟨hF, hG, (by (try dsimp only); first | done | exact ⟨⟨r_6, hr_6.1, Or.inr ⟨c_13, hr_24, by rw [wrT_0, wrT_0], by rw [wrT_1, wrT_1], by rw [wrT_2, wrT_2], by rw [wrT_3, wrT_3], by rw [wrT_4, wrT_4]⟩⟩, fun b h1 h2 => by rw [wrT_ne h2, wrT_ne h1]⟩)⟩, by show va_P (zD Z) vwCl (xw Z g_24 gl_24 (wrT (wrT tf (za Z 24) x1 x2 x3 (x4 / 100) (x4 - x4 / 100 * 100)) (ro Z (g 3 1).toInt.toNat) ((wrT tf (za Z 24) x1 x2 x3 (x4 / 100) (x4 - x4 / 100 * 100)) (za Z 24) 0) ((wrT tf (za Z 24) x1 x2 x3 (x4 / 100) (x4 - x4 / 100 * 100)) (za Z 24) 1) ((wrT tf (za Z 24) x1 x2 x3 (x4 / 100) (x4 - x4 / 100 * 100)) (za Z 24) 2) ((wrT tf (za Z 24) x1 x2 x3 (x4 / 100) (x4 - x4 / 100 * 100)) (za Z 24) 3) ((wrT tf (za Z 24) x1 x2 x3 (x4 / 100) (x4 - x4 / 100 * 100)) (za Z 24) 4))) t.heap; rw [ht]; exact hP⟩, hS.F ht⟩) hS.2.2 dX6_offer_32
set_option maxHeartbeats 4000000 in
set_option maxRecDepth 100000 in
theorem c_X6_undo (l : Launch) (Z : ZT) (hZ : XG Z) (g : Nat → Nat → Int32) (gl : Nat → Nat → Int64) (tf : Nat → Nat → Int32) (hn4 : 0 ≤ (g 3 1).toInt ∧ (g 3 1).toInt ≤ 40) (hTx : TX (xr Z tf) (g 3 1).toInt.toNat g) (hG : Gd Z tf) : Met l yX6_undo (Cond.code yX6_undo cX6_undo 1 (some .int) :: wsL_law) ({ frames := 6, cells := 0, slots := 0, locals := 137 } : Room) (va_Pc [.ref (za Z 0)] (XI Z g gl tf)) (va_Qi (fun (r : Int32) (u : (Nat → Nat → Int32) × (Nat → Nat → Int64) × (Nat → Nat → Int32)) => Fr [3, 5, 6, 10] g u.1 ∧ Gd Z u.2.2 ∧ tf = u.2.2 ∧ ((g 3 1 = 0 ∧ r = -103 ∧ u.1 = g) ∨ (¬ g 3 1 = 0 ∧ u.1 3 1 = g 3 1 - 1 ∧ r = g 3 1 - 1 ∧ TX (xr Z tf) ((g 3 1).toInt.toNat - 1) u.1))) (fun u t => va_P (zD Z) vwCl (xw Z u.1 u.2.1 u.2.2) t.heap) (zA Z)) 0 0 (zA Z) := by
  refine Met.ofW (cc := cX6_undo) (maxL := 1) (ret := (some .int)) (by decide) rfl ?_
  intro p e s m args below meth c s₁ B hml hv
  obtain ⟨rfl, hI⟩ := hv
  have hx := B.exec
  have hb := B.bytes
  have hr := B.returns
  have hT : ∀ w ∈ wsL_law, w.before ([.ref (za Z 0)] : List Value).toArray s = true := fun w h => atoms_spec (ws := (Cond.code yX6_undo cX6_undo 1 (some .int) :: wsL_law)) B.pre w (List.mem_cons_of_mem _ h)
  have hown : s.vm.findClass RX6 = some m.cls := findClass_of_methodNamed B.named
  have hlocks := B.notSynchronized
  have hK := hI.2.1
  have hP := hI.1
  have hS : va_S (zA Z) s.heap s.heap [] := va_S.rf
  have hF : Fr [3, 5, 6, 10] g g := Fr.rf
  have hl := lv_entry ([.ref (za Z 0)]) (n := 1) (Nat.le_of_ble_eq_true rfl)
  rw [lg_entry_eq]
  generalize (lg_sl ([.ref (za Z 0)]) ++ List.replicate (1 - (lg_sl ([.ref (za Z 0)])).length) Slot.unset).toArray = ls at hl ⊢
  have hl : lv_has ls 1 [(0, .ref (za Z 0))] := hl
  refine lv_aload_n hx hb dX6_undo_0 rfl (lv_at hl 0 rfl) ?_
  refine va_get (D := zD Z) (ci := 6) (v := .ref (za Z 3)) (C := RX6) (T := TX6) (N := 11) hx hb hT inlX6 hown hK hP 0 xw_0 rfl 1 (by decide) (hT _ (tr_1 _ (List.mem_of_getElem? (i := 19) rfl))) (fun _ h9 => h9) rfl dX6_undo_1 ?_
  refine va_get (D := zD Z) (ci := 4) (v := .int (g 3 1)) (C := RX4) (T := TX4) (N := 2) hx hb hT inlX4 hown hK hP 3 xw_3 rfl 1 (by decide) (hT _ (tr_12 _ (List.mem_of_getElem? (i := 21) rfl))) (fun _ h9 => h9) rfl dX6_undo_4 ?_
  refine lv_if_ne (tgt := 13) hx hb dX6_undo_7 (by decide) (fun c_7 => ?_) (fun c_7 => ?_)
  · skip
    have i_7 := ti_nek rfl tk_0 c_7
    refine lv_aload_n hx hb dX6_undo_13 rfl (lv_at hl 0 rfl) ?_
    refine va_get (D := zD Z) (ci := 6) (v := .ref (za Z 5)) (C := RX6) (T := TX6) (N := 11) hx hb hT inlX6 hown hK hP 0 xw_0 rfl 2 (by decide) (hT _ (tr_1 _ (List.mem_of_getElem? (i := 23) rfl))) (fun _ h9 => h9) rfl dX6_undo_14 ?_
    refine va_callv (va_runV (As := []) (rest := []) ⟨hx, hb, hml, hown, hT⟩ (c_X5_takeBack l Z hZ g gl tf (by first | assumption | omega | decide) (by first | assumption | omega | decide) hG) (cwV 0 hT (tb_V (fun _ h => h) (tr_28 _ (List.mem_of_getElem? (i := 6) rfl)) (tr_28 _ (List.mem_of_getElem? (i := 7) rfl)) (tr_28 _ (List.mem_of_getElem? (i := 8) rfl)) (tr_1 _ (List.mem_of_getElem? (i := 22) rfl)) (tr_28 _ (List.mem_of_getElem? (i := 9) rfl))) rfl rfl rfl (by decide +kernel) ⟨Nat.le_of_ble_eq_true rfl, Nat.le_of_ble_eq_true rfl⟩) ⟨fun a U f mk q => ⟨q.1, XI.blind f mk a q.2⟩, va_recv hK hP (ci := 5) (q0 := 5) rfl xw_5, fun U hU hW => ⟨rfl, hI.at hS hP hU hW⟩⟩ rfl rfl hl.1 rfl (lv_room (Nat.le_of_ble_eq_true rfl)) dX6_undo_17 ⟨Nat.zero_le _, Nat.zero_le _⟩) hS (fun q _ h => h) (fun q h => h) (fun u_17 t_17 H locs ht_17 _ hw_17 hB_17 _ _ hS => ?_)
    obtain ⟨g_17, gl_17, tf_17⟩ := u_17
    have hP : va_P (zD Z) vwCl (xw Z g_17 gl_17 tf_17) H := ht_17 ▸ hB_17
    obtain ⟨hf_17, hG, et_17, hr_17⟩ := hw_17
    have hF := hF.tr hf_17 (by decide)
    (try dsimp only at hf_17 hG hF et_17 hr_17)
    subst et_17
    refine lv_aload_n hx hb dX6_undo_20 rfl (lv_at hl 0 rfl) ?_
    refine va_get (D := zD Z) (ci := 6) (v := .ref (za Z 3)) (C := RX6) (T := TX6) (N := 11) hx hb hT inlX6 hown hK hP 0 xw_0 rfl 1 (by decide) (hT _ (tr_1 _ (List.mem_of_getElem? (i := 19) rfl))) (fun _ h9 => h9) rfl dX6_undo_21 ?_
    refine va_get (D := zD Z) (ci := 4) (v := .int (g_17 3 1)) (C := RX4) (T := TX4) (N := 2) hx hb hT inlX4 hown hK hP 3 xw_3 rfl 1 (by decide) (hT _ (tr_12 _ (List.mem_of_getElem? (i := 21) rfl))) (fun _ h9 => h9) rfl dX6_undo_24 ?_
    exact W.iret (v := (g_17 3 1)) hx hb hr (fun t ht hW => ⟨⟨(g_17 3 1), (g_17, gl_17, tf), rfl, ⟨hF, hG, rfl, (by (try dsimp only); first | done | exact Or.inr ⟨c_7, hr_17.1, hr_17.1, hr_17.2⟩)⟩, by show va_P (zD Z) vwCl (xw Z g_17 gl_17 tf) t.heap; rw [ht]; exact hP⟩, hS.F ht⟩) hS.2.2 dX6_undo_27
  · skip
    have i_7 := ti_eqk rfl tk_0 c_7
    refine lv_bipush (v := (-103)) hx hb dX6_undo_10 (by decide) ?_
    exact W.iret (v := (-103)) hx hb hr (fun t ht hW => ⟨⟨(-103), (g, gl, tf), rfl, ⟨hF, hG, rfl, (by (try dsimp only); first | done | exact Or.inl ⟨c_7, rfl, rfl⟩)⟩, by show va_P (zD Z) vwCl (xw Z g gl tf) t.heap; rw [ht]; exact hP⟩, hS.F ht⟩) hS.2.2 dX6_undo_12
set_option maxHeartbeats 4000000 in
set_option maxRecDepth 100000 in
theorem c_X6_cheapest (l : Launch) (Z : ZT) (hZ : XG Z) (g : Nat → Nat → Int32) (gl : Nat → Nat → Int64) (tf : Nat → Nat → Int32) (x1 : Int32) (hG : Gd Z tf) : Met l yX6_cheapest (Cond.code yX6_cheapest cX6_cheapest 2 (some .int) :: wsL_law) ({ frames := 2, cells := 0, slots := 0, locals := 41 } : Room) (va_Pc [.ref (za Z 0), .int x1] (XI Z g gl tf)) (rd_Qi (fun r => ((¬ ((0 ≤ x1.toInt ∧ x1.toInt ≤ 63) ∧ ¬ g 0 8 = 0) ∧ r = -101) ∨ (((0 ≤ x1.toInt ∧ x1.toInt ≤ 63) ∧ ¬ g 0 8 = 0) ∧ r = g 10 x1.toInt.toNat)))) 0 0 (fun _ => False) := by
  refine Met.ofW (cc := cX6_cheapest) (maxL := 2) (ret := (some .int)) (by decide) rfl ?_
  intro p e s m args below meth c s₁ B hml hv
  obtain ⟨rfl, hI⟩ := hv
  have hx := B.exec
  have hb := B.bytes
  have hr := B.returns
  have hT : ∀ w ∈ wsL_law, w.before ([.ref (za Z 0), .int x1] : List Value).toArray s = true := fun w h => atoms_spec (ws := (Cond.code yX6_cheapest cX6_cheapest 2 (some .int) :: wsL_law)) B.pre w (List.mem_cons_of_mem _ h)
  have hown : s.vm.findClass RX6 = some m.cls := findClass_of_methodNamed B.named
  have hlocks := B.notSynchronized
  have hK := hI.2.1
  have hP := hI.1
  have hS : va_S (zA Z) s.heap s.heap [] := va_S.rf
  have hl := lv_entry ([.ref (za Z 0), .int x1]) (n := 2) (Nat.le_of_ble_eq_true rfl)
  rw [lg_entry_eq]
  generalize (lg_sl ([.ref (za Z 0), .int x1]) ++ List.replicate (2 - (lg_sl ([.ref (za Z 0), .int x1])).length) Slot.unset).toArray = ls at hl ⊢
  have hl : lv_has ls 2 [(0, .ref (za Z 0)), (1, .int x1)] := hl
  refine lv_iload_n hx hb dX6_cheapest_0 rfl (lv_at hl 1 rfl) ?_
  refine rd_ci (va_runS (As := [.int x1]) (rest := []) ⟨hx, hb, hml, hown, hT⟩ (c_X6_isQuantity l x1) (va_cwS 1 hT (tb_S (fun _ h => h) (tr_24 _ (List.mem_of_getElem? (i := 16) rfl)) (tr_20 _ (List.mem_of_getElem? (i := 19) rfl)) (tr_1 _ (List.mem_of_getElem? (i := 2) rfl)) (tr_20 _ (List.mem_of_getElem? (i := 20) rfl))) rfl rfl rfl (by decide +kernel) ⟨Nat.le_of_ble_eq_true rfl, Nat.le_of_ble_eq_true rfl⟩) ⟨fun _ _ _ _ q => q, fun U hU hW => ⟨rfl, trivial⟩⟩ rfl rfl hl.1 rfl (lv_room (Nat.le_of_ble_eq_true rfl)) dX6_cheapest_1 ⟨Nat.zero_le _, Nat.zero_le _⟩) (fun r_1 hr_1 => ?_)
  rcases hr_1 with ⟨rfl, b_1⟩ | ⟨rfl, b_1⟩
  · skip
    refine lv_if_eq (tgt := 14) hx hb dX6_cheapest_4 (by decide) (fun c_4 => absurd c_4 (by decide)) (fun c_4 => ?_)
    refine lv_aload_n hx hb dX6_cheapest_7 rfl (lv_at hl 0 rfl) ?_
    refine va_get (D := zD Z) (ci := 6) (v := .int (g 0 8)) (C := RX6) (T := TX6) (N := 11) hx hb hT inlX6 hown hK hP 0 xw_0 rfl 8 (by decide) (hT _ (tr_12 _ (List.mem_of_getElem? (i := 19) rfl))) (fun _ h9 => h9) rfl dX6_cheapest_8 ?_
    refine lv_if_ne (tgt := 17) hx hb dX6_cheapest_11 (by decide) (fun c_11 => ?_) (fun c_11 => ?_)
    · skip
      have i_11 := ti_nek rfl tk_0 c_11
      refine lv_aload_n hx hb dX6_cheapest_17 rfl (lv_at hl 0 rfl) ?_
      refine va_get (D := zD Z) (ci := 6) (v := .ref (za Z 5)) (C := RX6) (T := TX6) (N := 11) hx hb hT inlX6 hown hK hP 0 xw_0 rfl 2 (by decide) (hT _ (tr_1 _ (List.mem_of_getElem? (i := 23) rfl))) (fun _ h9 => h9) rfl dX6_cheapest_18 ?_
      refine lv_iload_n hx hb dX6_cheapest_21 rfl (lv_at hl 1 rfl) ?_
      refine rd_ci (va_runV (As := [.int x1]) (rest := []) ⟨hx, hb, hml, hown, hT⟩ (c_X5_lowestFor l Z hZ g gl tf x1 hG) (cwV 1 hT (tb_V (fun _ h => h) (tr_20 _ (List.mem_of_getElem? (i := 15) rfl)) (tr_20 _ (List.mem_of_getElem? (i := 16) rfl)) (tr_20 _ (List.mem_of_getElem? (i := 17) rfl)) (tr_1 _ (List.mem_of_getElem? (i := 22) rfl)) (tr_20 _ (List.mem_of_getElem? (i := 18) rfl))) rfl rfl rfl (by decide +kernel) ⟨Nat.le_of_ble_eq_true rfl, Nat.le_of_ble_eq_true rfl⟩) ⟨fun a U f mk q => ⟨q.1, XI.blind f mk a q.2⟩, va_recv hK hP (ci := 5) (q0 := 5) rfl xw_5, fun U hU hW => ⟨rfl, hI.at hS hP hU hW⟩⟩ rfl rfl hl.1 rfl (lv_room (Nat.le_of_ble_eq_true rfl)) dX6_cheapest_22 ⟨Nat.zero_le _, Nat.zero_le _⟩) (fun r_22 hr_22 => ?_)
      exact W.iret (v := r_22) hx hb hr (fun t ht hW => ⟨r_22, rfl, Or.inr ⟨⟨by omega, c_11⟩, hr_22 (by omega)⟩, ht⟩) (fun q hq => by cases hq) dX6_cheapest_25
    · skip
      have i_11 := ti_eqk rfl tk_0 c_11
      refine lv_bipush (v := (-101)) hx hb dX6_cheapest_14 (by decide) ?_
      exact W.iret (v := (-101)) hx hb hr (fun t ht hW => ⟨(-101), rfl, Or.inl ⟨fun z => by first | exact z.2 c_11 | omega, rfl⟩, ht⟩) (fun q hq => by cases hq) dX6_cheapest_16
  · skip
    refine lv_if_eq (tgt := 14) hx hb dX6_cheapest_4 (by decide) (fun c_4 => ?_) (fun c_4 => absurd c_4 (by decide))
    refine lv_bipush (v := (-101)) hx hb dX6_cheapest_14 (by decide) ?_
    exact W.iret (v := (-101)) hx hb hr (fun t ht hW => ⟨(-101), rfl, Or.inl ⟨fun z => by first | exact z.2 c_11 | omega, rfl⟩, ht⟩) (fun q hq => by cases hq) dX6_cheapest_16
set_option maxHeartbeats 4000000 in
set_option maxRecDepth 100000 in
theorem c_X6_cost (l : Launch) (Z : ZT) (hZ : XG Z) (g : Nat → Nat → Int32) (gl : Nat → Nat → Int64) (tf : Nat → Nat → Int32) (x1 : Int32) (hn4 : 0 ≤ (g 3 1).toInt ∧ (g 3 1).toInt ≤ 40) (hTx : TX (xr Z tf) (g 3 1).toInt.toNat g) (hG : Gd Z tf) : Met l yX6_cost (Cond.code yX6_cost cX6_cost 3 (some .long) :: wsL_law) ({ frames := 3, cells := 0, slots := 0, locals := 64 } : Room) (va_Pc [.ref (za Z 0), .int x1] (XI Z g gl tf)) (rd_Ql (fun r => ((¬ ((0 ≤ x1.toInt ∧ x1.toInt ≤ 63) ∧ ¬ g 0 8 = 0) ∧ r = -101) ∨ (((0 ≤ x1.toInt ∧ x1.toInt ≤ 63) ∧ ¬ g 0 8 = 0) ∧ r = csF (xr Z tf) (g 10) x1.toInt.toNat)))) 0 0 (fun _ => False) := by
  refine Met.ofW (cc := cX6_cost) (maxL := 3) (ret := (some .long)) (by decide) rfl ?_
  intro p e s m args below meth c s₁ B hml hv
  obtain ⟨rfl, hI⟩ := hv
  have hx := B.exec
  have hb := B.bytes
  have hr := B.returns
  have hT : ∀ w ∈ wsL_law, w.before ([.ref (za Z 0), .int x1] : List Value).toArray s = true := fun w h => atoms_spec (ws := (Cond.code yX6_cost cX6_cost 3 (some .long) :: wsL_law)) B.pre w (List.mem_cons_of_mem _ h)
  have hown : s.vm.findClass RX6 = some m.cls := findClass_of_methodNamed B.named
  have hlocks := B.notSynchronized
  have hK := hI.2.1
  have hP := hI.1
  have hS : va_S (zA Z) s.heap s.heap [] := va_S.rf
  have hl := lv_entry ([.ref (za Z 0), .int x1]) (n := 3) (Nat.le_of_ble_eq_true rfl)
  rw [lg_entry_eq]
  generalize (lg_sl ([.ref (za Z 0), .int x1]) ++ List.replicate (3 - (lg_sl ([.ref (za Z 0), .int x1])).length) Slot.unset).toArray = ls at hl ⊢
  have hl : lv_has ls 3 [(0, .ref (za Z 0)), (1, .int x1)] := hl
  refine lv_iload_n hx hb dX6_cost_0 rfl (lv_at hl 1 rfl) ?_
  refine rd_ci (va_runS (As := [.int x1]) (rest := []) ⟨hx, hb, hml, hown, hT⟩ (c_X6_isQuantity l x1) (va_cwS 1 hT (tb_S (fun _ h => h) (tr_24 _ (List.mem_of_getElem? (i := 16) rfl)) (tr_20 _ (List.mem_of_getElem? (i := 19) rfl)) (tr_1 _ (List.mem_of_getElem? (i := 2) rfl)) (tr_20 _ (List.mem_of_getElem? (i := 20) rfl))) rfl rfl rfl (by decide +kernel) ⟨Nat.le_of_ble_eq_true rfl, Nat.le_of_ble_eq_true rfl⟩) ⟨fun _ _ _ _ q => q, fun U hU hW => ⟨rfl, trivial⟩⟩ rfl rfl hl.1 rfl (lv_room (Nat.le_of_ble_eq_true rfl)) dX6_cost_1 ⟨Nat.zero_le _, Nat.zero_le _⟩) (fun r_1 hr_1 => ?_)
  rcases hr_1 with ⟨rfl, b_1⟩ | ⟨rfl, b_1⟩
  · skip
    refine lv_if_eq (tgt := 14) hx hb dX6_cost_4 (by decide) (fun c_4 => absurd c_4 (by decide)) (fun c_4 => ?_)
    refine lv_aload_n hx hb dX6_cost_7 rfl (lv_at hl 0 rfl) ?_
    refine va_get (D := zD Z) (ci := 6) (v := .int (g 0 8)) (C := RX6) (T := TX6) (N := 11) hx hb hT inlX6 hown hK hP 0 xw_0 rfl 8 (by decide) (hT _ (tr_12 _ (List.mem_of_getElem? (i := 19) rfl))) (fun _ h9 => h9) rfl dX6_cost_8 ?_
    refine lv_if_ne (tgt := 18) hx hb dX6_cost_11 (by decide) (fun c_11 => ?_) (fun c_11 => ?_)
    · skip
      have i_11 := ti_nek rfl tk_0 c_11
      refine lv_aload_n hx hb dX6_cost_18 rfl (lv_at hl 0 rfl) ?_
      refine va_get (D := zD Z) (ci := 6) (v := .ref (za Z 5)) (C := RX6) (T := TX6) (N := 11) hx hb hT inlX6 hown hK hP 0 xw_0 rfl 2 (by decide) (hT _ (tr_1 _ (List.mem_of_getElem? (i := 23) rfl))) (fun _ h9 => h9) rfl dX6_cost_19 ?_
      refine lv_iload_n hx hb dX6_cost_22 rfl (lv_at hl 1 rfl) ?_
      refine rd_ci (va_runV (As := [.int x1]) (rest := []) ⟨hx, hb, hml, hown, hT⟩ (c_X5_lowestFor l Z hZ g gl tf x1 hG) (cwV 1 hT (tb_V (fun _ h => h) (tr_20 _ (List.mem_of_getElem? (i := 15) rfl)) (tr_20 _ (List.mem_of_getElem? (i := 16) rfl)) (tr_20 _ (List.mem_of_getElem? (i := 17) rfl)) (tr_1 _ (List.mem_of_getElem? (i := 22) rfl)) (tr_20 _ (List.mem_of_getElem? (i := 18) rfl))) rfl rfl rfl (by decide +kernel) ⟨Nat.le_of_ble_eq_true rfl, Nat.le_of_ble_eq_true rfl⟩) ⟨fun a U f mk q => ⟨q.1, XI.blind f mk a q.2⟩, va_recv hK hP (ci := 5) (q0 := 5) rfl xw_5, fun U hU hW => ⟨rfl, hI.at hS hP hU hW⟩⟩ rfl rfl hl.1 rfl (lv_room (Nat.le_of_ble_eq_true rfl)) dX6_cost_23 ⟨Nat.zero_le _, Nat.zero_le _⟩) (fun r_23 hr_23 => ?_)
      have e23 : r_23 = g 10 x1.toInt.toNat := hr_23 (by omega)
      have lo := hTx.lo (by omega) x1.toInt.toNat (by omega)
      rw [← e23] at lo
      refine lv_istore_n (lv' := [(2, .int r_23), (0, .ref (za Z 0)), (1, .int x1)]) hx hb dX6_cost_26 rfl hl (by decide) rfl (fun ls hl => ?_)
      refine lv_iload_n hx hb dX6_cost_27 rfl (lv_at hl 0 rfl) ?_
      refine lv_iconst (v := (-1)) hx hb dX6_cost_28 (by decide) ?_
      refine lv_icmp_ne (tgt := 38) hx hb dX6_cost_29 (by decide) (fun c_29 => ?_) (fun c_29 => ?_)
      · skip
        have i_29 := ti_nek rfl tk_m1 c_29
        have lo : 0 ≤ r_23.toInt ∧ r_23.toInt < 70 := lo.resolve_left c_29
        refine lv_ldc2 (v := 3000000000) hx hb hown (hT _ (tr_24 _ (List.mem_of_getElem? (i := 14) rfl))) dX6_cost_38 ?_
        refine lv_aload_n hx hb dX6_cost_41 rfl (lv_at hl 1 rfl) ?_
        refine va_get (D := zD Z) (ci := 6) (v := .ref (za Z 3)) (C := RX6) (T := TX6) (N := 11) hx hb hT inlX6 hown hK hP 0 xw_0 rfl 1 (by decide) (hT _ (tr_1 _ (List.mem_of_getElem? (i := 19) rfl))) (fun _ h9 => h9) rfl dX6_cost_42 ?_
        refine lv_iload_n hx hb dX6_cost_45 rfl (lv_at hl 0 rfl) ?_
        refine rd_cr (va_runV (As := [.int r_23]) (rest := [.long 3000000000]) ⟨hx, hb, hml, hown, hT⟩ (c_X4_at_3 l Z hZ g gl tf r_23 hG) (cwV 1 hT (tb_V (fun _ h => h) (tr_20 _ (List.mem_of_getElem? (i := 6) rfl)) (tr_14 _ (List.mem_of_getElem? (i := 14) rfl)) (tr_14 _ (List.mem_of_getElem? (i := 15) rfl)) (tr_1 _ (List.mem_of_getElem? (i := 18) rfl)) (tr_14 _ (List.mem_of_getElem? (i := 16) rfl))) rfl rfl rfl (by decide +kernel) ⟨Nat.le_of_ble_eq_true rfl, Nat.le_of_ble_eq_true rfl⟩) ⟨fun a U f mk q => ⟨q.1, XI.blind f mk a q.2⟩, va_recv hK hP (ci := 4) (q0 := 3) rfl xw_3, fun U hU hW => ⟨rfl, hI.at hS hP hU hW⟩⟩ rfl rfl hl.1 rfl (lv_room (Nat.le_of_ble_eq_true rfl)) dX6_cost_46 ⟨Nat.zero_le _, Nat.zero_le _⟩) (fun r_46 hr_46 => ?_)
        have e46 := hr_46.2 r_23.toInt.toNat (by omega) (by omega)
        subst e46
        refine lv_iload_n hx hb dX6_cost_49 rfl (lv_at hl 2 rfl) ?_
        obtain ⟨k_50, hk_50⟩ := xt_at (g := g) (gl := gl) (tf := tf) hr_46.1
        refine rd_cl (va_runV (As := [.int x1]) (rest := [.long 3000000000]) ⟨hx, hb, hml, hown, hT⟩ (c_X3_priceFor l Z hZ g gl tf (ro Z r_23.toInt.toNat) hr_46.1 x1 hG) (cwV 1 hT (tb_V (fun _ h => h) (tr_24 _ (List.mem_of_getElem? (i := 18) rfl)) (tr_16 _ (List.mem_of_getElem? (i := 6) rfl)) (tr_16 _ (List.mem_of_getElem? (i := 7) rfl)) (tr_2 _ (List.mem_of_getElem? (i := 10) rfl)) (tr_16 _ (List.mem_of_getElem? (i := 8) rfl))) rfl rfl rfl (by decide +kernel) ⟨Nat.le_of_ble_eq_true rfl, Nat.le_of_ble_eq_true rfl⟩) ⟨fun a U f mk q => ⟨q.1, XI.blind f mk a q.2⟩, va_recv hK hP (ci := 3) (q0 := k_50) rfl hk_50, fun U hU hW => ⟨rfl, hI.at hS hP hU hW⟩⟩ rfl rfl hl.1 rfl (lv_room (Nat.le_of_ble_eq_true rfl)) dX6_cost_50 ⟨Nat.zero_le _, Nat.zero_le _⟩) (fun r_50 hr_50 => ?_)
        refine lv_ladd hx hb dX6_cost_53 ?_
        refine lv_topl (fun v_53 e_53 => ?_)
        exact W.lret (v := v_53) hx hb hr (fun t ht hW => ⟨v_53, rfl, Or.inr ⟨⟨by omega, c_11⟩, by unfold csF; rw [if_neg (by rw [← e23]; exact c_29), e_53, hr_50 (by omega), ← e23, ← show x1 = nI x1.toInt.toNat from nI_ek (by omega)]; rfl⟩, ht⟩) (fun q hq => by cases hq) dX6_cost_54
      · skip
        have i_29 := ti_eqk rfl tk_m1 c_29
        refine lv_ldc2 (v := (-1)) hx hb hown (hT _ (tr_29 _ (List.mem_of_getElem? (i := 15) rfl))) dX6_cost_32 ?_
        refine lv_goto (tgt := 54) hx hb dX6_cost_35 (by decide) ?_
        exact W.lret (v := (-1)) hx hb hr (fun t ht hW => ⟨(-1), rfl, Or.inr ⟨⟨by omega, c_11⟩, by unfold csF; rw [if_pos (by rw [← e23]; exact c_29)]⟩, ht⟩) (fun q hq => by cases hq) dX6_cost_54
    · skip
      have i_11 := ti_eqk rfl tk_0 c_11
      refine lv_ldc2 (v := (-101)) hx hb hown (hT _ (tr_24 _ (List.mem_of_getElem? (i := 13) rfl))) dX6_cost_14 ?_
      exact W.lret (v := (-101)) hx hb hr (fun t ht hW => ⟨(-101), rfl, Or.inl ⟨fun z => by first | exact z.2 c_11 | omega, rfl⟩, ht⟩) (fun q hq => by cases hq) dX6_cost_17
  · skip
    refine lv_if_eq (tgt := 14) hx hb dX6_cost_4 (by decide) (fun c_4 => ?_) (fun c_4 => absurd c_4 (by decide))
    refine lv_ldc2 (v := (-101)) hx hb hown (hT _ (tr_24 _ (List.mem_of_getElem? (i := 13) rfl))) dX6_cost_14 ?_
    exact W.lret (v := (-101)) hx hb hr (fun t ht hW => ⟨(-101), rfl, Or.inl ⟨fun z => by first | exact z.2 c_11 | omega, rfl⟩, ht⟩) (fun q hq => by cases hq) dX6_cost_17
set_option maxHeartbeats 4000000 in
set_option maxRecDepth 100000 in
theorem c_X6_piece (l : Launch) (Z : ZT) (hZ : XG Z) (g : Nat → Nat → Int32) (gl : Nat → Nat → Int64) (tf : Nat → Nat → Int32) (x1 : Int32) (x2 : Int32) (hG : Gd Z tf) : Met l yX6_piece (Cond.code yX6_piece cX6_piece 4 (some .int) :: wsL_law) ({ frames := 4, cells := 0, slots := 0, locals := 86 } : Room) (va_Pc [.ref (za Z 0), .int x1, .int x2] (XI Z g gl tf)) (rd_Qi (fun r => ((¬ (0 ≤ x1.toInt ∧ x1.toInt < (cB (fpB (g 10)) 64 : Int)) ∧ r = -101) ∨ (∃ q, pcP (g 10) x1.toInt.toNat q ∧ 0 ≤ x1.toInt ∧ ((x2.toInt = 0 ∧ r = g 10 q) ∨ (x2.toInt = 1 ∧ r.toInt = (q : Int)) ∨ (x2.toInt = 2 ∧ ∃ l, laP (g 10) q l ∧ r.toInt = (l : Int)) ∨ (¬ (0 ≤ x2.toInt ∧ x2.toInt ≤ 2) ∧ r = -102)))))) 0 0 (fun _ => False) := by
  refine Met.ofW (cc := cX6_piece) (maxL := 4) (ret := (some .int)) (by decide) rfl ?_
  intro p e s m args below meth c s₁ B hml hv
  obtain ⟨rfl, hI⟩ := hv
  have hx := B.exec
  have hb := B.bytes
  have hr := B.returns
  have hT : ∀ w ∈ wsL_law, w.before ([.ref (za Z 0), .int x1, .int x2] : List Value).toArray s = true := fun w h => atoms_spec (ws := (Cond.code yX6_piece cX6_piece 4 (some .int) :: wsL_law)) B.pre w (List.mem_cons_of_mem _ h)
  have hown : s.vm.findClass RX6 = some m.cls := findClass_of_methodNamed B.named
  have hlocks := B.notSynchronized
  have hK := hI.2.1
  have hP := hI.1
  have hS : va_S (zA Z) s.heap s.heap [] := va_S.rf
  have hl := lv_entry ([.ref (za Z 0), .int x1, .int x2]) (n := 4) (Nat.le_of_ble_eq_true rfl)
  rw [lg_entry_eq]
  generalize (lg_sl ([.ref (za Z 0), .int x1, .int x2]) ++ List.replicate (4 - (lg_sl ([.ref (za Z 0), .int x1, .int x2])).length) Slot.unset).toArray = ls at hl ⊢
  have hl : lv_has ls 4 [(0, .ref (za Z 0)), (1, .int x1), (2, .int x2)] := hl
  refine lv_aload_n hx hb dX6_piece_0 rfl (lv_at hl 0 rfl) ?_
  refine lv_iload_n hx hb dX6_piece_1 rfl (lv_at hl 1 rfl) ?_
  refine rd_ci (va_runV (As := [.int x1]) (rest := []) ⟨hx, hb, hml, hown, hT⟩ (c_X6_firstOfPiece l Z hZ g gl tf x1 hG) (cwV 1 hT (tb_V (fun _ h => h) (tr_30 _ (List.mem_of_getElem? (i := 5) rfl)) (tr_30 _ (List.mem_of_getElem? (i := 6) rfl)) (tr_30 _ (List.mem_of_getElem? (i := 7) rfl)) (tr_1 _ (List.mem_of_getElem? (i := 2) rfl)) (tr_30 _ (List.mem_of_getElem? (i := 8) rfl))) rfl rfl rfl (by decide +kernel) ⟨Nat.le_of_ble_eq_true rfl, Nat.le_of_ble_eq_true rfl⟩) ⟨fun a U f mk q => ⟨q.1, XI.blind f mk a q.2⟩, va_recv hK hP (ci := 6) (q0 := 0) rfl xw_0, fun U hU hW => ⟨rfl, hI.at hS hP hU hW⟩⟩ rfl rfl hl.1 rfl (lv_room (Nat.le_of_ble_eq_true rfl)) dX6_piece_2 ⟨Nat.zero_le _, Nat.zero_le _⟩) (fun r_2 hr_2 => ?_)
  refine lv_istore_n (lv' := [(3, .int r_2), (0, .ref (za Z 0)), (1, .int x1), (2, .int x2)]) hx hb dX6_piece_5 rfl hl (by decide) rfl (fun ls hl => ?_)
  refine lv_iload_n hx hb dX6_piece_6 rfl (lv_at hl 0 rfl) ?_
  refine lv_iconst (v := (-1)) hx hb dX6_piece_7 (by decide) ?_
  refine lv_icmp_ne (tgt := 14) hx hb dX6_piece_8 (by decide) (fun c_8 => ?_) (fun c_8 => ?_)
  · skip
    have i_8 := ti_nek rfl tk_m1 c_8
    obtain ⟨qq, q1, q2, q3⟩ : ∃ q, pcP (g 10) x1.toInt.toNat q ∧ 0 ≤ x1.toInt ∧ r_2.toInt = (q : Int) := by rcases hr_2 with w | w; exact w; exact absurd w.1 c_8
    have q4 := q1.1
    refine lv_iload_n hx hb dX6_piece_14 rfl (lv_at hl 3 rfl) ?_
    by_cases w_15_0 : x2 = 0
    · skip
      refine lv_tableIn (tgt := 40) (off := 25) hx hb dX6_piece_15 (by rw [w_15_0]; decide) (by rw [w_15_0]; decide) (by rw [w_15_0]; decide) (by decide) ?_
      refine lv_aload_n hx hb dX6_piece_40 rfl (lv_at hl 1 rfl) ?_
      refine va_get (D := zD Z) (ci := 6) (v := .ref (za Z 5)) (C := RX6) (T := TX6) (N := 11) hx hb hT inlX6 hown hK hP 0 xw_0 rfl 2 (by decide) (hT _ (tr_1 _ (List.mem_of_getElem? (i := 23) rfl))) (fun _ h9 => h9) rfl dX6_piece_41 ?_
      refine lv_iload_n hx hb dX6_piece_44 rfl (lv_at hl 0 rfl) ?_
      refine rd_ci (va_runV (As := [.int r_2]) (rest := []) ⟨hx, hb, hml, hown, hT⟩ (c_X5_lowestFor l Z hZ g gl tf r_2 hG) (cwV 1 hT (tb_V (fun _ h => h) (tr_20 _ (List.mem_of_getElem? (i := 15) rfl)) (tr_20 _ (List.mem_of_getElem? (i := 16) rfl)) (tr_20 _ (List.mem_of_getElem? (i := 17) rfl)) (tr_1 _ (List.mem_of_getElem? (i := 22) rfl)) (tr_20 _ (List.mem_of_getElem? (i := 18) rfl))) rfl rfl rfl (by decide +kernel) ⟨Nat.le_of_ble_eq_true rfl, Nat.le_of_ble_eq_true rfl⟩) ⟨fun a U f mk q => ⟨q.1, XI.blind f mk a q.2⟩, va_recv hK hP (ci := 5) (q0 := 5) rfl xw_5, fun U hU hW => ⟨rfl, hI.at hS hP hU hW⟩⟩ rfl rfl hl.1 rfl (lv_room (Nat.le_of_ble_eq_true rfl)) dX6_piece_45 ⟨Nat.zero_le _, Nat.zero_le _⟩) (fun r_45 hr_45 => ?_)
      exact W.iret (v := r_45) hx hb hr (fun t ht hW => ⟨r_45, rfl, Or.inr ⟨qq, q1, q2, Or.inl ⟨by rw [w_15_0]; rfl, by rw [hr_45 (by omega), show r_2.toInt.toNat = qq by omega]⟩⟩, ht⟩) (fun q hq => by cases hq) dX6_piece_48
    by_cases w_15_1 : x2 = 1
    · skip
      refine lv_tableIn (tgt := 49) (off := 34) hx hb dX6_piece_15 (by rw [w_15_1]; decide) (by rw [w_15_1]; decide) (by rw [w_15_1]; decide) (by decide) ?_
      refine lv_iload_n hx hb dX6_piece_49 rfl (lv_at hl 0 rfl) ?_
      exact W.iret (v := r_2) hx hb hr (fun t ht hW => ⟨r_2, rfl, Or.inr ⟨qq, q1, q2, Or.inr (Or.inl ⟨by rw [w_15_1]; rfl, q3⟩)⟩, ht⟩) (fun q hq => by cases hq) dX6_piece_50
    by_cases w_15_2 : x2 = 2
    · skip
      refine lv_tableIn (tgt := 51) (off := 36) hx hb dX6_piece_15 (by rw [w_15_2]; decide) (by rw [w_15_2]; decide) (by rw [w_15_2]; decide) (by decide) ?_
      refine lv_aload_n hx hb dX6_piece_51 rfl (lv_at hl 1 rfl) ?_
      refine lv_iload_n hx hb dX6_piece_52 rfl (lv_at hl 0 rfl) ?_
      refine rd_ci (va_runV (As := [.int r_2]) (rest := []) ⟨hx, hb, hml, hown, hT⟩ (c_X6_lastOfPiece l Z hZ g gl tf r_2 (by omega) hG) (cwV 1 hT (tb_V (fun _ h => h) (tr_30 _ (List.mem_of_getElem? (i := 13) rfl)) (tr_30 _ (List.mem_of_getElem? (i := 14) rfl)) (tr_30 _ (List.mem_of_getElem? (i := 15) rfl)) (tr_1 _ (List.mem_of_getElem? (i := 2) rfl)) (tr_30 _ (List.mem_of_getElem? (i := 16) rfl))) rfl rfl rfl (by decide +kernel) ⟨Nat.le_of_ble_eq_true rfl, Nat.le_of_ble_eq_true rfl⟩) ⟨fun a U f mk q => ⟨q.1, XI.blind f mk a q.2⟩, va_recv hK hP (ci := 6) (q0 := 0) rfl xw_0, fun U hU hW => ⟨rfl, hI.at hS hP hU hW⟩⟩ rfl rfl hl.1 rfl (lv_room (Nat.le_of_ble_eq_true rfl)) dX6_piece_53 ⟨Nat.zero_le _, Nat.zero_le _⟩) (fun r_53 hr_53 => ?_)
      exact W.iret (v := r_53) hx hb hr (fun t ht hW => ⟨r_53, rfl, Or.inr ⟨qq, q1, q2, Or.inr (Or.inr (Or.inl ⟨by rw [w_15_2]; rfl, by rw [show r_2.toInt.toNat = qq by omega] at hr_53; exact hr_53⟩))⟩, ht⟩) (fun q hq => by cases hq) dX6_piece_56
    have n_15_0 := ti_nek rfl tk_0 w_15_0
    have n_15_1 := ti_nek rfl tk_1 w_15_1
    have n_15_2 := ti_nek rfl tk_2 w_15_2
    refine lv_tableOut (tgt := 57) hx hb dX6_piece_15 (by omega) (by decide) ?_
    refine lv_bipush (v := (-102)) hx hb dX6_piece_57 (by decide) ?_
    exact W.iret (v := (-102)) hx hb hr (fun t ht hW => ⟨(-102), rfl, Or.inr ⟨qq, q1, q2, Or.inr (Or.inr (Or.inr ⟨by omega, rfl⟩))⟩, ht⟩) (fun q hq => by cases hq) dX6_piece_59
  · skip
    have i_8 := ti_eqk rfl tk_m1 c_8
    refine lv_bipush (v := (-101)) hx hb dX6_piece_11 (by decide) ?_
    exact W.iret (v := (-101)) hx hb hr (fun t ht hW => ⟨(-101), rfl, (by (try dsimp only); rcases hr_2 with ⟨q, w1, w2, w3⟩ | w; (exfalso; omega); exact Or.inl ⟨w.2, rfl⟩), ht⟩) (fun q hq => by cases hq) dX6_piece_13
