theorem jk_no {x : Int} (h : ∀ j : Nat, j < 5 → ¬ (kLs.getD j 0).toInt = x) : ¬ (x = 116 ∨ x = 102 ∨ x = 115 ∨ x = 98 ∨ x = 111) := by
  have h0 := h 0 (by decide); have h1 := h 1 (by decide); have h2 := h 2 (by decide); have h3 := h 3 (by decide); have h4 := h 4 (by decide)
  rw [show (kLs.getD 0 0).toInt = 116 by decide] at h0
  rw [show (kLs.getD 1 0).toInt = 102 by decide] at h1
  rw [show (kLs.getD 2 0).toInt = 115 by decide] at h2
  rw [show (kLs.getD 3 0).toInt = 98 by decide] at h3
  rw [show (kLs.getD 4 0).toInt = 111 by decide] at h4
  omega
theorem jk_yes {x : Int} {j : Nat} (hj : j < 5) (h : (kLs.getD j 0).toInt = x) : x = 116 ∨ x = 102 ∨ x = 115 ∨ x = 98 ∨ x = 111 := by
  subst h
  match j, hj with
  | 0, _ => decide
  | 1, _ => decide
  | 2, _ => decide
  | 3, _ => decide
  | 4, _ => decide
set_option maxHeartbeats 4000000 in
set_option maxRecDepth 100000 in
theorem c_J0_coder_7d493 (l : Launch) (Z : ZT) (hZ : XG Z) (g : Nat → Nat → Int32) (gl : Nat → Nat → Int64) (tf : Nat → Nat → Int32)  (hG : Gd Z tf) : Met l yJ0_coder_7d493 (Cond.code yJ0_coder_7d493 cJ0_coder_7d493 1 (some .byte) :: wsL_law) ({ frames := 0, cells := 0, slots := 0, locals := 0 } : Room) (va_Pc [.ref (zK Z)] (XI Z g gl tf)) (rd_Qi (fun r => r = 0)) 0 0 (fun _ => False) := by
  refine Met.ofW (cc := cJ0_coder_7d493) (maxL := 1) (ret := (some .byte)) (by decide) rfl ?_
  intro p e s m args below meth c s₁ B hml hv
  obtain ⟨rfl, hI⟩ := hv
  have hx := B.exec
  have hb := B.bytes
  have hr := B.returns
  have hT : ∀ w ∈ wsL_law, w.before ([.ref (zK Z)] : List Value).toArray s = true := fun w h => atoms_spec (ws := (Cond.code yJ0_coder_7d493 cJ0_coder_7d493 1 (some .byte) :: wsL_law)) B.pre w (List.mem_cons_of_mem _ h)
  have hown : s.vm.findClass RJ0 = some m.cls := findClass_of_methodNamed B.named
  have hlocks := B.notSynchronized
  have hK := hI.2.1
  have hP := hI.1
  have hS : va_S (zA Z) s.heap s.heap [] := va_S.rf
  have hs0 : va_OF "java/lang/String" "coder" "B" (.int 0) (zK Z) (zA Z) s s.heap := (hI.2.2.2.2.1.1 0 (by decide)).2.1
  have hs1 : va_OF "java/lang/String" "value" "[B" (.ref (zV Z)) (zK Z) (zA Z) s s.heap := (hI.2.2.2.2.1.1 0 (by decide)).2.2.1
  have hs2 : va_T .byte (zV Z) 5 (fun j => .int (kLs.getD j 0)) (zA Z) s s.heap := (hI.2.2.2.2.1.1 0 (by decide)).2.2.2
  have hl := lv_entry ([.ref (zK Z)]) (n := 1) (Nat.le_of_ble_eq_true rfl)
  rw [lg_entry_eq]
  generalize (lg_sl ([.ref (zK Z)]) ++ List.replicate (1 - (lg_sl ([.ref (zK Z)])).length) Slot.unset).toArray = ls at hl ⊢
  have hl : lv_has ls 1 [(0, .ref (zK Z))] := hl
  refine va_gets hx hb hI.2.2.2.2.2 hS hown (hT _ (tr_7 _ (List.mem_of_getElem? (i := 17) rfl))) (fun _ h9 => h9) dJ0_coder_7d493_0 ?_
  refine lv_if_eq (tgt := 13) hx hb dJ0_coder_7d493_3 (by decide) (fun c_3 => absurd c_3 (by decide)) (fun c_3 => ?_)
  refine lv_aload_n hx hb dJ0_coder_7d493_6 rfl (lv_at hl 0 rfl) ?_
  refine vk_getf hx hb hs0 hS hown (hT _ (tr_7 _ (List.mem_of_getElem? (i := 18) rfl))) (fun _ h9 => h9) dJ0_coder_7d493_7 ?_
  refine lv_goto (tgt := 14) hx hb dJ0_coder_7d493_10 (by decide) ?_
  exact W.zret (v := 0) (ty := .byte) hx hb hr rfl (fun t ht hW => ⟨0, rfl, rfl, ht⟩) (fun q hq => by cases hq) dJ0_coder_7d493_14
set_option maxHeartbeats 4000000 in
set_option maxRecDepth 100000 in
theorem c_J0_isLatin1_aae02 (l : Launch) (Z : ZT) (hZ : XG Z) (g : Nat → Nat → Int32) (gl : Nat → Nat → Int64) (tf : Nat → Nat → Int32)  (hG : Gd Z tf) : Met l yJ0_isLatin1_aae02 (Cond.code yJ0_isLatin1_aae02 cJ0_isLatin1_aae02 1 (some .boolean) :: wsL_law) ({ frames := 0, cells := 0, slots := 0, locals := 0 } : Room) (va_Pc [.ref (zK Z)] (XI Z g gl tf)) (rd_Qi (fun r => (r = 1 ∧ True) ∨ (r = 0 ∧ False))) 0 0 (fun _ => False) := by
  refine Met.ofW (cc := cJ0_isLatin1_aae02) (maxL := 1) (ret := (some .boolean)) (by decide) rfl ?_
  intro p e s m args below meth c s₁ B hml hv
  obtain ⟨rfl, hI⟩ := hv
  have hx := B.exec
  have hb := B.bytes
  have hr := B.returns
  have hT : ∀ w ∈ wsL_law, w.before ([.ref (zK Z)] : List Value).toArray s = true := fun w h => atoms_spec (ws := (Cond.code yJ0_isLatin1_aae02 cJ0_isLatin1_aae02 1 (some .boolean) :: wsL_law)) B.pre w (List.mem_cons_of_mem _ h)
  have hown : s.vm.findClass RJ0 = some m.cls := findClass_of_methodNamed B.named
  have hlocks := B.notSynchronized
  have hK := hI.2.1
  have hP := hI.1
  have hS : va_S (zA Z) s.heap s.heap [] := va_S.rf
  have hs0 : va_OF "java/lang/String" "coder" "B" (.int 0) (zK Z) (zA Z) s s.heap := (hI.2.2.2.2.1.1 0 (by decide)).2.1
  have hs1 : va_OF "java/lang/String" "value" "[B" (.ref (zV Z)) (zK Z) (zA Z) s s.heap := (hI.2.2.2.2.1.1 0 (by decide)).2.2.1
  have hs2 : va_T .byte (zV Z) 5 (fun j => .int (kLs.getD j 0)) (zA Z) s s.heap := (hI.2.2.2.2.1.1 0 (by decide)).2.2.2
  have hl := lv_entry ([.ref (zK Z)]) (n := 1) (Nat.le_of_ble_eq_true rfl)
  rw [lg_entry_eq]
  generalize (lg_sl ([.ref (zK Z)]) ++ List.replicate (1 - (lg_sl ([.ref (zK Z)])).length) Slot.unset).toArray = ls at hl ⊢
  have hl : lv_has ls 1 [(0, .ref (zK Z))] := hl
  refine va_gets hx hb hI.2.2.2.2.2 hS hown (hT _ (tr_7 _ (List.mem_of_getElem? (i := 17) rfl))) (fun _ h9 => h9) dJ0_isLatin1_aae02_0 ?_
  refine lv_if_eq (tgt := 17) hx hb dJ0_isLatin1_aae02_3 (by decide) (fun c_3 => absurd c_3 (by decide)) (fun c_3 => ?_)
  refine lv_aload_n hx hb dJ0_isLatin1_aae02_6 rfl (lv_at hl 0 rfl) ?_
  refine vk_getf hx hb hs0 hS hown (hT _ (tr_7 _ (List.mem_of_getElem? (i := 18) rfl))) (fun _ h9 => h9) dJ0_isLatin1_aae02_7 ?_
  refine lv_if_ne (tgt := 17) hx hb dJ0_isLatin1_aae02_10 (by decide) (fun c_10 => absurd c_10 (by decide)) (fun c_10 => ?_)
  refine lv_iconst (v := 1) hx hb dJ0_isLatin1_aae02_13 (by decide) ?_
  refine lv_goto (tgt := 18) hx hb dJ0_isLatin1_aae02_14 (by decide) ?_
  exact W.zret (v := 1) (ty := .boolean) hx hb hr rfl (fun t ht hW => ⟨1, rfl, Or.inl ⟨rfl, trivial⟩, ht⟩) (fun q hq => by cases hq) dJ0_isLatin1_aae02_18
set_option maxHeartbeats 4000000 in
set_option maxRecDepth 100000 in
theorem c_J0_length_8abf5 (l : Launch) (Z : ZT) (hZ : XG Z) (g : Nat → Nat → Int32) (gl : Nat → Nat → Int64) (tf : Nat → Nat → Int32)  (hG : Gd Z tf) : Met l yJ0_length_8abf5 (Cond.code yJ0_length_8abf5 cJ0_length_8abf5 1 (some .int) :: wsL_law) ({ frames := 1, cells := 0, slots := 0, locals := 20 } : Room) (va_Pc [.ref (zK Z)] (XI Z g gl tf)) (rd_Qi (fun r => r.toInt = 5)) 0 0 (fun _ => False) := by
  refine Met.ofW (cc := cJ0_length_8abf5) (maxL := 1) (ret := (some .int)) (by decide) rfl ?_
  intro p e s m args below meth c s₁ B hml hv
  obtain ⟨rfl, hI⟩ := hv
  have hx := B.exec
  have hb := B.bytes
  have hr := B.returns
  have hT : ∀ w ∈ wsL_law, w.before ([.ref (zK Z)] : List Value).toArray s = true := fun w h => atoms_spec (ws := (Cond.code yJ0_length_8abf5 cJ0_length_8abf5 1 (some .int) :: wsL_law)) B.pre w (List.mem_cons_of_mem _ h)
  have hown : s.vm.findClass RJ0 = some m.cls := findClass_of_methodNamed B.named
  have hlocks := B.notSynchronized
  have hK := hI.2.1
  have hP := hI.1
  have hS : va_S (zA Z) s.heap s.heap [] := va_S.rf
  have hs0 : va_OF "java/lang/String" "coder" "B" (.int 0) (zK Z) (zA Z) s s.heap := (hI.2.2.2.2.1.1 0 (by decide)).2.1
  have hs1 : va_OF "java/lang/String" "value" "[B" (.ref (zV Z)) (zK Z) (zA Z) s s.heap := (hI.2.2.2.2.1.1 0 (by decide)).2.2.1
  have hs2 : va_T .byte (zV Z) 5 (fun j => .int (kLs.getD j 0)) (zA Z) s s.heap := (hI.2.2.2.2.1.1 0 (by decide)).2.2.2
  have hl := lv_entry ([.ref (zK Z)]) (n := 1) (Nat.le_of_ble_eq_true rfl)
  rw [lg_entry_eq]
  generalize (lg_sl ([.ref (zK Z)]) ++ List.replicate (1 - (lg_sl ([.ref (zK Z)])).length) Slot.unset).toArray = ls at hl ⊢
  have hl : lv_has ls 1 [(0, .ref (zK Z))] := hl
  refine lv_aload_n hx hb dJ0_length_8abf5_0 rfl (lv_at hl 0 rfl) ?_
  refine vk_getf hx hb hs1 hS hown (hT _ (tr_7 _ (List.mem_of_getElem? (i := 12) rfl))) (fun _ h9 => h9) dJ0_length_8abf5_1 ?_
  refine va_tlen hx hb hs2 hS (v := 5) rfl dJ0_length_8abf5_4 ?_
  refine lv_aload_n hx hb dJ0_length_8abf5_5 rfl (lv_at hl 0 rfl) ?_
  refine rd_ci (va_runV (As := []) (rest := [.int 5]) ⟨hx, hb, hml, hown, hT⟩ (c_J0_coder_7d493 l Z hZ g gl tf hG) (cwV 0 hT (tb_V (fun _ h => h) (tr_7 _ (List.mem_of_getElem? (i := 23) rfl)) (tr_8 _ (List.mem_of_getElem? (i := 0) rfl)) (tr_8 _ (List.mem_of_getElem? (i := 1) rfl)) (tr_7 _ (List.mem_of_getElem? (i := 6) rfl)) (tr_8 _ (List.mem_of_getElem? (i := 2) rfl))) rfl rfl rfl (by decide +kernel) ⟨Nat.le_of_ble_eq_true rfl, Nat.le_of_ble_eq_true rfl⟩) ⟨fun a U f mk q => ⟨q.1, XI.blind f mk a q.2⟩, vk_recv hI.2.2.2.2.1 (i := 0) (by decide) hS, fun U hU hW => ⟨rfl, hI.at hS hP hU hW⟩⟩ rfl rfl hl.1 rfl (lv_room (Nat.le_of_ble_eq_true rfl)) dJ0_length_8abf5_6 ⟨Nat.zero_le _, Nat.zero_le _⟩) (fun r_6 hr_6 => ?_)
  subst hr_6
  refine lv_ishr hx hb dJ0_length_8abf5_9 ?_
  refine lv_topi (fun v_9 e_9 => ?_)
  exact W.iret (v := v_9) hx hb hr (fun t ht hW => ⟨v_9, rfl, (by (try dsimp only); rw [e_9]; decide), ht⟩) (fun q hq => by cases hq) dJ0_length_8abf5_10
set_option maxHeartbeats 4000000 in
set_option maxRecDepth 100000 in
theorem c_J1_canEncode_9a6ad (l : Launch) (x1 : Int32) : Met l yJ1_canEncode_9a6ad (Cond.code yJ1_canEncode_9a6ad cJ1_canEncode_9a6ad 1 (some .boolean) :: wsL_law) ({ frames := 0, cells := 0, slots := 0, locals := 0 } : Room) (va_Pc [.int x1] (fun _ => True)) (rd_Qi (fun r => (r = 1 ∧ True) ∨ (r = 0 ∧ ¬ (0 ≤ x1.toInt ∧ x1.toInt ≤ 126)))) 0 0 (fun _ => False) := by
  refine Met.ofW (cc := cJ1_canEncode_9a6ad) (maxL := 1) (ret := (some .boolean)) (by decide) rfl ?_
  intro p e s m args below meth c s₁ B hml hv
  obtain ⟨rfl, hI⟩ := hv
  have hx := B.exec
  have hb := B.bytes
  have hr := B.returns
  have hT : ∀ w ∈ wsL_law, w.before ([.int x1] : List Value).toArray s = true := fun w h => atoms_spec (ws := (Cond.code yJ1_canEncode_9a6ad cJ1_canEncode_9a6ad 1 (some .boolean) :: wsL_law)) B.pre w (List.mem_cons_of_mem _ h)
  have hown : s.vm.findClass RJ1 = some m.cls := findClass_of_methodNamed B.named
  have hlocks := B.notSynchronized
  have hl := lv_entry ([.int x1]) (n := 1) (Nat.le_of_ble_eq_true rfl)
  rw [lg_entry_eq]
  generalize (lg_sl ([.int x1]) ++ List.replicate (1 - (lg_sl ([.int x1])).length) Slot.unset).toArray = ls at hl ⊢
  have hl : lv_has ls 1 [(0, .int x1)] := hl
  refine lv_iload_n hx hb dJ1_canEncode_9a6ad_0 rfl (lv_at hl 0 rfl) ?_
  refine lv_if_lt (tgt := 15) hx hb dJ1_canEncode_9a6ad_1 (by decide) (fun c_1 => ?_) (fun c_1 => ?_)
  · skip
    have i_1 := ti_ltk rfl tk_0 c_1
    refine lv_iconst (v := 0) hx hb dJ1_canEncode_9a6ad_15 (by decide) ?_
    exact W.zret (v := 0) (ty := .boolean) hx hb hr rfl (fun t ht hW => ⟨0, rfl, Or.inr ⟨rfl, (by first | assumption | omega | decide)⟩, ht⟩) (fun q hq => by cases hq) dJ1_canEncode_9a6ad_16
  · skip
    have i_1 := ti_nltk rfl tk_0 c_1
    refine lv_iload_n hx hb dJ1_canEncode_9a6ad_4 rfl (lv_at hl 0 rfl) ?_
    refine lv_sipush (v := 255) hx hb dJ1_canEncode_9a6ad_5 (by decide) ?_
    refine lv_icmp_gt (tgt := 15) hx hb dJ1_canEncode_9a6ad_8 (by decide) (fun c_8 => ?_) (fun c_8 => ?_)
    · skip
      have i_8 := ti_ltk tk_255 rfl c_8
      refine lv_iconst (v := 0) hx hb dJ1_canEncode_9a6ad_15 (by decide) ?_
      exact W.zret (v := 0) (ty := .boolean) hx hb hr rfl (fun t ht hW => ⟨0, rfl, Or.inr ⟨rfl, (by first | assumption | omega | decide)⟩, ht⟩) (fun q hq => by cases hq) dJ1_canEncode_9a6ad_16
    · skip
      have i_8 := ti_nltk tk_255 rfl c_8
      refine lv_iconst (v := 1) hx hb dJ1_canEncode_9a6ad_11 (by decide) ?_
      refine lv_goto (tgt := 16) hx hb dJ1_canEncode_9a6ad_12 (by decide) ?_
      exact W.zret (v := 1) (ty := .boolean) hx hb hr rfl (fun t ht hW => ⟨1, rfl, Or.inl ⟨rfl, trivial⟩, ht⟩) (fun q hq => by cases hq) dJ1_canEncode_9a6ad_16
set_option maxHeartbeats 4000000 in
set_option maxRecDepth 100000 in
theorem c_J1_indexOfChar_4cfef (l : Launch) (Z : ZT) (hZ : XG Z) (g : Nat → Nat → Int32) (gl : Nat → Nat → Int64) (tf : Nat → Nat → Int32) (x1 : Int32) (x2 : Int32) (x3 : Int32) (h1 : 0 ≤ x1.toInt ∧ x1.toInt ≤ 126) (h2 : x2.toInt = 0) (h3 : x3.toInt = 5) (hG : Gd Z tf) : Met l yJ1_indexOfChar_4cfef (Cond.code yJ1_indexOfChar_4cfef cJ1_indexOfChar_4cfef 6 (some .int) :: wsL_law) ({ frames := 0, cells := 0, slots := 0, locals := 0 } : Room) (va_Pc [.ref (zV Z), .int x1, .int x2, .int x3] (XI Z g gl tf)) (rd_Qi (fun r => r = kdF x1)) 0 0 (fun _ => False) := by
  refine Met.ofW (cc := cJ1_indexOfChar_4cfef) (maxL := 6) (ret := (some .int)) (by decide) rfl ?_
  intro p e s m args below meth c s₁ B hml hv
  obtain ⟨rfl, hI⟩ := hv
  have hx := B.exec
  have hb := B.bytes
  have hr := B.returns
  have hT : ∀ w ∈ wsL_law, w.before ([.ref (zV Z), .int x1, .int x2, .int x3] : List Value).toArray s = true := fun w h => atoms_spec (ws := (Cond.code yJ1_indexOfChar_4cfef cJ1_indexOfChar_4cfef 6 (some .int) :: wsL_law)) B.pre w (List.mem_cons_of_mem _ h)
  have hown : s.vm.findClass RJ1 = some m.cls := findClass_of_methodNamed B.named
  have hlocks := B.notSynchronized
  have hK := hI.2.1
  have hP := hI.1
  have hS : va_S (zA Z) s.heap s.heap [] := va_S.rf
  have hs0 : va_OF "java/lang/String" "coder" "B" (.int 0) (zK Z) (zA Z) s s.heap := (hI.2.2.2.2.1.1 0 (by decide)).2.1
  have hs1 : va_OF "java/lang/String" "value" "[B" (.ref (zV Z)) (zK Z) (zA Z) s s.heap := (hI.2.2.2.2.1.1 0 (by decide)).2.2.1
  have hs2 : va_T .byte (zV Z) 5 (fun j => .int (kLs.getD j 0)) (zA Z) s s.heap := (hI.2.2.2.2.1.1 0 (by decide)).2.2.2
  have hl := lv_entry ([.ref (zV Z), .int x1, .int x2, .int x3]) (n := 6) (Nat.le_of_ble_eq_true rfl)
  rw [lg_entry_eq]
  generalize (lg_sl ([.ref (zV Z), .int x1, .int x2, .int x3]) ++ List.replicate (6 - (lg_sl ([.ref (zV Z), .int x1, .int x2, .int x3])).length) Slot.unset).toArray = ls at hl ⊢
  have hl : lv_has ls 6 [(0, .ref (zV Z)), (1, .int x1), (2, .int x2), (3, .int x3)] := hl
  have L7 : ∀ (n : Nat) (z4 : Int32) (z5 : Int32)  (h4 : z4 = x1) (h5 : 0 ≤ z5.toInt ∧ z5.toInt ≤ 5) (h6 : ∀ j : Nat, (j : Int) < z5.toInt → ¬ (kLs.getD j 0).toInt = x1.toInt) (hn : (5 - z5.toInt).toNat < n) (ls : Array Slot) (hl : lv_has ls 6 [(0, .ref (zV Z)), (1, .int x1), (2, .int x2), (3, .int x3), (4, .int z4), (5, .int z5)]), W p l e ({ frames := 0, cells := 0, slots := 0, locals := 0 } : Room) s m ([.ref (zV Z), .int x1, .int x2, .int x3] : List Value).toArray below meth c s.heap [] 0 0 (MQ below (rd_Qi (fun r => r = kdF x1)) ([.ref (zV Z), .int x1, .int x2, .int x3] : List Value).toArray s 0 0 (fun _ => False)) (F0 m 7 ls []) := by
    intro n
    induction n with
    | zero => intro z4 z5 h4 h5 h6 hn; exact absurd hn (Nat.not_lt_zero _)
    | succ n ih7 =>
      intro z4 z5 h4 h5 h6 hn ls hl
      refine lv_iload hx hb dJ1_indexOfChar_4cfef_7 (lv_at hl 5 rfl) ?_
      refine lv_iload_n hx hb dJ1_indexOfChar_4cfef_9 rfl (lv_at hl 3 rfl) ?_
      refine lv_icmp_ge (tgt := 31) hx hb dJ1_indexOfChar_4cfef_10 (by decide) (fun c_10 => ?_) (fun c_10 => ?_)
      · skip
        have i_10 := ti_lek rfl rfl c_10
        refine lv_iconst (v := (-1)) hx hb dJ1_indexOfChar_4cfef_31 (by decide) ?_
        exact W.iret (v := (-1)) hx hb hr (fun t ht hW => ⟨(-1), rfl, (by (try dsimp only); rw [jk_out (x := x1) (fun j hj => h6 j (by omega))]), ht⟩) (fun q hq => by cases hq) dJ1_indexOfChar_4cfef_32
      · skip
        have i_10 := ti_nlek rfl rfl c_10
        refine lv_aload_n hx hb dJ1_indexOfChar_4cfef_13 rfl (lv_at hl 0 rfl) ?_
        refine lv_iload hx hb dJ1_indexOfChar_4cfef_14 (lv_at hl 5 rfl) ?_
        have h_16 : vp_in z5 5 := (ti_vp (by omega) (by omega))
        refine va_tb hx hb hs2 hS h_16 (v := .int (kLs.getD z5.toNatClampNeg 0)) rfl dJ1_indexOfChar_4cfef_16 ?_
        refine lv_topi (fun v_16 e_16 => ?_)
        refine lv_iload hx hb dJ1_indexOfChar_4cfef_17 (lv_at hl 4 rfl) ?_
        refine lv_icmp_ne (tgt := 25) hx hb dJ1_indexOfChar_4cfef_19 (by decide) (fun c_19 => ?_) (fun c_19 => ?_)
        · skip
          have i_19 := ti_nek rfl rfl c_19
          obtain ⟨v_25, e_25⟩ : ∃ y : Int32, y = z5 + 1 := ⟨_, rfl⟩
          refine lv_iinc (v := v_25) (lv' := [(5, .int v_25), (0, .ref (zV Z)), (1, .int x1), (2, .int x2), (3, .int x3), (4, .int z4)]) hx hb dJ1_indexOfChar_4cfef_25 hl (k := 5) rfl (by rw [e_25]; rfl) (by decide) rfl (fun ls hl => ?_)
          have t_25 := ti_addk rfl tk_1 (by omega) (by omega) e_25
          refine lv_goto (tgt := 7) hx hb dJ1_indexOfChar_4cfef_28 (by decide) ?_
          exact ih7 z4 v_25 h4 (by first | assumption | omega | decide) (fun j hj => by rcases Int.lt_or_le (j : Int) z5.toInt with q | q; exact h6 j q; have hz : z5.toNatClampNeg = j := ti_clamp (by omega); rw [← hz, ← e_16, ← h4]; exact i_19) (by omega) ls (lv_sub hl [1, 2, 3, 4, 5, 0] rfl)
        · skip
          have i_19 := ti_eqk rfl rfl c_19
          refine lv_iload hx hb dJ1_indexOfChar_4cfef_22 (lv_at hl 5 rfl) ?_
          exact W.iret (v := z5) hx hb hr (fun t ht hW => ⟨z5, rfl, (by (try dsimp only); have hz := jk_at (x := x1) (j := z5.toInt.toNat) (by omega) (by have hz : z5.toNatClampNeg = z5.toInt.toNat := rfl; rw [← hz, ← e_16, ← h4]; exact i_19); rw [hz, nI_toN (by omega)]), ht⟩) (fun q hq => by cases hq) dJ1_indexOfChar_4cfef_24
  refine lv_iload_n hx hb dJ1_indexOfChar_4cfef_0 rfl (lv_at hl 1 rfl) ?_
  refine lv_i2b hx hb dJ1_indexOfChar_4cfef_1 rfl ?_
  refine lv_topi (fun v_1 e_1 => ?_)
  refine lv_istore (lv' := [(4, .int v_1), (0, .ref (zV Z)), (1, .int x1), (2, .int x2), (3, .int x3)]) hx hb dJ1_indexOfChar_4cfef_2 hl (by decide) rfl (fun ls hl => ?_)
  refine lv_iload_n hx hb dJ1_indexOfChar_4cfef_4 rfl (lv_at hl 3 rfl) ?_
  refine lv_istore (lv' := [(5, .int x2), (4, .int v_1), (0, .ref (zV Z)), (1, .int x1), (2, .int x2), (3, .int x3)]) hx hb dJ1_indexOfChar_4cfef_5 hl (by decide) rfl (fun ls hl => ?_)
  exact L7 _ v_1 x2 (by rw [e_1]; exact ti_byte (by omega) (by omega)) (by first | assumption | omega | decide) (fun j hj => by omega) (Nat.lt_succ_self _) ls (lv_sub hl [2, 3, 4, 5, 1, 0] rfl)
set_option maxHeartbeats 4000000 in
set_option maxRecDepth 100000 in
theorem c_J1_indexOf_4cfef (l : Launch) (Z : ZT) (hZ : XG Z) (g : Nat → Nat → Int32) (gl : Nat → Nat → Int64) (tf : Nat → Nat → Int32) (x1 : Int32) (x2 : Int32) (x3 : Int32) (h1 : 0 ≤ x1.toInt ∧ x1.toInt ≤ 126) (h2 : x2.toInt = 0) (h3 : x3.toInt = 5) (hG : Gd Z tf) : Met l yJ1_indexOf_4cfef (Cond.code yJ1_indexOf_4cfef cJ1_indexOf_4cfef 4 (some .int) :: wsL_law) ({ frames := 1, cells := 0, slots := 0, locals := 25 } : Room) (va_Pc [.ref (zV Z), .int x1, .int x2, .int x3] (XI Z g gl tf)) (rd_Qi (fun r => r = kdF x1)) 0 0 (fun _ => False) := by
  refine Met.ofW (cc := cJ1_indexOf_4cfef) (maxL := 4) (ret := (some .int)) (by decide) rfl ?_
  intro p e s m args below meth c s₁ B hml hv
  obtain ⟨rfl, hI⟩ := hv
  have hx := B.exec
  have hb := B.bytes
  have hr := B.returns
  have hT : ∀ w ∈ wsL_law, w.before ([.ref (zV Z), .int x1, .int x2, .int x3] : List Value).toArray s = true := fun w h => atoms_spec (ws := (Cond.code yJ1_indexOf_4cfef cJ1_indexOf_4cfef 4 (some .int) :: wsL_law)) B.pre w (List.mem_cons_of_mem _ h)
  have hown : s.vm.findClass RJ1 = some m.cls := findClass_of_methodNamed B.named
  have hlocks := B.notSynchronized
  have hK := hI.2.1
  have hP := hI.1
  have hS : va_S (zA Z) s.heap s.heap [] := va_S.rf
  have hs0 : va_OF "java/lang/String" "coder" "B" (.int 0) (zK Z) (zA Z) s s.heap := (hI.2.2.2.2.1.1 0 (by decide)).2.1
  have hs1 : va_OF "java/lang/String" "value" "[B" (.ref (zV Z)) (zK Z) (zA Z) s s.heap := (hI.2.2.2.2.1.1 0 (by decide)).2.2.1
  have hs2 : va_T .byte (zV Z) 5 (fun j => .int (kLs.getD j 0)) (zA Z) s s.heap := (hI.2.2.2.2.1.1 0 (by decide)).2.2.2
  have hl := lv_entry ([.ref (zV Z), .int x1, .int x2, .int x3]) (n := 4) (Nat.le_of_ble_eq_true rfl)
  rw [lg_entry_eq]
  generalize (lg_sl ([.ref (zV Z), .int x1, .int x2, .int x3]) ++ List.replicate (4 - (lg_sl ([.ref (zV Z), .int x1, .int x2, .int x3])).length) Slot.unset).toArray = ls at hl ⊢
  have hl : lv_has ls 4 [(0, .ref (zV Z)), (1, .int x1), (2, .int x2), (3, .int x3)] := hl
  refine lv_iload_n hx hb dJ1_indexOf_4cfef_0 rfl (lv_at hl 1 rfl) ?_
  refine rd_ci (va_runS (As := [.int x1]) (rest := []) ⟨hx, hb, hml, hown, hT⟩ (c_J1_canEncode_9a6ad l x1) (va_cwS 1 hT (tb_S (fun _ h => h) (tr_8 _ (List.mem_of_getElem? (i := 11) rfl)) (tr_8 _ (List.mem_of_getElem? (i := 12) rfl)) (tr_8 _ (List.mem_of_getElem? (i := 5) rfl)) (tr_8 _ (List.mem_of_getElem? (i := 13) rfl))) rfl rfl rfl (by decide +kernel) ⟨Nat.le_of_ble_eq_true rfl, Nat.le_of_ble_eq_true rfl⟩) ⟨fun _ _ _ _ q => q, fun U hU hW => ⟨rfl, trivial⟩⟩ rfl rfl hl.1 rfl (lv_room (Nat.le_of_ble_eq_true rfl)) dJ1_indexOf_4cfef_1 ⟨Nat.zero_le _, Nat.zero_le _⟩) (fun r_1 hr_1 => ?_)
  rcases hr_1 with ⟨rfl, b_1⟩ | ⟨rfl, b_1⟩
  · skip
    refine lv_if_ne (tgt := 9) hx hb dJ1_indexOf_4cfef_4 (by decide) (fun c_4 => ?_) (fun c_4 => absurd c_4 (by decide))
    refine lv_iload_n hx hb dJ1_indexOf_4cfef_9 rfl (lv_at hl 2 rfl) ?_
    refine lv_iconst (v := 0) hx hb dJ1_indexOf_4cfef_10 (by decide) ?_
    refine va_mmax hx hb (hml.trans hl.1.symm) hown (hT _ (tr_8 _ (List.mem_of_getElem? (i := 7) rfl))) (hT _ (tr_3 _ (List.mem_of_getElem? (i := 0) rfl))) (hT _ (tr_3 _ (List.mem_of_getElem? (i := 1) rfl))) (hT _ (tr_3 _ (List.mem_of_getElem? (i := 2) rfl))) (Nat.le_of_ble_eq_true rfl) (Nat.le_of_ble_eq_true rfl) (Nat.zero_le _) (Nat.zero_le _) dJ1_indexOf_4cfef_11 ?_
    refine lv_topi (fun v_11 e_11 => ?_)
    have q11 : v_11.toInt = 0 := by rw [e_11]; split <;> first | exact h2 | decide
    refine lv_istore_n (lv' := [(2, .int v_11), (0, .ref (zV Z)), (1, .int x1), (3, .int x3)]) hx hb dJ1_indexOf_4cfef_14 rfl hl (by decide) rfl (fun ls hl => ?_)
    refine lv_iload_n hx hb dJ1_indexOf_4cfef_15 rfl (lv_at hl 3 rfl) ?_
    refine lv_aload_n hx hb dJ1_indexOf_4cfef_16 rfl (lv_at hl 1 rfl) ?_
    refine va_tlen hx hb hs2 hS (v := 5) rfl dJ1_indexOf_4cfef_17 ?_
    refine va_mmin hx hb (hml.trans hl.1.symm) hown (hT _ (tr_8 _ (List.mem_of_getElem? (i := 8) rfl))) (hT _ (tr_8 _ (List.mem_of_getElem? (i := 9) rfl))) (hT _ (tr_3 _ (List.mem_of_getElem? (i := 1) rfl))) (hT _ (tr_8 _ (List.mem_of_getElem? (i := 10) rfl))) (Nat.le_of_ble_eq_true rfl) (Nat.le_of_ble_eq_true rfl) (Nat.zero_le _) (Nat.zero_le _) dJ1_indexOf_4cfef_18 ?_
    refine lv_topi (fun v_18 e_18 => ?_)
    have q18 : v_18.toInt = 5 := by rw [e_18]; split <;> first | exact h3 | decide
    refine lv_istore_n (lv' := [(3, .int v_18), (2, .int v_11), (0, .ref (zV Z)), (1, .int x1)]) hx hb dJ1_indexOf_4cfef_21 rfl hl (by decide) rfl (fun ls hl => ?_)
    refine lv_iload_n hx hb dJ1_indexOf_4cfef_22 rfl (lv_at hl 1 rfl) ?_
    refine lv_iload_n hx hb dJ1_indexOf_4cfef_23 rfl (lv_at hl 0 rfl) ?_
    refine lv_icmp_lt (tgt := 29) hx hb dJ1_indexOf_4cfef_24 (by decide) (fun c_24 => ?_) (fun c_24 => ?_)
    · skip
      have i_24 := ti_ltk rfl rfl c_24
      refine lv_aload_n hx hb dJ1_indexOf_4cfef_29 rfl (lv_at hl 2 rfl) ?_
      refine lv_iload_n hx hb dJ1_indexOf_4cfef_30 rfl (lv_at hl 3 rfl) ?_
      refine lv_iload_n hx hb dJ1_indexOf_4cfef_31 rfl (lv_at hl 1 rfl) ?_
      refine lv_iload_n hx hb dJ1_indexOf_4cfef_32 rfl (lv_at hl 0 rfl) ?_
      refine rd_ci (va_runS (As := [.ref (zV Z), .int x1, .int v_11, .int v_18]) (rest := []) ⟨hx, hb, hml, hown, hT⟩ (c_J1_indexOfChar_4cfef l Z hZ g gl tf x1 v_11 v_18 (by first | assumption | omega | decide) (by first | assumption | omega | decide) (by first | assumption | omega | decide) hG) (va_cwS 4 hT (tb_S (fun _ h => h) (tr_8 _ (List.mem_of_getElem? (i := 14) rfl)) (tr_8 _ (List.mem_of_getElem? (i := 15) rfl)) (tr_8 _ (List.mem_of_getElem? (i := 5) rfl)) (tr_8 _ (List.mem_of_getElem? (i := 16) rfl))) rfl rfl rfl (by decide +kernel) ⟨Nat.le_of_ble_eq_true rfl, Nat.le_of_ble_eq_true rfl⟩) ⟨fun a U f mk q => ⟨q.1, XI.blind f mk a q.2⟩, fun U hU hW => ⟨rfl, hI.at hS hP hU hW⟩⟩ rfl rfl hl.1 rfl (lv_room (Nat.le_of_ble_eq_true rfl)) dJ1_indexOf_4cfef_33 ⟨Nat.zero_le _, Nat.zero_le _⟩) (fun r_33 hr_33 => ?_)
      exact W.iret (v := r_33) hx hb hr (fun t ht hW => ⟨r_33, rfl, hr_33, ht⟩) (fun q hq => by cases hq) dJ1_indexOf_4cfef_36
    · skip
      have i_24 := ti_nltk rfl rfl c_24
      refine lv_iconst (v := (-1)) hx hb dJ1_indexOf_4cfef_27 (by decide) ?_
      exact W.iret (v := (-1)) hx hb hr (fun t ht hW => ⟨(-1), rfl, (by (try dsimp only); exfalso; omega), ht⟩) (fun q hq => by cases hq) dJ1_indexOf_4cfef_28
  · skip
    refine lv_if_ne (tgt := 9) hx hb dJ1_indexOf_4cfef_4 (by decide) (fun c_4 => absurd c_4 (by decide)) (fun c_4 => ?_)
    refine lv_iconst (v := (-1)) hx hb dJ1_indexOf_4cfef_7 (by decide) ?_
    exact W.iret (v := (-1)) hx hb hr (fun t ht hW => ⟨(-1), rfl, (absurd h1 b_1), ht⟩) (fun q hq => by cases hq) dJ1_indexOf_4cfef_8
set_option maxHeartbeats 4000000 in
set_option maxRecDepth 100000 in
theorem c_J0_indexOf_7cf53 (l : Launch) (Z : ZT) (hZ : XG Z) (g : Nat → Nat → Int32) (gl : Nat → Nat → Int64) (tf : Nat → Nat → Int32) (x1 : Int32) (x2 : Int32) (h1 : 0 ≤ x1.toInt ∧ x1.toInt ≤ 126) (h2 : x2.toInt = 0) (hG : Gd Z tf) : Met l yJ0_indexOf_7cf53 (Cond.code yJ0_indexOf_7cf53 cJ0_indexOf_7cf53 3 (some .int) :: wsL_law) ({ frames := 2, cells := 0, slots := 0, locals := 48 } : Room) (va_Pc [.ref (zK Z), .int x1, .int x2] (XI Z g gl tf)) (rd_Qi (fun r => r = kdF x1)) 0 0 (fun _ => False) := by
  refine Met.ofW (cc := cJ0_indexOf_7cf53) (maxL := 3) (ret := (some .int)) (by decide) rfl ?_
  intro p e s m args below meth c s₁ B hml hv
  obtain ⟨rfl, hI⟩ := hv
  have hx := B.exec
  have hb := B.bytes
  have hr := B.returns
  have hT : ∀ w ∈ wsL_law, w.before ([.ref (zK Z), .int x1, .int x2] : List Value).toArray s = true := fun w h => atoms_spec (ws := (Cond.code yJ0_indexOf_7cf53 cJ0_indexOf_7cf53 3 (some .int) :: wsL_law)) B.pre w (List.mem_cons_of_mem _ h)
  have hown : s.vm.findClass RJ0 = some m.cls := findClass_of_methodNamed B.named
  have hlocks := B.notSynchronized
  have hK := hI.2.1
  have hP := hI.1
  have hS : va_S (zA Z) s.heap s.heap [] := va_S.rf
  have hs0 : va_OF "java/lang/String" "coder" "B" (.int 0) (zK Z) (zA Z) s s.heap := (hI.2.2.2.2.1.1 0 (by decide)).2.1
  have hs1 : va_OF "java/lang/String" "value" "[B" (.ref (zV Z)) (zK Z) (zA Z) s s.heap := (hI.2.2.2.2.1.1 0 (by decide)).2.2.1
  have hs2 : va_T .byte (zV Z) 5 (fun j => .int (kLs.getD j 0)) (zA Z) s s.heap := (hI.2.2.2.2.1.1 0 (by decide)).2.2.2
  have hl := lv_entry ([.ref (zK Z), .int x1, .int x2]) (n := 3) (Nat.le_of_ble_eq_true rfl)
  rw [lg_entry_eq]
  generalize (lg_sl ([.ref (zK Z), .int x1, .int x2]) ++ List.replicate (3 - (lg_sl ([.ref (zK Z), .int x1, .int x2])).length) Slot.unset).toArray = ls at hl ⊢
  have hl : lv_has ls 3 [(0, .ref (zK Z)), (1, .int x1), (2, .int x2)] := hl
  refine lv_aload_n hx hb dJ0_indexOf_7cf53_0 rfl (lv_at hl 0 rfl) ?_
  refine rd_ci (va_runV (As := []) (rest := []) ⟨hx, hb, hml, hown, hT⟩ (c_J0_isLatin1_aae02 l Z hZ g gl tf hG) (cwV 0 hT (tb_V (fun _ h => h) (tr_7 _ (List.mem_of_getElem? (i := 13) rfl)) (tr_7 _ (List.mem_of_getElem? (i := 14) rfl)) (tr_7 _ (List.mem_of_getElem? (i := 15) rfl)) (tr_7 _ (List.mem_of_getElem? (i := 6) rfl)) (tr_7 _ (List.mem_of_getElem? (i := 16) rfl))) rfl rfl rfl (by decide +kernel) ⟨Nat.le_of_ble_eq_true rfl, Nat.le_of_ble_eq_true rfl⟩) ⟨fun a U f mk q => ⟨q.1, XI.blind f mk a q.2⟩, vk_recv hI.2.2.2.2.1 (i := 0) (by decide) hS, fun U hU hW => ⟨rfl, hI.at hS hP hU hW⟩⟩ rfl rfl hl.1 rfl (lv_room (Nat.le_of_ble_eq_true rfl)) dJ0_indexOf_7cf53_1 ⟨Nat.zero_le _, Nat.zero_le _⟩) (fun r_1 hr_1 => ?_)
  rcases hr_1 with ⟨rfl, b_1⟩ | ⟨rfl, b_1⟩
  · skip
    refine lv_if_eq (tgt := 23) hx hb dJ0_indexOf_7cf53_4 (by decide) (fun c_4 => absurd c_4 (by decide)) (fun c_4 => ?_)
    refine lv_aload_n hx hb dJ0_indexOf_7cf53_7 rfl (lv_at hl 0 rfl) ?_
    refine vk_getf hx hb hs1 hS hown (hT _ (tr_7 _ (List.mem_of_getElem? (i := 12) rfl))) (fun _ h9 => h9) dJ0_indexOf_7cf53_8 ?_
    refine lv_iload_n hx hb dJ0_indexOf_7cf53_11 rfl (lv_at hl 1 rfl) ?_
    refine lv_iload_n hx hb dJ0_indexOf_7cf53_12 rfl (lv_at hl 2 rfl) ?_
    refine lv_aload_n hx hb dJ0_indexOf_7cf53_13 rfl (lv_at hl 0 rfl) ?_
    refine rd_ci (va_runV (As := []) (rest := [.int x2, .int x1, .ref (zV Z)]) ⟨hx, hb, hml, hown, hT⟩ (c_J0_length_8abf5 l Z hZ g gl tf hG) (cwV 0 hT (tb_V (fun _ h => h) (tr_7 _ (List.mem_of_getElem? (i := 19) rfl)) (tr_7 _ (List.mem_of_getElem? (i := 20) rfl)) (tr_7 _ (List.mem_of_getElem? (i := 21) rfl)) (tr_7 _ (List.mem_of_getElem? (i := 6) rfl)) (tr_7 _ (List.mem_of_getElem? (i := 22) rfl))) rfl rfl rfl (by decide +kernel) ⟨Nat.le_of_ble_eq_true rfl, Nat.le_of_ble_eq_true rfl⟩) ⟨fun a U f mk q => ⟨q.1, XI.blind f mk a q.2⟩, vk_recv hI.2.2.2.2.1 (i := 0) (by decide) hS, fun U hU hW => ⟨rfl, hI.at hS hP hU hW⟩⟩ rfl rfl hl.1 rfl (lv_room (Nat.le_of_ble_eq_true rfl)) dJ0_indexOf_7cf53_14 ⟨Nat.zero_le _, Nat.zero_le _⟩) (fun r_14 hr_14 => ?_)
    refine rd_ci (va_runS (As := [.ref (zV Z), .int x1, .int x2, .int r_14]) (rest := []) ⟨hx, hb, hml, hown, hT⟩ (c_J1_indexOf_4cfef l Z hZ g gl tf x1 x2 r_14 (by first | assumption | omega | decide) (by first | assumption | omega | decide) (by first | assumption | omega | decide) hG) (va_cwS 4 hT (tb_S (fun _ h => h) (tr_8 _ (List.mem_of_getElem? (i := 3) rfl)) (tr_8 _ (List.mem_of_getElem? (i := 4) rfl)) (tr_8 _ (List.mem_of_getElem? (i := 5) rfl)) (tr_8 _ (List.mem_of_getElem? (i := 6) rfl))) rfl rfl rfl (by decide +kernel) ⟨Nat.le_of_ble_eq_true rfl, Nat.le_of_ble_eq_true rfl⟩) ⟨fun a U f mk q => ⟨q.1, XI.blind f mk a q.2⟩, fun U hU hW => ⟨rfl, hI.at hS hP hU hW⟩⟩ rfl rfl hl.1 rfl (lv_room (Nat.le_of_ble_eq_true rfl)) dJ0_indexOf_7cf53_17 ⟨Nat.zero_le _, Nat.zero_le _⟩) (fun r_17 hr_17 => ?_)
    refine lv_goto (tgt := 36) hx hb dJ0_indexOf_7cf53_20 (by decide) ?_
    exact W.iret (v := r_17) hx hb hr (fun t ht hW => ⟨r_17, rfl, hr_17, ht⟩) (fun q hq => by cases hq) dJ0_indexOf_7cf53_36
  · skip
    exact b_1.elim
set_option maxHeartbeats 4000000 in
set_option maxRecDepth 100000 in
theorem c_J0_indexOf_0f7a4 (l : Launch) (Z : ZT) (hZ : XG Z) (g : Nat → Nat → Int32) (gl : Nat → Nat → Int64) (tf : Nat → Nat → Int32) (x1 : Int32) (h1 : 0 ≤ x1.toInt ∧ x1.toInt ≤ 126) (hG : Gd Z tf) : Met l yJ0_indexOf_0f7a4 (Cond.code yJ0_indexOf_0f7a4 cJ0_indexOf_0f7a4 2 (some .int) :: wsL_law) ({ frames := 3, cells := 0, slots := 0, locals := 70 } : Room) (va_Pc [.ref (zK Z), .int x1] (XI Z g gl tf)) (rd_Qi (fun r => r = kdF x1)) 0 0 (fun _ => False) := by
  refine Met.ofW (cc := cJ0_indexOf_0f7a4) (maxL := 2) (ret := (some .int)) (by decide) rfl ?_
  intro p e s m args below meth c s₁ B hml hv
  obtain ⟨rfl, hI⟩ := hv
  have hx := B.exec
  have hb := B.bytes
  have hr := B.returns
  have hT : ∀ w ∈ wsL_law, w.before ([.ref (zK Z), .int x1] : List Value).toArray s = true := fun w h => atoms_spec (ws := (Cond.code yJ0_indexOf_0f7a4 cJ0_indexOf_0f7a4 2 (some .int) :: wsL_law)) B.pre w (List.mem_cons_of_mem _ h)
  have hown : s.vm.findClass RJ0 = some m.cls := findClass_of_methodNamed B.named
  have hlocks := B.notSynchronized
  have hK := hI.2.1
  have hP := hI.1
  have hS : va_S (zA Z) s.heap s.heap [] := va_S.rf
  have hs0 : va_OF "java/lang/String" "coder" "B" (.int 0) (zK Z) (zA Z) s s.heap := (hI.2.2.2.2.1.1 0 (by decide)).2.1
  have hs1 : va_OF "java/lang/String" "value" "[B" (.ref (zV Z)) (zK Z) (zA Z) s s.heap := (hI.2.2.2.2.1.1 0 (by decide)).2.2.1
  have hs2 : va_T .byte (zV Z) 5 (fun j => .int (kLs.getD j 0)) (zA Z) s s.heap := (hI.2.2.2.2.1.1 0 (by decide)).2.2.2
  have hl := lv_entry ([.ref (zK Z), .int x1]) (n := 2) (Nat.le_of_ble_eq_true rfl)
  rw [lg_entry_eq]
  generalize (lg_sl ([.ref (zK Z), .int x1]) ++ List.replicate (2 - (lg_sl ([.ref (zK Z), .int x1])).length) Slot.unset).toArray = ls at hl ⊢
  have hl : lv_has ls 2 [(0, .ref (zK Z)), (1, .int x1)] := hl
  refine lv_aload_n hx hb dJ0_indexOf_0f7a4_0 rfl (lv_at hl 0 rfl) ?_
  refine lv_iload_n hx hb dJ0_indexOf_0f7a4_1 rfl (lv_at hl 1 rfl) ?_
  refine lv_iconst (v := 0) hx hb dJ0_indexOf_0f7a4_2 (by decide) ?_
  refine rd_ci (va_runV (As := [.int x1, .int 0]) (rest := []) ⟨hx, hb, hml, hown, hT⟩ (c_J0_indexOf_7cf53 l Z hZ g gl tf x1 0 (by first | assumption | omega | decide) (by first | assumption | omega | decide) hG) (cwV 2 hT (tb_V (fun _ h => h) (tr_7 _ (List.mem_of_getElem? (i := 8) rfl)) (tr_7 _ (List.mem_of_getElem? (i := 9) rfl)) (tr_7 _ (List.mem_of_getElem? (i := 10) rfl)) (tr_7 _ (List.mem_of_getElem? (i := 6) rfl)) (tr_7 _ (List.mem_of_getElem? (i := 11) rfl))) rfl rfl rfl (by decide +kernel) ⟨Nat.le_of_ble_eq_true rfl, Nat.le_of_ble_eq_true rfl⟩) ⟨fun a U f mk q => ⟨q.1, XI.blind f mk a q.2⟩, vk_recv hI.2.2.2.2.1 (i := 0) (by decide) hS, fun U hU hW => ⟨rfl, hI.at hS hP hU hW⟩⟩ rfl rfl hl.1 rfl (lv_room (Nat.le_of_ble_eq_true rfl)) dJ0_indexOf_0f7a4_3 ⟨Nat.zero_le _, Nat.zero_le _⟩) (fun r_3 hr_3 => ?_)
  (try simp only [tk_0] at hr_3)
  exact W.iret (v := r_3) hx hb hr (fun t ht hW => ⟨r_3, rfl, hr_3, ht⟩) (fun q hq => by cases hq) dJ0_indexOf_0f7a4_6
