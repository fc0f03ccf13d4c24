theorem dj2 {A : Nat → Prop} {w1 w2 : va_W} (h : va_D A (w1 ++ w2)) : ∀ a, a ∈ w1.map Prod.fst → ¬ a ∈ w2.map Prod.fst := by
  intro a h1 h2
  obtain ⟨p, hp, rfl⟩ := List.mem_map.mp h1
  obtain ⟨q, hq, e⟩ := List.mem_map.mp h2
  obtain ⟨i, hi⟩ := List.getElem?_of_mem hp
  obtain ⟨j, hj⟩ := List.getElem?_of_mem hq
  have hil := (List.getElem?_eq_some_iff.mp hi).1
  have z := h.1 i (w1.length + j) p q (by rw [List.getElem?_append_left hil]; exact hi) (by rw [List.getElem?_append_right (Nat.le_add_right _ _), Nat.add_sub_cancel_left]; exact hj) e.symm
  omega
theorem partL {D : va_G} {cl : List vw_C} {rest wc : va_W} {H : Heap} (hP : va_P D cl (rest ++ wc) H) : va_P D cl rest H := fun k q h => hP k q (by rw [List.getElem?_append_left (List.getElem?_eq_some_iff.mp h).1]; exact h)
theorem partLD {A : Nat → Prop} {rest wc : va_W} (hD : va_D A (rest ++ wc)) : va_D A rest := ⟨fun i j x y hi hj h => hD.1 i j x y (by rw [List.getElem?_append_left (List.getElem?_eq_some_iff.mp hi).1]; exact hi) (by rw [List.getElem?_append_left (List.getElem?_eq_some_iff.mp hj).1]; exact hj) h, fun k q h => hD.2 k q (by rw [List.getElem?_append_left (List.getElem?_eq_some_iff.mp h).1]; exact h)⟩
theorem partRD {A : Nat → Prop} {rest wc : va_W} (hD : va_D A (rest ++ wc)) : va_D A wc := ⟨(partD hD).1, fun k q h => hD.2 (rest.length + k) q (by rw [List.getElem?_append_right (Nat.le_add_right _ _), Nat.add_sub_cancel_left]; exact h)⟩
theorem own_D {A : Nat → Prop} {w : va_W} (h : va_D A w) : va_D (fun q => q ∈ w.map Prod.fst) w := ⟨h.1, fun k q hk => List.mem_map.mpr ⟨q, List.mem_of_getElem? hk, rfl⟩⟩
theorem own_in {A : Nat → Prop} {w : va_W} (h : va_D A w) : ∀ q, q ∈ w.map Prod.fst → A q := fun q hq => by
  obtain ⟨p, hp, rfl⟩ := List.mem_map.mp hq
  obtain ⟨i, hi⟩ := List.getElem?_of_mem hp
  exact h.2 i p hi
theorem MJ_0 : MJ (fun _ _ => 0) := ⟨fun _ => (by dsimp only; decide), fun _ => (by dsimp only; decide), fun _ => (by dsimp only; decide), fun _ => (by dsimp only; decide), fun _ => (by dsimp only; decide), fun _ => (by dsimp only; decide), by decide, by decide, by decide, by decide, by decide⟩
set_option maxHeartbeats 4000000 in
set_option maxRecDepth 100000 in
/-- what the tables and the premises give at the law's start -/
theorem law_base {p : Program} {s : State} {m : MethodId} {meth : Method} {c : Code} {b L : Nat} {xs : Nat → Int32} (C0 : lw_At p s m meth c b L xs) : (∀ w ∈ wsL_law, w.before #[Value.ref b] s = true) ∧ ∃ (D : va_G) (cy : Nat → ClassId) (kK kV : Nat), va_K D vwCl (cty cy) s ∧ va_AO RX3 s ∧ va_Nw (.methodLinkNest RX4 21 yX3_init RX6) s ∧ va_Nw (.methodLinkNest RX6 9 yX1_init RX6) s ∧ va_Nw (.methodLinkNest RX6 36 yX2_init RX6) s ∧ va_Nw (.methodLinkNest RX6 43 yX0_init RX6) s ∧ va_Nw (.methodLinkNest RX6 50 yX3_init RX6) s ∧ va_Nw (.methodLinkNest RX5 81 yX6_isQuantity RX6) s ∧ vk_R RX1 31 "tfsbo" kK s ∧ vk_S 1 [5] [[116, 102, 115, 98, 111]] (fun _ => kK) (fun _ => kV) (fun q => s.heap.size ≤ q) s s.heap ∧ va_Z "java/lang/String" "COMPACT_STRINGS" "Z" (.int 1) (fun q => s.heap.size ≤ q) s s.heap := by
  obtain ⟨hx, hb, hr, hml, hown, hts, hXs, hbl, hlocks, hgv⟩ := id C0
  have hT : ∀ w ∈ wsL_law, w.before #[Value.ref b] s = true := fun w h => hts w (wsL_law_in w h)
  refine ⟨hT, ?_⟩
  have hs := flat_of_before _ hgv
  obtain ⟨c0, iS0, hKn0⟩ := u_known (C := RX0) (T := TX0) (N := 1) (n := 1) hT inlX0 (hT _ (tr_2 _ (List.mem_of_getElem? (i := 5) rfl)))
  obtain ⟨c1, iS1, hKn1⟩ := u_known (C := RX1) (T := TX1) (N := 2) (n := 2) hT inlX1 (hT _ (tr_1 _ (List.mem_of_getElem? (i := 13) rfl)))
  obtain ⟨c2, iS2, hKn2⟩ := u_known (C := RX2) (T := TX2) (N := 5) (n := 5) hT inlX2 (hT _ (tr_2 _ (List.mem_of_getElem? (i := 1) rfl)))
  obtain ⟨c3, iS3, hKn3⟩ := u_known (C := RX3) (T := TX3) (N := 5) (n := 5) hT inlX3 (hT _ (tr_2 _ (List.mem_of_getElem? (i := 9) rfl)))
  obtain ⟨c4, iS4, hKn4⟩ := u_known (C := RX4) (T := TX4) (N := 2) (n := 2) hT inlX4 (hT _ (tr_1 _ (List.mem_of_getElem? (i := 17) rfl)))
  obtain ⟨c5, iS5, hKn5⟩ := u_known (C := RX5) (T := TX5) (N := 7) (n := 7) hT inlX5 (hT _ (tr_1 _ (List.mem_of_getElem? (i := 21) rfl)))
  obtain ⟨c6, iS6, hKn6⟩ := u_known (C := RX6) (T := TX6) (N := 11) (n := 11) hT inlX6 (hT _ (tr_1 _ (List.mem_of_getElem? (i := 1) rfl)))
  obtain ⟨c7, iS7, hKn7⟩ := u_known (C := RX7) (T := TX7) (N := 31) (n := 31) hT inlX7 (hT _ (tr_1 _ (List.mem_of_getElem? (i := 4) rfl)))
  obtain ⟨dC, dI, hKc⟩ : ∃ (dC : Nat → ClassId) (dI : Nat → Nat → Nat), ∀ (k : Nat) (q : vw_C), vwCl[k]? = some q → u_Kn s q.1 q.2.1 q.2.2 (dC k) (dI k) := by
    refine ⟨fun k => if k = 0 then c0 else if k = 1 then c1 else if k = 2 then c2 else if k = 3 then c3 else if k = 4 then c4 else if k = 5 then c5 else if k = 6 then c6 else c7, fun k => if k = 0 then iS0 else if k = 1 then iS1 else if k = 2 then iS2 else if k = 3 then iS3 else if k = 4 then iS4 else if k = 5 then iS5 else if k = 6 then iS6 else iS7, ?_⟩
    intro k q hq
    match k, hq with
    | 0, hq => cases hq; exact hKn0
    | 1, hq => cases hq; exact hKn1
    | 2, hq => cases hq; exact hKn2
    | 3, hq => cases hq; exact hKn3
    | 4, hq => cases hq; exact hKn4
    | 5, hq => cases hq; exact hKn5
    | 6, hq => cases hq; exact hKn6
    | 7, hq => cases hq; exact hKn7
    | k + 8, hq => simp [vwCl] at hq
  obtain ⟨cB, kB, mB, bB1, bB2, bB3⟩ := Cond.arrayClass_spec (hT _ (tr_4 _ (List.mem_of_getElem? (i := 22) rfl)))
  obtain ⟨cI, kI, mI, bI1, bI2, bI3⟩ := Cond.arrayClass_spec (hT _ (tr_2 _ (List.mem_of_getElem? (i := 17) rfl)))
  obtain ⟨cJ, kJ, mJ, bJ1, bJ2, bJ3⟩ := Cond.arrayClass_spec (hT _ (tr_4 _ (List.mem_of_getElem? (i := 4) rfl)))
  have hAO : va_AO RX3 s := va_AO.of (hts (.arrayOver (.object RX3)) (by decide +kernel))
  obtain ⟨comp, cO, kO, o1, o2, o3, o4, o5⟩ := Cond.arrayOver_spec hAO
  have hK : va_K (dC, dI) vwCl (cty (fun i => if i = 0 then cB else if i = 1 then cI else if i = 2 then cJ else cO)) s := by
    refine ⟨hKc, fun k q hq => ?_⟩
    match k, hq with
    | 0, hq => cases hq; exact ⟨fun n z => ⟨(fun k h => by cases h), kB, bB2, mB, bB3⟩, bB1⟩
    | 1, hq => cases hq; exact ⟨fun n z => ⟨(fun k h => by cases h), kI, bI2, mI, bI3⟩, bI1⟩
    | 2, hq => cases hq; exact ⟨fun n z => ⟨(fun k h => by cases h), kJ, bJ2, mJ, bJ3⟩, bJ1⟩
    | 3, hq => cases hq; exact ⟨fun n z => ⟨(fun k h => by cases h), kO, o3, comp, o4⟩, kO, comp, o3, o4, o1, o5⟩
    | k + 4, hq => simp at hq
  obtain ⟨adK, adV, hSt0, hev⟩ := vk_Sof (N := 1) (tm := fun _ => .string "TariffDesk$Page" 31) (len := [5]) (byt := [[116, 102, 115, 98, 111]]) (A := fun q => s.heap.size ≤ q) (args := #[Value.ref b]) (s := s)
    (fun i hi => by have z : i = 0 := by omega
                    subst z; decide)
    (fun i hi => hs _ (by decide +kernel)) (fun i hi => hs _ (by decide +kernel)) (fun i hi => hs _ (by decide +kernel))
    (fun i hi => by have z : i = 0 := by omega
                    subst z; exact hs _ (by decide +kernel))
    (fun i hi j hj => by
      have z : i = 0 := by omega
      subst z
      have hj : j < 5 := hj
      rcases (show j = 0 ∨ j = 1 ∨ j = 2 ∨ j = 3 ∨ j = 4 by omega) with rfl | rfl | rfl | rfl | rfl
      · exact hs _ (by decide +kernel)
      · exact hs _ (by decide +kernel)
      · exact hs _ (by decide +kernel)
      · exact hs _ (by decide +kernel)
      · exact hs _ (by decide +kernel)
      )
    (fun i j hi hj hn => absurd (show i = j by omega) hn) (fun a ha => Nat.not_le.mpr ha)
  refine ⟨(dC, dI), _, adK 0, adV 0, hK, hAO, ?_, ?_, ?_, ?_, ?_, ?_, ?_, ?_, ?_⟩
  · exact va_Nw.of rfl (hts (.methodLinkNest RX4 21 yX3_init RX6) (by decide +kernel))
  · exact va_Nw.of rfl (hts (.methodLinkNest RX6 9 yX1_init RX6) (by decide +kernel))
  · exact va_Nw.of rfl (hts (.methodLinkNest RX6 36 yX2_init RX6) (by decide +kernel))
  · exact va_Nw.of rfl (hts (.methodLinkNest RX6 43 yX0_init RX6) (by decide +kernel))
  · exact va_Nw.of rfl (hts (.methodLinkNest RX6 50 yX3_init RX6) (by decide +kernel))
  · exact va_Nw.of rfl (hts (.methodLinkNest RX5 81 yX6_isQuantity RX6) (by decide +kernel))
  · exact vk_R.of (hts (.stringRef RX1 31 "tfsbo") (by decide +kernel)) (hev 0 (by decide))
  · refine ⟨fun i hi => ?_, fun i j hi hj _ => by omega⟩
    have z : i = 0 := by omega
    subst z
    exact hSt0.1 0 hi
  · exact va_Zof (hts (.laysStatic "java/lang/String" "COMPACT_STRINGS" "Z") (by decide +kernel)) (hT _ (tr_7 _ (List.mem_of_getElem? (i := 6) rfl))) (va_eqi (hs _ (by decide +kernel))) (fun a ha => Nat.not_le.mpr ha)
