set_option maxHeartbeats 4000000 in
set_option maxRecDepth 100000 in
/-- the law, from its entry -/
theorem whole_start {p : Program} {e : Env} {s : State} {m : MethodId} {below : List Frame} {meth : Method} {c : Code} (l : Launch) (hflags : l.flags = flags0) {b L : Nat} {xs : Nat → Int32} (hL : L ≤ 2560) (C0 : lw_At p s m meth c b L xs) : W p l e room_1 s m #[Value.ref b] below meth c s.heap [] 0 0 (lw_Z below #[Value.ref b] s) (entryFrame m ([Value.ref b] : List Value).toArray 4) := by
  obtain ⟨hT, D, cy, kK, kV, hK, hAO, hN4, hN9, hN36, hN43, hN50, hNq, hRs, hSt, hCo⟩ := law_base C0
  obtain ⟨hx, hb, hr, hml, hown, hts, hXs, hbl, hlocks, hgv⟩ := id C0
  have hA : ∀ q : Nat, s.heap.size ≤ q → (fun q : Nat => s.heap.size ≤ q) q := fun _ h => h
  have hS : va_S (fun q : Nat => s.heap.size ≤ q) s.heap s.heap [] := va_S.rf
  have hP : va_P D vwCl [] s.heap := fun k q h => by simp at h
  have hD : va_D (fun q : Nat => s.heap.size ≤ q) [] := ⟨fun i j p q h => by simp at h, fun k q h => by simp at h⟩
  have hl := lv_entry ([.ref b]) (n := 4) (Nat.le_of_ble_eq_true rfl)
  rw [lg_entry_eq]
  generalize (lg_sl ([.ref b]) ++ List.replicate (4 - (lg_sl ([.ref b])).length) Slot.unset).toArray = ls at hl ⊢
  have hl : lv_has ls 4 [(0, .ref b)] := hl
  refine va_new (ci := 6) (fs := [.null, .null, .null, .null, .null, .null, .null, .null, .int 0, .int 0, .int 0]) (C := RX6) (T := TX6) (N := 11) hx hb hT inlX6 tyX6 tyX6_ok hown (hT _ (tr_1 _ (List.mem_of_getElem? (i := 0) rfl))) (hT _ (tr_1 _ (List.mem_of_getElem? (i := 1) rfl))) (hT _ (tr_1 _ (List.mem_of_getElem? (i := 2) rfl))) hK hP hD hS hA rfl (fun j hj => by rcases (show j = 0 ∨ j = 1 ∨ j = 2 ∨ j = 3 ∨ j = 4 ∨ j = 5 ∨ j = 6 ∨ j = 7 ∨ j = 8 ∨ j = 9 ∨ j = 10 by omega) with rfl | rfl | rfl | rfl | rfl | rfl | rfl | rfl | rfl | rfl | rfl <;> rfl) (Nat.le_of_ble_eq_true rfl) (Nat.le_of_ble_eq_true rfl) dL_law_0 (fun q0 H hP hD hS => ?_)
  replace hP : va_P D vwCl [(q0, .inr (6, [.null, .null, .null, .null, .null, .null, .null, .null, .int 0, .int 0, .int 0]))] H := hP
  replace hD : va_D (fun q : Nat => s.heap.size ≤ q) [(q0, .inr (6, [.null, .null, .null, .null, .null, .null, .null, .null, .int 0, .int 0, .int 0]))] := hD
  refine lv_dup hx hb dL_law_3 rfl ?_
  have hFc := va_free (wc := [(q0, .inr (6, [.null, .null, .null, .null, .null, .null, .null, .null, .int 0, .int 0, .int 0]))]) hD hS hA [0] rfl
  refine va_callv (va_runI (As := []) (rest := [.ref q0]) ⟨hx, hb, hml, hown, hT⟩ (c_X6_init l D cy q0 H.size) (cwI 0 hT (tb_I (fun _ h => h) (tr_1 _ (List.mem_of_getElem? (i := 8) rfl))) rfl rfl rfl (hT _ (tr_1 _ (List.mem_of_getElem? (i := 2) rfl))) (hT _ (tr_1 _ (List.mem_of_getElem? (i := 6) rfl))) (hT _ (tr_1 _ (List.mem_of_getElem? (i := 7) rfl))) rfl (by decide +kernel) ⟨Nat.le_of_ble_eq_true rfl, Nat.le_of_ble_eq_true rfl⟩) ⟨fun a U f mk q => ⟨q.1, q.2.1, q.2.2.1, va_K.moved (u := U) (U := U.calling f mk a) (Vm.Alike.refl U.vm) q.2.2.2.1, q.2.2.2.2.1, va_AO.moved (u := U) (U := U.calling f mk a) (Vm.Alike.refl U.vm) q.2.2.2.2.2.1, va_Nw.same rfl (u := U) rfl q.2.2.2.2.2.2.1, va_Nw.same rfl (u := U) rfl q.2.2.2.2.2.2.2.1, va_Nw.same rfl (u := U) rfl q.2.2.2.2.2.2.2.2.1, va_Nw.same rfl (u := U) rfl q.2.2.2.2.2.2.2.2.2.1, va_Nw.same rfl (u := U) rfl q.2.2.2.2.2.2.2.2.2.2⟩, fun U hU hW => ⟨rfl, by rw [hU], by rw [hU]; exact hP, va_K.moved hW.alike hK, hD.weaken (fun _ _ _ _ => trivial), va_AO.moved hW.alike hAO, va_Nw.warmM hW hN4, va_Nw.warmM hW hN9, va_Nw.warmM hW hN36, va_Nw.warmM hW hN43, va_Nw.warmM hW hN50⟩⟩ rfl rfl hl.1 rfl (lv_room (Nat.le_of_ble_eq_true rfl)) dL_law_4 ⟨Nat.le_of_ble_eq_true rfl, Nat.le_of_ble_eq_true rfl⟩) hS (fun q _ h => hFc q h) hFc (fun u t H1 locs ht hvm hw hB hz1 hk1 hS => ?_)
  obtain ⟨ad, rr, LP, gg⟩ := u
  obtain ⟨hP1, hD1⟩ := hB
  rw [ht] at hP1
  obtain ⟨w1, w2, w3, w4, w5, w6, w7, w8⟩ := hw
  dsimp only at w1 w2 w3 w4 w5 w6 w7 w8
  clear hP hD
  have hP : va_P D vwCl (xw (D, cy, ad, rr, LP, (fun _ => True), 0, 0) gg (fun _ _ => 0) (fun _ _ => 0)) H1 := hP1
  have hD : va_D (fun q : Nat => s.heap.size ≤ q) (xw (D, cy, ad, rr, LP, (fun _ => True), 0, 0) gg (fun _ _ => 0) (fun _ _ => 0)) := hD1.weaken (fun k q _ h => hFc q.1 h)
  generalize H1 = H at hP hS ⊢
  clear hk1 hz1 hP1 hD1 hFc ht
  subst w1
  refine lv_astore_n (lv' := [(1, .ref (ad 0)), (0, .ref b)]) hx hb dL_law_7 rfl hl (by decide) rfl (fun ls hl => ?_)
  refine va_new (ci := 7) (fs := [.int 0, .int 0, .null, .null, .null, .null, .null, .null, .int 0, .null, .null, .null, .int 0, .null, .int 0, .int 0, .null, .long 0, .int 0, .int 0, .int 0, .int 0, .null, .null, .null, .null, .null, .null, .null, .null, .long 0]) (C := RX7) (T := TX7) (N := 31) hx hb hT inlX7 tyX7 tyX7_ok hown (hT _ (tr_1 _ (List.mem_of_getElem? (i := 3) rfl))) (hT _ (tr_1 _ (List.mem_of_getElem? (i := 4) rfl))) (hT _ (tr_1 _ (List.mem_of_getElem? (i := 5) rfl))) hK hP hD hS hA rfl (fun j hj => by rcases (show j = 0 ∨ j = 1 ∨ j = 2 ∨ j = 3 ∨ j = 4 ∨ j = 5 ∨ j = 6 ∨ j = 7 ∨ j = 8 ∨ j = 9 ∨ j = 10 ∨ j = 11 ∨ j = 12 ∨ j = 13 ∨ j = 14 ∨ j = 15 ∨ j = 16 ∨ j = 17 ∨ j = 18 ∨ j = 19 ∨ j = 20 ∨ j = 21 ∨ j = 22 ∨ j = 23 ∨ j = 24 ∨ j = 25 ∨ j = 26 ∨ j = 27 ∨ j = 28 ∨ j = 29 ∨ j = 30 by omega) with rfl | rfl | rfl | rfl | rfl | rfl | rfl | rfl | rfl | rfl | rfl | rfl | rfl | rfl | rfl | rfl | rfl | rfl | rfl | rfl | rfl | rfl | rfl | rfl | rfl | rfl | rfl | rfl | rfl | rfl | rfl <;> rfl) (Nat.le_of_ble_eq_true rfl) (Nat.le_of_ble_eq_true rfl) dL_law_8 (fun qm H hP hD hS => ?_)
  refine lv_dup hx hb dL_law_11 rfl ?_
  have hFc := free2 (rest := xw (D, cy, ad, rr, LP, (fun _ => True), 0, 0) gg (fun _ _ => 0) (fun _ _ => 0)) (wc := [(qm, .inr (7, [.int 0, .int 0, .null, .null, .null, .null, .null, .null, .int 0, .null, .null, .null, .int 0, .null, .int 0, .int 0, .null, .long 0, .int 0, .int 0, .int 0, .int 0, .null, .null, .null, .null, .null, .null, .null, .null, .long 0]))]) hD hS hA
  refine va_callv (va_runI (As := []) (rest := [.ref qm]) ⟨hx, hb, hml, hown, hT⟩ (c_X7_init l D cy qm H.size) (cwI 0 hT (tb_I (fun _ h => h) (tr_4 _ (List.mem_of_getElem? (i := 11) rfl))) rfl rfl rfl (hT _ (tr_1 _ (List.mem_of_getElem? (i := 5) rfl))) (hT _ (tr_4 _ (List.mem_of_getElem? (i := 9) rfl))) (hT _ (tr_4 _ (List.mem_of_getElem? (i := 10) rfl))) rfl (by decide +kernel) ⟨Nat.le_of_ble_eq_true rfl, Nat.le_of_ble_eq_true rfl⟩) ⟨fun a U f mk q => ⟨q.1, q.2.1, q.2.2.1, va_K.moved (u := U) (U := U.calling f mk a) (Vm.Alike.refl U.vm) q.2.2.2.1, q.2.2.2.2⟩, fun U hU hW => ⟨rfl, by rw [hU], by rw [hU]; exact part2 (rest := xw (D, cy, ad, rr, LP, (fun _ => True), 0, 0) gg (fun _ _ => 0) (fun _ _ => 0)) hP, va_K.moved hW.alike hK, partD (rest := xw (D, cy, ad, rr, LP, (fun _ => True), 0, 0) gg (fun _ _ => 0) (fun _ _ => 0)) hD⟩⟩ rfl rfl hl.1 rfl (lv_room (Nat.le_of_ble_eq_true rfl)) dL_law_12 ⟨Nat.le_of_ble_eq_true rfl, Nat.le_of_ble_eq_true rfl⟩) hS (fun q _ h => hFc q h) hFc (fun am t H1 locs ht hvm hw hB hz1 hk1 hS => ?_)
  obtain ⟨hP1, hD1⟩ := hB
  rw [ht] at hP1
  obtain ⟨hPn, hDn⟩ := join2 (rest := xw (D, cy, ad, rr, LP, (fun _ => True), 0, 0) gg (fun _ _ => 0) (fun _ _ => 0)) hP hD hk1 hFc hP1 hD1
  clear hP hD hk1 hFc hP1 hD1 hz1 ht
  subst hw
  have hP := hPn
  have hD := hDn
  clear hPn hDn
  generalize H1 = H at hP hS ⊢
  refine lv_astore_n (lv' := [(2, .ref (am 0)), (1, .ref (ad 0)), (0, .ref b)]) hx hb dL_law_15 rfl hl (by decide) rfl (fun ls hl => ?_)
  refine lv_iconst (v := 0) hx hb dL_law_16 (by decide) ?_
  refine lv_istore_n (lv' := [(3, .int 0), (2, .ref (am 0)), (1, .ref (ad 0)), (0, .ref b)]) hx hb dL_law_17 rfl hl (by decide) rfl (fun ls hl => ?_)
  have hPx : va_P D vwCl (xw (D, cy, ad, rr, LP, (fun _ => True), 0, 0) gg (fun _ _ => 0) (fun _ _ => 0)) H := partL hP
  have hPy : va_P D vwCl (mw (D, cy, am, (fun _ => True)) (fun _ _ => 0) (fun _ _ => 0)) H := part2 hP
  have hDx : va_D (fun q : Nat => s.heap.size ≤ q) (xw (D, cy, ad, rr, LP, (fun _ => True), 0, 0) gg (fun _ _ => 0) (fun _ _ => 0)) := partLD hD
  have hDy : va_D (fun q : Nat => s.heap.size ≤ q) (mw (D, cy, am, (fun _ => True)) (fun _ _ => 0) (fun _ _ => 0)) := partRD hD
  have hdj := dj2 hD
  have hX : LX s (D, cy, ad, rr, LP, (fun q => q ∈ (xw (D, cy, ad, rr, LP, (fun _ => True), 0, 0) gg (fun _ _ => 0) (fun _ _ => 0)).map Prod.fst), kK, kV) (D, cy, am, (fun q => q ∈ (mw (D, cy, am, (fun _ => True)) (fun _ _ => 0) (fun _ _ => 0)).map Prod.fst)) := by
    refine ⟨⟨?_, w2, w3, w4, w5⟩, ?_, hdj, own_in hDx, own_in hDy, hK, hK, hNq, hRs, hSt, hCo⟩
    · exact xD_map (xw_fst (Z := (D, cy, ad, rr, LP, (fun q => q ∈ (xw (D, cy, ad, rr, LP, (fun _ => True), 0, 0) gg (fun _ _ => 0) (fun _ _ => 0)).map Prod.fst), kK, kV)) (g := gg) (gl := fun _ _ => 0) (tf := fun _ _ => 0)) (own_D hDx)
    · exact own_D hDy
  have R0 := R_0 (Z := (D, cy, ad, rr, LP, (fun q => q ∈ (xw (D, cy, ad, rr, LP, (fun _ => True), 0, 0) gg (fun _ _ => 0) (fun _ _ => 0)).map Prod.fst), kK, kV)) w6
  have R0x := R_0x (Z := (D, cy, ad, rr, LP, (fun q => q ∈ (xw (D, cy, ad, rr, LP, (fun _ => True), 0, 0) gg (fun _ _ => 0) (fun _ _ => 0)).map Prod.fst), kK, kV)) w6 w7 w8
  refine W.widen (k := 155) (n := 6181) (Nat.le_of_ble_eq_true rfl) (Nat.le_of_ble_eq_true rfl) ?_
  refine law_loop hL C0 hT hX (fun H locs ls hS => ?_) (L + 1) 0 gg (fun _ _ => 0) (fun _ _ => 0) (fun _ _ => 0) (fun _ _ => 0) H _ hPx hPy hS R0.1 R0.2.1 R0.2.2.1 R0.2.2.2.1 R0.2.2.2.2 R0x.1 R0x.2 MJ_0 (by decide) (fun a _ => (by dsimp only; decide)) (Nat.zero_le _) (by omega) ls hl
  refine lv_iconst (v := 1) hx hb dL_law_765 (by decide) ?_
  refine va_forget (fun q hq => hS.2.2 q hq) ?_
  refine W.widen (k := 600000) (n := 7302250) (Nat.le_of_ble_eq_true rfl) (Nat.le_of_ble_eq_true rfl) ?_
  exact lw_ret hx hb hr hlocks dL_law_766
