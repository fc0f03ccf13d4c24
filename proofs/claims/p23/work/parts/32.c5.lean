set_option maxHeartbeats 4000000 in
set_option maxRecDepth 100000 in
/-- Arrays.fill on one array -/
theorem c_fill (l : Launch) (D : va_G) (cy : Nat → ClassId) (a : Nat) (sz : Nat) (n : Nat) (hn0 : n < 2 ^ 31) (f : Nat → Int32) (x1 : Int32) : Met l yJ7_fill_53178 (Cond.code yJ7_fill_53178 cJ7_fill_53178 4 none :: wsL_law) ({ frames := 0, cells := 0, slots := 0, locals := 0 } : Room) (va_Pc [.ref a, .int x1] (fun U => U.heap.size = sz ∧ va_P D vwCl [(a, .inl (cy 1, n, .inl f))] U.heap ∧ va_K D vwCl (cty cy) U ∧ va_D (fun _ => True) [(a, .inl (cy 1, n, .inl f))])) (va_Qv (fun (u : Nat → Int32) => ∀ j, j < n → u j = x1) (fun u t => va_P D vwCl [(a, .inl (cy 1, n, .inl u))] t.heap ∧ va_D (va_A [(a, .inl (cy 1, n, .inl f))] sz) [(a, .inl (cy 1, n, .inl u))]) (va_A [(a, .inl (cy 1, n, .inl f))] sz)) 0 0 (va_A [(a, .inl (cy 1, n, .inl f))] sz) := by
  refine Met.ofW (cc := cJ7_fill_53178) (maxL := 4) (ret := none) (by decide) rfl ?_
  intro p e s m args below meth c s₁ B hml hv
  obtain ⟨rfl, hsz, hP, hK, hD0⟩ := hv
  have hx := B.exec
  have hb := B.bytes
  have hr := B.returns
  have hlocks := B.notSynchronized
  subst hsz
  have hD := hD0.self (sz := s.heap.size)
  generalize hAe : va_A [(a, .inl (cy 1, n, .inl f))] s.heap.size = A at hD ⊢
  have hS : va_S A s.heap s.heap [] := va_S.rf
  have L5 : ∀ (k : Nat) (z2 : Int32) (f1 : Nat → Int32) (H : Heap) (locs : List Loc) (hP : va_P D vwCl [(a, .inl (cy 1, n, .inl f1))] H) (hD : va_D A [(a, .inl (cy 1, n, .inl f1))]) (hS : va_S A s.heap H locs) (h2 : 0 ≤ z2.toInt) (hA : ∀ j : Nat, (j : Int) < z2.toInt → f1 j = x1) (hn : (n - z2.toInt).toNat < k) (ls : Array Slot) (hl : lv_has ls 4 [(0, .ref a), (1, .int x1), (2, .int z2), (3, .int (nI n))]), W p l e ({ frames := 0, cells := 0, slots := 0, locals := 0 } : Room) s m ([.ref a, .int x1] : List Value).toArray below meth c H locs 0 0 (MQ below (va_Qv (fun (u : Nat → Int32) => ∀ j, j < n → u j = x1) (fun u t => va_P D vwCl [(a, .inl (cy 1, n, .inl u))] t.heap ∧ va_D A [(a, .inl (cy 1, n, .inl u))]) A) ([.ref a, .int x1] : List Value).toArray s 0 0 A) (F0 m 5 ls []) := by
    intro k
    induction k with
    | zero => intro z2 f1 H locs hP hD hS h2 hA hn; exact absurd hn (Nat.not_lt_zero _)
    | succ k ih =>
      intro z2 f1 H locs hP hD hS h2 hA hn ls hl
      refine lv_iload_n hx hb dJ7_fill_53178_5 rfl (lv_at hl 2 rfl) ?_
      refine lv_iload_n hx hb dJ7_fill_53178_6 rfl (lv_at hl 3 rfl) ?_
      refine lv_icmp_ge (tgt := 20) hx hb dJ7_fill_53178_7 (by decide) (fun c_7 => ?_) (fun c_7 => ?_)
      · have i_7 := ti_lek (nI_toInt hn0) rfl c_7
        exact W.vret hx hb hr (fun t ht hW => ⟨⟨f1, rfl, (fun j hj => hA j (by omega)), by show va_P D vwCl _ t.heap; rw [ht]; exact hP, hD⟩, hS.F ht⟩) hS.2.2 dJ7_fill_53178_20
      · have i_7 := ti_nlek (nI_toInt hn0) rfl c_7
        refine lv_aload_n hx hb dJ7_fill_53178_10 rfl (lv_at hl 0 rfl) ?_
        refine lv_iload_n hx hb dJ7_fill_53178_11 rfl (lv_at hl 2 rfl) ?_
        refine lv_iload_n hx hb dJ7_fill_53178_12 rfl (lv_at hl 1 rfl) ?_
        refine va_iast hx hb hK hP hD hS 0 1 rfl rfl (ti_vp h2 i_7) dJ7_fill_53178_13 (fun H locs hP hD hS => ?_)
        obtain ⟨v_14, e_14⟩ : ∃ y : Int32, y = z2 + 1 := ⟨_, rfl⟩
        refine lv_iinc (v := v_14) (lv' := [(2, .int v_14), (0, .ref a), (1, .int x1), (3, .int (nI n))]) hx hb dJ7_fill_53178_14 hl (k := 2) rfl (by rw [e_14]; rfl) (by decide) rfl (fun ls hl => ?_)
        have t_14 := ti_addk rfl tk_1 (by omega) (by omega) e_14
        refine lv_goto (tgt := 5) hx hb dJ7_fill_53178_17 (by decide) ?_
        exact ih v_14 _ _ _ hP hD hS (by omega) (fun j hj => by
          by_cases y : j = z2.toNatClampNeg
          · subst y; exact pk_us
          · have y2 : ¬ (j : Int) = z2.toInt := fun y3 => y (ti_clamp y3.symm).symm
            exact (pk_un y).trans (hA j (by omega))) (by omega) ls (lv_sub hl [1, 2, 0, 3] rfl)
  have hl := lv_entry ([.ref a, .int x1]) (n := 4) (Nat.le_of_ble_eq_true rfl)
  rw [lg_entry_eq]
  generalize (lg_sl ([.ref a, .int x1]) ++ List.replicate (4 - (lg_sl ([.ref a, .int x1])).length) Slot.unset).toArray = ls at hl ⊢
  have hl : lv_has ls 4 [(0, .ref a), (1, .int x1)] := hl
  refine lv_iconst (v := 0) hx hb dJ7_fill_53178_0 (by decide) ?_
  refine lv_istore_n (lv' := [(2, .int 0), (0, .ref a), (1, .int x1)]) hx hb dJ7_fill_53178_1 rfl hl (by decide) rfl (fun ls hl => ?_)
  refine lv_aload_n hx hb dJ7_fill_53178_2 rfl (lv_at hl 1 rfl) ?_
  refine va_alen hx hb hK hP 0 1 rfl rfl (v := nI n) rfl dJ7_fill_53178_3 ?_
  refine lv_istore_n (lv' := [(3, .int (nI n)), (2, .int 0), (0, .ref a), (1, .int x1)]) hx hb dJ7_fill_53178_4 rfl hl (by decide) rfl (fun ls hl => ?_)
  exact L5 _ 0 f _ _ hP hD hS (by decide) (fun j hj => by rw [show (0 : Int32).toInt = 0 by decide] at hj; omega) (Nat.lt_succ_self _) ls (lv_sub hl [2, 3, 1, 0] rfl)
set_option maxHeartbeats 4000000 in
set_option maxRecDepth 100000 in
theorem c_X5_init (l : Launch) (D : va_G) (cy : Nat → ClassId) (h0 : Nat) (sz : Nat) (r : Nat) : Met l yX5_init (Cond.code yX5_init cX5_init 2 none :: wsL_law) ({ frames := 1, cells := 5, slots := 4462, locals := 23 } : Room) (va_Pc [.ref h0, .ref r] (fun U => U.heap.size = sz ∧ va_P D vwCl [(h0, .inr (5, [.null, .null, .null, .null, .null, .int 0, .null]))] U.heap ∧ va_K D vwCl (cty cy) U ∧ va_D (fun _ => True) [(h0, .inr (5, [.null, .null, .null, .null, .null, .int 0, .null]))])) (va_Qv (fun (u : (Nat → Nat) × (Nat → Int32) × (Nat → Int32)) => ((∀ j, j < 128 → u.2.1 j = -1) ∧ (∀ j, j < 64 → u.2.2 j = -1))) (fun u t => va_P D vwCl ([(h0, .inr (5, [.ref r, .ref (u.1 0), .ref (u.1 1), .ref (u.1 2), .ref (u.1 3), .int 0, .ref (u.1 4)])), (u.1 0, .inl (cy 1, 128, .inl u.2.1)), (u.1 1, .inl (cy 1, 2100, .inl (fun _ => 0))), (u.1 2, .inl (cy 1, 2100, .inl (fun _ => 0))), (u.1 3, .inl (cy 1, 70, .inl (fun _ => 0))), (u.1 4, .inl (cy 1, 64, .inl u.2.2))]) t.heap ∧ va_D (va_A [(h0, .inr (5, [.null, .null, .null, .null, .null, .int 0, .null]))] sz) ([(h0, .inr (5, [.ref r, .ref (u.1 0), .ref (u.1 1), .ref (u.1 2), .ref (u.1 3), .int 0, .ref (u.1 4)])), (u.1 0, .inl (cy 1, 128, .inl u.2.1)), (u.1 1, .inl (cy 1, 2100, .inl (fun _ => 0))), (u.1 2, .inl (cy 1, 2100, .inl (fun _ => 0))), (u.1 3, .inl (cy 1, 70, .inl (fun _ => 0))), (u.1 4, .inl (cy 1, 64, .inl u.2.2))])) (va_A [(h0, .inr (5, [.null, .null, .null, .null, .null, .int 0, .null]))] sz)) 5 4462 (va_A [(h0, .inr (5, [.null, .null, .null, .null, .null, .int 0, .null]))] sz) := by
  refine Met.ofW (cc := cX5_init) (maxL := 2) (ret := none) (by decide) rfl ?_
  intro p e s m args below meth c s₁ B hml hv
  obtain ⟨rfl, hsz, hP, hK, hD0⟩ := hv
  have hx := B.exec
  have hb := B.bytes
  have hr := B.returns
  have hT : ∀ w ∈ wsL_law, w.before ([.ref h0, .ref r] : List Value).toArray s = true := fun w h => atoms_spec (ws := (Cond.code yX5_init cX5_init 2 none :: wsL_law)) B.pre w (List.mem_cons_of_mem _ h)
  have hown : s.vm.findClass RX5 = some m.cls := findClass_of_methodNamed B.named
  have hlocks := B.notSynchronized
  have hin : meth.name = "<init>" := (name_of_methodNamed B.named B.method).1
  subst hsz
  have hD := hD0.self (sz := s.heap.size)
  generalize hAe : va_A [(h0, .inr (5, [.null, .null, .null, .null, .null, .int 0, .null]))] s.heap.size = A at hD ⊢
  have hA : ∀ q : Nat, s.heap.size ≤ q → A q := fun q h => by rw [← hAe]; exact Or.inr h
  have hS : va_S A s.heap s.heap [] := va_S.rf
  have hl := lv_entry ([.ref h0, .ref r]) (n := 2) (Nat.le_of_ble_eq_true rfl)
  rw [lg_entry_eq]
  generalize (lg_sl ([.ref h0, .ref r]) ++ List.replicate (2 - (lg_sl ([.ref h0, .ref r])).length) Slot.unset).toArray = ls at hl ⊢
  have hl : lv_has ls 2 [(0, .ref h0), (1, .ref r)] := hl
  refine lv_aload_n hx hb dX5_init_0 rfl (lv_at hl 0 rfl) ?_
  refine W.objInit hx hb hown (hT _ (tr_3 _ (List.mem_of_getElem? (i := 11) rfl))) (hT _ (tr_1 _ (List.mem_of_getElem? (i := 10) rfl))) (hT _ (tr_1 _ (List.mem_of_getElem? (i := 11) rfl))) rfl (by rw [hml]; exact hl.1) rfl dX5_init_1 (Nat.le_of_ble_eq_true rfl) (Nat.le_of_ble_eq_true rfl) ?_
  refine W.eq (g2 := F0 m 4 ls []) rfl ?_
  refine lv_aload_n hx hb dX5_init_4 rfl (lv_at hl 0 rfl) ?_
  refine lv_sipush (v := 128) hx hb dX5_init_5 (by decide) ?_
  refine nw_int hx hb (hT _ (tr_2 _ (List.mem_of_getElem? (i := 17) rfl))) hK hP hD hS hA (N' := 128) (by decide) (by decide) (by decide) (Nat.le_of_ble_eq_true rfl) (Nat.le_of_ble_eq_true rfl) dX5_init_8 (fun q4 H hP hD hS => ?_)
  have hP : va_P D vwCl ([(h0, .inr (5, [.null, .null, .null, .null, .null, .int 0, .null])), (q4, .inl (cy 1, 128, .inl (fun _ => 0)))]) H := hP
  have hD : va_D A ([(h0, .inr (5, [.null, .null, .null, .null, .null, .int 0, .null])), (q4, .inl (cy 1, 128, .inl (fun _ => 0)))]) := hD
  refine va_putF (D := D) (ci := 5) (v := .ref q4) (ty := .array .int) (C := RX5) (T := TX5) (N := 7) hx hb hT inlX5 tyX5 tyX5_ok nmX5 hown hK hP hD hS 0 rfl rfl 1 (by decide) (hT _ (tr_3 _ (List.mem_of_getElem? (i := 12) rfl))) (fun _ h9 => h9) rfl hin rfl (by decide +kernel) rfl rfl (Nat.le_of_ble_eq_true rfl) dX5_init_10 (fun H locs hP hD hS => ?_)
  have hP : va_P D vwCl ([(h0, .inr (5, [.null, .ref q4, .null, .null, .null, .int 0, .null])), (q4, .inl (cy 1, 128, .inl (fun _ => 0)))]) H := hP
  have hD : va_D A ([(h0, .inr (5, [.null, .ref q4, .null, .null, .null, .int 0, .null])), (q4, .inl (cy 1, 128, .inl (fun _ => 0)))]) := hD
  refine lv_aload_n hx hb dX5_init_13 rfl (lv_at hl 0 rfl) ?_
  refine lv_sipush (v := 2100) hx hb dX5_init_14 (by decide) ?_
  refine nw_int hx hb (hT _ (tr_2 _ (List.mem_of_getElem? (i := 17) rfl))) hK hP hD hS hA (N' := 2100) (by decide) (by decide) (by decide) (Nat.le_of_ble_eq_true rfl) (Nat.le_of_ble_eq_true rfl) dX5_init_17 (fun q13 H hP hD hS => ?_)
  have hP : va_P D vwCl ([(h0, .inr (5, [.null, .ref q4, .null, .null, .null, .int 0, .null])), (q4, .inl (cy 1, 128, .inl (fun _ => 0))), (q13, .inl (cy 1, 2100, .inl (fun _ => 0)))]) H := hP
  have hD : va_D A ([(h0, .inr (5, [.null, .ref q4, .null, .null, .null, .int 0, .null])), (q4, .inl (cy 1, 128, .inl (fun _ => 0))), (q13, .inl (cy 1, 2100, .inl (fun _ => 0)))]) := hD
  refine va_putF (D := D) (ci := 5) (v := .ref q13) (ty := .array .int) (C := RX5) (T := TX5) (N := 7) hx hb hT inlX5 tyX5 tyX5_ok nmX5 hown hK hP hD hS 0 rfl rfl 2 (by decide) (hT _ (tr_3 _ (List.mem_of_getElem? (i := 13) rfl))) (fun _ h9 => h9) rfl hin rfl (by decide +kernel) rfl rfl (Nat.le_of_ble_eq_true rfl) dX5_init_19 (fun H locs hP hD hS => ?_)
  have hP : va_P D vwCl ([(h0, .inr (5, [.null, .ref q4, .ref q13, .null, .null, .int 0, .null])), (q4, .inl (cy 1, 128, .inl (fun _ => 0))), (q13, .inl (cy 1, 2100, .inl (fun _ => 0)))]) H := hP
  have hD : va_D A ([(h0, .inr (5, [.null, .ref q4, .ref q13, .null, .null, .int 0, .null])), (q4, .inl (cy 1, 128, .inl (fun _ => 0))), (q13, .inl (cy 1, 2100, .inl (fun _ => 0)))]) := hD
  refine lv_aload_n hx hb dX5_init_22 rfl (lv_at hl 0 rfl) ?_
  refine lv_sipush (v := 2100) hx hb dX5_init_23 (by decide) ?_
  refine nw_int hx hb (hT _ (tr_2 _ (List.mem_of_getElem? (i := 17) rfl))) hK hP hD hS hA (N' := 2100) (by decide) (by decide) (by decide) (Nat.le_of_ble_eq_true rfl) (Nat.le_of_ble_eq_true rfl) dX5_init_26 (fun q22 H hP hD hS => ?_)
  have hP : va_P D vwCl ([(h0, .inr (5, [.null, .ref q4, .ref q13, .null, .null, .int 0, .null])), (q4, .inl (cy 1, 128, .inl (fun _ => 0))), (q13, .inl (cy 1, 2100, .inl (fun _ => 0))), (q22, .inl (cy 1, 2100, .inl (fun _ => 0)))]) H := hP
  have hD : va_D A ([(h0, .inr (5, [.null, .ref q4, .ref q13, .null, .null, .int 0, .null])), (q4, .inl (cy 1, 128, .inl (fun _ => 0))), (q13, .inl (cy 1, 2100, .inl (fun _ => 0))), (q22, .inl (cy 1, 2100, .inl (fun _ => 0)))]) := hD
  refine va_putF (D := D) (ci := 5) (v := .ref q22) (ty := .array .int) (C := RX5) (T := TX5) (N := 7) hx hb hT inlX5 tyX5 tyX5_ok nmX5 hown hK hP hD hS 0 rfl rfl 3 (by decide) (hT _ (tr_3 _ (List.mem_of_getElem? (i := 14) rfl))) (fun _ h9 => h9) rfl hin rfl (by decide +kernel) rfl rfl (Nat.le_of_ble_eq_true rfl) dX5_init_28 (fun H locs hP hD hS => ?_)
  have hP : va_P D vwCl ([(h0, .inr (5, [.null, .ref q4, .ref q13, .ref q22, .null, .int 0, .null])), (q4, .inl (cy 1, 128, .inl (fun _ => 0))), (q13, .inl (cy 1, 2100, .inl (fun _ => 0))), (q22, .inl (cy 1, 2100, .inl (fun _ => 0)))]) H := hP
  have hD : va_D A ([(h0, .inr (5, [.null, .ref q4, .ref q13, .ref q22, .null, .int 0, .null])), (q4, .inl (cy 1, 128, .inl (fun _ => 0))), (q13, .inl (cy 1, 2100, .inl (fun _ => 0))), (q22, .inl (cy 1, 2100, .inl (fun _ => 0)))]) := hD
  refine lv_aload_n hx hb dX5_init_31 rfl (lv_at hl 0 rfl) ?_
  refine lv_bipush (v := 70) hx hb dX5_init_32 (by decide) ?_
  refine nw_int hx hb (hT _ (tr_2 _ (List.mem_of_getElem? (i := 17) rfl))) hK hP hD hS hA (N' := 70) (by decide) (by decide) (by decide) (Nat.le_of_ble_eq_true rfl) (Nat.le_of_ble_eq_true rfl) dX5_init_34 (fun q31 H hP hD hS => ?_)
  have hP : va_P D vwCl ([(h0, .inr (5, [.null, .ref q4, .ref q13, .ref q22, .null, .int 0, .null])), (q4, .inl (cy 1, 128, .inl (fun _ => 0))), (q13, .inl (cy 1, 2100, .inl (fun _ => 0))), (q22, .inl (cy 1, 2100, .inl (fun _ => 0))), (q31, .inl (cy 1, 70, .inl (fun _ => 0)))]) H := hP
  have hD : va_D A ([(h0, .inr (5, [.null, .ref q4, .ref q13, .ref q22, .null, .int 0, .null])), (q4, .inl (cy 1, 128, .inl (fun _ => 0))), (q13, .inl (cy 1, 2100, .inl (fun _ => 0))), (q22, .inl (cy 1, 2100, .inl (fun _ => 0))), (q31, .inl (cy 1, 70, .inl (fun _ => 0)))]) := hD
  refine va_putF (D := D) (ci := 5) (v := .ref q31) (ty := .array .int) (C := RX5) (T := TX5) (N := 7) hx hb hT inlX5 tyX5 tyX5_ok nmX5 hown hK hP hD hS 0 rfl rfl 4 (by decide) (hT _ (tr_3 _ (List.mem_of_getElem? (i := 15) rfl))) (fun _ h9 => h9) rfl hin rfl (by decide +kernel) rfl rfl (Nat.le_of_ble_eq_true rfl) dX5_init_36 (fun H locs hP hD hS => ?_)
  have hP : va_P D vwCl ([(h0, .inr (5, [.null, .ref q4, .ref q13, .ref q22, .ref q31, .int 0, .null])), (q4, .inl (cy 1, 128, .inl (fun _ => 0))), (q13, .inl (cy 1, 2100, .inl (fun _ => 0))), (q22, .inl (cy 1, 2100, .inl (fun _ => 0))), (q31, .inl (cy 1, 70, .inl (fun _ => 0)))]) H := hP
  have hD : va_D A ([(h0, .inr (5, [.null, .ref q4, .ref q13, .ref q22, .ref q31, .int 0, .null])), (q4, .inl (cy 1, 128, .inl (fun _ => 0))), (q13, .inl (cy 1, 2100, .inl (fun _ => 0))), (q22, .inl (cy 1, 2100, .inl (fun _ => 0))), (q31, .inl (cy 1, 70, .inl (fun _ => 0)))]) := hD
  refine lv_aload_n hx hb dX5_init_39 rfl (lv_at hl 0 rfl) ?_
  refine lv_bipush (v := 64) hx hb dX5_init_40 (by decide) ?_
  refine nw_int hx hb (hT _ (tr_2 _ (List.mem_of_getElem? (i := 17) rfl))) hK hP hD hS hA (N' := 64) (by decide) (by decide) (by decide) (Nat.le_of_ble_eq_true rfl) (Nat.le_of_ble_eq_true rfl) dX5_init_42 (fun q39 H hP hD hS => ?_)
  have hP : va_P D vwCl ([(h0, .inr (5, [.null, .ref q4, .ref q13, .ref q22, .ref q31, .int 0, .null])), (q4, .inl (cy 1, 128, .inl (fun _ => 0))), (q13, .inl (cy 1, 2100, .inl (fun _ => 0))), (q22, .inl (cy 1, 2100, .inl (fun _ => 0))), (q31, .inl (cy 1, 70, .inl (fun _ => 0))), (q39, .inl (cy 1, 64, .inl (fun _ => 0)))]) H := hP
  have hD : va_D A ([(h0, .inr (5, [.null, .ref q4, .ref q13, .ref q22, .ref q31, .int 0, .null])), (q4, .inl (cy 1, 128, .inl (fun _ => 0))), (q13, .inl (cy 1, 2100, .inl (fun _ => 0))), (q22, .inl (cy 1, 2100, .inl (fun _ => 0))), (q31, .inl (cy 1, 70, .inl (fun _ => 0))), (q39, .inl (cy 1, 64, .inl (fun _ => 0)))]) := hD
  refine va_putF (D := D) (ci := 5) (v := .ref q39) (ty := .array .int) (C := RX5) (T := TX5) (N := 7) hx hb hT inlX5 tyX5 tyX5_ok nmX5 hown hK hP hD hS 0 rfl rfl 6 (by decide) (hT _ (tr_3 _ (List.mem_of_getElem? (i := 16) rfl))) (fun _ h9 => h9) rfl hin rfl (by decide +kernel) rfl rfl (Nat.le_of_ble_eq_true rfl) dX5_init_44 (fun H locs hP hD hS => ?_)
  have hP : va_P D vwCl ([(h0, .inr (5, [.null, .ref q4, .ref q13, .ref q22, .ref q31, .int 0, .ref q39])), (q4, .inl (cy 1, 128, .inl (fun _ => 0))), (q13, .inl (cy 1, 2100, .inl (fun _ => 0))), (q22, .inl (cy 1, 2100, .inl (fun _ => 0))), (q31, .inl (cy 1, 70, .inl (fun _ => 0))), (q39, .inl (cy 1, 64, .inl (fun _ => 0)))]) H := hP
  have hD : va_D A ([(h0, .inr (5, [.null, .ref q4, .ref q13, .ref q22, .ref q31, .int 0, .ref q39])), (q4, .inl (cy 1, 128, .inl (fun _ => 0))), (q13, .inl (cy 1, 2100, .inl (fun _ => 0))), (q22, .inl (cy 1, 2100, .inl (fun _ => 0))), (q31, .inl (cy 1, 70, .inl (fun _ => 0))), (q39, .inl (cy 1, 64, .inl (fun _ => 0)))]) := hD
  refine lv_aload_n hx hb dX5_init_47 rfl (lv_at hl 0 rfl) ?_
  refine lv_aload_n hx hb dX5_init_48 rfl (lv_at hl 1 rfl) ?_
  refine va_putF (D := D) (ci := 5) (v := .ref r) (ty := .object "TariffDesk$Tariffs") (C := RX5) (T := TX5) (N := 7) hx hb hT inlX5 tyX5 tyX5_ok nmX5 hown hK hP hD hS 0 rfl rfl 0 (by decide) (hT _ (tr_3 _ (List.mem_of_getElem? (i := 17) rfl))) (fun _ h9 => h9) rfl hin rfl (by decide +kernel) rfl rfl (Nat.le_of_ble_eq_true rfl) dX5_init_49 (fun H locs hP hD hS => ?_)
  have hP : va_P D vwCl ([(h0, .inr (5, [.ref r, .ref q4, .ref q13, .ref q22, .ref q31, .int 0, .ref q39])), (q4, .inl (cy 1, 128, .inl (fun _ => 0))), (q13, .inl (cy 1, 2100, .inl (fun _ => 0))), (q22, .inl (cy 1, 2100, .inl (fun _ => 0))), (q31, .inl (cy 1, 70, .inl (fun _ => 0))), (q39, .inl (cy 1, 64, .inl (fun _ => 0)))]) H := hP
  have hD : va_D A ([(h0, .inr (5, [.ref r, .ref q4, .ref q13, .ref q22, .ref q31, .int 0, .ref q39])), (q4, .inl (cy 1, 128, .inl (fun _ => 0))), (q13, .inl (cy 1, 2100, .inl (fun _ => 0))), (q22, .inl (cy 1, 2100, .inl (fun _ => 0))), (q31, .inl (cy 1, 70, .inl (fun _ => 0))), (q39, .inl (cy 1, 64, .inl (fun _ => 0)))]) := hD
  refine lv_aload_n hx hb dX5_init_52 rfl (lv_at hl 0 rfl) ?_
  refine va_get (D := D) (ci := 5) (v := .ref q4) (C := RX5) (T := TX5) (N := 7) hx hb hT inlX5 hown hK hP 0 rfl rfl 1 (by decide) (hT _ (tr_3 _ (List.mem_of_getElem? (i := 12) rfl))) (fun _ h9 => h9) rfl dX5_init_53 ?_
  refine lv_iconst (v := (-1)) hx hb dX5_init_56 (by decide) ?_
  have hPc := hP.sub (ws' := [(q4, .inl (cy 1, 128, .inl (fun _ => 0)))]) [1] rfl
  have hDc := hD.sub (ws' := [(q4, .inl (cy 1, 128, .inl (fun _ => 0)))]) [1] (by decide) rfl
  have hFc := va_free (wc := [(q4, .inl (cy 1, 128, .inl (fun _ => 0)))]) hD hS hA [1] rfl
  refine va_callv (va_runS (As := [.ref q4, .int (-1)]) (rest := []) ⟨hx, hb, hml, hown, hT⟩ (c_fill l D cy q4 H.size 128 (by decide) (fun _ => 0) (-1)) (va_cwS 2 hT (tb_S (fun _ h => h) (tr_3 _ (List.mem_of_getElem? (i := 18) rfl)) (tr_3 _ (List.mem_of_getElem? (i := 19) rfl)) (tr_3 _ (List.mem_of_getElem? (i := 20) rfl)) (tr_3 _ (List.mem_of_getElem? (i := 21) rfl))) rfl rfl rfl (by decide +kernel) ⟨Nat.le_of_ble_eq_true rfl, Nat.le_of_ble_eq_true rfl⟩) ⟨fun a U f mk q => ⟨q.1, q.2.1, q.2.2.1, va_K.moved (u := U) (U := U.calling f mk a) (Vm.Alike.refl U.vm) q.2.2.2.1, q.2.2.2.2⟩, fun U hU hW => ⟨rfl, by rw [hU], by rw [hU]; exact hPc, va_K.moved hW.alike hK, hDc.weaken (fun _ _ _ _ => trivial)⟩⟩ rfl rfl hl.1 rfl (lv_room (Nat.le_of_ble_eq_true rfl)) dX5_init_57 ⟨Nat.le_of_ble_eq_true rfl, Nat.le_of_ble_eq_true rfl⟩) hS (fun q _ h => hFc q h) hFc (fun f6 t H1 locs ht hvm hwf6 hB hz1 hk1 hS => ?_)
  obtain ⟨hP1, hD1⟩ := hB
  rw [ht] at hP1
  obtain ⟨hP, hD⟩ := va_join (wr := [(h0, .inr (5, [.ref r, .ref q4, .ref q13, .ref q22, .ref q31, .int 0, .ref q39])), (q13, .inl (cy 1, 2100, .inl (fun _ => 0))), (q22, .inl (cy 1, 2100, .inl (fun _ => 0))), (q31, .inl (cy 1, 70, .inl (fun _ => 0))), (q39, .inl (cy 1, 64, .inl (fun _ => 0)))]) (w1 := [(q4, .inl (cy 1, 128, .inl f6))]) hP hD [1] [0, 2, 3, 4, 5] rfl rfl (by decide) (by decide) hk1 hFc hP1 hD1
  generalize H1 = H at hP hS ⊢
  have hP : va_P D vwCl ([(h0, .inr (5, [.ref r, .ref q4, .ref q13, .ref q22, .ref q31, .int 0, .ref q39])), (q13, .inl (cy 1, 2100, .inl (fun _ => 0))), (q22, .inl (cy 1, 2100, .inl (fun _ => 0))), (q31, .inl (cy 1, 70, .inl (fun _ => 0))), (q39, .inl (cy 1, 64, .inl (fun _ => 0))), (q4, .inl (cy 1, 128, .inl f6))]) H := hP
  have hD : va_D A ([(h0, .inr (5, [.ref r, .ref q4, .ref q13, .ref q22, .ref q31, .int 0, .ref q39])), (q13, .inl (cy 1, 2100, .inl (fun _ => 0))), (q22, .inl (cy 1, 2100, .inl (fun _ => 0))), (q31, .inl (cy 1, 70, .inl (fun _ => 0))), (q39, .inl (cy 1, 64, .inl (fun _ => 0))), (q4, .inl (cy 1, 128, .inl f6))]) := hD
  refine lv_aload_n hx hb dX5_init_60 rfl (lv_at hl 0 rfl) ?_
  refine va_get (D := D) (ci := 5) (v := .ref q39) (C := RX5) (T := TX5) (N := 7) hx hb hT inlX5 hown hK hP 0 rfl rfl 6 (by decide) (hT _ (tr_3 _ (List.mem_of_getElem? (i := 16) rfl))) (fun _ h9 => h9) rfl dX5_init_61 ?_
  refine lv_iconst (v := (-1)) hx hb dX5_init_64 (by decide) ?_
  have hPc := hP.sub (ws' := [(q39, .inl (cy 1, 64, .inl (fun _ => 0)))]) [4] rfl
  have hDc := hD.sub (ws' := [(q39, .inl (cy 1, 64, .inl (fun _ => 0)))]) [4] (by decide) rfl
  have hFc := va_free (wc := [(q39, .inl (cy 1, 64, .inl (fun _ => 0)))]) hD hS hA [4] rfl
  refine va_callv (va_runS (As := [.ref q39, .int (-1)]) (rest := []) ⟨hx, hb, hml, hown, hT⟩ (c_fill l D cy q39 H.size 64 (by decide) (fun _ => 0) (-1)) (va_cwS 2 hT (tb_S (fun _ h => h) (tr_3 _ (List.mem_of_getElem? (i := 18) rfl)) (tr_3 _ (List.mem_of_getElem? (i := 19) rfl)) (tr_3 _ (List.mem_of_getElem? (i := 20) rfl)) (tr_3 _ (List.mem_of_getElem? (i := 21) rfl))) rfl rfl rfl (by decide +kernel) ⟨Nat.le_of_ble_eq_true rfl, Nat.le_of_ble_eq_true rfl⟩) ⟨fun a U f mk q => ⟨q.1, q.2.1, q.2.2.1, va_K.moved (u := U) (U := U.calling f mk a) (Vm.Alike.refl U.vm) q.2.2.2.1, q.2.2.2.2⟩, fun U hU hW => ⟨rfl, by rw [hU], by rw [hU]; exact hPc, va_K.moved hW.alike hK, hDc.weaken (fun _ _ _ _ => trivial)⟩⟩ rfl rfl hl.1 rfl (lv_room (Nat.le_of_ble_eq_true rfl)) dX5_init_65 ⟨Nat.le_of_ble_eq_true rfl, Nat.le_of_ble_eq_true rfl⟩) hS (fun q _ h => hFc q h) hFc (fun f10 t H1 locs ht hvm hwf10 hB hz1 hk1 hS => ?_)
  obtain ⟨hP1, hD1⟩ := hB
  rw [ht] at hP1
  obtain ⟨hP, hD⟩ := va_join (wr := [(h0, .inr (5, [.ref r, .ref q4, .ref q13, .ref q22, .ref q31, .int 0, .ref q39])), (q13, .inl (cy 1, 2100, .inl (fun _ => 0))), (q22, .inl (cy 1, 2100, .inl (fun _ => 0))), (q31, .inl (cy 1, 70, .inl (fun _ => 0))), (q4, .inl (cy 1, 128, .inl f6))]) (w1 := [(q39, .inl (cy 1, 64, .inl f10))]) hP hD [4] [0, 1, 2, 3, 5] rfl rfl (by decide) (by decide) hk1 hFc hP1 hD1
  generalize H1 = H at hP hS ⊢
  have hP : va_P D vwCl ([(h0, .inr (5, [.ref r, .ref q4, .ref q13, .ref q22, .ref q31, .int 0, .ref q39])), (q13, .inl (cy 1, 2100, .inl (fun _ => 0))), (q22, .inl (cy 1, 2100, .inl (fun _ => 0))), (q31, .inl (cy 1, 70, .inl (fun _ => 0))), (q4, .inl (cy 1, 128, .inl f6)), (q39, .inl (cy 1, 64, .inl f10))]) H := hP
  have hD : va_D A ([(h0, .inr (5, [.ref r, .ref q4, .ref q13, .ref q22, .ref q31, .int 0, .ref q39])), (q13, .inl (cy 1, 2100, .inl (fun _ => 0))), (q22, .inl (cy 1, 2100, .inl (fun _ => 0))), (q31, .inl (cy 1, 70, .inl (fun _ => 0))), (q4, .inl (cy 1, 128, .inl f6)), (q39, .inl (cy 1, 64, .inl f10))]) := hD
  have hP := hP.sub (ws' := [(h0, .inr (5, [.ref r, .ref q4, .ref q13, .ref q22, .ref q31, .int 0, .ref q39])), (q4, .inl (cy 1, 128, .inl f6)), (q13, .inl (cy 1, 2100, .inl (fun _ => 0))), (q22, .inl (cy 1, 2100, .inl (fun _ => 0))), (q31, .inl (cy 1, 70, .inl (fun _ => 0))), (q39, .inl (cy 1, 64, .inl f10))]) [0, 4, 1, 2, 3, 5] rfl
  have hD := hD.sub (ws' := [(h0, .inr (5, [.ref r, .ref q4, .ref q13, .ref q22, .ref q31, .int 0, .ref q39])), (q4, .inl (cy 1, 128, .inl f6)), (q13, .inl (cy 1, 2100, .inl (fun _ => 0))), (q22, .inl (cy 1, 2100, .inl (fun _ => 0))), (q31, .inl (cy 1, 70, .inl (fun _ => 0))), (q39, .inl (cy 1, 64, .inl f10))]) [0, 4, 1, 2, 3, 5] (by decide) rfl
  refine W.widen (k := 5) (n := 4462) (Nat.le_of_ble_eq_true rfl) (Nat.le_of_ble_eq_true rfl) ?_
  exact W.vret hx hb hr (fun t ht hW => ⟨⟨((fun i => ([q4, q13, q22, q31, q39] : List Nat).getD i 0), f6, f10), rfl, ⟨hwf6, hwf10⟩, by show va_P D vwCl _ t.heap; rw [ht]; exact hP, hD⟩, hS.F ht⟩) hS.2.2 dX5_init_68
