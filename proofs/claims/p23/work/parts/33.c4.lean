set_option maxHeartbeats 4000000 in
set_option maxRecDepth 100000 in
theorem c_X4_init_70 (l : Launch) (D : va_G) (cy : Nat → ClassId) (h0 : Nat) (sz : Nat)  : Met l yX4_init (Cond.code yX4_init cX4_init 3 none :: wsL_law) ({ frames := 2, cells := 71, slots := 420, locals := 40 } : Room) (va_Pc [.ref h0, .int 70] (fun U => U.heap.size = sz ∧ va_P D vwCl [(h0, .inr (4, [.null, .int 0]))] U.heap ∧ va_K D vwCl (cty cy) U ∧ va_D (fun _ => True) [(h0, .inr (4, [.null, .int 0]))] ∧ va_AO RX3 U ∧ va_Nw (.methodLinkNest RX4 21 yX3_init RX6) U)) (va_Qv (fun (u : Nat × (Nat → Option Nat) × List Nat) => (u.2.2.length = 70 ∧ ∀ j, j < 70 → u.2.1 j = u.2.2[j]?)) (fun u t => va_P D vwCl ([(h0, .inr (4, [.ref u.1, .int 0])), (u.1, .inl (cy 3, 70, .inr (.inr (.inr (.inr u.2.1)))))] ++ va_pl u.2.2 (tfF (fun _ _ => 0))) t.heap ∧ va_D (va_A [(h0, .inr (4, [.null, .int 0]))] sz) ([(h0, .inr (4, [.ref u.1, .int 0])), (u.1, .inl (cy 3, 70, .inr (.inr (.inr (.inr u.2.1)))))] ++ va_pl u.2.2 (tfF (fun _ _ => 0)))) (va_A [(h0, .inr (4, [.null, .int 0]))] sz)) 71 420 (va_A [(h0, .inr (4, [.null, .int 0]))] sz) := by
  refine Met.ofW (cc := cX4_init) (maxL := 3) (ret := none) (by decide) rfl ?_
  intro p e s m args below meth c s₁ B hml hv
  obtain ⟨rfl, hsz, hP, hK, hD0, hX⟩ := hv
  have hx := B.exec
  have hb := B.bytes
  have hr := B.returns
  have hT : ∀ w ∈ wsL_law, w.before ([.ref h0, .int 70] : List Value).toArray s = true := fun w h => atoms_spec (ws := (Cond.code yX4_init cX4_init 3 none :: wsL_law)) B.pre w (List.mem_cons_of_mem _ h)
  have hown : s.vm.findClass RX4 = some m.cls := findClass_of_methodNamed B.named
  have hlocks := B.notSynchronized
  have hin : meth.name = "<init>" := (name_of_methodNamed B.named B.method).1
  subst hsz
  have hD := hD0.self (sz := s.heap.size)
  generalize hAe : va_A [(h0, .inr (4, [.null, .int 0]))] s.heap.size = A at hD ⊢
  have hA : ∀ q : Nat, s.heap.size ≤ q → A q := fun q h => by rw [← hAe]; exact Or.inr h
  have hS : va_S A s.heap s.heap [] := va_S.rf
  have L18 : ∀ (k i : Nat) (q1 : Nat) (f : Nat → Option Nat) (LP : List Nat) (H : Heap) (locs : List Loc) (hP : va_P D vwCl ([(h0, .inr (4, [.ref q1, .int 0])), (q1, .inl (cy 3, 70, .inr (.inr (.inr (.inr f)))))] ++ va_pl LP (tfF (fun _ _ => 0))) H) (hD : va_D A ([(h0, .inr (4, [.ref q1, .int 0])), (q1, .inl (cy 3, 70, .inr (.inr (.inr (.inr f)))))] ++ va_pl LP (tfF (fun _ _ => 0)))) (hS : va_S A s.heap H locs) (hi : i ≤ 70) (hf : LP.length = i ∧ ∀ j, j < i → f j = LP[j]?) (hn : 70 - i < k) (ls : Array Slot) (hl : lv_has ls 3 [(0, .ref h0), (1, .int 70), (2, .int (nI i))]), W p l e ({ frames := 2, cells := 71, slots := 420, locals := 40 } : Room) s m ([.ref h0, .int 70] : List Value).toArray below meth c H locs (1 + i) (70 + 5 * i) (MQ below (va_Qv (fun (u : Nat × (Nat → Option Nat) × List Nat) => (u.2.2.length = 70 ∧ ∀ j, j < 70 → u.2.1 j = u.2.2[j]?)) (fun u t => va_P D vwCl ([(h0, .inr (4, [.ref u.1, .int 0])), (u.1, .inl (cy 3, 70, .inr (.inr (.inr (.inr u.2.1)))))] ++ va_pl u.2.2 (tfF (fun _ _ => 0))) t.heap ∧ va_D A ([(h0, .inr (4, [.ref u.1, .int 0])), (u.1, .inl (cy 3, 70, .inr (.inr (.inr (.inr u.2.1)))))] ++ va_pl u.2.2 (tfF (fun _ _ => 0)))) A) ([.ref h0, .int 70] : List Value).toArray s 71 420 A) (F0 m 18 ls []) := by
    intro k
    induction k with
    | zero => intro i q1 f LP H locs hP hD hS hi hf hn; exact absurd hn (Nat.not_lt_zero _)
    | succ k ih =>
      intro i q1 f LP H locs hP hD hS hi hf hn ls hl
      refine lv_iload_n hx hb dX4_init_18 rfl (lv_at hl 2 rfl) ?_
      refine lv_aload_n hx hb dX4_init_19 rfl (lv_at hl 0 rfl) ?_
      refine va_get (D := D) (ci := 4) (v := .ref q1) (C := RX4) (T := TX4) (N := 2) hx hb hT inlX4 hown hK hP 0 rfl rfl 0 (by decide) (hT _ (tr_3 _ (List.mem_of_getElem? (i := 4) rfl))) (fun _ h9 => h9) rfl dX4_init_20 ?_
      refine va_alen hx hb hK hP 1 3 rfl rfl (v := 70) rfl dX4_init_23 ?_
      refine lv_icmp_ge (tgt := 46) hx hb dX4_init_24 (by decide) (fun c_24 => ?_) (fun c_24 => ?_)
      · have i_24 := ti_lek tk_70 (nI_toInt (by omega)) c_24
        have hiN : i = 70 := by omega
        subst hiN
        refine W.widen (k := 71) (n := 420) (by omega) (by omega) ?_
        exact W.vret hx hb hr (fun t ht hW => ⟨⟨(q1, f, LP), rfl, hf, by show va_P D vwCl _ t.heap; rw [ht]; exact hP, hD⟩, hS.F ht⟩) hS.2.2 dX4_init_46
      · have i_24 := ti_nlek tk_70 (nI_toInt (by omega)) c_24
        refine lv_aload_n hx hb dX4_init_27 rfl (lv_at hl 0 rfl) ?_
        refine va_get (D := D) (ci := 4) (v := .ref q1) (C := RX4) (T := TX4) (N := 2) hx hb hT inlX4 hown hK hP 0 rfl rfl 0 (by decide) (hT _ (tr_3 _ (List.mem_of_getElem? (i := 4) rfl))) (fun _ h9 => h9) rfl dX4_init_28 ?_
        refine lv_iload_n hx hb dX4_init_31 rfl (lv_at hl 2 rfl) ?_
        refine va_new (ci := 3) (fs := [.int 0, .int 0, .int 0, .int 0, .int 0]) (C := RX3) (T := TX3) (N := 5) hx hb hT inlX3 tyX3 tyX3_ok hown (hT _ (tr_3 _ (List.mem_of_getElem? (i := 3) rfl))) (hT _ (tr_2 _ (List.mem_of_getElem? (i := 9) rfl))) (hT _ (tr_2 _ (List.mem_of_getElem? (i := 10) rfl))) hK hP hD hS hA rfl (fun j hj => by rcases (show j = 0 ∨ j = 1 ∨ j = 2 ∨ j = 3 ∨ j = 4 by omega) with rfl | rfl | rfl | rfl | rfl <;> rfl) (show 1 + i + 1 ≤ 71 by omega) (show 70 + 5 * i + 5 ≤ 420 by omega) dX4_init_32 (fun q H hP hD hS => ?_)
        refine lv_dup hx hb dX4_init_35 rfl ?_
        have hFc := free2 hD hS hA
        refine va_callv (va_runIN (As := []) (rest := [.ref q, .int (nI i), .ref q1]) ⟨hx, hb, hml, hown, hT⟩ (c_X3_init l D cy q H.size) ⟨va_cnB 0 hT (tb_I (fun _ h => h) (tr_3 _ (List.mem_of_getElem? (i := 6) rfl))) rfl rfl rfl hX.2 (hT _ (tr_2 _ (List.mem_of_getElem? (i := 10) rfl))) (by decide +kernel) ⟨Nat.le_of_ble_eq_true rfl, Nat.le_of_ble_eq_true rfl⟩, rfl, hT _ (tr_3 _ (List.mem_of_getElem? (i := 5) rfl))⟩ ⟨fun a U f mk q => ⟨q.1, q.2.1, q.2.2.1, va_K.moved (u := U) (U := U.calling f mk a) (Vm.Alike.refl U.vm) q.2.2.2.1, q.2.2.2.2⟩, fun U hU hW => ⟨rfl, by rw [hU], by rw [hU]; exact part2 hP, va_K.moved hW.alike hK, partD hD⟩⟩ rfl rfl hl.1 rfl (lv_room (Nat.le_of_ble_eq_true rfl)) dX4_init_36 ⟨(show 1 + i + 1 + 0 ≤ 71 by omega), (show 70 + 5 * i + 5 + 0 ≤ 420 by omega)⟩) hS (fun q _ h => hFc q h) hFc (fun u t H1 locs ht hvm hw hB hz1 hk1 hS => ?_)
        obtain ⟨hP1, hD1⟩ := hB
        rw [ht] at hP1
        obtain ⟨hP, hD⟩ := join2 hP hD hk1 hFc hP1 hD1
        generalize H1 = H at hP hS ⊢
        have hin24 : vp_in (nI i) 70 := vp_in_nI (by omega) (by decide)
        refine va_astq (r := (RX3, TX3, 5)) hx hb hK hP hD hS 1 3 ([(h0, .inr (4, [.ref q1, .int 0])), (q1, .inl (cy 3, 70, .inr (.inr (.inr (.inr f)))))] ++ va_pl LP (tfF (fun _ _ => 0)) : va_W).length 3 rfl rfl (by rw [List.getElem?_append_right (Nat.le_refl _), Nat.sub_self]; rfl) rfl hin24 dX4_init_39 (fun H locs hP hD hS => ?_)
        rw [nI_clamp (show i < 2 ^ 31 by omega)] at hP hD
        have eW : va_pl (LP ++ [q]) (tfF (fun _ _ => 0)) = va_pl LP (tfF (fun _ _ => 0)) ++ [(q, .inr (3, [.int 0, .int 0, .int 0, .int 0, .int 0]))] := by simp [va_pl, tfF]
        have hP : va_P D vwCl ([(h0, .inr (4, [.ref q1, .int 0])), (q1, .inl (cy 3, 70, .inr (.inr (.inr (.inr (va_up f i (some q)))))))] ++ va_pl (LP ++ [q]) (tfF (fun _ _ => 0))) H := by rw [eW]; exact hP
        have hD : va_D A ([(h0, .inr (4, [.ref q1, .int 0])), (q1, .inl (cy 3, 70, .inr (.inr (.inr (.inr (va_up f i (some q)))))))] ++ va_pl (LP ++ [q]) (tfF (fun _ _ => 0))) := by rw [eW]; exact hD
        obtain ⟨v_40, e_40⟩ : ∃ y : Int32, y = nI i + 1 := ⟨_, rfl⟩
        refine lv_iinc (v := v_40) (lv' := [(2, .int v_40), (0, .ref h0), (1, .int 70)]) hx hb dX4_init_40 hl (k := 2) rfl (by rw [e_40]; rfl) (by decide) rfl (fun ls hl => ?_)
        refine lv_goto (tgt := 18) hx hb dX4_init_43 (by decide) ?_
        rw [nI_1] at e_40
        subst e_40
        refine W.widen (k := 1 + (i + 1)) (n := 70 + 5 * (i + 1)) (by omega) (by omega) ?_
        exact ih (i + 1) q1 _ _ _ _ hP hD hS (by omega) ⟨by rw [List.length_append, hf.1]; rfl, fun j hj => by
          rcases Nat.lt_or_ge j i with z | z
          · rw [va_up_ne _ _ (by omega), List.getElem?_append_left (by rw [hf.1]; exact z)]; exact hf.2 j z
          · have zz : j = i := by omega
            subst zz
            rw [va_up_self, List.getElem?_append_right (by rw [hf.1]; exact Nat.le_refl _), hf.1, Nat.sub_self]; rfl⟩ (by omega) ls (lv_sub hl [1, 2, 0] rfl)
  have hl := lv_entry ([.ref h0, .int 70]) (n := 3) (Nat.le_of_ble_eq_true rfl)
  rw [lg_entry_eq]
  generalize (lg_sl ([.ref h0, .int 70]) ++ List.replicate (3 - (lg_sl ([.ref h0, .int 70])).length) Slot.unset).toArray = ls at hl ⊢
  have hl : lv_has ls 3 [(0, .ref h0), (1, .int 70)] := hl
  refine lv_aload_n hx hb dX4_init_0 rfl (lv_at hl 0 rfl) ?_
  refine W.objInit hx hb hown (hT _ (tr_2 _ (List.mem_of_getElem? (i := 22) rfl))) (hT _ (tr_1 _ (List.mem_of_getElem? (i := 10) rfl))) (hT _ (tr_1 _ (List.mem_of_getElem? (i := 11) rfl))) rfl (by rw [hml]; exact hl.1) rfl dX4_init_1 (Nat.le_of_ble_eq_true rfl) (Nat.le_of_ble_eq_true rfl) ?_
  refine W.eq (g2 := F0 m 4 ls []) rfl ?_
  refine lv_aload_n hx hb dX4_init_4 rfl (lv_at hl 0 rfl) ?_
  refine lv_iload_n hx hb dX4_init_5 rfl (lv_at hl 1 rfl) ?_
  refine lv_iconst (v := 1) hx hb dX4_init_6 (by decide) ?_
  refine va_mmax hx hb (hml.trans hl.1.symm) hown (hT _ (tr_2 _ (List.mem_of_getElem? (i := 23) rfl))) (hT _ (tr_3 _ (List.mem_of_getElem? (i := 0) rfl))) (hT _ (tr_3 _ (List.mem_of_getElem? (i := 1) rfl))) (hT _ (tr_3 _ (List.mem_of_getElem? (i := 2) rfl))) (Nat.le_of_ble_eq_true rfl) (Nat.le_of_ble_eq_true rfl) (Nat.zero_le _) (Nat.zero_le _) dX4_init_7 ?_
  refine lv_topi (fun v_7 e_7 => ?_)
  have e7 : v_7 = 70 := by rw [e_7]; decide
  subst e7
  refine nw_obj hx hb hown (hT _ (tr_3 _ (List.mem_of_getElem? (i := 3) rfl))) hX.1 hK hP hD hS hA (N' := 70) (by decide) (by decide) (by decide) (Nat.le_of_ble_eq_true rfl) (Nat.le_of_ble_eq_true rfl) dX4_init_10 (fun q10 H hP hD hS => ?_)
  have hP : va_P D vwCl ([(h0, .inr (4, [.null, .int 0])), (q10, .inl (cy 3, 70, .inr (.inr (.inr (.inr (fun _ => none))))))]) H := hP
  have hD : va_D A ([(h0, .inr (4, [.null, .int 0])), (q10, .inl (cy 3, 70, .inr (.inr (.inr (.inr (fun _ => none))))))]) := hD
  refine va_putF (D := D) (ci := 4) (v := .ref q10) (ty := .array (.object "TariffDesk$Tariff")) (C := RX4) (T := TX4) (N := 2) hx hb hT inlX4 tyX4 tyX4_ok nmX4 hown hK hP hD hS 0 rfl rfl 0 (by decide) (hT _ (tr_3 _ (List.mem_of_getElem? (i := 4) rfl))) (fun _ h9 => h9) rfl hin rfl (by decide +kernel) rfl rfl (Nat.le_of_ble_eq_true rfl) dX4_init_13 (fun H locs hP hD hS => ?_)
  have hP : va_P D vwCl ([(h0, .inr (4, [.ref q10, .int 0])), (q10, .inl (cy 3, 70, .inr (.inr (.inr (.inr (fun _ => none))))))] ++ va_pl [] (tfF (fun _ _ => 0))) H := hP
  have hD : va_D A ([(h0, .inr (4, [.ref q10, .int 0])), (q10, .inl (cy 3, 70, .inr (.inr (.inr (.inr (fun _ => none))))))] ++ va_pl [] (tfF (fun _ _ => 0))) := hD
  refine lv_iconst (v := 0) hx hb dX4_init_16 (by decide) ?_
  refine lv_istore_n (lv' := [(2, .int 0), (0, .ref h0), (1, .int 70)]) hx hb dX4_init_17 rfl hl (by decide) rfl (fun ls hl => ?_)
  refine W.widen (k := 1 + 0) (n := 70 + 5 * 0) (by omega) (by omega) ?_
  exact L18 (70 + 1) 0 q10 _ [] _ _ hP hD hS (by omega) ⟨rfl, fun j hj => absurd hj (Nat.not_lt_zero _)⟩ (by omega) ls (lv_sub hl [1, 2, 0] rfl)
set_option maxHeartbeats 4000000 in
set_option maxRecDepth 100000 in
theorem c_X4_init_40 (l : Launch) (D : va_G) (cy : Nat → ClassId) (h0 : Nat) (sz : Nat)  : Met l yX4_init (Cond.code yX4_init cX4_init 3 none :: wsL_law) ({ frames := 2, cells := 41, slots := 240, locals := 40 } : Room) (va_Pc [.ref h0, .int 40] (fun U => U.heap.size = sz ∧ va_P D vwCl [(h0, .inr (4, [.null, .int 0]))] U.heap ∧ va_K D vwCl (cty cy) U ∧ va_D (fun _ => True) [(h0, .inr (4, [.null, .int 0]))] ∧ va_AO RX3 U ∧ va_Nw (.methodLinkNest RX4 21 yX3_init RX6) U)) (va_Qv (fun (u : Nat × (Nat → Option Nat) × List Nat) => (u.2.2.length = 40 ∧ ∀ j, j < 40 → u.2.1 j = u.2.2[j]?)) (fun u t => va_P D vwCl ([(h0, .inr (4, [.ref u.1, .int 0])), (u.1, .inl (cy 3, 40, .inr (.inr (.inr (.inr u.2.1)))))] ++ va_pl u.2.2 (tfF (fun _ _ => 0))) t.heap ∧ va_D (va_A [(h0, .inr (4, [.null, .int 0]))] sz) ([(h0, .inr (4, [.ref u.1, .int 0])), (u.1, .inl (cy 3, 40, .inr (.inr (.inr (.inr u.2.1)))))] ++ va_pl u.2.2 (tfF (fun _ _ => 0)))) (va_A [(h0, .inr (4, [.null, .int 0]))] sz)) 41 240 (va_A [(h0, .inr (4, [.null, .int 0]))] sz) := by
  refine Met.ofW (cc := cX4_init) (maxL := 3) (ret := none) (by decide) rfl ?_
  intro p e s m args below meth c s₁ B hml hv
  obtain ⟨rfl, hsz, hP, hK, hD0, hX⟩ := hv
  have hx := B.exec
  have hb := B.bytes
  have hr := B.returns
  have hT : ∀ w ∈ wsL_law, w.before ([.ref h0, .int 40] : List Value).toArray s = true := fun w h => atoms_spec (ws := (Cond.code yX4_init cX4_init 3 none :: wsL_law)) B.pre w (List.mem_cons_of_mem _ h)
  have hown : s.vm.findClass RX4 = some m.cls := findClass_of_methodNamed B.named
  have hlocks := B.notSynchronized
  have hin : meth.name = "<init>" := (name_of_methodNamed B.named B.method).1
  subst hsz
  have hD := hD0.self (sz := s.heap.size)
  generalize hAe : va_A [(h0, .inr (4, [.null, .int 0]))] s.heap.size = A at hD ⊢
  have hA : ∀ q : Nat, s.heap.size ≤ q → A q := fun q h => by rw [← hAe]; exact Or.inr h
  have hS : va_S A s.heap s.heap [] := va_S.rf
  have L18 : ∀ (k i : Nat) (q1 : Nat) (f : Nat → Option Nat) (LP : List Nat) (H : Heap) (locs : List Loc) (hP : va_P D vwCl ([(h0, .inr (4, [.ref q1, .int 0])), (q1, .inl (cy 3, 40, .inr (.inr (.inr (.inr f)))))] ++ va_pl LP (tfF (fun _ _ => 0))) H) (hD : va_D A ([(h0, .inr (4, [.ref q1, .int 0])), (q1, .inl (cy 3, 40, .inr (.inr (.inr (.inr f)))))] ++ va_pl LP (tfF (fun _ _ => 0)))) (hS : va_S A s.heap H locs) (hi : i ≤ 40) (hf : LP.length = i ∧ ∀ j, j < i → f j = LP[j]?) (hn : 40 - i < k) (ls : Array Slot) (hl : lv_has ls 3 [(0, .ref h0), (1, .int 40), (2, .int (nI i))]), W p l e ({ frames := 2, cells := 41, slots := 240, locals := 40 } : Room) s m ([.ref h0, .int 40] : List Value).toArray below meth c H locs (1 + i) (40 + 5 * i) (MQ below (va_Qv (fun (u : Nat × (Nat → Option Nat) × List Nat) => (u.2.2.length = 40 ∧ ∀ j, j < 40 → u.2.1 j = u.2.2[j]?)) (fun u t => va_P D vwCl ([(h0, .inr (4, [.ref u.1, .int 0])), (u.1, .inl (cy 3, 40, .inr (.inr (.inr (.inr u.2.1)))))] ++ va_pl u.2.2 (tfF (fun _ _ => 0))) t.heap ∧ va_D A ([(h0, .inr (4, [.ref u.1, .int 0])), (u.1, .inl (cy 3, 40, .inr (.inr (.inr (.inr u.2.1)))))] ++ va_pl u.2.2 (tfF (fun _ _ => 0)))) A) ([.ref h0, .int 40] : List Value).toArray s 41 240 A) (F0 m 18 ls []) := by
    intro k
    induction k with
    | zero => intro i q1 f LP H locs hP hD hS hi hf hn; exact absurd hn (Nat.not_lt_zero _)
    | succ k ih =>
      intro i q1 f LP H locs hP hD hS hi hf hn ls hl
      refine lv_iload_n hx hb dX4_init_18 rfl (lv_at hl 2 rfl) ?_
      refine lv_aload_n hx hb dX4_init_19 rfl (lv_at hl 0 rfl) ?_
      refine va_get (D := D) (ci := 4) (v := .ref q1) (C := RX4) (T := TX4) (N := 2) hx hb hT inlX4 hown hK hP 0 rfl rfl 0 (by decide) (hT _ (tr_3 _ (List.mem_of_getElem? (i := 4) rfl))) (fun _ h9 => h9) rfl dX4_init_20 ?_
      refine va_alen hx hb hK hP 1 3 rfl rfl (v := 40) rfl dX4_init_23 ?_
      refine lv_icmp_ge (tgt := 46) hx hb dX4_init_24 (by decide) (fun c_24 => ?_) (fun c_24 => ?_)
      · have i_24 := ti_lek tk_40 (nI_toInt (by omega)) c_24
        have hiN : i = 40 := by omega
        subst hiN
        refine W.widen (k := 41) (n := 240) (by omega) (by omega) ?_
        exact W.vret hx hb hr (fun t ht hW => ⟨⟨(q1, f, LP), rfl, hf, by show va_P D vwCl _ t.heap; rw [ht]; exact hP, hD⟩, hS.F ht⟩) hS.2.2 dX4_init_46
      · have i_24 := ti_nlek tk_40 (nI_toInt (by omega)) c_24
        refine lv_aload_n hx hb dX4_init_27 rfl (lv_at hl 0 rfl) ?_
        refine va_get (D := D) (ci := 4) (v := .ref q1) (C := RX4) (T := TX4) (N := 2) hx hb hT inlX4 hown hK hP 0 rfl rfl 0 (by decide) (hT _ (tr_3 _ (List.mem_of_getElem? (i := 4) rfl))) (fun _ h9 => h9) rfl dX4_init_28 ?_
        refine lv_iload_n hx hb dX4_init_31 rfl (lv_at hl 2 rfl) ?_
        refine va_new (ci := 3) (fs := [.int 0, .int 0, .int 0, .int 0, .int 0]) (C := RX3) (T := TX3) (N := 5) hx hb hT inlX3 tyX3 tyX3_ok hown (hT _ (tr_3 _ (List.mem_of_getElem? (i := 3) rfl))) (hT _ (tr_2 _ (List.mem_of_getElem? (i := 9) rfl))) (hT _ (tr_2 _ (List.mem_of_getElem? (i := 10) rfl))) hK hP hD hS hA rfl (fun j hj => by rcases (show j = 0 ∨ j = 1 ∨ j = 2 ∨ j = 3 ∨ j = 4 by omega) with rfl | rfl | rfl | rfl | rfl <;> rfl) (show 1 + i + 1 ≤ 41 by omega) (show 40 + 5 * i + 5 ≤ 240 by omega) dX4_init_32 (fun q H hP hD hS => ?_)
        refine lv_dup hx hb dX4_init_35 rfl ?_
        have hFc := free2 hD hS hA
        refine va_callv (va_runIN (As := []) (rest := [.ref q, .int (nI i), .ref q1]) ⟨hx, hb, hml, hown, hT⟩ (c_X3_init l D cy q H.size) ⟨va_cnB 0 hT (tb_I (fun _ h => h) (tr_3 _ (List.mem_of_getElem? (i := 6) rfl))) rfl rfl rfl hX.2 (hT _ (tr_2 _ (List.mem_of_getElem? (i := 10) rfl))) (by decide +kernel) ⟨Nat.le_of_ble_eq_true rfl, Nat.le_of_ble_eq_true rfl⟩, rfl, hT _ (tr_3 _ (List.mem_of_getElem? (i := 5) rfl))⟩ ⟨fun a U f mk q => ⟨q.1, q.2.1, q.2.2.1, va_K.moved (u := U) (U := U.calling f mk a) (Vm.Alike.refl U.vm) q.2.2.2.1, q.2.2.2.2⟩, fun U hU hW => ⟨rfl, by rw [hU], by rw [hU]; exact part2 hP, va_K.moved hW.alike hK, partD hD⟩⟩ rfl rfl hl.1 rfl (lv_room (Nat.le_of_ble_eq_true rfl)) dX4_init_36 ⟨(show 1 + i + 1 + 0 ≤ 41 by omega), (show 40 + 5 * i + 5 + 0 ≤ 240 by omega)⟩) hS (fun q _ h => hFc q h) hFc (fun u t H1 locs ht hvm hw hB hz1 hk1 hS => ?_)
        obtain ⟨hP1, hD1⟩ := hB
        rw [ht] at hP1
        obtain ⟨hP, hD⟩ := join2 hP hD hk1 hFc hP1 hD1
        generalize H1 = H at hP hS ⊢
        have hin24 : vp_in (nI i) 40 := vp_in_nI (by omega) (by decide)
        refine va_astq (r := (RX3, TX3, 5)) hx hb hK hP hD hS 1 3 ([(h0, .inr (4, [.ref q1, .int 0])), (q1, .inl (cy 3, 40, .inr (.inr (.inr (.inr f)))))] ++ va_pl LP (tfF (fun _ _ => 0)) : va_W).length 3 rfl rfl (by rw [List.getElem?_append_right (Nat.le_refl _), Nat.sub_self]; rfl) rfl hin24 dX4_init_39 (fun H locs hP hD hS => ?_)
        rw [nI_clamp (show i < 2 ^ 31 by omega)] at hP hD
        have eW : va_pl (LP ++ [q]) (tfF (fun _ _ => 0)) = va_pl LP (tfF (fun _ _ => 0)) ++ [(q, .inr (3, [.int 0, .int 0, .int 0, .int 0, .int 0]))] := by simp [va_pl, tfF]
        have hP : va_P D vwCl ([(h0, .inr (4, [.ref q1, .int 0])), (q1, .inl (cy 3, 40, .inr (.inr (.inr (.inr (va_up f i (some q)))))))] ++ va_pl (LP ++ [q]) (tfF (fun _ _ => 0))) H := by rw [eW]; exact hP
        have hD : va_D A ([(h0, .inr (4, [.ref q1, .int 0])), (q1, .inl (cy 3, 40, .inr (.inr (.inr (.inr (va_up f i (some q)))))))] ++ va_pl (LP ++ [q]) (tfF (fun _ _ => 0))) := by rw [eW]; exact hD
        obtain ⟨v_40, e_40⟩ : ∃ y : Int32, y = nI i + 1 := ⟨_, rfl⟩
        refine lv_iinc (v := v_40) (lv' := [(2, .int v_40), (0, .ref h0), (1, .int 40)]) hx hb dX4_init_40 hl (k := 2) rfl (by rw [e_40]; rfl) (by decide) rfl (fun ls hl => ?_)
        refine lv_goto (tgt := 18) hx hb dX4_init_43 (by decide) ?_
        rw [nI_1] at e_40
        subst e_40
        refine W.widen (k := 1 + (i + 1)) (n := 40 + 5 * (i + 1)) (by omega) (by omega) ?_
        exact ih (i + 1) q1 _ _ _ _ hP hD hS (by omega) ⟨by rw [List.length_append, hf.1]; rfl, fun j hj => by
          rcases Nat.lt_or_ge j i with z | z
          · rw [va_up_ne _ _ (by omega), List.getElem?_append_left (by rw [hf.1]; exact z)]; exact hf.2 j z
          · have zz : j = i := by omega
            subst zz
            rw [va_up_self, List.getElem?_append_right (by rw [hf.1]; exact Nat.le_refl _), hf.1, Nat.sub_self]; rfl⟩ (by omega) ls (lv_sub hl [1, 2, 0] rfl)
  have hl := lv_entry ([.ref h0, .int 40]) (n := 3) (Nat.le_of_ble_eq_true rfl)
  rw [lg_entry_eq]
  generalize (lg_sl ([.ref h0, .int 40]) ++ List.replicate (3 - (lg_sl ([.ref h0, .int 40])).length) Slot.unset).toArray = ls at hl ⊢
  have hl : lv_has ls 3 [(0, .ref h0), (1, .int 40)] := hl
  refine lv_aload_n hx hb dX4_init_0 rfl (lv_at hl 0 rfl) ?_
  refine W.objInit hx hb hown (hT _ (tr_2 _ (List.mem_of_getElem? (i := 22) rfl))) (hT _ (tr_1 _ (List.mem_of_getElem? (i := 10) rfl))) (hT _ (tr_1 _ (List.mem_of_getElem? (i := 11) rfl))) rfl (by rw [hml]; exact hl.1) rfl dX4_init_1 (Nat.le_of_ble_eq_true rfl) (Nat.le_of_ble_eq_true rfl) ?_
  refine W.eq (g2 := F0 m 4 ls []) rfl ?_
  refine lv_aload_n hx hb dX4_init_4 rfl (lv_at hl 0 rfl) ?_
  refine lv_iload_n hx hb dX4_init_5 rfl (lv_at hl 1 rfl) ?_
  refine lv_iconst (v := 1) hx hb dX4_init_6 (by decide) ?_
  refine va_mmax hx hb (hml.trans hl.1.symm) hown (hT _ (tr_2 _ (List.mem_of_getElem? (i := 23) rfl))) (hT _ (tr_3 _ (List.mem_of_getElem? (i := 0) rfl))) (hT _ (tr_3 _ (List.mem_of_getElem? (i := 1) rfl))) (hT _ (tr_3 _ (List.mem_of_getElem? (i := 2) rfl))) (Nat.le_of_ble_eq_true rfl) (Nat.le_of_ble_eq_true rfl) (Nat.zero_le _) (Nat.zero_le _) dX4_init_7 ?_
  refine lv_topi (fun v_7 e_7 => ?_)
  have e7 : v_7 = 40 := by rw [e_7]; decide
  subst e7
  refine nw_obj hx hb hown (hT _ (tr_3 _ (List.mem_of_getElem? (i := 3) rfl))) hX.1 hK hP hD hS hA (N' := 40) (by decide) (by decide) (by decide) (Nat.le_of_ble_eq_true rfl) (Nat.le_of_ble_eq_true rfl) dX4_init_10 (fun q10 H hP hD hS => ?_)
  have hP : va_P D vwCl ([(h0, .inr (4, [.null, .int 0])), (q10, .inl (cy 3, 40, .inr (.inr (.inr (.inr (fun _ => none))))))]) H := hP
  have hD : va_D A ([(h0, .inr (4, [.null, .int 0])), (q10, .inl (cy 3, 40, .inr (.inr (.inr (.inr (fun _ => none))))))]) := hD
  refine va_putF (D := D) (ci := 4) (v := .ref q10) (ty := .array (.object "TariffDesk$Tariff")) (C := RX4) (T := TX4) (N := 2) hx hb hT inlX4 tyX4 tyX4_ok nmX4 hown hK hP hD hS 0 rfl rfl 0 (by decide) (hT _ (tr_3 _ (List.mem_of_getElem? (i := 4) rfl))) (fun _ h9 => h9) rfl hin rfl (by decide +kernel) rfl rfl (Nat.le_of_ble_eq_true rfl) dX4_init_13 (fun H locs hP hD hS => ?_)
  have hP : va_P D vwCl ([(h0, .inr (4, [.ref q10, .int 0])), (q10, .inl (cy 3, 40, .inr (.inr (.inr (.inr (fun _ => none))))))] ++ va_pl [] (tfF (fun _ _ => 0))) H := hP
  have hD : va_D A ([(h0, .inr (4, [.ref q10, .int 0])), (q10, .inl (cy 3, 40, .inr (.inr (.inr (.inr (fun _ => none))))))] ++ va_pl [] (tfF (fun _ _ => 0))) := hD
  refine lv_iconst (v := 0) hx hb dX4_init_16 (by decide) ?_
  refine lv_istore_n (lv' := [(2, .int 0), (0, .ref h0), (1, .int 40)]) hx hb dX4_init_17 rfl hl (by decide) rfl (fun ls hl => ?_)
  refine W.widen (k := 1 + 0) (n := 40 + 5 * 0) (by omega) (by omega) ?_
  exact L18 (40 + 1) 0 q10 _ [] _ _ hP hD hS (by omega) ⟨rfl, fun j hj => absurd hj (Nat.not_lt_zero _)⟩ (by omega) ls (lv_sub hl [1, 2, 0] rfl)
