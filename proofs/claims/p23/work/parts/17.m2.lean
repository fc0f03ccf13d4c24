theorem dk_row {g g' : Nat → Nat → Int32} {x1 x2 x3 x4 x5 : Int32} {f : Nat → Int32} {t s s2 : Nat} (h : tkR g g' x1 x2 x3 x4 x5) (ht : (g 31 0).toNatClampNeg = t) (hs : s = s2) (a0 : x1 = rdT f s 0) (a1 : x2 = rdT f s 1) (a2 : x3 = rdT f s 2) (a3 : x4 = rdT f s 3) (a4 : x5 = rdT f s 4) : ∀ k, k < 5 → g' (k + 1) t = rdT f s2 k := fun k hk => by
  subst hs
  obtain ⟨-, h1, h2, h3, h4, h5⟩ := h
  rw [ht] at h1 h2 h3 h4 h5
  match k, hk with
  | 0, _ => rw [h1, pk_us]; exact a0
  | 1, _ => rw [h2, pk_us]; exact a1
  | 2, _ => rw [h3, pk_us]; exact a2
  | 3, _ => rw [h4, pk_us]; exact a3
  | 4, _ => rw [h5, pk_us]; exact a4
set_option maxHeartbeats 4000000 in
set_option maxRecDepth 100000 in
theorem c_X7_readTariff (l : Launch) (Z : YT) (hZ : MG Z) (g : Nat → Nat → Int32) (gl : Nat → Nat → Int64) (x1 : Int32) (t12 : Nat) (hf : x1.toInt = t12) (h12 : t12 % 12 = 0) (ht : t12 ≤ 36) (hpre : ∀ j, j < t12 → okp (g 10) j ∧ (j : Int) < (g 42 0).toInt) (hJ : MJ g) : Met l yX7_readTariff (Cond.code yX7_readTariff cX7_readTariff 3 (some .int) :: wsL_law) ({ frames := 3, cells := 0, slots := 0, locals := 65 } : Room) (va_Pc [.ref (ya Z 0), .int x1] (MI Z g gl)) (rd_Qi (fun r => (∃ k : Nat, r.toInt = k ∧ t12 ≤ k ∧ k ≤ t12 + 11 ∧ (∀ j, j < k → okp (g 10) j ∧ (j : Int) < (g 42 0).toInt) ∧ (k < t12 + 11 → ¬ (okp (g 10) k ∧ (k : Int) < (g 42 0).toInt))))) 0 0 (fun _ => False) := by
  refine Met.ofW (cc := cX7_readTariff) (maxL := 3) (ret := (some .int)) (by decide) rfl ?_
  intro p e s m args below meth c s₁ B hml hv
  obtain ⟨rfl, hI⟩ := hv
  have hx := B.exec
  have hb := B.bytes
  have hr := B.returns
  have hT : ∀ w ∈ wsL_law, w.before ([.ref (ya Z 0), .int x1] : List Value).toArray s = true := fun w h => atoms_spec (ws := (Cond.code yX7_readTariff cX7_readTariff 3 (some .int) :: wsL_law)) B.pre w (List.mem_cons_of_mem _ h)
  have hown : s.vm.findClass RX7 = some m.cls := findClass_of_methodNamed B.named
  have hlocks := B.notSynchronized
  have hK := hI.2
  have hP := hI.1
  have hS : va_S (yA Z) s.heap s.heap [] := va_S.rf
  have hl := lv_entry ([.ref (ya Z 0), .int x1]) (n := 3) (Nat.le_of_ble_eq_true rfl)
  rw [lg_entry_eq]
  generalize (lg_sl ([.ref (ya Z 0), .int x1]) ++ List.replicate (3 - (lg_sl ([.ref (ya Z 0), .int x1])).length) Slot.unset).toArray = ls at hl ⊢
  have hl : lv_has ls 3 [(0, .ref (ya Z 0)), (1, .int x1)] := hl
  have L2 : ∀ (n : Nat) (z2 : Int32)  (h2 : 0 ≤ z2.toInt ∧ z2.toInt ≤ 11) (hA : ∀ j : Nat, (j : Int) < t12 + z2.toInt → okp (g 10) j ∧ (j : Int) < (g 42 0).toInt) (hn : (11 - z2.toInt).toNat < n) (ls : Array Slot) (hl : lv_has ls 3 [(0, .ref (ya Z 0)), (1, .int x1), (2, .int z2)]), W p l e ({ frames := 3, cells := 0, slots := 0, locals := 65 } : Room) s m ([.ref (ya Z 0), .int x1] : List Value).toArray below meth c s.heap [] 0 0 (MQ below (rd_Qi (fun r => (∃ k : Nat, r.toInt = k ∧ t12 ≤ k ∧ k ≤ t12 + 11 ∧ (∀ j, j < k → okp (g 10) j ∧ (j : Int) < (g 42 0).toInt) ∧ (k < t12 + 11 → ¬ (okp (g 10) k ∧ (k : Int) < (g 42 0).toInt))))) ([.ref (ya Z 0), .int x1] : List Value).toArray s 0 0 (fun _ => False)) (F0 m 2 ls []) := by
    intro n
    induction n with
    | zero => intro z2 h2 hA hn; exact absurd hn (Nat.not_lt_zero _)
    | succ n ih2 =>
      intro z2 h2 hA hn ls hl
      refine lv_iload_n hx hb dX7_readTariff_2 rfl (lv_at hl 2 rfl) ?_
      refine lv_bipush (v := 11) hx hb dX7_readTariff_3 (by decide) ?_
      refine lv_icmp_ge (tgt := 23) hx hb dX7_readTariff_5 (by decide) (fun c_5 => ?_) (fun c_5 => ?_)
      · skip
        have i_5 := ti_lek tk_11 rfl c_5
        refine lv_iload_n hx hb dX7_readTariff_23 rfl (lv_at hl 1 rfl) ?_
        refine lv_iload_n hx hb dX7_readTariff_24 rfl (lv_at hl 2 rfl) ?_
        refine lv_iadd hx hb dX7_readTariff_25 ?_
        refine lv_topi (fun v_25 e_25 => ?_)
        have t_25 := ti_addk rfl rfl (by omega) (by omega) e_25
        exact W.iret (v := v_25) hx hb hr (fun t ht hW => ⟨v_25, rfl, ⟨t12 + z2.toInt.toNat, by omega, by omega, by omega, fun j hj => hA j (by omega), fun h => by first | exact b_11 | (exfalso; omega)⟩, ht⟩) (fun q hq => by cases hq) dX7_readTariff_26
      · skip
        have i_5 := ti_nlek tk_11 rfl c_5
        refine lv_aload_n hx hb dX7_readTariff_8 rfl (lv_at hl 0 rfl) ?_
        refine lv_iload_n hx hb dX7_readTariff_9 rfl (lv_at hl 1 rfl) ?_
        refine lv_iload_n hx hb dX7_readTariff_10 rfl (lv_at hl 2 rfl) ?_
        refine rd_ci (va_runV (As := [.int x1, .int z2]) (rest := []) ⟨hx, hb, hml, hown, hT⟩ (c_X7_isLetter l Z hZ g gl x1 z2 (t12 + z2.toInt.toNat) (by omega) (by omega) (by omega) (by omega) (by omega) (fun j hj => hA j (by omega)) hJ) (cwV 2 hT (tb_V (fun _ h => h) (tr_11 _ (List.mem_of_getElem? (i := 18) rfl)) (tr_11 _ (List.mem_of_getElem? (i := 19) rfl)) (tr_11 _ (List.mem_of_getElem? (i := 20) rfl)) (tr_1 _ (List.mem_of_getElem? (i := 5) rfl)) (tr_11 _ (List.mem_of_getElem? (i := 21) rfl))) rfl rfl rfl (by decide +kernel) ⟨Nat.le_of_ble_eq_true rfl, Nat.le_of_ble_eq_true rfl⟩) ⟨fun a U f mk q => ⟨q.1, MI.blind f mk a q.2⟩, va_recv hK hP (ci := 7) (q0 := 0) rfl mw_0, fun U hU hW => ⟨rfl, hI.at hS hP hU hW⟩⟩ rfl rfl hl.1 rfl (lv_room (Nat.le_of_ble_eq_true rfl)) dX7_readTariff_11 ⟨Nat.zero_le _, Nat.zero_le _⟩) (fun r_11 hr_11 => ?_)
        rcases hr_11 with ⟨rfl, b_11⟩ | ⟨rfl, b_11⟩
        · skip
          refine lv_if_eq (tgt := 23) hx hb dX7_readTariff_14 (by decide) (fun c_14 => absurd c_14 (by decide)) (fun c_14 => ?_)
          obtain ⟨v_17, e_17⟩ : ∃ y : Int32, y = z2 + 1 := ⟨_, rfl⟩
          refine lv_iinc (v := v_17) (lv' := [(2, .int v_17), (0, .ref (ya Z 0)), (1, .int x1)]) hx hb dX7_readTariff_17 hl (k := 2) rfl (by rw [e_17]; rfl) (by decide) rfl (fun ls hl => ?_)
          have t_17 := ti_addk rfl tk_1 (by omega) (by omega) e_17
          refine lv_goto (tgt := 2) hx hb dX7_readTariff_20 (by decide) ?_
          exact ih2 v_17 (by first | assumption | omega | decide) (fun j hj => by rcases Int.lt_or_le (j : Int) (t12 + z2.toInt) with q | q; exact hA j q; rw [show j = t12 + z2.toInt.toNat by omega]; exact b_11) (by omega) ls (lv_sub hl [1, 2, 0] rfl)
        · skip
          refine lv_if_eq (tgt := 23) hx hb dX7_readTariff_14 (by decide) (fun c_14 => ?_) (fun c_14 => absurd c_14 (by decide))
          refine lv_iload_n hx hb dX7_readTariff_23 rfl (lv_at hl 1 rfl) ?_
          refine lv_iload_n hx hb dX7_readTariff_24 rfl (lv_at hl 2 rfl) ?_
          refine lv_iadd hx hb dX7_readTariff_25 ?_
          refine lv_topi (fun v_25 e_25 => ?_)
          have t_25 := ti_addk rfl rfl (by omega) (by omega) e_25
          exact W.iret (v := v_25) hx hb hr (fun t ht hW => ⟨v_25, rfl, ⟨t12 + z2.toInt.toNat, by omega, by omega, by omega, fun j hj => hA j (by omega), fun h => by first | exact b_11 | (exfalso; omega)⟩, ht⟩) (fun q hq => by cases hq) dX7_readTariff_26
  refine lv_iconst (v := 0) hx hb dX7_readTariff_0 (by decide) ?_
  refine lv_istore_n (lv' := [(2, .int 0), (0, .ref (ya Z 0)), (1, .int x1)]) hx hb dX7_readTariff_1 rfl hl (by decide) rfl (fun ls hl => ?_)
  exact L2 _ 0 (by first | assumption | omega | decide) (fun j hj => by rw [tk_0] at hj; exact hpre j (by omega)) (Nat.lt_succ_self _) ls (lv_sub hl [1, 2, 0] rfl)
set_option maxHeartbeats 4000000 in
set_option maxRecDepth 100000 in
theorem c_X7_read (l : Launch) (Z : YT) (hZ : MG Z) (g : Nat → Nat → Int32) (gl : Nat → Nat → Int64)  (hJ : MJ g) : Met l yX7_read (Cond.code yX7_read cX7_read 3 (some .int) :: wsL_law) ({ frames := 4, cells := 0, slots := 0, locals := 87 } : Room) (va_Pc [.ref (ya Z 0)] (MI Z g gl)) (va_Qi (fun (r : Int32) (u : (Nat → Nat → Int32) × (Nat → Nat → Int64)) => Fr [44, 45] g u.1 ∧ MJ u.1 ∧ gl = u.2 ∧ ((∃ k : Nat, r.toInt = k ∧ fwp (g 10) (g 42 0).toInt k) ∧ ((u.1 44 0 = 1 ∧ whp (g 10) (g 42 0).toInt ∧ 12 * (u.1 45 0).toInt = (g 42 0).toInt + 1) ∨ (u.1 44 0 = 0 ∧ ¬ whp (g 10) (g 42 0).toInt)))) (fun u t => va_P (yD Z) vwCl (mw Z u.1 u.2) t.heap) (yA Z)) 0 0 (yA Z) := by
  refine Met.ofW (cc := cX7_read) (maxL := 3) (ret := (some .int)) (by decide) rfl ?_
  intro p e s m args below meth c s₁ B hml hv
  obtain ⟨rfl, hI⟩ := hv
  have hx := B.exec
  have hb := B.bytes
  have hr := B.returns
  have hT : ∀ w ∈ wsL_law, w.before ([.ref (ya Z 0)] : List Value).toArray s = true := fun w h => atoms_spec (ws := (Cond.code yX7_read cX7_read 3 (some .int) :: wsL_law)) B.pre w (List.mem_cons_of_mem _ h)
  have hown : s.vm.findClass RX7 = some m.cls := findClass_of_methodNamed B.named
  have hlocks := B.notSynchronized
  have hK := hI.2
  have hP := hI.1
  have hS : va_S (yA Z) s.heap s.heap [] := va_S.rf
  have hF : Fr [44, 45] g g := Fr.rf
  have j42 := hJ.j42
  have hl := lv_entry ([.ref (ya Z 0)]) (n := 3) (Nat.le_of_ble_eq_true rfl)
  rw [lg_entry_eq]
  generalize (lg_sl ([.ref (ya Z 0)]) ++ List.replicate (3 - (lg_sl ([.ref (ya Z 0)])).length) Slot.unset).toArray = ls at hl ⊢
  have hl : lv_has ls 3 [(0, .ref (ya Z 0))] := hl
  have L12 : ∀ (n : Nat) (z1 : Int32) (g1 : Nat → Nat → Int32) (H : Heap) (locs : List Loc) (hP : va_P (yD Z) vwCl (mw Z g1 gl) H) (hF : Fr [44, 45] g g1) (hJ : MJ g1) (hS : va_S (yA Z) s.heap H locs) (hk : z1.toInt = 12 * (g1 45 0).toInt) (hb3 : 0 ≤ (g1 45 0).toInt ∧ (g1 45 0).toInt ≤ 3) (hw : g1 44 0 = 0) (hA : ∀ j : Nat, (j : Int) < z1.toInt → okp (g 10) j ∧ (j : Int) < (g 42 0).toInt) (hn : (4 - (g1 45 0).toInt).toNat < n) (ls : Array Slot) (hl : lv_has ls 3 [(0, .ref (ya Z 0)), (1, .int z1)]), W p l e ({ frames := 4, cells := 0, slots := 0, locals := 87 } : Room) s m ([.ref (ya Z 0)] : List Value).toArray below meth c H locs 0 0 (MQ below (va_Qi (fun (r : Int32) (u : (Nat → Nat → Int32) × (Nat → Nat → Int64)) => Fr [44, 45] g u.1 ∧ MJ u.1 ∧ gl = u.2 ∧ ((∃ k : Nat, r.toInt = k ∧ fwp (g 10) (g 42 0).toInt k) ∧ ((u.1 44 0 = 1 ∧ whp (g 10) (g 42 0).toInt ∧ 12 * (u.1 45 0).toInt = (g 42 0).toInt + 1) ∨ (u.1 44 0 = 0 ∧ ¬ whp (g 10) (g 42 0).toInt)))) (fun u t => va_P (yD Z) vwCl (mw Z u.1 u.2) t.heap) (yA Z)) ([.ref (ya Z 0)] : List Value).toArray s 0 0 (yA Z)) (F0 m 12 ls []) := by
    intro n
    induction n with
    | zero => intro z1 g1 H locs hP hF hJ hS hk hb3 hw hA hn; exact absurd hn (Nat.not_lt_zero _)
    | succ n ih12 =>
      intro z1 g1 H locs hP hF hJ hS hk hb3 hw hA hn ls hl
      have q10 : g1 10 = g 10 := hF 10 (by decide)
      have q42 : g1 42 = g 42 := hF 42 (by decide)
      have q42i : (g1 42 0).toInt = (g 42 0).toInt := by rw [q42]
      refine lv_aload_n hx hb dX7_read_12 rfl (lv_at hl 0 rfl) ?_
      refine va_get (D := yD Z) (ci := 7) (v := .int (g1 45 0)) (C := RX7) (T := TX7) (N := 31) hx hb hT inlX7 hown hK hP 0 mw_0 rfl 15 (by decide) (hT _ (tr_11 _ (List.mem_of_getElem? (i := 13) rfl))) (fun _ h9 => h9) rfl dX7_read_13 ?_
      refine lv_iconst (v := 4) hx hb dX7_read_16 (by decide) ?_
      refine lv_icmp_ge (tgt := 91) hx hb dX7_read_17 (by decide) (fun c_17 => ?_) (fun c_17 => ?_)
      · skip
        have i_17 := ti_lek tk_4 rfl c_17
        exfalso
        omega
      · skip
        have i_17 := ti_nlek tk_4 rfl c_17
        refine lv_aload_n hx hb dX7_read_20 rfl (lv_at hl 0 rfl) ?_
        refine lv_iload_n hx hb dX7_read_21 rfl (lv_at hl 1 rfl) ?_
        refine rd_ci (va_runV (As := [.int z1]) (rest := []) ⟨hx, hb, hml, hown, hT⟩ (c_X7_readTariff l Z hZ g1 gl z1 z1.toInt.toNat (by omega) (by omega) (by omega) (fun j hj => by rw [q10, q42]; exact hA j (by omega)) hJ) (cwV 1 hT (tb_V (fun _ h => h) (tr_11 _ (List.mem_of_getElem? (i := 14) rfl)) (tr_11 _ (List.mem_of_getElem? (i := 15) rfl)) (tr_11 _ (List.mem_of_getElem? (i := 16) rfl)) (tr_1 _ (List.mem_of_getElem? (i := 5) rfl)) (tr_11 _ (List.mem_of_getElem? (i := 17) rfl))) rfl rfl rfl (by decide +kernel) ⟨Nat.le_of_ble_eq_true rfl, Nat.le_of_ble_eq_true rfl⟩) ⟨fun a U f mk q => ⟨q.1, MI.blind f mk a q.2⟩, va_recv hK hP (ci := 7) (q0 := 0) rfl mw_0, fun U hU hW => ⟨rfl, hI.at hS hP hU hW⟩⟩ rfl rfl hl.1 rfl (lv_room (Nat.le_of_ble_eq_true rfl)) dX7_read_22 ⟨Nat.zero_le _, Nat.zero_le _⟩) (fun r_22 hr_22 => ?_)
        rw [q10, q42] at hr_22
        obtain ⟨e22, p1, p2, p3, p4, p5⟩ := hr_22
        refine lv_istore_n (lv' := [(2, .int r_22), (0, .ref (ya Z 0)), (1, .int z1)]) hx hb dX7_read_25 rfl hl (by decide) rfl (fun ls hl => ?_)
        refine lv_iload_n hx hb dX7_read_26 rfl (lv_at hl 0 rfl) ?_
        refine lv_iload_n hx hb dX7_read_27 rfl (lv_at hl 2 rfl) ?_
        refine lv_bipush (v := 11) hx hb dX7_read_28 (by decide) ?_
        refine lv_iadd hx hb dX7_read_30 ?_
        refine lv_topi (fun v_30 e_30 => ?_)
        have t_30 := ti_addk rfl tk_11 (by omega) (by omega) e_30
        refine lv_icmp_eq (tgt := 36) hx hb dX7_read_31 (by decide) (fun c_31 => ?_) (fun c_31 => ?_)
        · skip
          have i_31 := ti_eqk rfl rfl c_31
          refine lv_aload_n hx hb dX7_read_36 rfl (lv_at hl 1 rfl) ?_
          refine lv_dup hx hb dX7_read_37 rfl ?_
          refine va_get (D := yD Z) (ci := 7) (v := .int (g1 45 0)) (C := RX7) (T := TX7) (N := 31) hx hb hT inlX7 hown hK hP 0 mw_0 rfl 15 (by decide) (hT _ (tr_11 _ (List.mem_of_getElem? (i := 13) rfl))) (fun _ h9 => h9) rfl dX7_read_38 ?_
          refine lv_iconst (v := 1) hx hb dX7_read_41 (by decide) ?_
          refine lv_iadd hx hb dX7_read_42 ?_
          refine lv_topi (fun v_42 e_42 => ?_)
          have t_42 := ti_addk rfl tk_1 (by omega) (by omega) e_42
          refine va_put (D := yD Z) (ci := 7) (v := .int v_42) (ty := .int) (C := RX7) (T := TX7) (N := 31) hx hb hT inlX7 tyX7 tyX7_ok nmX7 hown hK hP hZ.D hS 0 mw_0 rfl 15 (by decide) (hT _ (tr_11 _ (List.mem_of_getElem? (i := 13) rfl))) (fun _ h9 => h9) rfl (by decide +kernel) rfl rfl (Nat.le_of_ble_eq_true rfl) dX7_read_43 (fun H locs hP _ hS => ?_)
          replace hP := mf_15 hP
          have hF := hF.u2 (i := 45) (k := 0) (v := v_42) (by decide)
          have hJ := hJ.pu (i := 45) (v := v_42) (by decide)
          refine lv_iload_n hx hb dX7_read_46 rfl (lv_at hl 0 rfl) ?_
          refine lv_istore_n (lv' := [(1, .int r_22), (2, .int r_22), (0, .ref (ya Z 0))]) hx hb dX7_read_47 rfl hl (by decide) rfl (fun ls hl => ?_)
          refine lv_aload_n hx hb dX7_read_48 rfl (lv_at hl 2 rfl) ?_
          refine lv_iload_n hx hb dX7_read_49 rfl (lv_at hl 0 rfl) ?_
          refine lv_aload_n hx hb dX7_read_50 rfl (lv_at hl 2 rfl) ?_
          refine va_get (D := yD Z) (ci := 7) (v := .int (g1 42 0)) (C := RX7) (T := TX7) (N := 31) hx hb hT inlX7 hown hK hP 0 mw_0 rfl 12 (by decide) (hT _ (tr_5 _ (List.mem_of_getElem? (i := 23) rfl))) (fun _ h9 => h9) rfl dX7_read_51 ?_
          refine lv_icmp_ne (tgt := 61) hx hb dX7_read_54 (by decide) (fun c_54 => ?_) (fun c_54 => ?_)
          · skip
            have i_54 := ti_nek rfl rfl c_54
            refine lv_iconst (v := 0) hx hb dX7_read_61 (by decide) ?_
            refine va_put (D := yD Z) (ci := 7) (v := .int 0) (ty := .boolean) (C := RX7) (T := TX7) (N := 31) hx hb hT inlX7 tyX7 tyX7_ok nmX7 hown hK hP hZ.D hS 0 mw_0 rfl 14 (by decide) (hT _ (tr_11 _ (List.mem_of_getElem? (i := 12) rfl))) (fun _ h9 => h9) rfl (by decide +kernel) rfl rfl (Nat.le_of_ble_eq_true rfl) dX7_read_62 (fun H locs hP _ hS => ?_)
            replace hP := mf_14 hP
            have hF := hF.u2 (i := 44) (k := 0) (v := 0) (by decide)
            have hJ := hJ.pu (i := 44) (v := 0) (by decide)
            refine lv_aload_n hx hb dX7_read_65 rfl (lv_at hl 2 rfl) ?_
            refine va_get (D := yD Z) (ci := 7) (v := .int v_42) (C := RX7) (T := TX7) (N := 31) hx hb hT inlX7 hown hK hP 0 mw_0 rfl 15 (by decide) (hT _ (tr_11 _ (List.mem_of_getElem? (i := 13) rfl))) (fun _ h9 => h9) rfl dX7_read_66 ?_
            refine lv_iconst (v := 4) hx hb dX7_read_69 (by decide) ?_
            refine lv_icmp_eq (tgt := 83) hx hb dX7_read_70 (by decide) (fun c_70 => ?_) (fun c_70 => ?_)
            · skip
              have i_70 := ti_eqk rfl tk_4 c_70
              have fw : fwp (g 10) (g 42 0).toInt e22 := ⟨by have q2 := (p4 (e22 - 1) (by omega)).2; omega, fun j hj => (p4 j hj).1, fun h hok => by first | (have q := hok.1; omega) | (rw [atp_in h] at a75; have q := ((ok11 (by omega)).mp hok).2; omega)⟩
              refine lv_iload_n hx hb dX7_read_83 rfl (lv_at hl 0 rfl) ?_
              exact W.iret (v := r_22) hx hb hr (fun t ht hW => ⟨⟨r_22, ((up2 (up2 g1 45 0 v_42) 44 0 0), gl), rfl, ⟨hF, hJ, rfl, (by (try dsimp only); first | done | exact ⟨⟨e22, p1, fw⟩, Or.inr ⟨rfl, fun hwh => by have q := fwp_one fw hwh.2; have q2 := hwh.1; omega⟩⟩)⟩, by show va_P (yD Z) vwCl (mw Z (up2 (up2 g1 45 0 v_42) 44 0 0) gl) t.heap; rw [ht]; exact hP⟩, hS.F ht⟩) hS.2.2 dX7_read_84
            · skip
              have i_70 := ti_nek rfl tk_4 c_70
              refine lv_aload_n hx hb dX7_read_73 rfl (lv_at hl 2 rfl) ?_
              refine lv_iload_n hx hb dX7_read_74 rfl (lv_at hl 0 rfl) ?_
              refine rd_ci (va_runV (As := [.int r_22]) (rest := []) ⟨hx, hb, hml, hown, hT⟩ (c_X7_at l Z hZ (up2 (up2 g1 45 0 v_42) 44 0 0) gl r_22 (by first | assumption | omega | decide) hJ) (cwV 1 hT (tb_V (fun _ h => h) (tr_11 _ (List.mem_of_getElem? (i := 22) rfl)) (tr_11 _ (List.mem_of_getElem? (i := 23) rfl)) (tr_12 _ (List.mem_of_getElem? (i := 0) rfl)) (tr_1 _ (List.mem_of_getElem? (i := 5) rfl)) (tr_12 _ (List.mem_of_getElem? (i := 1) rfl))) rfl rfl rfl (by decide +kernel) ⟨Nat.le_of_ble_eq_true rfl, Nat.le_of_ble_eq_true rfl⟩) ⟨fun a U f mk q => ⟨q.1, MI.blind f mk a q.2⟩, va_recv hK hP (ci := 7) (q0 := 0) rfl mw_0, fun U hU hW => ⟨rfl, hI.at hS hP hU hW⟩⟩ rfl rfl hl.1 rfl (lv_room (Nat.le_of_ble_eq_true rfl)) dX7_read_75 ⟨Nat.zero_le _, Nat.zero_le _⟩) (fun r_75 hr_75 => ?_)
              have a75 : r_75.toInt = atp (g 10) (g 42 0).toInt e22 := by have q := hr_75.1 e22 p1; rw [← q10, ← q42]; exact q
              refine lv_bipush (v := 44) hx hb dX7_read_78 (by decide) ?_
              refine lv_icmp_eq (tgt := 85) hx hb dX7_read_80 (by decide) (fun c_80 => ?_) (fun c_80 => ?_)
              · skip
                have i_80 := ti_eqk rfl tk_44 c_80
                obtain ⟨v_85, e_85⟩ : ∃ y : Int32, y = r_22 + 1 := ⟨_, rfl⟩
                refine lv_iinc (v := v_85) (lv' := [(1, .int v_85), (2, .int r_22), (0, .ref (ya Z 0))]) hx hb dX7_read_85 hl (k := 0) rfl (by rw [e_85]; rfl) (by decide) rfl (fun ls hl => ?_)
                have t_85 := ti_addk rfl tk_1 (by omega) (by omega) e_85
                refine lv_goto (tgt := 12) hx hb dX7_read_88 (by decide) ?_
                exact ih12 v_85 (up2 (up2 g1 45 0 v_42) 44 0 0) _ _ hP hF hJ hS (by show v_85.toInt = 12 * v_42.toInt; omega) (by show 0 ≤ v_42.toInt ∧ v_42.toInt ≤ 3; omega) rfl (fun j hj => by rcases Nat.lt_or_ge j e22 with q | q; exact p4 j q; have q2 : j = e22 := (by omega); subst q2; have q4 := (p4 (j - 1) (by omega)).2; have q3 : (j : Int) < (g 42 0).toInt := (by omega); rw [atp_in q3] at a75; exact ⟨(ok11 (by omega)).mpr ⟨by omega, by omega⟩, q3⟩) (by show (4 - v_42.toInt).toNat < n; omega) ls (lv_sub hl [2, 0] rfl)
              · skip
                have i_80 := ti_nek rfl tk_44 c_80
                have fw : fwp (g 10) (g 42 0).toInt e22 := ⟨by have q2 := (p4 (e22 - 1) (by omega)).2; omega, fun j hj => (p4 j hj).1, fun h hok => by first | (have q := hok.1; omega) | (rw [atp_in h] at a75; have q := ((ok11 (by omega)).mp hok).2; omega)⟩
                refine lv_iload_n hx hb dX7_read_83 rfl (lv_at hl 0 rfl) ?_
                exact W.iret (v := r_22) hx hb hr (fun t ht hW => ⟨⟨r_22, ((up2 (up2 g1 45 0 v_42) 44 0 0), gl), rfl, ⟨hF, hJ, rfl, (by (try dsimp only); first | done | exact ⟨⟨e22, p1, fw⟩, Or.inr ⟨rfl, fun hwh => by have q := fwp_one fw hwh.2; have q2 := hwh.1; omega⟩⟩)⟩, by show va_P (yD Z) vwCl (mw Z (up2 (up2 g1 45 0 v_42) 44 0 0) gl) t.heap; rw [ht]; exact hP⟩, hS.F ht⟩) hS.2.2 dX7_read_84
          · skip
            have i_54 := ti_eqk rfl rfl c_54
            refine lv_iconst (v := 1) hx hb dX7_read_57 (by decide) ?_
            refine lv_goto (tgt := 62) hx hb dX7_read_58 (by decide) ?_
            refine va_put (D := yD Z) (ci := 7) (v := .int 1) (ty := .boolean) (C := RX7) (T := TX7) (N := 31) hx hb hT inlX7 tyX7 tyX7_ok nmX7 hown hK hP hZ.D hS 0 mw_0 rfl 14 (by decide) (hT _ (tr_11 _ (List.mem_of_getElem? (i := 12) rfl))) (fun _ h9 => h9) rfl (by decide +kernel) rfl rfl (Nat.le_of_ble_eq_true rfl) dX7_read_62 (fun H locs hP _ hS => ?_)
            replace hP := mf_14 hP
            have hF := hF.u2 (i := 44) (k := 0) (v := 1) (by decide)
            have hJ := hJ.pu (i := 44) (v := 1) (by decide)
            refine lv_aload_n hx hb dX7_read_65 rfl (lv_at hl 2 rfl) ?_
            refine va_get (D := yD Z) (ci := 7) (v := .int v_42) (C := RX7) (T := TX7) (N := 31) hx hb hT inlX7 hown hK hP 0 mw_0 rfl 15 (by decide) (hT _ (tr_11 _ (List.mem_of_getElem? (i := 13) rfl))) (fun _ h9 => h9) rfl dX7_read_66 ?_
            refine lv_iconst (v := 4) hx hb dX7_read_69 (by decide) ?_
            refine lv_icmp_eq (tgt := 83) hx hb dX7_read_70 (by decide) (fun c_70 => ?_) (fun c_70 => ?_)
            · skip
              have i_70 := ti_eqk rfl tk_4 c_70
              have fw : fwp (g 10) (g 42 0).toInt e22 := ⟨by have q2 := (p4 (e22 - 1) (by omega)).2; omega, fun j hj => (p4 j hj).1, fun h hok => by first | (have q := hok.1; omega) | (rw [atp_in h] at a75; have q := ((ok11 (by omega)).mp hok).2; omega)⟩
              refine lv_iload_n hx hb dX7_read_83 rfl (lv_at hl 0 rfl) ?_
              exact W.iret (v := r_22) hx hb hr (fun t ht hW => ⟨⟨r_22, ((up2 (up2 g1 45 0 v_42) 44 0 1), gl), rfl, ⟨hF, hJ, rfl, (by (try dsimp only); first | done | exact ⟨⟨e22, p1, fw⟩, Or.inl ⟨rfl, ⟨by omega, by rw [show (g 42 0).toInt.toNat = e22 by omega]; exact fw⟩, by show 12 * v_42.toInt = _; omega⟩⟩)⟩, by show va_P (yD Z) vwCl (mw Z (up2 (up2 g1 45 0 v_42) 44 0 1) gl) t.heap; rw [ht]; exact hP⟩, hS.F ht⟩) hS.2.2 dX7_read_84
            · skip
              have i_70 := ti_nek rfl tk_4 c_70
              refine lv_aload_n hx hb dX7_read_73 rfl (lv_at hl 2 rfl) ?_
              refine lv_iload_n hx hb dX7_read_74 rfl (lv_at hl 0 rfl) ?_
              refine rd_ci (va_runV (As := [.int r_22]) (rest := []) ⟨hx, hb, hml, hown, hT⟩ (c_X7_at l Z hZ (up2 (up2 g1 45 0 v_42) 44 0 1) gl r_22 (by first | assumption | omega | decide) hJ) (cwV 1 hT (tb_V (fun _ h => h) (tr_11 _ (List.mem_of_getElem? (i := 22) rfl)) (tr_11 _ (List.mem_of_getElem? (i := 23) rfl)) (tr_12 _ (List.mem_of_getElem? (i := 0) rfl)) (tr_1 _ (List.mem_of_getElem? (i := 5) rfl)) (tr_12 _ (List.mem_of_getElem? (i := 1) rfl))) rfl rfl rfl (by decide +kernel) ⟨Nat.le_of_ble_eq_true rfl, Nat.le_of_ble_eq_true rfl⟩) ⟨fun a U f mk q => ⟨q.1, MI.blind f mk a q.2⟩, va_recv hK hP (ci := 7) (q0 := 0) rfl mw_0, fun U hU hW => ⟨rfl, hI.at hS hP hU hW⟩⟩ rfl rfl hl.1 rfl (lv_room (Nat.le_of_ble_eq_true rfl)) dX7_read_75 ⟨Nat.zero_le _, Nat.zero_le _⟩) (fun r_75 hr_75 => ?_)
              have a75 : r_75.toInt = atp (g 10) (g 42 0).toInt e22 := by have q := hr_75.1 e22 p1; rw [← q10, ← q42]; exact q
              refine lv_bipush (v := 44) hx hb dX7_read_78 (by decide) ?_
              refine lv_icmp_eq (tgt := 85) hx hb dX7_read_80 (by decide) (fun c_80 => ?_) (fun c_80 => ?_)
              · skip
                have i_80 := ti_eqk rfl tk_44 c_80
                exfalso
                rw [atp_out (by omega)] at a75
                omega
              · skip
                have i_80 := ti_nek rfl tk_44 c_80
                have fw : fwp (g 10) (g 42 0).toInt e22 := ⟨by have q2 := (p4 (e22 - 1) (by omega)).2; omega, fun j hj => (p4 j hj).1, fun h hok => by first | (have q := hok.1; omega) | (rw [atp_in h] at a75; have q := ((ok11 (by omega)).mp hok).2; omega)⟩
                refine lv_iload_n hx hb dX7_read_83 rfl (lv_at hl 0 rfl) ?_
                exact W.iret (v := r_22) hx hb hr (fun t ht hW => ⟨⟨r_22, ((up2 (up2 g1 45 0 v_42) 44 0 1), gl), rfl, ⟨hF, hJ, rfl, (by (try dsimp only); first | done | exact ⟨⟨e22, p1, fw⟩, Or.inl ⟨rfl, ⟨by omega, by rw [show (g 42 0).toInt.toNat = e22 by omega]; exact fw⟩, by show 12 * v_42.toInt = _; omega⟩⟩)⟩, by show va_P (yD Z) vwCl (mw Z (up2 (up2 g1 45 0 v_42) 44 0 1) gl) t.heap; rw [ht]; exact hP⟩, hS.F ht⟩) hS.2.2 dX7_read_84
        · skip
          have i_31 := ti_nek rfl rfl c_31
          have fw : fwp (g 10) (g 42 0).toInt e22 := ⟨by rcases Nat.eq_zero_or_pos e22 with q | q; omega; have q2 := (p4 (e22 - 1) (by omega)).2; omega, fun j hj => (p4 j hj).1, fun h hok => p5 (by omega) ⟨hok, h⟩⟩
          refine lv_iload_n hx hb dX7_read_34 rfl (lv_at hl 0 rfl) ?_
          exact W.iret (v := r_22) hx hb hr (fun t ht hW => ⟨⟨r_22, (g1, gl), rfl, ⟨hF, hJ, rfl, (by (try dsimp only); first | done | exact ⟨⟨e22, p1, fw⟩, Or.inr ⟨hw, fun hwh => by have q := fwp_one fw hwh.2; have q2 := hwh.1; omega⟩⟩)⟩, by show va_P (yD Z) vwCl (mw Z g1 gl) t.heap; rw [ht]; exact hP⟩, hS.F ht⟩) hS.2.2 dX7_read_35
  refine lv_aload_n hx hb dX7_read_0 rfl (lv_at hl 0 rfl) ?_
  refine lv_iconst (v := 0) hx hb dX7_read_1 (by decide) ?_
  refine va_put (D := yD Z) (ci := 7) (v := .int 0) (ty := .boolean) (C := RX7) (T := TX7) (N := 31) hx hb hT inlX7 tyX7 tyX7_ok nmX7 hown hK hP hZ.D hS 0 mw_0 rfl 14 (by decide) (hT _ (tr_11 _ (List.mem_of_getElem? (i := 12) rfl))) (fun _ h9 => h9) rfl (by decide +kernel) rfl rfl (Nat.le_of_ble_eq_true rfl) dX7_read_2 (fun H locs hP _ hS => ?_)
  replace hP := mf_14 hP
  have hF := hF.u2 (i := 44) (k := 0) (v := 0) (by decide)
  have hJ := hJ.pu (i := 44) (v := 0) (by decide)
  refine lv_aload_n hx hb dX7_read_5 rfl (lv_at hl 0 rfl) ?_
  refine lv_iconst (v := 0) hx hb dX7_read_6 (by decide) ?_
  refine va_put (D := yD Z) (ci := 7) (v := .int 0) (ty := .int) (C := RX7) (T := TX7) (N := 31) hx hb hT inlX7 tyX7 tyX7_ok nmX7 hown hK hP hZ.D hS 0 mw_0 rfl 15 (by decide) (hT _ (tr_11 _ (List.mem_of_getElem? (i := 13) rfl))) (fun _ h9 => h9) rfl (by decide +kernel) rfl rfl (Nat.le_of_ble_eq_true rfl) dX7_read_7 (fun H locs hP _ hS => ?_)
  replace hP := mf_15 hP
  have hF := hF.u2 (i := 45) (k := 0) (v := 0) (by decide)
  have hJ := hJ.pu (i := 45) (v := 0) (by decide)
  refine lv_iconst (v := 0) hx hb dX7_read_10 (by decide) ?_
  refine lv_istore_n (lv' := [(1, .int 0), (0, .ref (ya Z 0))]) hx hb dX7_read_11 rfl hl (by decide) rfl (fun ls hl => ?_)
  exact L12 _ 0 (up2 (up2 g 44 0 0) 45 0 0) _ _ hP hF hJ hS (by show (0 : Int32).toInt = 12 * (0 : Int32).toInt; decide) (by show 0 ≤ (0 : Int32).toInt ∧ (0 : Int32).toInt ≤ 3; decide) rfl (fun j hj => by rw [tk_0] at hj; omega) (Nat.lt_succ_self _) ls (lv_sub hl [1, 0] rfl)
set_option maxHeartbeats 4000000 in
set_option maxRecDepth 100000 in
theorem c_X7_fault (l : Launch) (Z : YT) (hZ : MG Z) (g : Nat → Nat → Int32) (gl : Nat → Nat → Int64)  (hJ : MJ g) : Met l yX7_fault (Cond.code yX7_fault cX7_fault 1 (some .int) :: wsL_law) ({ frames := 5, cells := 0, slots := 0, locals := 109 } : Room) (va_Pc [.ref (ya Z 0)] (MI Z g gl)) (va_Qi (fun (r : Int32) (u : (Nat → Nat → Int32) × (Nat → Nat → Int64)) => Fr [44, 45] g u.1 ∧ MJ u.1 ∧ gl = u.2 ∧ (∃ k : Nat, r.toInt = k ∧ fwp (g 10) (g 42 0).toInt k)) (fun u t => va_P (yD Z) vwCl (mw Z u.1 u.2) t.heap) (yA Z)) 0 0 (yA Z) := by
  refine Met.ofW (cc := cX7_fault) (maxL := 1) (ret := (some .int)) (by decide) rfl ?_
  intro p e s m args below meth c s₁ B hml hv
  obtain ⟨rfl, hI⟩ := hv
  have hx := B.exec
  have hb := B.bytes
  have hr := B.returns
  have hT : ∀ w ∈ wsL_law, w.before ([.ref (ya Z 0)] : List Value).toArray s = true := fun w h => atoms_spec (ws := (Cond.code yX7_fault cX7_fault 1 (some .int) :: wsL_law)) B.pre w (List.mem_cons_of_mem _ h)
  have hown : s.vm.findClass RX7 = some m.cls := findClass_of_methodNamed B.named
  have hlocks := B.notSynchronized
  have hK := hI.2
  have hP := hI.1
  have hS : va_S (yA Z) s.heap s.heap [] := va_S.rf
  have hF : Fr [44, 45] g g := Fr.rf
  have hl := lv_entry ([.ref (ya Z 0)]) (n := 1) (Nat.le_of_ble_eq_true rfl)
  rw [lg_entry_eq]
  generalize (lg_sl ([.ref (ya Z 0)]) ++ List.replicate (1 - (lg_sl ([.ref (ya Z 0)])).length) Slot.unset).toArray = ls at hl ⊢
  have hl : lv_has ls 1 [(0, .ref (ya Z 0))] := hl
  refine lv_aload_n hx hb dX7_fault_0 rfl (lv_at hl 0 rfl) ?_
  refine va_calli (va_runV (As := []) (rest := []) ⟨hx, hb, hml, hown, hT⟩ (c_X7_read l Z hZ g gl hJ) (cwV 0 hT (tb_V (fun _ h => h) (tr_11 _ (List.mem_of_getElem? (i := 8) rfl)) (tr_11 _ (List.mem_of_getElem? (i := 9) rfl)) (tr_11 _ (List.mem_of_getElem? (i := 10) rfl)) (tr_1 _ (List.mem_of_getElem? (i := 5) rfl)) (tr_11 _ (List.mem_of_getElem? (i := 11) rfl))) rfl rfl rfl (by decide +kernel) ⟨Nat.le_of_ble_eq_true rfl, Nat.le_of_ble_eq_true rfl⟩) ⟨fun a U f mk q => ⟨q.1, MI.blind f mk a q.2⟩, va_recv hK hP (ci := 7) (q0 := 0) rfl mw_0, fun U hU hW => ⟨rfl, hI.at hS hP hU hW⟩⟩ rfl rfl hl.1 rfl (lv_room (Nat.le_of_ble_eq_true rfl)) dX7_fault_1 ⟨Nat.zero_le _, Nat.zero_le _⟩) hS (fun q _ h => h) (fun q h => h) (fun r_1 u_1 t_1 H locs ht_1 _ hw_1 hB_1 _ _ hS => ?_)
  obtain ⟨g_1, gl_1⟩ := u_1
  have hP : va_P (yD Z) vwCl (mw Z g_1 gl_1) H := ht_1 ▸ hB_1
  obtain ⟨hf_1, hJ, el_1, hr_1⟩ := hw_1
  have hF := hF.tr hf_1 (by decide)
  dsimp only at hf_1 hJ hF el_1 hr_1
  subst el_1
  exact W.iret (v := r_1) hx hb hr (fun t ht hW => ⟨⟨r_1, (g_1, gl), rfl, ⟨hF, hJ, rfl, (by (try dsimp only); first | done | exact hr_1.1)⟩, by show va_P (yD Z) vwCl (mw Z g_1 gl) t.heap; rw [ht]; exact hP⟩, hS.F ht⟩) hS.2.2 dX7_fault_4
set_option maxHeartbeats 4000000 in
set_option maxRecDepth 100000 in
theorem c_X7_signed (l : Launch) (Z : YT) (hZ : MG Z) (g : Nat → Nat → Int32) (gl : Nat → Nat → Int64) (x1 : Int32) (x2 : Int32) (h0 : 0 ≤ x1.toInt ∧ x1.toInt ≤ 60) (h2 : 1 ≤ x2.toInt ∧ x2.toInt ≤ 5) (hJ : MJ g) : Met l yX7_signed (Cond.code yX7_signed cX7_signed 5 (some .int) :: wsL_law) ({ frames := 2, cells := 0, slots := 0, locals := 42 } : Room) (va_Pc [.ref (ya Z 0), .int x1, .int x2] (MI Z g gl)) (rd_Qi (fun r => (∀ k : Nat, x1.toInt = k → (k : Int) + x2.toInt < (g 42 0).toInt → r = sgF (g 10 k) * vF (g 10) k x2.toInt.toNat))) 0 0 (fun _ => False) := by
  refine Met.ofW (cc := cX7_signed) (maxL := 5) (ret := (some .int)) (by decide) rfl ?_
  intro p e s m args below meth c s₁ B hml hv
  obtain ⟨rfl, hI⟩ := hv
  have hx := B.exec
  have hb := B.bytes
  have hr := B.returns
  have hT : ∀ w ∈ wsL_law, w.before ([.ref (ya Z 0), .int x1, .int x2] : List Value).toArray s = true := fun w h => atoms_spec (ws := (Cond.code yX7_signed cX7_signed 5 (some .int) :: wsL_law)) B.pre w (List.mem_cons_of_mem _ h)
  have hown : s.vm.findClass RX7 = some m.cls := findClass_of_methodNamed B.named
  have hlocks := B.notSynchronized
  have hK := hI.2
  have hP := hI.1
  have hS : va_S (yA Z) s.heap s.heap [] := va_S.rf
  have hl := lv_entry ([.ref (ya Z 0), .int x1, .int x2]) (n := 5) (Nat.le_of_ble_eq_true rfl)
  rw [lg_entry_eq]
  generalize (lg_sl ([.ref (ya Z 0), .int x1, .int x2]) ++ List.replicate (5 - (lg_sl ([.ref (ya Z 0), .int x1, .int x2])).length) Slot.unset).toArray = ls at hl ⊢
  have hl : lv_has ls 5 [(0, .ref (ya Z 0)), (1, .int x1), (2, .int x2)] := hl
  have L5 : ∀ (n : Nat) (z3 : Int32) (z4 : Int32)  (h4 : 1 ≤ z4.toInt ∧ z4.toInt ≤ x2.toInt + 1) (hV : ∀ k : Nat, x1.toInt = k → (k : Int) + x2.toInt < (g 42 0).toInt → z3 = vF (g 10) k (z4.toInt - 1).toNat) (hn : (7 - z4.toInt).toNat < n) (ls : Array Slot) (hl : lv_has ls 5 [(0, .ref (ya Z 0)), (1, .int x1), (2, .int x2), (3, .int z3), (4, .int z4)]), W p l e ({ frames := 2, cells := 0, slots := 0, locals := 42 } : Room) s m ([.ref (ya Z 0), .int x1, .int x2] : List Value).toArray below meth c s.heap [] 0 0 (MQ below (rd_Qi (fun r => (∀ k : Nat, x1.toInt = k → (k : Int) + x2.toInt < (g 42 0).toInt → r = sgF (g 10 k) * vF (g 10) k x2.toInt.toNat))) ([.ref (ya Z 0), .int x1, .int x2] : List Value).toArray s 0 0 (fun _ => False)) (F0 m 5 ls []) := by
    intro n
    induction n with
    | zero => intro z3 z4 h4 hV hn; exact absurd hn (Nat.not_lt_zero _)
    | succ n ih5 =>
      intro z3 z4 h4 hV hn ls hl
      refine lv_iload hx hb dX7_signed_5 (lv_at hl 4 rfl) ?_
      refine lv_iload_n hx hb dX7_signed_7 rfl (lv_at hl 2 rfl) ?_
      refine lv_icmp_gt (tgt := 31) hx hb dX7_signed_8 (by decide) (fun c_8 => ?_) (fun c_8 => ?_)
      · skip
        have i_8 := ti_ltk rfl rfl c_8
        have e9 : z4.toInt = x2.toInt + 1 := by omega
        refine lv_aload_n hx hb dX7_signed_31 rfl (lv_at hl 0 rfl) ?_
        refine lv_iload_n hx hb dX7_signed_32 rfl (lv_at hl 1 rfl) ?_
        refine rd_ci (va_runV (As := [.int x1]) (rest := []) ⟨hx, hb, hml, hown, hT⟩ (c_X7_at l Z hZ g gl x1 (by first | assumption | omega | decide) hJ) (cwV 1 hT (tb_V (fun _ h => h) (tr_11 _ (List.mem_of_getElem? (i := 22) rfl)) (tr_11 _ (List.mem_of_getElem? (i := 23) rfl)) (tr_12 _ (List.mem_of_getElem? (i := 0) rfl)) (tr_1 _ (List.mem_of_getElem? (i := 5) rfl)) (tr_12 _ (List.mem_of_getElem? (i := 1) rfl))) rfl rfl rfl (by decide +kernel) ⟨Nat.le_of_ble_eq_true rfl, Nat.le_of_ble_eq_true rfl⟩) ⟨fun a U f mk q => ⟨q.1, MI.blind f mk a q.2⟩, va_recv hK hP (ci := 7) (q0 := 0) rfl mw_0, fun U hU hW => ⟨rfl, hI.at hS hP hU hW⟩⟩ rfl rfl hl.1 rfl (lv_room (Nat.le_of_ble_eq_true rfl)) dX7_signed_33 ⟨Nat.zero_le _, Nat.zero_le _⟩) (fun r_33 hr_33 => ?_)
        refine lv_bipush (v := 45) hx hb dX7_signed_36 (by decide) ?_
        refine lv_icmp_ne (tgt := 46) hx hb dX7_signed_38 (by decide) (fun c_38 => ?_) (fun c_38 => ?_)
        · skip
          have i_38 := ti_nek rfl tk_45 c_38
          refine lv_iload_n hx hb dX7_signed_46 rfl (lv_at hl 3 rfl) ?_
          exact W.iret (v := z3) hx hb hr (fun t ht hW => ⟨z3, rfl, (fun k hk hn => by rw [sg_m, if_neg (by rw [← hr_33.2.2 k hk (by omega)]; exact c_38), hV k hk hn, show (z4.toInt - 1).toNat = x2.toInt.toNat by omega]), ht⟩) (fun q hq => by cases hq) dX7_signed_47
        · skip
          have i_38 := ti_eqk rfl tk_45 c_38
          refine lv_iload_n hx hb dX7_signed_41 rfl (lv_at hl 3 rfl) ?_
          refine lv_ineg hx hb dX7_signed_42 ?_
          refine lv_topi (fun v_42 e_42 => ?_)
          refine lv_goto (tgt := 47) hx hb dX7_signed_43 (by decide) ?_
          exact W.iret (v := v_42) hx hb hr (fun t ht hW => ⟨v_42, rfl, (fun k hk hn => by rw [sg_m, if_pos (by rw [← hr_33.2.2 k hk (by omega)]; exact c_38), e_42, hV k hk hn, show (z4.toInt - 1).toNat = x2.toInt.toNat by omega]), ht⟩) (fun q hq => by cases hq) dX7_signed_47
      · skip
        have i_8 := ti_nltk rfl rfl c_8
        refine lv_bipush (v := 10) hx hb dX7_signed_11 (by decide) ?_
        refine lv_iload_n hx hb dX7_signed_13 rfl (lv_at hl 3 rfl) ?_
        refine lv_imul hx hb dX7_signed_14 ?_
        refine lv_topi (fun v_14 e_14 => ?_)
        refine lv_aload_n hx hb dX7_signed_15 rfl (lv_at hl 0 rfl) ?_
        refine lv_iload_n hx hb dX7_signed_16 rfl (lv_at hl 1 rfl) ?_
        refine lv_iload hx hb dX7_signed_17 (lv_at hl 4 rfl) ?_
        refine lv_iadd hx hb dX7_signed_19 ?_
        refine lv_topi (fun v_19 e_19 => ?_)
        have t_19 := ti_addk rfl rfl (by omega) (by omega) e_19
        refine rd_ci (va_runV (As := [.int v_19]) (rest := [.int v_14]) ⟨hx, hb, hml, hown, hT⟩ (c_X7_figure l Z hZ g gl v_19 (by first | assumption | omega | decide) hJ) (cwV 1 hT (tb_V (fun _ h => h) (tr_12 _ (List.mem_of_getElem? (i := 9) rfl)) (tr_12 _ (List.mem_of_getElem? (i := 10) rfl)) (tr_12 _ (List.mem_of_getElem? (i := 11) rfl)) (tr_1 _ (List.mem_of_getElem? (i := 5) rfl)) (tr_12 _ (List.mem_of_getElem? (i := 12) rfl))) rfl rfl rfl (by decide +kernel) ⟨Nat.le_of_ble_eq_true rfl, Nat.le_of_ble_eq_true rfl⟩) ⟨fun a U f mk q => ⟨q.1, MI.blind f mk a q.2⟩, va_recv hK hP (ci := 7) (q0 := 0) rfl mw_0, fun U hU hW => ⟨rfl, hI.at hS hP hU hW⟩⟩ rfl rfl hl.1 rfl (lv_room (Nat.le_of_ble_eq_true rfl)) dX7_signed_20 ⟨Nat.zero_le _, Nat.zero_le _⟩) (fun r_20 hr_20 => ?_)
        refine lv_iadd hx hb dX7_signed_23 ?_
        refine lv_topi (fun v_23 e_23 => ?_)
        refine lv_istore_n (lv' := [(3, .int v_23), (0, .ref (ya Z 0)), (1, .int x1), (2, .int x2), (4, .int z4)]) hx hb dX7_signed_24 rfl hl (by decide) rfl (fun ls hl => ?_)
        obtain ⟨v_25, e_25⟩ : ∃ y : Int32, y = z4 + 1 := ⟨_, rfl⟩
        refine lv_iinc (v := v_25) (lv' := [(4, .int v_25), (3, .int v_23), (0, .ref (ya Z 0)), (1, .int x1), (2, .int x2)]) hx hb dX7_signed_25 hl (k := 4) rfl (by rw [e_25]; rfl) (by decide) rfl (fun ls hl => ?_)
        have t_25 := ti_addk rfl tk_1 (by omega) (by omega) e_25
        refine lv_goto (tgt := 5) hx hb dX7_signed_28 (by decide) ?_
        exact ih5 v_23 v_25 (by omega) (fun k hk hn => by rw [show (v_25.toInt - 1).toNat = (z4.toInt - 1).toNat + 1 by omega, vF, ← hV k hk hn, e_23, e_14, hr_20.2.2 (k + 1 + (z4.toInt - 1).toNat) (by omega) (by omega)]) (by omega) ls (lv_sub hl [2, 3, 4, 1, 0] rfl)
  refine lv_iconst (v := 0) hx hb dX7_signed_0 (by decide) ?_
  refine lv_istore_n (lv' := [(3, .int 0), (0, .ref (ya Z 0)), (1, .int x1), (2, .int x2)]) hx hb dX7_signed_1 rfl hl (by decide) rfl (fun ls hl => ?_)
  refine lv_iconst (v := 1) hx hb dX7_signed_2 (by decide) ?_
  refine lv_istore (lv' := [(4, .int 1), (3, .int 0), (0, .ref (ya Z 0)), (1, .int x1), (2, .int x2)]) hx hb dX7_signed_3 hl (by decide) rfl (fun ls hl => ?_)
  exact L5 _ 0 1 (by rw [tk_1]; omega) (fun k _ _ => rfl) (Nat.lt_succ_self _) ls (lv_sub hl [2, 3, 4, 1, 0] rfl)
set_option maxHeartbeats 4000000 in
set_option maxRecDepth 100000 in
theorem c_X7_desk (l : Launch) (Z : YT) (hZ : MG Z) (g : Nat → Nat → Int32) (gl : Nat → Nat → Int64) (h40 : (g 31 0).toInt ≤ 40) (hJ : MJ g) : Met l yX7_desk (Cond.code yX7_desk cX7_desk 3 (some .int) :: wsL_law) ({ frames := 7, cells := 0, slots := 0, locals := 171 } : Room) (va_Pc [.ref (ya Z 0)] (MI Z g gl)) (va_Qi (fun (r : Int32) (u : (Nat → Nat → Int32) × (Nat → Nat → Int64)) => Fr [1, 2, 3, 4, 5, 6, 30, 31, 38, 42, 44, 45] g u.1 ∧ MJ u.1 ∧ gl = u.2 ∧ (((¬ whp (g 10) (g 42 0).toInt ∧ r = -103 ∧ (∀ i, i ≠ 44 → i ≠ 45 → u.1 i = g i)) ∨ (whp (g 10) (g 42 0).toInt ∧ 12 * r.toInt = (g 42 0).toInt + 1 ∧ u.1 31 0 = r ∧ u.1 42 0 = 0 ∧ u.1 38 0 = 0 ∧ u.1 30 0 = g 30 0 + 1 ∧ (∀ t : Nat, 12 * (t : Int) < (g 42 0).toInt → ∀ k, k < 5 → u.1 (k + 1) t = rdT (g 10) (12 * t) k) ∧ Eq1 (u.1 6) (TR u.1 (u.1 31 0).toInt.toNat))) ∧ (u.1 31 0).toInt ≤ 40)) (fun u t => va_P (yD Z) vwCl (mw Z u.1 u.2) t.heap) (yA Z)) 0 0 (yA Z) := by
  refine Met.ofW (cc := cX7_desk) (maxL := 3) (ret := (some .int)) (by decide) rfl ?_
  intro p e s m args below meth c s₁ B hml hv
  obtain ⟨rfl, hI⟩ := hv
  have hx := B.exec
  have hb := B.bytes
  have hr := B.returns
  have hT : ∀ w ∈ wsL_law, w.before ([.ref (ya Z 0)] : List Value).toArray s = true := fun w h => atoms_spec (ws := (Cond.code yX7_desk cX7_desk 3 (some .int) :: wsL_law)) B.pre w (List.mem_cons_of_mem _ h)
  have hown : s.vm.findClass RX7 = some m.cls := findClass_of_methodNamed B.named
  have hlocks := B.notSynchronized
  have hK := hI.2
  have hP := hI.1
  have hS : va_S (yA Z) s.heap s.heap [] := va_S.rf
  have hF : Fr [1, 2, 3, 4, 5, 6, 30, 31, 38, 42, 44, 45] g g := Fr.rf
  have j42 := hJ.j42
  have hl := lv_entry ([.ref (ya Z 0)]) (n := 3) (Nat.le_of_ble_eq_true rfl)
  rw [lg_entry_eq]
  generalize (lg_sl ([.ref (ya Z 0)]) ++ List.replicate (3 - (lg_sl ([.ref (ya Z 0)])).length) Slot.unset).toArray = ls at hl ⊢
  have hl : lv_has ls 3 [(0, .ref (ya Z 0))] := hl
  have L44 : ∀ (n : Nat) (z1 : Int32) (g1 : Nat → Nat → Int32) (H : Heap) (locs : List Loc) (hP : va_P (yD Z) vwCl (mw Z g1 gl) H) (hF : Fr [1, 2, 3, 4, 5, 6, 30, 31, 38, 42, 44, 45] g g1) (hJ : MJ g1) (hS : va_S (yA Z) s.heap H locs) (h1 : 0 ≤ z1.toInt ∧ z1.toInt ≤ 4) (hTt : (g1 31 0).toInt = z1.toInt) (hE9 : Eq1 (g1 6) (TR g1 z1.toInt.toNat)) (hq45 : 12 * (g1 45 0).toInt = (g 42 0).toInt + 1) (hq42 : g1 42 0 = g 42 0) (hw1 : whp (g 10) (g 42 0).toInt) (hq30 : g1 30 0 = g 30 0) (hle : 12 * z1.toInt ≤ (g 42 0).toInt + 1) (hA : ∀ t : Nat, 12 * (t : Int) < 12 * z1.toInt → ∀ k, k < 5 → g1 (k + 1) t = rdT (g 10) (12 * t) k) (hn : (5 - z1.toInt).toNat < n) (ls : Array Slot) (hl : lv_has ls 3 [(0, .ref (ya Z 0)), (1, .int z1)]), W p l e ({ frames := 7, cells := 0, slots := 0, locals := 171 } : Room) s m ([.ref (ya Z 0)] : List Value).toArray below meth c H locs 0 0 (MQ below (va_Qi (fun (r : Int32) (u : (Nat → Nat → Int32) × (Nat → Nat → Int64)) => Fr [1, 2, 3, 4, 5, 6, 30, 31, 38, 42, 44, 45] g u.1 ∧ MJ u.1 ∧ gl = u.2 ∧ (((¬ whp (g 10) (g 42 0).toInt ∧ r = -103 ∧ (∀ i, i ≠ 44 → i ≠ 45 → u.1 i = g i)) ∨ (whp (g 10) (g 42 0).toInt ∧ 12 * r.toInt = (g 42 0).toInt + 1 ∧ u.1 31 0 = r ∧ u.1 42 0 = 0 ∧ u.1 38 0 = 0 ∧ u.1 30 0 = g 30 0 + 1 ∧ (∀ t : Nat, 12 * (t : Int) < (g 42 0).toInt → ∀ k, k < 5 → u.1 (k + 1) t = rdT (g 10) (12 * t) k) ∧ Eq1 (u.1 6) (TR u.1 (u.1 31 0).toInt.toNat))) ∧ (u.1 31 0).toInt ≤ 40)) (fun u t => va_P (yD Z) vwCl (mw Z u.1 u.2) t.heap) (yA Z)) ([.ref (ya Z 0)] : List Value).toArray s 0 0 (yA Z)) (F0 m 44 ls []) := by
    intro n
    induction n with
    | zero => intro z1 g1 H locs hP hF hJ hS h1 hTt hE9 hq45 hq42 hw1 hq30 hle hA hn; exact absurd hn (Nat.not_lt_zero _)
    | succ n ih44 =>
      intro z1 g1 H locs hP hF hJ hS h1 hTt hE9 hq45 hq42 hw1 hq30 hle hA hn ls hl
      have q10 : g1 10 = g 10 := hF 10 (by decide)
      refine lv_iload_n hx hb dX7_desk_44 rfl (lv_at hl 1 rfl) ?_
      refine lv_aload_n hx hb dX7_desk_45 rfl (lv_at hl 0 rfl) ?_
      refine va_get (D := yD Z) (ci := 7) (v := .int (g1 45 0)) (C := RX7) (T := TX7) (N := 31) hx hb hT inlX7 hown hK hP 0 mw_0 rfl 15 (by decide) (hT _ (tr_11 _ (List.mem_of_getElem? (i := 13) rfl))) (fun _ h9 => h9) rfl dX7_desk_46 ?_
      refine lv_icmp_ge (tgt := 132) hx hb dX7_desk_49 (by decide) (fun c_49 => ?_) (fun c_49 => ?_)
      · skip
        have i_49 := ti_lek rfl rfl c_49
        refine lv_aload_n hx hb dX7_desk_132 rfl (lv_at hl 0 rfl) ?_
        refine lv_dup hx hb dX7_desk_133 rfl ?_
        refine va_get (D := yD Z) (ci := 7) (v := .int (g1 30 0)) (C := RX7) (T := TX7) (N := 31) hx hb hT inlX7 hown hK hP 0 mw_0 rfl 0 (by decide) (hT _ (tr_17 _ (List.mem_of_getElem? (i := 15) rfl))) (fun _ h9 => h9) rfl dX7_desk_134 ?_
        refine lv_iconst (v := 1) hx hb dX7_desk_137 (by decide) ?_
        refine lv_iadd hx hb dX7_desk_138 ?_
        refine lv_topi (fun v_138 e_138 => ?_)
        refine va_put (D := yD Z) (ci := 7) (v := .int v_138) (ty := .int) (C := RX7) (T := TX7) (N := 31) hx hb hT inlX7 tyX7 tyX7_ok nmX7 hown hK hP hZ.D hS 0 mw_0 rfl 0 (by decide) (hT _ (tr_17 _ (List.mem_of_getElem? (i := 15) rfl))) (fun _ h9 => h9) rfl (by decide +kernel) rfl rfl (Nat.le_of_ble_eq_true rfl) dX7_desk_139 (fun H locs hP _ hS => ?_)
        replace hP := mf_0 hP
        have hF := hF.u2 (i := 30) (k := 0) (v := v_138) (by decide)
        have hJ := hJ.pu (i := 30) (v := v_138) (by decide)
        refine lv_aload_n hx hb dX7_desk_142 rfl (lv_at hl 0 rfl) ?_
        refine lv_iconst (v := 0) hx hb dX7_desk_143 (by decide) ?_
        refine va_put (D := yD Z) (ci := 7) (v := .int 0) (ty := .int) (C := RX7) (T := TX7) (N := 31) hx hb hT inlX7 tyX7 tyX7_ok nmX7 hown hK hP hZ.D hS 0 mw_0 rfl 8 (by decide) (hT _ (tr_17 _ (List.mem_of_getElem? (i := 16) rfl))) (fun _ h9 => h9) rfl (by decide +kernel) rfl rfl (Nat.le_of_ble_eq_true rfl) dX7_desk_144 (fun H locs hP _ hS => ?_)
        replace hP := mf_8 hP
        have hF := hF.u2 (i := 38) (k := 0) (v := 0) (by decide)
        have hJ := hJ.p38 (v := 0) (by first | omega | decide)
        refine lv_aload_n hx hb dX7_desk_147 rfl (lv_at hl 0 rfl) ?_
        refine lv_iconst (v := 0) hx hb dX7_desk_148 (by decide) ?_
        refine va_put (D := yD Z) (ci := 7) (v := .int 0) (ty := .int) (C := RX7) (T := TX7) (N := 31) hx hb hT inlX7 tyX7 tyX7_ok nmX7 hown hK hP hZ.D hS 0 mw_0 rfl 12 (by decide) (hT _ (tr_5 _ (List.mem_of_getElem? (i := 23) rfl))) (fun _ h9 => h9) rfl (by decide +kernel) rfl rfl (Nat.le_of_ble_eq_true rfl) dX7_desk_149 (fun H locs hP _ hS => ?_)
        replace hP := mf_12 hP
        have hF := hF.u2 (i := 42) (k := 0) (v := 0) (by decide)
        have hJ := hJ.p42 (v := 0) (by first | omega | decide)
        refine lv_aload_n hx hb dX7_desk_152 rfl (lv_at hl 0 rfl) ?_
        refine va_get (D := yD Z) (ci := 7) (v := .int (g1 31 0)) (C := RX7) (T := TX7) (N := 31) hx hb hT inlX7 hown hK hP 0 mw_0 rfl 1 (by decide) (hT _ (tr_17 _ (List.mem_of_getElem? (i := 14) rfl))) (fun _ h9 => h9) rfl dX7_desk_153 ?_
        exact W.iret (v := (g1 31 0)) hx hb hr (fun t ht hW => ⟨⟨(g1 31 0), ((up2 (up2 (up2 g1 30 0 v_138) 38 0 0) 42 0 0), gl), rfl, ⟨hF, hJ, rfl, (by (try dsimp only); first | done | exact ⟨Or.inr ⟨hw1, by show 12 * (g1 31 0).toInt = _; omega, rfl, rfl, rfl, by rw [e_138]; show g1 30 0 + 1 = _; rw [hq30], fun t ht k hk => by match k, hk with | 0, _ => exact hA t (by omega) 0 (by decide) | 1, _ => exact hA t (by omega) 1 (by decide) | 2, _ => exact hA t (by omega) 2 (by decide) | 3, _ => exact hA t (by omega) 3 (by decide) | 4, _ => exact hA t (by omega) 4 (by decide), TR_rows (g := g1) hE9 (by show (g1 31 0).toInt.toNat = _; omega) (by omega) (fun t _ k hk => by match k, hk with | 0, _ => rfl | 1, _ => rfl | 2, _ => rfl | 3, _ => rfl | 4, _ => rfl)⟩, by show (g1 31 0).toInt ≤ 40; omega⟩)⟩, by show va_P (yD Z) vwCl (mw Z (up2 (up2 (up2 g1 30 0 v_138) 38 0 0) 42 0 0) gl) t.heap; rw [ht]; exact hP⟩, hS.F ht⟩) hS.2.2 dX7_desk_156
      · skip
        have i_49 := ti_nlek rfl rfl c_49
        have ok := hw1.2.2.1
        have o7 := ((ok7 (by omega)).mp (ok (12 * z1.toInt.toNat + 7) (by omega))).2
        have o8 := ((ok8 (by omega)).mp (ok (12 * z1.toInt.toNat + 8) (by omega))).2
        rw [show 12 * z1.toInt.toNat + 8 - 1 = 12 * z1.toInt.toNat + 7 by omega] at o8
        have o9 := ((ok9 (by omega)).mp (ok (12 * z1.toInt.toNat + 9) (by omega))).2
        have o10 := ((ok10 (by omega)).mp (ok (12 * z1.toInt.toNat + 10) (by omega))).2
        rw [show 12 * z1.toInt.toNat + 10 - 1 = 12 * z1.toInt.toNat + 9 by omega] at o10
        refine lv_bipush (v := 12) hx hb dX7_desk_52 (by decide) ?_
        refine lv_iload_n hx hb dX7_desk_54 rfl (lv_at hl 1 rfl) ?_
        refine lv_imul hx hb dX7_desk_55 ?_
        refine lv_topi (fun v_55 e_55 => ?_)
        have t_55 := ti_mulk tk_12 rfl (by omega) (by omega) e_55
        refine lv_istore_n (lv' := [(2, .int v_55), (0, .ref (ya Z 0)), (1, .int z1)]) hx hb dX7_desk_56 rfl hl (by decide) rfl (fun ls hl => ?_)
        refine lv_aload_n hx hb dX7_desk_57 rfl (lv_at hl 1 rfl) ?_
        refine lv_aload_n hx hb dX7_desk_58 rfl (lv_at hl 1 rfl) ?_
        refine va_get (D := yD Z) (ci := 7) (v := .ref (ya Z 10)) (C := RX7) (T := TX7) (N := 31) hx hb hT inlX7 hown hK hP 0 mw_0 rfl 13 (by decide) (hT _ (tr_4 _ (List.mem_of_getElem? (i := 23) rfl))) (fun _ h9 => h9) rfl dX7_desk_59 ?_
        refine lv_iload_n hx hb dX7_desk_62 rfl (lv_at hl 0 rfl) ?_
        have h_63 : vp_in v_55 50 := (ti_vp (by omega) (by omega))
        refine va_bald hx hb hK hP 10 0 mw_10 rfl h_63 dX7_desk_63 ?_
        refine lv_topi (fun v_63 e_63 => ?_)
        refine rd_ci (va_runS (As := [.int v_63]) (rest := [.ref (ya Z 0)]) ⟨hx, hb, hml, hown, hT⟩ (c_X7_kindBy l v_63) (va_cwS 1 hT (tb_S (fun _ h => h) (tr_12 _ (List.mem_of_getElem? (i := 2) rfl)) (tr_12 _ (List.mem_of_getElem? (i := 3) rfl)) (tr_1 _ (List.mem_of_getElem? (i := 5) rfl)) (tr_12 _ (List.mem_of_getElem? (i := 4) rfl))) rfl rfl rfl (by decide +kernel) ⟨Nat.le_of_ble_eq_true rfl, Nat.le_of_ble_eq_true rfl⟩) ⟨fun _ _ _ _ q => q, fun U hU hW => ⟨rfl, trivial⟩⟩ rfl rfl hl.1 rfl (lv_room (Nat.le_of_ble_eq_true rfl)) dX7_desk_64 ⟨Nat.zero_le _, Nat.zero_le _⟩) (fun r_64 hr_64 => ?_)
        have y64 : v_63 = g 10 (12 * z1.toInt.toNat) := by rw [e_63, q10, show v_55.toNatClampNeg = 12 * z1.toInt.toNat by show v_55.toInt.toNat = _; omega]
        have a0 : r_64 = rdT (g 10) (12 * z1.toInt.toNat) 0 := by rw [hr_64, y64]; rfl
        refine lv_aload_n hx hb dX7_desk_67 rfl (lv_at hl 1 rfl) ?_
        refine lv_iload_n hx hb dX7_desk_68 rfl (lv_at hl 0 rfl) ?_
        refine lv_iconst (v := 1) hx hb dX7_desk_69 (by decide) ?_
        refine lv_iadd hx hb dX7_desk_70 ?_
        refine lv_topi (fun v_70 e_70 => ?_)
        have t_70 := ti_addk rfl tk_1 (by omega) (by omega) e_70
        refine lv_iconst (v := 1) hx hb dX7_desk_71 (by decide) ?_
        refine rd_ci (va_runV (As := [.int v_70, .int 1]) (rest := [.int r_64, .ref (ya Z 0)]) ⟨hx, hb, hml, hown, hT⟩ (c_X7_signed l Z hZ g1 gl v_70 1 (by first | assumption | omega | decide) (by first | assumption | omega | decide) hJ) (cwV 2 hT (tb_V (fun _ h => h) (tr_17 _ (List.mem_of_getElem? (i := 17) rfl)) (tr_17 _ (List.mem_of_getElem? (i := 18) rfl)) (tr_17 _ (List.mem_of_getElem? (i := 19) rfl)) (tr_1 _ (List.mem_of_getElem? (i := 5) rfl)) (tr_17 _ (List.mem_of_getElem? (i := 20) rfl))) rfl rfl rfl (by decide +kernel) ⟨Nat.le_of_ble_eq_true rfl, Nat.le_of_ble_eq_true rfl⟩) ⟨fun a U f mk q => ⟨q.1, MI.blind f mk a q.2⟩, va_recv hK hP (ci := 7) (q0 := 0) rfl mw_0, fun U hU hW => ⟨rfl, hI.at hS hP hU hW⟩⟩ rfl rfl hl.1 rfl (lv_room (Nat.le_of_ble_eq_true rfl)) dX7_desk_72 ⟨Nat.zero_le _, Nat.zero_le _⟩) (fun r_72 hr_72 => ?_)
        have a1 : r_72 = rdT (g 10) (12 * z1.toInt.toNat) 1 := by have q := hr_72 (12 * z1.toInt.toNat + 1) (by omega) (by rw [hq42, tk_1]; omega); rw [q10, tk_1, show (1 : Int).toNat = 1 from rfl, vF_1] at q; exact q
        (try simp only [tk_1] at hr_72)
        refine lv_aload_n hx hb dX7_desk_75 rfl (lv_at hl 1 rfl) ?_
        refine lv_iload_n hx hb dX7_desk_76 rfl (lv_at hl 0 rfl) ?_
        refine lv_iconst (v := 3) hx hb dX7_desk_77 (by decide) ?_
        refine lv_iadd hx hb dX7_desk_78 ?_
        refine lv_topi (fun v_78 e_78 => ?_)
        have t_78 := ti_addk rfl tk_3 (by omega) (by omega) e_78
        refine lv_iconst (v := 2) hx hb dX7_desk_79 (by decide) ?_
        refine rd_ci (va_runV (As := [.int v_78, .int 2]) (rest := [.int r_72, .int r_64, .ref (ya Z 0)]) ⟨hx, hb, hml, hown, hT⟩ (c_X7_signed l Z hZ g1 gl v_78 2 (by first | assumption | omega | decide) (by first | assumption | omega | decide) hJ) (cwV 2 hT (tb_V (fun _ h => h) (tr_17 _ (List.mem_of_getElem? (i := 17) rfl)) (tr_17 _ (List.mem_of_getElem? (i := 18) rfl)) (tr_17 _ (List.mem_of_getElem? (i := 19) rfl)) (tr_1 _ (List.mem_of_getElem? (i := 5) rfl)) (tr_17 _ (List.mem_of_getElem? (i := 20) rfl))) rfl rfl rfl (by decide +kernel) ⟨Nat.le_of_ble_eq_true rfl, Nat.le_of_ble_eq_true rfl⟩) ⟨fun a U f mk q => ⟨q.1, MI.blind f mk a q.2⟩, va_recv hK hP (ci := 7) (q0 := 0) rfl mw_0, fun U hU hW => ⟨rfl, hI.at hS hP hU hW⟩⟩ rfl rfl hl.1 rfl (lv_room (Nat.le_of_ble_eq_true rfl)) dX7_desk_80 ⟨Nat.zero_le _, Nat.zero_le _⟩) (fun r_80 hr_80 => ?_)
        have a2 : r_80 = rdT (g 10) (12 * z1.toInt.toNat) 2 := by have q := hr_80 (12 * z1.toInt.toNat + 3) (by omega) (by rw [hq42, tk_2]; omega); rw [q10, tk_2, show (2 : Int).toNat = 2 from rfl, vF_2] at q; exact q
        (try simp only [tk_2] at hr_80)
        refine lv_bipush (v := 10) hx hb dX7_desk_83 (by decide) ?_
        refine lv_aload_n hx hb dX7_desk_85 rfl (lv_at hl 1 rfl) ?_
        refine lv_iload_n hx hb dX7_desk_86 rfl (lv_at hl 0 rfl) ?_
        refine lv_bipush (v := 7) hx hb dX7_desk_87 (by decide) ?_
        refine lv_iadd hx hb dX7_desk_89 ?_
        refine lv_topi (fun v_89 e_89 => ?_)
        have t_89 := ti_addk rfl tk_7 (by omega) (by omega) e_89
        refine rd_ci (va_runV (As := [.int v_89]) (rest := [.int 10, .int r_80, .int r_72, .int r_64, .ref (ya Z 0)]) ⟨hx, hb, hml, hown, hT⟩ (c_X7_figure l Z hZ g1 gl v_89 (by first | assumption | omega | decide) hJ) (cwV 1 hT (tb_V (fun _ h => h) (tr_12 _ (List.mem_of_getElem? (i := 9) rfl)) (tr_12 _ (List.mem_of_getElem? (i := 10) rfl)) (tr_12 _ (List.mem_of_getElem? (i := 11) rfl)) (tr_1 _ (List.mem_of_getElem? (i := 5) rfl)) (tr_12 _ (List.mem_of_getElem? (i := 12) rfl))) rfl rfl rfl (by decide +kernel) ⟨Nat.le_of_ble_eq_true rfl, Nat.le_of_ble_eq_true rfl⟩) ⟨fun a U f mk q => ⟨q.1, MI.blind f mk a q.2⟩, va_recv hK hP (ci := 7) (q0 := 0) rfl mw_0, fun U hU hW => ⟨rfl, hI.at hS hP hU hW⟩⟩ rfl rfl hl.1 rfl (lv_room (Nat.le_of_ble_eq_true rfl)) dX7_desk_90 ⟨Nat.zero_le _, Nat.zero_le _⟩) (fun r_90 hr_90 => ?_)
        have f7 : r_90.toInt = (g 10 (12 * z1.toInt.toNat + 7)).toInt - 48 := by have q := hr_90.1 (12 * z1.toInt.toNat + 7) (by omega); rw [q10, hq42, atp_in (by omega)] at q; exact q
        have x7 : r_90 = g 10 (12 * z1.toInt.toNat + 7) - 48 := by have q := hr_90.2.2 (12 * z1.toInt.toNat + 7) (by omega) (by rw [hq42]; omega); rw [q10] at q; exact q
        refine lv_imul hx hb dX7_desk_93 ?_
        refine lv_topi (fun v_93 e_93 => ?_)
        have t_93 := ti_mulk tk_10 rfl (by omega) (by omega) e_93
        refine lv_aload_n hx hb dX7_desk_94 rfl (lv_at hl 1 rfl) ?_
        refine lv_iload_n hx hb dX7_desk_95 rfl (lv_at hl 0 rfl) ?_
        refine lv_bipush (v := 8) hx hb dX7_desk_96 (by decide) ?_
        refine lv_iadd hx hb dX7_desk_98 ?_
        refine lv_topi (fun v_98 e_98 => ?_)
        have t_98 := ti_addk rfl tk_8 (by omega) (by omega) e_98
        refine rd_ci (va_runV (As := [.int v_98]) (rest := [.int v_93, .int r_80, .int r_72, .int r_64, .ref (ya Z 0)]) ⟨hx, hb, hml, hown, hT⟩ (c_X7_figure l Z hZ g1 gl v_98 (by first | assumption | omega | decide) hJ) (cwV 1 hT (tb_V (fun _ h => h) (tr_12 _ (List.mem_of_getElem? (i := 9) rfl)) (tr_12 _ (List.mem_of_getElem? (i := 10) rfl)) (tr_12 _ (List.mem_of_getElem? (i := 11) rfl)) (tr_1 _ (List.mem_of_getElem? (i := 5) rfl)) (tr_12 _ (List.mem_of_getElem? (i := 12) rfl))) rfl rfl rfl (by decide +kernel) ⟨Nat.le_of_ble_eq_true rfl, Nat.le_of_ble_eq_true rfl⟩) ⟨fun a U f mk q => ⟨q.1, MI.blind f mk a q.2⟩, va_recv hK hP (ci := 7) (q0 := 0) rfl mw_0, fun U hU hW => ⟨rfl, hI.at hS hP hU hW⟩⟩ rfl rfl hl.1 rfl (lv_room (Nat.le_of_ble_eq_true rfl)) dX7_desk_99 ⟨Nat.zero_le _, Nat.zero_le _⟩) (fun r_99 hr_99 => ?_)
        have f8 : r_99.toInt = (g 10 (12 * z1.toInt.toNat + 8)).toInt - 48 := by have q := hr_99.1 (12 * z1.toInt.toNat + 8) (by omega); rw [q10, hq42, atp_in (by omega)] at q; exact q
        have x8 : r_99 = g 10 (12 * z1.toInt.toNat + 8) - 48 := by have q := hr_99.2.2 (12 * z1.toInt.toNat + 8) (by omega) (by rw [hq42]; omega); rw [q10] at q; exact q
        refine lv_iadd hx hb dX7_desk_102 ?_
        refine lv_topi (fun v_102 e_102 => ?_)
        have t_102 := ti_addk rfl rfl (by omega) (by omega) e_102
        refine lv_bipush (v := 10) hx hb dX7_desk_103 (by decide) ?_
        refine lv_aload_n hx hb dX7_desk_105 rfl (lv_at hl 1 rfl) ?_
        refine lv_iload_n hx hb dX7_desk_106 rfl (lv_at hl 0 rfl) ?_
        refine lv_bipush (v := 9) hx hb dX7_desk_107 (by decide) ?_
        refine lv_iadd hx hb dX7_desk_109 ?_
        refine lv_topi (fun v_109 e_109 => ?_)
        have t_109 := ti_addk rfl tk_9 (by omega) (by omega) e_109
        refine rd_ci (va_runV (As := [.int v_109]) (rest := [.int 10, .int v_102, .int r_80, .int r_72, .int r_64, .ref (ya Z 0)]) ⟨hx, hb, hml, hown, hT⟩ (c_X7_figure l Z hZ g1 gl v_109 (by first | assumption | omega | decide) hJ) (cwV 1 hT (tb_V (fun _ h => h) (tr_12 _ (List.mem_of_getElem? (i := 9) rfl)) (tr_12 _ (List.mem_of_getElem? (i := 10) rfl)) (tr_12 _ (List.mem_of_getElem? (i := 11) rfl)) (tr_1 _ (List.mem_of_getElem? (i := 5) rfl)) (tr_12 _ (List.mem_of_getElem? (i := 12) rfl))) rfl rfl rfl (by decide +kernel) ⟨Nat.le_of_ble_eq_true rfl, Nat.le_of_ble_eq_true rfl⟩) ⟨fun a U f mk q => ⟨q.1, MI.blind f mk a q.2⟩, va_recv hK hP (ci := 7) (q0 := 0) rfl mw_0, fun U hU hW => ⟨rfl, hI.at hS hP hU hW⟩⟩ rfl rfl hl.1 rfl (lv_room (Nat.le_of_ble_eq_true rfl)) dX7_desk_110 ⟨Nat.zero_le _, Nat.zero_le _⟩) (fun r_110 hr_110 => ?_)
        have f9 : r_110.toInt = (g 10 (12 * z1.toInt.toNat + 9)).toInt - 48 := by have q := hr_110.1 (12 * z1.toInt.toNat + 9) (by omega); rw [q10, hq42, atp_in (by omega)] at q; exact q
        have x9 : r_110 = g 10 (12 * z1.toInt.toNat + 9) - 48 := by have q := hr_110.2.2 (12 * z1.toInt.toNat + 9) (by omega) (by rw [hq42]; omega); rw [q10] at q; exact q
        refine lv_imul hx hb dX7_desk_113 ?_
        refine lv_topi (fun v_113 e_113 => ?_)
        have t_113 := ti_mulk tk_10 rfl (by omega) (by omega) e_113
        refine lv_aload_n hx hb dX7_desk_114 rfl (lv_at hl 1 rfl) ?_
        refine lv_iload_n hx hb dX7_desk_115 rfl (lv_at hl 0 rfl) ?_
        refine lv_bipush (v := 10) hx hb dX7_desk_116 (by decide) ?_
        refine lv_iadd hx hb dX7_desk_118 ?_
        refine lv_topi (fun v_118 e_118 => ?_)
        have t_118 := ti_addk rfl tk_10 (by omega) (by omega) e_118
        refine rd_ci (va_runV (As := [.int v_118]) (rest := [.int v_113, .int v_102, .int r_80, .int r_72, .int r_64, .ref (ya Z 0)]) ⟨hx, hb, hml, hown, hT⟩ (c_X7_figure l Z hZ g1 gl v_118 (by first | assumption | omega | decide) hJ) (cwV 1 hT (tb_V (fun _ h => h) (tr_12 _ (List.mem_of_getElem? (i := 9) rfl)) (tr_12 _ (List.mem_of_getElem? (i := 10) rfl)) (tr_12 _ (List.mem_of_getElem? (i := 11) rfl)) (tr_1 _ (List.mem_of_getElem? (i := 5) rfl)) (tr_12 _ (List.mem_of_getElem? (i := 12) rfl))) rfl rfl rfl (by decide +kernel) ⟨Nat.le_of_ble_eq_true rfl, Nat.le_of_ble_eq_true rfl⟩) ⟨fun a U f mk q => ⟨q.1, MI.blind f mk a q.2⟩, va_recv hK hP (ci := 7) (q0 := 0) rfl mw_0, fun U hU hW => ⟨rfl, hI.at hS hP hU hW⟩⟩ rfl rfl hl.1 rfl (lv_room (Nat.le_of_ble_eq_true rfl)) dX7_desk_119 ⟨Nat.zero_le _, Nat.zero_le _⟩) (fun r_119 hr_119 => ?_)
        have f10 : r_119.toInt = (g 10 (12 * z1.toInt.toNat + 10)).toInt - 48 := by have q := hr_119.1 (12 * z1.toInt.toNat + 10) (by omega); rw [q10, hq42, atp_in (by omega)] at q; exact q
        have x10 : r_119 = g 10 (12 * z1.toInt.toNat + 10) - 48 := by have q := hr_119.2.2 (12 * z1.toInt.toNat + 10) (by omega) (by rw [hq42]; omega); rw [q10] at q; exact q
        refine lv_iadd hx hb dX7_desk_122 ?_
        refine lv_topi (fun v_122 e_122 => ?_)
        have t_122 := ti_addk rfl rfl (by omega) (by omega) e_122
        have a3 : v_102 = rdT (g 10) (12 * z1.toInt.toNat) 3 := by rw [e_102, e_93, x7, x8]; rfl
        have a4 : v_122 = rdT (g 10) (12 * z1.toInt.toNat) 4 := by rw [e_122, e_113, x9, x10]; rfl
        refine va_callv (va_runV (As := [.int r_64, .int r_72, .int r_80, .int v_102, .int v_122]) (rest := []) ⟨hx, hb, hml, hown, hT⟩ (c_X7_take l Z hZ g1 gl r_64 r_72 r_80 v_102 v_122 (by first | assumption | omega | decide) (by first | assumption | omega | decide) (by first | assumption | omega | decide) hJ) (cwV 5 hT (tb_V (fun _ h => h) (tr_17 _ (List.mem_of_getElem? (i := 21) rfl)) (tr_17 _ (List.mem_of_getElem? (i := 22) rfl)) (tr_17 _ (List.mem_of_getElem? (i := 23) rfl)) (tr_1 _ (List.mem_of_getElem? (i := 5) rfl)) (tr_18 _ (List.mem_of_getElem? (i := 0) rfl))) rfl rfl rfl (by decide +kernel) ⟨Nat.le_of_ble_eq_true rfl, Nat.le_of_ble_eq_true rfl⟩) ⟨fun a U f mk q => ⟨q.1, MI.blind f mk a q.2⟩, va_recv hK hP (ci := 7) (q0 := 0) rfl mw_0, fun U hU hW => ⟨rfl, hI.at hS hP hU hW⟩⟩ rfl rfl hl.1 rfl (lv_room (Nat.le_of_ble_eq_true rfl)) dX7_desk_123 ⟨Nat.zero_le _, Nat.zero_le _⟩) hS (fun q _ h => h) (fun q h => h) (fun u_123 t_123 H locs ht_123 _ hw_123 hB_123 _ _ hS => ?_)
        obtain ⟨g_123, gl_123⟩ := u_123
        have hP : va_P (yD Z) vwCl (mw Z g_123 gl_123) H := ht_123 ▸ hB_123
        obtain ⟨hf_123, hJ, el_123, hr_123⟩ := hw_123
        have hF := hF.tr hf_123 (by decide)
        dsimp only at hf_123 hJ hF el_123 hr_123
        subst el_123
        obtain ⟨v_126, e_126⟩ : ∃ y : Int32, y = z1 + 1 := ⟨_, rfl⟩
        refine lv_iinc (v := v_126) (lv' := [(1, .int v_126), (2, .int v_55), (0, .ref (ya Z 0))]) hx hb dX7_desk_126 hl (k := 2) rfl (by rw [e_126]; rfl) (by decide) rfl (fun ls hl => ?_)
        have t_126 := ti_addk rfl tk_1 (by omega) (by omega) e_126
        refine lv_goto (tgt := 44) hx hb dX7_desk_129 (by decide) ?_
        exact ih44 v_126 g_123 _ _ hP hF hJ hS (by omega) (by rw [hr_123.1.1]; have y := ti_addk (x := g1 31 0) rfl tk_1 (by omega) (by omega) rfl; omega) (TR_take (g := g1) (x := g1 31 0) (n := z1.toInt.toNat) (by omega) (Or.inl trivial) (by show v_126.toInt.toNat = _; omega) (nI_ek (by omega)) (fun t ht k hk => (hr_123.1.rows (by omega) t (by omega) k hk).symm) (by rw [show z1.toInt.toNat = (g1 31 0).toInt.toNat by omega]; exact hr_123.2) hE9) (by rw [congrFun (hf_123 45 (by decide)) 0]; exact hq45) ((congrFun (hf_123 42 (by decide)) 0).trans hq42) (by first | assumption | omega | decide) ((congrFun (hf_123 30 (by decide)) 0).trans hq30) (by omega) (fun t ht k hk => by rcases Int.lt_or_le (t : Int) z1.toInt with q | q; (rw [hr_123.1.rows (by omega) t (by omega) k hk]; exact hA t (by omega) k hk); exact dk_row hr_123.1 (show (g1 31 0).toNatClampNeg = t by show (g1 31 0).toInt.toNat = t; omega) (show 12 * z1.toInt.toNat = 12 * t by omega) a0 a1 a2 a3 a4 k hk) (by omega) ls (lv_sub hl [2, 0] rfl)
  have L22 : ∀ (n : Nat) (z1 : Int32) (g1 : Nat → Nat → Int32) (H : Heap) (locs : List Loc) (hP : va_P (yD Z) vwCl (mw Z g1 gl) H) (hF : Fr [1, 2, 3, 4, 5, 6, 30, 31, 38, 42, 44, 45] g g1) (hJ : MJ g1) (hS : va_S (yA Z) s.heap H locs) (h1 : 0 ≤ z1.toInt ∧ z1.toInt ≤ 128) (hA6 : ∀ j : Nat, (j : Int) < z1.toInt → g1 6 j = -1) (hq31 : g1 31 0 = 0) (hq45 : 12 * (g1 45 0).toInt = (g 42 0).toInt + 1) (hq42 : g1 42 0 = g 42 0) (hw1 : whp (g 10) (g 42 0).toInt) (hq30 : g1 30 0 = g 30 0) (hn : (128 - z1.toInt).toNat < n) (ls : Array Slot) (hl : lv_has ls 3 [(0, .ref (ya Z 0)), (1, .int z1)]), W p l e ({ frames := 7, cells := 0, slots := 0, locals := 171 } : Room) s m ([.ref (ya Z 0)] : List Value).toArray below meth c H locs 0 0 (MQ below (va_Qi (fun (r : Int32) (u : (Nat → Nat → Int32) × (Nat → Nat → Int64)) => Fr [1, 2, 3, 4, 5, 6, 30, 31, 38, 42, 44, 45] g u.1 ∧ MJ u.1 ∧ gl = u.2 ∧ (((¬ whp (g 10) (g 42 0).toInt ∧ r = -103 ∧ (∀ i, i ≠ 44 → i ≠ 45 → u.1 i = g i)) ∨ (whp (g 10) (g 42 0).toInt ∧ 12 * r.toInt = (g 42 0).toInt + 1 ∧ u.1 31 0 = r ∧ u.1 42 0 = 0 ∧ u.1 38 0 = 0 ∧ u.1 30 0 = g 30 0 + 1 ∧ (∀ t : Nat, 12 * (t : Int) < (g 42 0).toInt → ∀ k, k < 5 → u.1 (k + 1) t = rdT (g 10) (12 * t) k) ∧ Eq1 (u.1 6) (TR u.1 (u.1 31 0).toInt.toNat))) ∧ (u.1 31 0).toInt ≤ 40)) (fun u t => va_P (yD Z) vwCl (mw Z u.1 u.2) t.heap) (yA Z)) ([.ref (ya Z 0)] : List Value).toArray s 0 0 (yA Z)) (F0 m 22 ls []) := by
    intro n
    induction n with
    | zero => intro z1 g1 H locs hP hF hJ hS h1 hA6 hq31 hq45 hq42 hw1 hq30 hn; exact absurd hn (Nat.not_lt_zero _)
    | succ n ih22 =>
      intro z1 g1 H locs hP hF hJ hS h1 hA6 hq31 hq45 hq42 hw1 hq30 hn ls hl
      refine lv_iload_n hx hb dX7_desk_22 rfl (lv_at hl 1 rfl) ?_
      refine lv_sipush (v := 128) hx hb dX7_desk_23 (by decide) ?_
      refine lv_icmp_ge (tgt := 42) hx hb dX7_desk_26 (by decide) (fun c_26 => ?_) (fun c_26 => ?_)
      · skip
        have i_26 := ti_lek tk_128 rfl c_26
        refine lv_iconst (v := 0) hx hb dX7_desk_42 (by decide) ?_
        refine lv_istore_n (lv' := [(1, .int 0), (0, .ref (ya Z 0))]) hx hb dX7_desk_43 rfl hl (by decide) rfl (fun ls hl => ?_)
        exact L44 _ 0 g1 _ _ hP hF hJ hS (by decide) (by rw [hq31]) (by rw [tk_0]; exact fun w a b => hA6 w (by omega)) hq45 hq42 (by first | assumption | omega | decide) hq30 (by rw [tk_0]; omega) (fun t ht => by rw [tk_0] at ht; omega) (Nat.lt_succ_self _) ls (lv_sub hl [1, 0] rfl)
      · skip
        have i_26 := ti_nlek tk_128 rfl c_26
        refine lv_aload_n hx hb dX7_desk_29 rfl (lv_at hl 0 rfl) ?_
        refine va_get (D := yD Z) (ci := 7) (v := .ref (ya Z 6)) (C := RX7) (T := TX7) (N := 31) hx hb hT inlX7 hown hK hP 0 mw_0 rfl 7 (by decide) (hT _ (tr_4 _ (List.mem_of_getElem? (i := 18) rfl))) (fun _ h9 => h9) rfl dX7_desk_30 ?_
        refine lv_iload_n hx hb dX7_desk_33 rfl (lv_at hl 1 rfl) ?_
        refine lv_iconst (v := (-1)) hx hb dX7_desk_34 (by decide) ?_
        have h_35 : vp_in z1 128 := (ti_vp (by omega) (by omega))
        refine va_iast hx hb hK hP hZ.D hS 6 1 mw_6 rfl h_35 dX7_desk_35 (fun H locs hP _ hS => ?_)
        replace hP := ms_6 hP
        have hF := hF.uR (i := 6) (r := upd (g1 6) z1.toNatClampNeg (-1)) (by decide)
        have hJ := hJ.a6 (k := z1.toNatClampNeg) (v := (-1)) (by first | omega | decide)
        obtain ⟨v_36, e_36⟩ : ∃ y : Int32, y = z1 + 1 := ⟨_, rfl⟩
        refine lv_iinc (v := v_36) (lv' := [(1, .int v_36), (0, .ref (ya Z 0))]) hx hb dX7_desk_36 hl (k := 1) rfl (by rw [e_36]; rfl) (by decide) rfl (fun ls hl => ?_)
        have t_36 := ti_addk rfl tk_1 (by omega) (by omega) e_36
        refine lv_goto (tgt := 22) hx hb dX7_desk_39 (by decide) ?_
        exact ih22 v_36 (upR g1 6 (upd (g1 6) z1.toNatClampNeg (-1))) _ _ hP hF hJ hS (by omega) (fun j hj => by show upd (g1 6) z1.toNatClampNeg (-1) j = -1; by_cases y : j = z1.toNatClampNeg; (rw [upd_at y]); rw [pk_un y]; exact hA6 j (by have y2 : ¬ (j : Int) = z1.toInt := (fun y3 => y (ti_clamp y3.symm).symm); omega)) hq31 hq45 hq42 (by first | assumption | omega | decide) hq30 (by omega) ls (lv_sub hl [1, 0] rfl)
  refine lv_aload_n hx hb dX7_desk_0 rfl (lv_at hl 0 rfl) ?_
  refine va_calli (va_runV (As := []) (rest := []) ⟨hx, hb, hml, hown, hT⟩ (c_X7_read l Z hZ g gl hJ) (cwV 0 hT (tb_V (fun _ h => h) (tr_11 _ (List.mem_of_getElem? (i := 8) rfl)) (tr_11 _ (List.mem_of_getElem? (i := 9) rfl)) (tr_11 _ (List.mem_of_getElem? (i := 10) rfl)) (tr_1 _ (List.mem_of_getElem? (i := 5) rfl)) (tr_11 _ (List.mem_of_getElem? (i := 11) rfl))) rfl rfl rfl (by decide +kernel) ⟨Nat.le_of_ble_eq_true rfl, Nat.le_of_ble_eq_true rfl⟩) ⟨fun a U f mk q => ⟨q.1, MI.blind f mk a q.2⟩, va_recv hK hP (ci := 7) (q0 := 0) rfl mw_0, fun U hU hW => ⟨rfl, hI.at hS hP hU hW⟩⟩ rfl rfl hl.1 rfl (lv_room (Nat.le_of_ble_eq_true rfl)) dX7_desk_1 ⟨Nat.zero_le _, Nat.zero_le _⟩) hS (fun q _ h => h) (fun q h => h) (fun r_1 u_1 t_1 H locs ht_1 _ hw_1 hB_1 _ _ hS => ?_)
  obtain ⟨g_1, gl_1⟩ := u_1
  have hP : va_P (yD Z) vwCl (mw Z g_1 gl_1) H := ht_1 ▸ hB_1
  obtain ⟨hf_1, hJ, el_1, hr_1⟩ := hw_1
  have hF := hF.tr hf_1 (by decide)
  dsimp only at hf_1 hJ hF el_1 hr_1
  subst el_1
  obtain ⟨-, hwh⟩ := hr_1
  refine lv_pop hx hb dX7_desk_4 rfl ?_
  refine lv_aload_n hx hb dX7_desk_5 rfl (lv_at hl 0 rfl) ?_
  refine va_get (D := yD Z) (ci := 7) (v := .int (g_1 44 0)) (C := RX7) (T := TX7) (N := 31) hx hb hT inlX7 hown hK hP 0 mw_0 rfl 14 (by decide) (hT _ (tr_11 _ (List.mem_of_getElem? (i := 12) rfl))) (fun _ h9 => h9) rfl dX7_desk_6 ?_
  refine lv_if_ne (tgt := 15) hx hb dX7_desk_9 (by decide) (fun c_9 => ?_) (fun c_9 => ?_)
  · skip
    have i_9 := ti_nek rfl tk_0 c_9
    obtain ⟨hw1, hw2⟩ : whp (g 10) (g 42 0).toInt ∧ 12 * (g_1 45 0).toInt = (g 42 0).toInt + 1 := by
      rcases hwh with q | q
      · exact q.2
      · rw [q.1] at i_9; exact absurd (by decide) i_9
    refine lv_aload_n hx hb dX7_desk_15 rfl (lv_at hl 0 rfl) ?_
    refine lv_iconst (v := 0) hx hb dX7_desk_16 (by decide) ?_
    refine va_put (D := yD Z) (ci := 7) (v := .int 0) (ty := .int) (C := RX7) (T := TX7) (N := 31) hx hb hT inlX7 tyX7 tyX7_ok nmX7 hown hK hP hZ.D hS 0 mw_0 rfl 1 (by decide) (hT _ (tr_17 _ (List.mem_of_getElem? (i := 14) rfl))) (fun _ h9 => h9) rfl (by decide +kernel) rfl rfl (Nat.le_of_ble_eq_true rfl) dX7_desk_17 (fun H locs hP _ hS => ?_)
    replace hP := mf_1 hP
    have hF := hF.u2 (i := 31) (k := 0) (v := 0) (by decide)
    have hJ := hJ.p31 (v := 0) (by first | omega | decide)
    refine lv_iconst (v := 0) hx hb dX7_desk_20 (by decide) ?_
    refine lv_istore_n (lv' := [(1, .int 0), (0, .ref (ya Z 0))]) hx hb dX7_desk_21 rfl hl (by decide) rfl (fun ls hl => ?_)
    exact L22 _ 0 (up2 g_1 31 0 0) _ _ hP hF hJ hS (by decide) (fun j hj => by rw [tk_0] at hj; omega) rfl hw2 (congrFun (hf_1 42 (by decide)) 0) (by first | assumption | omega | decide) (congrFun (hf_1 30 (by decide)) 0) (Nat.lt_succ_self _) ls (lv_sub hl [1, 0] rfl)
  · skip
    have i_9 := ti_eqk rfl tk_0 c_9
    refine lv_bipush (v := (-103)) hx hb dX7_desk_12 (by decide) ?_
    exact W.iret (v := (-103)) hx hb hr (fun t ht hW => ⟨⟨(-103), (g_1, gl), rfl, ⟨hF, hJ, rfl, (by (try dsimp only); first | done | exact ⟨Or.inl ⟨fun hw => by rcases hwh with q | q; (rw [q.1] at i_9; exact absurd i_9 (by decide)); exact absurd hw q.2, rfl, fun i h1 h2 => hf_1 i (by simp; omega)⟩, by show (g_1 31 0).toInt ≤ 40; rw [congrFun (hf_1 31 (by decide)) 0]; exact h40⟩)⟩, by show va_P (yD Z) vwCl (mw Z g_1 gl) t.heap; rw [ht]; exact hP⟩, hS.F ht⟩) hS.2.2 dX7_desk_14
set_option maxHeartbeats 4000000 in
set_option maxRecDepth 100000 in
theorem c_X7_letter (l : Launch) (Z : YT) (hZ : MG Z) (g : Nat → Nat → Int32) (gl : Nat → Nat → Int64) (x1 : Int32) (hJ : MJ g) : Met l yX7_letter (Cond.code yX7_letter cX7_letter 2 (some .int) :: wsL_law) ({ frames := 1, cells := 0, slots := 0, locals := 22 } : Room) (va_Pc [.ref (ya Z 0), .int x1] (MI Z g gl)) (va_Qi (fun (r : Int32) (u : (Nat → Nat → Int32) × (Nat → Nat → Int64)) => Fr [10, 42] g u.1 ∧ MJ u.1 ∧ gl = u.2 ∧ ((¬ (32 ≤ x1.toInt ∧ x1.toInt ≤ 126) ∧ r = -102 ∧ u.1 = g) ∨ ((32 ≤ x1.toInt ∧ x1.toInt ≤ 126) ∧ (g 42 0).toInt = 50 ∧ r = -104 ∧ u.1 = g) ∨ ((32 ≤ x1.toInt ∧ x1.toInt ≤ 126) ∧ (g 42 0).toInt < 50 ∧ r = g 42 0 + 1 ∧ u.1 = up2 (upR g 10 (upd (g 10) (g 42 0).toNatClampNeg x1)) 42 0 (g 42 0 + 1)))) (fun u t => va_P (yD Z) vwCl (mw Z u.1 u.2) t.heap) (yA Z)) 0 0 (yA Z) := by
  refine Met.ofW (cc := cX7_letter) (maxL := 2) (ret := (some .int)) (by decide) rfl ?_
  intro p e s m args below meth c s₁ B hml hv
  obtain ⟨rfl, hI⟩ := hv
  have hx := B.exec
  have hb := B.bytes
  have hr := B.returns
  have hT : ∀ w ∈ wsL_law, w.before ([.ref (ya Z 0), .int x1] : List Value).toArray s = true := fun w h => atoms_spec (ws := (Cond.code yX7_letter cX7_letter 2 (some .int) :: wsL_law)) B.pre w (List.mem_cons_of_mem _ h)
  have hown : s.vm.findClass RX7 = some m.cls := findClass_of_methodNamed B.named
  have hlocks := B.notSynchronized
  have hK := hI.2
  have hP := hI.1
  have hS : va_S (yA Z) s.heap s.heap [] := va_S.rf
  have hF : Fr [10, 42] g g := Fr.rf
  have j42 := hJ.j42
  have hl := lv_entry ([.ref (ya Z 0), .int x1]) (n := 2) (Nat.le_of_ble_eq_true rfl)
  rw [lg_entry_eq]
  generalize (lg_sl ([.ref (ya Z 0), .int x1]) ++ List.replicate (2 - (lg_sl ([.ref (ya Z 0), .int x1])).length) Slot.unset).toArray = ls at hl ⊢
  have hl : lv_has ls 2 [(0, .ref (ya Z 0)), (1, .int x1)] := hl
  refine lv_iload_n hx hb dX7_letter_0 rfl (lv_at hl 1 rfl) ?_
  refine lv_bipush (v := 32) hx hb dX7_letter_1 (by decide) ?_
  refine lv_bipush (v := 126) hx hb dX7_letter_3 (by decide) ?_
  refine rd_ci (va_runS (As := [.int x1, .int 32, .int 126]) (rest := []) ⟨hx, hb, hml, hown, hT⟩ (c_X7_within l x1 32 126) (va_cwS 3 hT (tb_S (fun _ h => h) (tr_6 _ (List.mem_of_getElem? (i := 0) rfl)) (tr_6 _ (List.mem_of_getElem? (i := 1) rfl)) (tr_1 _ (List.mem_of_getElem? (i := 5) rfl)) (tr_6 _ (List.mem_of_getElem? (i := 2) rfl))) rfl rfl rfl (by decide +kernel) ⟨Nat.le_of_ble_eq_true rfl, Nat.le_of_ble_eq_true rfl⟩) ⟨fun _ _ _ _ q => q, fun U hU hW => ⟨rfl, trivial⟩⟩ rfl rfl hl.1 rfl (lv_room (Nat.le_of_ble_eq_true rfl)) dX7_letter_5 ⟨Nat.zero_le _, Nat.zero_le _⟩) (fun r_5 hr_5 => ?_)
  rcases hr_5 with ⟨rfl, b_5⟩ | ⟨rfl, b_5⟩
  · skip
    (try simp only [tk_126, tk_32] at b_5)
    refine lv_if_ne (tgt := 14) hx hb dX7_letter_8 (by decide) (fun c_8 => ?_) (fun c_8 => absurd c_8 (by decide))
    refine lv_aload_n hx hb dX7_letter_14 rfl (lv_at hl 0 rfl) ?_
    refine va_get (D := yD Z) (ci := 7) (v := .int (g 42 0)) (C := RX7) (T := TX7) (N := 31) hx hb hT inlX7 hown hK hP 0 mw_0 rfl 12 (by decide) (hT _ (tr_5 _ (List.mem_of_getElem? (i := 23) rfl))) (fun _ h9 => h9) rfl dX7_letter_15 ?_
    refine lv_bipush (v := 50) hx hb dX7_letter_18 (by decide) ?_
    refine lv_icmp_ne (tgt := 26) hx hb dX7_letter_20 (by decide) (fun c_20 => ?_) (fun c_20 => ?_)
    · skip
      have i_20 := ti_nek rfl tk_50 c_20
      refine lv_aload_n hx hb dX7_letter_26 rfl (lv_at hl 0 rfl) ?_
      refine va_get (D := yD Z) (ci := 7) (v := .ref (ya Z 10)) (C := RX7) (T := TX7) (N := 31) hx hb hT inlX7 hown hK hP 0 mw_0 rfl 13 (by decide) (hT _ (tr_4 _ (List.mem_of_getElem? (i := 23) rfl))) (fun _ h9 => h9) rfl dX7_letter_27 ?_
      refine lv_aload_n hx hb dX7_letter_30 rfl (lv_at hl 0 rfl) ?_
      refine va_get (D := yD Z) (ci := 7) (v := .int (g 42 0)) (C := RX7) (T := TX7) (N := 31) hx hb hT inlX7 hown hK hP 0 mw_0 rfl 12 (by decide) (hT _ (tr_5 _ (List.mem_of_getElem? (i := 23) rfl))) (fun _ h9 => h9) rfl dX7_letter_31 ?_
      refine lv_iload_n hx hb dX7_letter_34 rfl (lv_at hl 1 rfl) ?_
      refine lv_i2b hx hb dX7_letter_35 rfl ?_
      refine lv_topi (fun v_35 e_35 => ?_)
      have qb : vp_nar .byte v_35 = x1 := by rw [vp_nar_byte, e_35, ti_byte (x := x1) (by omega) (by omega), ti_byte (x := x1) (by omega) (by omega)]
      have h_36 : vp_in (g 42 0) 50 := (ti_vp (by omega) (by omega))
      refine va_bast hx hb hK hP hZ.D hS 10 0 mw_10 rfl h_36 dX7_letter_36 (fun H locs hP _ hS => ?_)
      replace hP := ms_10 hP
      have hF := hF.uR (i := 10) (r := upd (g 10) (g 42 0).toNatClampNeg (vp_nar .byte v_35)) (by decide)
      have hJ := hJ.a10 (k := (g 42 0).toNatClampNeg) (v := (vp_nar .byte v_35)) (by rw [qb]; omega)
      refine lv_aload_n hx hb dX7_letter_37 rfl (lv_at hl 0 rfl) ?_
      refine lv_dup hx hb dX7_letter_38 rfl ?_
      refine va_get (D := yD Z) (ci := 7) (v := .int (g 42 0)) (C := RX7) (T := TX7) (N := 31) hx hb hT inlX7 hown hK hP 0 mw_0 rfl 12 (by decide) (hT _ (tr_5 _ (List.mem_of_getElem? (i := 23) rfl))) (fun _ h9 => h9) rfl dX7_letter_39 ?_
      refine lv_iconst (v := 1) hx hb dX7_letter_42 (by decide) ?_
      refine lv_iadd hx hb dX7_letter_43 ?_
      refine lv_topi (fun v_43 e_43 => ?_)
      have t_43 := ti_addk rfl tk_1 (by omega) (by omega) e_43
      refine va_put (D := yD Z) (ci := 7) (v := .int v_43) (ty := .int) (C := RX7) (T := TX7) (N := 31) hx hb hT inlX7 tyX7 tyX7_ok nmX7 hown hK hP hZ.D hS 0 mw_0 rfl 12 (by decide) (hT _ (tr_5 _ (List.mem_of_getElem? (i := 23) rfl))) (fun _ h9 => h9) rfl (by decide +kernel) rfl rfl (Nat.le_of_ble_eq_true rfl) dX7_letter_44 (fun H locs hP _ hS => ?_)
      replace hP := mf_12 hP
      have hF := hF.u2 (i := 42) (k := 0) (v := v_43) (by decide)
      have hJ := hJ.p42 (v := v_43) (by first | omega | decide)
      refine lv_aload_n hx hb dX7_letter_47 rfl (lv_at hl 0 rfl) ?_
      refine va_get (D := yD Z) (ci := 7) (v := .int v_43) (C := RX7) (T := TX7) (N := 31) hx hb hT inlX7 hown hK hP 0 mw_0 rfl 12 (by decide) (hT _ (tr_5 _ (List.mem_of_getElem? (i := 23) rfl))) (fun _ h9 => h9) rfl dX7_letter_48 ?_
      exact W.iret (v := v_43) hx hb hr (fun t ht hW => ⟨⟨v_43, ((up2 (upR g 10 (upd (g 10) (g 42 0).toNatClampNeg (vp_nar .byte v_35))) 42 0 v_43), gl), rfl, ⟨hF, hJ, rfl, (by (try dsimp only); first | done | exact Or.inr (Or.inr ⟨by omega, by omega, e_43, by rw [qb, e_43]⟩))⟩, by show va_P (yD Z) vwCl (mw Z (up2 (upR g 10 (upd (g 10) (g 42 0).toNatClampNeg (vp_nar .byte v_35))) 42 0 v_43) gl) t.heap; rw [ht]; exact hP⟩, hS.F ht⟩) hS.2.2 dX7_letter_51
    · skip
      have i_20 := ti_eqk rfl tk_50 c_20
      refine lv_bipush (v := (-104)) hx hb dX7_letter_23 (by decide) ?_
      exact W.iret (v := (-104)) hx hb hr (fun t ht hW => ⟨⟨(-104), (g, gl), rfl, ⟨hF, hJ, rfl, (by (try dsimp only); first | done | exact Or.inr (Or.inl ⟨by omega, by omega, rfl, rfl⟩))⟩, by show va_P (yD Z) vwCl (mw Z g gl) t.heap; rw [ht]; exact hP⟩, hS.F ht⟩) hS.2.2 dX7_letter_25
  · skip
    (try simp only [tk_126, tk_32] at b_5)
    refine lv_if_ne (tgt := 14) hx hb dX7_letter_8 (by decide) (fun c_8 => absurd c_8 (by decide)) (fun c_8 => ?_)
    refine lv_bipush (v := (-102)) hx hb dX7_letter_11 (by decide) ?_
    exact W.iret (v := (-102)) hx hb hr (fun t ht hW => ⟨⟨(-102), (g, gl), rfl, ⟨hF, hJ, rfl, (by (try dsimp only); first | done | exact Or.inl ⟨by omega, rfl, rfl⟩)⟩, by show va_P (yD Z) vwCl (mw Z g gl) t.heap; rw [ht]; exact hP⟩, hS.F ht⟩) hS.2.2 dX7_letter_13
set_option maxHeartbeats 4000000 in
set_option maxRecDepth 100000 in
theorem c_X7_blank (l : Launch) (Z : YT) (hZ : MG Z) (g : Nat → Nat → Int32) (gl : Nat → Nat → Int64)  (hJ : MJ g) : Met l yX7_blank (Cond.code yX7_blank cX7_blank 2 (some .int) :: wsL_law) ({ frames := 0, cells := 0, slots := 0, locals := 0 } : Room) (va_Pc [.ref (ya Z 0)] (MI Z g gl)) (va_Qi (fun (r : Int32) (u : (Nat → Nat → Int32) × (Nat → Nat → Int64)) => Fr [42] g u.1 ∧ MJ u.1 ∧ gl = u.2 ∧ (r = g 42 0 ∧ u.1 42 0 = 0)) (fun u t => va_P (yD Z) vwCl (mw Z u.1 u.2) t.heap) (yA Z)) 0 0 (yA Z) := by
  refine Met.ofW (cc := cX7_blank) (maxL := 2) (ret := (some .int)) (by decide) rfl ?_
  intro p e s m args below meth c s₁ B hml hv
  obtain ⟨rfl, hI⟩ := hv
  have hx := B.exec
  have hb := B.bytes
  have hr := B.returns
  have hT : ∀ w ∈ wsL_law, w.before ([.ref (ya Z 0)] : List Value).toArray s = true := fun w h => atoms_spec (ws := (Cond.code yX7_blank cX7_blank 2 (some .int) :: wsL_law)) B.pre w (List.mem_cons_of_mem _ h)
  have hown : s.vm.findClass RX7 = some m.cls := findClass_of_methodNamed B.named
  have hlocks := B.notSynchronized
  have hK := hI.2
  have hP := hI.1
  have hS : va_S (yA Z) s.heap s.heap [] := va_S.rf
  have hF : Fr [42] g g := Fr.rf
  have hl := lv_entry ([.ref (ya Z 0)]) (n := 2) (Nat.le_of_ble_eq_true rfl)
  rw [lg_entry_eq]
  generalize (lg_sl ([.ref (ya Z 0)]) ++ List.replicate (2 - (lg_sl ([.ref (ya Z 0)])).length) Slot.unset).toArray = ls at hl ⊢
  have hl : lv_has ls 2 [(0, .ref (ya Z 0))] := hl
  refine lv_aload_n hx hb dX7_blank_0 rfl (lv_at hl 0 rfl) ?_
  refine va_get (D := yD Z) (ci := 7) (v := .int (g 42 0)) (C := RX7) (T := TX7) (N := 31) hx hb hT inlX7 hown hK hP 0 mw_0 rfl 12 (by decide) (hT _ (tr_5 _ (List.mem_of_getElem? (i := 23) rfl))) (fun _ h9 => h9) rfl dX7_blank_1 ?_
  refine lv_istore_n (lv' := [(1, .int (g 42 0)), (0, .ref (ya Z 0))]) hx hb dX7_blank_4 rfl hl (by decide) rfl (fun ls hl => ?_)
  refine lv_aload_n hx hb dX7_blank_5 rfl (lv_at hl 1 rfl) ?_
  refine lv_iconst (v := 0) hx hb dX7_blank_6 (by decide) ?_
  refine va_put (D := yD Z) (ci := 7) (v := .int 0) (ty := .int) (C := RX7) (T := TX7) (N := 31) hx hb hT inlX7 tyX7 tyX7_ok nmX7 hown hK hP hZ.D hS 0 mw_0 rfl 12 (by decide) (hT _ (tr_5 _ (List.mem_of_getElem? (i := 23) rfl))) (fun _ h9 => h9) rfl (by decide +kernel) rfl rfl (Nat.le_of_ble_eq_true rfl) dX7_blank_7 (fun H locs hP _ hS => ?_)
  replace hP := mf_12 hP
  have hF := hF.u2 (i := 42) (k := 0) (v := 0) (by decide)
  have hJ := hJ.p42 (v := 0) (by first | omega | decide)
  refine lv_iload_n hx hb dX7_blank_10 rfl (lv_at hl 0 rfl) ?_
  exact W.iret (v := (g 42 0)) hx hb hr (fun t ht hW => ⟨⟨(g 42 0), ((up2 g 42 0 0), gl), rfl, ⟨hF, hJ, rfl, (by (try dsimp only); first | done | exact ⟨rfl, rfl⟩)⟩, by show va_P (yD Z) vwCl (mw Z (up2 g 42 0 0) gl) t.heap; rw [ht]; exact hP⟩, hS.F ht⟩) hS.2.2 dX7_blank_11
