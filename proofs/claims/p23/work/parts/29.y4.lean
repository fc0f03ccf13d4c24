theorem nx_l {s : Nat} (hs : s < 2147483648) : ((1103515245 : Int64) * lN s + 12345) &&& 2147483647 = lN (nxS s) := by
  rw [show (1103515245 : Int64) = lN 1103515245 from rfl, show (12345 : Int64) = lN 12345 from rfl, lN_mul, lN_add, la_m]
  unfold nxS
  have e : (lN (1103515245 * s + 12345)).toBitVec.toNat = 1103515245 * s + 12345 := by
    show (BitVec.ofNat 64 (1103515245 * s + 12345)).toNat = _
    rw [BitVec.toNat_ofNat]
    exact Nat.mod_eq_of_lt (by omega)
  rw [e]
theorem dl_i {s : Nat} {d : Int32} (hd : 1 ≤ d.toInt) {w q : Int64} {v : Int32} (hw : w = lN (nxS s) / 65536) (hq : q = w - w / d.toInt64 * d.toInt64) (hv : v = q.toInt32) : v = nI (dvN s d.toInt.toNat) := by
  obtain ⟨j, hj, rfl⟩ := nI_of (x := d) (by rw [Int32.lt_iff_toInt_lt]; show ¬ d.toInt < 0; omega)
  have h1 := nxS_lt s
  have e1 : (nI j).toInt.toNat = j := by rw [nI_toInt hj]; rfl
  rw [nI_toInt hj] at hd
  rw [show (65536 : Int64) = lN 65536 from rfl, pk_lDiv (by omega) (by decide) (by decide)] at hw
  rw [nI_l hj, hw, pk_lRem (by omega) (by omega) (by omega)] at hq
  rw [hv, hq, lN_i, e1]; rfl
theorem i_l {x : Int32} (h : 0 ≤ x.toInt) : x.toInt64 = lN x.toInt.toNat := by
  obtain ⟨j, hj, rfl⟩ := nI_of (x := x) (by rw [Int32.lt_iff_toInt_lt]; show ¬ x.toInt < 0; omega)
  rw [nI_l hj, nI_toInt hj]; rfl
theorem tk_row {g g' : Nat → Nat → Int32} {x1 x2 x3 x4 x5 : Int32} {F : Nat → Int32} {t : Nat} (h : tkR g g' x1 x2 x3 x4 x5) (ht : (g 31 0).toNatClampNeg = t) (a0 : x1 = F 0) (a1 : x2 = F 1) (a2 : x3 = F 2) (a3 : x4 = F 3) (a4 : x5 = F 4) : ∀ k, k < 5 → g' (k + 1) t = F k := fun k hk => by
  obtain ⟨-, h1, h2, h3, h4, h5⟩ := h
  rw [ht] at h1 h2 h3 h4 h5
  match k, hk with
  | 0, _ => rw [h1, pk_us]; exact a0
  | 1, _ => rw [h2, pk_us]; exact a1
  | 2, _ => rw [h3, pk_us]; exact a2
  | 3, _ => rw [h4, pk_us]; exact a3
  | 4, _ => rw [h5, pk_us]; exact a4
/-- m tariffs by a seed, offered behind n -/
def dwD (g : Nat → Nat → Int32) (n m s : Nat) : Prop := (∀ i, i < m → ∀ k, k < 5 → g (k + 1) (n + i) = dwF (sdN s i) k) ∧ Eq1 (g 6) (TR g (n + m))
theorem cB_le0 {p : Nat → Bool} (h : ¬ p 0 = true) : ∀ k, cB p (k + 1) ≤ k
  | 0 => by rw [cB_n h]; exact Nat.le_refl 0
  | k + 1 => by have q := cB_le0 h k; rw [cB]; split <;> omega
theorem nd_127 {S : Nat → Int32} {a b : Int} : cB (ndB S a b) 128 ≤ 127 := cB_le0 (fun z => by have y := (of_decide_eq_true z).1; omega) 127
set_option maxHeartbeats 4000000 in
set_option maxRecDepth 100000 in
theorem c_X7_see (l : Launch) (Z : YT) (hZ : MG Z) (g : Nat → Nat → Int32) (gl : Nat → Nat → Int64) (x1 : Int32) (x2 : Int32) (x3 : Int32) (hJ : MJ g) : Met l yX7_see (Cond.code yX7_see cX7_see 4 (some .int) :: wsL_law) ({ frames := 2, cells := 0, slots := 0, locals := 43 } : Room) (va_Pc [.ref (ya Z 0), .int x1, .int x2, .int x3] (MI Z g gl)) (va_Qi (fun (r : Int32) (u : (Nat → Nat → Int32) × (Nat → Nat → Int64)) => Fr [7, 8, 9, 38] g u.1 ∧ MJ u.1 ∧ gl = u.2 ∧ ((¬ (0 ≤ x1.toInt ∧ x1.toInt < (g 31 0).toInt ∧ 0 ≤ x2.toInt ∧ x2.toInt ≤ 63) ∧ r = -101 ∧ u.1 = g) ∨ ((0 ≤ x1.toInt ∧ x1.toInt < (g 31 0).toInt ∧ 0 ≤ x2.toInt ∧ x2.toInt ≤ 63) ∧ (g 38 0).toInt = 6 ∧ r = -104 ∧ u.1 = g) ∨ ((0 ≤ x1.toInt ∧ x1.toInt < (g 31 0).toInt ∧ 0 ≤ x2.toInt ∧ x2.toInt ≤ 63) ∧ (g 38 0).toInt < 6 ∧ r = g 38 0 + 1 ∧ u.1 = up2 (upR (upR (upR g 7 (upd (g 7) (g 38 0).toNatClampNeg x1)) 8 (upd (g 8) (g 38 0).toNatClampNeg x2)) 9 (upd (g 9) (g 38 0).toNatClampNeg x3)) 38 0 (g 38 0 + 1)))) (fun u t => va_P (yD Z) vwCl (mw Z u.1 u.2) t.heap) (yA Z)) 0 0 (yA Z) := by
  refine Met.ofW (cc := cX7_see) (maxL := 4) (ret := (some .int)) (by decide) rfl ?_
  intro p e s m args below meth c s₁ B hml hv
  obtain ⟨rfl, hI⟩ := hv
  have hx := B.exec
  have hb := B.bytes
  have hr := B.returns
  have hT : ∀ w ∈ wsL_law, w.before ([.ref (ya Z 0), .int x1, .int x2, .int x3] : List Value).toArray s = true := fun w h => atoms_spec (ws := (Cond.code yX7_see cX7_see 4 (some .int) :: wsL_law)) B.pre w (List.mem_cons_of_mem _ h)
  have hown : s.vm.findClass RX7 = some m.cls := findClass_of_methodNamed B.named
  have hlocks := B.notSynchronized
  have hK := hI.2
  have hP := hI.1
  have hS : va_S (yA Z) s.heap s.heap [] := va_S.rf
  have hF : Fr [7, 8, 9, 38] g g := Fr.rf
  have j38 := hJ.j38
  have hl := lv_entry ([.ref (ya Z 0), .int x1, .int x2, .int x3]) (n := 4) (Nat.le_of_ble_eq_true rfl)
  rw [lg_entry_eq]
  generalize (lg_sl ([.ref (ya Z 0), .int x1, .int x2, .int x3]) ++ List.replicate (4 - (lg_sl ([.ref (ya Z 0), .int x1, .int x2, .int x3])).length) Slot.unset).toArray = ls at hl ⊢
  have hl : lv_has ls 4 [(0, .ref (ya Z 0)), (1, .int x1), (2, .int x2), (3, .int x3)] := hl
  refine lv_aload_n hx hb dX7_see_0 rfl (lv_at hl 0 rfl) ?_
  refine lv_iload_n hx hb dX7_see_1 rfl (lv_at hl 1 rfl) ?_
  refine rd_ci (va_runV (As := [.int x1]) (rest := []) ⟨hx, hb, hml, hown, hT⟩ (c_X7_isTariff l Z hZ g gl x1 hJ) (cwV 1 hT (tb_V (fun _ h => h) (tr_22 _ (List.mem_of_getElem? (i := 2) rfl)) (tr_22 _ (List.mem_of_getElem? (i := 3) rfl)) (tr_22 _ (List.mem_of_getElem? (i := 4) rfl)) (tr_1 _ (List.mem_of_getElem? (i := 5) rfl)) (tr_22 _ (List.mem_of_getElem? (i := 5) rfl))) rfl rfl rfl (by decide +kernel) ⟨Nat.le_of_ble_eq_true rfl, Nat.le_of_ble_eq_true rfl⟩) ⟨fun a U f mk q => ⟨q.1, MI.blind f mk a q.2⟩, va_recv hK hP (ci := 7) (q0 := 0) rfl mw_0, fun U hU hW => ⟨rfl, hI.at hS hP hU hW⟩⟩ rfl rfl hl.1 rfl (lv_room (Nat.le_of_ble_eq_true rfl)) dX7_see_2 ⟨Nat.zero_le _, Nat.zero_le _⟩) (fun r_2 hr_2 => ?_)
  rcases hr_2 with ⟨rfl, b_2⟩ | ⟨rfl, b_2⟩
  · skip
    refine lv_if_eq (tgt := 15) hx hb dX7_see_5 (by decide) (fun c_5 => absurd c_5 (by decide)) (fun c_5 => ?_)
    refine lv_iload_n hx hb dX7_see_8 rfl (lv_at hl 2 rfl) ?_
    refine rd_ci (va_runS (As := [.int x2]) (rest := []) ⟨hx, hb, hml, hown, hT⟩ (c_X7_isQuantity l x2) (va_cwS 1 hT (tb_S (fun _ h => h) (tr_25 _ (List.mem_of_getElem? (i := 2) rfl)) (tr_25 _ (List.mem_of_getElem? (i := 3) rfl)) (tr_1 _ (List.mem_of_getElem? (i := 5) rfl)) (tr_25 _ (List.mem_of_getElem? (i := 4) rfl))) rfl rfl rfl (by decide +kernel) ⟨Nat.le_of_ble_eq_true rfl, Nat.le_of_ble_eq_true rfl⟩) ⟨fun _ _ _ _ q => q, fun U hU hW => ⟨rfl, trivial⟩⟩ rfl rfl hl.1 rfl (lv_room (Nat.le_of_ble_eq_true rfl)) dX7_see_9 ⟨Nat.zero_le _, Nat.zero_le _⟩) (fun r_9 hr_9 => ?_)
    rcases hr_9 with ⟨rfl, b_9⟩ | ⟨rfl, b_9⟩
    · skip
      refine lv_if_ne (tgt := 18) hx hb dX7_see_12 (by decide) (fun c_12 => ?_) (fun c_12 => absurd c_12 (by decide))
      refine lv_aload_n hx hb dX7_see_18 rfl (lv_at hl 0 rfl) ?_
      refine va_get (D := yD Z) (ci := 7) (v := .int (g 38 0)) (C := RX7) (T := TX7) (N := 31) hx hb hT inlX7 hown hK hP 0 mw_0 rfl 8 (by decide) (hT _ (tr_17 _ (List.mem_of_getElem? (i := 16) rfl))) (fun _ h9 => h9) rfl dX7_see_19 ?_
      refine lv_bipush (v := 6) hx hb dX7_see_22 (by decide) ?_
      refine lv_icmp_ne (tgt := 30) hx hb dX7_see_24 (by decide) (fun c_24 => ?_) (fun c_24 => ?_)
      · skip
        have i_24 := ti_nek rfl tk_6 c_24
        refine lv_aload_n hx hb dX7_see_30 rfl (lv_at hl 0 rfl) ?_
        refine va_get (D := yD Z) (ci := 7) (v := .ref (ya Z 7)) (C := RX7) (T := TX7) (N := 31) hx hb hT inlX7 hown hK hP 0 mw_0 rfl 9 (by decide) (hT _ (tr_4 _ (List.mem_of_getElem? (i := 19) rfl))) (fun _ h9 => h9) rfl dX7_see_31 ?_
        refine lv_aload_n hx hb dX7_see_34 rfl (lv_at hl 0 rfl) ?_
        refine va_get (D := yD Z) (ci := 7) (v := .int (g 38 0)) (C := RX7) (T := TX7) (N := 31) hx hb hT inlX7 hown hK hP 0 mw_0 rfl 8 (by decide) (hT _ (tr_17 _ (List.mem_of_getElem? (i := 16) rfl))) (fun _ h9 => h9) rfl dX7_see_35 ?_
        refine lv_iload_n hx hb dX7_see_38 rfl (lv_at hl 1 rfl) ?_
        have h_39 : vp_in (g 38 0) 6 := (ti_vp (by omega) (by omega))
        refine va_iast hx hb hK hP hZ.D hS 7 1 mw_7 rfl h_39 dX7_see_39 (fun H locs hP _ hS => ?_)
        replace hP := ms_7 hP
        have hF := hF.uR (i := 7) (r := upd (g 7) (g 38 0).toNatClampNeg x1) (by decide)
        have hJ := hJ.au (i := 7) (r := upd (g 7) (g 38 0).toNatClampNeg x1) (by decide)
        refine lv_aload_n hx hb dX7_see_40 rfl (lv_at hl 0 rfl) ?_
        refine va_get (D := yD Z) (ci := 7) (v := .ref (ya Z 8)) (C := RX7) (T := TX7) (N := 31) hx hb hT inlX7 hown hK hP 0 mw_0 rfl 10 (by decide) (hT _ (tr_4 _ (List.mem_of_getElem? (i := 20) rfl))) (fun _ h9 => h9) rfl dX7_see_41 ?_
        refine lv_aload_n hx hb dX7_see_44 rfl (lv_at hl 0 rfl) ?_
        refine va_get (D := yD Z) (ci := 7) (v := .int (g 38 0)) (C := RX7) (T := TX7) (N := 31) hx hb hT inlX7 hown hK hP 0 mw_0 rfl 8 (by decide) (hT _ (tr_17 _ (List.mem_of_getElem? (i := 16) rfl))) (fun _ h9 => h9) rfl dX7_see_45 ?_
        refine lv_iload_n hx hb dX7_see_48 rfl (lv_at hl 2 rfl) ?_
        have h_49 : vp_in (g 38 0) 6 := (ti_vp (by omega) (by omega))
        refine va_iast hx hb hK hP hZ.D hS 8 1 mw_8 rfl h_49 dX7_see_49 (fun H locs hP _ hS => ?_)
        replace hP := ms_8 hP
        have hF := hF.uR (i := 8) (r := upd (g 8) (g 38 0).toNatClampNeg x2) (by decide)
        have hJ := hJ.au (i := 8) (r := upd (g 8) (g 38 0).toNatClampNeg x2) (by decide)
        refine lv_aload_n hx hb dX7_see_50 rfl (lv_at hl 0 rfl) ?_
        refine va_get (D := yD Z) (ci := 7) (v := .ref (ya Z 9)) (C := RX7) (T := TX7) (N := 31) hx hb hT inlX7 hown hK hP 0 mw_0 rfl 11 (by decide) (hT _ (tr_4 _ (List.mem_of_getElem? (i := 21) rfl))) (fun _ h9 => h9) rfl dX7_see_51 ?_
        refine lv_aload_n hx hb dX7_see_54 rfl (lv_at hl 0 rfl) ?_
        refine va_get (D := yD Z) (ci := 7) (v := .int (g 38 0)) (C := RX7) (T := TX7) (N := 31) hx hb hT inlX7 hown hK hP 0 mw_0 rfl 8 (by decide) (hT _ (tr_17 _ (List.mem_of_getElem? (i := 16) rfl))) (fun _ h9 => h9) rfl dX7_see_55 ?_
        refine lv_iload_n hx hb dX7_see_58 rfl (lv_at hl 3 rfl) ?_
        have h_59 : vp_in (g 38 0) 6 := (ti_vp (by omega) (by omega))
        refine va_iast hx hb hK hP hZ.D hS 9 1 mw_9 rfl h_59 dX7_see_59 (fun H locs hP _ hS => ?_)
        replace hP := ms_9 hP
        have hF := hF.uR (i := 9) (r := upd (g 9) (g 38 0).toNatClampNeg x3) (by decide)
        have hJ := hJ.au (i := 9) (r := upd (g 9) (g 38 0).toNatClampNeg x3) (by decide)
        refine lv_aload_n hx hb dX7_see_60 rfl (lv_at hl 0 rfl) ?_
        refine lv_dup hx hb dX7_see_61 rfl ?_
        refine va_get (D := yD Z) (ci := 7) (v := .int (g 38 0)) (C := RX7) (T := TX7) (N := 31) hx hb hT inlX7 hown hK hP 0 mw_0 rfl 8 (by decide) (hT _ (tr_17 _ (List.mem_of_getElem? (i := 16) rfl))) (fun _ h9 => h9) rfl dX7_see_62 ?_
        refine lv_iconst (v := 1) hx hb dX7_see_65 (by decide) ?_
        refine lv_iadd hx hb dX7_see_66 ?_
        refine lv_topi (fun v_66 e_66 => ?_)
        have t_66 := ti_addk rfl tk_1 (by omega) (by omega) e_66
        refine va_put (D := yD Z) (ci := 7) (v := .int v_66) (ty := .int) (C := RX7) (T := TX7) (N := 31) hx hb hT inlX7 tyX7 tyX7_ok nmX7 hown hK hP hZ.D hS 0 mw_0 rfl 8 (by decide) (hT _ (tr_17 _ (List.mem_of_getElem? (i := 16) rfl))) (fun _ h9 => h9) rfl (by decide +kernel) rfl rfl (Nat.le_of_ble_eq_true rfl) dX7_see_67 (fun H locs hP _ hS => ?_)
        replace hP := mf_8 hP
        have hF := hF.u2 (i := 38) (k := 0) (v := v_66) (by decide)
        have hJ := hJ.p38 (v := v_66) (by first | omega | decide)
        refine lv_aload_n hx hb dX7_see_70 rfl (lv_at hl 0 rfl) ?_
        refine va_get (D := yD Z) (ci := 7) (v := .int v_66) (C := RX7) (T := TX7) (N := 31) hx hb hT inlX7 hown hK hP 0 mw_0 rfl 8 (by decide) (hT _ (tr_17 _ (List.mem_of_getElem? (i := 16) rfl))) (fun _ h9 => h9) rfl dX7_see_71 ?_
        exact W.iret (v := v_66) hx hb hr (fun t ht hW => ⟨⟨v_66, ((up2 (upR (upR (upR g 7 (upd (g 7) (g 38 0).toNatClampNeg x1)) 8 (upd (g 8) (g 38 0).toNatClampNeg x2)) 9 (upd (g 9) (g 38 0).toNatClampNeg x3)) 38 0 v_66), gl), rfl, ⟨hF, hJ, rfl, (by (try dsimp only); first | done | exact Or.inr (Or.inr ⟨by omega, by omega, e_66, by rw [e_66]⟩))⟩, by show va_P (yD Z) vwCl (mw Z (up2 (upR (upR (upR g 7 (upd (g 7) (g 38 0).toNatClampNeg x1)) 8 (upd (g 8) (g 38 0).toNatClampNeg x2)) 9 (upd (g 9) (g 38 0).toNatClampNeg x3)) 38 0 v_66) gl) t.heap; rw [ht]; exact hP⟩, hS.F ht⟩) hS.2.2 dX7_see_74
      · skip
        have i_24 := ti_eqk rfl tk_6 c_24
        refine lv_bipush (v := (-104)) hx hb dX7_see_27 (by decide) ?_
        exact W.iret (v := (-104)) hx hb hr (fun t ht hW => ⟨⟨(-104), (g, gl), rfl, ⟨hF, hJ, rfl, (by (try dsimp only); first | done | exact Or.inr (Or.inl ⟨by omega, by omega, rfl, rfl⟩))⟩, by show va_P (yD Z) vwCl (mw Z g gl) t.heap; rw [ht]; exact hP⟩, hS.F ht⟩) hS.2.2 dX7_see_29
    · skip
      refine lv_if_ne (tgt := 18) hx hb dX7_see_12 (by decide) (fun c_12 => absurd c_12 (by decide)) (fun c_12 => ?_)
      refine lv_bipush (v := (-101)) hx hb dX7_see_15 (by decide) ?_
      exact W.iret (v := (-101)) hx hb hr (fun t ht hW => ⟨⟨(-101), (g, gl), rfl, ⟨hF, hJ, rfl, (by (try dsimp only); first | done | exact Or.inl ⟨by omega, rfl, rfl⟩)⟩, by show va_P (yD Z) vwCl (mw Z g gl) t.heap; rw [ht]; exact hP⟩, hS.F ht⟩) hS.2.2 dX7_see_17
  · skip
    refine lv_if_eq (tgt := 15) hx hb dX7_see_5 (by decide) (fun c_5 => ?_) (fun c_5 => absurd c_5 (by decide))
    refine lv_bipush (v := (-101)) hx hb dX7_see_15 (by decide) ?_
    exact W.iret (v := (-101)) hx hb hr (fun t ht hW => ⟨⟨(-101), (g, gl), rfl, ⟨hF, hJ, rfl, (by (try dsimp only); first | done | exact Or.inl ⟨by omega, rfl, rfl⟩)⟩, by show va_P (yD Z) vwCl (mw Z g gl) t.heap; rw [ht]; exact hP⟩, hS.F ht⟩) hS.2.2 dX7_see_17
set_option maxHeartbeats 4000000 in
set_option maxRecDepth 100000 in
theorem c_X7_forget (l : Launch) (Z : YT) (hZ : MG Z) (g : Nat → Nat → Int32) (gl : Nat → Nat → Int64)  (hJ : MJ g) : Met l yX7_forget (Cond.code yX7_forget cX7_forget 2 (some .int) :: wsL_law) ({ frames := 0, cells := 0, slots := 0, locals := 0 } : Room) (va_Pc [.ref (ya Z 0)] (MI Z g gl)) (va_Qi (fun (r : Int32) (u : (Nat → Nat → Int32) × (Nat → Nat → Int64)) => Fr [38] g u.1 ∧ MJ u.1 ∧ gl = u.2 ∧ (r = g 38 0 ∧ u.1 = up2 g 38 0 0)) (fun u t => va_P (yD Z) vwCl (mw Z u.1 u.2) t.heap) (yA Z)) 0 0 (yA Z) := by
  refine Met.ofW (cc := cX7_forget) (maxL := 2) (ret := (some .int)) (by decide) rfl ?_
  intro p e s m args below meth c s₁ B hml hv
  obtain ⟨rfl, hI⟩ := hv
  have hx := B.exec
  have hb := B.bytes
  have hr := B.returns
  have hT : ∀ w ∈ wsL_law, w.before ([.ref (ya Z 0)] : List Value).toArray s = true := fun w h => atoms_spec (ws := (Cond.code yX7_forget cX7_forget 2 (some .int) :: wsL_law)) B.pre w (List.mem_cons_of_mem _ h)
  have hown : s.vm.findClass RX7 = some m.cls := findClass_of_methodNamed B.named
  have hlocks := B.notSynchronized
  have hK := hI.2
  have hP := hI.1
  have hS : va_S (yA Z) s.heap s.heap [] := va_S.rf
  have hF : Fr [38] g g := Fr.rf
  have hl := lv_entry ([.ref (ya Z 0)]) (n := 2) (Nat.le_of_ble_eq_true rfl)
  rw [lg_entry_eq]
  generalize (lg_sl ([.ref (ya Z 0)]) ++ List.replicate (2 - (lg_sl ([.ref (ya Z 0)])).length) Slot.unset).toArray = ls at hl ⊢
  have hl : lv_has ls 2 [(0, .ref (ya Z 0))] := hl
  refine lv_aload_n hx hb dX7_forget_0 rfl (lv_at hl 0 rfl) ?_
  refine va_get (D := yD Z) (ci := 7) (v := .int (g 38 0)) (C := RX7) (T := TX7) (N := 31) hx hb hT inlX7 hown hK hP 0 mw_0 rfl 8 (by decide) (hT _ (tr_17 _ (List.mem_of_getElem? (i := 16) rfl))) (fun _ h9 => h9) rfl dX7_forget_1 ?_
  refine lv_istore_n (lv' := [(1, .int (g 38 0)), (0, .ref (ya Z 0))]) hx hb dX7_forget_4 rfl hl (by decide) rfl (fun ls hl => ?_)
  refine lv_aload_n hx hb dX7_forget_5 rfl (lv_at hl 1 rfl) ?_
  refine lv_iconst (v := 0) hx hb dX7_forget_6 (by decide) ?_
  refine va_put (D := yD Z) (ci := 7) (v := .int 0) (ty := .int) (C := RX7) (T := TX7) (N := 31) hx hb hT inlX7 tyX7 tyX7_ok nmX7 hown hK hP hZ.D hS 0 mw_0 rfl 8 (by decide) (hT _ (tr_17 _ (List.mem_of_getElem? (i := 16) rfl))) (fun _ h9 => h9) rfl (by decide +kernel) rfl rfl (Nat.le_of_ble_eq_true rfl) dX7_forget_7 (fun H locs hP _ hS => ?_)
  replace hP := mf_8 hP
  have hF := hF.u2 (i := 38) (k := 0) (v := 0) (by decide)
  have hJ := hJ.p38 (v := 0) (by first | omega | decide)
  refine lv_iload_n hx hb dX7_forget_10 rfl (lv_at hl 0 rfl) ?_
  exact W.iret (v := (g 38 0)) hx hb hr (fun t ht hW => ⟨⟨(g 38 0), ((up2 g 38 0 0), gl), rfl, ⟨hF, hJ, rfl, (by (try dsimp only); first | done | exact ⟨rfl, rfl⟩)⟩, by show va_P (yD Z) vwCl (mw Z (up2 g 38 0 0) gl) t.heap; rw [ht]; exact hP⟩, hS.F ht⟩) hS.2.2 dX7_forget_11
set_option maxHeartbeats 4000000 in
set_option maxRecDepth 100000 in
theorem c_X7_draw (l : Launch) (Z : YT) (hZ : MG Z) (g : Nat → Nat → Int32) (gl : Nat → Nat → Int64) (x1 : Int32) (s9 : Nat) (hs9 : gl 47 0 = lN s9) (hs8 : s9 < 2147483648) (hd : 1 ≤ x1.toInt) (hJ : MJ g) : Met l yX7_draw (Cond.code yX7_draw cX7_draw 2 (some .int) :: wsL_law) ({ frames := 0, cells := 0, slots := 0, locals := 0 } : Room) (va_Pc [.ref (ya Z 0), .int x1] (MI Z g gl)) (va_Qi (fun (r : Int32) (u : (Nat → Nat → Int32) × (Nat → Nat → Int64)) => Fr [] g u.1 ∧ MJ u.1 ∧ (r = nI (dvN s9 x1.toInt.toNat) ∧ u.2 47 0 = lN (nxS s9))) (fun u t => va_P (yD Z) vwCl (mw Z u.1 u.2) t.heap) (yA Z)) 0 0 (yA Z) := by
  refine Met.ofW (cc := cX7_draw) (maxL := 2) (ret := (some .int)) (by decide) rfl ?_
  intro p e s m args below meth c s₁ B hml hv
  obtain ⟨rfl, hI⟩ := hv
  have hx := B.exec
  have hb := B.bytes
  have hr := B.returns
  have hT : ∀ w ∈ wsL_law, w.before ([.ref (ya Z 0), .int x1] : List Value).toArray s = true := fun w h => atoms_spec (ws := (Cond.code yX7_draw cX7_draw 2 (some .int) :: wsL_law)) B.pre w (List.mem_cons_of_mem _ h)
  have hown : s.vm.findClass RX7 = some m.cls := findClass_of_methodNamed B.named
  have hlocks := B.notSynchronized
  have hK := hI.2
  have hP := hI.1
  have hS : va_S (yA Z) s.heap s.heap [] := va_S.rf
  have hF : Fr [] g g := Fr.rf
  have hl := lv_entry ([.ref (ya Z 0), .int x1]) (n := 2) (Nat.le_of_ble_eq_true rfl)
  rw [lg_entry_eq]
  generalize (lg_sl ([.ref (ya Z 0), .int x1]) ++ List.replicate (2 - (lg_sl ([.ref (ya Z 0), .int x1])).length) Slot.unset).toArray = ls at hl ⊢
  have hl : lv_has ls 2 [(0, .ref (ya Z 0)), (1, .int x1)] := hl
  refine lv_aload_n hx hb dX7_draw_0 rfl (lv_at hl 0 rfl) ?_
  refine lv_ldc2 (v := 1103515245) hx hb hown (hT _ (tr_35 _ (List.mem_of_getElem? (i := 3) rfl))) dX7_draw_1 ?_
  refine lv_aload_n hx hb dX7_draw_4 rfl (lv_at hl 0 rfl) ?_
  refine va_get (D := yD Z) (ci := 7) (v := .long (gl 47 0)) (C := RX7) (T := TX7) (N := 31) hx hb hT inlX7 hown hK hP 0 mw_0 rfl 17 (by decide) (hT _ (tr_34 _ (List.mem_of_getElem? (i := 18) rfl))) (fun _ h9 => h9) rfl dX7_draw_5 ?_
  refine lv_lmul hx hb dX7_draw_8 ?_
  refine lv_topl (fun v_8 e_8 => ?_)
  refine lv_ldc2 (v := 12345) hx hb hown (hT _ (tr_35 _ (List.mem_of_getElem? (i := 4) rfl))) dX7_draw_9 ?_
  refine lv_ladd hx hb dX7_draw_12 ?_
  refine lv_topl (fun v_12 e_12 => ?_)
  refine lv_ldc2 (v := 2147483647) hx hb hown (hT _ (tr_27 _ (List.mem_of_getElem? (i := 21) rfl))) dX7_draw_13 ?_
  refine lv_land hx hb dX7_draw_16 ?_
  refine lv_topl (fun v_16 e_16 => ?_)
  have q16 : v_16 = lN (nxS s9) := by rw [e_16, e_12, e_8, hs9]; exact nx_l hs8
  refine va_put (D := yD Z) (ci := 7) (v := .long v_16) (ty := .long) (C := RX7) (T := TX7) (N := 31) hx hb hT inlX7 tyX7 tyX7_ok nmX7 hown hK hP hZ.D hS 0 mw_0 rfl 17 (by decide) (hT _ (tr_34 _ (List.mem_of_getElem? (i := 18) rfl))) (fun _ h9 => h9) rfl (by decide +kernel) rfl rfl (Nat.le_of_ble_eq_true rfl) dX7_draw_17 (fun H locs hP _ hS => ?_)
  replace hP := mf_17 hP
  refine lv_aload_n hx hb dX7_draw_20 rfl (lv_at hl 0 rfl) ?_
  refine va_get (D := yD Z) (ci := 7) (v := .long v_16) (C := RX7) (T := TX7) (N := 31) hx hb hT inlX7 hown hK hP 0 mw_0 rfl 17 (by decide) (hT _ (tr_34 _ (List.mem_of_getElem? (i := 18) rfl))) (fun _ h9 => h9) rfl dX7_draw_21 ?_
  refine lv_ldc2 (v := 65536) hx hb hown (hT _ (tr_35 _ (List.mem_of_getElem? (i := 5) rfl))) dX7_draw_24 ?_
  refine lv_ldiv hx hb dX7_draw_27 (by decide) ?_
  refine lv_topl (fun v_27 e_27 => ?_)
  refine lv_iload_n hx hb dX7_draw_28 rfl (lv_at hl 1 rfl) ?_
  refine lv_i2l hx hb dX7_draw_29 rfl ?_
  refine lv_topl (fun v_29 e_29 => ?_)
  refine lv_lrem hx hb dX7_draw_30 (l_ne e_29 hd) ?_
  refine lv_topl (fun v_30 e_30 => ?_)
  refine lv_l2i hx hb dX7_draw_31 rfl ?_
  refine lv_topi (fun v_31 e_31 => ?_)
  exact W.iret (v := v_31) hx hb hr (fun t ht hW => ⟨⟨v_31, (g, (upL gl 47 (fun _ => v_16))), rfl, ⟨hF, hJ, (by (try dsimp only); first | done | exact ⟨dl_i hd (w := v_27) (q := v_30) (by rw [e_27, q16]) (by rw [e_30, e_29]) e_31, q16⟩)⟩, by show va_P (yD Z) vwCl (mw Z g (upL gl 47 (fun _ => v_16))) t.heap; rw [ht]; exact hP⟩, hS.F ht⟩) hS.2.2 dX7_draw_32
set_option maxHeartbeats 4000000 in
set_option maxRecDepth 100000 in
theorem c_X7_drawOne (l : Launch) (Z : YT) (hZ : MG Z) (g : Nat → Nat → Int32) (gl : Nat → Nat → Int64) (s9 : Nat) (hs9 : gl 47 0 = lN s9) (hs8 : s9 < 2147483648) (ht : (g 31 0).toInt < 70) (hE : Eq1 (g 6) (TR g (g 31 0).toInt.toNat)) (hJ : MJ g) : Met l yX7_drawOne (Cond.code yX7_drawOne cX7_drawOne 5 none :: wsL_law) ({ frames := 7, cells := 0, slots := 0, locals := 171 } : Room) (va_Pc [.ref (ya Z 0)] (MI Z g gl)) (va_Qv (fun (u : (Nat → Nat → Int32) × (Nat → Nat → Int64)) => Fr [1, 2, 3, 4, 5, 6, 31] g u.1 ∧ MJ u.1 ∧ ((u.1 31 0).toInt = (g 31 0).toInt + 1 ∧ rwL g u.1 (g 31 0).toInt ∧ (∀ k, k < 5 → u.1 (k + 1) (g 31 0).toInt.toNat = dwF s9 k) ∧ u.2 47 0 = lN (nx5 s9) ∧ Eq1 (u.1 6) (TR u.1 ((g 31 0).toInt.toNat + 1)))) (fun u t => va_P (yD Z) vwCl (mw Z u.1 u.2) t.heap) (yA Z)) 0 0 (yA Z) := by
  refine Met.ofW (cc := cX7_drawOne) (maxL := 5) (ret := none) (by decide) rfl ?_
  intro p e s m args below meth c s₁ B hml hv
  obtain ⟨rfl, hI⟩ := hv
  have hx := B.exec
  have hb := B.bytes
  have hr := B.returns
  have hT : ∀ w ∈ wsL_law, w.before ([.ref (ya Z 0)] : List Value).toArray s = true := fun w h => atoms_spec (ws := (Cond.code yX7_drawOne cX7_drawOne 5 none :: wsL_law)) B.pre w (List.mem_cons_of_mem _ h)
  have hown : s.vm.findClass RX7 = some m.cls := findClass_of_methodNamed B.named
  have hlocks := B.notSynchronized
  have hK := hI.2
  have hP := hI.1
  have hS : va_S (yA Z) s.heap s.heap [] := va_S.rf
  have hF : Fr [1, 2, 3, 4, 5, 6, 31] g g := Fr.rf
  have j31 := hJ.j31
  have hl := lv_entry ([.ref (ya Z 0)]) (n := 5) (Nat.le_of_ble_eq_true rfl)
  rw [lg_entry_eq]
  generalize (lg_sl ([.ref (ya Z 0)]) ++ List.replicate (5 - (lg_sl ([.ref (ya Z 0)])).length) Slot.unset).toArray = ls at hl ⊢
  have hl : lv_has ls 5 [(0, .ref (ya Z 0))] := hl
  refine lv_aload_n hx hb dX7_drawOne_0 rfl (lv_at hl 0 rfl) ?_
  refine lv_iconst (v := 5) hx hb dX7_drawOne_1 (by decide) ?_
  refine va_calli (va_runV (As := [.int 5]) (rest := []) ⟨hx, hb, hml, hown, hT⟩ (c_X7_draw l Z hZ g gl 5 s9 hs9 hs8 (by decide) hJ) (cwV 1 hT (tb_V (fun _ h => h) (tr_34 _ (List.mem_of_getElem? (i := 23) rfl)) (tr_35 _ (List.mem_of_getElem? (i := 0) rfl)) (tr_35 _ (List.mem_of_getElem? (i := 1) rfl)) (tr_1 _ (List.mem_of_getElem? (i := 5) rfl)) (tr_35 _ (List.mem_of_getElem? (i := 2) rfl))) rfl rfl rfl (by decide +kernel) ⟨Nat.le_of_ble_eq_true rfl, Nat.le_of_ble_eq_true rfl⟩) ⟨fun a U f mk q => ⟨q.1, MI.blind f mk a q.2⟩, va_recv hK hP (ci := 7) (q0 := 0) rfl mw_0, fun U hU hW => ⟨rfl, hI.at hS hP hU hW⟩⟩ rfl rfl hl.1 rfl (lv_room (Nat.le_of_ble_eq_true rfl)) dX7_drawOne_2 ⟨Nat.zero_le _, Nat.zero_le _⟩) hS (fun q _ h => h) (fun q h => h) (fun r_2 u_2 t_2 H locs ht_2 _ hw_2 hB_2 _ _ hS => ?_)
  obtain ⟨g_2, gl_2⟩ := u_2
  have hP : va_P (yD Z) vwCl (mw Z g_2 gl_2) H := ht_2 ▸ hB_2
  obtain ⟨hf_2, hJ, hr_2⟩ := hw_2
  have hF := hF.tr hf_2 (by decide)
  dsimp only at hf_2 hJ hF hr_2
  have k2 : gl_2 47 0 = lN (nxS s9) := hr_2.2
  have n2 := congrArg Int32.toInt (congrFun (hf_2 31 (by decide)) 0)
  (try simp only [tk_5] at hr_2)
  refine lv_istore_n (lv' := [(1, .int r_2), (0, .ref (ya Z 0))]) hx hb dX7_drawOne_5 rfl hl (by decide) rfl (fun ls hl => ?_)
  refine lv_aload_n hx hb dX7_drawOne_6 rfl (lv_at hl 1 rfl) ?_
  refine lv_bipush (v := 19) hx hb dX7_drawOne_7 (by decide) ?_
  refine va_calli (va_runV (As := [.int 19]) (rest := []) ⟨hx, hb, hml, hown, hT⟩ (c_X7_draw l Z hZ g_2 gl_2 19 (nxS s9) k2 (nxS_lt _) (by decide) hJ) (cwV 1 hT (tb_V (fun _ h => h) (tr_34 _ (List.mem_of_getElem? (i := 23) rfl)) (tr_35 _ (List.mem_of_getElem? (i := 0) rfl)) (tr_35 _ (List.mem_of_getElem? (i := 1) rfl)) (tr_1 _ (List.mem_of_getElem? (i := 5) rfl)) (tr_35 _ (List.mem_of_getElem? (i := 2) rfl))) rfl rfl rfl (by decide +kernel) ⟨Nat.le_of_ble_eq_true rfl, Nat.le_of_ble_eq_true rfl⟩) ⟨fun a U f mk q => ⟨q.1, MI.blind f mk a q.2⟩, va_recv hK hP (ci := 7) (q0 := 0) rfl mw_0, fun U hU hW => ⟨rfl, hI.at hS hP hU hW⟩⟩ rfl rfl hl.1 rfl (lv_room (Nat.le_of_ble_eq_true rfl)) dX7_drawOne_9 ⟨Nat.zero_le _, Nat.zero_le _⟩) hS (fun q _ h => h) (fun q h => h) (fun r_9 u_9 t_9 H locs ht_9 _ hw_9 hB_9 _ _ hS => ?_)
  obtain ⟨g_9, gl_9⟩ := u_9
  have hP : va_P (yD Z) vwCl (mw Z g_9 gl_9) H := ht_9 ▸ hB_9
  obtain ⟨hf_9, hJ, hr_9⟩ := hw_9
  have hF := hF.tr hf_9 (by decide)
  dsimp only at hf_9 hJ hF hr_9
  have k9 : gl_9 47 0 = lN (nx2 s9) := hr_9.2
  have n9 := congrArg Int32.toInt (congrFun (hf_9 31 (by decide)) 0)
  (try simp only [tk_19] at hr_9)
  refine lv_bipush (v := 9) hx hb dX7_drawOne_12 (by decide) ?_
  refine lv_isub hx hb dX7_drawOne_14 ?_
  refine lv_topi (fun v_14 e_14 => ?_)
  refine lv_istore_n (lv' := [(2, .int v_14), (1, .int r_2), (0, .ref (ya Z 0))]) hx hb dX7_drawOne_15 rfl hl (by decide) rfl (fun ls hl => ?_)
  refine lv_aload_n hx hb dX7_drawOne_16 rfl (lv_at hl 2 rfl) ?_
  refine lv_sipush (v := 199) hx hb dX7_drawOne_17 (by decide) ?_
  refine va_calli (va_runV (As := [.int 199]) (rest := []) ⟨hx, hb, hml, hown, hT⟩ (c_X7_draw l Z hZ g_9 gl_9 199 (nx2 s9) k9 (nxS_lt _) (by decide) hJ) (cwV 1 hT (tb_V (fun _ h => h) (tr_34 _ (List.mem_of_getElem? (i := 23) rfl)) (tr_35 _ (List.mem_of_getElem? (i := 0) rfl)) (tr_35 _ (List.mem_of_getElem? (i := 1) rfl)) (tr_1 _ (List.mem_of_getElem? (i := 5) rfl)) (tr_35 _ (List.mem_of_getElem? (i := 2) rfl))) rfl rfl rfl (by decide +kernel) ⟨Nat.le_of_ble_eq_true rfl, Nat.le_of_ble_eq_true rfl⟩) ⟨fun a U f mk q => ⟨q.1, MI.blind f mk a q.2⟩, va_recv hK hP (ci := 7) (q0 := 0) rfl mw_0, fun U hU hW => ⟨rfl, hI.at hS hP hU hW⟩⟩ rfl rfl hl.1 rfl (lv_room (Nat.le_of_ble_eq_true rfl)) dX7_drawOne_20 ⟨Nat.zero_le _, Nat.zero_le _⟩) hS (fun q _ h => h) (fun q h => h) (fun r_20 u_20 t_20 H locs ht_20 _ hw_20 hB_20 _ _ hS => ?_)
  obtain ⟨g_20, gl_20⟩ := u_20
  have hP : va_P (yD Z) vwCl (mw Z g_20 gl_20) H := ht_20 ▸ hB_20
  obtain ⟨hf_20, hJ, hr_20⟩ := hw_20
  have hF := hF.tr hf_20 (by decide)
  dsimp only at hf_20 hJ hF hr_20
  have k20 : gl_20 47 0 = lN (nx3 s9) := hr_20.2
  have n20 := congrArg Int32.toInt (congrFun (hf_20 31 (by decide)) 0)
  (try simp only [tk_199] at hr_20)
  refine lv_bipush (v := 99) hx hb dX7_drawOne_23 (by decide) ?_
  refine lv_isub hx hb dX7_drawOne_25 ?_
  refine lv_topi (fun v_25 e_25 => ?_)
  refine lv_istore_n (lv' := [(3, .int v_25), (2, .int v_14), (1, .int r_2), (0, .ref (ya Z 0))]) hx hb dX7_drawOne_26 rfl hl (by decide) rfl (fun ls hl => ?_)
  refine lv_aload_n hx hb dX7_drawOne_27 rfl (lv_at hl 3 rfl) ?_
  refine lv_bipush (v := 64) hx hb dX7_drawOne_28 (by decide) ?_
  refine va_calli (va_runV (As := [.int 64]) (rest := []) ⟨hx, hb, hml, hown, hT⟩ (c_X7_draw l Z hZ g_20 gl_20 64 (nx3 s9) k20 (nxS_lt _) (by decide) hJ) (cwV 1 hT (tb_V (fun _ h => h) (tr_34 _ (List.mem_of_getElem? (i := 23) rfl)) (tr_35 _ (List.mem_of_getElem? (i := 0) rfl)) (tr_35 _ (List.mem_of_getElem? (i := 1) rfl)) (tr_1 _ (List.mem_of_getElem? (i := 5) rfl)) (tr_35 _ (List.mem_of_getElem? (i := 2) rfl))) rfl rfl rfl (by decide +kernel) ⟨Nat.le_of_ble_eq_true rfl, Nat.le_of_ble_eq_true rfl⟩) ⟨fun a U f mk q => ⟨q.1, MI.blind f mk a q.2⟩, va_recv hK hP (ci := 7) (q0 := 0) rfl mw_0, fun U hU hW => ⟨rfl, hI.at hS hP hU hW⟩⟩ rfl rfl hl.1 rfl (lv_room (Nat.le_of_ble_eq_true rfl)) dX7_drawOne_30 ⟨Nat.zero_le _, Nat.zero_le _⟩) hS (fun q _ h => h) (fun q h => h) (fun r_30 u_30 t_30 H locs ht_30 _ hw_30 hB_30 _ _ hS => ?_)
  obtain ⟨g_30, gl_30⟩ := u_30
  have hP : va_P (yD Z) vwCl (mw Z g_30 gl_30) H := ht_30 ▸ hB_30
  obtain ⟨hf_30, hJ, hr_30⟩ := hw_30
  have hF := hF.tr hf_30 (by decide)
  dsimp only at hf_30 hJ hF hr_30
  have k30 : gl_30 47 0 = lN (nx4 s9) := hr_30.2
  have n30 := congrArg Int32.toInt (congrFun (hf_30 31 (by decide)) 0)
  have i30 : r_30.toInt = (dvN (nx3 s9) 64 : Int) := by rw [hr_30.1]; exact nI_toInt (by have q := dv_lt (s := nx3 s9) (d := 64) (by decide); show dvN (nx3 s9) 64 < _; omega)
  have l30 := dv_lt (s := nx3 s9) (d := 64) (by decide)
  (try simp only [tk_64] at hr_30)
  refine lv_istore (lv' := [(4, .int r_30), (3, .int v_25), (2, .int v_14), (1, .int r_2), (0, .ref (ya Z 0))]) hx hb dX7_drawOne_33 hl (by decide) rfl (fun ls hl => ?_)
  refine lv_aload_n hx hb dX7_drawOne_35 rfl (lv_at hl 4 rfl) ?_
  refine lv_iload_n hx hb dX7_drawOne_36 rfl (lv_at hl 3 rfl) ?_
  refine lv_iload_n hx hb dX7_drawOne_37 rfl (lv_at hl 2 rfl) ?_
  refine lv_iload_n hx hb dX7_drawOne_38 rfl (lv_at hl 1 rfl) ?_
  refine lv_iload hx hb dX7_drawOne_39 (lv_at hl 0 rfl) ?_
  refine lv_iload hx hb dX7_drawOne_41 (lv_at hl 0 rfl) ?_
  refine lv_aload_n hx hb dX7_drawOne_43 rfl (lv_at hl 4 rfl) ?_
  refine lv_bipush (v := 64) hx hb dX7_drawOne_44 (by decide) ?_
  refine lv_iload hx hb dX7_drawOne_46 (lv_at hl 0 rfl) ?_
  refine lv_isub hx hb dX7_drawOne_48 ?_
  refine lv_topi (fun v_48 e_48 => ?_)
  have t_48 := ti_subk tk_64 rfl (by omega) (by omega) e_48
  refine va_calli (va_runV (As := [.int v_48]) (rest := [.int r_30, .int r_30, .int v_25, .int v_14, .int r_2, .ref (ya Z 0)]) ⟨hx, hb, hml, hown, hT⟩ (c_X7_draw l Z hZ g_30 gl_30 v_48 (nx4 s9) k30 (nxS_lt _) (by omega) hJ) (cwV 1 hT (tb_V (fun _ h => h) (tr_34 _ (List.mem_of_getElem? (i := 23) rfl)) (tr_35 _ (List.mem_of_getElem? (i := 0) rfl)) (tr_35 _ (List.mem_of_getElem? (i := 1) rfl)) (tr_1 _ (List.mem_of_getElem? (i := 5) rfl)) (tr_35 _ (List.mem_of_getElem? (i := 2) rfl))) rfl rfl rfl (by decide +kernel) ⟨Nat.le_of_ble_eq_true rfl, Nat.le_of_ble_eq_true rfl⟩) ⟨fun a U f mk q => ⟨q.1, MI.blind f mk a q.2⟩, va_recv hK hP (ci := 7) (q0 := 0) rfl mw_0, fun U hU hW => ⟨rfl, hI.at hS hP hU hW⟩⟩ rfl rfl hl.1 rfl (lv_room (Nat.le_of_ble_eq_true rfl)) dX7_drawOne_49 ⟨Nat.zero_le _, Nat.zero_le _⟩) hS (fun q _ h => h) (fun q h => h) (fun r_49 u_49 t_49 H locs ht_49 _ hw_49 hB_49 _ _ hS => ?_)
  obtain ⟨g_49, gl_49⟩ := u_49
  have hP : va_P (yD Z) vwCl (mw Z g_49 gl_49) H := ht_49 ▸ hB_49
  obtain ⟨hf_49, hJ, hr_49⟩ := hw_49
  have hF := hF.tr hf_49 (by decide)
  dsimp only at hf_49 hJ hF hr_49
  have k49 : gl_49 47 0 = lN (nx5 s9) := hr_49.2
  have n49 := congrArg Int32.toInt (congrFun (hf_49 31 (by decide)) 0)
  have l49 : r_49.toInt = (dvN (nx4 s9) v_48.toInt.toNat : Int) ∧ dvN (nx4 s9) v_48.toInt.toNat < v_48.toInt.toNat := by have q := dv_lt (s := nx4 s9) (d := v_48.toInt.toNat) (by omega); exact ⟨by rw [hr_49.1]; exact nI_toInt (by omega), q⟩
  refine lv_iadd hx hb dX7_drawOne_52 ?_
  refine lv_topi (fun v_52 e_52 => ?_)
  have t_52 := ti_addk rfl rfl (by omega) (by omega) e_52
  have a0 : r_2 = dwF s9 0 := hr_2.1
  have a1 : v_14 = dwF s9 1 := by rw [e_14, hr_9.1]; rfl
  have a2 : v_25 = dwF s9 2 := by rw [e_25, hr_20.1]; rfl
  have a3 : r_30 = dwF s9 3 := hr_30.1
  have a4 : v_52 = dwF s9 4 := by rw [e_52, hr_49.1, hr_30.1, show v_48.toInt.toNat = 64 - dvN (nx3 s9) 64 by omega]; rfl
  refine va_callv (va_runV (As := [.int r_2, .int v_14, .int v_25, .int r_30, .int v_52]) (rest := []) ⟨hx, hb, hml, hown, hT⟩ (c_X7_take l Z hZ g_49 gl_49 r_2 v_14 v_25 r_30 v_52 (by rw [a3]; exact (dw_fl s9).1) (by rw [a4]; exact (dw_fl s9).2.2) (by omega) hJ) (cwV 5 hT (tb_V (fun _ h => h) (tr_17 _ (List.mem_of_getElem? (i := 21) rfl)) (tr_17 _ (List.mem_of_getElem? (i := 22) rfl)) (tr_17 _ (List.mem_of_getElem? (i := 23) rfl)) (tr_1 _ (List.mem_of_getElem? (i := 5) rfl)) (tr_18 _ (List.mem_of_getElem? (i := 0) rfl))) rfl rfl rfl (by decide +kernel) ⟨Nat.le_of_ble_eq_true rfl, Nat.le_of_ble_eq_true rfl⟩) ⟨fun a U f mk q => ⟨q.1, MI.blind f mk a q.2⟩, va_recv hK hP (ci := 7) (q0 := 0) rfl mw_0, fun U hU hW => ⟨rfl, hI.at hS hP hU hW⟩⟩ rfl rfl hl.1 rfl (lv_room (Nat.le_of_ble_eq_true rfl)) dX7_drawOne_53 ⟨Nat.zero_le _, Nat.zero_le _⟩) hS (fun q _ h => h) (fun q h => h) (fun u_53 t_53 H locs ht_53 _ hw_53 hB_53 _ _ hS => ?_)
  obtain ⟨g_53, gl_53⟩ := u_53
  have hP : va_P (yD Z) vwCl (mw Z g_53 gl_53) H := ht_53 ▸ hB_53
  obtain ⟨hf_53, hJ, el_53, hr_53⟩ := hw_53
  have hF := hF.tr hf_53 (by decide)
  dsimp only at hf_53 hJ hF el_53 hr_53
  subst el_53
  exact W.vret hx hb hr (fun t ht hW => ⟨⟨(g_53, gl_49), rfl, ⟨hF, hJ, (by (try dsimp only); have e49 : g_49 = g := funext (fun i => by rw [hf_49 i (by simp), hf_30 i (by simp), hf_20 i (by simp), hf_9 i (by simp), hf_2 i (by simp)]); rw [e49] at hr_53; obtain ⟨tk, t6⟩ := hr_53; exact ⟨by rw [tk.1]; exact ti_addk (x := g 31 0) rfl tk_1 (by omega) (by omega) rfl, tk.rows (by omega), tk_row (F := dwF s9) tk rfl a0 a1 a2 a3 a4, k49, TR_take (g := g) (x := g 31 0) (n := (g 31 0).toInt.toNat) (by omega) (Or.inl trivial) rfl (nI_ek (by omega)) (fun t ht k hk => (tk.rows (by omega) t (by omega) k hk).symm) t6 hE⟩)⟩, by show va_P (yD Z) vwCl (mw Z g_53 gl_49) t.heap; rw [ht]; exact hP⟩, hS.F ht⟩) hS.2.2 dX7_drawOne_56
set_option maxHeartbeats 4000000 in
set_option maxRecDepth 100000 in
theorem c_X7_drawnNow (l : Launch) (Z : YT) (hZ : MG Z) (g : Nat → Nat → Int32) (gl : Nat → Nat → Int64) (x1 : Int32) (x2 : Int32) (x3 : Int32) (h40 : (g 31 0).toInt ≤ 40) (h1 : 1 ≤ x1.toInt ∧ x1.toInt ≤ 30) (h2 : 0 ≤ x2.toInt) (hE : Eq1 (g 6) (TR g (g 31 0).toInt.toNat)) (hJ : MJ g) : Met l yX7_drawnNow (Cond.code yX7_drawnNow cX7_drawnNow 8 (some .int) :: wsL_law) ({ frames := 8, cells := 0, slots := 0, locals := 195 } : Room) (va_Pc [.ref (ya Z 0), .int x1, .int x2, .int x3] (MI Z g gl)) (va_Qi (fun (r : Int32) (u : (Nat → Nat → Int32) × (Nat → Nat → Int64)) => Fr [1, 2, 3, 4, 5, 6, 31] g u.1 ∧ MJ u.1 ∧ (((∃ R2, MJ R2 ∧ rwL g R2 (g 31 0).toInt ∧ dwD R2 (g 31 0).toInt.toNat x1.toInt.toNat x2.toInt.toNat ∧ ((x3.toInt = 0 ∧ r.toInt = (cB (qnB (mC R2) (g 31 0).toInt 69) 64 : Int)) ∨ (x3.toInt = 1 ∧ r.toInt = (cB (ndB (R2 6) (g 31 0).toInt 69) 128 : Int)) ∨ ((¬ x3.toInt = 0 ∧ ¬ x3.toInt = 1) ∧ r = nI (sdN x2.toInt.toNat x1.toInt.toNat)))) ∧ u.1 31 0 = g 31 0 ∧ rwL g u.1 (g 31 0).toInt ∧ Eq1 (u.1 6) (TR u.1 (g 31 0).toInt.toNat)) ∧ (u.1 31 0).toInt ≤ 40)) (fun u t => va_P (yD Z) vwCl (mw Z u.1 u.2) t.heap) (yA Z)) 0 0 (yA Z) := by
  refine Met.ofW (cc := cX7_drawnNow) (maxL := 8) (ret := (some .int)) (by decide) rfl ?_
  intro p e s m args below meth c s₁ B hml hv
  obtain ⟨rfl, hI⟩ := hv
  have hx := B.exec
  have hb := B.bytes
  have hr := B.returns
  have hT : ∀ w ∈ wsL_law, w.before ([.ref (ya Z 0), .int x1, .int x2, .int x3] : List Value).toArray s = true := fun w h => atoms_spec (ws := (Cond.code yX7_drawnNow cX7_drawnNow 8 (some .int) :: wsL_law)) B.pre w (List.mem_cons_of_mem _ h)
  have hown : s.vm.findClass RX7 = some m.cls := findClass_of_methodNamed B.named
  have hlocks := B.notSynchronized
  have hK := hI.2
  have hP := hI.1
  have hS : va_S (yA Z) s.heap s.heap [] := va_S.rf
  have hF : Fr [1, 2, 3, 4, 5, 6, 31] g g := Fr.rf
  have j31 := hJ.j31
  have hl := lv_entry ([.ref (ya Z 0), .int x1, .int x2, .int x3]) (n := 8) (Nat.le_of_ble_eq_true rfl)
  rw [lg_entry_eq]
  generalize (lg_sl ([.ref (ya Z 0), .int x1, .int x2, .int x3]) ++ List.replicate (8 - (lg_sl ([.ref (ya Z 0), .int x1, .int x2, .int x3])).length) Slot.unset).toArray = ls at hl ⊢
  have hl : lv_has ls 8 [(0, .ref (ya Z 0)), (1, .int x1), (2, .int x2), (3, .int x3)] := hl
  have L77 : ∀ (n : Nat) (z4 : Int32) (z5 : Int32) (z6 : Int32) (z7 : Int32) (g1 : Nat → Nat → Int32) (gl1 : Nat → Nat → Int64) (H : Heap) (locs : List Loc) (hP : va_P (yD Z) vwCl (mw Z g1 gl1) H) (hF : Fr [1, 2, 3, 4, 5, 6, 31] g g1) (hJ : MJ g1) (hS : va_S (yA Z) s.heap H locs) (hz4 : z4 = g 31 0) (hR9 : rwL g g1 (g 31 0).toInt) (hW9 : dwD g1 (g 31 0).toInt.toNat x1.toInt.toNat x2.toInt.toNat) (hS9 : gl1 47 0 = lN (sdN x2.toInt.toNat x1.toInt.toNat)) (hQ9 : z5.toInt = (cB (qnB (mC g1) (g 31 0).toInt 69) 64 : Int)) (h7 : 1 ≤ z7.toInt ∧ z7.toInt ≤ 128) (hC : z6.toInt = (cB (ndB (g1 6) (g 31 0).toInt 69) z7.toInt.toNat : Int)) (hn : (128 - z7.toInt).toNat < n) (ls : Array Slot) (hl : lv_has ls 8 [(0, .ref (ya Z 0)), (1, .int x1), (2, .int x2), (3, .int x3), (4, .int z4), (5, .int z5), (6, .int z6), (7, .int z7)]), W p l e ({ frames := 8, cells := 0, slots := 0, locals := 195 } : Room) s m ([.ref (ya Z 0), .int x1, .int x2, .int x3] : List Value).toArray below meth c H locs 0 0 (MQ below (va_Qi (fun (r : Int32) (u : (Nat → Nat → Int32) × (Nat → Nat → Int64)) => Fr [1, 2, 3, 4, 5, 6, 31] g u.1 ∧ MJ u.1 ∧ (((∃ R2, MJ R2 ∧ rwL g R2 (g 31 0).toInt ∧ dwD R2 (g 31 0).toInt.toNat x1.toInt.toNat x2.toInt.toNat ∧ ((x3.toInt = 0 ∧ r.toInt = (cB (qnB (mC R2) (g 31 0).toInt 69) 64 : Int)) ∨ (x3.toInt = 1 ∧ r.toInt = (cB (ndB (R2 6) (g 31 0).toInt 69) 128 : Int)) ∨ ((¬ x3.toInt = 0 ∧ ¬ x3.toInt = 1) ∧ r = nI (sdN x2.toInt.toNat x1.toInt.toNat)))) ∧ u.1 31 0 = g 31 0 ∧ rwL g u.1 (g 31 0).toInt ∧ Eq1 (u.1 6) (TR u.1 (g 31 0).toInt.toNat)) ∧ (u.1 31 0).toInt ≤ 40)) (fun u t => va_P (yD Z) vwCl (mw Z u.1 u.2) t.heap) (yA Z)) ([.ref (ya Z 0), .int x1, .int x2, .int x3] : List Value).toArray s 0 0 (yA Z)) (F0 m 77 ls []) := by
    intro n
    induction n with
    | zero => intro z4 z5 z6 z7 g1 gl1 H locs hP hF hJ hS hz4 hR9 hW9 hS9 hQ9 h7 hC hn; exact absurd hn (Nat.not_lt_zero _)
    | succ n ih77 =>
      intro z4 z5 z6 z7 g1 gl1 H locs hP hF hJ hS hz4 hR9 hW9 hS9 hQ9 h7 hC hn ls hl
      refine lv_iload hx hb dX7_drawnNow_77 (lv_at hl 7 rfl) ?_
      refine lv_sipush (v := 128) hx hb dX7_drawnNow_79 (by decide) ?_
      refine lv_icmp_ge (tgt := 113) hx hb dX7_drawnNow_82 (by decide) (fun c_82 => ?_) (fun c_82 => ?_)
      · skip
        have i_82 := ti_lek tk_128 rfl c_82
        have hJ1 := hJ
        have hz4i := congrArg Int32.toInt hz4
        refine lv_aload_n hx hb dX7_drawnNow_113 rfl (lv_at hl 0 rfl) ?_
        refine lv_iload hx hb dX7_drawnNow_114 (lv_at hl 4 rfl) ?_
        refine va_callv (va_runV (As := [.int z4]) (rest := []) ⟨hx, hb, hml, hown, hT⟩ (c_X7_again l Z hZ g1 gl1 z4 (by omega) hJ) (cwV 1 hT (tb_V (fun _ h => h) (tr_28 _ (List.mem_of_getElem? (i := 23) rfl)) (tr_29 _ (List.mem_of_getElem? (i := 0) rfl)) (tr_29 _ (List.mem_of_getElem? (i := 1) rfl)) (tr_1 _ (List.mem_of_getElem? (i := 5) rfl)) (tr_29 _ (List.mem_of_getElem? (i := 2) rfl))) rfl rfl rfl (by decide +kernel) ⟨Nat.le_of_ble_eq_true rfl, Nat.le_of_ble_eq_true rfl⟩) ⟨fun a U f mk q => ⟨q.1, MI.blind f mk a q.2⟩, va_recv hK hP (ci := 7) (q0 := 0) rfl mw_0, fun U hU hW => ⟨rfl, hI.at hS hP hU hW⟩⟩ rfl rfl hl.1 rfl (lv_room (Nat.le_of_ble_eq_true rfl)) dX7_drawnNow_116 ⟨Nat.zero_le _, Nat.zero_le _⟩) hS (fun q _ h => h) (fun q h => h) (fun u_116 t_116 H locs ht_116 _ hw_116 hB_116 _ _ hS => ?_)
        obtain ⟨g_116, gl_116⟩ := u_116
        have hP : va_P (yD Z) vwCl (mw Z g_116 gl_116) H := ht_116 ▸ hB_116
        obtain ⟨hf_116, hJ, el_116, hr_116⟩ := hw_116
        have hF := hF.tr hf_116 (by decide)
        dsimp only at hf_116 hJ hF el_116 hr_116
        subst el_116
        refine lv_iload_n hx hb dX7_drawnNow_119 rfl (lv_at hl 3 rfl) ?_
        refine lv_if_ne (tgt := 128) hx hb dX7_drawnNow_120 (by decide) (fun c_120 => ?_) (fun c_120 => ?_)
        · skip
          have i_120 := ti_nek rfl tk_0 c_120
          refine lv_iload_n hx hb dX7_drawnNow_128 rfl (lv_at hl 3 rfl) ?_
          refine lv_iconst (v := 1) hx hb dX7_drawnNow_129 (by decide) ?_
          refine lv_icmp_ne (tgt := 138) hx hb dX7_drawnNow_130 (by decide) (fun c_130 => ?_) (fun c_130 => ?_)
          · skip
            have i_130 := ti_nek rfl tk_1 c_130
            refine lv_aload_n hx hb dX7_drawnNow_138 rfl (lv_at hl 0 rfl) ?_
            refine va_get (D := yD Z) (ci := 7) (v := .long (gl1 47 0)) (C := RX7) (T := TX7) (N := 31) hx hb hT inlX7 hown hK hP 0 mw_0 rfl 17 (by decide) (hT _ (tr_34 _ (List.mem_of_getElem? (i := 18) rfl))) (fun _ h9 => h9) rfl dX7_drawnNow_139 ?_
            refine lv_l2i hx hb dX7_drawnNow_142 rfl ?_
            refine lv_topi (fun v_142 e_142 => ?_)
            exact W.iret (v := v_142) hx hb hr (fun t ht hW => ⟨⟨v_142, (g_116, gl1), rfl, ⟨hF, hJ, (by (try dsimp only); first | done | exact ⟨⟨⟨g1, hJ1, hR9, hW9, Or.inr (Or.inr ⟨⟨by omega, by omega⟩, by rw [e_142, hS9, lN_i]⟩)⟩, hr_116.1.trans hz4, hR9.tr (rwL.fr (n := (g 31 0).toInt) hf_116 (by decide)) (Int.le_refl _), by have q := hr_116.2; rw [hz4, TR_cr (R2 := g_116) (g 31 0).toInt.toNat (by omega) (fun t _ k hk => by rw [hf_116 (k + 1) (by simp; omega)])] at q; exact q⟩, (by show (g_116 31 0).toInt ≤ 40; rw [hr_116.1]; omega)⟩)⟩, by show va_P (yD Z) vwCl (mw Z g_116 gl1) t.heap; rw [ht]; exact hP⟩, hS.F ht⟩) hS.2.2 dX7_drawnNow_143
          · skip
            have i_130 := ti_eqk rfl tk_1 c_130
            refine lv_iload hx hb dX7_drawnNow_133 (lv_at hl 6 rfl) ?_
            refine lv_goto (tgt := 143) hx hb dX7_drawnNow_135 (by decide) ?_
            exact W.iret (v := z6) hx hb hr (fun t ht hW => ⟨⟨z6, (g_116, gl1), rfl, ⟨hF, hJ, (by (try dsimp only); first | done | exact ⟨⟨⟨g1, hJ1, hR9, hW9, Or.inr (Or.inl ⟨by omega, by rw [hC, show z7.toInt.toNat = 128 by omega]⟩)⟩, hr_116.1.trans hz4, hR9.tr (rwL.fr (n := (g 31 0).toInt) hf_116 (by decide)) (Int.le_refl _), by have q := hr_116.2; rw [hz4, TR_cr (R2 := g_116) (g 31 0).toInt.toNat (by omega) (fun t _ k hk => by rw [hf_116 (k + 1) (by simp; omega)])] at q; exact q⟩, (by show (g_116 31 0).toInt ≤ 40; rw [hr_116.1]; omega)⟩)⟩, by show va_P (yD Z) vwCl (mw Z g_116 gl1) t.heap; rw [ht]; exact hP⟩, hS.F ht⟩) hS.2.2 dX7_drawnNow_143
        · skip
          have i_120 := ti_eqk rfl tk_0 c_120
          refine lv_iload hx hb dX7_drawnNow_123 (lv_at hl 5 rfl) ?_
          refine lv_goto (tgt := 143) hx hb dX7_drawnNow_125 (by decide) ?_
          exact W.iret (v := z5) hx hb hr (fun t ht hW => ⟨⟨z5, (g_116, gl1), rfl, ⟨hF, hJ, (by (try dsimp only); first | done | exact ⟨⟨⟨g1, hJ1, hR9, hW9, Or.inl ⟨by omega, hQ9⟩⟩, hr_116.1.trans hz4, hR9.tr (rwL.fr (n := (g 31 0).toInt) hf_116 (by decide)) (Int.le_refl _), by have q := hr_116.2; rw [hz4, TR_cr (R2 := g_116) (g 31 0).toInt.toNat (by omega) (fun t _ k hk => by rw [hf_116 (k + 1) (by simp; omega)])] at q; exact q⟩, (by show (g_116 31 0).toInt ≤ 40; rw [hr_116.1]; omega)⟩)⟩, by show va_P (yD Z) vwCl (mw Z g_116 gl1) t.heap; rw [ht]; exact hP⟩, hS.F ht⟩) hS.2.2 dX7_drawnNow_143
      · skip
        have i_82 := ti_nlek tk_128 rfl c_82
        have hz4i := congrArg Int32.toInt hz4
        have cl := cB_le (ndB (g1 6) (g 31 0).toInt 69) z7.toInt.toNat
        refine lv_iload hx hb dX7_drawnNow_85 (lv_at hl 6 rfl) ?_
        refine lv_aload_n hx hb dX7_drawnNow_87 rfl (lv_at hl 0 rfl) ?_
        refine va_get (D := yD Z) (ci := 7) (v := .ref (ya Z 6)) (C := RX7) (T := TX7) (N := 31) hx hb hT inlX7 hown hK hP 0 mw_0 rfl 7 (by decide) (hT _ (tr_4 _ (List.mem_of_getElem? (i := 18) rfl))) (fun _ h9 => h9) rfl dX7_drawnNow_88 ?_
        refine lv_iload hx hb dX7_drawnNow_91 (lv_at hl 7 rfl) ?_
        have h_93 : vp_in z7 128 := (ti_vp (by omega) (by omega))
        refine va_iald hx hb hK hP 6 1 mw_6 rfl h_93 dX7_drawnNow_93 ?_
        refine lv_topi (fun v_93 e_93 => ?_)
        have j93 := hJ.j6 z7.toNatClampNeg
        rw [← e_93] at j93
        have e93 : g1 6 z7.toInt.toNat = v_93 := e_93.symm
        refine lv_iload hx hb dX7_drawnNow_94 (lv_at hl 4 rfl) ?_
        refine lv_icmp_lt (tgt := 103) hx hb dX7_drawnNow_96 (by decide) (fun c_96 => ?_) (fun c_96 => ?_)
        · skip
          have i_96 := ti_ltk rfl rfl c_96
          refine lv_iconst (v := 0) hx hb dX7_drawnNow_103 (by decide) ?_
          refine lv_iadd hx hb dX7_drawnNow_104 ?_
          refine lv_topi (fun v_104 e_104 => ?_)
          have t_104 := ti_addk rfl tk_0 (by omega) (by omega) e_104
          refine lv_istore (lv' := [(6, .int v_104), (0, .ref (ya Z 0)), (1, .int x1), (2, .int x2), (3, .int x3), (4, .int z4), (5, .int z5), (7, .int z7)]) hx hb dX7_drawnNow_105 hl (by decide) rfl (fun ls hl => ?_)
          obtain ⟨v_107, e_107⟩ : ∃ y : Int32, y = z7 + 1 := ⟨_, rfl⟩
          refine lv_iinc (v := v_107) (lv' := [(7, .int v_107), (6, .int v_104), (0, .ref (ya Z 0)), (1, .int x1), (2, .int x2), (3, .int x3), (4, .int z4), (5, .int z5)]) hx hb dX7_drawnNow_107 hl (k := 7) rfl (by rw [e_107]; rfl) (by decide) rfl (fun ls hl => ?_)
          have t_107 := ti_addk rfl tk_1 (by omega) (by omega) e_107
          refine lv_goto (tgt := 77) hx hb dX7_drawnNow_110 (by decide) ?_
          exact ih77 z4 z5 v_104 v_107 g1 gl1 _ _ hP hF hJ hS (by first | assumption | omega | decide) (by first | assumption | omega | decide) (by first | assumption | omega | decide) (by first | assumption | omega | decide) hQ9 (by omega) (by rw [show v_107.toInt.toNat = z7.toInt.toNat + 1 by omega]; first | (rw [cB_y (p := (ndB (g1 6) (g 31 0).toInt 69)) (n := z7.toInt.toNat) (by unfold ndB; rw [e93]; exact decide_eq_true ⟨by omega, by omega, by omega⟩)]; omega) | (rw [cB_n (p := (ndB (g1 6) (g 31 0).toInt 69)) (n := z7.toInt.toNat) (by unfold ndB; rw [e93]; exact fun z => by have z := of_decide_eq_true z; omega)]; omega)) (by omega) ls (lv_sub hl [2, 3, 4, 5, 6, 7, 1, 0] rfl)
        · skip
          have i_96 := ti_nltk rfl rfl c_96
          refine lv_iconst (v := 1) hx hb dX7_drawnNow_99 (by decide) ?_
          refine lv_goto (tgt := 104) hx hb dX7_drawnNow_100 (by decide) ?_
          refine lv_iadd hx hb dX7_drawnNow_104 ?_
          refine lv_topi (fun v_104 e_104 => ?_)
          have t_104 := ti_addk rfl tk_1 (by omega) (by omega) e_104
          refine lv_istore (lv' := [(6, .int v_104), (0, .ref (ya Z 0)), (1, .int x1), (2, .int x2), (3, .int x3), (4, .int z4), (5, .int z5), (7, .int z7)]) hx hb dX7_drawnNow_105 hl (by decide) rfl (fun ls hl => ?_)
          obtain ⟨v_107, e_107⟩ : ∃ y : Int32, y = z7 + 1 := ⟨_, rfl⟩
          refine lv_iinc (v := v_107) (lv' := [(7, .int v_107), (6, .int v_104), (0, .ref (ya Z 0)), (1, .int x1), (2, .int x2), (3, .int x3), (4, .int z4), (5, .int z5)]) hx hb dX7_drawnNow_107 hl (k := 7) rfl (by rw [e_107]; rfl) (by decide) rfl (fun ls hl => ?_)
          have t_107 := ti_addk rfl tk_1 (by omega) (by omega) e_107
          refine lv_goto (tgt := 77) hx hb dX7_drawnNow_110 (by decide) ?_
          exact ih77 z4 z5 v_104 v_107 g1 gl1 _ _ hP hF hJ hS (by first | assumption | omega | decide) (by first | assumption | omega | decide) (by first | assumption | omega | decide) (by first | assumption | omega | decide) hQ9 (by omega) (by rw [show v_107.toInt.toNat = z7.toInt.toNat + 1 by omega]; first | (rw [cB_y (p := (ndB (g1 6) (g 31 0).toInt 69)) (n := z7.toInt.toNat) (by unfold ndB; rw [e93]; exact decide_eq_true ⟨by omega, by omega, by omega⟩)]; omega) | (rw [cB_n (p := (ndB (g1 6) (g 31 0).toInt 69)) (n := z7.toInt.toNat) (by unfold ndB; rw [e93]; exact fun z => by have z := of_decide_eq_true z; omega)]; omega)) (by omega) ls (lv_sub hl [2, 3, 4, 5, 6, 7, 1, 0] rfl)
  have L37 : ∀ (n : Nat) (z4 : Int32) (z5 : Int32) (z6 : Int32) (g1 : Nat → Nat → Int32) (gl1 : Nat → Nat → Int64) (H : Heap) (locs : List Loc) (hP : va_P (yD Z) vwCl (mw Z g1 gl1) H) (hF : Fr [1, 2, 3, 4, 5, 6, 31] g g1) (hJ : MJ g1) (hS : va_S (yA Z) s.heap H locs) (hz4 : z4 = g 31 0) (hR9 : rwL g g1 (g 31 0).toInt) (hW9 : dwD g1 (g 31 0).toInt.toNat x1.toInt.toNat x2.toInt.toNat) (hS9 : gl1 47 0 = lN (sdN x2.toInt.toNat x1.toInt.toNat)) (h6 : 0 ≤ z6.toInt ∧ z6.toInt ≤ 64) (hC : z5.toInt = (cB (qnB (mC g1) (g 31 0).toInt 69) z6.toInt.toNat : Int)) (hn : (64 - z6.toInt).toNat < n) (ls : Array Slot) (hl : lv_has ls 8 [(0, .ref (ya Z 0)), (1, .int x1), (2, .int x2), (3, .int x3), (4, .int z4), (5, .int z5), (6, .int z6)]), W p l e ({ frames := 8, cells := 0, slots := 0, locals := 195 } : Room) s m ([.ref (ya Z 0), .int x1, .int x2, .int x3] : List Value).toArray below meth c H locs 0 0 (MQ below (va_Qi (fun (r : Int32) (u : (Nat → Nat → Int32) × (Nat → Nat → Int64)) => Fr [1, 2, 3, 4, 5, 6, 31] g u.1 ∧ MJ u.1 ∧ (((∃ R2, MJ R2 ∧ rwL g R2 (g 31 0).toInt ∧ dwD R2 (g 31 0).toInt.toNat x1.toInt.toNat x2.toInt.toNat ∧ ((x3.toInt = 0 ∧ r.toInt = (cB (qnB (mC R2) (g 31 0).toInt 69) 64 : Int)) ∨ (x3.toInt = 1 ∧ r.toInt = (cB (ndB (R2 6) (g 31 0).toInt 69) 128 : Int)) ∨ ((¬ x3.toInt = 0 ∧ ¬ x3.toInt = 1) ∧ r = nI (sdN x2.toInt.toNat x1.toInt.toNat)))) ∧ u.1 31 0 = g 31 0 ∧ rwL g u.1 (g 31 0).toInt ∧ Eq1 (u.1 6) (TR u.1 (g 31 0).toInt.toNat)) ∧ (u.1 31 0).toInt ≤ 40)) (fun u t => va_P (yD Z) vwCl (mw Z u.1 u.2) t.heap) (yA Z)) ([.ref (ya Z 0), .int x1, .int x2, .int x3] : List Value).toArray s 0 0 (yA Z)) (F0 m 37 ls []) := by
    intro n
    induction n with
    | zero => intro z4 z5 z6 g1 gl1 H locs hP hF hJ hS hz4 hR9 hW9 hS9 h6 hC hn; exact absurd hn (Nat.not_lt_zero _)
    | succ n ih37 =>
      intro z4 z5 z6 g1 gl1 H locs hP hF hJ hS hz4 hR9 hW9 hS9 h6 hC hn ls hl
      refine lv_iload hx hb dX7_drawnNow_37 (lv_at hl 6 rfl) ?_
      refine lv_bipush (v := 64) hx hb dX7_drawnNow_39 (by decide) ?_
      refine lv_icmp_ge (tgt := 71) hx hb dX7_drawnNow_41 (by decide) (fun c_41 => ?_) (fun c_41 => ?_)
      · skip
        have i_41 := ti_lek tk_64 rfl c_41
        refine lv_iconst (v := 0) hx hb dX7_drawnNow_71 (by decide) ?_
        refine lv_istore (lv' := [(6, .int 0), (0, .ref (ya Z 0)), (1, .int x1), (2, .int x2), (3, .int x3), (4, .int z4), (5, .int z5)]) hx hb dX7_drawnNow_72 hl (by decide) rfl (fun ls hl => ?_)
        refine lv_iconst (v := 1) hx hb dX7_drawnNow_74 (by decide) ?_
        refine lv_istore (lv' := [(7, .int 1), (6, .int 0), (0, .ref (ya Z 0)), (1, .int x1), (2, .int x2), (3, .int x3), (4, .int z4), (5, .int z5)]) hx hb dX7_drawnNow_75 hl (by decide) rfl (fun ls hl => ?_)
        exact L77 _ z4 z5 0 1 g1 gl1 _ _ hP hF hJ hS (by first | assumption | omega | decide) (by first | assumption | omega | decide) (by first | assumption | omega | decide) (by first | assumption | omega | decide) (by rw [hC, show z6.toInt.toNat = 64 by omega]) (by decide) (by rw [tk_0, tk_1]; rfl) (Nat.lt_succ_self _) ls (lv_sub hl [2, 3, 4, 5, 6, 7, 1, 0] rfl)
      · skip
        have i_41 := ti_nlek tk_64 rfl c_41
        have hz4i := congrArg Int32.toInt hz4
        have cl := cB_le (qnB (mC g1) (g 31 0).toInt 69) z6.toInt.toNat
        refine lv_iload hx hb dX7_drawnNow_44 (lv_at hl 5 rfl) ?_
        refine lv_aload_n hx hb dX7_drawnNow_46 rfl (lv_at hl 0 rfl) ?_
        refine lv_iload hx hb dX7_drawnNow_47 (lv_at hl 6 rfl) ?_
        refine rd_ci (va_runV (As := [.int z6]) (rest := [.int z5]) ⟨hx, hb, hml, hown, hT⟩ (c_X7_cheapestFor l Z hZ g1 gl1 z6 (by first | assumption | omega | decide) hJ) (cwV 1 hT (tb_V (fun _ h => h) (tr_22 _ (List.mem_of_getElem? (i := 18) rfl)) (tr_22 _ (List.mem_of_getElem? (i := 19) rfl)) (tr_22 _ (List.mem_of_getElem? (i := 20) rfl)) (tr_1 _ (List.mem_of_getElem? (i := 5) rfl)) (tr_22 _ (List.mem_of_getElem? (i := 21) rfl))) rfl rfl rfl (by decide +kernel) ⟨Nat.le_of_ble_eq_true rfl, Nat.le_of_ble_eq_true rfl⟩) ⟨fun a U f mk q => ⟨q.1, MI.blind f mk a q.2⟩, va_recv hK hP (ci := 7) (q0 := 0) rfl mw_0, fun U hU hW => ⟨rfl, hI.at hS hP hU hW⟩⟩ rfl rfl hl.1 rfl (lv_room (Nat.le_of_ble_eq_true rfl)) dX7_drawnNow_49 ⟨Nat.zero_le _, Nat.zero_le _⟩) (fun r_49 hr_49 => ?_)
        have q49 := hr_49.2
        have e49 : r_49 = mC g1 z6.toInt.toNat := by rw [hr_49.1]; unfold mC; rw [← show z6 = nI z6.toInt.toNat from nI_ek (by omega)]
        refine lv_iload hx hb dX7_drawnNow_52 (lv_at hl 4 rfl) ?_
        refine lv_icmp_lt (tgt := 61) hx hb dX7_drawnNow_54 (by decide) (fun c_54 => ?_) (fun c_54 => ?_)
        · skip
          have i_54 := ti_ltk rfl rfl c_54
          refine lv_iconst (v := 0) hx hb dX7_drawnNow_61 (by decide) ?_
          refine lv_iadd hx hb dX7_drawnNow_62 ?_
          refine lv_topi (fun v_62 e_62 => ?_)
          have t_62 := ti_addk rfl tk_0 (by omega) (by omega) e_62
          refine lv_istore (lv' := [(5, .int v_62), (0, .ref (ya Z 0)), (1, .int x1), (2, .int x2), (3, .int x3), (4, .int z4), (6, .int z6)]) hx hb dX7_drawnNow_63 hl (by decide) rfl (fun ls hl => ?_)
          obtain ⟨v_65, e_65⟩ : ∃ y : Int32, y = z6 + 1 := ⟨_, rfl⟩
          refine lv_iinc (v := v_65) (lv' := [(6, .int v_65), (5, .int v_62), (0, .ref (ya Z 0)), (1, .int x1), (2, .int x2), (3, .int x3), (4, .int z4)]) hx hb dX7_drawnNow_65 hl (k := 6) rfl (by rw [e_65]; rfl) (by decide) rfl (fun ls hl => ?_)
          have t_65 := ti_addk rfl tk_1 (by omega) (by omega) e_65
          refine lv_goto (tgt := 37) hx hb dX7_drawnNow_68 (by decide) ?_
          exact ih37 z4 v_62 v_65 g1 gl1 _ _ hP hF hJ hS (by first | assumption | omega | decide) (by first | assumption | omega | decide) hW9 hS9 (by omega) (by rw [show v_65.toInt.toNat = z6.toInt.toNat + 1 by omega]; first | (rw [cB_y (p := (qnB (mC g1) (g 31 0).toInt 69)) (n := z6.toInt.toNat) (by unfold qnB; rw [← e49]; exact decide_eq_true ⟨by omega, by omega⟩)]; omega) | (rw [cB_n (p := (qnB (mC g1) (g 31 0).toInt 69)) (n := z6.toInt.toNat) (by unfold qnB; rw [← e49]; exact fun z => by have z := of_decide_eq_true z; omega)]; omega)) (by omega) ls (lv_sub hl [2, 3, 4, 5, 6, 1, 0] rfl)
        · skip
          have i_54 := ti_nltk rfl rfl c_54
          refine lv_iconst (v := 1) hx hb dX7_drawnNow_57 (by decide) ?_
          refine lv_goto (tgt := 62) hx hb dX7_drawnNow_58 (by decide) ?_
          refine lv_iadd hx hb dX7_drawnNow_62 ?_
          refine lv_topi (fun v_62 e_62 => ?_)
          have t_62 := ti_addk rfl tk_1 (by omega) (by omega) e_62
          refine lv_istore (lv' := [(5, .int v_62), (0, .ref (ya Z 0)), (1, .int x1), (2, .int x2), (3, .int x3), (4, .int z4), (6, .int z6)]) hx hb dX7_drawnNow_63 hl (by decide) rfl (fun ls hl => ?_)
          obtain ⟨v_65, e_65⟩ : ∃ y : Int32, y = z6 + 1 := ⟨_, rfl⟩
          refine lv_iinc (v := v_65) (lv' := [(6, .int v_65), (5, .int v_62), (0, .ref (ya Z 0)), (1, .int x1), (2, .int x2), (3, .int x3), (4, .int z4)]) hx hb dX7_drawnNow_65 hl (k := 6) rfl (by rw [e_65]; rfl) (by decide) rfl (fun ls hl => ?_)
          have t_65 := ti_addk rfl tk_1 (by omega) (by omega) e_65
          refine lv_goto (tgt := 37) hx hb dX7_drawnNow_68 (by decide) ?_
          exact ih37 z4 v_62 v_65 g1 gl1 _ _ hP hF hJ hS (by first | assumption | omega | decide) (by first | assumption | omega | decide) hW9 hS9 (by omega) (by rw [show v_65.toInt.toNat = z6.toInt.toNat + 1 by omega]; first | (rw [cB_y (p := (qnB (mC g1) (g 31 0).toInt 69)) (n := z6.toInt.toNat) (by unfold qnB; rw [← e49]; exact decide_eq_true ⟨by omega, by omega⟩)]; omega) | (rw [cB_n (p := (qnB (mC g1) (g 31 0).toInt 69)) (n := z6.toInt.toNat) (by unfold qnB; rw [← e49]; exact fun z => by have z := of_decide_eq_true z; omega)]; omega)) (by omega) ls (lv_sub hl [2, 3, 4, 5, 6, 1, 0] rfl)
  have L15 : ∀ (n : Nat) (z4 : Int32) (z5 : Int32) (g1 : Nat → Nat → Int32) (gl1 : Nat → Nat → Int64) (H : Heap) (locs : List Loc) (hP : va_P (yD Z) vwCl (mw Z g1 gl1) H) (hF : Fr [1, 2, 3, 4, 5, 6, 31] g g1) (hJ : MJ g1) (hS : va_S (yA Z) s.heap H locs) (hz4 : z4 = g 31 0) (hR9 : rwL g g1 (g 31 0).toInt) (h5 : 0 ≤ z5.toInt ∧ z5.toInt ≤ x1.toInt) (hs : (g1 31 0).toInt = (g 31 0).toInt + z5.toInt) (hS9 : gl1 47 0 = lN (sdN x2.toInt.toNat z5.toInt.toNat)) (hD9 : ∀ i, i < z5.toInt.toNat → ∀ k, k < 5 → g1 (k + 1) ((g 31 0).toInt.toNat + i) = dwF (sdN x2.toInt.toNat i) k) (hE9 : Eq1 (g1 6) (TR g1 ((g 31 0).toInt.toNat + z5.toInt.toNat))) (hn : (31 - z5.toInt).toNat < n) (ls : Array Slot) (hl : lv_has ls 8 [(0, .ref (ya Z 0)), (1, .int x1), (2, .int x2), (3, .int x3), (4, .int z4), (5, .int z5)]), W p l e ({ frames := 8, cells := 0, slots := 0, locals := 195 } : Room) s m ([.ref (ya Z 0), .int x1, .int x2, .int x3] : List Value).toArray below meth c H locs 0 0 (MQ below (va_Qi (fun (r : Int32) (u : (Nat → Nat → Int32) × (Nat → Nat → Int64)) => Fr [1, 2, 3, 4, 5, 6, 31] g u.1 ∧ MJ u.1 ∧ (((∃ R2, MJ R2 ∧ rwL g R2 (g 31 0).toInt ∧ dwD R2 (g 31 0).toInt.toNat x1.toInt.toNat x2.toInt.toNat ∧ ((x3.toInt = 0 ∧ r.toInt = (cB (qnB (mC R2) (g 31 0).toInt 69) 64 : Int)) ∨ (x3.toInt = 1 ∧ r.toInt = (cB (ndB (R2 6) (g 31 0).toInt 69) 128 : Int)) ∨ ((¬ x3.toInt = 0 ∧ ¬ x3.toInt = 1) ∧ r = nI (sdN x2.toInt.toNat x1.toInt.toNat)))) ∧ u.1 31 0 = g 31 0 ∧ rwL g u.1 (g 31 0).toInt ∧ Eq1 (u.1 6) (TR u.1 (g 31 0).toInt.toNat)) ∧ (u.1 31 0).toInt ≤ 40)) (fun u t => va_P (yD Z) vwCl (mw Z u.1 u.2) t.heap) (yA Z)) ([.ref (ya Z 0), .int x1, .int x2, .int x3] : List Value).toArray s 0 0 (yA Z)) (F0 m 15 ls []) := by
    intro n
    induction n with
    | zero => intro z4 z5 g1 gl1 H locs hP hF hJ hS hz4 hR9 h5 hs hS9 hD9 hE9 hn; exact absurd hn (Nat.not_lt_zero _)
    | succ n ih15 =>
      intro z4 z5 g1 gl1 H locs hP hF hJ hS hz4 hR9 h5 hs hS9 hD9 hE9 hn ls hl
      refine lv_iload hx hb dX7_drawnNow_15 (lv_at hl 5 rfl) ?_
      refine lv_iload_n hx hb dX7_drawnNow_17 rfl (lv_at hl 1 rfl) ?_
      refine lv_icmp_ge (tgt := 31) hx hb dX7_drawnNow_18 (by decide) (fun c_18 => ?_) (fun c_18 => ?_)
      · skip
        have i_18 := ti_lek rfl rfl c_18
        refine lv_iconst (v := 0) hx hb dX7_drawnNow_31 (by decide) ?_
        refine lv_istore (lv' := [(5, .int 0), (0, .ref (ya Z 0)), (1, .int x1), (2, .int x2), (3, .int x3), (4, .int z4)]) hx hb dX7_drawnNow_32 hl (by decide) rfl (fun ls hl => ?_)
        refine lv_iconst (v := 0) hx hb dX7_drawnNow_34 (by decide) ?_
        refine lv_istore (lv' := [(6, .int 0), (5, .int 0), (0, .ref (ya Z 0)), (1, .int x1), (2, .int x2), (3, .int x3), (4, .int z4)]) hx hb dX7_drawnNow_35 hl (by decide) rfl (fun ls hl => ?_)
        exact L37 _ z4 0 0 g1 gl1 _ _ hP hF hJ hS (by first | assumption | omega | decide) (by first | assumption | omega | decide) (by rw [show x1.toInt.toNat = z5.toInt.toNat by omega]; exact ⟨hD9, hE9⟩) (by rw [show x1.toInt.toNat = z5.toInt.toNat by omega]; exact hS9) (by decide) (by rw [tk_0]; rfl) (Nat.lt_succ_self _) ls (lv_sub hl [2, 3, 4, 5, 6, 1, 0] rfl)
      · skip
        have i_18 := ti_nlek rfl rfl c_18
        refine lv_aload_n hx hb dX7_drawnNow_21 rfl (lv_at hl 0 rfl) ?_
        refine va_callv (va_runV (As := []) (rest := []) ⟨hx, hb, hml, hown, hT⟩ (c_X7_drawOne l Z hZ g1 gl1 (sdN x2.toInt.toNat z5.toInt.toNat) hS9 (sdN_lt (by have q := ti_rng x2; omega) _) (by omega) (by rw [show (g1 31 0).toInt.toNat = (g 31 0).toInt.toNat + z5.toInt.toNat by omega]; exact hE9) hJ) (cwV 0 hT (tb_V (fun _ h => h) (tr_34 _ (List.mem_of_getElem? (i := 19) rfl)) (tr_34 _ (List.mem_of_getElem? (i := 20) rfl)) (tr_34 _ (List.mem_of_getElem? (i := 21) rfl)) (tr_1 _ (List.mem_of_getElem? (i := 5) rfl)) (tr_34 _ (List.mem_of_getElem? (i := 22) rfl))) rfl rfl rfl (by decide +kernel) ⟨Nat.le_of_ble_eq_true rfl, Nat.le_of_ble_eq_true rfl⟩) ⟨fun a U f mk q => ⟨q.1, MI.blind f mk a q.2⟩, va_recv hK hP (ci := 7) (q0 := 0) rfl mw_0, fun U hU hW => ⟨rfl, hI.at hS hP hU hW⟩⟩ rfl rfl hl.1 rfl (lv_room (Nat.le_of_ble_eq_true rfl)) dX7_drawnNow_22 ⟨Nat.zero_le _, Nat.zero_le _⟩) hS (fun q _ h => h) (fun q h => h) (fun u_22 t_22 H locs ht_22 _ hw_22 hB_22 _ _ hS => ?_)
        obtain ⟨g_22, gl_22⟩ := u_22
        have hP : va_P (yD Z) vwCl (mw Z g_22 gl_22) H := ht_22 ▸ hB_22
        obtain ⟨hf_22, hJ, hr_22⟩ := hw_22
        have hF := hF.tr hf_22 (by decide)
        dsimp only at hf_22 hJ hF hr_22
        have k22 := hr_22.1
        obtain ⟨v_25, e_25⟩ : ∃ y : Int32, y = z5 + 1 := ⟨_, rfl⟩
        refine lv_iinc (v := v_25) (lv' := [(5, .int v_25), (0, .ref (ya Z 0)), (1, .int x1), (2, .int x2), (3, .int x3), (4, .int z4)]) hx hb dX7_drawnNow_25 hl (k := 5) rfl (by rw [e_25]; rfl) (by decide) rfl (fun ls hl => ?_)
        have t_25 := ti_addk rfl tk_1 (by omega) (by omega) e_25
        refine lv_goto (tgt := 15) hx hb dX7_drawnNow_28 (by decide) ?_
        exact ih15 z4 v_25 g_22 gl_22 _ _ hP hF hJ hS hz4 (hR9.tr hr_22.2.1 (by omega)) (by omega) (by omega) (by rw [show v_25.toInt.toNat = z5.toInt.toNat + 1 by omega]; exact hr_22.2.2.2.1) (fun i hi k hk => by rw [show v_25.toInt.toNat = z5.toInt.toNat + 1 by omega] at hi; rcases (show i < z5.toInt.toNat ∨ i = z5.toInt.toNat by omega) with y | y; (rw [hr_22.2.1 ((g 31 0).toInt.toNat + i) (by omega) k hk]; exact hD9 i y k hk); subst y; rw [show (g 31 0).toInt.toNat + z5.toInt.toNat = (g1 31 0).toInt.toNat by omega]; exact hr_22.2.2.1 k hk) (by rw [show (g 31 0).toInt.toNat + v_25.toInt.toNat = (g1 31 0).toInt.toNat + 1 by omega]; exact hr_22.2.2.2.2) (by omega) ls (lv_sub hl [1, 2, 3, 4, 5, 0] rfl)
  refine lv_aload_n hx hb dX7_drawnNow_0 rfl (lv_at hl 0 rfl) ?_
  refine va_get (D := yD Z) (ci := 7) (v := .int (g 31 0)) (C := RX7) (T := TX7) (N := 31) hx hb hT inlX7 hown hK hP 0 mw_0 rfl 1 (by decide) (hT _ (tr_17 _ (List.mem_of_getElem? (i := 14) rfl))) (fun _ h9 => h9) rfl dX7_drawnNow_1 ?_
  refine lv_istore (lv' := [(4, .int (g 31 0)), (0, .ref (ya Z 0)), (1, .int x1), (2, .int x2), (3, .int x3)]) hx hb dX7_drawnNow_4 hl (by decide) rfl (fun ls hl => ?_)
  refine lv_aload_n hx hb dX7_drawnNow_6 rfl (lv_at hl 1 rfl) ?_
  refine lv_iload_n hx hb dX7_drawnNow_7 rfl (lv_at hl 3 rfl) ?_
  refine lv_i2l hx hb dX7_drawnNow_8 rfl ?_
  refine lv_topl (fun v_8 e_8 => ?_)
  refine va_put (D := yD Z) (ci := 7) (v := .long v_8) (ty := .long) (C := RX7) (T := TX7) (N := 31) hx hb hT inlX7 tyX7 tyX7_ok nmX7 hown hK hP hZ.D hS 0 mw_0 rfl 17 (by decide) (hT _ (tr_34 _ (List.mem_of_getElem? (i := 18) rfl))) (fun _ h9 => h9) rfl (by decide +kernel) rfl rfl (Nat.le_of_ble_eq_true rfl) dX7_drawnNow_9 (fun H locs hP _ hS => ?_)
  replace hP := mf_17 hP
  refine lv_iconst (v := 0) hx hb dX7_drawnNow_12 (by decide) ?_
  refine lv_istore (lv' := [(5, .int 0), (4, .int (g 31 0)), (0, .ref (ya Z 0)), (1, .int x1), (2, .int x2), (3, .int x3)]) hx hb dX7_drawnNow_13 hl (by decide) rfl (fun ls hl => ?_)
  exact L15 _ (g 31 0) 0 g (upL gl 47 (fun _ => v_8)) _ _ hP hF hJ hS rfl rwL.rf (by rw [tk_0]; omega) (by rw [tk_0]; show (g 31 0).toInt = _; omega) (by show v_8 = lN x2.toInt.toNat; rw [e_8]; exact i_l h2) (fun i hi => by rw [show (0 : Int32).toInt.toNat = 0 from rfl] at hi; omega) (by rw [show (0 : Int32).toInt.toNat = 0 from rfl]; exact hE) (Nat.lt_succ_self _) ls (lv_sub hl [2, 3, 4, 5, 1, 0] rfl)
set_option maxHeartbeats 4000000 in
set_option maxRecDepth 100000 in
theorem c_X7_drawn (l : Launch) (Z : YT) (hZ : MG Z) (g : Nat → Nat → Int32) (gl : Nat → Nat → Int64) (x1 : Int32) (x2 : Int32) (x3 : Int32) (h40 : (g 31 0).toInt ≤ 40) (hE : ¬ g 30 0 = 0 → Eq1 (g 6) (TR g (g 31 0).toInt.toNat)) (hJ : MJ g) : Met l yX7_drawn (Cond.code yX7_drawn cX7_drawn 4 (some .int) :: wsL_law) ({ frames := 9, cells := 0, slots := 0, locals := 222 } : Room) (va_Pc [.ref (ya Z 0), .int x1, .int x2, .int x3] (MI Z g gl)) (va_Qi (fun (r : Int32) (u : (Nat → Nat → Int32) × (Nat → Nat → Int64)) => Fr [1, 2, 3, 4, 5, 6, 31] g u.1 ∧ MJ u.1 ∧ (((¬ ((1 ≤ x1.toInt ∧ x1.toInt ≤ 30) ∧ 0 ≤ x2.toInt ∧ 0 ≤ x3.toInt ∧ x3.toInt ≤ 2) ∧ r = -102 ∧ u.1 = g) ∨ (((1 ≤ x1.toInt ∧ x1.toInt ≤ 30) ∧ 0 ≤ x2.toInt ∧ 0 ≤ x3.toInt ∧ x3.toInt ≤ 2) ∧ g 30 0 = 0 ∧ r = -103 ∧ u.1 = g) ∨ (((1 ≤ x1.toInt ∧ x1.toInt ≤ 30) ∧ 0 ≤ x2.toInt ∧ 0 ≤ x3.toInt ∧ x3.toInt ≤ 2) ∧ ¬ g 30 0 = 0 ∧ ((∃ R2, MJ R2 ∧ rwL g R2 (g 31 0).toInt ∧ dwD R2 (g 31 0).toInt.toNat x1.toInt.toNat x2.toInt.toNat ∧ ((x3.toInt = 0 ∧ r.toInt = (cB (qnB (mC R2) (g 31 0).toInt 69) 64 : Int)) ∨ (x3.toInt = 1 ∧ r.toInt = (cB (ndB (R2 6) (g 31 0).toInt 69) 128 : Int)) ∨ ((¬ x3.toInt = 0 ∧ ¬ x3.toInt = 1) ∧ r = nI (sdN x2.toInt.toNat x1.toInt.toNat)))) ∧ u.1 31 0 = g 31 0 ∧ rwL g u.1 (g 31 0).toInt ∧ Eq1 (u.1 6) (TR u.1 (g 31 0).toInt.toNat)))) ∧ (u.1 31 0).toInt ≤ 40)) (fun u t => va_P (yD Z) vwCl (mw Z u.1 u.2) t.heap) (yA Z)) 0 0 (yA Z) := by
  refine Met.ofW (cc := cX7_drawn) (maxL := 4) (ret := (some .int)) (by decide) rfl ?_
  intro p e s m args below meth c s₁ B hml hv
  obtain ⟨rfl, hI⟩ := hv
  have hx := B.exec
  have hb := B.bytes
  have hr := B.returns
  have hT : ∀ w ∈ wsL_law, w.before ([.ref (ya Z 0), .int x1, .int x2, .int x3] : List Value).toArray s = true := fun w h => atoms_spec (ws := (Cond.code yX7_drawn cX7_drawn 4 (some .int) :: wsL_law)) B.pre w (List.mem_cons_of_mem _ h)
  have hown : s.vm.findClass RX7 = some m.cls := findClass_of_methodNamed B.named
  have hlocks := B.notSynchronized
  have hK := hI.2
  have hP := hI.1
  have hS : va_S (yA Z) s.heap s.heap [] := va_S.rf
  have hF : Fr [1, 2, 3, 4, 5, 6, 31] g g := Fr.rf
  have hl := lv_entry ([.ref (ya Z 0), .int x1, .int x2, .int x3]) (n := 4) (Nat.le_of_ble_eq_true rfl)
  rw [lg_entry_eq]
  generalize (lg_sl ([.ref (ya Z 0), .int x1, .int x2, .int x3]) ++ List.replicate (4 - (lg_sl ([.ref (ya Z 0), .int x1, .int x2, .int x3])).length) Slot.unset).toArray = ls at hl ⊢
  have hl : lv_has ls 4 [(0, .ref (ya Z 0)), (1, .int x1), (2, .int x2), (3, .int x3)] := hl
  refine lv_iload_n hx hb dX7_drawn_0 rfl (lv_at hl 1 rfl) ?_
  refine lv_iconst (v := 1) hx hb dX7_drawn_1 (by decide) ?_
  refine lv_bipush (v := 30) hx hb dX7_drawn_2 (by decide) ?_
  refine rd_ci (va_runS (As := [.int x1, .int 1, .int 30]) (rest := []) ⟨hx, hb, hml, hown, hT⟩ (c_X7_within l x1 1 30) (va_cwS 3 hT (tb_S (fun _ h => h) (tr_6 _ (List.mem_of_getElem? (i := 0) rfl)) (tr_6 _ (List.mem_of_getElem? (i := 1) rfl)) (tr_1 _ (List.mem_of_getElem? (i := 5) rfl)) (tr_6 _ (List.mem_of_getElem? (i := 2) rfl))) rfl rfl rfl (by decide +kernel) ⟨Nat.le_of_ble_eq_true rfl, Nat.le_of_ble_eq_true rfl⟩) ⟨fun _ _ _ _ q => q, fun U hU hW => ⟨rfl, trivial⟩⟩ rfl rfl hl.1 rfl (lv_room (Nat.le_of_ble_eq_true rfl)) dX7_drawn_4 ⟨Nat.zero_le _, Nat.zero_le _⟩) (fun r_4 hr_4 => ?_)
  rcases hr_4 with ⟨rfl, b_4⟩ | ⟨rfl, b_4⟩
  · skip
    (try simp only [tk_1, tk_30] at b_4)
    refine lv_if_eq (tgt := 23) hx hb dX7_drawn_7 (by decide) (fun c_7 => absurd c_7 (by decide)) (fun c_7 => ?_)
    refine lv_iload_n hx hb dX7_drawn_10 rfl (lv_at hl 2 rfl) ?_
    refine lv_if_lt (tgt := 23) hx hb dX7_drawn_11 (by decide) (fun c_11 => ?_) (fun c_11 => ?_)
    · skip
      have i_11 := ti_ltk rfl tk_0 c_11
      refine lv_bipush (v := (-102)) hx hb dX7_drawn_23 (by decide) ?_
      exact W.iret (v := (-102)) hx hb hr (fun t ht hW => ⟨⟨(-102), (g, gl), rfl, ⟨hF, hJ, (by (try dsimp only); first | done | exact ⟨Or.inl ⟨by omega, rfl, rfl⟩, h40⟩)⟩, by show va_P (yD Z) vwCl (mw Z g gl) t.heap; rw [ht]; exact hP⟩, hS.F ht⟩) hS.2.2 dX7_drawn_25
    · skip
      have i_11 := ti_nltk rfl tk_0 c_11
      refine lv_iload_n hx hb dX7_drawn_14 rfl (lv_at hl 3 rfl) ?_
      refine lv_iconst (v := 0) hx hb dX7_drawn_15 (by decide) ?_
      refine lv_iconst (v := 2) hx hb dX7_drawn_16 (by decide) ?_
      refine rd_ci (va_runS (As := [.int x3, .int 0, .int 2]) (rest := []) ⟨hx, hb, hml, hown, hT⟩ (c_X7_within l x3 0 2) (va_cwS 3 hT (tb_S (fun _ h => h) (tr_6 _ (List.mem_of_getElem? (i := 0) rfl)) (tr_6 _ (List.mem_of_getElem? (i := 1) rfl)) (tr_1 _ (List.mem_of_getElem? (i := 5) rfl)) (tr_6 _ (List.mem_of_getElem? (i := 2) rfl))) rfl rfl rfl (by decide +kernel) ⟨Nat.le_of_ble_eq_true rfl, Nat.le_of_ble_eq_true rfl⟩) ⟨fun _ _ _ _ q => q, fun U hU hW => ⟨rfl, trivial⟩⟩ rfl rfl hl.1 rfl (lv_room (Nat.le_of_ble_eq_true rfl)) dX7_drawn_17 ⟨Nat.zero_le _, Nat.zero_le _⟩) (fun r_17 hr_17 => ?_)
      rcases hr_17 with ⟨rfl, b_17⟩ | ⟨rfl, b_17⟩
      · skip
        (try simp only [tk_0, tk_2] at b_17)
        refine lv_if_ne (tgt := 26) hx hb dX7_drawn_20 (by decide) (fun c_20 => ?_) (fun c_20 => absurd c_20 (by decide))
        have dok : ((1 ≤ x1.toInt ∧ x1.toInt ≤ 30) ∧ 0 ≤ x2.toInt ∧ 0 ≤ x3.toInt ∧ x3.toInt ≤ 2) := by omega
        refine lv_aload_n hx hb dX7_drawn_26 rfl (lv_at hl 0 rfl) ?_
        refine va_get (D := yD Z) (ci := 7) (v := .int (g 30 0)) (C := RX7) (T := TX7) (N := 31) hx hb hT inlX7 hown hK hP 0 mw_0 rfl 0 (by decide) (hT _ (tr_17 _ (List.mem_of_getElem? (i := 15) rfl))) (fun _ h9 => h9) rfl dX7_drawn_27 ?_
        refine lv_if_ne (tgt := 38) hx hb dX7_drawn_30 (by decide) (fun c_30 => ?_) (fun c_30 => ?_)
        · skip
          have i_30 := ti_nek rfl tk_0 c_30
          refine lv_aload_n hx hb dX7_drawn_38 rfl (lv_at hl 0 rfl) ?_
          refine lv_iload_n hx hb dX7_drawn_39 rfl (lv_at hl 1 rfl) ?_
          refine lv_iload_n hx hb dX7_drawn_40 rfl (lv_at hl 2 rfl) ?_
          refine lv_iload_n hx hb dX7_drawn_41 rfl (lv_at hl 3 rfl) ?_
          refine va_calli (va_runV (As := [.int x1, .int x2, .int x3]) (rest := []) ⟨hx, hb, hml, hown, hT⟩ (c_X7_drawnNow l Z hZ g gl x1 x2 x3 (by first | assumption | omega | decide) (by omega) (by omega) (hE c_30) hJ) (cwV 3 hT (tb_V (fun _ h => h) (tr_34 _ (List.mem_of_getElem? (i := 14) rfl)) (tr_34 _ (List.mem_of_getElem? (i := 15) rfl)) (tr_34 _ (List.mem_of_getElem? (i := 16) rfl)) (tr_1 _ (List.mem_of_getElem? (i := 5) rfl)) (tr_34 _ (List.mem_of_getElem? (i := 17) rfl))) rfl rfl rfl (by decide +kernel) ⟨Nat.le_of_ble_eq_true rfl, Nat.le_of_ble_eq_true rfl⟩) ⟨fun a U f mk q => ⟨q.1, MI.blind f mk a q.2⟩, va_recv hK hP (ci := 7) (q0 := 0) rfl mw_0, fun U hU hW => ⟨rfl, hI.at hS hP hU hW⟩⟩ rfl rfl hl.1 rfl (lv_room (Nat.le_of_ble_eq_true rfl)) dX7_drawn_42 ⟨Nat.zero_le _, Nat.zero_le _⟩) hS (fun q _ h => h) (fun q h => h) (fun r_42 u_42 t_42 H locs ht_42 _ hw_42 hB_42 _ _ hS => ?_)
          obtain ⟨g_42, gl_42⟩ := u_42
          have hP : va_P (yD Z) vwCl (mw Z g_42 gl_42) H := ht_42 ▸ hB_42
          obtain ⟨hf_42, hJ, hr_42⟩ := hw_42
          have hF := hF.tr hf_42 (by decide)
          dsimp only at hf_42 hJ hF hr_42
          exact W.iret (v := r_42) hx hb hr (fun t ht hW => ⟨⟨r_42, (g_42, gl_42), rfl, ⟨hF, hJ, (by (try dsimp only); first | done | exact ⟨Or.inr (Or.inr ⟨dok, c_30, hr_42.1⟩), hr_42.2⟩)⟩, by show va_P (yD Z) vwCl (mw Z g_42 gl_42) t.heap; rw [ht]; exact hP⟩, hS.F ht⟩) hS.2.2 dX7_drawn_45
        · skip
          have i_30 := ti_eqk rfl tk_0 c_30
          refine lv_bipush (v := (-103)) hx hb dX7_drawn_33 (by decide) ?_
          refine lv_goto (tgt := 45) hx hb dX7_drawn_35 (by decide) ?_
          exact W.iret (v := (-103)) hx hb hr (fun t ht hW => ⟨⟨(-103), (g, gl), rfl, ⟨hF, hJ, (by (try dsimp only); first | done | exact ⟨Or.inr (Or.inl ⟨dok, c_30, rfl, rfl⟩), h40⟩)⟩, by show va_P (yD Z) vwCl (mw Z g gl) t.heap; rw [ht]; exact hP⟩, hS.F ht⟩) hS.2.2 dX7_drawn_45
      · skip
        (try simp only [tk_0, tk_2] at b_17)
        refine lv_if_ne (tgt := 26) hx hb dX7_drawn_20 (by decide) (fun c_20 => absurd c_20 (by decide)) (fun c_20 => ?_)
        refine lv_bipush (v := (-102)) hx hb dX7_drawn_23 (by decide) ?_
        exact W.iret (v := (-102)) hx hb hr (fun t ht hW => ⟨⟨(-102), (g, gl), rfl, ⟨hF, hJ, (by (try dsimp only); first | done | exact ⟨Or.inl ⟨by omega, rfl, rfl⟩, h40⟩)⟩, by show va_P (yD Z) vwCl (mw Z g gl) t.heap; rw [ht]; exact hP⟩, hS.F ht⟩) hS.2.2 dX7_drawn_25
  · skip
    (try simp only [tk_1, tk_30] at b_4)
    refine lv_if_eq (tgt := 23) hx hb dX7_drawn_7 (by decide) (fun c_7 => ?_) (fun c_7 => absurd c_7 (by decide))
    refine lv_bipush (v := (-102)) hx hb dX7_drawn_23 (by decide) ?_
    exact W.iret (v := (-102)) hx hb hr (fun t ht hW => ⟨⟨(-102), (g, gl), rfl, ⟨hF, hJ, (by (try dsimp only); first | done | exact ⟨Or.inl ⟨by omega, rfl, rfl⟩, h40⟩)⟩, by show va_P (yD Z) vwCl (mw Z g gl) t.heap; rw [ht]; exact hP⟩, hS.F ht⟩) hS.2.2 dX7_drawn_25
set_option maxHeartbeats 4000000 in
set_option maxRecDepth 100000 in
theorem c_X7_image (l : Launch) (Z : YT) (hZ : MG Z) (g : Nat → Nat → Int32) (gl : Nat → Nat → Int64) (h40 : (g 31 0).toInt ≤ 40) (hJ : MJ g) : Met l yX7_image (Cond.code yX7_image cX7_image 2 (some .int) :: wsL_law) ({ frames := 0, cells := 0, slots := 0, locals := 0 } : Room) (va_Pc [.ref (ya Z 0)] (MI Z g gl)) (va_Qi (fun (r : Int32) (u : (Nat → Nat → Int32) × (Nat → Nat → Int64)) => Fr [12, 13, 14, 15, 16, 17, 18, 19, 48, 49, 50, 51] g u.1 ∧ MJ u.1 ∧ gl = u.2 ∧ ((g 30 0 = 0 ∧ r = -103 ∧ u.1 = g) ∨ (¬ g 30 0 = 0 ∧ r = g 31 0 ∧ (u.1 48 0 = 1 ∧ u.1 49 0 = g 30 0 ∧ u.1 50 0 = g 31 0 ∧ u.1 51 0 = g 38 0) ∧ (∀ t : Nat, (t : Int) < 40 → ∀ k, k < 5 → u.1 (k + 12) t = g (k + 1) t) ∧ (∀ t : Nat, (t : Int) < 6 → ∀ k, k < 3 → u.1 (k + 17) t = g (k + 7) t)))) (fun u t => va_P (yD Z) vwCl (mw Z u.1 u.2) t.heap) (yA Z)) 0 0 (yA Z) := by
  refine Met.ofW (cc := cX7_image) (maxL := 2) (ret := (some .int)) (by decide) rfl ?_
  intro p e s m args below meth c s₁ B hml hv
  obtain ⟨rfl, hI⟩ := hv
  have hx := B.exec
  have hb := B.bytes
  have hr := B.returns
  have hT : ∀ w ∈ wsL_law, w.before ([.ref (ya Z 0)] : List Value).toArray s = true := fun w h => atoms_spec (ws := (Cond.code yX7_image cX7_image 2 (some .int) :: wsL_law)) B.pre w (List.mem_cons_of_mem _ h)
  have hown : s.vm.findClass RX7 = some m.cls := findClass_of_methodNamed B.named
  have hlocks := B.notSynchronized
  have hK := hI.2
  have hP := hI.1
  have hS : va_S (yA Z) s.heap s.heap [] := va_S.rf
  have hF : Fr [12, 13, 14, 15, 16, 17, 18, 19, 48, 49, 50, 51] g g := Fr.rf
  have j31 := hJ.j31
  have j38 := hJ.j38
  have hl := lv_entry ([.ref (ya Z 0)]) (n := 2) (Nat.le_of_ble_eq_true rfl)
  rw [lg_entry_eq]
  generalize (lg_sl ([.ref (ya Z 0)]) ++ List.replicate (2 - (lg_sl ([.ref (ya Z 0)])).length) Slot.unset).toArray = ls at hl ⊢
  have hl : lv_has ls 2 [(0, .ref (ya Z 0))] := hl
  have L115 : ∀ (n : Nat) (z1 : Int32) (g1 : Nat → Nat → Int32) (H : Heap) (locs : List Loc) (hP : va_P (yD Z) vwCl (mw Z g1 gl) H) (hF : Fr [12, 13, 14, 15, 16, 17, 18, 19, 48, 49, 50, 51] g g1) (hJ : MJ g1) (hS : va_S (yA Z) s.heap H locs) (h1 : 0 ≤ z1.toInt) (hne : ¬ g 30 0 = 0) (hk : g1 48 0 = 1 ∧ g1 49 0 = g 30 0 ∧ g1 50 0 = g 31 0 ∧ g1 51 0 = g 38 0) (hA : ∀ t : Nat, (t : Int) < 40 → ∀ k, k < 5 → g1 (k + 12) t = g (k + 1) t) (hB : ∀ t : Nat, (t : Int) < z1.toInt → ∀ k, k < 3 → g1 (k + 17) t = g (k + 7) t) (hn : (6 - z1.toInt).toNat < n) (ls : Array Slot) (hl : lv_has ls 2 [(0, .ref (ya Z 0)), (1, .int z1)]), W p l e ({ frames := 0, cells := 0, slots := 0, locals := 0 } : Room) s m ([.ref (ya Z 0)] : List Value).toArray below meth c H locs 0 0 (MQ below (va_Qi (fun (r : Int32) (u : (Nat → Nat → Int32) × (Nat → Nat → Int64)) => Fr [12, 13, 14, 15, 16, 17, 18, 19, 48, 49, 50, 51] g u.1 ∧ MJ u.1 ∧ gl = u.2 ∧ ((g 30 0 = 0 ∧ r = -103 ∧ u.1 = g) ∨ (¬ g 30 0 = 0 ∧ r = g 31 0 ∧ (u.1 48 0 = 1 ∧ u.1 49 0 = g 30 0 ∧ u.1 50 0 = g 31 0 ∧ u.1 51 0 = g 38 0) ∧ (∀ t : Nat, (t : Int) < 40 → ∀ k, k < 5 → u.1 (k + 12) t = g (k + 1) t) ∧ (∀ t : Nat, (t : Int) < 6 → ∀ k, k < 3 → u.1 (k + 17) t = g (k + 7) t)))) (fun u t => va_P (yD Z) vwCl (mw Z u.1 u.2) t.heap) (yA Z)) ([.ref (ya Z 0)] : List Value).toArray s 0 0 (yA Z)) (F0 m 115 ls []) := by
    intro n
    induction n with
    | zero => intro z1 g1 H locs hP hF hJ hS h1 hne hk hA hB hn; exact absurd hn (Nat.not_lt_zero _)
    | succ n ih115 =>
      intro z1 g1 H locs hP hF hJ hS h1 hne hk hA hB hn ls hl
      have hF_ := hF
      refine lv_iload_n hx hb dX7_image_115 rfl (lv_at hl 1 rfl) ?_
      refine lv_bipush (v := 6) hx hb dX7_image_116 (by decide) ?_
      refine lv_icmp_ge (tgt := 163) hx hb dX7_image_118 (by decide) (fun c_118 => ?_) (fun c_118 => ?_)
      · skip
        have i_118 := ti_lek tk_6 rfl c_118
        refine lv_aload_n hx hb dX7_image_163 rfl (lv_at hl 0 rfl) ?_
        refine va_get (D := yD Z) (ci := 7) (v := .int (g1 31 0)) (C := RX7) (T := TX7) (N := 31) hx hb hT inlX7 hown hK hP 0 mw_0 rfl 1 (by decide) (hT _ (tr_17 _ (List.mem_of_getElem? (i := 14) rfl))) (fun _ h9 => h9) rfl dX7_image_164 ?_
        exact W.iret (v := (g1 31 0)) hx hb hr (fun t ht hW => ⟨⟨(g1 31 0), (g1, gl), rfl, ⟨hF, hJ, rfl, (by (try dsimp only); first | done | exact Or.inr ⟨hne, congrFun (hF_ 31 (by decide)) 0, hk, hA, fun t ht => hB t (by omega)⟩)⟩, by show va_P (yD Z) vwCl (mw Z g1 gl) t.heap; rw [ht]; exact hP⟩, hS.F ht⟩) hS.2.2 dX7_image_167
      · skip
        have i_118 := ti_nlek tk_6 rfl c_118
        refine lv_aload_n hx hb dX7_image_121 rfl (lv_at hl 0 rfl) ?_
        refine va_get (D := yD Z) (ci := 7) (v := .ref (ya Z 17)) (C := RX7) (T := TX7) (N := 31) hx hb hT inlX7 hown hK hP 0 mw_0 rfl 27 (by decide) (hT _ (tr_5 _ (List.mem_of_getElem? (i := 6) rfl))) (fun _ h9 => h9) rfl dX7_image_122 ?_
        refine lv_iload_n hx hb dX7_image_125 rfl (lv_at hl 1 rfl) ?_
        refine lv_aload_n hx hb dX7_image_126 rfl (lv_at hl 0 rfl) ?_
        refine va_get (D := yD Z) (ci := 7) (v := .ref (ya Z 7)) (C := RX7) (T := TX7) (N := 31) hx hb hT inlX7 hown hK hP 0 mw_0 rfl 9 (by decide) (hT _ (tr_4 _ (List.mem_of_getElem? (i := 19) rfl))) (fun _ h9 => h9) rfl dX7_image_127 ?_
        refine lv_iload_n hx hb dX7_image_130 rfl (lv_at hl 1 rfl) ?_
        have h_131 : vp_in z1 6 := (ti_vp (by omega) (by omega))
        refine va_iald hx hb hK hP 7 1 mw_7 rfl h_131 dX7_image_131 ?_
        refine lv_topi (fun v_131 e_131 => ?_)
        have h_132 : vp_in z1 6 := (ti_vp (by omega) (by omega))
        refine va_iast hx hb hK hP hZ.D hS 17 1 mw_17 rfl h_132 dX7_image_132 (fun H locs hP _ hS => ?_)
        replace hP := ms_17 hP
        have hF := hF.uR (i := 17) (r := upd (g1 17) z1.toNatClampNeg v_131) (by decide)
        have hJ := hJ.au (i := 17) (r := upd (g1 17) z1.toNatClampNeg v_131) (by decide)
        refine lv_aload_n hx hb dX7_image_133 rfl (lv_at hl 0 rfl) ?_
        refine va_get (D := yD Z) (ci := 7) (v := .ref (ya Z 18)) (C := RX7) (T := TX7) (N := 31) hx hb hT inlX7 hown hK hP 0 mw_0 rfl 28 (by decide) (hT _ (tr_5 _ (List.mem_of_getElem? (i := 7) rfl))) (fun _ h9 => h9) rfl dX7_image_134 ?_
        refine lv_iload_n hx hb dX7_image_137 rfl (lv_at hl 1 rfl) ?_
        refine lv_aload_n hx hb dX7_image_138 rfl (lv_at hl 0 rfl) ?_
        refine va_get (D := yD Z) (ci := 7) (v := .ref (ya Z 8)) (C := RX7) (T := TX7) (N := 31) hx hb hT inlX7 hown hK hP 0 mw_0 rfl 10 (by decide) (hT _ (tr_4 _ (List.mem_of_getElem? (i := 20) rfl))) (fun _ h9 => h9) rfl dX7_image_139 ?_
        refine lv_iload_n hx hb dX7_image_142 rfl (lv_at hl 1 rfl) ?_
        have h_143 : vp_in z1 6 := (ti_vp (by omega) (by omega))
        refine va_iald hx hb hK hP 8 1 mw_8 rfl h_143 dX7_image_143 ?_
        refine lv_topi (fun v_143 e_143 => ?_)
        have h_144 : vp_in z1 6 := (ti_vp (by omega) (by omega))
        refine va_iast hx hb hK hP hZ.D hS 18 1 mw_18 rfl h_144 dX7_image_144 (fun H locs hP _ hS => ?_)
        replace hP := ms_18 hP
        have hF := hF.uR (i := 18) (r := upd (g1 18) z1.toNatClampNeg v_143) (by decide)
        have hJ := hJ.au (i := 18) (r := upd (g1 18) z1.toNatClampNeg v_143) (by decide)
        refine lv_aload_n hx hb dX7_image_145 rfl (lv_at hl 0 rfl) ?_
        refine va_get (D := yD Z) (ci := 7) (v := .ref (ya Z 19)) (C := RX7) (T := TX7) (N := 31) hx hb hT inlX7 hown hK hP 0 mw_0 rfl 29 (by decide) (hT _ (tr_5 _ (List.mem_of_getElem? (i := 8) rfl))) (fun _ h9 => h9) rfl dX7_image_146 ?_
        refine lv_iload_n hx hb dX7_image_149 rfl (lv_at hl 1 rfl) ?_
        refine lv_aload_n hx hb dX7_image_150 rfl (lv_at hl 0 rfl) ?_
        refine va_get (D := yD Z) (ci := 7) (v := .ref (ya Z 9)) (C := RX7) (T := TX7) (N := 31) hx hb hT inlX7 hown hK hP 0 mw_0 rfl 11 (by decide) (hT _ (tr_4 _ (List.mem_of_getElem? (i := 21) rfl))) (fun _ h9 => h9) rfl dX7_image_151 ?_
        refine lv_iload_n hx hb dX7_image_154 rfl (lv_at hl 1 rfl) ?_
        have h_155 : vp_in z1 6 := (ti_vp (by omega) (by omega))
        refine va_iald hx hb hK hP 9 1 mw_9 rfl h_155 dX7_image_155 ?_
        refine lv_topi (fun v_155 e_155 => ?_)
        have h_156 : vp_in z1 6 := (ti_vp (by omega) (by omega))
        refine va_iast hx hb hK hP hZ.D hS 19 1 mw_19 rfl h_156 dX7_image_156 (fun H locs hP _ hS => ?_)
        replace hP := ms_19 hP
        have hF := hF.uR (i := 19) (r := upd (g1 19) z1.toNatClampNeg v_155) (by decide)
        have hJ := hJ.au (i := 19) (r := upd (g1 19) z1.toNatClampNeg v_155) (by decide)
        obtain ⟨v_157, e_157⟩ : ∃ y : Int32, y = z1 + 1 := ⟨_, rfl⟩
        refine lv_iinc (v := v_157) (lv' := [(1, .int v_157), (0, .ref (ya Z 0))]) hx hb dX7_image_157 hl (k := 1) rfl (by rw [e_157]; rfl) (by decide) rfl (fun ls hl => ?_)
        have t_157 := ti_addk rfl tk_1 (by omega) (by omega) e_157
        refine lv_goto (tgt := 115) hx hb dX7_image_160 (by decide) ?_
        exact ih115 v_157 (upR (upR (upR g1 17 (upd (g1 17) z1.toNatClampNeg v_131)) 18 (upd (g1 18) z1.toNatClampNeg v_143)) 19 (upd (g1 19) z1.toNatClampNeg v_155)) _ _ hP hF hJ hS (by first | assumption | omega | decide) (by first | assumption | omega | decide) hk (fun t ht k hk => by match k, hk with | 0, _ => exact hA t (by omega) 0 (by decide) | 1, _ => exact hA t (by omega) 1 (by decide) | 2, _ => exact hA t (by omega) 2 (by decide) | 3, _ => exact hA t (by omega) 3 (by decide) | 4, _ => exact hA t (by omega) 4 (by decide)) (fun t ht k hk => by
            match k, hk with
            | 0, _ =>
              show upd (g1 17) z1.toNatClampNeg v_131 t = g 7 t
              by_cases y : t = z1.toNatClampNeg
              · subst y; rw [pk_us, e_131]; exact congrFun (hF_ 7 (by decide)) _
              · rw [pk_un y]; exact hB t (by have y2 : ¬ (t : Int) = z1.toInt := (fun y3 => y (ti_clamp y3.symm).symm); omega) 0 (by decide)
            | 1, _ =>
              show upd (g1 18) z1.toNatClampNeg v_143 t = g 8 t
              by_cases y : t = z1.toNatClampNeg
              · subst y; rw [pk_us, e_143]; exact congrFun (hF_ 8 (by decide)) _
              · rw [pk_un y]; exact hB t (by have y2 : ¬ (t : Int) = z1.toInt := (fun y3 => y (ti_clamp y3.symm).symm); omega) 1 (by decide)
            | 2, _ =>
              show upd (g1 19) z1.toNatClampNeg v_155 t = g 9 t
              by_cases y : t = z1.toNatClampNeg
              · subst y; rw [pk_us, e_155]; exact congrFun (hF_ 9 (by decide)) _
              · rw [pk_un y]; exact hB t (by have y2 : ¬ (t : Int) = z1.toInt := (fun y3 => y (ti_clamp y3.symm).symm); omega) 2 (by decide)) (by omega) ls (lv_sub hl [1, 0] rfl)
  have L41 : ∀ (n : Nat) (z1 : Int32) (g1 : Nat → Nat → Int32) (H : Heap) (locs : List Loc) (hP : va_P (yD Z) vwCl (mw Z g1 gl) H) (hF : Fr [12, 13, 14, 15, 16, 17, 18, 19, 48, 49, 50, 51] g g1) (hJ : MJ g1) (hS : va_S (yA Z) s.heap H locs) (h1 : 0 ≤ z1.toInt) (hne : ¬ g 30 0 = 0) (hk : g1 48 0 = 1 ∧ g1 49 0 = g 30 0 ∧ g1 50 0 = g 31 0 ∧ g1 51 0 = g 38 0) (hA : ∀ t : Nat, (t : Int) < z1.toInt → ∀ k, k < 5 → g1 (k + 12) t = g (k + 1) t) (hn : (40 - z1.toInt).toNat < n) (ls : Array Slot) (hl : lv_has ls 2 [(0, .ref (ya Z 0)), (1, .int z1)]), W p l e ({ frames := 0, cells := 0, slots := 0, locals := 0 } : Room) s m ([.ref (ya Z 0)] : List Value).toArray below meth c H locs 0 0 (MQ below (va_Qi (fun (r : Int32) (u : (Nat → Nat → Int32) × (Nat → Nat → Int64)) => Fr [12, 13, 14, 15, 16, 17, 18, 19, 48, 49, 50, 51] g u.1 ∧ MJ u.1 ∧ gl = u.2 ∧ ((g 30 0 = 0 ∧ r = -103 ∧ u.1 = g) ∨ (¬ g 30 0 = 0 ∧ r = g 31 0 ∧ (u.1 48 0 = 1 ∧ u.1 49 0 = g 30 0 ∧ u.1 50 0 = g 31 0 ∧ u.1 51 0 = g 38 0) ∧ (∀ t : Nat, (t : Int) < 40 → ∀ k, k < 5 → u.1 (k + 12) t = g (k + 1) t) ∧ (∀ t : Nat, (t : Int) < 6 → ∀ k, k < 3 → u.1 (k + 17) t = g (k + 7) t)))) (fun u t => va_P (yD Z) vwCl (mw Z u.1 u.2) t.heap) (yA Z)) ([.ref (ya Z 0)] : List Value).toArray s 0 0 (yA Z)) (F0 m 41 ls []) := by
    intro n
    induction n with
    | zero => intro z1 g1 H locs hP hF hJ hS h1 hne hk hA hn; exact absurd hn (Nat.not_lt_zero _)
    | succ n ih41 =>
      intro z1 g1 H locs hP hF hJ hS h1 hne hk hA hn ls hl
      have hF_ := hF
      refine lv_iload_n hx hb dX7_image_41 rfl (lv_at hl 1 rfl) ?_
      refine lv_bipush (v := 40) hx hb dX7_image_42 (by decide) ?_
      refine lv_icmp_ge (tgt := 113) hx hb dX7_image_44 (by decide) (fun c_44 => ?_) (fun c_44 => ?_)
      · skip
        have i_44 := ti_lek tk_40 rfl c_44
        refine lv_iconst (v := 0) hx hb dX7_image_113 (by decide) ?_
        refine lv_istore_n (lv' := [(1, .int 0), (0, .ref (ya Z 0))]) hx hb dX7_image_114 rfl hl (by decide) rfl (fun ls hl => ?_)
        exact L115 _ 0 g1 _ _ hP hF hJ hS (by first | assumption | omega | decide) (by first | assumption | omega | decide) hk (fun t ht => hA t (by omega)) (fun t ht => by rw [tk_0] at ht; omega) (Nat.lt_succ_self _) ls (lv_sub hl [1, 0] rfl)
      · skip
        have i_44 := ti_nlek tk_40 rfl c_44
        refine lv_aload_n hx hb dX7_image_47 rfl (lv_at hl 0 rfl) ?_
        refine va_get (D := yD Z) (ci := 7) (v := .ref (ya Z 12)) (C := RX7) (T := TX7) (N := 31) hx hb hT inlX7 hown hK hP 0 mw_0 rfl 22 (by decide) (hT _ (tr_5 _ (List.mem_of_getElem? (i := 1) rfl))) (fun _ h9 => h9) rfl dX7_image_48 ?_
        refine lv_iload_n hx hb dX7_image_51 rfl (lv_at hl 1 rfl) ?_
        refine lv_aload_n hx hb dX7_image_52 rfl (lv_at hl 0 rfl) ?_
        refine va_get (D := yD Z) (ci := 7) (v := .ref (ya Z 1)) (C := RX7) (T := TX7) (N := 31) hx hb hT inlX7 hown hK hP 0 mw_0 rfl 2 (by decide) (hT _ (tr_4 _ (List.mem_of_getElem? (i := 13) rfl))) (fun _ h9 => h9) rfl dX7_image_53 ?_
        refine lv_iload_n hx hb dX7_image_56 rfl (lv_at hl 1 rfl) ?_
        have h_57 : vp_in z1 70 := (ti_vp (by omega) (by omega))
        refine va_iald hx hb hK hP 1 1 mw_1 rfl h_57 dX7_image_57 ?_
        refine lv_topi (fun v_57 e_57 => ?_)
        have h_58 : vp_in z1 40 := (ti_vp (by omega) (by omega))
        refine va_iast hx hb hK hP hZ.D hS 12 1 mw_12 rfl h_58 dX7_image_58 (fun H locs hP _ hS => ?_)
        replace hP := ms_12 hP
        have hF := hF.uR (i := 12) (r := upd (g1 12) z1.toNatClampNeg v_57) (by decide)
        have hJ := hJ.au (i := 12) (r := upd (g1 12) z1.toNatClampNeg v_57) (by decide)
        refine lv_aload_n hx hb dX7_image_59 rfl (lv_at hl 0 rfl) ?_
        refine va_get (D := yD Z) (ci := 7) (v := .ref (ya Z 13)) (C := RX7) (T := TX7) (N := 31) hx hb hT inlX7 hown hK hP 0 mw_0 rfl 23 (by decide) (hT _ (tr_5 _ (List.mem_of_getElem? (i := 2) rfl))) (fun _ h9 => h9) rfl dX7_image_60 ?_
        refine lv_iload_n hx hb dX7_image_63 rfl (lv_at hl 1 rfl) ?_
        refine lv_aload_n hx hb dX7_image_64 rfl (lv_at hl 0 rfl) ?_
        refine va_get (D := yD Z) (ci := 7) (v := .ref (ya Z 2)) (C := RX7) (T := TX7) (N := 31) hx hb hT inlX7 hown hK hP 0 mw_0 rfl 3 (by decide) (hT _ (tr_4 _ (List.mem_of_getElem? (i := 14) rfl))) (fun _ h9 => h9) rfl dX7_image_65 ?_
        refine lv_iload_n hx hb dX7_image_68 rfl (lv_at hl 1 rfl) ?_
        have h_69 : vp_in z1 70 := (ti_vp (by omega) (by omega))
        refine va_iald hx hb hK hP 2 1 mw_2 rfl h_69 dX7_image_69 ?_
        refine lv_topi (fun v_69 e_69 => ?_)
        have h_70 : vp_in z1 40 := (ti_vp (by omega) (by omega))
        refine va_iast hx hb hK hP hZ.D hS 13 1 mw_13 rfl h_70 dX7_image_70 (fun H locs hP _ hS => ?_)
        replace hP := ms_13 hP
        have hF := hF.uR (i := 13) (r := upd (g1 13) z1.toNatClampNeg v_69) (by decide)
        have hJ := hJ.au (i := 13) (r := upd (g1 13) z1.toNatClampNeg v_69) (by decide)
        refine lv_aload_n hx hb dX7_image_71 rfl (lv_at hl 0 rfl) ?_
        refine va_get (D := yD Z) (ci := 7) (v := .ref (ya Z 14)) (C := RX7) (T := TX7) (N := 31) hx hb hT inlX7 hown hK hP 0 mw_0 rfl 24 (by decide) (hT _ (tr_5 _ (List.mem_of_getElem? (i := 3) rfl))) (fun _ h9 => h9) rfl dX7_image_72 ?_
        refine lv_iload_n hx hb dX7_image_75 rfl (lv_at hl 1 rfl) ?_
        refine lv_aload_n hx hb dX7_image_76 rfl (lv_at hl 0 rfl) ?_
        refine va_get (D := yD Z) (ci := 7) (v := .ref (ya Z 3)) (C := RX7) (T := TX7) (N := 31) hx hb hT inlX7 hown hK hP 0 mw_0 rfl 4 (by decide) (hT _ (tr_4 _ (List.mem_of_getElem? (i := 15) rfl))) (fun _ h9 => h9) rfl dX7_image_77 ?_
        refine lv_iload_n hx hb dX7_image_80 rfl (lv_at hl 1 rfl) ?_
        have h_81 : vp_in z1 70 := (ti_vp (by omega) (by omega))
        refine va_iald hx hb hK hP 3 1 mw_3 rfl h_81 dX7_image_81 ?_
        refine lv_topi (fun v_81 e_81 => ?_)
        have h_82 : vp_in z1 40 := (ti_vp (by omega) (by omega))
        refine va_iast hx hb hK hP hZ.D hS 14 1 mw_14 rfl h_82 dX7_image_82 (fun H locs hP _ hS => ?_)
        replace hP := ms_14 hP
        have hF := hF.uR (i := 14) (r := upd (g1 14) z1.toNatClampNeg v_81) (by decide)
        have hJ := hJ.au (i := 14) (r := upd (g1 14) z1.toNatClampNeg v_81) (by decide)
        refine lv_aload_n hx hb dX7_image_83 rfl (lv_at hl 0 rfl) ?_
        refine va_get (D := yD Z) (ci := 7) (v := .ref (ya Z 15)) (C := RX7) (T := TX7) (N := 31) hx hb hT inlX7 hown hK hP 0 mw_0 rfl 25 (by decide) (hT _ (tr_5 _ (List.mem_of_getElem? (i := 4) rfl))) (fun _ h9 => h9) rfl dX7_image_84 ?_
        refine lv_iload_n hx hb dX7_image_87 rfl (lv_at hl 1 rfl) ?_
        refine lv_aload_n hx hb dX7_image_88 rfl (lv_at hl 0 rfl) ?_
        refine va_get (D := yD Z) (ci := 7) (v := .ref (ya Z 4)) (C := RX7) (T := TX7) (N := 31) hx hb hT inlX7 hown hK hP 0 mw_0 rfl 5 (by decide) (hT _ (tr_4 _ (List.mem_of_getElem? (i := 16) rfl))) (fun _ h9 => h9) rfl dX7_image_89 ?_
        refine lv_iload_n hx hb dX7_image_92 rfl (lv_at hl 1 rfl) ?_
        have h_93 : vp_in z1 70 := (ti_vp (by omega) (by omega))
        refine va_iald hx hb hK hP 4 1 mw_4 rfl h_93 dX7_image_93 ?_
        refine lv_topi (fun v_93 e_93 => ?_)
        have h_94 : vp_in z1 40 := (ti_vp (by omega) (by omega))
        refine va_iast hx hb hK hP hZ.D hS 15 1 mw_15 rfl h_94 dX7_image_94 (fun H locs hP _ hS => ?_)
        replace hP := ms_15 hP
        have hF := hF.uR (i := 15) (r := upd (g1 15) z1.toNatClampNeg v_93) (by decide)
        have hJ := hJ.a15 (k := z1.toNatClampNeg) (v := v_93) (by rw [e_93]; exact hJ.j4 _)
        refine lv_aload_n hx hb dX7_image_95 rfl (lv_at hl 0 rfl) ?_
        refine va_get (D := yD Z) (ci := 7) (v := .ref (ya Z 16)) (C := RX7) (T := TX7) (N := 31) hx hb hT inlX7 hown hK hP 0 mw_0 rfl 26 (by decide) (hT _ (tr_5 _ (List.mem_of_getElem? (i := 5) rfl))) (fun _ h9 => h9) rfl dX7_image_96 ?_
        refine lv_iload_n hx hb dX7_image_99 rfl (lv_at hl 1 rfl) ?_
        refine lv_aload_n hx hb dX7_image_100 rfl (lv_at hl 0 rfl) ?_
        refine va_get (D := yD Z) (ci := 7) (v := .ref (ya Z 5)) (C := RX7) (T := TX7) (N := 31) hx hb hT inlX7 hown hK hP 0 mw_0 rfl 6 (by decide) (hT _ (tr_4 _ (List.mem_of_getElem? (i := 17) rfl))) (fun _ h9 => h9) rfl dX7_image_101 ?_
        refine lv_iload_n hx hb dX7_image_104 rfl (lv_at hl 1 rfl) ?_
        have h_105 : vp_in z1 70 := (ti_vp (by omega) (by omega))
        refine va_iald hx hb hK hP 5 1 mw_5 rfl h_105 dX7_image_105 ?_
        refine lv_topi (fun v_105 e_105 => ?_)
        have h_106 : vp_in z1 40 := (ti_vp (by omega) (by omega))
        refine va_iast hx hb hK hP hZ.D hS 16 1 mw_16 rfl h_106 dX7_image_106 (fun H locs hP _ hS => ?_)
        replace hP := ms_16 hP
        have hF := hF.uR (i := 16) (r := upd (g1 16) z1.toNatClampNeg v_105) (by decide)
        have hJ := hJ.a16 (k := z1.toNatClampNeg) (v := v_105) (by rw [e_105]; exact hJ.j5 _)
        obtain ⟨v_107, e_107⟩ : ∃ y : Int32, y = z1 + 1 := ⟨_, rfl⟩
        refine lv_iinc (v := v_107) (lv' := [(1, .int v_107), (0, .ref (ya Z 0))]) hx hb dX7_image_107 hl (k := 1) rfl (by rw [e_107]; rfl) (by decide) rfl (fun ls hl => ?_)
        have t_107 := ti_addk rfl tk_1 (by omega) (by omega) e_107
        refine lv_goto (tgt := 41) hx hb dX7_image_110 (by decide) ?_
        exact ih41 v_107 (upR (upR (upR (upR (upR g1 12 (upd (g1 12) z1.toNatClampNeg v_57)) 13 (upd (g1 13) z1.toNatClampNeg v_69)) 14 (upd (g1 14) z1.toNatClampNeg v_81)) 15 (upd (g1 15) z1.toNatClampNeg v_93)) 16 (upd (g1 16) z1.toNatClampNeg v_105)) _ _ hP hF hJ hS (by first | assumption | omega | decide) hne hk (fun t ht k hk => by
            match k, hk with
            | 0, _ =>
              show upd (g1 12) z1.toNatClampNeg v_57 t = g 1 t
              by_cases y : t = z1.toNatClampNeg
              · subst y; rw [pk_us, e_57]; exact congrFun (hF_ 1 (by decide)) _
              · rw [pk_un y]; exact hA t (by have y2 : ¬ (t : Int) = z1.toInt := (fun y3 => y (ti_clamp y3.symm).symm); omega) 0 (by decide)
            | 1, _ =>
              show upd (g1 13) z1.toNatClampNeg v_69 t = g 2 t
              by_cases y : t = z1.toNatClampNeg
              · subst y; rw [pk_us, e_69]; exact congrFun (hF_ 2 (by decide)) _
              · rw [pk_un y]; exact hA t (by have y2 : ¬ (t : Int) = z1.toInt := (fun y3 => y (ti_clamp y3.symm).symm); omega) 1 (by decide)
            | 2, _ =>
              show upd (g1 14) z1.toNatClampNeg v_81 t = g 3 t
              by_cases y : t = z1.toNatClampNeg
              · subst y; rw [pk_us, e_81]; exact congrFun (hF_ 3 (by decide)) _
              · rw [pk_un y]; exact hA t (by have y2 : ¬ (t : Int) = z1.toInt := (fun y3 => y (ti_clamp y3.symm).symm); omega) 2 (by decide)
            | 3, _ =>
              show upd (g1 15) z1.toNatClampNeg v_93 t = g 4 t
              by_cases y : t = z1.toNatClampNeg
              · subst y; rw [pk_us, e_93]; exact congrFun (hF_ 4 (by decide)) _
              · rw [pk_un y]; exact hA t (by have y2 : ¬ (t : Int) = z1.toInt := (fun y3 => y (ti_clamp y3.symm).symm); omega) 3 (by decide)
            | 4, _ =>
              show upd (g1 16) z1.toNatClampNeg v_105 t = g 5 t
              by_cases y : t = z1.toNatClampNeg
              · subst y; rw [pk_us, e_105]; exact congrFun (hF_ 5 (by decide)) _
              · rw [pk_un y]; exact hA t (by have y2 : ¬ (t : Int) = z1.toInt := (fun y3 => y (ti_clamp y3.symm).symm); omega) 4 (by decide)) (by omega) ls (lv_sub hl [1, 0] rfl)
  refine lv_aload_n hx hb dX7_image_0 rfl (lv_at hl 0 rfl) ?_
  refine va_get (D := yD Z) (ci := 7) (v := .int (g 30 0)) (C := RX7) (T := TX7) (N := 31) hx hb hT inlX7 hown hK hP 0 mw_0 rfl 0 (by decide) (hT _ (tr_17 _ (List.mem_of_getElem? (i := 15) rfl))) (fun _ h9 => h9) rfl dX7_image_1 ?_
  refine lv_if_ne (tgt := 10) hx hb dX7_image_4 (by decide) (fun c_4 => ?_) (fun c_4 => ?_)
  · skip
    have i_4 := ti_nek rfl tk_0 c_4
    refine lv_aload_n hx hb dX7_image_10 rfl (lv_at hl 0 rfl) ?_
    refine lv_iconst (v := 1) hx hb dX7_image_11 (by decide) ?_
    refine va_put (D := yD Z) (ci := 7) (v := .int 1) (ty := .boolean) (C := RX7) (T := TX7) (N := 31) hx hb hT inlX7 tyX7 tyX7_ok nmX7 hown hK hP hZ.D hS 0 mw_0 rfl 18 (by decide) (hT _ (tr_36 _ (List.mem_of_getElem? (i := 0) rfl))) (fun _ h9 => h9) rfl (by decide +kernel) rfl rfl (Nat.le_of_ble_eq_true rfl) dX7_image_12 (fun H locs hP _ hS => ?_)
    replace hP := mf_18 hP
    have hF := hF.u2 (i := 48) (k := 0) (v := 1) (by decide)
    have hJ := hJ.pu (i := 48) (v := 1) (by decide)
    refine lv_aload_n hx hb dX7_image_15 rfl (lv_at hl 0 rfl) ?_
    refine lv_aload_n hx hb dX7_image_16 rfl (lv_at hl 0 rfl) ?_
    refine va_get (D := yD Z) (ci := 7) (v := .int (g 30 0)) (C := RX7) (T := TX7) (N := 31) hx hb hT inlX7 hown hK hP 0 mw_0 rfl 0 (by decide) (hT _ (tr_17 _ (List.mem_of_getElem? (i := 15) rfl))) (fun _ h9 => h9) rfl dX7_image_17 ?_
    refine va_put (D := yD Z) (ci := 7) (v := .int (g 30 0)) (ty := .int) (C := RX7) (T := TX7) (N := 31) hx hb hT inlX7 tyX7 tyX7_ok nmX7 hown hK hP hZ.D hS 0 mw_0 rfl 19 (by decide) (hT _ (tr_36 _ (List.mem_of_getElem? (i := 1) rfl))) (fun _ h9 => h9) rfl (by decide +kernel) rfl rfl (Nat.le_of_ble_eq_true rfl) dX7_image_20 (fun H locs hP _ hS => ?_)
    replace hP := mf_19 hP
    have hF := hF.u2 (i := 49) (k := 0) (v := (g 30 0)) (by decide)
    have hJ := hJ.pu (i := 49) (v := (g 30 0)) (by decide)
    refine lv_aload_n hx hb dX7_image_23 rfl (lv_at hl 0 rfl) ?_
    refine lv_aload_n hx hb dX7_image_24 rfl (lv_at hl 0 rfl) ?_
    refine va_get (D := yD Z) (ci := 7) (v := .int (g 31 0)) (C := RX7) (T := TX7) (N := 31) hx hb hT inlX7 hown hK hP 0 mw_0 rfl 1 (by decide) (hT _ (tr_17 _ (List.mem_of_getElem? (i := 14) rfl))) (fun _ h9 => h9) rfl dX7_image_25 ?_
    refine va_put (D := yD Z) (ci := 7) (v := .int (g 31 0)) (ty := .int) (C := RX7) (T := TX7) (N := 31) hx hb hT inlX7 tyX7 tyX7_ok nmX7 hown hK hP hZ.D hS 0 mw_0 rfl 20 (by decide) (hT _ (tr_36 _ (List.mem_of_getElem? (i := 2) rfl))) (fun _ h9 => h9) rfl (by decide +kernel) rfl rfl (Nat.le_of_ble_eq_true rfl) dX7_image_28 (fun H locs hP _ hS => ?_)
    replace hP := mf_20 hP
    have hF := hF.u2 (i := 50) (k := 0) (v := (g 31 0)) (by decide)
    have hJ := hJ.p50 (v := (g 31 0)) (by first | omega | exact ⟨j31.1, h40⟩)
    refine lv_aload_n hx hb dX7_image_31 rfl (lv_at hl 0 rfl) ?_
    refine lv_aload_n hx hb dX7_image_32 rfl (lv_at hl 0 rfl) ?_
    refine va_get (D := yD Z) (ci := 7) (v := .int (g 38 0)) (C := RX7) (T := TX7) (N := 31) hx hb hT inlX7 hown hK hP 0 mw_0 rfl 8 (by decide) (hT _ (tr_17 _ (List.mem_of_getElem? (i := 16) rfl))) (fun _ h9 => h9) rfl dX7_image_33 ?_
    refine va_put (D := yD Z) (ci := 7) (v := .int (g 38 0)) (ty := .int) (C := RX7) (T := TX7) (N := 31) hx hb hT inlX7 tyX7 tyX7_ok nmX7 hown hK hP hZ.D hS 0 mw_0 rfl 21 (by decide) (hT _ (tr_36 _ (List.mem_of_getElem? (i := 3) rfl))) (fun _ h9 => h9) rfl (by decide +kernel) rfl rfl (Nat.le_of_ble_eq_true rfl) dX7_image_36 (fun H locs hP _ hS => ?_)
    replace hP := mf_21 hP
    have hF := hF.u2 (i := 51) (k := 0) (v := (g 38 0)) (by decide)
    have hJ := hJ.p51 (v := (g 38 0)) (by first | omega | exact j38)
    refine lv_iconst (v := 0) hx hb dX7_image_39 (by decide) ?_
    refine lv_istore_n (lv' := [(1, .int 0), (0, .ref (ya Z 0))]) hx hb dX7_image_40 rfl hl (by decide) rfl (fun ls hl => ?_)
    exact L41 _ 0 (up2 (up2 (up2 (up2 g 48 0 1) 49 0 (g 30 0)) 50 0 (g 31 0)) 51 0 (g 38 0)) _ _ hP hF hJ hS (by first | assumption | omega | decide) c_4 ⟨rfl, rfl, rfl, rfl⟩ (fun t ht => by rw [tk_0] at ht; omega) (Nat.lt_succ_self _) ls (lv_sub hl [1, 0] rfl)
  · skip
    have i_4 := ti_eqk rfl tk_0 c_4
    refine lv_bipush (v := (-103)) hx hb dX7_image_7 (by decide) ?_
    exact W.iret (v := (-103)) hx hb hr (fun t ht hW => ⟨⟨(-103), (g, gl), rfl, ⟨hF, hJ, rfl, (by (try dsimp only); first | done | exact Or.inl ⟨c_4, rfl, rfl⟩)⟩, by show va_P (yD Z) vwCl (mw Z g gl) t.heap; rw [ht]; exact hP⟩, hS.F ht⟩) hS.2.2 dX7_image_9
set_option maxHeartbeats 4000000 in
set_option maxRecDepth 100000 in
theorem c_X7_restore (l : Launch) (Z : YT) (hZ : MG Z) (g : Nat → Nat → Int32) (gl : Nat → Nat → Int64) (h40 : (g 31 0).toInt ≤ 40) (hJ : MJ g) : Met l yX7_restore (Cond.code yX7_restore cX7_restore 2 (some .int) :: wsL_law) ({ frames := 7, cells := 0, slots := 0, locals := 168 } : Room) (va_Pc [.ref (ya Z 0)] (MI Z g gl)) (va_Qi (fun (r : Int32) (u : (Nat → Nat → Int32) × (Nat → Nat → Int64)) => Fr [1, 2, 3, 4, 5, 6, 7, 8, 9, 31, 38] g u.1 ∧ MJ u.1 ∧ gl = u.2 ∧ (((¬ (¬ g 48 0 = 0 ∧ g 49 0 = g 30 0) ∧ r = -103 ∧ u.1 = g) ∨ ((¬ g 48 0 = 0 ∧ g 49 0 = g 30 0) ∧ r = g 50 0 ∧ u.1 31 0 = g 50 0 ∧ u.1 38 0 = g 51 0 ∧ (∀ t : Nat, (t : Int) < 40 → ∀ k, k < 5 → u.1 (k + 1) t = g (k + 12) t) ∧ (∀ t : Nat, (t : Int) < 6 → ∀ k, k < 3 → u.1 (k + 7) t = g (k + 17) t) ∧ Eq1 (u.1 6) (TR u.1 (g 50 0).toInt.toNat))) ∧ (u.1 31 0).toInt ≤ 40)) (fun u t => va_P (yD Z) vwCl (mw Z u.1 u.2) t.heap) (yA Z)) 0 0 (yA Z) := by
  refine Met.ofW (cc := cX7_restore) (maxL := 2) (ret := (some .int)) (by decide) rfl ?_
  intro p e s m args below meth c s₁ B hml hv
  obtain ⟨rfl, hI⟩ := hv
  have hx := B.exec
  have hb := B.bytes
  have hr := B.returns
  have hT : ∀ w ∈ wsL_law, w.before ([.ref (ya Z 0)] : List Value).toArray s = true := fun w h => atoms_spec (ws := (Cond.code yX7_restore cX7_restore 2 (some .int) :: wsL_law)) B.pre w (List.mem_cons_of_mem _ h)
  have hown : s.vm.findClass RX7 = some m.cls := findClass_of_methodNamed B.named
  have hlocks := B.notSynchronized
  have hK := hI.2
  have hP := hI.1
  have hS : va_S (yA Z) s.heap s.heap [] := va_S.rf
  have hF : Fr [1, 2, 3, 4, 5, 6, 7, 8, 9, 31, 38] g g := Fr.rf
  have j51 := hJ.j51
  have j50 := hJ.j50
  have hl := lv_entry ([.ref (ya Z 0)]) (n := 2) (Nat.le_of_ble_eq_true rfl)
  rw [lg_entry_eq]
  generalize (lg_sl ([.ref (ya Z 0)]) ++ List.replicate (2 - (lg_sl ([.ref (ya Z 0)])).length) Slot.unset).toArray = ls at hl ⊢
  have hl : lv_has ls 2 [(0, .ref (ya Z 0))] := hl
  have L105 : ∀ (n : Nat) (z1 : Int32) (g1 : Nat → Nat → Int32) (H : Heap) (locs : List Loc) (hP : va_P (yD Z) vwCl (mw Z g1 gl) H) (hF : Fr [1, 2, 3, 4, 5, 6, 7, 8, 9, 31, 38] g g1) (hJ : MJ g1) (hS : va_S (yA Z) s.heap H locs) (h1 : 0 ≤ z1.toInt) (hne : ¬ g 48 0 = 0 ∧ g 49 0 = g 30 0) (hk : g1 38 0 = g 51 0) (hA : ∀ t : Nat, (t : Int) < 40 → ∀ k, k < 5 → g1 (k + 1) t = g (k + 12) t) (hB : ∀ t : Nat, (t : Int) < z1.toInt → ∀ k, k < 3 → g1 (k + 7) t = g (k + 17) t) (hn : (6 - z1.toInt).toNat < n) (ls : Array Slot) (hl : lv_has ls 2 [(0, .ref (ya Z 0)), (1, .int z1)]), W p l e ({ frames := 7, cells := 0, slots := 0, locals := 168 } : Room) s m ([.ref (ya Z 0)] : List Value).toArray below meth c H locs 0 0 (MQ below (va_Qi (fun (r : Int32) (u : (Nat → Nat → Int32) × (Nat → Nat → Int64)) => Fr [1, 2, 3, 4, 5, 6, 7, 8, 9, 31, 38] g u.1 ∧ MJ u.1 ∧ gl = u.2 ∧ (((¬ (¬ g 48 0 = 0 ∧ g 49 0 = g 30 0) ∧ r = -103 ∧ u.1 = g) ∨ ((¬ g 48 0 = 0 ∧ g 49 0 = g 30 0) ∧ r = g 50 0 ∧ u.1 31 0 = g 50 0 ∧ u.1 38 0 = g 51 0 ∧ (∀ t : Nat, (t : Int) < 40 → ∀ k, k < 5 → u.1 (k + 1) t = g (k + 12) t) ∧ (∀ t : Nat, (t : Int) < 6 → ∀ k, k < 3 → u.1 (k + 7) t = g (k + 17) t) ∧ Eq1 (u.1 6) (TR u.1 (g 50 0).toInt.toNat))) ∧ (u.1 31 0).toInt ≤ 40)) (fun u t => va_P (yD Z) vwCl (mw Z u.1 u.2) t.heap) (yA Z)) ([.ref (ya Z 0)] : List Value).toArray s 0 0 (yA Z)) (F0 m 105 ls []) := by
    intro n
    induction n with
    | zero => intro z1 g1 H locs hP hF hJ hS h1 hne hk hA hB hn; exact absurd hn (Nat.not_lt_zero _)
    | succ n ih105 =>
      intro z1 g1 H locs hP hF hJ hS h1 hne hk hA hB hn ls hl
      have hF_ := hF
      refine lv_iload_n hx hb dX7_restore_105 rfl (lv_at hl 1 rfl) ?_
      refine lv_bipush (v := 6) hx hb dX7_restore_106 (by decide) ?_
      refine lv_icmp_ge (tgt := 153) hx hb dX7_restore_108 (by decide) (fun c_108 => ?_) (fun c_108 => ?_)
      · skip
        have i_108 := ti_lek tk_6 rfl c_108
        have k50 : (g1 50 0).toInt = (g 50 0).toInt := by rw [hF 50 (by decide)]
        have m50 : g1 50 0 = g 50 0 := by rw [hF 50 (by decide)]
        refine lv_aload_n hx hb dX7_restore_153 rfl (lv_at hl 0 rfl) ?_
        refine lv_aload_n hx hb dX7_restore_154 rfl (lv_at hl 0 rfl) ?_
        refine va_get (D := yD Z) (ci := 7) (v := .int (g1 50 0)) (C := RX7) (T := TX7) (N := 31) hx hb hT inlX7 hown hK hP 0 mw_0 rfl 20 (by decide) (hT _ (tr_36 _ (List.mem_of_getElem? (i := 2) rfl))) (fun _ h9 => h9) rfl dX7_restore_155 ?_
        refine va_callv (va_runV (As := [.int (g1 50 0)]) (rest := []) ⟨hx, hb, hml, hown, hT⟩ (c_X7_again l Z hZ g1 gl (g1 50 0) (by first | assumption | omega | decide) hJ) (cwV 1 hT (tb_V (fun _ h => h) (tr_28 _ (List.mem_of_getElem? (i := 23) rfl)) (tr_29 _ (List.mem_of_getElem? (i := 0) rfl)) (tr_29 _ (List.mem_of_getElem? (i := 1) rfl)) (tr_1 _ (List.mem_of_getElem? (i := 5) rfl)) (tr_29 _ (List.mem_of_getElem? (i := 2) rfl))) rfl rfl rfl (by decide +kernel) ⟨Nat.le_of_ble_eq_true rfl, Nat.le_of_ble_eq_true rfl⟩) ⟨fun a U f mk q => ⟨q.1, MI.blind f mk a q.2⟩, va_recv hK hP (ci := 7) (q0 := 0) rfl mw_0, fun U hU hW => ⟨rfl, hI.at hS hP hU hW⟩⟩ rfl rfl hl.1 rfl (lv_room (Nat.le_of_ble_eq_true rfl)) dX7_restore_158 ⟨Nat.zero_le _, Nat.zero_le _⟩) hS (fun q _ h => h) (fun q h => h) (fun u_158 t_158 H locs ht_158 _ hw_158 hB_158 _ _ hS => ?_)
        obtain ⟨g_158, gl_158⟩ := u_158
        have hP : va_P (yD Z) vwCl (mw Z g_158 gl_158) H := ht_158 ▸ hB_158
        obtain ⟨hf_158, hJ, el_158, hr_158⟩ := hw_158
        have hF := hF.tr hf_158 (by decide)
        dsimp only at hf_158 hJ hF el_158 hr_158
        subst el_158
        refine lv_aload_n hx hb dX7_restore_161 rfl (lv_at hl 0 rfl) ?_
        refine va_get (D := yD Z) (ci := 7) (v := .int (g_158 31 0)) (C := RX7) (T := TX7) (N := 31) hx hb hT inlX7 hown hK hP 0 mw_0 rfl 1 (by decide) (hT _ (tr_17 _ (List.mem_of_getElem? (i := 14) rfl))) (fun _ h9 => h9) rfl dX7_restore_162 ?_
        exact W.iret (v := (g_158 31 0)) hx hb hr (fun t ht hW => ⟨⟨(g_158 31 0), (g_158, gl), rfl, ⟨hF, hJ, rfl, (by (try dsimp only); first | done | exact ⟨Or.inr ⟨hne, hr_158.1.trans m50, hr_158.1.trans m50, (congrFun (hf_158 38 (by decide)) 0).trans hk, fun t ht k hk9 => by show g_158 (k + 1) t = _; rw [hf_158 (k + 1) (by simp; omega)]; exact hA t ht k hk9, fun t ht k hk9 => by show g_158 (k + 7) t = _; rw [hf_158 (k + 7) (by simp; omega)]; exact hB t (by omega) k hk9, by have q := hr_158.2; rw [m50, TR_cr (R2 := g_158) (g 50 0).toInt.toNat (by omega) (fun t _ k hk => by rw [hf_158 (k + 1) (by simp; omega)])] at q; exact q⟩, (by show (g_158 31 0).toInt ≤ 40; rw [hr_158.1]; omega)⟩)⟩, by show va_P (yD Z) vwCl (mw Z g_158 gl) t.heap; rw [ht]; exact hP⟩, hS.F ht⟩) hS.2.2 dX7_restore_165
      · skip
        have i_108 := ti_nlek tk_6 rfl c_108
        refine lv_aload_n hx hb dX7_restore_111 rfl (lv_at hl 0 rfl) ?_
        refine va_get (D := yD Z) (ci := 7) (v := .ref (ya Z 7)) (C := RX7) (T := TX7) (N := 31) hx hb hT inlX7 hown hK hP 0 mw_0 rfl 9 (by decide) (hT _ (tr_4 _ (List.mem_of_getElem? (i := 19) rfl))) (fun _ h9 => h9) rfl dX7_restore_112 ?_
        refine lv_iload_n hx hb dX7_restore_115 rfl (lv_at hl 1 rfl) ?_
        refine lv_aload_n hx hb dX7_restore_116 rfl (lv_at hl 0 rfl) ?_
        refine va_get (D := yD Z) (ci := 7) (v := .ref (ya Z 17)) (C := RX7) (T := TX7) (N := 31) hx hb hT inlX7 hown hK hP 0 mw_0 rfl 27 (by decide) (hT _ (tr_5 _ (List.mem_of_getElem? (i := 6) rfl))) (fun _ h9 => h9) rfl dX7_restore_117 ?_
        refine lv_iload_n hx hb dX7_restore_120 rfl (lv_at hl 1 rfl) ?_
        have h_121 : vp_in z1 6 := (ti_vp (by omega) (by omega))
        refine va_iald hx hb hK hP 17 1 mw_17 rfl h_121 dX7_restore_121 ?_
        refine lv_topi (fun v_121 e_121 => ?_)
        have h_122 : vp_in z1 6 := (ti_vp (by omega) (by omega))
        refine va_iast hx hb hK hP hZ.D hS 7 1 mw_7 rfl h_122 dX7_restore_122 (fun H locs hP _ hS => ?_)
        replace hP := ms_7 hP
        have hF := hF.uR (i := 7) (r := upd (g1 7) z1.toNatClampNeg v_121) (by decide)
        have hJ := hJ.au (i := 7) (r := upd (g1 7) z1.toNatClampNeg v_121) (by decide)
        refine lv_aload_n hx hb dX7_restore_123 rfl (lv_at hl 0 rfl) ?_
        refine va_get (D := yD Z) (ci := 7) (v := .ref (ya Z 8)) (C := RX7) (T := TX7) (N := 31) hx hb hT inlX7 hown hK hP 0 mw_0 rfl 10 (by decide) (hT _ (tr_4 _ (List.mem_of_getElem? (i := 20) rfl))) (fun _ h9 => h9) rfl dX7_restore_124 ?_
        refine lv_iload_n hx hb dX7_restore_127 rfl (lv_at hl 1 rfl) ?_
        refine lv_aload_n hx hb dX7_restore_128 rfl (lv_at hl 0 rfl) ?_
        refine va_get (D := yD Z) (ci := 7) (v := .ref (ya Z 18)) (C := RX7) (T := TX7) (N := 31) hx hb hT inlX7 hown hK hP 0 mw_0 rfl 28 (by decide) (hT _ (tr_5 _ (List.mem_of_getElem? (i := 7) rfl))) (fun _ h9 => h9) rfl dX7_restore_129 ?_
        refine lv_iload_n hx hb dX7_restore_132 rfl (lv_at hl 1 rfl) ?_
        have h_133 : vp_in z1 6 := (ti_vp (by omega) (by omega))
        refine va_iald hx hb hK hP 18 1 mw_18 rfl h_133 dX7_restore_133 ?_
        refine lv_topi (fun v_133 e_133 => ?_)
        have h_134 : vp_in z1 6 := (ti_vp (by omega) (by omega))
        refine va_iast hx hb hK hP hZ.D hS 8 1 mw_8 rfl h_134 dX7_restore_134 (fun H locs hP _ hS => ?_)
        replace hP := ms_8 hP
        have hF := hF.uR (i := 8) (r := upd (g1 8) z1.toNatClampNeg v_133) (by decide)
        have hJ := hJ.au (i := 8) (r := upd (g1 8) z1.toNatClampNeg v_133) (by decide)
        refine lv_aload_n hx hb dX7_restore_135 rfl (lv_at hl 0 rfl) ?_
        refine va_get (D := yD Z) (ci := 7) (v := .ref (ya Z 9)) (C := RX7) (T := TX7) (N := 31) hx hb hT inlX7 hown hK hP 0 mw_0 rfl 11 (by decide) (hT _ (tr_4 _ (List.mem_of_getElem? (i := 21) rfl))) (fun _ h9 => h9) rfl dX7_restore_136 ?_
        refine lv_iload_n hx hb dX7_restore_139 rfl (lv_at hl 1 rfl) ?_
        refine lv_aload_n hx hb dX7_restore_140 rfl (lv_at hl 0 rfl) ?_
        refine va_get (D := yD Z) (ci := 7) (v := .ref (ya Z 19)) (C := RX7) (T := TX7) (N := 31) hx hb hT inlX7 hown hK hP 0 mw_0 rfl 29 (by decide) (hT _ (tr_5 _ (List.mem_of_getElem? (i := 8) rfl))) (fun _ h9 => h9) rfl dX7_restore_141 ?_
        refine lv_iload_n hx hb dX7_restore_144 rfl (lv_at hl 1 rfl) ?_
        have h_145 : vp_in z1 6 := (ti_vp (by omega) (by omega))
        refine va_iald hx hb hK hP 19 1 mw_19 rfl h_145 dX7_restore_145 ?_
        refine lv_topi (fun v_145 e_145 => ?_)
        have h_146 : vp_in z1 6 := (ti_vp (by omega) (by omega))
        refine va_iast hx hb hK hP hZ.D hS 9 1 mw_9 rfl h_146 dX7_restore_146 (fun H locs hP _ hS => ?_)
        replace hP := ms_9 hP
        have hF := hF.uR (i := 9) (r := upd (g1 9) z1.toNatClampNeg v_145) (by decide)
        have hJ := hJ.au (i := 9) (r := upd (g1 9) z1.toNatClampNeg v_145) (by decide)
        obtain ⟨v_147, e_147⟩ : ∃ y : Int32, y = z1 + 1 := ⟨_, rfl⟩
        refine lv_iinc (v := v_147) (lv' := [(1, .int v_147), (0, .ref (ya Z 0))]) hx hb dX7_restore_147 hl (k := 1) rfl (by rw [e_147]; rfl) (by decide) rfl (fun ls hl => ?_)
        have t_147 := ti_addk rfl tk_1 (by omega) (by omega) e_147
        refine lv_goto (tgt := 105) hx hb dX7_restore_150 (by decide) ?_
        exact ih105 v_147 (upR (upR (upR g1 7 (upd (g1 7) z1.toNatClampNeg v_121)) 8 (upd (g1 8) z1.toNatClampNeg v_133)) 9 (upd (g1 9) z1.toNatClampNeg v_145)) _ _ hP hF hJ hS (by first | assumption | omega | decide) (by first | assumption | omega | decide) hk (fun t ht k hk => by match k, hk with | 0, _ => exact hA t (by omega) 0 (by decide) | 1, _ => exact hA t (by omega) 1 (by decide) | 2, _ => exact hA t (by omega) 2 (by decide) | 3, _ => exact hA t (by omega) 3 (by decide) | 4, _ => exact hA t (by omega) 4 (by decide)) (fun t ht k hk => by
            match k, hk with
            | 0, _ =>
              show upd (g1 7) z1.toNatClampNeg v_121 t = g 17 t
              by_cases y : t = z1.toNatClampNeg
              · subst y; rw [pk_us, e_121]; exact congrFun (hF_ 17 (by decide)) _
              · rw [pk_un y]; exact hB t (by have y2 : ¬ (t : Int) = z1.toInt := (fun y3 => y (ti_clamp y3.symm).symm); omega) 0 (by decide)
            | 1, _ =>
              show upd (g1 8) z1.toNatClampNeg v_133 t = g 18 t
              by_cases y : t = z1.toNatClampNeg
              · subst y; rw [pk_us, e_133]; exact congrFun (hF_ 18 (by decide)) _
              · rw [pk_un y]; exact hB t (by have y2 : ¬ (t : Int) = z1.toInt := (fun y3 => y (ti_clamp y3.symm).symm); omega) 1 (by decide)
            | 2, _ =>
              show upd (g1 9) z1.toNatClampNeg v_145 t = g 19 t
              by_cases y : t = z1.toNatClampNeg
              · subst y; rw [pk_us, e_145]; exact congrFun (hF_ 19 (by decide)) _
              · rw [pk_un y]; exact hB t (by have y2 : ¬ (t : Int) = z1.toInt := (fun y3 => y (ti_clamp y3.symm).symm); omega) 2 (by decide)) (by omega) ls (lv_sub hl [1, 0] rfl)
  have L31 : ∀ (n : Nat) (z1 : Int32) (g1 : Nat → Nat → Int32) (H : Heap) (locs : List Loc) (hP : va_P (yD Z) vwCl (mw Z g1 gl) H) (hF : Fr [1, 2, 3, 4, 5, 6, 7, 8, 9, 31, 38] g g1) (hJ : MJ g1) (hS : va_S (yA Z) s.heap H locs) (h1 : 0 ≤ z1.toInt) (hne : ¬ g 48 0 = 0 ∧ g 49 0 = g 30 0) (hk : g1 38 0 = g 51 0) (hA : ∀ t : Nat, (t : Int) < z1.toInt → ∀ k, k < 5 → g1 (k + 1) t = g (k + 12) t) (hn : (40 - z1.toInt).toNat < n) (ls : Array Slot) (hl : lv_has ls 2 [(0, .ref (ya Z 0)), (1, .int z1)]), W p l e ({ frames := 7, cells := 0, slots := 0, locals := 168 } : Room) s m ([.ref (ya Z 0)] : List Value).toArray below meth c H locs 0 0 (MQ below (va_Qi (fun (r : Int32) (u : (Nat → Nat → Int32) × (Nat → Nat → Int64)) => Fr [1, 2, 3, 4, 5, 6, 7, 8, 9, 31, 38] g u.1 ∧ MJ u.1 ∧ gl = u.2 ∧ (((¬ (¬ g 48 0 = 0 ∧ g 49 0 = g 30 0) ∧ r = -103 ∧ u.1 = g) ∨ ((¬ g 48 0 = 0 ∧ g 49 0 = g 30 0) ∧ r = g 50 0 ∧ u.1 31 0 = g 50 0 ∧ u.1 38 0 = g 51 0 ∧ (∀ t : Nat, (t : Int) < 40 → ∀ k, k < 5 → u.1 (k + 1) t = g (k + 12) t) ∧ (∀ t : Nat, (t : Int) < 6 → ∀ k, k < 3 → u.1 (k + 7) t = g (k + 17) t) ∧ Eq1 (u.1 6) (TR u.1 (g 50 0).toInt.toNat))) ∧ (u.1 31 0).toInt ≤ 40)) (fun u t => va_P (yD Z) vwCl (mw Z u.1 u.2) t.heap) (yA Z)) ([.ref (ya Z 0)] : List Value).toArray s 0 0 (yA Z)) (F0 m 31 ls []) := by
    intro n
    induction n with
    | zero => intro z1 g1 H locs hP hF hJ hS h1 hne hk hA hn; exact absurd hn (Nat.not_lt_zero _)
    | succ n ih31 =>
      intro z1 g1 H locs hP hF hJ hS h1 hne hk hA hn ls hl
      have hF_ := hF
      refine lv_iload_n hx hb dX7_restore_31 rfl (lv_at hl 1 rfl) ?_
      refine lv_bipush (v := 40) hx hb dX7_restore_32 (by decide) ?_
      refine lv_icmp_ge (tgt := 103) hx hb dX7_restore_34 (by decide) (fun c_34 => ?_) (fun c_34 => ?_)
      · skip
        have i_34 := ti_lek tk_40 rfl c_34
        refine lv_iconst (v := 0) hx hb dX7_restore_103 (by decide) ?_
        refine lv_istore_n (lv' := [(1, .int 0), (0, .ref (ya Z 0))]) hx hb dX7_restore_104 rfl hl (by decide) rfl (fun ls hl => ?_)
        exact L105 _ 0 g1 _ _ hP hF hJ hS (by first | assumption | omega | decide) (by first | assumption | omega | decide) hk (fun t ht => hA t (by omega)) (fun t ht => by rw [tk_0] at ht; omega) (Nat.lt_succ_self _) ls (lv_sub hl [1, 0] rfl)
      · skip
        have i_34 := ti_nlek tk_40 rfl c_34
        refine lv_aload_n hx hb dX7_restore_37 rfl (lv_at hl 0 rfl) ?_
        refine va_get (D := yD Z) (ci := 7) (v := .ref (ya Z 1)) (C := RX7) (T := TX7) (N := 31) hx hb hT inlX7 hown hK hP 0 mw_0 rfl 2 (by decide) (hT _ (tr_4 _ (List.mem_of_getElem? (i := 13) rfl))) (fun _ h9 => h9) rfl dX7_restore_38 ?_
        refine lv_iload_n hx hb dX7_restore_41 rfl (lv_at hl 1 rfl) ?_
        refine lv_aload_n hx hb dX7_restore_42 rfl (lv_at hl 0 rfl) ?_
        refine va_get (D := yD Z) (ci := 7) (v := .ref (ya Z 12)) (C := RX7) (T := TX7) (N := 31) hx hb hT inlX7 hown hK hP 0 mw_0 rfl 22 (by decide) (hT _ (tr_5 _ (List.mem_of_getElem? (i := 1) rfl))) (fun _ h9 => h9) rfl dX7_restore_43 ?_
        refine lv_iload_n hx hb dX7_restore_46 rfl (lv_at hl 1 rfl) ?_
        have h_47 : vp_in z1 40 := (ti_vp (by omega) (by omega))
        refine va_iald hx hb hK hP 12 1 mw_12 rfl h_47 dX7_restore_47 ?_
        refine lv_topi (fun v_47 e_47 => ?_)
        have h_48 : vp_in z1 70 := (ti_vp (by omega) (by omega))
        refine va_iast hx hb hK hP hZ.D hS 1 1 mw_1 rfl h_48 dX7_restore_48 (fun H locs hP _ hS => ?_)
        replace hP := ms_1 hP
        have hF := hF.uR (i := 1) (r := upd (g1 1) z1.toNatClampNeg v_47) (by decide)
        have hJ := hJ.au (i := 1) (r := upd (g1 1) z1.toNatClampNeg v_47) (by decide)
        refine lv_aload_n hx hb dX7_restore_49 rfl (lv_at hl 0 rfl) ?_
        refine va_get (D := yD Z) (ci := 7) (v := .ref (ya Z 2)) (C := RX7) (T := TX7) (N := 31) hx hb hT inlX7 hown hK hP 0 mw_0 rfl 3 (by decide) (hT _ (tr_4 _ (List.mem_of_getElem? (i := 14) rfl))) (fun _ h9 => h9) rfl dX7_restore_50 ?_
        refine lv_iload_n hx hb dX7_restore_53 rfl (lv_at hl 1 rfl) ?_
        refine lv_aload_n hx hb dX7_restore_54 rfl (lv_at hl 0 rfl) ?_
        refine va_get (D := yD Z) (ci := 7) (v := .ref (ya Z 13)) (C := RX7) (T := TX7) (N := 31) hx hb hT inlX7 hown hK hP 0 mw_0 rfl 23 (by decide) (hT _ (tr_5 _ (List.mem_of_getElem? (i := 2) rfl))) (fun _ h9 => h9) rfl dX7_restore_55 ?_
        refine lv_iload_n hx hb dX7_restore_58 rfl (lv_at hl 1 rfl) ?_
        have h_59 : vp_in z1 40 := (ti_vp (by omega) (by omega))
        refine va_iald hx hb hK hP 13 1 mw_13 rfl h_59 dX7_restore_59 ?_
        refine lv_topi (fun v_59 e_59 => ?_)
        have h_60 : vp_in z1 70 := (ti_vp (by omega) (by omega))
        refine va_iast hx hb hK hP hZ.D hS 2 1 mw_2 rfl h_60 dX7_restore_60 (fun H locs hP _ hS => ?_)
        replace hP := ms_2 hP
        have hF := hF.uR (i := 2) (r := upd (g1 2) z1.toNatClampNeg v_59) (by decide)
        have hJ := hJ.au (i := 2) (r := upd (g1 2) z1.toNatClampNeg v_59) (by decide)
        refine lv_aload_n hx hb dX7_restore_61 rfl (lv_at hl 0 rfl) ?_
        refine va_get (D := yD Z) (ci := 7) (v := .ref (ya Z 3)) (C := RX7) (T := TX7) (N := 31) hx hb hT inlX7 hown hK hP 0 mw_0 rfl 4 (by decide) (hT _ (tr_4 _ (List.mem_of_getElem? (i := 15) rfl))) (fun _ h9 => h9) rfl dX7_restore_62 ?_
        refine lv_iload_n hx hb dX7_restore_65 rfl (lv_at hl 1 rfl) ?_
        refine lv_aload_n hx hb dX7_restore_66 rfl (lv_at hl 0 rfl) ?_
        refine va_get (D := yD Z) (ci := 7) (v := .ref (ya Z 14)) (C := RX7) (T := TX7) (N := 31) hx hb hT inlX7 hown hK hP 0 mw_0 rfl 24 (by decide) (hT _ (tr_5 _ (List.mem_of_getElem? (i := 3) rfl))) (fun _ h9 => h9) rfl dX7_restore_67 ?_
        refine lv_iload_n hx hb dX7_restore_70 rfl (lv_at hl 1 rfl) ?_
        have h_71 : vp_in z1 40 := (ti_vp (by omega) (by omega))
        refine va_iald hx hb hK hP 14 1 mw_14 rfl h_71 dX7_restore_71 ?_
        refine lv_topi (fun v_71 e_71 => ?_)
        have h_72 : vp_in z1 70 := (ti_vp (by omega) (by omega))
        refine va_iast hx hb hK hP hZ.D hS 3 1 mw_3 rfl h_72 dX7_restore_72 (fun H locs hP _ hS => ?_)
        replace hP := ms_3 hP
        have hF := hF.uR (i := 3) (r := upd (g1 3) z1.toNatClampNeg v_71) (by decide)
        have hJ := hJ.au (i := 3) (r := upd (g1 3) z1.toNatClampNeg v_71) (by decide)
        refine lv_aload_n hx hb dX7_restore_73 rfl (lv_at hl 0 rfl) ?_
        refine va_get (D := yD Z) (ci := 7) (v := .ref (ya Z 4)) (C := RX7) (T := TX7) (N := 31) hx hb hT inlX7 hown hK hP 0 mw_0 rfl 5 (by decide) (hT _ (tr_4 _ (List.mem_of_getElem? (i := 16) rfl))) (fun _ h9 => h9) rfl dX7_restore_74 ?_
        refine lv_iload_n hx hb dX7_restore_77 rfl (lv_at hl 1 rfl) ?_
        refine lv_aload_n hx hb dX7_restore_78 rfl (lv_at hl 0 rfl) ?_
        refine va_get (D := yD Z) (ci := 7) (v := .ref (ya Z 15)) (C := RX7) (T := TX7) (N := 31) hx hb hT inlX7 hown hK hP 0 mw_0 rfl 25 (by decide) (hT _ (tr_5 _ (List.mem_of_getElem? (i := 4) rfl))) (fun _ h9 => h9) rfl dX7_restore_79 ?_
        refine lv_iload_n hx hb dX7_restore_82 rfl (lv_at hl 1 rfl) ?_
        have h_83 : vp_in z1 40 := (ti_vp (by omega) (by omega))
        refine va_iald hx hb hK hP 15 1 mw_15 rfl h_83 dX7_restore_83 ?_
        refine lv_topi (fun v_83 e_83 => ?_)
        have h_84 : vp_in z1 70 := (ti_vp (by omega) (by omega))
        refine va_iast hx hb hK hP hZ.D hS 4 1 mw_4 rfl h_84 dX7_restore_84 (fun H locs hP _ hS => ?_)
        replace hP := ms_4 hP
        have hF := hF.uR (i := 4) (r := upd (g1 4) z1.toNatClampNeg v_83) (by decide)
        have hJ := hJ.a4 (k := z1.toNatClampNeg) (v := v_83) (by rw [e_83]; exact hJ.j15 _)
        refine lv_aload_n hx hb dX7_restore_85 rfl (lv_at hl 0 rfl) ?_
        refine va_get (D := yD Z) (ci := 7) (v := .ref (ya Z 5)) (C := RX7) (T := TX7) (N := 31) hx hb hT inlX7 hown hK hP 0 mw_0 rfl 6 (by decide) (hT _ (tr_4 _ (List.mem_of_getElem? (i := 17) rfl))) (fun _ h9 => h9) rfl dX7_restore_86 ?_
        refine lv_iload_n hx hb dX7_restore_89 rfl (lv_at hl 1 rfl) ?_
        refine lv_aload_n hx hb dX7_restore_90 rfl (lv_at hl 0 rfl) ?_
        refine va_get (D := yD Z) (ci := 7) (v := .ref (ya Z 16)) (C := RX7) (T := TX7) (N := 31) hx hb hT inlX7 hown hK hP 0 mw_0 rfl 26 (by decide) (hT _ (tr_5 _ (List.mem_of_getElem? (i := 5) rfl))) (fun _ h9 => h9) rfl dX7_restore_91 ?_
        refine lv_iload_n hx hb dX7_restore_94 rfl (lv_at hl 1 rfl) ?_
        have h_95 : vp_in z1 40 := (ti_vp (by omega) (by omega))
        refine va_iald hx hb hK hP 16 1 mw_16 rfl h_95 dX7_restore_95 ?_
        refine lv_topi (fun v_95 e_95 => ?_)
        have h_96 : vp_in z1 70 := (ti_vp (by omega) (by omega))
        refine va_iast hx hb hK hP hZ.D hS 5 1 mw_5 rfl h_96 dX7_restore_96 (fun H locs hP _ hS => ?_)
        replace hP := ms_5 hP
        have hF := hF.uR (i := 5) (r := upd (g1 5) z1.toNatClampNeg v_95) (by decide)
        have hJ := hJ.a5 (k := z1.toNatClampNeg) (v := v_95) (by rw [e_95]; exact hJ.j16 _)
        obtain ⟨v_97, e_97⟩ : ∃ y : Int32, y = z1 + 1 := ⟨_, rfl⟩
        refine lv_iinc (v := v_97) (lv' := [(1, .int v_97), (0, .ref (ya Z 0))]) hx hb dX7_restore_97 hl (k := 1) rfl (by rw [e_97]; rfl) (by decide) rfl (fun ls hl => ?_)
        have t_97 := ti_addk rfl tk_1 (by omega) (by omega) e_97
        refine lv_goto (tgt := 31) hx hb dX7_restore_100 (by decide) ?_
        exact ih31 v_97 (upR (upR (upR (upR (upR g1 1 (upd (g1 1) z1.toNatClampNeg v_47)) 2 (upd (g1 2) z1.toNatClampNeg v_59)) 3 (upd (g1 3) z1.toNatClampNeg v_71)) 4 (upd (g1 4) z1.toNatClampNeg v_83)) 5 (upd (g1 5) z1.toNatClampNeg v_95)) _ _ hP hF hJ hS (by first | assumption | omega | decide) hne hk (fun t ht k hk => by
            match k, hk with
            | 0, _ =>
              show upd (g1 1) z1.toNatClampNeg v_47 t = g 12 t
              by_cases y : t = z1.toNatClampNeg
              · subst y; rw [pk_us, e_47]; exact congrFun (hF_ 12 (by decide)) _
              · rw [pk_un y]; exact hA t (by have y2 : ¬ (t : Int) = z1.toInt := (fun y3 => y (ti_clamp y3.symm).symm); omega) 0 (by decide)
            | 1, _ =>
              show upd (g1 2) z1.toNatClampNeg v_59 t = g 13 t
              by_cases y : t = z1.toNatClampNeg
              · subst y; rw [pk_us, e_59]; exact congrFun (hF_ 13 (by decide)) _
              · rw [pk_un y]; exact hA t (by have y2 : ¬ (t : Int) = z1.toInt := (fun y3 => y (ti_clamp y3.symm).symm); omega) 1 (by decide)
            | 2, _ =>
              show upd (g1 3) z1.toNatClampNeg v_71 t = g 14 t
              by_cases y : t = z1.toNatClampNeg
              · subst y; rw [pk_us, e_71]; exact congrFun (hF_ 14 (by decide)) _
              · rw [pk_un y]; exact hA t (by have y2 : ¬ (t : Int) = z1.toInt := (fun y3 => y (ti_clamp y3.symm).symm); omega) 2 (by decide)
            | 3, _ =>
              show upd (g1 4) z1.toNatClampNeg v_83 t = g 15 t
              by_cases y : t = z1.toNatClampNeg
              · subst y; rw [pk_us, e_83]; exact congrFun (hF_ 15 (by decide)) _
              · rw [pk_un y]; exact hA t (by have y2 : ¬ (t : Int) = z1.toInt := (fun y3 => y (ti_clamp y3.symm).symm); omega) 3 (by decide)
            | 4, _ =>
              show upd (g1 5) z1.toNatClampNeg v_95 t = g 16 t
              by_cases y : t = z1.toNatClampNeg
              · subst y; rw [pk_us, e_95]; exact congrFun (hF_ 16 (by decide)) _
              · rw [pk_un y]; exact hA t (by have y2 : ¬ (t : Int) = z1.toInt := (fun y3 => y (ti_clamp y3.symm).symm); omega) 4 (by decide)) (by omega) ls (lv_sub hl [1, 0] rfl)
  refine lv_aload_n hx hb dX7_restore_0 rfl (lv_at hl 0 rfl) ?_
  refine va_get (D := yD Z) (ci := 7) (v := .int (g 48 0)) (C := RX7) (T := TX7) (N := 31) hx hb hT inlX7 hown hK hP 0 mw_0 rfl 18 (by decide) (hT _ (tr_36 _ (List.mem_of_getElem? (i := 0) rfl))) (fun _ h9 => h9) rfl dX7_restore_1 ?_
  refine lv_if_eq (tgt := 18) hx hb dX7_restore_4 (by decide) (fun c_4 => ?_) (fun c_4 => ?_)
  · skip
    have i_4 := ti_eqk rfl tk_0 c_4
    refine lv_bipush (v := (-103)) hx hb dX7_restore_18 (by decide) ?_
    exact W.iret (v := (-103)) hx hb hr (fun t ht hW => ⟨⟨(-103), (g, gl), rfl, ⟨hF, hJ, rfl, (by (try dsimp only); first | done | exact ⟨Or.inl ⟨fun z => by first | exact z.1 c_4 | exact c_15 z.2, rfl, rfl⟩, h40⟩)⟩, by show va_P (yD Z) vwCl (mw Z g gl) t.heap; rw [ht]; exact hP⟩, hS.F ht⟩) hS.2.2 dX7_restore_20
  · skip
    have i_4 := ti_nek rfl tk_0 c_4
    refine lv_aload_n hx hb dX7_restore_7 rfl (lv_at hl 0 rfl) ?_
    refine va_get (D := yD Z) (ci := 7) (v := .int (g 49 0)) (C := RX7) (T := TX7) (N := 31) hx hb hT inlX7 hown hK hP 0 mw_0 rfl 19 (by decide) (hT _ (tr_36 _ (List.mem_of_getElem? (i := 1) rfl))) (fun _ h9 => h9) rfl dX7_restore_8 ?_
    refine lv_aload_n hx hb dX7_restore_11 rfl (lv_at hl 0 rfl) ?_
    refine va_get (D := yD Z) (ci := 7) (v := .int (g 30 0)) (C := RX7) (T := TX7) (N := 31) hx hb hT inlX7 hown hK hP 0 mw_0 rfl 0 (by decide) (hT _ (tr_17 _ (List.mem_of_getElem? (i := 15) rfl))) (fun _ h9 => h9) rfl dX7_restore_12 ?_
    refine lv_icmp_eq (tgt := 21) hx hb dX7_restore_15 (by decide) (fun c_15 => ?_) (fun c_15 => ?_)
    · skip
      have i_15 := ti_eqk rfl rfl c_15
      refine lv_aload_n hx hb dX7_restore_21 rfl (lv_at hl 0 rfl) ?_
      refine lv_aload_n hx hb dX7_restore_22 rfl (lv_at hl 0 rfl) ?_
      refine va_get (D := yD Z) (ci := 7) (v := .int (g 51 0)) (C := RX7) (T := TX7) (N := 31) hx hb hT inlX7 hown hK hP 0 mw_0 rfl 21 (by decide) (hT _ (tr_36 _ (List.mem_of_getElem? (i := 3) rfl))) (fun _ h9 => h9) rfl dX7_restore_23 ?_
      refine va_put (D := yD Z) (ci := 7) (v := .int (g 51 0)) (ty := .int) (C := RX7) (T := TX7) (N := 31) hx hb hT inlX7 tyX7 tyX7_ok nmX7 hown hK hP hZ.D hS 0 mw_0 rfl 8 (by decide) (hT _ (tr_17 _ (List.mem_of_getElem? (i := 16) rfl))) (fun _ h9 => h9) rfl (by decide +kernel) rfl rfl (Nat.le_of_ble_eq_true rfl) dX7_restore_26 (fun H locs hP _ hS => ?_)
      replace hP := mf_8 hP
      have hF := hF.u2 (i := 38) (k := 0) (v := (g 51 0)) (by decide)
      have hJ := hJ.p38 (v := (g 51 0)) (by first | omega | exact j51)
      refine lv_iconst (v := 0) hx hb dX7_restore_29 (by decide) ?_
      refine lv_istore_n (lv' := [(1, .int 0), (0, .ref (ya Z 0))]) hx hb dX7_restore_30 rfl hl (by decide) rfl (fun ls hl => ?_)
      exact L31 _ 0 (up2 g 38 0 (g 51 0)) _ _ hP hF hJ hS (by first | assumption | omega | decide) ⟨c_4, c_15⟩ rfl (fun t ht => by rw [tk_0] at ht; omega) (Nat.lt_succ_self _) ls (lv_sub hl [1, 0] rfl)
    · skip
      have i_15 := ti_nek rfl rfl c_15
      refine lv_bipush (v := (-103)) hx hb dX7_restore_18 (by decide) ?_
      exact W.iret (v := (-103)) hx hb hr (fun t ht hW => ⟨⟨(-103), (g, gl), rfl, ⟨hF, hJ, rfl, (by (try dsimp only); first | done | exact ⟨Or.inl ⟨fun z => by first | exact z.1 c_4 | exact c_15 z.2, rfl, rfl⟩, h40⟩)⟩, by show va_P (yD Z) vwCl (mw Z g gl) t.heap; rw [ht]; exact hP⟩, hS.F ht⟩) hS.2.2 dX7_restore_20
set_option maxHeartbeats 4000000 in
set_option maxRecDepth 100000 in
theorem c_X7_gaps (l : Launch) (Z : YT) (hZ : MG Z) (g : Nat → Nat → Int32) (gl : Nat → Nat → Int64)  (hJ : MJ g) : Met l yX7_gaps (Cond.code yX7_gaps cX7_gaps 3 (some .int) :: wsL_law) ({ frames := 5, cells := 0, slots := 0, locals := 119 } : Room) (va_Pc [.ref (ya Z 0)] (MI Z g gl)) (rd_Qi (fun r => ((0 < (g 30 0).toInt → r.toInt = (cB (qnB (mC g) (-1) (-1)) 64 : Int)) ∧ (¬ 0 < (g 30 0).toInt → r = 0)))) 0 0 (fun _ => False) := by
  refine Met.ofW (cc := cX7_gaps) (maxL := 3) (ret := (some .int)) (by decide) rfl ?_
  intro p e s m args below meth c s₁ B hml hv
  obtain ⟨rfl, hI⟩ := hv
  have hx := B.exec
  have hb := B.bytes
  have hr := B.returns
  have hT : ∀ w ∈ wsL_law, w.before ([.ref (ya Z 0)] : List Value).toArray s = true := fun w h => atoms_spec (ws := (Cond.code yX7_gaps cX7_gaps 3 (some .int) :: wsL_law)) B.pre w (List.mem_cons_of_mem _ h)
  have hown : s.vm.findClass RX7 = some m.cls := findClass_of_methodNamed B.named
  have hlocks := B.notSynchronized
  have hK := hI.2
  have hP := hI.1
  have hS : va_S (yA Z) s.heap s.heap [] := va_S.rf
  have hl := lv_entry ([.ref (ya Z 0)]) (n := 3) (Nat.le_of_ble_eq_true rfl)
  rw [lg_entry_eq]
  generalize (lg_sl ([.ref (ya Z 0)]) ++ List.replicate (3 - (lg_sl ([.ref (ya Z 0)])).length) Slot.unset).toArray = ls at hl ⊢
  have hl : lv_has ls 3 [(0, .ref (ya Z 0))] := hl
  have L4 : ∀ (n : Nat) (z1 : Int32) (z2 : Int32)  (h2 : 0 ≤ z2.toInt ∧ z2.toInt ≤ 64) (hC : z1.toInt = (cB (qnB (mC g) (-1) (-1)) z2.toInt.toNat : Int)) (hD : z2.toInt = 0 ∨ 0 < (g 30 0).toInt) (hn : (64 - z2.toInt).toNat < n) (ls : Array Slot) (hl : lv_has ls 3 [(0, .ref (ya Z 0)), (1, .int z1), (2, .int z2)]), W p l e ({ frames := 5, cells := 0, slots := 0, locals := 119 } : Room) s m ([.ref (ya Z 0)] : List Value).toArray below meth c s.heap [] 0 0 (MQ below (rd_Qi (fun r => ((0 < (g 30 0).toInt → r.toInt = (cB (qnB (mC g) (-1) (-1)) 64 : Int)) ∧ (¬ 0 < (g 30 0).toInt → r = 0)))) ([.ref (ya Z 0)] : List Value).toArray s 0 0 (fun _ => False)) (F0 m 4 ls []) := by
    intro n
    induction n with
    | zero => intro z1 z2 h2 hC hD hn; exact absurd hn (Nat.not_lt_zero _)
    | succ n ih4 =>
      intro z1 z2 h2 hC hD hn ls hl
      refine lv_iload_n hx hb dX7_gaps_4 rfl (lv_at hl 2 rfl) ?_
      refine lv_bipush (v := 64) hx hb dX7_gaps_5 (by decide) ?_
      refine lv_icmp_ge (tgt := 40) hx hb dX7_gaps_7 (by decide) (fun c_7 => ?_) (fun c_7 => ?_)
      · skip
        have i_7 := ti_lek tk_64 rfl c_7
        refine lv_iload_n hx hb dX7_gaps_40 rfl (lv_at hl 1 rfl) ?_
        exact W.iret (v := z1) hx hb hr (fun t ht hW => ⟨z1, rfl, ⟨fun z => by first | (exfalso; omega) | rw [hC, show z2.toInt.toNat = 64 by omega], fun z => by first | (exfalso; omega) | (rw [show z2.toInt.toNat = 0 by omega] at hC; exact Int32.toInt_inj.mp (by rw [hC, tk_0]; rfl))⟩, ht⟩) (fun q hq => by cases hq) dX7_gaps_41
      · skip
        have i_7 := ti_nlek tk_64 rfl c_7
        refine lv_aload_n hx hb dX7_gaps_10 rfl (lv_at hl 0 rfl) ?_
        refine va_get (D := yD Z) (ci := 7) (v := .int (g 30 0)) (C := RX7) (T := TX7) (N := 31) hx hb hT inlX7 hown hK hP 0 mw_0 rfl 0 (by decide) (hT _ (tr_17 _ (List.mem_of_getElem? (i := 15) rfl))) (fun _ h9 => h9) rfl dX7_gaps_11 ?_
        refine lv_if_le (tgt := 40) hx hb dX7_gaps_14 (by decide) (fun c_14 => ?_) (fun c_14 => ?_)
        · skip
          have i_14 := ti_lek rfl tk_0 c_14
          refine lv_iload_n hx hb dX7_gaps_40 rfl (lv_at hl 1 rfl) ?_
          exact W.iret (v := z1) hx hb hr (fun t ht hW => ⟨z1, rfl, ⟨fun z => by first | (exfalso; omega) | rw [hC, show z2.toInt.toNat = 64 by omega], fun z => by first | (exfalso; omega) | (rw [show z2.toInt.toNat = 0 by omega] at hC; exact Int32.toInt_inj.mp (by rw [hC, tk_0]; rfl))⟩, ht⟩) (fun q hq => by cases hq) dX7_gaps_41
        · skip
          have i_14 := ti_nlek rfl tk_0 c_14
          have cl := cB_le (qnB (mC g) (-1) (-1)) z2.toInt.toNat
          refine lv_iload_n hx hb dX7_gaps_17 rfl (lv_at hl 1 rfl) ?_
          refine lv_aload_n hx hb dX7_gaps_18 rfl (lv_at hl 0 rfl) ?_
          refine lv_iload_n hx hb dX7_gaps_19 rfl (lv_at hl 2 rfl) ?_
          refine rd_ci (va_runV (As := [.int z2]) (rest := [.int z1]) ⟨hx, hb, hml, hown, hT⟩ (c_X7_cheapestFor l Z hZ g gl z2 (by first | assumption | omega | decide) hJ) (cwV 1 hT (tb_V (fun _ h => h) (tr_22 _ (List.mem_of_getElem? (i := 18) rfl)) (tr_22 _ (List.mem_of_getElem? (i := 19) rfl)) (tr_22 _ (List.mem_of_getElem? (i := 20) rfl)) (tr_1 _ (List.mem_of_getElem? (i := 5) rfl)) (tr_22 _ (List.mem_of_getElem? (i := 21) rfl))) rfl rfl rfl (by decide +kernel) ⟨Nat.le_of_ble_eq_true rfl, Nat.le_of_ble_eq_true rfl⟩) ⟨fun a U f mk q => ⟨q.1, MI.blind f mk a q.2⟩, va_recv hK hP (ci := 7) (q0 := 0) rfl mw_0, fun U hU hW => ⟨rfl, hI.at hS hP hU hW⟩⟩ rfl rfl hl.1 rfl (lv_room (Nat.le_of_ble_eq_true rfl)) dX7_gaps_20 ⟨Nat.zero_le _, Nat.zero_le _⟩) (fun r_20 hr_20 => ?_)
          have e20 : r_20 = mC g z2.toInt.toNat := by rw [hr_20.1]; unfold mC; rw [← show z2 = nI z2.toInt.toNat from nI_ek (by omega)]
          refine lv_iconst (v := (-1)) hx hb dX7_gaps_23 (by decide) ?_
          refine lv_icmp_ne (tgt := 31) hx hb dX7_gaps_24 (by decide) (fun c_24 => ?_) (fun c_24 => ?_)
          · skip
            have i_24 := ti_nek rfl tk_m1 c_24
            refine lv_iconst (v := 0) hx hb dX7_gaps_31 (by decide) ?_
            refine lv_iadd hx hb dX7_gaps_32 ?_
            refine lv_topi (fun v_32 e_32 => ?_)
            have t_32 := ti_addk rfl tk_0 (by omega) (by omega) e_32
            refine lv_istore_n (lv' := [(1, .int v_32), (0, .ref (ya Z 0)), (2, .int z2)]) hx hb dX7_gaps_33 rfl hl (by decide) rfl (fun ls hl => ?_)
            obtain ⟨v_34, e_34⟩ : ∃ y : Int32, y = z2 + 1 := ⟨_, rfl⟩
            refine lv_iinc (v := v_34) (lv' := [(2, .int v_34), (1, .int v_32), (0, .ref (ya Z 0))]) hx hb dX7_gaps_34 hl (k := 2) rfl (by rw [e_34]; rfl) (by decide) rfl (fun ls hl => ?_)
            have t_34 := ti_addk rfl tk_1 (by omega) (by omega) e_34
            refine lv_goto (tgt := 4) hx hb dX7_gaps_37 (by decide) ?_
            exact ih4 v_32 v_34 (by omega) (by rw [show v_34.toInt.toNat = z2.toInt.toNat + 1 by omega]; first | (rw [cB_y (p := (qnB (mC g) (-1) (-1))) (n := z2.toInt.toNat) (by unfold qnB; rw [← e20]; exact decide_eq_true ⟨by omega, by omega⟩)]; omega) | (rw [cB_n (p := (qnB (mC g) (-1) (-1))) (n := z2.toInt.toNat) (by unfold qnB; rw [← e20]; exact fun z => by have z := of_decide_eq_true z; omega)]; omega)) (Or.inr (by omega)) (by omega) ls (lv_sub hl [2, 1, 0] rfl)
          · skip
            have i_24 := ti_eqk rfl tk_m1 c_24
            refine lv_iconst (v := 1) hx hb dX7_gaps_27 (by decide) ?_
            refine lv_goto (tgt := 32) hx hb dX7_gaps_28 (by decide) ?_
            refine lv_iadd hx hb dX7_gaps_32 ?_
            refine lv_topi (fun v_32 e_32 => ?_)
            have t_32 := ti_addk rfl tk_1 (by omega) (by omega) e_32
            refine lv_istore_n (lv' := [(1, .int v_32), (0, .ref (ya Z 0)), (2, .int z2)]) hx hb dX7_gaps_33 rfl hl (by decide) rfl (fun ls hl => ?_)
            obtain ⟨v_34, e_34⟩ : ∃ y : Int32, y = z2 + 1 := ⟨_, rfl⟩
            refine lv_iinc (v := v_34) (lv' := [(2, .int v_34), (1, .int v_32), (0, .ref (ya Z 0))]) hx hb dX7_gaps_34 hl (k := 2) rfl (by rw [e_34]; rfl) (by decide) rfl (fun ls hl => ?_)
            have t_34 := ti_addk rfl tk_1 (by omega) (by omega) e_34
            refine lv_goto (tgt := 4) hx hb dX7_gaps_37 (by decide) ?_
            exact ih4 v_32 v_34 (by omega) (by rw [show v_34.toInt.toNat = z2.toInt.toNat + 1 by omega]; first | (rw [cB_y (p := (qnB (mC g) (-1) (-1))) (n := z2.toInt.toNat) (by unfold qnB; rw [← e20]; exact decide_eq_true ⟨by omega, by omega⟩)]; omega) | (rw [cB_n (p := (qnB (mC g) (-1) (-1))) (n := z2.toInt.toNat) (by unfold qnB; rw [← e20]; exact fun z => by have z := of_decide_eq_true z; omega)]; omega)) (Or.inr (by omega)) (by omega) ls (lv_sub hl [2, 1, 0] rfl)
  refine lv_iconst (v := 0) hx hb dX7_gaps_0 (by decide) ?_
  refine lv_istore_n (lv' := [(1, .int 0), (0, .ref (ya Z 0))]) hx hb dX7_gaps_1 rfl hl (by decide) rfl (fun ls hl => ?_)
  refine lv_iconst (v := 0) hx hb dX7_gaps_2 (by decide) ?_
  refine lv_istore_n (lv' := [(2, .int 0), (1, .int 0), (0, .ref (ya Z 0))]) hx hb dX7_gaps_3 rfl hl (by decide) rfl (fun ls hl => ?_)
  exact L4 _ 0 0 (by decide) (by rw [tk_0]; rfl) (Or.inl (by decide)) (Nat.lt_succ_self _) ls (lv_sub hl [2, 1, 0] rfl)
set_option maxHeartbeats 4000000 in
set_option maxRecDepth 100000 in
theorem c_X7_idle (l : Launch) (Z : YT) (hZ : MG Z) (g : Nat → Nat → Int32) (gl : Nat → Nat → Int64)  (hJ : MJ g) : Met l yX7_idle (Cond.code yX7_idle cX7_idle 3 (some .int) :: wsL_law) ({ frames := 6, cells := 0, slots := 0, locals := 142 } : Room) (va_Pc [.ref (ya Z 0)] (MI Z g gl)) (rd_Qi (fun r => r.toInt = (cB (idB (mC g)) (g 31 0).toInt.toNat : Int))) 0 0 (fun _ => False) := by
  refine Met.ofW (cc := cX7_idle) (maxL := 3) (ret := (some .int)) (by decide) rfl ?_
  intro p e s m args below meth c s₁ B hml hv
  obtain ⟨rfl, hI⟩ := hv
  have hx := B.exec
  have hb := B.bytes
  have hr := B.returns
  have hT : ∀ w ∈ wsL_law, w.before ([.ref (ya Z 0)] : List Value).toArray s = true := fun w h => atoms_spec (ws := (Cond.code yX7_idle cX7_idle 3 (some .int) :: wsL_law)) B.pre w (List.mem_cons_of_mem _ h)
  have hown : s.vm.findClass RX7 = some m.cls := findClass_of_methodNamed B.named
  have hlocks := B.notSynchronized
  have hK := hI.2
  have hP := hI.1
  have hS : va_S (yA Z) s.heap s.heap [] := va_S.rf
  have j31 := hJ.j31
  have hl := lv_entry ([.ref (ya Z 0)]) (n := 3) (Nat.le_of_ble_eq_true rfl)
  rw [lg_entry_eq]
  generalize (lg_sl ([.ref (ya Z 0)]) ++ List.replicate (3 - (lg_sl ([.ref (ya Z 0)])).length) Slot.unset).toArray = ls at hl ⊢
  have hl : lv_has ls 3 [(0, .ref (ya Z 0))] := hl
  have L4 : ∀ (n : Nat) (z1 : Int32) (z2 : Int32)  (h2 : 0 ≤ z2.toInt ∧ z2.toInt ≤ (g 31 0).toInt) (hC : z1.toInt = (cB (idB (mC g)) z2.toInt.toNat : Int)) (hn : ((g 31 0).toInt - z2.toInt).toNat < n) (ls : Array Slot) (hl : lv_has ls 3 [(0, .ref (ya Z 0)), (1, .int z1), (2, .int z2)]), W p l e ({ frames := 6, cells := 0, slots := 0, locals := 142 } : Room) s m ([.ref (ya Z 0)] : List Value).toArray below meth c s.heap [] 0 0 (MQ below (rd_Qi (fun r => r.toInt = (cB (idB (mC g)) (g 31 0).toInt.toNat : Int))) ([.ref (ya Z 0)] : List Value).toArray s 0 0 (fun _ => False)) (F0 m 4 ls []) := by
    intro n
    induction n with
    | zero => intro z1 z2 h2 hC hn; exact absurd hn (Nat.not_lt_zero _)
    | succ n ih4 =>
      intro z1 z2 h2 hC hn ls hl
      refine lv_iload_n hx hb dX7_idle_4 rfl (lv_at hl 2 rfl) ?_
      refine lv_aload_n hx hb dX7_idle_5 rfl (lv_at hl 0 rfl) ?_
      refine va_get (D := yD Z) (ci := 7) (v := .int (g 31 0)) (C := RX7) (T := TX7) (N := 31) hx hb hT inlX7 hown hK hP 0 mw_0 rfl 1 (by decide) (hT _ (tr_17 _ (List.mem_of_getElem? (i := 14) rfl))) (fun _ h9 => h9) rfl dX7_idle_6 ?_
      refine lv_icmp_ge (tgt := 34) hx hb dX7_idle_9 (by decide) (fun c_9 => ?_) (fun c_9 => ?_)
      · skip
        have i_9 := ti_lek rfl rfl c_9
        refine lv_iload_n hx hb dX7_idle_34 rfl (lv_at hl 1 rfl) ?_
        exact W.iret (v := z1) hx hb hr (fun t ht hW => ⟨z1, rfl, (by (try dsimp only); rw [hC, show z2.toInt.toNat = (g 31 0).toInt.toNat by omega]), ht⟩) (fun q hq => by cases hq) dX7_idle_35
      · skip
        have i_9 := ti_nlek rfl rfl c_9
        have cl := cB_le (idB (mC g)) z2.toInt.toNat
        refine lv_iload_n hx hb dX7_idle_12 rfl (lv_at hl 1 rfl) ?_
        refine lv_aload_n hx hb dX7_idle_13 rfl (lv_at hl 0 rfl) ?_
        refine lv_iload_n hx hb dX7_idle_14 rfl (lv_at hl 2 rfl) ?_
        refine rd_ci (va_runV (As := [.int z2]) (rest := [.int z1]) ⟨hx, hb, hml, hown, hT⟩ (c_X7_quantitiesOf l Z hZ g gl z2 hJ) (cwV 1 hT (tb_V (fun _ h => h) (tr_22 _ (List.mem_of_getElem? (i := 14) rfl)) (tr_22 _ (List.mem_of_getElem? (i := 15) rfl)) (tr_22 _ (List.mem_of_getElem? (i := 16) rfl)) (tr_1 _ (List.mem_of_getElem? (i := 5) rfl)) (tr_22 _ (List.mem_of_getElem? (i := 17) rfl))) rfl rfl rfl (by decide +kernel) ⟨Nat.le_of_ble_eq_true rfl, Nat.le_of_ble_eq_true rfl⟩) ⟨fun a U f mk q => ⟨q.1, MI.blind f mk a q.2⟩, va_recv hK hP (ci := 7) (q0 := 0) rfl mw_0, fun U hU hW => ⟨rfl, hI.at hS hP hU hW⟩⟩ rfl rfl hl.1 rfl (lv_room (Nat.le_of_ble_eq_true rfl)) dX7_idle_15 ⟨Nat.zero_le _, Nat.zero_le _⟩) (fun r_15 hr_15 => ?_)
        refine lv_if_ne (tgt := 25) hx hb dX7_idle_18 (by decide) (fun c_18 => ?_) (fun c_18 => ?_)
        · skip
          have i_18 := ti_nek rfl tk_0 c_18
          refine lv_iconst (v := 0) hx hb dX7_idle_25 (by decide) ?_
          refine lv_iadd hx hb dX7_idle_26 ?_
          refine lv_topi (fun v_26 e_26 => ?_)
          have t_26 := ti_addk rfl tk_0 (by omega) (by omega) e_26
          refine lv_istore_n (lv' := [(1, .int v_26), (0, .ref (ya Z 0)), (2, .int z2)]) hx hb dX7_idle_27 rfl hl (by decide) rfl (fun ls hl => ?_)
          obtain ⟨v_28, e_28⟩ : ∃ y : Int32, y = z2 + 1 := ⟨_, rfl⟩
          refine lv_iinc (v := v_28) (lv' := [(2, .int v_28), (1, .int v_26), (0, .ref (ya Z 0))]) hx hb dX7_idle_28 hl (k := 2) rfl (by rw [e_28]; rfl) (by decide) rfl (fun ls hl => ?_)
          have t_28 := ti_addk rfl tk_1 (by omega) (by omega) e_28
          refine lv_goto (tgt := 4) hx hb dX7_idle_31 (by decide) ?_
          exact ih4 v_26 v_28 (by omega) (by have w15 : r_15.toInt = (cB (qnB (mC g) (z2.toInt.toNat : Int) (z2.toInt.toNat : Int)) 64 : Int) := (by rw [hr_15, show ((z2.toInt.toNat : Nat) : Int) = z2.toInt by omega]); rw [show v_28.toInt.toNat = z2.toInt.toNat + 1 by omega]; first | (rw [cB_y (p := (idB (mC g))) (n := z2.toInt.toNat) (by unfold idB; exact decide_eq_true (by omega))]; omega) | (rw [cB_n (p := (idB (mC g))) (n := z2.toInt.toNat) (by unfold idB; exact fun z => by have z := of_decide_eq_true z; omega)]; omega)) (by omega) ls (lv_sub hl [2, 1, 0] rfl)
        · skip
          have i_18 := ti_eqk rfl tk_0 c_18
          refine lv_iconst (v := 1) hx hb dX7_idle_21 (by decide) ?_
          refine lv_goto (tgt := 26) hx hb dX7_idle_22 (by decide) ?_
          refine lv_iadd hx hb dX7_idle_26 ?_
          refine lv_topi (fun v_26 e_26 => ?_)
          have t_26 := ti_addk rfl tk_1 (by omega) (by omega) e_26
          refine lv_istore_n (lv' := [(1, .int v_26), (0, .ref (ya Z 0)), (2, .int z2)]) hx hb dX7_idle_27 rfl hl (by decide) rfl (fun ls hl => ?_)
          obtain ⟨v_28, e_28⟩ : ∃ y : Int32, y = z2 + 1 := ⟨_, rfl⟩
          refine lv_iinc (v := v_28) (lv' := [(2, .int v_28), (1, .int v_26), (0, .ref (ya Z 0))]) hx hb dX7_idle_28 hl (k := 2) rfl (by rw [e_28]; rfl) (by decide) rfl (fun ls hl => ?_)
          have t_28 := ti_addk rfl tk_1 (by omega) (by omega) e_28
          refine lv_goto (tgt := 4) hx hb dX7_idle_31 (by decide) ?_
          exact ih4 v_26 v_28 (by omega) (by have w15 : r_15.toInt = (cB (qnB (mC g) (z2.toInt.toNat : Int) (z2.toInt.toNat : Int)) 64 : Int) := (by rw [hr_15, show ((z2.toInt.toNat : Nat) : Int) = z2.toInt by omega]); rw [show v_28.toInt.toNat = z2.toInt.toNat + 1 by omega]; first | (rw [cB_y (p := (idB (mC g))) (n := z2.toInt.toNat) (by unfold idB; exact decide_eq_true (by omega))]; omega) | (rw [cB_n (p := (idB (mC g))) (n := z2.toInt.toNat) (by unfold idB; exact fun z => by have z := of_decide_eq_true z; omega)]; omega)) (by omega) ls (lv_sub hl [2, 1, 0] rfl)
  refine lv_iconst (v := 0) hx hb dX7_idle_0 (by decide) ?_
  refine lv_istore_n (lv' := [(1, .int 0), (0, .ref (ya Z 0))]) hx hb dX7_idle_1 rfl hl (by decide) rfl (fun ls hl => ?_)
  refine lv_iconst (v := 0) hx hb dX7_idle_2 (by decide) ?_
  refine lv_istore_n (lv' := [(2, .int 0), (1, .int 0), (0, .ref (ya Z 0))]) hx hb dX7_idle_3 rfl hl (by decide) rfl (fun ls hl => ?_)
  exact L4 _ 0 0 (by rw [tk_0]; omega) (by rw [tk_0]; rfl) (Nat.lt_succ_self _) ls (lv_sub hl [2, 1, 0] rfl)
set_option maxHeartbeats 4000000 in
set_option maxRecDepth 100000 in
theorem c_X7_howMany (l : Launch) (Z : YT) (hZ : MG Z) (g : Nat → Nat → Int32) (gl : Nat → Nat → Int64) (x1 : Int32) (hJ : MJ g) : Met l yX7_howMany (Cond.code yX7_howMany cX7_howMany 2 (some .int) :: wsL_law) ({ frames := 7, cells := 0, slots := 0, locals := 164 } : Room) (va_Pc [.ref (ya Z 0), .int x1] (MI Z g gl)) (rd_Qi (fun r => r = cvF (cvM g) x1)) 0 0 (fun _ => False) := by
  refine Met.ofW (cc := cX7_howMany) (maxL := 2) (ret := (some .int)) (by decide) rfl ?_
  intro p e s m args below meth c s₁ B hml hv
  obtain ⟨rfl, hI⟩ := hv
  have hx := B.exec
  have hb := B.bytes
  have hr := B.returns
  have hT : ∀ w ∈ wsL_law, w.before ([.ref (ya Z 0), .int x1] : List Value).toArray s = true := fun w h => atoms_spec (ws := (Cond.code yX7_howMany cX7_howMany 2 (some .int) :: wsL_law)) B.pre w (List.mem_cons_of_mem _ h)
  have hown : s.vm.findClass RX7 = some m.cls := findClass_of_methodNamed B.named
  have hlocks := B.notSynchronized
  have hK := hI.2
  have hP := hI.1
  have hS : va_S (yA Z) s.heap s.heap [] := va_S.rf
  have hl := lv_entry ([.ref (ya Z 0), .int x1]) (n := 2) (Nat.le_of_ble_eq_true rfl)
  rw [lg_entry_eq]
  generalize (lg_sl ([.ref (ya Z 0), .int x1]) ++ List.replicate (2 - (lg_sl ([.ref (ya Z 0), .int x1])).length) Slot.unset).toArray = ls at hl ⊢
  have hl : lv_has ls 2 [(0, .ref (ya Z 0)), (1, .int x1)] := hl
  refine lv_iload_n hx hb dX7_howMany_0 rfl (lv_at hl 1 rfl) ?_
  by_cases w_1_0 : x1 = 0
  · skip
    refine lv_tableIn (tgt := 48) (off := 47) hx hb dX7_howMany_1 (by rw [w_1_0]; decide) (by rw [w_1_0]; decide) (by rw [w_1_0]; decide) (by decide) ?_
    refine lv_aload_n hx hb dX7_howMany_48 rfl (lv_at hl 0 rfl) ?_
    refine va_get (D := yD Z) (ci := 7) (v := .int (g 31 0)) (C := RX7) (T := TX7) (N := 31) hx hb hT inlX7 hown hK hP 0 mw_0 rfl 1 (by decide) (hT _ (tr_17 _ (List.mem_of_getElem? (i := 14) rfl))) (fun _ h9 => h9) rfl dX7_howMany_49 ?_
    exact W.iret (v := (g 31 0)) hx hb hr (fun t ht hW => ⟨(g 31 0), rfl, (by (try dsimp only); rw [cv_y (k := 0) w_1_0 (by decide)]; rfl), ht⟩) (fun q hq => by cases hq) dX7_howMany_52
  by_cases w_1_1 : x1 = 1
  · skip
    refine lv_tableIn (tgt := 53) (off := 52) hx hb dX7_howMany_1 (by rw [w_1_1]; decide) (by rw [w_1_1]; decide) (by rw [w_1_1]; decide) (by decide) ?_
    refine lv_aload_n hx hb dX7_howMany_53 rfl (lv_at hl 0 rfl) ?_
    refine va_get (D := yD Z) (ci := 7) (v := .int (g 30 0)) (C := RX7) (T := TX7) (N := 31) hx hb hT inlX7 hown hK hP 0 mw_0 rfl 0 (by decide) (hT _ (tr_17 _ (List.mem_of_getElem? (i := 15) rfl))) (fun _ h9 => h9) rfl dX7_howMany_54 ?_
    refine lv_if_ne (tgt := 64) hx hb dX7_howMany_57 (by decide) (fun c_57 => ?_) (fun c_57 => ?_)
    · skip
      have i_57 := ti_nek rfl tk_0 c_57
      refine lv_bipush (v := 127) hx hb dX7_howMany_64 (by decide) ?_
      refine lv_aload_n hx hb dX7_howMany_66 rfl (lv_at hl 0 rfl) ?_
      refine lv_iconst (v := (-1)) hx hb dX7_howMany_67 (by decide) ?_
      refine rd_ci (va_runV (As := [.int (-1)]) (rest := [.int 127]) ⟨hx, hb, hml, hown, hT⟩ (c_X7_nodesOf l Z hZ g gl (-1) hJ) (cwV 1 hT (tb_V (fun _ h => h) (tr_22 _ (List.mem_of_getElem? (i := 10) rfl)) (tr_22 _ (List.mem_of_getElem? (i := 11) rfl)) (tr_22 _ (List.mem_of_getElem? (i := 12) rfl)) (tr_1 _ (List.mem_of_getElem? (i := 5) rfl)) (tr_22 _ (List.mem_of_getElem? (i := 13) rfl))) rfl rfl rfl (by decide +kernel) ⟨Nat.le_of_ble_eq_true rfl, Nat.le_of_ble_eq_true rfl⟩) ⟨fun a U f mk q => ⟨q.1, MI.blind f mk a q.2⟩, va_recv hK hP (ci := 7) (q0 := 0) rfl mw_0, fun U hU hW => ⟨rfl, hI.at hS hP hU hW⟩⟩ rfl rfl hl.1 rfl (lv_room (Nat.le_of_ble_eq_true rfl)) dX7_howMany_68 ⟨Nat.zero_le _, Nat.zero_le _⟩) (fun r_68 hr_68 => ?_)
      (try simp only [tk_m1] at hr_68)
      have n68 := nd_127 (S := g 6) (a := -1) (b := -1)
      refine lv_isub hx hb dX7_howMany_71 ?_
      refine lv_topi (fun v_71 e_71 => ?_)
      have t_71 := ti_subk tk_127 rfl (by omega) (by omega) e_71
      exact W.iret (v := v_71) hx hb hr (fun t ht hW => ⟨v_71, rfl, (by (try dsimp only); rw [cv_y (k := 1) w_1_1 (by decide)]; show _ = (if g 30 0 = 0 then 0 else nI (127 - cB (ndB (g 6) (-1) (-1)) 128)); rw [if_neg c_57]; exact nI_ek (by omega)), ht⟩) (fun q hq => by cases hq) dX7_howMany_72
    · skip
      have i_57 := ti_eqk rfl tk_0 c_57
      refine lv_iconst (v := 0) hx hb dX7_howMany_60 (by decide) ?_
      refine lv_goto (tgt := 72) hx hb dX7_howMany_61 (by decide) ?_
      exact W.iret (v := 0) hx hb hr (fun t ht hW => ⟨0, rfl, (by (try dsimp only); rw [cv_y (k := 1) w_1_1 (by decide)]; show _ = (if g 30 0 = 0 then 0 else nI _); rw [if_pos c_57]), ht⟩) (fun q hq => by cases hq) dX7_howMany_72
  by_cases w_1_2 : x1 = 2
  · skip
    refine lv_tableIn (tgt := 73) (off := 72) hx hb dX7_howMany_1 (by rw [w_1_2]; decide) (by rw [w_1_2]; decide) (by rw [w_1_2]; decide) (by decide) ?_
    refine lv_aload_n hx hb dX7_howMany_73 rfl (lv_at hl 0 rfl) ?_
    refine rd_ci (va_runV (As := []) (rest := []) ⟨hx, hb, hml, hown, hT⟩ (c_X7_pieces l Z hZ g gl hJ) (cwV 0 hT (tb_V (fun _ h => h) (tr_30 _ (List.mem_of_getElem? (i := 21) rfl)) (tr_30 _ (List.mem_of_getElem? (i := 22) rfl)) (tr_30 _ (List.mem_of_getElem? (i := 23) rfl)) (tr_1 _ (List.mem_of_getElem? (i := 5) rfl)) (tr_31 _ (List.mem_of_getElem? (i := 0) rfl))) rfl rfl rfl (by decide +kernel) ⟨Nat.le_of_ble_eq_true rfl, Nat.le_of_ble_eq_true rfl⟩) ⟨fun a U f mk q => ⟨q.1, MI.blind f mk a q.2⟩, va_recv hK hP (ci := 7) (q0 := 0) rfl mw_0, fun U hU hW => ⟨rfl, hI.at hS hP hU hW⟩⟩ rfl rfl hl.1 rfl (lv_room (Nat.le_of_ble_eq_true rfl)) dX7_howMany_74 ⟨Nat.zero_le _, Nat.zero_le _⟩) (fun r_74 hr_74 => ?_)
    exact W.iret (v := r_74) hx hb hr (fun t ht hW => ⟨r_74, rfl, (by (try dsimp only); rw [cv_y (k := 2) w_1_2 (by decide)]; show _ = (if 0 < (g 30 0).toInt then nI (cB (fpB (mC g)) 64) else 0); by_cases z : 0 < (g 30 0).toInt; (rw [if_pos z]; exact nI_ek (hr_74.1 z)); (rw [if_neg z]; exact hr_74.2 z)), ht⟩) (fun q hq => by cases hq) dX7_howMany_77
  by_cases w_1_3 : x1 = 3
  · skip
    refine lv_tableIn (tgt := 78) (off := 77) hx hb dX7_howMany_1 (by rw [w_1_3]; decide) (by rw [w_1_3]; decide) (by rw [w_1_3]; decide) (by decide) ?_
    refine lv_aload_n hx hb dX7_howMany_78 rfl (lv_at hl 0 rfl) ?_
    refine rd_ci (va_runV (As := []) (rest := []) ⟨hx, hb, hml, hown, hT⟩ (c_X7_gaps l Z hZ g gl hJ) (cwV 0 hT (tb_V (fun _ h => h) (tr_37 _ (List.mem_of_getElem? (i := 8) rfl)) (tr_37 _ (List.mem_of_getElem? (i := 9) rfl)) (tr_37 _ (List.mem_of_getElem? (i := 10) rfl)) (tr_1 _ (List.mem_of_getElem? (i := 5) rfl)) (tr_37 _ (List.mem_of_getElem? (i := 11) rfl))) rfl rfl rfl (by decide +kernel) ⟨Nat.le_of_ble_eq_true rfl, Nat.le_of_ble_eq_true rfl⟩) ⟨fun a U f mk q => ⟨q.1, MI.blind f mk a q.2⟩, va_recv hK hP (ci := 7) (q0 := 0) rfl mw_0, fun U hU hW => ⟨rfl, hI.at hS hP hU hW⟩⟩ rfl rfl hl.1 rfl (lv_room (Nat.le_of_ble_eq_true rfl)) dX7_howMany_79 ⟨Nat.zero_le _, Nat.zero_le _⟩) (fun r_79 hr_79 => ?_)
    exact W.iret (v := r_79) hx hb hr (fun t ht hW => ⟨r_79, rfl, (by (try dsimp only); rw [cv_y (k := 3) w_1_3 (by decide)]; show _ = (if 0 < (g 30 0).toInt then nI (cB (qnB (mC g) (-1) (-1)) 64) else 0); by_cases z : 0 < (g 30 0).toInt; (rw [if_pos z]; exact nI_ek (hr_79.1 z)); (rw [if_neg z]; exact hr_79.2 z)), ht⟩) (fun q hq => by cases hq) dX7_howMany_82
  by_cases w_1_4 : x1 = 4
  · skip
    refine lv_tableIn (tgt := 83) (off := 82) hx hb dX7_howMany_1 (by rw [w_1_4]; decide) (by rw [w_1_4]; decide) (by rw [w_1_4]; decide) (by decide) ?_
    refine lv_aload_n hx hb dX7_howMany_83 rfl (lv_at hl 0 rfl) ?_
    refine rd_ci (va_runV (As := []) (rest := []) ⟨hx, hb, hml, hown, hT⟩ (c_X7_idle l Z hZ g gl hJ) (cwV 0 hT (tb_V (fun _ h => h) (tr_37 _ (List.mem_of_getElem? (i := 12) rfl)) (tr_37 _ (List.mem_of_getElem? (i := 13) rfl)) (tr_37 _ (List.mem_of_getElem? (i := 14) rfl)) (tr_1 _ (List.mem_of_getElem? (i := 5) rfl)) (tr_37 _ (List.mem_of_getElem? (i := 15) rfl))) rfl rfl rfl (by decide +kernel) ⟨Nat.le_of_ble_eq_true rfl, Nat.le_of_ble_eq_true rfl⟩) ⟨fun a U f mk q => ⟨q.1, MI.blind f mk a q.2⟩, va_recv hK hP (ci := 7) (q0 := 0) rfl mw_0, fun U hU hW => ⟨rfl, hI.at hS hP hU hW⟩⟩ rfl rfl hl.1 rfl (lv_room (Nat.le_of_ble_eq_true rfl)) dX7_howMany_84 ⟨Nat.zero_le _, Nat.zero_le _⟩) (fun r_84 hr_84 => ?_)
    exact W.iret (v := r_84) hx hb hr (fun t ht hW => ⟨r_84, rfl, (by (try dsimp only); rw [cv_y (k := 4) w_1_4 (by decide)]; exact nI_ek hr_84), ht⟩) (fun q hq => by cases hq) dX7_howMany_87
  by_cases w_1_5 : x1 = 5
  · skip
    refine lv_tableIn (tgt := 88) (off := 87) hx hb dX7_howMany_1 (by rw [w_1_5]; decide) (by rw [w_1_5]; decide) (by rw [w_1_5]; decide) (by decide) ?_
    refine lv_aload_n hx hb dX7_howMany_88 rfl (lv_at hl 0 rfl) ?_
    refine va_get (D := yD Z) (ci := 7) (v := .int (g 38 0)) (C := RX7) (T := TX7) (N := 31) hx hb hT inlX7 hown hK hP 0 mw_0 rfl 8 (by decide) (hT _ (tr_17 _ (List.mem_of_getElem? (i := 16) rfl))) (fun _ h9 => h9) rfl dX7_howMany_89 ?_
    exact W.iret (v := (g 38 0)) hx hb hr (fun t ht hW => ⟨(g 38 0), rfl, (by (try dsimp only); rw [cv_y (k := 5) w_1_5 (by decide)]; rfl), ht⟩) (fun q hq => by cases hq) dX7_howMany_92
  by_cases w_1_6 : x1 = 6
  · skip
    refine lv_tableIn (tgt := 93) (off := 92) hx hb dX7_howMany_1 (by rw [w_1_6]; decide) (by rw [w_1_6]; decide) (by rw [w_1_6]; decide) (by decide) ?_
    refine lv_aload_n hx hb dX7_howMany_93 rfl (lv_at hl 0 rfl) ?_
    refine va_get (D := yD Z) (ci := 7) (v := .int (g 42 0)) (C := RX7) (T := TX7) (N := 31) hx hb hT inlX7 hown hK hP 0 mw_0 rfl 12 (by decide) (hT _ (tr_5 _ (List.mem_of_getElem? (i := 23) rfl))) (fun _ h9 => h9) rfl dX7_howMany_94 ?_
    exact W.iret (v := (g 42 0)) hx hb hr (fun t ht hW => ⟨(g 42 0), rfl, (by (try dsimp only); rw [cv_y (k := 6) w_1_6 (by decide)]; rfl), ht⟩) (fun q hq => by cases hq) dX7_howMany_97
  by_cases w_1_7 : x1 = 7
  · skip
    refine lv_tableIn (tgt := 98) (off := 97) hx hb dX7_howMany_1 (by rw [w_1_7]; decide) (by rw [w_1_7]; decide) (by rw [w_1_7]; decide) (by decide) ?_
    refine lv_aload_n hx hb dX7_howMany_98 rfl (lv_at hl 0 rfl) ?_
    refine va_get (D := yD Z) (ci := 7) (v := .int (g 30 0)) (C := RX7) (T := TX7) (N := 31) hx hb hT inlX7 hown hK hP 0 mw_0 rfl 0 (by decide) (hT _ (tr_17 _ (List.mem_of_getElem? (i := 15) rfl))) (fun _ h9 => h9) rfl dX7_howMany_99 ?_
    exact W.iret (v := (g 30 0)) hx hb hr (fun t ht hW => ⟨(g 30 0), rfl, (by (try dsimp only); rw [cv_y (k := 7) w_1_7 (by decide)]; rfl), ht⟩) (fun q hq => by cases hq) dX7_howMany_102
  have n_1_0 := ti_nek rfl tk_0 w_1_0
  have n_1_1 := ti_nek rfl tk_1 w_1_1
  have n_1_2 := ti_nek rfl tk_2 w_1_2
  have n_1_3 := ti_nek rfl tk_3 w_1_3
  have n_1_4 := ti_nek rfl tk_4 w_1_4
  have n_1_5 := ti_nek rfl tk_5 w_1_5
  have n_1_6 := ti_nek rfl tk_6 w_1_6
  have n_1_7 := ti_nek rfl tk_7 w_1_7
  refine lv_tableOut (tgt := 103) hx hb dX7_howMany_1 (by omega) (by decide) ?_
  refine lv_bipush (v := (-102)) hx hb dX7_howMany_103 (by decide) ?_
  exact W.iret (v := (-102)) hx hb hr (fun t ht hW => ⟨(-102), rfl, (cv_n (by omega)).symm, ht⟩) (fun q hq => by cases hq) dX7_howMany_105
set_option maxHeartbeats 4000000 in
set_option maxRecDepth 100000 in
theorem c_X7_count (l : Launch) (Z : YT) (hZ : MG Z) (g : Nat → Nat → Int32) (gl : Nat → Nat → Int64) (x1 : Int32) (hJ : MJ g) : Met l yX7_count (Cond.code yX7_count cX7_count 2 (some .int) :: wsL_law) ({ frames := 8, cells := 0, slots := 0, locals := 185 } : Room) (va_Pc [.ref (ya Z 0), .int x1] (MI Z g gl)) (rd_Qi (fun r => r = cvF (cvM g) x1)) 0 0 (fun _ => False) := by
  refine Met.ofW (cc := cX7_count) (maxL := 2) (ret := (some .int)) (by decide) rfl ?_
  intro p e s m args below meth c s₁ B hml hv
  obtain ⟨rfl, hI⟩ := hv
  have hx := B.exec
  have hb := B.bytes
  have hr := B.returns
  have hT : ∀ w ∈ wsL_law, w.before ([.ref (ya Z 0), .int x1] : List Value).toArray s = true := fun w h => atoms_spec (ws := (Cond.code yX7_count cX7_count 2 (some .int) :: wsL_law)) B.pre w (List.mem_cons_of_mem _ h)
  have hown : s.vm.findClass RX7 = some m.cls := findClass_of_methodNamed B.named
  have hlocks := B.notSynchronized
  have hK := hI.2
  have hP := hI.1
  have hS : va_S (yA Z) s.heap s.heap [] := va_S.rf
  have hl := lv_entry ([.ref (ya Z 0), .int x1]) (n := 2) (Nat.le_of_ble_eq_true rfl)
  rw [lg_entry_eq]
  generalize (lg_sl ([.ref (ya Z 0), .int x1]) ++ List.replicate (2 - (lg_sl ([.ref (ya Z 0), .int x1])).length) Slot.unset).toArray = ls at hl ⊢
  have hl : lv_has ls 2 [(0, .ref (ya Z 0)), (1, .int x1)] := hl
  refine lv_aload_n hx hb dX7_count_0 rfl (lv_at hl 0 rfl) ?_
  refine lv_iload_n hx hb dX7_count_1 rfl (lv_at hl 1 rfl) ?_
  refine rd_ci (va_runV (As := [.int x1]) (rest := []) ⟨hx, hb, hml, hown, hT⟩ (c_X7_howMany l Z hZ g gl x1 hJ) (cwV 1 hT (tb_V (fun _ h => h) (tr_37 _ (List.mem_of_getElem? (i := 4) rfl)) (tr_37 _ (List.mem_of_getElem? (i := 5) rfl)) (tr_37 _ (List.mem_of_getElem? (i := 6) rfl)) (tr_1 _ (List.mem_of_getElem? (i := 5) rfl)) (tr_37 _ (List.mem_of_getElem? (i := 7) rfl))) rfl rfl rfl (by decide +kernel) ⟨Nat.le_of_ble_eq_true rfl, Nat.le_of_ble_eq_true rfl⟩) ⟨fun a U f mk q => ⟨q.1, MI.blind f mk a q.2⟩, va_recv hK hP (ci := 7) (q0 := 0) rfl mw_0, fun U hU hW => ⟨rfl, hI.at hS hP hU hW⟩⟩ rfl rfl hl.1 rfl (lv_room (Nat.le_of_ble_eq_true rfl)) dX7_count_2 ⟨Nat.zero_le _, Nat.zero_le _⟩) (fun r_2 hr_2 => ?_)
  exact W.iret (v := r_2) hx hb hr (fun t ht hW => ⟨r_2, rfl, hr_2, ht⟩) (fun q hq => by cases hq) dX7_count_5
set_option maxHeartbeats 4000000 in
set_option maxRecDepth 100000 in
theorem c_X7_mix (l : Launch) (Z : YT) (hZ : MG Z) (g : Nat → Nat → Int32) (gl : Nat → Nat → Int64) (x1 : Int64) (hJ : MJ g) : Met l yX7_mix (Cond.code yX7_mix cX7_mix 3 none :: wsL_law) ({ frames := 0, cells := 0, slots := 0, locals := 0 } : Room) (va_Pc [.ref (ya Z 0), .long x1] (MI Z g gl)) (va_Qv (fun (u : (Nat → Nat → Int32) × (Nat → Nat → Int64)) => Fr [] g u.1 ∧ MJ u.1 ∧ g = u.1 ∧ u.2 60 0 = 31 * gl 60 0 + x1) (fun u t => va_P (yD Z) vwCl (mw Z u.1 u.2) t.heap) (yA Z)) 0 0 (yA Z) := by
  refine Met.ofW (cc := cX7_mix) (maxL := 3) (ret := none) (by decide) rfl ?_
  intro p e s m args below meth c s₁ B hml hv
  obtain ⟨rfl, hI⟩ := hv
  have hx := B.exec
  have hb := B.bytes
  have hr := B.returns
  have hT : ∀ w ∈ wsL_law, w.before ([.ref (ya Z 0), .long x1] : List Value).toArray s = true := fun w h => atoms_spec (ws := (Cond.code yX7_mix cX7_mix 3 none :: wsL_law)) B.pre w (List.mem_cons_of_mem _ h)
  have hown : s.vm.findClass RX7 = some m.cls := findClass_of_methodNamed B.named
  have hlocks := B.notSynchronized
  have hK := hI.2
  have hP := hI.1
  have hS : va_S (yA Z) s.heap s.heap [] := va_S.rf
  have hF : Fr [] g g := Fr.rf
  have hl := lv_entry ([.ref (ya Z 0), .long x1]) (n := 3) (Nat.le_of_ble_eq_true rfl)
  rw [lg_entry_eq]
  generalize (lg_sl ([.ref (ya Z 0), .long x1]) ++ List.replicate (3 - (lg_sl ([.ref (ya Z 0), .long x1])).length) Slot.unset).toArray = ls at hl ⊢
  have hl : lv_has ls 3 [(0, .ref (ya Z 0)), (1, .long x1)] := hl
  refine lv_aload_n hx hb dX7_mix_0 rfl (lv_at hl 0 rfl) ?_
  refine lv_ldc2 (v := 31) hx hb hown (hT _ (tr_38 _ (List.mem_of_getElem? (i := 21) rfl))) dX7_mix_1 ?_
  refine lv_aload_n hx hb dX7_mix_4 rfl (lv_at hl 0 rfl) ?_
  refine va_get (D := yD Z) (ci := 7) (v := .long (gl 60 0)) (C := RX7) (T := TX7) (N := 31) hx hb hT inlX7 hown hK hP 0 mw_0 rfl 30 (by decide) (hT _ (tr_38 _ (List.mem_of_getElem? (i := 16) rfl))) (fun _ h9 => h9) rfl dX7_mix_5 ?_
  refine lv_lmul hx hb dX7_mix_8 ?_
  refine lv_topl (fun v_8 e_8 => ?_)
  refine lv_lload_n hx hb dX7_mix_9 rfl (lv_at hl 1 rfl) ?_
  refine lv_ladd hx hb dX7_mix_10 ?_
  refine lv_topl (fun v_10 e_10 => ?_)
  refine va_put (D := yD Z) (ci := 7) (v := .long v_10) (ty := .long) (C := RX7) (T := TX7) (N := 31) hx hb hT inlX7 tyX7 tyX7_ok nmX7 hown hK hP hZ.D hS 0 mw_0 rfl 30 (by decide) (hT _ (tr_38 _ (List.mem_of_getElem? (i := 16) rfl))) (fun _ h9 => h9) rfl (by decide +kernel) rfl rfl (Nat.le_of_ble_eq_true rfl) dX7_mix_11 (fun H locs hP _ hS => ?_)
  replace hP := mf_30 hP
  exact W.vret hx hb hr (fun t ht hW => ⟨⟨(g, (upL gl 60 (fun _ => v_10))), rfl, ⟨hF, hJ, rfl, (by (try dsimp only); show v_10 = _; rw [e_10, e_8])⟩, by show va_P (yD Z) vwCl (mw Z g (upL gl 60 (fun _ => v_10))) t.heap; rw [ht]; exact hP⟩, hS.F ht⟩) hS.2.2 dX7_mix_14
set_option maxHeartbeats 4000000 in
set_option maxRecDepth 100000 in
theorem c_X7_mixDesk (l : Launch) (Z : YT) (hZ : MG Z) (g : Nat → Nat → Int32) (gl : Nat → Nat → Int64)  (hJ : MJ g) : Met l yX7_mixDesk (Cond.code yX7_mixDesk cX7_mixDesk 2 none :: wsL_law) ({ frames := 7, cells := 0, slots := 0, locals := 166 } : Room) (va_Pc [.ref (ya Z 0)] (MI Z g gl)) (va_Qv (fun (u : (Nat → Nat → Int32) × (Nat → Nat → Int64)) => Fr [] g u.1 ∧ MJ u.1 ∧ g = u.1 ∧ (∃ b, isG (mC g) (prC g (mC g)) 0 64 b ∧ u.2 60 0 = mtF (mC g) (g 6) (csF g (mC g)) b (gl 60 0))) (fun u t => va_P (yD Z) vwCl (mw Z u.1 u.2) t.heap) (yA Z)) 0 0 (yA Z) := by
  refine Met.ofW (cc := cX7_mixDesk) (maxL := 2) (ret := none) (by decide) rfl ?_
  intro p e s m args below meth c s₁ B hml hv
  obtain ⟨rfl, hI⟩ := hv
  have hx := B.exec
  have hb := B.bytes
  have hr := B.returns
  have hT : ∀ w ∈ wsL_law, w.before ([.ref (ya Z 0)] : List Value).toArray s = true := fun w h => atoms_spec (ws := (Cond.code yX7_mixDesk cX7_mixDesk 2 none :: wsL_law)) B.pre w (List.mem_cons_of_mem _ h)
  have hown : s.vm.findClass RX7 = some m.cls := findClass_of_methodNamed B.named
  have hlocks := B.notSynchronized
  have hK := hI.2
  have hP := hI.1
  have hS : va_S (yA Z) s.heap s.heap [] := va_S.rf
  have hF : Fr [] g g := Fr.rf
  have hl := lv_entry ([.ref (ya Z 0)]) (n := 2) (Nat.le_of_ble_eq_true rfl)
  rw [lg_entry_eq]
  generalize (lg_sl ([.ref (ya Z 0)]) ++ List.replicate (2 - (lg_sl ([.ref (ya Z 0)])).length) Slot.unset).toArray = ls at hl ⊢
  have hl : lv_has ls 2 [(0, .ref (ya Z 0))] := hl
  have L35 : ∀ (n : Nat) (z1 : Int32) (gl1 : Nat → Nat → Int64) (H : Heap) (locs : List Loc) (hP : va_P (yD Z) vwCl (mw Z g gl1) H) (hS : va_S (yA Z) s.heap H locs) (h1 : 1 ≤ z1.toInt ∧ z1.toInt ≤ 128) (hM : gl1 60 0 = (mxL (fun v => (g 6 (v + 1)).toInt64) (mx2 (fun q => (mC g q).toInt64) (csF g (mC g)) (gl 60 0) 64) (z1.toInt.toNat - 1))) (hn : (128 - z1.toInt).toNat < n) (ls : Array Slot) (hl : lv_has ls 2 [(0, .ref (ya Z 0)), (1, .int z1)]), W p l e ({ frames := 7, cells := 0, slots := 0, locals := 166 } : Room) s m ([.ref (ya Z 0)] : List Value).toArray below meth c H locs 0 0 (MQ below (va_Qv (fun (u : (Nat → Nat → Int32) × (Nat → Nat → Int64)) => Fr [] g u.1 ∧ MJ u.1 ∧ g = u.1 ∧ (∃ b, isG (mC g) (prC g (mC g)) 0 64 b ∧ u.2 60 0 = mtF (mC g) (g 6) (csF g (mC g)) b (gl 60 0))) (fun u t => va_P (yD Z) vwCl (mw Z u.1 u.2) t.heap) (yA Z)) ([.ref (ya Z 0)] : List Value).toArray s 0 0 (yA Z)) (F0 m 35 ls []) := by
    intro n
    induction n with
    | zero => intro z1 gl1 H locs hP hS h1 hM hn; exact absurd hn (Nat.not_lt_zero _)
    | succ n ih35 =>
      intro z1 gl1 H locs hP hS h1 hM hn ls hl
      refine lv_iload_n hx hb dX7_mixDesk_35 rfl (lv_at hl 1 rfl) ?_
      refine lv_sipush (v := 128) hx hb dX7_mixDesk_36 (by decide) ?_
      refine lv_icmp_ge (tgt := 59) hx hb dX7_mixDesk_39 (by decide) (fun c_39 => ?_) (fun c_39 => ?_)
      · skip
        have i_39 := ti_lek tk_128 rfl c_39
        refine lv_aload_n hx hb dX7_mixDesk_59 rfl (lv_at hl 0 rfl) ?_
        refine lv_aload_n hx hb dX7_mixDesk_60 rfl (lv_at hl 0 rfl) ?_
        refine lv_iconst (v := 0) hx hb dX7_mixDesk_61 (by decide) ?_
        refine lv_bipush (v := 63) hx hb dX7_mixDesk_62 (by decide) ?_
        refine rd_ci (va_runV (As := [.int 0, .int 63]) (rest := [.ref (ya Z 0)]) ⟨hx, hb, hml, hown, hT⟩ (c_X7_bargainIn l Z hZ g gl1 0 63 (by first | assumption | omega | decide) (by first | assumption | omega | decide) hJ) (cwV 2 hT (tb_V (fun _ h => h) (tr_31 _ (List.mem_of_getElem? (i := 17) rfl)) (tr_31 _ (List.mem_of_getElem? (i := 18) rfl)) (tr_31 _ (List.mem_of_getElem? (i := 19) rfl)) (tr_1 _ (List.mem_of_getElem? (i := 5) rfl)) (tr_31 _ (List.mem_of_getElem? (i := 20) rfl))) rfl rfl rfl (by decide +kernel) ⟨Nat.le_of_ble_eq_true rfl, Nat.le_of_ble_eq_true rfl⟩) ⟨fun a U f mk q => ⟨q.1, MI.blind f mk a q.2⟩, va_recv hK hP (ci := 7) (q0 := 0) rfl mw_0, fun U hU hW => ⟨rfl, hI.at hS hP hU hW⟩⟩ rfl rfl hl.1 rfl (lv_room (Nat.le_of_ble_eq_true rfl)) dX7_mixDesk_64 ⟨Nat.zero_le _, Nat.zero_le _⟩) (fun r_64 hr_64 => ?_)
        (try simp only [tk_0, tk_63] at hr_64)
        have e64 : isG (mC g) (prC g (mC g)) 0 64 r_64 := hr_64
        refine lv_i2l hx hb dX7_mixDesk_67 rfl ?_
        refine lv_topl (fun v_67 e_67 => ?_)
        refine va_callv (va_runV (As := [.long v_67]) (rest := []) ⟨hx, hb, hml, hown, hT⟩ (c_X7_mix l Z hZ g gl1 v_67 hJ) (cwV 1 hT (tb_V (fun _ h => h) (tr_38 _ (List.mem_of_getElem? (i := 17) rfl)) (tr_38 _ (List.mem_of_getElem? (i := 18) rfl)) (tr_38 _ (List.mem_of_getElem? (i := 19) rfl)) (tr_1 _ (List.mem_of_getElem? (i := 5) rfl)) (tr_38 _ (List.mem_of_getElem? (i := 20) rfl))) rfl rfl rfl (by decide +kernel) ⟨Nat.le_of_ble_eq_true rfl, Nat.le_of_ble_eq_true rfl⟩) ⟨fun a U f mk q => ⟨q.1, MI.blind f mk a q.2⟩, va_recv hK hP (ci := 7) (q0 := 0) rfl mw_0, fun U hU hW => ⟨rfl, hI.at hS hP hU hW⟩⟩ rfl rfl hl.1 rfl (lv_room (Nat.le_of_ble_eq_true rfl)) dX7_mixDesk_68 ⟨Nat.zero_le _, Nat.zero_le _⟩) hS (fun q _ h => h) (fun q h => h) (fun u_68 t_68 H locs ht_68 _ hw_68 hB_68 _ _ hS => ?_)
        obtain ⟨g_68, gl_68⟩ := u_68
        have hP : va_P (yD Z) vwCl (mw Z g_68 gl_68) H := ht_68 ▸ hB_68
        obtain ⟨hf_68, hJ, eg_68, hr_68⟩ := hw_68
        have hF := hF.tr hf_68 (by decide)
        dsimp only at hf_68 hJ hF eg_68 hr_68
        subst eg_68
        exact W.vret hx hb hr (fun t ht hW => ⟨⟨(g, gl_68), rfl, ⟨hF, hJ, rfl, (by (try dsimp only); first | done | exact ⟨r_64, e64, by unfold mtF; rw [hr_68, e_67, hM, show z1.toInt.toNat - 1 = 127 by omega]⟩)⟩, by show va_P (yD Z) vwCl (mw Z g gl_68) t.heap; rw [ht]; exact hP⟩, hS.F ht⟩) hS.2.2 dX7_mixDesk_71
      · skip
        have i_39 := ti_nlek tk_128 rfl c_39
        refine lv_aload_n hx hb dX7_mixDesk_42 rfl (lv_at hl 0 rfl) ?_
        refine lv_aload_n hx hb dX7_mixDesk_43 rfl (lv_at hl 0 rfl) ?_
        refine va_get (D := yD Z) (ci := 7) (v := .ref (ya Z 6)) (C := RX7) (T := TX7) (N := 31) hx hb hT inlX7 hown hK hP 0 mw_0 rfl 7 (by decide) (hT _ (tr_4 _ (List.mem_of_getElem? (i := 18) rfl))) (fun _ h9 => h9) rfl dX7_mixDesk_44 ?_
        refine lv_iload_n hx hb dX7_mixDesk_47 rfl (lv_at hl 1 rfl) ?_
        have h_48 : vp_in z1 128 := (ti_vp (by omega) (by omega))
        refine va_iald hx hb hK hP 6 1 mw_6 rfl h_48 dX7_mixDesk_48 ?_
        refine lv_topi (fun v_48 e_48 => ?_)
        have e48 : v_48 = g 6 z1.toInt.toNat := e_48
        refine lv_i2l hx hb dX7_mixDesk_49 rfl ?_
        refine lv_topl (fun v_49 e_49 => ?_)
        refine va_callv (va_runV (As := [.long v_49]) (rest := []) ⟨hx, hb, hml, hown, hT⟩ (c_X7_mix l Z hZ g gl1 v_49 hJ) (cwV 1 hT (tb_V (fun _ h => h) (tr_38 _ (List.mem_of_getElem? (i := 17) rfl)) (tr_38 _ (List.mem_of_getElem? (i := 18) rfl)) (tr_38 _ (List.mem_of_getElem? (i := 19) rfl)) (tr_1 _ (List.mem_of_getElem? (i := 5) rfl)) (tr_38 _ (List.mem_of_getElem? (i := 20) rfl))) rfl rfl rfl (by decide +kernel) ⟨Nat.le_of_ble_eq_true rfl, Nat.le_of_ble_eq_true rfl⟩) ⟨fun a U f mk q => ⟨q.1, MI.blind f mk a q.2⟩, va_recv hK hP (ci := 7) (q0 := 0) rfl mw_0, fun U hU hW => ⟨rfl, hI.at hS hP hU hW⟩⟩ rfl rfl hl.1 rfl (lv_room (Nat.le_of_ble_eq_true rfl)) dX7_mixDesk_50 ⟨Nat.zero_le _, Nat.zero_le _⟩) hS (fun q _ h => h) (fun q h => h) (fun u_50 t_50 H locs ht_50 _ hw_50 hB_50 _ _ hS => ?_)
        obtain ⟨g_50, gl_50⟩ := u_50
        have hP : va_P (yD Z) vwCl (mw Z g_50 gl_50) H := ht_50 ▸ hB_50
        obtain ⟨hf_50, hJ, eg_50, hr_50⟩ := hw_50
        have hF := hF.tr hf_50 (by decide)
        dsimp only at hf_50 hJ hF eg_50 hr_50
        subst eg_50
        obtain ⟨v_53, e_53⟩ : ∃ y : Int32, y = z1 + 1 := ⟨_, rfl⟩
        refine lv_iinc (v := v_53) (lv' := [(1, .int v_53), (0, .ref (ya Z 0))]) hx hb dX7_mixDesk_53 hl (k := 1) rfl (by rw [e_53]; rfl) (by decide) rfl (fun ls hl => ?_)
        have t_53 := ti_addk rfl tk_1 (by omega) (by omega) e_53
        refine lv_goto (tgt := 35) hx hb dX7_mixDesk_56 (by decide) ?_
        exact ih35 v_53 gl_50 _ _ hP hS (by omega) (by rw [show v_53.toInt.toNat - 1 = (z1.toInt.toNat - 1) + 1 by omega, mxL, ← hM, hr_50, e_49, e48, show z1.toInt.toNat - 1 + 1 = z1.toInt.toNat by omega]) (by omega) ls (lv_sub hl [1, 0] rfl)
  have L2 : ∀ (n : Nat) (z1 : Int32) (gl1 : Nat → Nat → Int64) (H : Heap) (locs : List Loc) (hP : va_P (yD Z) vwCl (mw Z g gl1) H) (hS : va_S (yA Z) s.heap H locs) (h1 : 0 ≤ z1.toInt ∧ z1.toInt ≤ 64) (hM : gl1 60 0 = (mx2 (fun q => (mC g q).toInt64) (csF g (mC g)) (gl 60 0) z1.toInt.toNat)) (hn : (64 - z1.toInt).toNat < n) (ls : Array Slot) (hl : lv_has ls 2 [(0, .ref (ya Z 0)), (1, .int z1)]), W p l e ({ frames := 7, cells := 0, slots := 0, locals := 166 } : Room) s m ([.ref (ya Z 0)] : List Value).toArray below meth c H locs 0 0 (MQ below (va_Qv (fun (u : (Nat → Nat → Int32) × (Nat → Nat → Int64)) => Fr [] g u.1 ∧ MJ u.1 ∧ g = u.1 ∧ (∃ b, isG (mC g) (prC g (mC g)) 0 64 b ∧ u.2 60 0 = mtF (mC g) (g 6) (csF g (mC g)) b (gl 60 0))) (fun u t => va_P (yD Z) vwCl (mw Z u.1 u.2) t.heap) (yA Z)) ([.ref (ya Z 0)] : List Value).toArray s 0 0 (yA Z)) (F0 m 2 ls []) := by
    intro n
    induction n with
    | zero => intro z1 gl1 H locs hP hS h1 hM hn; exact absurd hn (Nat.not_lt_zero _)
    | succ n ih2 =>
      intro z1 gl1 H locs hP hS h1 hM hn ls hl
      refine lv_iload_n hx hb dX7_mixDesk_2 rfl (lv_at hl 1 rfl) ?_
      refine lv_bipush (v := 64) hx hb dX7_mixDesk_3 (by decide) ?_
      refine lv_icmp_ge (tgt := 33) hx hb dX7_mixDesk_5 (by decide) (fun c_5 => ?_) (fun c_5 => ?_)
      · skip
        have i_5 := ti_lek tk_64 rfl c_5
        refine lv_iconst (v := 1) hx hb dX7_mixDesk_33 (by decide) ?_
        refine lv_istore_n (lv' := [(1, .int 1), (0, .ref (ya Z 0))]) hx hb dX7_mixDesk_34 rfl hl (by decide) rfl (fun ls hl => ?_)
        exact L35 _ 1 gl1 _ _ hP hS (by decide) (by rw [hM, show z1.toInt.toNat = 64 by omega]; rfl) (Nat.lt_succ_self _) ls (lv_sub hl [1, 0] rfl)
      · skip
        have i_5 := ti_nlek tk_64 rfl c_5
        refine lv_aload_n hx hb dX7_mixDesk_8 rfl (lv_at hl 0 rfl) ?_
        refine lv_aload_n hx hb dX7_mixDesk_9 rfl (lv_at hl 0 rfl) ?_
        refine lv_iload_n hx hb dX7_mixDesk_10 rfl (lv_at hl 1 rfl) ?_
        refine rd_ci (va_runV (As := [.int z1]) (rest := [.ref (ya Z 0)]) ⟨hx, hb, hml, hown, hT⟩ (c_X7_cheapestFor l Z hZ g gl1 z1 (by first | assumption | omega | decide) hJ) (cwV 1 hT (tb_V (fun _ h => h) (tr_22 _ (List.mem_of_getElem? (i := 18) rfl)) (tr_22 _ (List.mem_of_getElem? (i := 19) rfl)) (tr_22 _ (List.mem_of_getElem? (i := 20) rfl)) (tr_1 _ (List.mem_of_getElem? (i := 5) rfl)) (tr_22 _ (List.mem_of_getElem? (i := 21) rfl))) rfl rfl rfl (by decide +kernel) ⟨Nat.le_of_ble_eq_true rfl, Nat.le_of_ble_eq_true rfl⟩) ⟨fun a U f mk q => ⟨q.1, MI.blind f mk a q.2⟩, va_recv hK hP (ci := 7) (q0 := 0) rfl mw_0, fun U hU hW => ⟨rfl, hI.at hS hP hU hW⟩⟩ rfl rfl hl.1 rfl (lv_room (Nat.le_of_ble_eq_true rfl)) dX7_mixDesk_11 ⟨Nat.zero_le _, Nat.zero_le _⟩) (fun r_11 hr_11 => ?_)
        have e11 : r_11 = mC g z1.toInt.toNat := by rw [hr_11.1]; unfold mC; rw [← show z1 = nI z1.toInt.toNat from nI_ek (by omega)]
        refine lv_i2l hx hb dX7_mixDesk_14 rfl ?_
        refine lv_topl (fun v_14 e_14 => ?_)
        refine va_callv (va_runV (As := [.long v_14]) (rest := []) ⟨hx, hb, hml, hown, hT⟩ (c_X7_mix l Z hZ g gl1 v_14 hJ) (cwV 1 hT (tb_V (fun _ h => h) (tr_38 _ (List.mem_of_getElem? (i := 17) rfl)) (tr_38 _ (List.mem_of_getElem? (i := 18) rfl)) (tr_38 _ (List.mem_of_getElem? (i := 19) rfl)) (tr_1 _ (List.mem_of_getElem? (i := 5) rfl)) (tr_38 _ (List.mem_of_getElem? (i := 20) rfl))) rfl rfl rfl (by decide +kernel) ⟨Nat.le_of_ble_eq_true rfl, Nat.le_of_ble_eq_true rfl⟩) ⟨fun a U f mk q => ⟨q.1, MI.blind f mk a q.2⟩, va_recv hK hP (ci := 7) (q0 := 0) rfl mw_0, fun U hU hW => ⟨rfl, hI.at hS hP hU hW⟩⟩ rfl rfl hl.1 rfl (lv_room (Nat.le_of_ble_eq_true rfl)) dX7_mixDesk_15 ⟨Nat.zero_le _, Nat.zero_le _⟩) hS (fun q _ h => h) (fun q h => h) (fun u_15 t_15 H locs ht_15 _ hw_15 hB_15 _ _ hS => ?_)
        obtain ⟨g_15, gl_15⟩ := u_15
        have hP : va_P (yD Z) vwCl (mw Z g_15 gl_15) H := ht_15 ▸ hB_15
        obtain ⟨hf_15, hJ, eg_15, hr_15⟩ := hw_15
        have hF := hF.tr hf_15 (by decide)
        dsimp only at hf_15 hJ hF eg_15 hr_15
        subst eg_15
        refine lv_aload_n hx hb dX7_mixDesk_18 rfl (lv_at hl 0 rfl) ?_
        refine lv_aload_n hx hb dX7_mixDesk_19 rfl (lv_at hl 0 rfl) ?_
        refine lv_iload_n hx hb dX7_mixDesk_20 rfl (lv_at hl 1 rfl) ?_
        refine rd_cl (va_runV (As := [.int z1]) (rest := [.ref (ya Z 0)]) ⟨hx, hb, hml, hown, hT⟩ (c_X7_costFor l Z hZ g gl_15 z1 (by first | assumption | omega | decide) hJ) (cwV 1 hT (tb_V (fun _ h => h) (tr_29 _ (List.mem_of_getElem? (i := 20) rfl)) (tr_29 _ (List.mem_of_getElem? (i := 21) rfl)) (tr_29 _ (List.mem_of_getElem? (i := 22) rfl)) (tr_1 _ (List.mem_of_getElem? (i := 5) rfl)) (tr_29 _ (List.mem_of_getElem? (i := 23) rfl))) rfl rfl rfl (by decide +kernel) ⟨Nat.le_of_ble_eq_true rfl, Nat.le_of_ble_eq_true rfl⟩) ⟨fun a U f mk q => ⟨q.1, MI.blind f mk a q.2⟩, va_recv hK hP (ci := 7) (q0 := 0) rfl mw_0, fun U hU hW => ⟨rfl, hI.at hS hP hU hW⟩⟩ rfl rfl hl.1 rfl (lv_room (Nat.le_of_ble_eq_true rfl)) dX7_mixDesk_21 ⟨Nat.zero_le _, Nat.zero_le _⟩) (fun r_21 hr_21 => ?_)
        refine va_callv (va_runV (As := [.long r_21]) (rest := []) ⟨hx, hb, hml, hown, hT⟩ (c_X7_mix l Z hZ g gl_15 r_21 hJ) (cwV 1 hT (tb_V (fun _ h => h) (tr_38 _ (List.mem_of_getElem? (i := 17) rfl)) (tr_38 _ (List.mem_of_getElem? (i := 18) rfl)) (tr_38 _ (List.mem_of_getElem? (i := 19) rfl)) (tr_1 _ (List.mem_of_getElem? (i := 5) rfl)) (tr_38 _ (List.mem_of_getElem? (i := 20) rfl))) rfl rfl rfl (by decide +kernel) ⟨Nat.le_of_ble_eq_true rfl, Nat.le_of_ble_eq_true rfl⟩) ⟨fun a U f mk q => ⟨q.1, MI.blind f mk a q.2⟩, va_recv hK hP (ci := 7) (q0 := 0) rfl mw_0, fun U hU hW => ⟨rfl, hI.at hS hP hU hW⟩⟩ rfl rfl hl.1 rfl (lv_room (Nat.le_of_ble_eq_true rfl)) dX7_mixDesk_24 ⟨Nat.zero_le _, Nat.zero_le _⟩) hS (fun q _ h => h) (fun q h => h) (fun u_24 t_24 H locs ht_24 _ hw_24 hB_24 _ _ hS => ?_)
        obtain ⟨g_24, gl_24⟩ := u_24
        have hP : va_P (yD Z) vwCl (mw Z g_24 gl_24) H := ht_24 ▸ hB_24
        obtain ⟨hf_24, hJ, eg_24, hr_24⟩ := hw_24
        have hF := hF.tr hf_24 (by decide)
        dsimp only at hf_24 hJ hF eg_24 hr_24
        subst eg_24
        obtain ⟨v_27, e_27⟩ : ∃ y : Int32, y = z1 + 1 := ⟨_, rfl⟩
        refine lv_iinc (v := v_27) (lv' := [(1, .int v_27), (0, .ref (ya Z 0))]) hx hb dX7_mixDesk_27 hl (k := 1) rfl (by rw [e_27]; rfl) (by decide) rfl (fun ls hl => ?_)
        have t_27 := ti_addk rfl tk_1 (by omega) (by omega) e_27
        refine lv_goto (tgt := 2) hx hb dX7_mixDesk_30 (by decide) ?_
        exact ih2 v_27 gl_24 _ _ hP hS (by omega) (by rw [show v_27.toInt.toNat = z1.toInt.toNat + 1 by omega, mx2, ← hM, hr_24, hr_15, hr_21, e_14, e11]) (by omega) ls (lv_sub hl [1, 0] rfl)
  refine lv_iconst (v := 0) hx hb dX7_mixDesk_0 (by decide) ?_
  refine lv_istore_n (lv' := [(1, .int 0), (0, .ref (ya Z 0))]) hx hb dX7_mixDesk_1 rfl hl (by decide) rfl (fun ls hl => ?_)
  exact L2 _ 0 gl _ _ hP hS (by decide) rfl (Nat.lt_succ_self _) ls (lv_sub hl [1, 0] rfl)
set_option maxHeartbeats 4000000 in
set_option maxRecDepth 100000 in
theorem c_X7_digest (l : Launch) (Z : YT) (hZ : MG Z) (g : Nat → Nat → Int32) (gl : Nat → Nat → Int64)  (hJ : MJ g) : Met l yX7_digest (Cond.code yX7_digest cX7_digest 3 (some .long) :: wsL_law) ({ frames := 8, cells := 0, slots := 0, locals := 187 } : Room) (va_Pc [.ref (ya Z 0)] (MI Z g gl)) (va_Ql (fun (r : Int64) (u : (Nat → Nat → Int32) × (Nat → Nat → Int64)) => Fr [] g u.1 ∧ MJ u.1 ∧ g = u.1 ∧ (∃ h2, ((¬ 0 < (g 30 0).toInt ∧ h2 = (mxT (fun t w => tvF g (g 6) (mC g) (g 7) (g 8) (g 9) (g 38 0).toInt.toNat t w) 1361 (g 31 0).toInt.toNat)) ∨ (0 < (g 30 0).toInt ∧ ∃ b, isG (mC g) (prC g (mC g)) 0 64 b ∧ h2 = mtF (mC g) (g 6) (csF g (mC g)) b (mxT (fun t w => tvF g (g 6) (mC g) (g 7) (g 8) (g 9) (g 38 0).toInt.toNat t w) 1361 (g 31 0).toInt.toNat))) ∧ r = (mxL (fun w => (cvM g w).toInt64) (mxL (fun k => (g 10 k).toInt64) h2 (g 42 0).toInt.toNat) 8))) (fun u t => va_P (yD Z) vwCl (mw Z u.1 u.2) t.heap) (yA Z)) 0 0 (yA Z) := by
  refine Met.ofW (cc := cX7_digest) (maxL := 3) (ret := (some .long)) (by decide) rfl ?_
  intro p e s m args below meth c s₁ B hml hv
  obtain ⟨rfl, hI⟩ := hv
  have hx := B.exec
  have hb := B.bytes
  have hr := B.returns
  have hT : ∀ w ∈ wsL_law, w.before ([.ref (ya Z 0)] : List Value).toArray s = true := fun w h => atoms_spec (ws := (Cond.code yX7_digest cX7_digest 3 (some .long) :: wsL_law)) B.pre w (List.mem_cons_of_mem _ h)
  have hown : s.vm.findClass RX7 = some m.cls := findClass_of_methodNamed B.named
  have hlocks := B.notSynchronized
  have hK := hI.2
  have hP := hI.1
  have hS : va_S (yA Z) s.heap s.heap [] := va_S.rf
  have hF : Fr [] g g := Fr.rf
  have j31 := hJ.j31
  have j42 := hJ.j42
  have hl := lv_entry ([.ref (ya Z 0)]) (n := 3) (Nat.le_of_ble_eq_true rfl)
  rw [lg_entry_eq]
  generalize (lg_sl ([.ref (ya Z 0)]) ++ List.replicate (3 - (lg_sl ([.ref (ya Z 0)])).length) Slot.unset).toArray = ls at hl ⊢
  have hl : lv_has ls 3 [(0, .ref (ya Z 0))] := hl
  have L88 : ∀ (n : Nat) (h2 : Int64) (z1 : Int32) (gl1 : Nat → Nat → Int64) (H : Heap) (locs : List Loc) (hP : va_P (yD Z) vwCl (mw Z g gl1) H) (hS : va_S (yA Z) s.heap H locs) (h1 : 0 ≤ z1.toInt ∧ z1.toInt ≤ 8) (hh2 : ((¬ 0 < (g 30 0).toInt ∧ h2 = (mxT (fun t w => tvF g (g 6) (mC g) (g 7) (g 8) (g 9) (g 38 0).toInt.toNat t w) 1361 (g 31 0).toInt.toNat)) ∨ (0 < (g 30 0).toInt ∧ ∃ b, isG (mC g) (prC g (mC g)) 0 64 b ∧ h2 = mtF (mC g) (g 6) (csF g (mC g)) b (mxT (fun t w => tvF g (g 6) (mC g) (g 7) (g 8) (g 9) (g 38 0).toInt.toNat t w) 1361 (g 31 0).toInt.toNat)))) (hC9 : gl1 60 0 = (mxL (fun w => (cvM g w).toInt64) (mxL (fun k => (g 10 k).toInt64) h2 (g 42 0).toInt.toNat) z1.toInt.toNat)) (hn : (8 - z1.toInt).toNat < n) (ls : Array Slot) (hl : lv_has ls 3 [(0, .ref (ya Z 0)), (1, .int z1)]), W p l e ({ frames := 8, cells := 0, slots := 0, locals := 187 } : Room) s m ([.ref (ya Z 0)] : List Value).toArray below meth c H locs 0 0 (MQ below (va_Ql (fun (r : Int64) (u : (Nat → Nat → Int32) × (Nat → Nat → Int64)) => Fr [] g u.1 ∧ MJ u.1 ∧ g = u.1 ∧ (∃ h2, ((¬ 0 < (g 30 0).toInt ∧ h2 = (mxT (fun t w => tvF g (g 6) (mC g) (g 7) (g 8) (g 9) (g 38 0).toInt.toNat t w) 1361 (g 31 0).toInt.toNat)) ∨ (0 < (g 30 0).toInt ∧ ∃ b, isG (mC g) (prC g (mC g)) 0 64 b ∧ h2 = mtF (mC g) (g 6) (csF g (mC g)) b (mxT (fun t w => tvF g (g 6) (mC g) (g 7) (g 8) (g 9) (g 38 0).toInt.toNat t w) 1361 (g 31 0).toInt.toNat))) ∧ r = (mxL (fun w => (cvM g w).toInt64) (mxL (fun k => (g 10 k).toInt64) h2 (g 42 0).toInt.toNat) 8))) (fun u t => va_P (yD Z) vwCl (mw Z u.1 u.2) t.heap) (yA Z)) ([.ref (ya Z 0)] : List Value).toArray s 0 0 (yA Z)) (F0 m 88 ls []) := by
    intro n
    induction n with
    | zero => intro h2 z1 gl1 H locs hP hS h1 hh2 hC9 hn; exact absurd hn (Nat.not_lt_zero _)
    | succ n ih88 =>
      intro h2 z1 gl1 H locs hP hS h1 hh2 hC9 hn ls hl
      refine lv_iload_n hx hb dX7_digest_88 rfl (lv_at hl 1 rfl) ?_
      refine lv_bipush (v := 8) hx hb dX7_digest_89 (by decide) ?_
      refine lv_icmp_ge (tgt := 110) hx hb dX7_digest_91 (by decide) (fun c_91 => ?_) (fun c_91 => ?_)
      · skip
        have i_91 := ti_lek tk_8 rfl c_91
        refine lv_aload_n hx hb dX7_digest_110 rfl (lv_at hl 0 rfl) ?_
        refine va_get (D := yD Z) (ci := 7) (v := .long (gl1 60 0)) (C := RX7) (T := TX7) (N := 31) hx hb hT inlX7 hown hK hP 0 mw_0 rfl 30 (by decide) (hT _ (tr_38 _ (List.mem_of_getElem? (i := 16) rfl))) (fun _ h9 => h9) rfl dX7_digest_111 ?_
        exact W.lret (v := (gl1 60 0)) hx hb hr (fun t ht hW => ⟨⟨(gl1 60 0), (g, gl1), rfl, ⟨hF, hJ, rfl, (by (try dsimp only); first | done | exact ⟨h2, hh2, by rw [hC9, show z1.toInt.toNat = 8 by omega]⟩)⟩, by show va_P (yD Z) vwCl (mw Z g gl1) t.heap; rw [ht]; exact hP⟩, hS.F ht⟩) hS.2.2 dX7_digest_114
      · skip
        have i_91 := ti_nlek tk_8 rfl c_91
        refine lv_aload_n hx hb dX7_digest_94 rfl (lv_at hl 0 rfl) ?_
        refine lv_aload_n hx hb dX7_digest_95 rfl (lv_at hl 0 rfl) ?_
        refine lv_iload_n hx hb dX7_digest_96 rfl (lv_at hl 1 rfl) ?_
        refine rd_ci (va_runV (As := [.int z1]) (rest := [.ref (ya Z 0)]) ⟨hx, hb, hml, hown, hT⟩ (c_X7_howMany l Z hZ g gl1 z1 hJ) (cwV 1 hT (tb_V (fun _ h => h) (tr_37 _ (List.mem_of_getElem? (i := 4) rfl)) (tr_37 _ (List.mem_of_getElem? (i := 5) rfl)) (tr_37 _ (List.mem_of_getElem? (i := 6) rfl)) (tr_1 _ (List.mem_of_getElem? (i := 5) rfl)) (tr_37 _ (List.mem_of_getElem? (i := 7) rfl))) rfl rfl rfl (by decide +kernel) ⟨Nat.le_of_ble_eq_true rfl, Nat.le_of_ble_eq_true rfl⟩) ⟨fun a U f mk q => ⟨q.1, MI.blind f mk a q.2⟩, va_recv hK hP (ci := 7) (q0 := 0) rfl mw_0, fun U hU hW => ⟨rfl, hI.at hS hP hU hW⟩⟩ rfl rfl hl.1 rfl (lv_room (Nat.le_of_ble_eq_true rfl)) dX7_digest_97 ⟨Nat.zero_le _, Nat.zero_le _⟩) (fun r_97 hr_97 => ?_)
        have e97 : r_97 = cvM g z1.toInt.toNat := by rw [hr_97, cv_y (k := z1.toInt.toNat) (nI_ek (by omega)) (by omega)]
        refine lv_i2l hx hb dX7_digest_100 rfl ?_
        refine lv_topl (fun v_100 e_100 => ?_)
        refine va_callv (va_runV (As := [.long v_100]) (rest := []) ⟨hx, hb, hml, hown, hT⟩ (c_X7_mix l Z hZ g gl1 v_100 hJ) (cwV 1 hT (tb_V (fun _ h => h) (tr_38 _ (List.mem_of_getElem? (i := 17) rfl)) (tr_38 _ (List.mem_of_getElem? (i := 18) rfl)) (tr_38 _ (List.mem_of_getElem? (i := 19) rfl)) (tr_1 _ (List.mem_of_getElem? (i := 5) rfl)) (tr_38 _ (List.mem_of_getElem? (i := 20) rfl))) rfl rfl rfl (by decide +kernel) ⟨Nat.le_of_ble_eq_true rfl, Nat.le_of_ble_eq_true rfl⟩) ⟨fun a U f mk q => ⟨q.1, MI.blind f mk a q.2⟩, va_recv hK hP (ci := 7) (q0 := 0) rfl mw_0, fun U hU hW => ⟨rfl, hI.at hS hP hU hW⟩⟩ rfl rfl hl.1 rfl (lv_room (Nat.le_of_ble_eq_true rfl)) dX7_digest_101 ⟨Nat.zero_le _, Nat.zero_le _⟩) hS (fun q _ h => h) (fun q h => h) (fun u_101 t_101 H locs ht_101 _ hw_101 hB_101 _ _ hS => ?_)
        obtain ⟨g_101, gl_101⟩ := u_101
        have hP : va_P (yD Z) vwCl (mw Z g_101 gl_101) H := ht_101 ▸ hB_101
        obtain ⟨hf_101, hJ, eg_101, hr_101⟩ := hw_101
        have hF := hF.tr hf_101 (by decide)
        dsimp only at hf_101 hJ hF eg_101 hr_101
        subst eg_101
        obtain ⟨v_104, e_104⟩ : ∃ y : Int32, y = z1 + 1 := ⟨_, rfl⟩
        refine lv_iinc (v := v_104) (lv' := [(1, .int v_104), (0, .ref (ya Z 0))]) hx hb dX7_digest_104 hl (k := 1) rfl (by rw [e_104]; rfl) (by decide) rfl (fun ls hl => ?_)
        have t_104 := ti_addk rfl tk_1 (by omega) (by omega) e_104
        refine lv_goto (tgt := 88) hx hb dX7_digest_107 (by decide) ?_
        exact ih88 h2 v_104 gl_101 _ _ hP hS (by omega) hh2 (by rw [show v_104.toInt.toNat = z1.toInt.toNat + 1 by omega, mxL, ← hC9, hr_101, e_100, e97]) (by omega) ls (lv_sub hl [1, 0] rfl)
  have L61 : ∀ (n : Nat) (h2 : Int64) (z1 : Int32) (gl1 : Nat → Nat → Int64) (H : Heap) (locs : List Loc) (hP : va_P (yD Z) vwCl (mw Z g gl1) H) (hS : va_S (yA Z) s.heap H locs) (h1 : 0 ≤ z1.toInt ∧ z1.toInt ≤ (g 42 0).toInt) (hh2 : ((¬ 0 < (g 30 0).toInt ∧ h2 = (mxT (fun t w => tvF g (g 6) (mC g) (g 7) (g 8) (g 9) (g 38 0).toInt.toNat t w) 1361 (g 31 0).toInt.toNat)) ∨ (0 < (g 30 0).toInt ∧ ∃ b, isG (mC g) (prC g (mC g)) 0 64 b ∧ h2 = mtF (mC g) (g 6) (csF g (mC g)) b (mxT (fun t w => tvF g (g 6) (mC g) (g 7) (g 8) (g 9) (g 38 0).toInt.toNat t w) 1361 (g 31 0).toInt.toNat)))) (hP9 : gl1 60 0 = mxL (fun k => (g 10 k).toInt64) h2 z1.toInt.toNat) (hn : ((g 42 0).toInt - z1.toInt).toNat < n) (ls : Array Slot) (hl : lv_has ls 3 [(0, .ref (ya Z 0)), (1, .int z1)]), W p l e ({ frames := 8, cells := 0, slots := 0, locals := 187 } : Room) s m ([.ref (ya Z 0)] : List Value).toArray below meth c H locs 0 0 (MQ below (va_Ql (fun (r : Int64) (u : (Nat → Nat → Int32) × (Nat → Nat → Int64)) => Fr [] g u.1 ∧ MJ u.1 ∧ g = u.1 ∧ (∃ h2, ((¬ 0 < (g 30 0).toInt ∧ h2 = (mxT (fun t w => tvF g (g 6) (mC g) (g 7) (g 8) (g 9) (g 38 0).toInt.toNat t w) 1361 (g 31 0).toInt.toNat)) ∨ (0 < (g 30 0).toInt ∧ ∃ b, isG (mC g) (prC g (mC g)) 0 64 b ∧ h2 = mtF (mC g) (g 6) (csF g (mC g)) b (mxT (fun t w => tvF g (g 6) (mC g) (g 7) (g 8) (g 9) (g 38 0).toInt.toNat t w) 1361 (g 31 0).toInt.toNat))) ∧ r = (mxL (fun w => (cvM g w).toInt64) (mxL (fun k => (g 10 k).toInt64) h2 (g 42 0).toInt.toNat) 8))) (fun u t => va_P (yD Z) vwCl (mw Z u.1 u.2) t.heap) (yA Z)) ([.ref (ya Z 0)] : List Value).toArray s 0 0 (yA Z)) (F0 m 61 ls []) := by
    intro n
    induction n with
    | zero => intro h2 z1 gl1 H locs hP hS h1 hh2 hP9 hn; exact absurd hn (Nat.not_lt_zero _)
    | succ n ih61 =>
      intro h2 z1 gl1 H locs hP hS h1 hh2 hP9 hn ls hl
      refine lv_iload_n hx hb dX7_digest_61 rfl (lv_at hl 1 rfl) ?_
      refine lv_aload_n hx hb dX7_digest_62 rfl (lv_at hl 0 rfl) ?_
      refine va_get (D := yD Z) (ci := 7) (v := .int (g 42 0)) (C := RX7) (T := TX7) (N := 31) hx hb hT inlX7 hown hK hP 0 mw_0 rfl 12 (by decide) (hT _ (tr_5 _ (List.mem_of_getElem? (i := 23) rfl))) (fun _ h9 => h9) rfl dX7_digest_63 ?_
      refine lv_icmp_ge (tgt := 86) hx hb dX7_digest_66 (by decide) (fun c_66 => ?_) (fun c_66 => ?_)
      · skip
        have i_66 := ti_lek rfl rfl c_66
        refine lv_iconst (v := 0) hx hb dX7_digest_86 (by decide) ?_
        refine lv_istore_n (lv' := [(1, .int 0), (0, .ref (ya Z 0))]) hx hb dX7_digest_87 rfl hl (by decide) rfl (fun ls hl => ?_)
        exact L88 _ h2 0 gl1 _ _ hP hS (by decide) hh2 (by rw [hP9, show z1.toInt.toNat = (g 42 0).toInt.toNat by omega]; rfl) (Nat.lt_succ_self _) ls (lv_sub hl [1, 0] rfl)
      · skip
        have i_66 := ti_nlek rfl rfl c_66
        refine lv_aload_n hx hb dX7_digest_69 rfl (lv_at hl 0 rfl) ?_
        refine lv_aload_n hx hb dX7_digest_70 rfl (lv_at hl 0 rfl) ?_
        refine va_get (D := yD Z) (ci := 7) (v := .ref (ya Z 10)) (C := RX7) (T := TX7) (N := 31) hx hb hT inlX7 hown hK hP 0 mw_0 rfl 13 (by decide) (hT _ (tr_4 _ (List.mem_of_getElem? (i := 23) rfl))) (fun _ h9 => h9) rfl dX7_digest_71 ?_
        refine lv_iload_n hx hb dX7_digest_74 rfl (lv_at hl 1 rfl) ?_
        have h_75 : vp_in z1 50 := (ti_vp (by omega) (by omega))
        refine va_bald hx hb hK hP 10 0 mw_10 rfl h_75 dX7_digest_75 ?_
        refine lv_topi (fun v_75 e_75 => ?_)
        have e75 : v_75 = g 10 z1.toInt.toNat := e_75
        refine lv_i2l hx hb dX7_digest_76 rfl ?_
        refine lv_topl (fun v_76 e_76 => ?_)
        refine va_callv (va_runV (As := [.long v_76]) (rest := []) ⟨hx, hb, hml, hown, hT⟩ (c_X7_mix l Z hZ g gl1 v_76 hJ) (cwV 1 hT (tb_V (fun _ h => h) (tr_38 _ (List.mem_of_getElem? (i := 17) rfl)) (tr_38 _ (List.mem_of_getElem? (i := 18) rfl)) (tr_38 _ (List.mem_of_getElem? (i := 19) rfl)) (tr_1 _ (List.mem_of_getElem? (i := 5) rfl)) (tr_38 _ (List.mem_of_getElem? (i := 20) rfl))) rfl rfl rfl (by decide +kernel) ⟨Nat.le_of_ble_eq_true rfl, Nat.le_of_ble_eq_true rfl⟩) ⟨fun a U f mk q => ⟨q.1, MI.blind f mk a q.2⟩, va_recv hK hP (ci := 7) (q0 := 0) rfl mw_0, fun U hU hW => ⟨rfl, hI.at hS hP hU hW⟩⟩ rfl rfl hl.1 rfl (lv_room (Nat.le_of_ble_eq_true rfl)) dX7_digest_77 ⟨Nat.zero_le _, Nat.zero_le _⟩) hS (fun q _ h => h) (fun q h => h) (fun u_77 t_77 H locs ht_77 _ hw_77 hB_77 _ _ hS => ?_)
        obtain ⟨g_77, gl_77⟩ := u_77
        have hP : va_P (yD Z) vwCl (mw Z g_77 gl_77) H := ht_77 ▸ hB_77
        obtain ⟨hf_77, hJ, eg_77, hr_77⟩ := hw_77
        have hF := hF.tr hf_77 (by decide)
        dsimp only at hf_77 hJ hF eg_77 hr_77
        subst eg_77
        obtain ⟨v_80, e_80⟩ : ∃ y : Int32, y = z1 + 1 := ⟨_, rfl⟩
        refine lv_iinc (v := v_80) (lv' := [(1, .int v_80), (0, .ref (ya Z 0))]) hx hb dX7_digest_80 hl (k := 1) rfl (by rw [e_80]; rfl) (by decide) rfl (fun ls hl => ?_)
        have t_80 := ti_addk rfl tk_1 (by omega) (by omega) e_80
        refine lv_goto (tgt := 61) hx hb dX7_digest_83 (by decide) ?_
        exact ih61 h2 v_80 gl_77 _ _ hP hS (by omega) hh2 (by rw [show v_80.toInt.toNat = z1.toInt.toNat + 1 by omega, mxL, ← hP9, hr_77, e_76, e75]) (by omega) ls (lv_sub hl [1, 0] rfl)
  have L9 : ∀ (n : Nat) (z1 : Int32) (gl1 : Nat → Nat → Int64) (H : Heap) (locs : List Loc) (hP : va_P (yD Z) vwCl (mw Z g gl1) H) (hS : va_S (yA Z) s.heap H locs) (h1 : 0 ≤ z1.toInt ∧ z1.toInt ≤ (g 31 0).toInt) (hH : gl1 60 0 = (mxT (fun t w => tvF g (g 6) (mC g) (g 7) (g 8) (g 9) (g 38 0).toInt.toNat t w) 1361 z1.toInt.toNat)) (hn : ((g 31 0).toInt - z1.toInt).toNat < n) (ls : Array Slot) (hl : lv_has ls 3 [(0, .ref (ya Z 0)), (1, .int z1)]), W p l e ({ frames := 8, cells := 0, slots := 0, locals := 187 } : Room) s m ([.ref (ya Z 0)] : List Value).toArray below meth c H locs 0 0 (MQ below (va_Ql (fun (r : Int64) (u : (Nat → Nat → Int32) × (Nat → Nat → Int64)) => Fr [] g u.1 ∧ MJ u.1 ∧ g = u.1 ∧ (∃ h2, ((¬ 0 < (g 30 0).toInt ∧ h2 = (mxT (fun t w => tvF g (g 6) (mC g) (g 7) (g 8) (g 9) (g 38 0).toInt.toNat t w) 1361 (g 31 0).toInt.toNat)) ∨ (0 < (g 30 0).toInt ∧ ∃ b, isG (mC g) (prC g (mC g)) 0 64 b ∧ h2 = mtF (mC g) (g 6) (csF g (mC g)) b (mxT (fun t w => tvF g (g 6) (mC g) (g 7) (g 8) (g 9) (g 38 0).toInt.toNat t w) 1361 (g 31 0).toInt.toNat))) ∧ r = (mxL (fun w => (cvM g w).toInt64) (mxL (fun k => (g 10 k).toInt64) h2 (g 42 0).toInt.toNat) 8))) (fun u t => va_P (yD Z) vwCl (mw Z u.1 u.2) t.heap) (yA Z)) ([.ref (ya Z 0)] : List Value).toArray s 0 0 (yA Z)) (F0 m 9 ls []) := by
    intro n
    induction n with
    | zero => intro z1 gl1 H locs hP hS h1 hH hn; exact absurd hn (Nat.not_lt_zero _)
    | succ n ih9 =>
      intro z1 gl1 H locs hP hS h1 hH hn ls hl
      have L19 : ∀ (n : Nat) (z2 : Int32) (gl1 : Nat → Nat → Int64) (H : Heap) (locs : List Loc) (hP : va_P (yD Z) vwCl (mw Z g gl1) H) (hS : va_S (yA Z) s.heap H locs) (hz2 : 0 ≤ z2.toInt ∧ z2.toInt ≤ 7) (hz : 0 ≤ z1.toInt ∧ z1.toInt < (g 31 0).toInt) (hI9 : gl1 60 0 = mxL (fun w => ((fun t w => tvF g (g 6) (mC g) (g 7) (g 8) (g 9) (g 38 0).toInt.toNat t w) z1.toInt.toNat w).toInt64) (mxT (fun t w => tvF g (g 6) (mC g) (g 7) (g 8) (g 9) (g 38 0).toInt.toNat t w) 1361 z1.toInt.toNat) z2.toInt.toNat) (hn : (7 - z2.toInt).toNat < n) (ls : Array Slot) (hl : lv_has ls 3 [(0, .ref (ya Z 0)), (1, .int z1), (2, .int z2)]), W p l e ({ frames := 8, cells := 0, slots := 0, locals := 187 } : Room) s m ([.ref (ya Z 0)] : List Value).toArray below meth c H locs 0 0 (MQ below (va_Ql (fun (r : Int64) (u : (Nat → Nat → Int32) × (Nat → Nat → Int64)) => Fr [] g u.1 ∧ MJ u.1 ∧ g = u.1 ∧ (∃ h2, ((¬ 0 < (g 30 0).toInt ∧ h2 = (mxT (fun t w => tvF g (g 6) (mC g) (g 7) (g 8) (g 9) (g 38 0).toInt.toNat t w) 1361 (g 31 0).toInt.toNat)) ∨ (0 < (g 30 0).toInt ∧ ∃ b, isG (mC g) (prC g (mC g)) 0 64 b ∧ h2 = mtF (mC g) (g 6) (csF g (mC g)) b (mxT (fun t w => tvF g (g 6) (mC g) (g 7) (g 8) (g 9) (g 38 0).toInt.toNat t w) 1361 (g 31 0).toInt.toNat))) ∧ r = (mxL (fun w => (cvM g w).toInt64) (mxL (fun k => (g 10 k).toInt64) h2 (g 42 0).toInt.toNat) 8))) (fun u t => va_P (yD Z) vwCl (mw Z u.1 u.2) t.heap) (yA Z)) ([.ref (ya Z 0)] : List Value).toArray s 0 0 (yA Z)) (F0 m 19 ls []) := by
        intro n
        induction n with
        | zero => intro z2 gl1 H locs hP hS hz2 hz hI9 hn; exact absurd hn (Nat.not_lt_zero _)
        | succ n ih19 =>
          intro z2 gl1 H locs hP hS hz2 hz hI9 hn ls hl
          refine lv_iload_n hx hb dX7_digest_19 rfl (lv_at hl 2 rfl) ?_
          refine lv_bipush (v := 7) hx hb dX7_digest_20 (by decide) ?_
          refine lv_icmp_ge (tgt := 42) hx hb dX7_digest_22 (by decide) (fun c_22 => ?_) (fun c_22 => ?_)
          · skip
            have i_22 := ti_lek tk_7 rfl c_22
            obtain ⟨v_42, e_42⟩ : ∃ y : Int32, y = z1 + 1 := ⟨_, rfl⟩
            refine lv_iinc (v := v_42) (lv' := [(1, .int v_42), (0, .ref (ya Z 0)), (2, .int z2)]) hx hb dX7_digest_42 hl (k := 1) rfl (by rw [e_42]; rfl) (by decide) rfl (fun ls hl => ?_)
            have t_42 := ti_addk rfl tk_1 (by omega) (by omega) e_42
            refine lv_goto (tgt := 9) hx hb dX7_digest_45 (by decide) ?_
            exact ih9 v_42 gl1 _ _ hP hS (by omega) (by rw [show v_42.toInt.toNat = z1.toInt.toNat + 1 by omega, mxT, hI9, show z2.toInt.toNat = 7 by omega]) (by omega) ls (lv_sub hl [1, 0] rfl)
          · skip
            have i_22 := ti_nlek tk_7 rfl c_22
            refine lv_aload_n hx hb dX7_digest_25 rfl (lv_at hl 0 rfl) ?_
            refine lv_aload_n hx hb dX7_digest_26 rfl (lv_at hl 0 rfl) ?_
            refine lv_iload_n hx hb dX7_digest_27 rfl (lv_at hl 1 rfl) ?_
            refine lv_iload_n hx hb dX7_digest_28 rfl (lv_at hl 2 rfl) ?_
            refine rd_ci (va_runV (As := [.int z1, .int z2]) (rest := [.ref (ya Z 0)]) ⟨hx, hb, hml, hown, hT⟩ (c_X7_tariffNow l Z hZ g gl1 z1 z2 (by first | assumption | omega | decide) (by first | assumption | omega | decide) hJ) (cwV 2 hT (tb_V (fun _ h => h) (tr_22 _ (List.mem_of_getElem? (i := 6) rfl)) (tr_22 _ (List.mem_of_getElem? (i := 7) rfl)) (tr_22 _ (List.mem_of_getElem? (i := 8) rfl)) (tr_1 _ (List.mem_of_getElem? (i := 5) rfl)) (tr_22 _ (List.mem_of_getElem? (i := 9) rfl))) rfl rfl rfl (by decide +kernel) ⟨Nat.le_of_ble_eq_true rfl, Nat.le_of_ble_eq_true rfl⟩) ⟨fun a U f mk q => ⟨q.1, MI.blind f mk a q.2⟩, va_recv hK hP (ci := 7) (q0 := 0) rfl mw_0, fun U hU hW => ⟨rfl, hI.at hS hP hU hW⟩⟩ rfl rfl hl.1 rfl (lv_room (Nat.le_of_ble_eq_true rfl)) dX7_digest_29 ⟨Nat.zero_le _, Nat.zero_le _⟩) (fun r_29 hr_29 => ?_)
            refine lv_i2l hx hb dX7_digest_32 rfl ?_
            refine lv_topl (fun v_32 e_32 => ?_)
            refine va_callv (va_runV (As := [.long v_32]) (rest := []) ⟨hx, hb, hml, hown, hT⟩ (c_X7_mix l Z hZ g gl1 v_32 hJ) (cwV 1 hT (tb_V (fun _ h => h) (tr_38 _ (List.mem_of_getElem? (i := 17) rfl)) (tr_38 _ (List.mem_of_getElem? (i := 18) rfl)) (tr_38 _ (List.mem_of_getElem? (i := 19) rfl)) (tr_1 _ (List.mem_of_getElem? (i := 5) rfl)) (tr_38 _ (List.mem_of_getElem? (i := 20) rfl))) rfl rfl rfl (by decide +kernel) ⟨Nat.le_of_ble_eq_true rfl, Nat.le_of_ble_eq_true rfl⟩) ⟨fun a U f mk q => ⟨q.1, MI.blind f mk a q.2⟩, va_recv hK hP (ci := 7) (q0 := 0) rfl mw_0, fun U hU hW => ⟨rfl, hI.at hS hP hU hW⟩⟩ rfl rfl hl.1 rfl (lv_room (Nat.le_of_ble_eq_true rfl)) dX7_digest_33 ⟨Nat.zero_le _, Nat.zero_le _⟩) hS (fun q _ h => h) (fun q h => h) (fun u_33 t_33 H locs ht_33 _ hw_33 hB_33 _ _ hS => ?_)
            obtain ⟨g_33, gl_33⟩ := u_33
            have hP : va_P (yD Z) vwCl (mw Z g_33 gl_33) H := ht_33 ▸ hB_33
            obtain ⟨hf_33, hJ, eg_33, hr_33⟩ := hw_33
            have hF := hF.tr hf_33 (by decide)
            dsimp only at hf_33 hJ hF eg_33 hr_33
            subst eg_33
            obtain ⟨v_36, e_36⟩ : ∃ y : Int32, y = z2 + 1 := ⟨_, rfl⟩
            refine lv_iinc (v := v_36) (lv' := [(2, .int v_36), (0, .ref (ya Z 0)), (1, .int z1)]) hx hb dX7_digest_36 hl (k := 2) rfl (by rw [e_36]; rfl) (by decide) rfl (fun ls hl => ?_)
            have t_36 := ti_addk rfl tk_1 (by omega) (by omega) e_36
            refine lv_goto (tgt := 19) hx hb dX7_digest_39 (by decide) ?_
            exact ih19 v_36 gl_33 _ _ hP hS (by omega) (by first | assumption | omega | decide) (by rw [show v_36.toInt.toNat = z2.toInt.toNat + 1 by omega, mxL, ← hI9, hr_33, e_32, hr_29]) (by omega) ls (lv_sub hl [1, 2, 0] rfl)
      refine lv_iload_n hx hb dX7_digest_9 rfl (lv_at hl 1 rfl) ?_
      refine lv_aload_n hx hb dX7_digest_10 rfl (lv_at hl 0 rfl) ?_
      refine va_get (D := yD Z) (ci := 7) (v := .int (g 31 0)) (C := RX7) (T := TX7) (N := 31) hx hb hT inlX7 hown hK hP 0 mw_0 rfl 1 (by decide) (hT _ (tr_17 _ (List.mem_of_getElem? (i := 14) rfl))) (fun _ h9 => h9) rfl dX7_digest_11 ?_
      refine lv_icmp_ge (tgt := 48) hx hb dX7_digest_14 (by decide) (fun c_14 => ?_) (fun c_14 => ?_)
      · skip
        have i_14 := ti_lek rfl rfl c_14
        refine lv_aload_n hx hb dX7_digest_48 rfl (lv_at hl 0 rfl) ?_
        refine va_get (D := yD Z) (ci := 7) (v := .int (g 30 0)) (C := RX7) (T := TX7) (N := 31) hx hb hT inlX7 hown hK hP 0 mw_0 rfl 0 (by decide) (hT _ (tr_17 _ (List.mem_of_getElem? (i := 15) rfl))) (fun _ h9 => h9) rfl dX7_digest_49 ?_
        refine lv_if_le (tgt := 59) hx hb dX7_digest_52 (by decide) (fun c_52 => ?_) (fun c_52 => ?_)
        · skip
          have i_52 := ti_lek rfl tk_0 c_52
          refine lv_iconst (v := 0) hx hb dX7_digest_59 (by decide) ?_
          refine lv_istore_n (lv' := [(1, .int 0), (0, .ref (ya Z 0))]) hx hb dX7_digest_60 rfl hl (by decide) rfl (fun ls hl => ?_)
          exact L61 _ (gl1 60 0) 0 gl1 _ _ hP hS (by rw [tk_0]; omega) (Or.inl ⟨by omega, by rw [hH, show z1.toInt.toNat = (g 31 0).toInt.toNat by omega]⟩) rfl (Nat.lt_succ_self _) ls (lv_sub hl [1, 0] rfl)
        · skip
          have i_52 := ti_nlek rfl tk_0 c_52
          refine lv_aload_n hx hb dX7_digest_55 rfl (lv_at hl 0 rfl) ?_
          refine va_callv (va_runV (As := []) (rest := []) ⟨hx, hb, hml, hown, hT⟩ (c_X7_mixDesk l Z hZ g gl1 hJ) (cwV 0 hT (tb_V (fun _ h => h) (tr_38 _ (List.mem_of_getElem? (i := 22) rfl)) (tr_38 _ (List.mem_of_getElem? (i := 23) rfl)) (tr_39 _ (List.mem_of_getElem? (i := 0) rfl)) (tr_1 _ (List.mem_of_getElem? (i := 5) rfl)) (tr_39 _ (List.mem_of_getElem? (i := 1) rfl))) rfl rfl rfl (by decide +kernel) ⟨Nat.le_of_ble_eq_true rfl, Nat.le_of_ble_eq_true rfl⟩) ⟨fun a U f mk q => ⟨q.1, MI.blind f mk a q.2⟩, va_recv hK hP (ci := 7) (q0 := 0) rfl mw_0, fun U hU hW => ⟨rfl, hI.at hS hP hU hW⟩⟩ rfl rfl hl.1 rfl (lv_room (Nat.le_of_ble_eq_true rfl)) dX7_digest_56 ⟨Nat.zero_le _, Nat.zero_le _⟩) hS (fun q _ h => h) (fun q h => h) (fun u_56 t_56 H locs ht_56 _ hw_56 hB_56 _ _ hS => ?_)
          obtain ⟨g_56, gl_56⟩ := u_56
          have hP : va_P (yD Z) vwCl (mw Z g_56 gl_56) H := ht_56 ▸ hB_56
          obtain ⟨hf_56, hJ, eg_56, hr_56⟩ := hw_56
          have hF := hF.tr hf_56 (by decide)
          dsimp only at hf_56 hJ hF eg_56 hr_56
          subst eg_56
          refine lv_iconst (v := 0) hx hb dX7_digest_59 (by decide) ?_
          refine lv_istore_n (lv' := [(1, .int 0), (0, .ref (ya Z 0))]) hx hb dX7_digest_60 rfl hl (by decide) rfl (fun ls hl => ?_)
          exact L61 _ (gl_56 60 0) 0 gl_56 _ _ hP hS (by rw [tk_0]; omega) (by obtain ⟨b, b1, b2⟩ := hr_56; exact Or.inr ⟨by omega, b, b1, by rw [b2, hH, show z1.toInt.toNat = (g 31 0).toInt.toNat by omega]⟩) rfl (Nat.lt_succ_self _) ls (lv_sub hl [1, 0] rfl)
      · skip
        have i_14 := ti_nlek rfl rfl c_14
        refine lv_iconst (v := 0) hx hb dX7_digest_17 (by decide) ?_
        refine lv_istore_n (lv' := [(2, .int 0), (0, .ref (ya Z 0)), (1, .int z1)]) hx hb dX7_digest_18 rfl hl (by decide) rfl (fun ls hl => ?_)
        exact L19 _ 0 gl1 _ _ hP hS (by decide) (by first | assumption | omega | decide) hH (Nat.lt_succ_self _) ls (lv_sub hl [1, 2, 0] rfl)
  refine lv_aload_n hx hb dX7_digest_0 rfl (lv_at hl 0 rfl) ?_
  refine lv_ldc2 (v := 1361) hx hb hown (hT _ (tr_38 _ (List.mem_of_getElem? (i := 15) rfl))) dX7_digest_1 ?_
  refine va_put (D := yD Z) (ci := 7) (v := .long 1361) (ty := .long) (C := RX7) (T := TX7) (N := 31) hx hb hT inlX7 tyX7 tyX7_ok nmX7 hown hK hP hZ.D hS 0 mw_0 rfl 30 (by decide) (hT _ (tr_38 _ (List.mem_of_getElem? (i := 16) rfl))) (fun _ h9 => h9) rfl (by decide +kernel) rfl rfl (Nat.le_of_ble_eq_true rfl) dX7_digest_4 (fun H locs hP _ hS => ?_)
  replace hP := mf_30 hP
  refine lv_iconst (v := 0) hx hb dX7_digest_7 (by decide) ?_
  refine lv_istore_n (lv' := [(1, .int 0), (0, .ref (ya Z 0))]) hx hb dX7_digest_8 rfl hl (by decide) rfl (fun ls hl => ?_)
  exact L9 _ 0 (upL gl 60 (fun _ => 1361)) _ _ hP hS (by rw [tk_0]; omega) rfl (Nat.lt_succ_self _) ls (lv_sub hl [1, 0] rfl)
