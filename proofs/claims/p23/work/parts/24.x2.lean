set_option maxHeartbeats 4000000 in
set_option maxRecDepth 100000 in
theorem c_X2_write_11 (l : Launch) (Z : ZT) (hZ : XG Z) (g : Nat → Nat → Int32) (gl : Nat → Nat → Int64) (tf : Nat → Nat → Int32) (x1 : Int32) (x2 : Int32) (x3 : Int32) (hG : Gd Z tf) : Met l yX2_write (Cond.code yX2_write cX2_write 4 (some .boolean) :: wsL_law) ({ frames := 0, cells := 0, slots := 0, locals := 0 } : Room) (va_Pc [.ref (za Z 11), .int x1, .int x2, .int x3] (XI Z g gl tf)) (va_Qi (fun (r : Int32) (u : (Nat → Nat → Int32) × (Nat → Nat → Int64) × (Nat → Nat → Int32)) => Fr [11, 12, 13, 14] g u.1 ∧ Gd Z u.2.2 ∧ tf = u.2.2 ∧ ((r = 1 ∧ ((0 ≤ (g 11 4).toInt ∧ (g 11 4).toInt < 6) ∧ u.1 = up2 (upR (upR (upR g 12 (upd (g 12) (g 11 4).toNatClampNeg x1)) 13 (upd (g 13) (g 11 4).toNatClampNeg x2)) 14 (upd (g 14) (g 11 4).toNatClampNeg x3)) 11 4 (g 11 4 + 1))) ∨ (r = 0 ∧ (¬ (0 ≤ (g 11 4).toInt ∧ (g 11 4).toInt < 6) ∧ u.1 = g)))) (fun u t => va_P (zD Z) vwCl (xw Z u.1 u.2.1 u.2.2) t.heap) (zA Z)) 0 0 (zA Z) := by
  refine Met.ofW (cc := cX2_write) (maxL := 4) (ret := (some .boolean)) (by decide) rfl ?_
  intro p e s m args below meth c s₁ B hml hv
  obtain ⟨rfl, hI⟩ := hv
  have hx := B.exec
  have hb := B.bytes
  have hr := B.returns
  have hT : ∀ w ∈ wsL_law, w.before ([.ref (za Z 11), .int x1, .int x2, .int x3] : List Value).toArray s = true := fun w h => atoms_spec (ws := (Cond.code yX2_write cX2_write 4 (some .boolean) :: wsL_law)) B.pre w (List.mem_cons_of_mem _ h)
  have hown : s.vm.findClass RX2 = some m.cls := findClass_of_methodNamed B.named
  have hlocks := B.notSynchronized
  have hK := hI.2.1
  have hP := hI.1
  have hS : va_S (zA Z) s.heap s.heap [] := va_S.rf
  have hF : Fr [11, 12, 13, 14] g g := Fr.rf
  have hl := lv_entry ([.ref (za Z 11), .int x1, .int x2, .int x3]) (n := 4) (Nat.le_of_ble_eq_true rfl)
  rw [lg_entry_eq]
  generalize (lg_sl ([.ref (za Z 11), .int x1, .int x2, .int x3]) ++ List.replicate (4 - (lg_sl ([.ref (za Z 11), .int x1, .int x2, .int x3])).length) Slot.unset).toArray = ls at hl ⊢
  have hl : lv_has ls 4 [(0, .ref (za Z 11)), (1, .int x1), (2, .int x2), (3, .int x3)] := hl
  refine lv_aload_n hx hb dX2_write_0 rfl (lv_at hl 0 rfl) ?_
  refine va_get (D := zD Z) (ci := 2) (v := .int (g 11 4)) (C := RX2) (T := TX2) (N := 5) hx hb hT inlX2 hown hK hP 11 xw_11 rfl 4 (by decide) (hT _ (tr_21 _ (List.mem_of_getElem? (i := 5) rfl))) (fun _ h9 => h9) rfl dX2_write_1 ?_
  refine lv_if_lt (tgt := 16) hx hb dX2_write_4 (by decide) (fun c_4 => ?_) (fun c_4 => ?_)
  · skip
    have i_4 := ti_ltk rfl tk_0 c_4
    refine lv_iconst (v := 0) hx hb dX2_write_16 (by decide) ?_
    exact W.zret (v := 0) (ty := .boolean) hx hb hr rfl (fun t ht hW => ⟨⟨0, (g, gl, tf), rfl, ⟨hF, hG, rfl, Or.inr ⟨rfl, (by (try dsimp only); first | done | exact ⟨by omega, rfl⟩)⟩⟩, by show va_P (zD Z) vwCl (xw Z g gl tf) t.heap; rw [ht]; exact hP⟩, hS.F ht⟩) hS.2.2 dX2_write_17
  · skip
    have i_4 := ti_nltk rfl tk_0 c_4
    refine lv_aload_n hx hb dX2_write_7 rfl (lv_at hl 0 rfl) ?_
    refine va_get (D := zD Z) (ci := 2) (v := .int (g 11 4)) (C := RX2) (T := TX2) (N := 5) hx hb hT inlX2 hown hK hP 11 xw_11 rfl 4 (by decide) (hT _ (tr_21 _ (List.mem_of_getElem? (i := 5) rfl))) (fun _ h9 => h9) rfl dX2_write_8 ?_
    refine lv_bipush (v := 6) hx hb dX2_write_11 (by decide) ?_
    refine lv_icmp_lt (tgt := 18) hx hb dX2_write_13 (by decide) (fun c_13 => ?_) (fun c_13 => ?_)
    · skip
      have i_13 := ti_ltk rfl tk_6 c_13
      refine lv_aload_n hx hb dX2_write_18 rfl (lv_at hl 0 rfl) ?_
      refine va_get (D := zD Z) (ci := 2) (v := .ref (za Z 12)) (C := RX2) (T := TX2) (N := 5) hx hb hT inlX2 hown hK hP 11 xw_11 rfl 0 (by decide) (hT _ (tr_4 _ (List.mem_of_getElem? (i := 1) rfl))) (fun _ h9 => h9) rfl dX2_write_19 ?_
      refine lv_aload_n hx hb dX2_write_22 rfl (lv_at hl 0 rfl) ?_
      refine va_get (D := zD Z) (ci := 2) (v := .int (g 11 4)) (C := RX2) (T := TX2) (N := 5) hx hb hT inlX2 hown hK hP 11 xw_11 rfl 4 (by decide) (hT _ (tr_21 _ (List.mem_of_getElem? (i := 5) rfl))) (fun _ h9 => h9) rfl dX2_write_23 ?_
      refine lv_iload_n hx hb dX2_write_26 rfl (lv_at hl 1 rfl) ?_
      have h_27 : vp_in (g 11 4) 6 := (ti_vp (by omega) (by omega))
      refine va_iast hx hb hK hP hZ.D hS 12 1 xw_12 rfl h_27 dX2_write_27 (fun H locs hP _ hS => ?_)
      replace hP := xs_12 hP
      have hF := hF.uR (i := 12) (r := upd (g 12) (g 11 4).toNatClampNeg x1) (by decide)
      refine lv_aload_n hx hb dX2_write_28 rfl (lv_at hl 0 rfl) ?_
      refine va_get (D := zD Z) (ci := 2) (v := .ref (za Z 13)) (C := RX2) (T := TX2) (N := 5) hx hb hT inlX2 hown hK hP 11 xw_11 rfl 1 (by decide) (hT _ (tr_4 _ (List.mem_of_getElem? (i := 2) rfl))) (fun _ h9 => h9) rfl dX2_write_29 ?_
      refine lv_aload_n hx hb dX2_write_32 rfl (lv_at hl 0 rfl) ?_
      refine va_get (D := zD Z) (ci := 2) (v := .int (g 11 4)) (C := RX2) (T := TX2) (N := 5) hx hb hT inlX2 hown hK hP 11 xw_11 rfl 4 (by decide) (hT _ (tr_21 _ (List.mem_of_getElem? (i := 5) rfl))) (fun _ h9 => h9) rfl dX2_write_33 ?_
      refine lv_iload_n hx hb dX2_write_36 rfl (lv_at hl 2 rfl) ?_
      have h_37 : vp_in (g 11 4) 6 := (ti_vp (by omega) (by omega))
      refine va_iast hx hb hK hP hZ.D hS 13 1 xw_13 rfl h_37 dX2_write_37 (fun H locs hP _ hS => ?_)
      replace hP := xs_13 hP
      have hF := hF.uR (i := 13) (r := upd (g 13) (g 11 4).toNatClampNeg x2) (by decide)
      refine lv_aload_n hx hb dX2_write_38 rfl (lv_at hl 0 rfl) ?_
      refine va_get (D := zD Z) (ci := 2) (v := .ref (za Z 14)) (C := RX2) (T := TX2) (N := 5) hx hb hT inlX2 hown hK hP 11 xw_11 rfl 2 (by decide) (hT _ (tr_4 _ (List.mem_of_getElem? (i := 3) rfl))) (fun _ h9 => h9) rfl dX2_write_39 ?_
      refine lv_aload_n hx hb dX2_write_42 rfl (lv_at hl 0 rfl) ?_
      refine va_get (D := zD Z) (ci := 2) (v := .int (g 11 4)) (C := RX2) (T := TX2) (N := 5) hx hb hT inlX2 hown hK hP 11 xw_11 rfl 4 (by decide) (hT _ (tr_21 _ (List.mem_of_getElem? (i := 5) rfl))) (fun _ h9 => h9) rfl dX2_write_43 ?_
      refine lv_iload_n hx hb dX2_write_46 rfl (lv_at hl 3 rfl) ?_
      have h_47 : vp_in (g 11 4) 6 := (ti_vp (by omega) (by omega))
      refine va_iast hx hb hK hP hZ.D hS 14 1 xw_14 rfl h_47 dX2_write_47 (fun H locs hP _ hS => ?_)
      replace hP := xs_14 hP
      have hF := hF.uR (i := 14) (r := upd (g 14) (g 11 4).toNatClampNeg x3) (by decide)
      refine lv_aload_n hx hb dX2_write_48 rfl (lv_at hl 0 rfl) ?_
      refine lv_dup hx hb dX2_write_49 rfl ?_
      refine va_get (D := zD Z) (ci := 2) (v := .int (g 11 4)) (C := RX2) (T := TX2) (N := 5) hx hb hT inlX2 hown hK hP 11 xw_11 rfl 4 (by decide) (hT _ (tr_21 _ (List.mem_of_getElem? (i := 5) rfl))) (fun _ h9 => h9) rfl dX2_write_50 ?_
      refine lv_iconst (v := 1) hx hb dX2_write_53 (by decide) ?_
      refine lv_iadd hx hb dX2_write_54 ?_
      refine lv_topi (fun v_54 e_54 => ?_)
      refine va_put (D := zD Z) (ci := 2) (v := .int v_54) (ty := .int) (C := RX2) (T := TX2) (N := 5) hx hb hT inlX2 tyX2 tyX2_ok nmX2 hown hK hP hZ.D hS 11 xw_11 rfl 4 (by decide) (hT _ (tr_21 _ (List.mem_of_getElem? (i := 5) rfl))) (fun _ h9 => h9) rfl (by decide +kernel) rfl rfl (Nat.le_of_ble_eq_true rfl) dX2_write_55 (fun H locs hP _ hS => ?_)
      replace hP := xf_11_4 hP
      have hF := hF.u2 (i := 11) (k := 4) (v := v_54) (by decide)
      refine lv_iconst (v := 1) hx hb dX2_write_58 (by decide) ?_
      exact W.zret (v := 1) (ty := .boolean) hx hb hr rfl (fun t ht hW => ⟨⟨1, ((up2 (upR (upR (upR g 12 (upd (g 12) (g 11 4).toNatClampNeg x1)) 13 (upd (g 13) (g 11 4).toNatClampNeg x2)) 14 (upd (g 14) (g 11 4).toNatClampNeg x3)) 11 4 v_54), gl, tf), rfl, ⟨hF, hG, rfl, Or.inl ⟨rfl, (by (try dsimp only); first | done | exact ⟨by omega, by rw [e_54]⟩)⟩⟩, by show va_P (zD Z) vwCl (xw Z (up2 (upR (upR (upR g 12 (upd (g 12) (g 11 4).toNatClampNeg x1)) 13 (upd (g 13) (g 11 4).toNatClampNeg x2)) 14 (upd (g 14) (g 11 4).toNatClampNeg x3)) 11 4 v_54) gl tf) t.heap; rw [ht]; exact hP⟩, hS.F ht⟩) hS.2.2 dX2_write_59
    · skip
      have i_13 := ti_nltk rfl tk_6 c_13
      refine lv_iconst (v := 0) hx hb dX2_write_16 (by decide) ?_
      exact W.zret (v := 0) (ty := .boolean) hx hb hr rfl (fun t ht hW => ⟨⟨0, (g, gl, tf), rfl, ⟨hF, hG, rfl, Or.inr ⟨rfl, (by (try dsimp only); first | done | exact ⟨by omega, rfl⟩)⟩⟩, by show va_P (zD Z) vwCl (xw Z g gl tf) t.heap; rw [ht]; exact hP⟩, hS.F ht⟩) hS.2.2 dX2_write_17
set_option maxHeartbeats 4000000 in
set_option maxRecDepth 100000 in
theorem c_X2_write_19 (l : Launch) (Z : ZT) (hZ : XG Z) (g : Nat → Nat → Int32) (gl : Nat → Nat → Int64) (tf : Nat → Nat → Int32) (x1 : Int32) (x2 : Int32) (x3 : Int32) (hG : Gd Z tf) : Met l yX2_write (Cond.code yX2_write cX2_write 4 (some .boolean) :: wsL_law) ({ frames := 0, cells := 0, slots := 0, locals := 0 } : Room) (va_Pc [.ref (za Z 19), .int x1, .int x2, .int x3] (XI Z g gl tf)) (va_Qi (fun (r : Int32) (u : (Nat → Nat → Int32) × (Nat → Nat → Int64) × (Nat → Nat → Int32)) => Fr [19, 20, 21, 22] g u.1 ∧ Gd Z u.2.2 ∧ tf = u.2.2 ∧ ((r = 1 ∧ ((0 ≤ (g 19 4).toInt ∧ (g 19 4).toInt < 6) ∧ u.1 = up2 (upR (upR (upR g 20 (upd (g 20) (g 19 4).toNatClampNeg x1)) 21 (upd (g 21) (g 19 4).toNatClampNeg x2)) 22 (upd (g 22) (g 19 4).toNatClampNeg x3)) 19 4 (g 19 4 + 1))) ∨ (r = 0 ∧ (¬ (0 ≤ (g 19 4).toInt ∧ (g 19 4).toInt < 6) ∧ u.1 = g)))) (fun u t => va_P (zD Z) vwCl (xw Z u.1 u.2.1 u.2.2) t.heap) (zA Z)) 0 0 (zA Z) := by
  refine Met.ofW (cc := cX2_write) (maxL := 4) (ret := (some .boolean)) (by decide) rfl ?_
  intro p e s m args below meth c s₁ B hml hv
  obtain ⟨rfl, hI⟩ := hv
  have hx := B.exec
  have hb := B.bytes
  have hr := B.returns
  have hT : ∀ w ∈ wsL_law, w.before ([.ref (za Z 19), .int x1, .int x2, .int x3] : List Value).toArray s = true := fun w h => atoms_spec (ws := (Cond.code yX2_write cX2_write 4 (some .boolean) :: wsL_law)) B.pre w (List.mem_cons_of_mem _ h)
  have hown : s.vm.findClass RX2 = some m.cls := findClass_of_methodNamed B.named
  have hlocks := B.notSynchronized
  have hK := hI.2.1
  have hP := hI.1
  have hS : va_S (zA Z) s.heap s.heap [] := va_S.rf
  have hF : Fr [19, 20, 21, 22] g g := Fr.rf
  have hl := lv_entry ([.ref (za Z 19), .int x1, .int x2, .int x3]) (n := 4) (Nat.le_of_ble_eq_true rfl)
  rw [lg_entry_eq]
  generalize (lg_sl ([.ref (za Z 19), .int x1, .int x2, .int x3]) ++ List.replicate (4 - (lg_sl ([.ref (za Z 19), .int x1, .int x2, .int x3])).length) Slot.unset).toArray = ls at hl ⊢
  have hl : lv_has ls 4 [(0, .ref (za Z 19)), (1, .int x1), (2, .int x2), (3, .int x3)] := hl
  refine lv_aload_n hx hb dX2_write_0 rfl (lv_at hl 0 rfl) ?_
  refine va_get (D := zD Z) (ci := 2) (v := .int (g 19 4)) (C := RX2) (T := TX2) (N := 5) hx hb hT inlX2 hown hK hP 19 xw_19 rfl 4 (by decide) (hT _ (tr_21 _ (List.mem_of_getElem? (i := 5) rfl))) (fun _ h9 => h9) rfl dX2_write_1 ?_
  refine lv_if_lt (tgt := 16) hx hb dX2_write_4 (by decide) (fun c_4 => ?_) (fun c_4 => ?_)
  · skip
    have i_4 := ti_ltk rfl tk_0 c_4
    refine lv_iconst (v := 0) hx hb dX2_write_16 (by decide) ?_
    exact W.zret (v := 0) (ty := .boolean) hx hb hr rfl (fun t ht hW => ⟨⟨0, (g, gl, tf), rfl, ⟨hF, hG, rfl, Or.inr ⟨rfl, (by (try dsimp only); first | done | exact ⟨by omega, rfl⟩)⟩⟩, by show va_P (zD Z) vwCl (xw Z g gl tf) t.heap; rw [ht]; exact hP⟩, hS.F ht⟩) hS.2.2 dX2_write_17
  · skip
    have i_4 := ti_nltk rfl tk_0 c_4
    refine lv_aload_n hx hb dX2_write_7 rfl (lv_at hl 0 rfl) ?_
    refine va_get (D := zD Z) (ci := 2) (v := .int (g 19 4)) (C := RX2) (T := TX2) (N := 5) hx hb hT inlX2 hown hK hP 19 xw_19 rfl 4 (by decide) (hT _ (tr_21 _ (List.mem_of_getElem? (i := 5) rfl))) (fun _ h9 => h9) rfl dX2_write_8 ?_
    refine lv_bipush (v := 6) hx hb dX2_write_11 (by decide) ?_
    refine lv_icmp_lt (tgt := 18) hx hb dX2_write_13 (by decide) (fun c_13 => ?_) (fun c_13 => ?_)
    · skip
      have i_13 := ti_ltk rfl tk_6 c_13
      refine lv_aload_n hx hb dX2_write_18 rfl (lv_at hl 0 rfl) ?_
      refine va_get (D := zD Z) (ci := 2) (v := .ref (za Z 20)) (C := RX2) (T := TX2) (N := 5) hx hb hT inlX2 hown hK hP 19 xw_19 rfl 0 (by decide) (hT _ (tr_4 _ (List.mem_of_getElem? (i := 1) rfl))) (fun _ h9 => h9) rfl dX2_write_19 ?_
      refine lv_aload_n hx hb dX2_write_22 rfl (lv_at hl 0 rfl) ?_
      refine va_get (D := zD Z) (ci := 2) (v := .int (g 19 4)) (C := RX2) (T := TX2) (N := 5) hx hb hT inlX2 hown hK hP 19 xw_19 rfl 4 (by decide) (hT _ (tr_21 _ (List.mem_of_getElem? (i := 5) rfl))) (fun _ h9 => h9) rfl dX2_write_23 ?_
      refine lv_iload_n hx hb dX2_write_26 rfl (lv_at hl 1 rfl) ?_
      have h_27 : vp_in (g 19 4) 6 := (ti_vp (by omega) (by omega))
      refine va_iast hx hb hK hP hZ.D hS 20 1 xw_20 rfl h_27 dX2_write_27 (fun H locs hP _ hS => ?_)
      replace hP := xs_20 hP
      have hF := hF.uR (i := 20) (r := upd (g 20) (g 19 4).toNatClampNeg x1) (by decide)
      refine lv_aload_n hx hb dX2_write_28 rfl (lv_at hl 0 rfl) ?_
      refine va_get (D := zD Z) (ci := 2) (v := .ref (za Z 21)) (C := RX2) (T := TX2) (N := 5) hx hb hT inlX2 hown hK hP 19 xw_19 rfl 1 (by decide) (hT _ (tr_4 _ (List.mem_of_getElem? (i := 2) rfl))) (fun _ h9 => h9) rfl dX2_write_29 ?_
      refine lv_aload_n hx hb dX2_write_32 rfl (lv_at hl 0 rfl) ?_
      refine va_get (D := zD Z) (ci := 2) (v := .int (g 19 4)) (C := RX2) (T := TX2) (N := 5) hx hb hT inlX2 hown hK hP 19 xw_19 rfl 4 (by decide) (hT _ (tr_21 _ (List.mem_of_getElem? (i := 5) rfl))) (fun _ h9 => h9) rfl dX2_write_33 ?_
      refine lv_iload_n hx hb dX2_write_36 rfl (lv_at hl 2 rfl) ?_
      have h_37 : vp_in (g 19 4) 6 := (ti_vp (by omega) (by omega))
      refine va_iast hx hb hK hP hZ.D hS 21 1 xw_21 rfl h_37 dX2_write_37 (fun H locs hP _ hS => ?_)
      replace hP := xs_21 hP
      have hF := hF.uR (i := 21) (r := upd (g 21) (g 19 4).toNatClampNeg x2) (by decide)
      refine lv_aload_n hx hb dX2_write_38 rfl (lv_at hl 0 rfl) ?_
      refine va_get (D := zD Z) (ci := 2) (v := .ref (za Z 22)) (C := RX2) (T := TX2) (N := 5) hx hb hT inlX2 hown hK hP 19 xw_19 rfl 2 (by decide) (hT _ (tr_4 _ (List.mem_of_getElem? (i := 3) rfl))) (fun _ h9 => h9) rfl dX2_write_39 ?_
      refine lv_aload_n hx hb dX2_write_42 rfl (lv_at hl 0 rfl) ?_
      refine va_get (D := zD Z) (ci := 2) (v := .int (g 19 4)) (C := RX2) (T := TX2) (N := 5) hx hb hT inlX2 hown hK hP 19 xw_19 rfl 4 (by decide) (hT _ (tr_21 _ (List.mem_of_getElem? (i := 5) rfl))) (fun _ h9 => h9) rfl dX2_write_43 ?_
      refine lv_iload_n hx hb dX2_write_46 rfl (lv_at hl 3 rfl) ?_
      have h_47 : vp_in (g 19 4) 6 := (ti_vp (by omega) (by omega))
      refine va_iast hx hb hK hP hZ.D hS 22 1 xw_22 rfl h_47 dX2_write_47 (fun H locs hP _ hS => ?_)
      replace hP := xs_22 hP
      have hF := hF.uR (i := 22) (r := upd (g 22) (g 19 4).toNatClampNeg x3) (by decide)
      refine lv_aload_n hx hb dX2_write_48 rfl (lv_at hl 0 rfl) ?_
      refine lv_dup hx hb dX2_write_49 rfl ?_
      refine va_get (D := zD Z) (ci := 2) (v := .int (g 19 4)) (C := RX2) (T := TX2) (N := 5) hx hb hT inlX2 hown hK hP 19 xw_19 rfl 4 (by decide) (hT _ (tr_21 _ (List.mem_of_getElem? (i := 5) rfl))) (fun _ h9 => h9) rfl dX2_write_50 ?_
      refine lv_iconst (v := 1) hx hb dX2_write_53 (by decide) ?_
      refine lv_iadd hx hb dX2_write_54 ?_
      refine lv_topi (fun v_54 e_54 => ?_)
      refine va_put (D := zD Z) (ci := 2) (v := .int v_54) (ty := .int) (C := RX2) (T := TX2) (N := 5) hx hb hT inlX2 tyX2 tyX2_ok nmX2 hown hK hP hZ.D hS 19 xw_19 rfl 4 (by decide) (hT _ (tr_21 _ (List.mem_of_getElem? (i := 5) rfl))) (fun _ h9 => h9) rfl (by decide +kernel) rfl rfl (Nat.le_of_ble_eq_true rfl) dX2_write_55 (fun H locs hP _ hS => ?_)
      replace hP := xf_19_4 hP
      have hF := hF.u2 (i := 19) (k := 4) (v := v_54) (by decide)
      refine lv_iconst (v := 1) hx hb dX2_write_58 (by decide) ?_
      exact W.zret (v := 1) (ty := .boolean) hx hb hr rfl (fun t ht hW => ⟨⟨1, ((up2 (upR (upR (upR g 20 (upd (g 20) (g 19 4).toNatClampNeg x1)) 21 (upd (g 21) (g 19 4).toNatClampNeg x2)) 22 (upd (g 22) (g 19 4).toNatClampNeg x3)) 19 4 v_54), gl, tf), rfl, ⟨hF, hG, rfl, Or.inl ⟨rfl, (by (try dsimp only); first | done | exact ⟨by omega, by rw [e_54]⟩)⟩⟩, by show va_P (zD Z) vwCl (xw Z (up2 (upR (upR (upR g 20 (upd (g 20) (g 19 4).toNatClampNeg x1)) 21 (upd (g 21) (g 19 4).toNatClampNeg x2)) 22 (upd (g 22) (g 19 4).toNatClampNeg x3)) 19 4 v_54) gl tf) t.heap; rw [ht]; exact hP⟩, hS.F ht⟩) hS.2.2 dX2_write_59
    · skip
      have i_13 := ti_nltk rfl tk_6 c_13
      refine lv_iconst (v := 0) hx hb dX2_write_16 (by decide) ?_
      exact W.zret (v := 0) (ty := .boolean) hx hb hr rfl (fun t ht hW => ⟨⟨0, (g, gl, tf), rfl, ⟨hF, hG, rfl, Or.inr ⟨rfl, (by (try dsimp only); first | done | exact ⟨by omega, rfl⟩)⟩⟩, by show va_P (zD Z) vwCl (xw Z g gl tf) t.heap; rw [ht]; exact hP⟩, hS.F ht⟩) hS.2.2 dX2_write_17
set_option maxHeartbeats 4000000 in
set_option maxRecDepth 100000 in
theorem c_X2_copyFrom_11 (l : Launch) (Z : ZT) (hZ : XG Z) (g : Nat → Nat → Int32) (gl : Nat → Nat → Int64) (tf : Nat → Nat → Int32) (hs : 0 ≤ (g 19 4).toInt ∧ (g 19 4).toInt ≤ 6) (hG : Gd Z tf) : Met l yX2_copyFrom (Cond.code yX2_copyFrom cX2_copyFrom 3 none :: wsL_law) ({ frames := 1, cells := 0, slots := 0, locals := 23 } : Room) (va_Pc [.ref (za Z 11), .ref (za Z 19)] (XI Z g gl tf)) (va_Qv (fun (u : (Nat → Nat → Int32) × (Nat → Nat → Int64) × (Nat → Nat → Int32)) => Fr [11, 12, 13, 14] g u.1 ∧ Gd Z u.2.2 ∧ tf = u.2.2 ∧ (u.1 11 4 = g 19 4 ∧ (∀ i : Nat, (i : Int) < (g 19 4).toInt → u.1 12 i = g 20 i) ∧ (∀ i : Nat, (i : Int) < (g 19 4).toInt → u.1 13 i = g 21 i) ∧ (∀ i : Nat, (i : Int) < (g 19 4).toInt → u.1 14 i = g 22 i))) (fun u t => va_P (zD Z) vwCl (xw Z u.1 u.2.1 u.2.2) t.heap) (zA Z)) 0 0 (zA Z) := by
  refine Met.ofW (cc := cX2_copyFrom) (maxL := 3) (ret := none) (by decide) rfl ?_
  intro p e s m args below meth c s₁ B hml hv
  obtain ⟨rfl, hI⟩ := hv
  have hx := B.exec
  have hb := B.bytes
  have hr := B.returns
  have hT : ∀ w ∈ wsL_law, w.before ([.ref (za Z 11), .ref (za Z 19)] : List Value).toArray s = true := fun w h => atoms_spec (ws := (Cond.code yX2_copyFrom cX2_copyFrom 3 none :: wsL_law)) B.pre w (List.mem_cons_of_mem _ h)
  have hown : s.vm.findClass RX2 = some m.cls := findClass_of_methodNamed B.named
  have hlocks := B.notSynchronized
  have hK := hI.2.1
  have hP := hI.1
  have hS : va_S (zA Z) s.heap s.heap [] := va_S.rf
  have hF : Fr [11, 12, 13, 14] g g := Fr.rf
  have hl := lv_entry ([.ref (za Z 11), .ref (za Z 19)]) (n := 3) (Nat.le_of_ble_eq_true rfl)
  rw [lg_entry_eq]
  generalize (lg_sl ([.ref (za Z 11), .ref (za Z 19)]) ++ List.replicate (3 - (lg_sl ([.ref (za Z 11), .ref (za Z 19)])).length) Slot.unset).toArray = ls at hl ⊢
  have hl : lv_has ls 3 [(0, .ref (za Z 11)), (1, .ref (za Z 19))] := hl
  have L7 : ∀ (n : Nat) (z2 : Int32) (g1 : Nat → Nat → Int32) (gl1 : Nat → Nat → Int64) (H : Heap) (locs : List Loc) (hP : va_P (zD Z) vwCl (xw Z g1 gl1 tf) H) (hF : Fr [11, 12, 13, 14] g g1) (hG : Gd Z tf) (hS : va_S (zA Z) s.heap H locs) (h2 : 0 ≤ z2.toInt ∧ z2.toInt ≤ (g 19 4).toInt) (hz : (g1 11 4).toInt = z2.toInt) (hA : (∀ i : Nat, (i : Int) < z2.toInt → g1 12 i = g 20 i) ∧ (∀ i : Nat, (i : Int) < z2.toInt → g1 13 i = g 21 i) ∧ (∀ i : Nat, (i : Int) < z2.toInt → g1 14 i = g 22 i)) (hn : (6 - z2.toInt).toNat < n) (ls : Array Slot) (hl : lv_has ls 3 [(0, .ref (za Z 11)), (1, .ref (za Z 19)), (2, .int z2)]), W p l e ({ frames := 1, cells := 0, slots := 0, locals := 23 } : Room) s m ([.ref (za Z 11), .ref (za Z 19)] : List Value).toArray below meth c H locs 0 0 (MQ below (va_Qv (fun (u : (Nat → Nat → Int32) × (Nat → Nat → Int64) × (Nat → Nat → Int32)) => Fr [11, 12, 13, 14] g u.1 ∧ Gd Z u.2.2 ∧ tf = u.2.2 ∧ (u.1 11 4 = g 19 4 ∧ (∀ i : Nat, (i : Int) < (g 19 4).toInt → u.1 12 i = g 20 i) ∧ (∀ i : Nat, (i : Int) < (g 19 4).toInt → u.1 13 i = g 21 i) ∧ (∀ i : Nat, (i : Int) < (g 19 4).toInt → u.1 14 i = g 22 i))) (fun u t => va_P (zD Z) vwCl (xw Z u.1 u.2.1 u.2.2) t.heap) (zA Z)) ([.ref (za Z 11), .ref (za Z 19)] : List Value).toArray s 0 0 (zA Z)) (F0 m 7 ls []) := by
    intro n
    induction n with
    | zero => intro z2 g1 gl1 H locs hP hF hG hS h2 hz hA hn; exact absurd hn (Nat.not_lt_zero _)
    | succ n ih7 =>
      intro z2 g1 gl1 H locs hP hF hG hS h2 hz hA hn ls hl
      have hF_ := hF
      have qs : (g1 19 4).toInt = (g 19 4).toInt := by rw [hF 19 (by decide)]
      refine lv_iload_n hx hb dX2_copyFrom_7 rfl (lv_at hl 2 rfl) ?_
      refine lv_aload_n hx hb dX2_copyFrom_8 rfl (lv_at hl 1 rfl) ?_
      refine va_get (D := zD Z) (ci := 2) (v := .int (g1 19 4)) (C := RX2) (T := TX2) (N := 5) hx hb hT inlX2 hown hK hP 19 xw_19 rfl 4 (by decide) (hT _ (tr_21 _ (List.mem_of_getElem? (i := 5) rfl))) (fun _ h9 => h9) rfl dX2_copyFrom_9 ?_
      refine lv_icmp_ge (tgt := 50) hx hb dX2_copyFrom_12 (by decide) (fun c_12 => ?_) (fun c_12 => ?_)
      · skip
        have i_12 := ti_lek rfl rfl c_12
        exact W.vret hx hb hr (fun t ht hW => ⟨⟨(g1, gl1, tf), rfl, ⟨hF, hG, rfl, (by (try dsimp only); first | done | exact ⟨Int32.toInt_inj.mp (by omega), fun i hi => hA.1 i (by omega), fun i hi => hA.2.1 i (by omega), fun i hi => hA.2.2 i (by omega)⟩)⟩, by show va_P (zD Z) vwCl (xw Z g1 gl1 tf) t.heap; rw [ht]; exact hP⟩, hS.F ht⟩) hS.2.2 dX2_copyFrom_50
      · skip
        have i_12 := ti_nlek rfl rfl c_12
        refine lv_iload_n hx hb dX2_copyFrom_15 rfl (lv_at hl 2 rfl) ?_
        refine lv_bipush (v := 6) hx hb dX2_copyFrom_16 (by decide) ?_
        refine lv_icmp_ge (tgt := 50) hx hb dX2_copyFrom_18 (by decide) (fun c_18 => ?_) (fun c_18 => ?_)
        · skip
          have i_18 := ti_lek tk_6 rfl c_18
          exact W.vret hx hb hr (fun t ht hW => ⟨⟨(g1, gl1, tf), rfl, ⟨hF, hG, rfl, (by (try dsimp only); first | done | exact ⟨Int32.toInt_inj.mp (by omega), fun i hi => hA.1 i (by omega), fun i hi => hA.2.1 i (by omega), fun i hi => hA.2.2 i (by omega)⟩)⟩, by show va_P (zD Z) vwCl (xw Z g1 gl1 tf) t.heap; rw [ht]; exact hP⟩, hS.F ht⟩) hS.2.2 dX2_copyFrom_50
        · skip
          have i_18 := ti_nlek tk_6 rfl c_18
          refine lv_aload_n hx hb dX2_copyFrom_21 rfl (lv_at hl 0 rfl) ?_
          refine lv_aload_n hx hb dX2_copyFrom_22 rfl (lv_at hl 1 rfl) ?_
          refine va_get (D := zD Z) (ci := 2) (v := .ref (za Z 20)) (C := RX2) (T := TX2) (N := 5) hx hb hT inlX2 hown hK hP 19 xw_19 rfl 0 (by decide) (hT _ (tr_4 _ (List.mem_of_getElem? (i := 1) rfl))) (fun _ h9 => h9) rfl dX2_copyFrom_23 ?_
          refine lv_iload_n hx hb dX2_copyFrom_26 rfl (lv_at hl 2 rfl) ?_
          have h_27 : vp_in z2 6 := (ti_vp (by omega) (by omega))
          refine va_iald hx hb hK hP 20 1 xw_20 rfl h_27 dX2_copyFrom_27 ?_
          refine lv_topi (fun v_27 e_27 => ?_)
          refine lv_aload_n hx hb dX2_copyFrom_28 rfl (lv_at hl 1 rfl) ?_
          refine va_get (D := zD Z) (ci := 2) (v := .ref (za Z 21)) (C := RX2) (T := TX2) (N := 5) hx hb hT inlX2 hown hK hP 19 xw_19 rfl 1 (by decide) (hT _ (tr_4 _ (List.mem_of_getElem? (i := 2) rfl))) (fun _ h9 => h9) rfl dX2_copyFrom_29 ?_
          refine lv_iload_n hx hb dX2_copyFrom_32 rfl (lv_at hl 2 rfl) ?_
          have h_33 : vp_in z2 6 := (ti_vp (by omega) (by omega))
          refine va_iald hx hb hK hP 21 1 xw_21 rfl h_33 dX2_copyFrom_33 ?_
          refine lv_topi (fun v_33 e_33 => ?_)
          refine lv_aload_n hx hb dX2_copyFrom_34 rfl (lv_at hl 1 rfl) ?_
          refine va_get (D := zD Z) (ci := 2) (v := .ref (za Z 22)) (C := RX2) (T := TX2) (N := 5) hx hb hT inlX2 hown hK hP 19 xw_19 rfl 2 (by decide) (hT _ (tr_4 _ (List.mem_of_getElem? (i := 3) rfl))) (fun _ h9 => h9) rfl dX2_copyFrom_35 ?_
          refine lv_iload_n hx hb dX2_copyFrom_38 rfl (lv_at hl 2 rfl) ?_
          have h_39 : vp_in z2 6 := (ti_vp (by omega) (by omega))
          refine va_iald hx hb hK hP 22 1 xw_22 rfl h_39 dX2_copyFrom_39 ?_
          refine lv_topi (fun v_39 e_39 => ?_)
          refine va_calli (va_runV (As := [.int v_27, .int v_33, .int v_39]) (rest := []) ⟨hx, hb, hml, hown, hT⟩ (c_X2_write_11 l Z hZ g1 gl1 tf v_27 v_33 v_39 hG) (cwV 3 hT (tb_V (fun _ h => h) (tr_35 _ (List.mem_of_getElem? (i := 19) rfl)) (tr_33 _ (List.mem_of_getElem? (i := 1) rfl)) (tr_33 _ (List.mem_of_getElem? (i := 2) rfl)) (tr_2 _ (List.mem_of_getElem? (i := 2) rfl)) (tr_33 _ (List.mem_of_getElem? (i := 3) rfl))) rfl rfl rfl (by decide +kernel) ⟨Nat.le_of_ble_eq_true rfl, Nat.le_of_ble_eq_true rfl⟩) ⟨fun a U f mk q => ⟨q.1, XI.blind f mk a q.2⟩, va_recv hK hP (ci := 2) (q0 := 11) rfl xw_11, fun U hU hW => ⟨rfl, hI.at hS hP hU hW⟩⟩ rfl rfl hl.1 rfl (lv_room (Nat.le_of_ble_eq_true rfl)) dX2_copyFrom_40 ⟨Nat.zero_le _, Nat.zero_le _⟩) hS (fun q _ h => h) (fun q h => h) (fun r_40 u_40 t_40 H locs ht_40 _ hw_40 hB_40 _ _ hS => ?_)
          obtain ⟨g_40, gl_40, tf_40⟩ := u_40
          have hP : va_P (zD Z) vwCl (xw Z g_40 gl_40 tf_40) H := ht_40 ▸ hB_40
          obtain ⟨hf_40, hG, et_40, hr_40⟩ := hw_40
          have hF := hF.tr hf_40 (by decide)
          (try dsimp only at hf_40 hG hF et_40 hr_40)
          subst et_40
          rcases hr_40 with ⟨rfl, b_40⟩ | ⟨rfl, b_40⟩
          · skip
            have w := b_40
            refine lv_pop hx hb dX2_copyFrom_43 rfl ?_
            obtain ⟨v_44, e_44⟩ : ∃ y : Int32, y = z2 + 1 := ⟨_, rfl⟩
            refine lv_iinc (v := v_44) (lv' := [(2, .int v_44), (0, .ref (za Z 11)), (1, .ref (za Z 19))]) hx hb dX2_copyFrom_44 hl (k := 2) rfl (by rw [e_44]; rfl) (by decide) rfl (fun ls hl => ?_)
            have t_44 := ti_addk rfl tk_1 (by omega) (by omega) e_44
            refine lv_goto (tgt := 7) hx hb dX2_copyFrom_47 (by decide) ?_
            exact ih7 v_44 g_40 gl_40 _ _ hP hF hG hS (by omega) (by rw [w.2]; show (g1 11 4 + 1).toInt = _; have y := ti_add (x := g1 11 4) (y := 1) (by rw [tk_1]; omega) (by rw [tk_1]; omega); rw [y, tk_1]; omega) ⟨fun i hi => by rw [w.2]; show upd (g1 12) (g1 11 4).toNatClampNeg v_27 i = g 20 i; by_cases z : i = (g1 11 4).toNatClampNeg; (subst z; rw [pk_us, e_27, show (g1 11 4).toNatClampNeg = z2.toNatClampNeg by show (g1 11 4).toInt.toNat = z2.toInt.toNat; omega]; exact congrFun (hF_ 20 (by decide)) _); rw [pk_un z]; exact hA.1 i (by have y : ¬ (i : Int) = (g1 11 4).toInt := (fun y => z (ti_clamp y.symm).symm); omega), fun i hi => by rw [w.2]; show upd (g1 13) (g1 11 4).toNatClampNeg v_33 i = g 21 i; by_cases z : i = (g1 11 4).toNatClampNeg; (subst z; rw [pk_us, e_33, show (g1 11 4).toNatClampNeg = z2.toNatClampNeg by show (g1 11 4).toInt.toNat = z2.toInt.toNat; omega]; exact congrFun (hF_ 21 (by decide)) _); rw [pk_un z]; exact hA.2.1 i (by have y : ¬ (i : Int) = (g1 11 4).toInt := (fun y => z (ti_clamp y.symm).symm); omega), fun i hi => by rw [w.2]; show upd (g1 14) (g1 11 4).toNatClampNeg v_39 i = g 22 i; by_cases z : i = (g1 11 4).toNatClampNeg; (subst z; rw [pk_us, e_39, show (g1 11 4).toNatClampNeg = z2.toNatClampNeg by show (g1 11 4).toInt.toNat = z2.toInt.toNat; omega]; exact congrFun (hF_ 22 (by decide)) _); rw [pk_un z]; exact hA.2.2 i (by have y : ¬ (i : Int) = (g1 11 4).toInt := (fun y => z (ti_clamp y.symm).symm); omega)⟩ (by omega) ls (lv_sub hl [1, 2, 0] rfl)
          · skip
            exfalso
            have w := b_40.1
            omega
  refine lv_aload_n hx hb dX2_copyFrom_0 rfl (lv_at hl 0 rfl) ?_
  refine lv_iconst (v := 0) hx hb dX2_copyFrom_1 (by decide) ?_
  refine va_put (D := zD Z) (ci := 2) (v := .int 0) (ty := .int) (C := RX2) (T := TX2) (N := 5) hx hb hT inlX2 tyX2 tyX2_ok nmX2 hown hK hP hZ.D hS 11 xw_11 rfl 4 (by decide) (hT _ (tr_21 _ (List.mem_of_getElem? (i := 5) rfl))) (fun _ h9 => h9) rfl (by decide +kernel) rfl rfl (Nat.le_of_ble_eq_true rfl) dX2_copyFrom_2 (fun H locs hP _ hS => ?_)
  replace hP := xf_11_4 hP
  have hF := hF.u2 (i := 11) (k := 4) (v := 0) (by decide)
  refine lv_iconst (v := 0) hx hb dX2_copyFrom_5 (by decide) ?_
  refine lv_istore_n (lv' := [(2, .int 0), (0, .ref (za Z 11)), (1, .ref (za Z 19))]) hx hb dX2_copyFrom_6 rfl hl (by decide) rfl (fun ls hl => ?_)
  exact L7 _ 0 (up2 g 11 4 0) gl _ _ hP hF hG hS ⟨by decide, by rw [tk_0]; omega⟩ rfl ⟨fun i hi => by rw [tk_0] at hi; omega, fun i hi => by rw [tk_0] at hi; omega, fun i hi => by rw [tk_0] at hi; omega⟩ (Nat.lt_succ_self _) ls (lv_sub hl [1, 2, 0] rfl)
set_option maxHeartbeats 4000000 in
set_option maxRecDepth 100000 in
theorem c_X2_copyFrom_19 (l : Launch) (Z : ZT) (hZ : XG Z) (g : Nat → Nat → Int32) (gl : Nat → Nat → Int64) (tf : Nat → Nat → Int32) (hs : 0 ≤ (g 11 4).toInt ∧ (g 11 4).toInt ≤ 6) (hG : Gd Z tf) : Met l yX2_copyFrom (Cond.code yX2_copyFrom cX2_copyFrom 3 none :: wsL_law) ({ frames := 1, cells := 0, slots := 0, locals := 23 } : Room) (va_Pc [.ref (za Z 19), .ref (za Z 11)] (XI Z g gl tf)) (va_Qv (fun (u : (Nat → Nat → Int32) × (Nat → Nat → Int64) × (Nat → Nat → Int32)) => Fr [19, 20, 21, 22] g u.1 ∧ Gd Z u.2.2 ∧ tf = u.2.2 ∧ (u.1 19 4 = g 11 4 ∧ (∀ i : Nat, (i : Int) < (g 11 4).toInt → u.1 20 i = g 12 i) ∧ (∀ i : Nat, (i : Int) < (g 11 4).toInt → u.1 21 i = g 13 i) ∧ (∀ i : Nat, (i : Int) < (g 11 4).toInt → u.1 22 i = g 14 i))) (fun u t => va_P (zD Z) vwCl (xw Z u.1 u.2.1 u.2.2) t.heap) (zA Z)) 0 0 (zA Z) := by
  refine Met.ofW (cc := cX2_copyFrom) (maxL := 3) (ret := none) (by decide) rfl ?_
  intro p e s m args below meth c s₁ B hml hv
  obtain ⟨rfl, hI⟩ := hv
  have hx := B.exec
  have hb := B.bytes
  have hr := B.returns
  have hT : ∀ w ∈ wsL_law, w.before ([.ref (za Z 19), .ref (za Z 11)] : List Value).toArray s = true := fun w h => atoms_spec (ws := (Cond.code yX2_copyFrom cX2_copyFrom 3 none :: wsL_law)) B.pre w (List.mem_cons_of_mem _ h)
  have hown : s.vm.findClass RX2 = some m.cls := findClass_of_methodNamed B.named
  have hlocks := B.notSynchronized
  have hK := hI.2.1
  have hP := hI.1
  have hS : va_S (zA Z) s.heap s.heap [] := va_S.rf
  have hF : Fr [19, 20, 21, 22] g g := Fr.rf
  have hl := lv_entry ([.ref (za Z 19), .ref (za Z 11)]) (n := 3) (Nat.le_of_ble_eq_true rfl)
  rw [lg_entry_eq]
  generalize (lg_sl ([.ref (za Z 19), .ref (za Z 11)]) ++ List.replicate (3 - (lg_sl ([.ref (za Z 19), .ref (za Z 11)])).length) Slot.unset).toArray = ls at hl ⊢
  have hl : lv_has ls 3 [(0, .ref (za Z 19)), (1, .ref (za Z 11))] := hl
  have L7 : ∀ (n : Nat) (z2 : Int32) (g1 : Nat → Nat → Int32) (gl1 : Nat → Nat → Int64) (H : Heap) (locs : List Loc) (hP : va_P (zD Z) vwCl (xw Z g1 gl1 tf) H) (hF : Fr [19, 20, 21, 22] g g1) (hG : Gd Z tf) (hS : va_S (zA Z) s.heap H locs) (h2 : 0 ≤ z2.toInt ∧ z2.toInt ≤ (g 11 4).toInt) (hz : (g1 19 4).toInt = z2.toInt) (hA : (∀ i : Nat, (i : Int) < z2.toInt → g1 20 i = g 12 i) ∧ (∀ i : Nat, (i : Int) < z2.toInt → g1 21 i = g 13 i) ∧ (∀ i : Nat, (i : Int) < z2.toInt → g1 22 i = g 14 i)) (hn : (6 - z2.toInt).toNat < n) (ls : Array Slot) (hl : lv_has ls 3 [(0, .ref (za Z 19)), (1, .ref (za Z 11)), (2, .int z2)]), W p l e ({ frames := 1, cells := 0, slots := 0, locals := 23 } : Room) s m ([.ref (za Z 19), .ref (za Z 11)] : List Value).toArray below meth c H locs 0 0 (MQ below (va_Qv (fun (u : (Nat → Nat → Int32) × (Nat → Nat → Int64) × (Nat → Nat → Int32)) => Fr [19, 20, 21, 22] g u.1 ∧ Gd Z u.2.2 ∧ tf = u.2.2 ∧ (u.1 19 4 = g 11 4 ∧ (∀ i : Nat, (i : Int) < (g 11 4).toInt → u.1 20 i = g 12 i) ∧ (∀ i : Nat, (i : Int) < (g 11 4).toInt → u.1 21 i = g 13 i) ∧ (∀ i : Nat, (i : Int) < (g 11 4).toInt → u.1 22 i = g 14 i))) (fun u t => va_P (zD Z) vwCl (xw Z u.1 u.2.1 u.2.2) t.heap) (zA Z)) ([.ref (za Z 19), .ref (za Z 11)] : List Value).toArray s 0 0 (zA Z)) (F0 m 7 ls []) := by
    intro n
    induction n with
    | zero => intro z2 g1 gl1 H locs hP hF hG hS h2 hz hA hn; exact absurd hn (Nat.not_lt_zero _)
    | succ n ih7 =>
      intro z2 g1 gl1 H locs hP hF hG hS h2 hz hA hn ls hl
      have hF_ := hF
      have qs : (g1 11 4).toInt = (g 11 4).toInt := by rw [hF 11 (by decide)]
      refine lv_iload_n hx hb dX2_copyFrom_7 rfl (lv_at hl 2 rfl) ?_
      refine lv_aload_n hx hb dX2_copyFrom_8 rfl (lv_at hl 1 rfl) ?_
      refine va_get (D := zD Z) (ci := 2) (v := .int (g1 11 4)) (C := RX2) (T := TX2) (N := 5) hx hb hT inlX2 hown hK hP 11 xw_11 rfl 4 (by decide) (hT _ (tr_21 _ (List.mem_of_getElem? (i := 5) rfl))) (fun _ h9 => h9) rfl dX2_copyFrom_9 ?_
      refine lv_icmp_ge (tgt := 50) hx hb dX2_copyFrom_12 (by decide) (fun c_12 => ?_) (fun c_12 => ?_)
      · skip
        have i_12 := ti_lek rfl rfl c_12
        exact W.vret hx hb hr (fun t ht hW => ⟨⟨(g1, gl1, tf), rfl, ⟨hF, hG, rfl, (by (try dsimp only); first | done | exact ⟨Int32.toInt_inj.mp (by omega), fun i hi => hA.1 i (by omega), fun i hi => hA.2.1 i (by omega), fun i hi => hA.2.2 i (by omega)⟩)⟩, by show va_P (zD Z) vwCl (xw Z g1 gl1 tf) t.heap; rw [ht]; exact hP⟩, hS.F ht⟩) hS.2.2 dX2_copyFrom_50
      · skip
        have i_12 := ti_nlek rfl rfl c_12
        refine lv_iload_n hx hb dX2_copyFrom_15 rfl (lv_at hl 2 rfl) ?_
        refine lv_bipush (v := 6) hx hb dX2_copyFrom_16 (by decide) ?_
        refine lv_icmp_ge (tgt := 50) hx hb dX2_copyFrom_18 (by decide) (fun c_18 => ?_) (fun c_18 => ?_)
        · skip
          have i_18 := ti_lek tk_6 rfl c_18
          exact W.vret hx hb hr (fun t ht hW => ⟨⟨(g1, gl1, tf), rfl, ⟨hF, hG, rfl, (by (try dsimp only); first | done | exact ⟨Int32.toInt_inj.mp (by omega), fun i hi => hA.1 i (by omega), fun i hi => hA.2.1 i (by omega), fun i hi => hA.2.2 i (by omega)⟩)⟩, by show va_P (zD Z) vwCl (xw Z g1 gl1 tf) t.heap; rw [ht]; exact hP⟩, hS.F ht⟩) hS.2.2 dX2_copyFrom_50
        · skip
          have i_18 := ti_nlek tk_6 rfl c_18
          refine lv_aload_n hx hb dX2_copyFrom_21 rfl (lv_at hl 0 rfl) ?_
          refine lv_aload_n hx hb dX2_copyFrom_22 rfl (lv_at hl 1 rfl) ?_
          refine va_get (D := zD Z) (ci := 2) (v := .ref (za Z 12)) (C := RX2) (T := TX2) (N := 5) hx hb hT inlX2 hown hK hP 11 xw_11 rfl 0 (by decide) (hT _ (tr_4 _ (List.mem_of_getElem? (i := 1) rfl))) (fun _ h9 => h9) rfl dX2_copyFrom_23 ?_
          refine lv_iload_n hx hb dX2_copyFrom_26 rfl (lv_at hl 2 rfl) ?_
          have h_27 : vp_in z2 6 := (ti_vp (by omega) (by omega))
          refine va_iald hx hb hK hP 12 1 xw_12 rfl h_27 dX2_copyFrom_27 ?_
          refine lv_topi (fun v_27 e_27 => ?_)
          refine lv_aload_n hx hb dX2_copyFrom_28 rfl (lv_at hl 1 rfl) ?_
          refine va_get (D := zD Z) (ci := 2) (v := .ref (za Z 13)) (C := RX2) (T := TX2) (N := 5) hx hb hT inlX2 hown hK hP 11 xw_11 rfl 1 (by decide) (hT _ (tr_4 _ (List.mem_of_getElem? (i := 2) rfl))) (fun _ h9 => h9) rfl dX2_copyFrom_29 ?_
          refine lv_iload_n hx hb dX2_copyFrom_32 rfl (lv_at hl 2 rfl) ?_
          have h_33 : vp_in z2 6 := (ti_vp (by omega) (by omega))
          refine va_iald hx hb hK hP 13 1 xw_13 rfl h_33 dX2_copyFrom_33 ?_
          refine lv_topi (fun v_33 e_33 => ?_)
          refine lv_aload_n hx hb dX2_copyFrom_34 rfl (lv_at hl 1 rfl) ?_
          refine va_get (D := zD Z) (ci := 2) (v := .ref (za Z 14)) (C := RX2) (T := TX2) (N := 5) hx hb hT inlX2 hown hK hP 11 xw_11 rfl 2 (by decide) (hT _ (tr_4 _ (List.mem_of_getElem? (i := 3) rfl))) (fun _ h9 => h9) rfl dX2_copyFrom_35 ?_
          refine lv_iload_n hx hb dX2_copyFrom_38 rfl (lv_at hl 2 rfl) ?_
          have h_39 : vp_in z2 6 := (ti_vp (by omega) (by omega))
          refine va_iald hx hb hK hP 14 1 xw_14 rfl h_39 dX2_copyFrom_39 ?_
          refine lv_topi (fun v_39 e_39 => ?_)
          refine va_calli (va_runV (As := [.int v_27, .int v_33, .int v_39]) (rest := []) ⟨hx, hb, hml, hown, hT⟩ (c_X2_write_19 l Z hZ g1 gl1 tf v_27 v_33 v_39 hG) (cwV 3 hT (tb_V (fun _ h => h) (tr_35 _ (List.mem_of_getElem? (i := 19) rfl)) (tr_33 _ (List.mem_of_getElem? (i := 1) rfl)) (tr_33 _ (List.mem_of_getElem? (i := 2) rfl)) (tr_2 _ (List.mem_of_getElem? (i := 2) rfl)) (tr_33 _ (List.mem_of_getElem? (i := 3) rfl))) rfl rfl rfl (by decide +kernel) ⟨Nat.le_of_ble_eq_true rfl, Nat.le_of_ble_eq_true rfl⟩) ⟨fun a U f mk q => ⟨q.1, XI.blind f mk a q.2⟩, va_recv hK hP (ci := 2) (q0 := 19) rfl xw_19, fun U hU hW => ⟨rfl, hI.at hS hP hU hW⟩⟩ rfl rfl hl.1 rfl (lv_room (Nat.le_of_ble_eq_true rfl)) dX2_copyFrom_40 ⟨Nat.zero_le _, Nat.zero_le _⟩) hS (fun q _ h => h) (fun q h => h) (fun r_40 u_40 t_40 H locs ht_40 _ hw_40 hB_40 _ _ hS => ?_)
          obtain ⟨g_40, gl_40, tf_40⟩ := u_40
          have hP : va_P (zD Z) vwCl (xw Z g_40 gl_40 tf_40) H := ht_40 ▸ hB_40
          obtain ⟨hf_40, hG, et_40, hr_40⟩ := hw_40
          have hF := hF.tr hf_40 (by decide)
          (try dsimp only at hf_40 hG hF et_40 hr_40)
          subst et_40
          rcases hr_40 with ⟨rfl, b_40⟩ | ⟨rfl, b_40⟩
          · skip
            have w := b_40
            refine lv_pop hx hb dX2_copyFrom_43 rfl ?_
            obtain ⟨v_44, e_44⟩ : ∃ y : Int32, y = z2 + 1 := ⟨_, rfl⟩
            refine lv_iinc (v := v_44) (lv' := [(2, .int v_44), (0, .ref (za Z 19)), (1, .ref (za Z 11))]) hx hb dX2_copyFrom_44 hl (k := 2) rfl (by rw [e_44]; rfl) (by decide) rfl (fun ls hl => ?_)
            have t_44 := ti_addk rfl tk_1 (by omega) (by omega) e_44
            refine lv_goto (tgt := 7) hx hb dX2_copyFrom_47 (by decide) ?_
            exact ih7 v_44 g_40 gl_40 _ _ hP hF hG hS (by omega) (by rw [w.2]; show (g1 19 4 + 1).toInt = _; have y := ti_add (x := g1 19 4) (y := 1) (by rw [tk_1]; omega) (by rw [tk_1]; omega); rw [y, tk_1]; omega) ⟨fun i hi => by rw [w.2]; show upd (g1 20) (g1 19 4).toNatClampNeg v_27 i = g 12 i; by_cases z : i = (g1 19 4).toNatClampNeg; (subst z; rw [pk_us, e_27, show (g1 19 4).toNatClampNeg = z2.toNatClampNeg by show (g1 19 4).toInt.toNat = z2.toInt.toNat; omega]; exact congrFun (hF_ 12 (by decide)) _); rw [pk_un z]; exact hA.1 i (by have y : ¬ (i : Int) = (g1 19 4).toInt := (fun y => z (ti_clamp y.symm).symm); omega), fun i hi => by rw [w.2]; show upd (g1 21) (g1 19 4).toNatClampNeg v_33 i = g 13 i; by_cases z : i = (g1 19 4).toNatClampNeg; (subst z; rw [pk_us, e_33, show (g1 19 4).toNatClampNeg = z2.toNatClampNeg by show (g1 19 4).toInt.toNat = z2.toInt.toNat; omega]; exact congrFun (hF_ 13 (by decide)) _); rw [pk_un z]; exact hA.2.1 i (by have y : ¬ (i : Int) = (g1 19 4).toInt := (fun y => z (ti_clamp y.symm).symm); omega), fun i hi => by rw [w.2]; show upd (g1 22) (g1 19 4).toNatClampNeg v_39 i = g 14 i; by_cases z : i = (g1 19 4).toNatClampNeg; (subst z; rw [pk_us, e_39, show (g1 19 4).toNatClampNeg = z2.toNatClampNeg by show (g1 19 4).toInt.toNat = z2.toInt.toNat; omega]; exact congrFun (hF_ 14 (by decide)) _); rw [pk_un z]; exact hA.2.2 i (by have y : ¬ (i : Int) = (g1 19 4).toInt := (fun y => z (ti_clamp y.symm).symm); omega)⟩ (by omega) ls (lv_sub hl [1, 2, 0] rfl)
          · skip
            exfalso
            have w := b_40.1
            omega
  refine lv_aload_n hx hb dX2_copyFrom_0 rfl (lv_at hl 0 rfl) ?_
  refine lv_iconst (v := 0) hx hb dX2_copyFrom_1 (by decide) ?_
  refine va_put (D := zD Z) (ci := 2) (v := .int 0) (ty := .int) (C := RX2) (T := TX2) (N := 5) hx hb hT inlX2 tyX2 tyX2_ok nmX2 hown hK hP hZ.D hS 19 xw_19 rfl 4 (by decide) (hT _ (tr_21 _ (List.mem_of_getElem? (i := 5) rfl))) (fun _ h9 => h9) rfl (by decide +kernel) rfl rfl (Nat.le_of_ble_eq_true rfl) dX2_copyFrom_2 (fun H locs hP _ hS => ?_)
  replace hP := xf_19_4 hP
  have hF := hF.u2 (i := 19) (k := 4) (v := 0) (by decide)
  refine lv_iconst (v := 0) hx hb dX2_copyFrom_5 (by decide) ?_
  refine lv_istore_n (lv' := [(2, .int 0), (0, .ref (za Z 19)), (1, .ref (za Z 11))]) hx hb dX2_copyFrom_6 rfl hl (by decide) rfl (fun ls hl => ?_)
  exact L7 _ 0 (up2 g 19 4 0) gl _ _ hP hF hG hS ⟨by decide, by rw [tk_0]; omega⟩ rfl ⟨fun i hi => by rw [tk_0] at hi; omega, fun i hi => by rw [tk_0] at hi; omega, fun i hi => by rw [tk_0] at hi; omega⟩ (Nat.lt_succ_self _) ls (lv_sub hl [1, 2, 0] rfl)
set_option maxHeartbeats 4000000 in
set_option maxRecDepth 100000 in
theorem c_X2_canBe (l : Launch) (Z : ZT) (hZ : XG Z) (g : Nat → Nat → Int32) (gl : Nat → Nat → Int64) (tf : Nat → Nat → Int32) (x1 : Int32) (x2 : Int32) (a : Nat) (ha : a ∈ zL Z) (hsz : 0 ≤ (g 11 4).toInt ∧ (g 11 4).toInt ≤ 6) (hsq : ∀ i : Nat, (i : Int) < (g 11 4).toInt → 0 ≤ (g 13 i).toInt ∧ (g 13 i).toInt ≤ 63) (h0 : 0 ≤ x2.toInt) (hrow : a = ro Z x2.toInt.toNat) (hG : Gd Z tf) : Met l yX2_canBe (Cond.code yX2_canBe cX2_canBe 5 (some .boolean) :: wsL_law) ({ frames := 3, cells := 0, slots := 0, locals := 65 } : Room) (va_Pc [.ref (za Z 11), .int x1, .int x2, .ref a] (XI Z g gl tf)) (rd_Qi (fun r => (r = 1 ∧ okK (snB (xr Z tf) (g 12) (g 13) (g 14) x2.toInt.toNat x1) (g 11 4).toInt.toNat = true) ∨ (r = 0 ∧ okK (snB (xr Z tf) (g 12) (g 13) (g 14) x2.toInt.toNat x1) (g 11 4).toInt.toNat = false))) 0 0 (fun _ => False) := by
  refine Met.ofW (cc := cX2_canBe) (maxL := 5) (ret := (some .boolean)) (by decide) rfl ?_
  intro p e s m args below meth c s₁ B hml hv
  obtain ⟨rfl, hI⟩ := hv
  have hx := B.exec
  have hb := B.bytes
  have hr := B.returns
  have hT : ∀ w ∈ wsL_law, w.before ([.ref (za Z 11), .int x1, .int x2, .ref a] : List Value).toArray s = true := fun w h => atoms_spec (ws := (Cond.code yX2_canBe cX2_canBe 5 (some .boolean) :: wsL_law)) B.pre w (List.mem_cons_of_mem _ h)
  have hown : s.vm.findClass RX2 = some m.cls := findClass_of_methodNamed B.named
  have hlocks := B.notSynchronized
  have hK := hI.2.1
  have hP := hI.1
  have hS : va_S (zA Z) s.heap s.heap [] := va_S.rf
  have hx2 : nI x2.toInt.toNat = x2 := nI_toN h0
  have hl := lv_entry ([.ref (za Z 11), .int x1, .int x2, .ref a]) (n := 5) (Nat.le_of_ble_eq_true rfl)
  rw [lg_entry_eq]
  generalize (lg_sl ([.ref (za Z 11), .int x1, .int x2, .ref a]) ++ List.replicate (5 - (lg_sl ([.ref (za Z 11), .int x1, .int x2, .ref a])).length) Slot.unset).toArray = ls at hl ⊢
  have hl : lv_has ls 5 [(0, .ref (za Z 11)), (1, .int x1), (2, .int x2), (3, .ref a)] := hl
  have L3 : ∀ (n : Nat) (z4 : Int32)  (h4 : 0 ≤ z4.toInt ∧ z4.toInt ≤ (g 11 4).toInt) (hA : okK (snB (xr Z tf) (g 12) (g 13) (g 14) x2.toInt.toNat x1) z4.toInt.toNat = true) (hn : (6 - z4.toInt).toNat < n) (ls : Array Slot) (hl : lv_has ls 5 [(0, .ref (za Z 11)), (1, .int x1), (2, .int x2), (3, .ref a), (4, .int z4)]), W p l e ({ frames := 3, cells := 0, slots := 0, locals := 65 } : Room) s m ([.ref (za Z 11), .int x1, .int x2, .ref a] : List Value).toArray below meth c s.heap [] 0 0 (MQ below (rd_Qi (fun r => (r = 1 ∧ okK (snB (xr Z tf) (g 12) (g 13) (g 14) x2.toInt.toNat x1) (g 11 4).toInt.toNat = true) ∨ (r = 0 ∧ okK (snB (xr Z tf) (g 12) (g 13) (g 14) x2.toInt.toNat x1) (g 11 4).toInt.toNat = false))) ([.ref (za Z 11), .int x1, .int x2, .ref a] : List Value).toArray s 0 0 (fun _ => False)) (F0 m 3 ls []) := by
    intro n
    induction n with
    | zero => intro z4 h4 hA hn; exact absurd hn (Nat.not_lt_zero _)
    | succ n ih3 =>
      intro z4 h4 hA hn ls hl
      refine lv_iload hx hb dX2_canBe_3 (lv_at hl 4 rfl) ?_
      refine lv_aload_n hx hb dX2_canBe_5 rfl (lv_at hl 0 rfl) ?_
      refine va_get (D := zD Z) (ci := 2) (v := .int (g 11 4)) (C := RX2) (T := TX2) (N := 5) hx hb hT inlX2 hown hK hP 11 xw_11 rfl 4 (by decide) (hT _ (tr_21 _ (List.mem_of_getElem? (i := 5) rfl))) (fun _ h9 => h9) rfl dX2_canBe_6 ?_
      refine lv_icmp_ge (tgt := 62) hx hb dX2_canBe_9 (by decide) (fun c_9 => ?_) (fun c_9 => ?_)
      · skip
        have i_9 := ti_lek rfl rfl c_9
        refine lv_iconst (v := 1) hx hb dX2_canBe_62 (by decide) ?_
        exact W.zret (v := 1) (ty := .boolean) hx hb hr rfl (fun t ht hW => ⟨1, rfl, Or.inl ⟨rfl, (by (try dsimp only); rw [show (g 11 4).toInt.toNat = z4.toInt.toNat by omega]; exact hA)⟩, ht⟩) (fun q hq => by cases hq) dX2_canBe_63
      · skip
        have i_9 := ti_nlek rfl rfl c_9
        refine lv_iload hx hb dX2_canBe_12 (lv_at hl 4 rfl) ?_
        refine lv_bipush (v := 6) hx hb dX2_canBe_14 (by decide) ?_
        refine lv_icmp_ge (tgt := 62) hx hb dX2_canBe_16 (by decide) (fun c_16 => ?_) (fun c_16 => ?_)
        · skip
          have i_16 := ti_lek tk_6 rfl c_16
          refine lv_iconst (v := 1) hx hb dX2_canBe_62 (by decide) ?_
          exact W.zret (v := 1) (ty := .boolean) hx hb hr rfl (fun t ht hW => ⟨1, rfl, Or.inl ⟨rfl, (by (try dsimp only); rw [show (g 11 4).toInt.toNat = z4.toInt.toNat by omega]; exact hA)⟩, ht⟩) (fun q hq => by cases hq) dX2_canBe_63
        · skip
          have i_16 := ti_nlek tk_6 rfl c_16
          refine lv_aload_n hx hb dX2_canBe_19 rfl (lv_at hl 0 rfl) ?_
          refine va_get (D := zD Z) (ci := 2) (v := .ref (za Z 12)) (C := RX2) (T := TX2) (N := 5) hx hb hT inlX2 hown hK hP 11 xw_11 rfl 0 (by decide) (hT _ (tr_4 _ (List.mem_of_getElem? (i := 1) rfl))) (fun _ h9 => h9) rfl dX2_canBe_20 ?_
          refine lv_iload hx hb dX2_canBe_23 (lv_at hl 4 rfl) ?_
          have h_25 : vp_in z4 6 := (ti_vp (by omega) (by omega))
          refine va_iald hx hb hK hP 12 1 xw_12 rfl h_25 dX2_canBe_25 ?_
          refine lv_topi (fun v_25 e_25 => ?_)
          have e25 : v_25 = g 12 z4.toInt.toNat := e_25
          refine lv_iload_n hx hb dX2_canBe_26 rfl (lv_at hl 2 rfl) ?_
          refine lv_icmp_ne (tgt := 56) hx hb dX2_canBe_27 (by decide) (fun c_27 => ?_) (fun c_27 => ?_)
          · skip
            have i_27 := ti_nek rfl rfl c_27
            obtain ⟨v_56, e_56⟩ : ∃ y : Int32, y = z4 + 1 := ⟨_, rfl⟩
            refine lv_iinc (v := v_56) (lv' := [(4, .int v_56), (0, .ref (za Z 11)), (1, .int x1), (2, .int x2), (3, .ref a)]) hx hb dX2_canBe_56 hl (k := 4) rfl (by rw [e_56]; rfl) (by decide) rfl (fun ls hl => ?_)
            have t_56 := ti_addk rfl tk_1 (by omega) (by omega) e_56
            refine lv_goto (tgt := 3) hx hb dX2_canBe_59 (by decide) ?_
            exact ih3 v_56 (by omega) (by rw [show v_56.toInt.toNat = z4.toInt.toNat + 1 by omega]; exact okK_y hA (by unfold snB; rw [hx2, ← e25, decide_eq_false c_27]; rfl)) (by omega) ls (lv_sub hl [1, 2, 3, 4, 0] rfl)
          · skip
            have i_27 := ti_eqk rfl rfl c_27
            refine lv_aload_n hx hb dX2_canBe_30 rfl (lv_at hl 3 rfl) ?_
            refine lv_iload_n hx hb dX2_canBe_31 rfl (lv_at hl 1 rfl) ?_
            refine lv_aload_n hx hb dX2_canBe_32 rfl (lv_at hl 0 rfl) ?_
            refine va_get (D := zD Z) (ci := 2) (v := .ref (za Z 13)) (C := RX2) (T := TX2) (N := 5) hx hb hT inlX2 hown hK hP 11 xw_11 rfl 1 (by decide) (hT _ (tr_4 _ (List.mem_of_getElem? (i := 2) rfl))) (fun _ h9 => h9) rfl dX2_canBe_33 ?_
            refine lv_iload hx hb dX2_canBe_36 (lv_at hl 4 rfl) ?_
            have h_38 : vp_in z4 6 := (ti_vp (by omega) (by omega))
            refine va_iald hx hb hK hP 13 1 xw_13 rfl h_38 dX2_canBe_38 ?_
            refine lv_topi (fun v_38 e_38 => ?_)
            obtain ⟨k_39, hk_39⟩ := xt_at (g := g) (gl := gl) (tf := tf) ha
            refine rd_cl (va_runV (As := [.int x1, .int v_38]) (rest := []) ⟨hx, hb, hml, hown, hT⟩ (c_X3_priceAs l Z hZ g gl tf a ha x1 v_38 hG) (cwV 2 hT (tb_V (fun _ h => h) (tr_21 _ (List.mem_of_getElem? (i := 6) rfl)) (tr_21 _ (List.mem_of_getElem? (i := 7) rfl)) (tr_21 _ (List.mem_of_getElem? (i := 8) rfl)) (tr_2 _ (List.mem_of_getElem? (i := 10) rfl)) (tr_21 _ (List.mem_of_getElem? (i := 9) rfl))) rfl rfl rfl (by decide +kernel) ⟨Nat.le_of_ble_eq_true rfl, Nat.le_of_ble_eq_true rfl⟩) ⟨fun a U f mk q => ⟨q.1, XI.blind f mk a q.2⟩, va_recv hK hP (ci := 3) (q0 := k_39) rfl hk_39, fun U hU hW => ⟨rfl, hI.at hS hP hU hW⟩⟩ rfl rfl hl.1 rfl (lv_room (Nat.le_of_ble_eq_true rfl)) dX2_canBe_39 ⟨Nat.zero_le _, Nat.zero_le _⟩) (fun r_39 hr_39 => ?_)
            have q38 : v_38 = g 13 z4.toInt.toNat := e_38
            have hq38 := hsq z4.toInt.toNat (by omega)
            have pr39 : r_39 = mpF x1 (xr Z tf 2 x2.toInt.toNat) (xr Z tf 3 x2.toInt.toNat) (xr Z tf 4 x2.toInt.toNat) (g 13 z4.toInt.toNat) := by rw [hr_39 (by rw [q38]; exact hq38), q38, hrow]; rfl
            refine lv_aload_n hx hb dX2_canBe_42 rfl (lv_at hl 0 rfl) ?_
            refine va_get (D := zD Z) (ci := 2) (v := .ref (za Z 14)) (C := RX2) (T := TX2) (N := 5) hx hb hT inlX2 hown hK hP 11 xw_11 rfl 2 (by decide) (hT _ (tr_4 _ (List.mem_of_getElem? (i := 3) rfl))) (fun _ h9 => h9) rfl dX2_canBe_43 ?_
            refine lv_iload hx hb dX2_canBe_46 (lv_at hl 4 rfl) ?_
            have h_48 : vp_in z4 6 := (ti_vp (by omega) (by omega))
            refine va_iald hx hb hK hP 14 1 xw_14 rfl h_48 dX2_canBe_48 ?_
            refine lv_topi (fun v_48 e_48 => ?_)
            refine lv_i2l hx hb dX2_canBe_49 rfl ?_
            refine lv_topl (fun v_49 e_49 => ?_)
            have pr49 : v_49 = (g 14 z4.toInt.toNat).toInt64 := by rw [e_49, show v_48 = g 14 z4.toInt.toNat from e_48]
            refine W.lcmp hx hb dX2_canBe_50 ?_
            refine lv_topi (fun v_50 e_50 => ?_)
            refine lv_if_eq (tgt := 56) hx hb dX2_canBe_51 (by decide) (fun c_51 => ?_) (fun c_51 => ?_)
            · skip
              have i_51 := ti_eqk rfl tk_0 c_51
              obtain ⟨v_56, e_56⟩ : ∃ y : Int32, y = z4 + 1 := ⟨_, rfl⟩
              refine lv_iinc (v := v_56) (lv' := [(4, .int v_56), (0, .ref (za Z 11)), (1, .int x1), (2, .int x2), (3, .ref a)]) hx hb dX2_canBe_56 hl (k := 4) rfl (by rw [e_56]; rfl) (by decide) rfl (fun ls hl => ?_)
              have t_56 := ti_addk rfl tk_1 (by omega) (by omega) e_56
              refine lv_goto (tgt := 3) hx hb dX2_canBe_59 (by decide) ?_
              exact ih3 v_56 (by omega) (by rw [show v_56.toInt.toNat = z4.toInt.toNat + 1 by omega]; exact okK_y hA (by unfold snB; rw [decide_eq_true (show mpF x1 (xr Z tf 2 x2.toInt.toNat) (xr Z tf 3 x2.toInt.toNat) (xr Z tf 4 x2.toInt.toNat) (g 13 z4.toInt.toNat) = (g 14 z4.toInt.toNat).toInt64 from pr39.symm.trans ((lg_cmp_eq _ _).mp (by rw [← e_50]; exact c_51) |>.trans pr49)), Bool.or_true])) (by omega) ls (lv_sub hl [1, 2, 3, 4, 0] rfl)
            · skip
              have i_51 := ti_nek rfl tk_0 c_51
              refine lv_iconst (v := 0) hx hb dX2_canBe_54 (by decide) ?_
              exact W.zret (v := 0) (ty := .boolean) hx hb hr rfl (fun t ht hW => ⟨0, rfl, Or.inr ⟨rfl, (by (try dsimp only); have y := okK_no (f := (snB (xr Z tf) (g 12) (g 13) (g 14) x2.toInt.toNat x1)) (i := z4.toInt.toNat) (by unfold snB; rw [hx2, ← e25, decide_eq_true (show v_25 = x2 from c_27), decide_eq_false (fun z => c_51 (by rw [e_50]; exact (lg_cmp_eq _ _).mpr (pr39.trans (z.trans pr49.symm))))]; rfl) ((g 11 4).toInt.toNat - (z4.toInt.toNat + 1)); rw [show z4.toInt.toNat + 1 + ((g 11 4).toInt.toNat - (z4.toInt.toNat + 1)) = (g 11 4).toInt.toNat by omega] at y; exact y)⟩, ht⟩) (fun q hq => by cases hq) dX2_canBe_55
  refine lv_iconst (v := 0) hx hb dX2_canBe_0 (by decide) ?_
  refine lv_istore (lv' := [(4, .int 0), (0, .ref (za Z 11)), (1, .int x1), (2, .int x2), (3, .ref a)]) hx hb dX2_canBe_1 hl (by decide) rfl (fun ls hl => ?_)
  exact L3 _ 0 (by rw [tk_0]; omega) rfl (Nat.lt_succ_self _) ls (lv_sub hl [1, 2, 3, 4, 0] rfl)
set_option maxHeartbeats 4000000 in
set_option maxRecDepth 100000 in
theorem c_X2_sortsOf (l : Launch) (Z : ZT) (hZ : XG Z) (g : Nat → Nat → Int32) (gl : Nat → Nat → Int64) (tf : Nat → Nat → Int32) (x1 : Int32) (a : Nat) (ha : a ∈ zL Z) (hsz : 0 ≤ (g 11 4).toInt ∧ (g 11 4).toInt ≤ 6) (hsq : ∀ i : Nat, (i : Int) < (g 11 4).toInt → 0 ≤ (g 13 i).toInt ∧ (g 13 i).toInt ≤ 63) (h0 : 0 ≤ x1.toInt) (hrow : a = ro Z x1.toInt.toNat) (hG : Gd Z tf) : Met l yX2_sortsOf (Cond.code yX2_sortsOf cX2_sortsOf 5 (some .int) :: wsL_law) ({ frames := 4, cells := 0, slots := 0, locals := 89 } : Room) (va_Pc [.ref (za Z 11), .int x1, .ref a] (XI Z g gl tf)) (rd_Qi (fun r => r = srF (xr Z tf) (g 12) (g 13) (g 14) (g 11 4).toInt.toNat x1.toInt.toNat)) 0 0 (fun _ => False) := by
  refine Met.ofW (cc := cX2_sortsOf) (maxL := 5) (ret := (some .int)) (by decide) rfl ?_
  intro p e s m args below meth c s₁ B hml hv
  obtain ⟨rfl, hI⟩ := hv
  have hx := B.exec
  have hb := B.bytes
  have hr := B.returns
  have hT : ∀ w ∈ wsL_law, w.before ([.ref (za Z 11), .int x1, .ref a] : List Value).toArray s = true := fun w h => atoms_spec (ws := (Cond.code yX2_sortsOf cX2_sortsOf 5 (some .int) :: wsL_law)) B.pre w (List.mem_cons_of_mem _ h)
  have hown : s.vm.findClass RX2 = some m.cls := findClass_of_methodNamed B.named
  have hlocks := B.notSynchronized
  have hK := hI.2.1
  have hP := hI.1
  have hS : va_S (zA Z) s.heap s.heap [] := va_S.rf
  have hl := lv_entry ([.ref (za Z 11), .int x1, .ref a]) (n := 5) (Nat.le_of_ble_eq_true rfl)
  rw [lg_entry_eq]
  generalize (lg_sl ([.ref (za Z 11), .int x1, .ref a]) ++ List.replicate (5 - (lg_sl ([.ref (za Z 11), .int x1, .ref a])).length) Slot.unset).toArray = ls at hl ⊢
  have hl : lv_has ls 5 [(0, .ref (za Z 11)), (1, .int x1), (2, .ref a)] := hl
  have L5 : ∀ (n : Nat) (z3 : Int32) (z4 : Int32)  (h4 : 0 ≤ z4.toInt ∧ z4.toInt ≤ 5) (hA : z3 = sbF (fun k => okK (snB (xr Z tf) (g 12) (g 13) (g 14) x1.toInt.toNat (nI k)) (g 11 4).toInt.toNat) z4.toInt.toNat) (hn : (5 - z4.toInt).toNat < n) (ls : Array Slot) (hl : lv_has ls 5 [(0, .ref (za Z 11)), (1, .int x1), (2, .ref a), (3, .int z3), (4, .int z4)]), W p l e ({ frames := 4, cells := 0, slots := 0, locals := 89 } : Room) s m ([.ref (za Z 11), .int x1, .ref a] : List Value).toArray below meth c s.heap [] 0 0 (MQ below (rd_Qi (fun r => r = srF (xr Z tf) (g 12) (g 13) (g 14) (g 11 4).toInt.toNat x1.toInt.toNat)) ([.ref (za Z 11), .int x1, .ref a] : List Value).toArray s 0 0 (fun _ => False)) (F0 m 5 ls []) := by
    intro n
    induction n with
    | zero => intro z3 z4 h4 hA hn; exact absurd hn (Nat.not_lt_zero _)
    | succ n ih5 =>
      intro z3 z4 h4 hA hn ls hl
      refine lv_iload hx hb dX2_sortsOf_5 (lv_at hl 4 rfl) ?_
      refine lv_iconst (v := 5) hx hb dX2_sortsOf_7 (by decide) ?_
      refine lv_icmp_ge (tgt := 35) hx hb dX2_sortsOf_8 (by decide) (fun c_8 => ?_) (fun c_8 => ?_)
      · skip
        have i_8 := ti_lek tk_5 rfl c_8
        refine lv_iload_n hx hb dX2_sortsOf_35 rfl (lv_at hl 3 rfl) ?_
        exact W.iret (v := z3) hx hb hr (fun t ht hW => ⟨z3, rfl, (by (try dsimp only); rw [hA, show z4.toInt.toNat = 5 by omega]; rfl), ht⟩) (fun q hq => by cases hq) dX2_sortsOf_36
      · skip
        have i_8 := ti_nlek tk_5 rfl c_8
        have hz4 : z4 = nI z4.toInt.toNat := nI_ek (by omega)
        refine lv_aload_n hx hb dX2_sortsOf_11 rfl (lv_at hl 0 rfl) ?_
        refine lv_iload hx hb dX2_sortsOf_12 (lv_at hl 4 rfl) ?_
        refine lv_iload_n hx hb dX2_sortsOf_14 rfl (lv_at hl 1 rfl) ?_
        refine lv_aload_n hx hb dX2_sortsOf_15 rfl (lv_at hl 2 rfl) ?_
        refine rd_ci (va_runV (As := [.int z4, .int x1, .ref a]) (rest := []) ⟨hx, hb, hml, hown, hT⟩ (c_X2_canBe l Z hZ g gl tf z4 x1 a ha (by first | assumption | omega | decide) (by first | assumption | omega | decide) (by first | assumption | omega | decide) (by first | assumption | omega | decide) hG) (cwV 3 hT (tb_V (fun _ h => h) (tr_21 _ (List.mem_of_getElem? (i := 1) rfl)) (tr_21 _ (List.mem_of_getElem? (i := 2) rfl)) (tr_21 _ (List.mem_of_getElem? (i := 3) rfl)) (tr_2 _ (List.mem_of_getElem? (i := 2) rfl)) (tr_21 _ (List.mem_of_getElem? (i := 4) rfl))) rfl rfl rfl (by decide +kernel) ⟨Nat.le_of_ble_eq_true rfl, Nat.le_of_ble_eq_true rfl⟩) ⟨fun a U f mk q => ⟨q.1, XI.blind f mk a q.2⟩, va_recv hK hP (ci := 2) (q0 := 11) rfl xw_11, fun U hU hW => ⟨rfl, hI.at hS hP hU hW⟩⟩ rfl rfl hl.1 rfl (lv_room (Nat.le_of_ble_eq_true rfl)) dX2_sortsOf_16 ⟨Nat.zero_le _, Nat.zero_le _⟩) (fun r_16 hr_16 => ?_)
        rcases hr_16 with ⟨rfl, b_16⟩ | ⟨rfl, b_16⟩
        · skip
          refine lv_if_eq (tgt := 29) hx hb dX2_sortsOf_19 (by decide) (fun c_19 => absurd c_19 (by decide)) (fun c_19 => ?_)
          refine lv_iload_n hx hb dX2_sortsOf_22 rfl (lv_at hl 3 rfl) ?_
          refine lv_iconst (v := 1) hx hb dX2_sortsOf_23 (by decide) ?_
          refine lv_iload hx hb dX2_sortsOf_24 (lv_at hl 4 rfl) ?_
          refine lv_ishl hx hb dX2_sortsOf_26 ?_
          refine lv_topi (fun v_26 e_26 => ?_)
          refine lv_ior hx hb dX2_sortsOf_27 ?_
          refine lv_topi (fun v_27 e_27 => ?_)
          refine lv_istore_n (lv' := [(3, .int v_27), (0, .ref (za Z 11)), (1, .int x1), (2, .ref a), (4, .int z4)]) hx hb dX2_sortsOf_28 rfl hl (by decide) rfl (fun ls hl => ?_)
          obtain ⟨v_29, e_29⟩ : ∃ y : Int32, y = z4 + 1 := ⟨_, rfl⟩
          refine lv_iinc (v := v_29) (lv' := [(4, .int v_29), (3, .int v_27), (0, .ref (za Z 11)), (1, .int x1), (2, .ref a)]) hx hb dX2_sortsOf_29 hl (k := 4) rfl (by rw [e_29]; rfl) (by decide) rfl (fun ls hl => ?_)
          have t_29 := ti_addk rfl tk_1 (by omega) (by omega) e_29
          refine lv_goto (tgt := 5) hx hb dX2_sortsOf_32 (by decide) ?_
          exact ih5 v_27 v_29 (by omega) (by rw [show v_29.toInt.toNat = z4.toInt.toNat + 1 by omega, sbF_y (p := (fun k => okK (snB (xr Z tf) (g 12) (g 13) (g 14) x1.toInt.toNat (nI k)) (g 11 4).toInt.toNat)) (k := z4.toInt.toNat) (by show okK _ _ = true; rw [← hz4]; exact b_16), ← hA, e_27, e_26, ← hz4]) (by omega) ls (lv_sub hl [2, 3, 4, 1, 0] rfl)
        · skip
          refine lv_if_eq (tgt := 29) hx hb dX2_sortsOf_19 (by decide) (fun c_19 => ?_) (fun c_19 => absurd c_19 (by decide))
          obtain ⟨v_29, e_29⟩ : ∃ y : Int32, y = z4 + 1 := ⟨_, rfl⟩
          refine lv_iinc (v := v_29) (lv' := [(4, .int v_29), (0, .ref (za Z 11)), (1, .int x1), (2, .ref a), (3, .int z3)]) hx hb dX2_sortsOf_29 hl (k := 4) rfl (by rw [e_29]; rfl) (by decide) rfl (fun ls hl => ?_)
          have t_29 := ti_addk rfl tk_1 (by omega) (by omega) e_29
          refine lv_goto (tgt := 5) hx hb dX2_sortsOf_32 (by decide) ?_
          exact ih5 z3 v_29 (by omega) (by rw [show v_29.toInt.toNat = z4.toInt.toNat + 1 by omega, sbF_n (p := (fun k => okK (snB (xr Z tf) (g 12) (g 13) (g 14) x1.toInt.toNat (nI k)) (g 11 4).toInt.toNat)) (k := z4.toInt.toNat) (by show okK _ _ = false; rw [← hz4]; exact b_16)]; exact hA) (by omega) ls (lv_sub hl [1, 2, 3, 4, 0] rfl)
  refine lv_iconst (v := 0) hx hb dX2_sortsOf_0 (by decide) ?_
  refine lv_istore_n (lv' := [(3, .int 0), (0, .ref (za Z 11)), (1, .int x1), (2, .ref a)]) hx hb dX2_sortsOf_1 rfl hl (by decide) rfl (fun ls hl => ?_)
  refine lv_iconst (v := 0) hx hb dX2_sortsOf_2 (by decide) ?_
  refine lv_istore (lv' := [(4, .int 0), (3, .int 0), (0, .ref (za Z 11)), (1, .int x1), (2, .ref a)]) hx hb dX2_sortsOf_3 hl (by decide) rfl (fun ls hl => ?_)
  exact L5 _ 0 0 (by decide) rfl (Nat.lt_succ_self _) ls (lv_sub hl [2, 3, 4, 1, 0] rfl)
set_option maxHeartbeats 4000000 in
set_option maxRecDepth 100000 in
theorem c_X2_leftAtWorst (l : Launch) (Z : ZT) (hZ : XG Z) (g : Nat → Nat → Int32) (gl : Nat → Nat → Int64) (tf : Nat → Nat → Int32) (x1 : Int32) (a : Nat) (ha : a ∈ zL Z) (x2 : Int32) (hx2 : (0 ≤ x2.toInt ∧ x2.toInt ≤ 63)) (hG : Gd Z tf) : Met l yX2_leftAtWorst (Cond.code yX2_leftAtWorst cX2_leftAtWorst 8 (some .int) :: wsL_law) ({ frames := 3, cells := 0, slots := 0, locals := 65 } : Room) (va_Pc [.ref (za Z 11), .int x1, .ref a, .int x2] (XI Z g gl tf)) (va_Qi (fun (r : Int32) (u : (Nat → Nat → Int32) × (Nat → Nat → Int64) × (Nat → Nat → Int32)) => Fr [] g u.1 ∧ Gd Z u.2.2 ∧ tf = u.2.2 ∧ r.toInt = (lwF x1 (fun k => mpF (nI k) (tf a 1) (tf a 2) (tf a 3) x2) 5 : Int)) (fun u t => va_P (zD Z) vwCl (xw Z u.1 u.2.1 u.2.2) t.heap) (zA Z)) 0 0 (zA Z) := by
  refine Met.ofW (cc := cX2_leftAtWorst) (maxL := 8) (ret := (some .int)) (by decide) rfl ?_
  intro p e s m args below meth c s₁ B hml hv
  obtain ⟨rfl, hI⟩ := hv
  have hx := B.exec
  have hb := B.bytes
  have hr := B.returns
  have hT : ∀ w ∈ wsL_law, w.before ([.ref (za Z 11), .int x1, .ref a, .int x2] : List Value).toArray s = true := fun w h => atoms_spec (ws := (Cond.code yX2_leftAtWorst cX2_leftAtWorst 8 (some .int) :: wsL_law)) B.pre w (List.mem_cons_of_mem _ h)
  have hown : s.vm.findClass RX2 = some m.cls := findClass_of_methodNamed B.named
  have hlocks := B.notSynchronized
  have hK := hI.2.1
  have hP := hI.1
  have hS : va_S (zA Z) s.heap s.heap [] := va_S.rf
  have hF : Fr [] g g := Fr.rf
  have hl := lv_entry ([.ref (za Z 11), .int x1, .ref a, .int x2]) (n := 8) (Nat.le_of_ble_eq_true rfl)
  rw [lg_entry_eq]
  generalize (lg_sl ([.ref (za Z 11), .int x1, .ref a, .int x2]) ++ List.replicate (8 - (lg_sl ([.ref (za Z 11), .int x1, .ref a, .int x2])).length) Slot.unset).toArray = ls at hl ⊢
  have hl : lv_has ls 8 [(0, .ref (za Z 11)), (1, .int x1), (2, .ref a), (3, .int x2)] := hl
  have L6 : ∀ (n : Nat) (z4 : Int32) (z5 : Int32) (g1 : Nat → Nat → Int32) (gl1 : Nat → Nat → Int64) (H : Heap) (locs : List Loc) (hP : va_P (zD Z) vwCl (xw Z g1 gl1 tf) H) (hF : Fr [] g g1) (hG : Gd Z tf) (hS : va_S (zA Z) s.heap H locs) (h5 : 0 ≤ z5.toInt ∧ z5.toInt ≤ 5) (hQ : ∀ e : Nat, (e : Int) < z5.toInt → gl1 15 e = (fun k => mpF (nI k) (tf a 1) (tf a 2) (tf a 3) x2) e) (hM : z4.toInt = (lwF x1 (fun k => mpF (nI k) (tf a 1) (tf a 2) (tf a 3) x2) z5.toInt.toNat : Int)) (hn : (5 - z5.toInt).toNat < n) (ls : Array Slot) (hl : lv_has ls 8 [(0, .ref (za Z 11)), (1, .int x1), (2, .ref a), (3, .int x2), (4, .int z4), (5, .int z5)]), W p l e ({ frames := 3, cells := 0, slots := 0, locals := 65 } : Room) s m ([.ref (za Z 11), .int x1, .ref a, .int x2] : List Value).toArray below meth c H locs 0 0 (MQ below (va_Qi (fun (r : Int32) (u : (Nat → Nat → Int32) × (Nat → Nat → Int64) × (Nat → Nat → Int32)) => Fr [] g u.1 ∧ Gd Z u.2.2 ∧ tf = u.2.2 ∧ r.toInt = (lwF x1 (fun k => mpF (nI k) (tf a 1) (tf a 2) (tf a 3) x2) 5 : Int)) (fun u t => va_P (zD Z) vwCl (xw Z u.1 u.2.1 u.2.2) t.heap) (zA Z)) ([.ref (za Z 11), .int x1, .ref a, .int x2] : List Value).toArray s 0 0 (zA Z)) (F0 m 6 ls []) := by
    intro n
    induction n with
    | zero => intro z4 z5 g1 gl1 H locs hP hF hG hS h5 hQ hM hn; exact absurd hn (Nat.not_lt_zero _)
    | succ n ih6 =>
      intro z4 z5 g1 gl1 H locs hP hF hG hS h5 hQ hM hn ls hl
      have L32 : ∀ (n : Nat) (z6 : Int32) (z7 : Int32) (g1 : Nat → Nat → Int32) (gl1 : Nat → Nat → Int64) (H : Heap) (locs : List Loc) (hP : va_P (zD Z) vwCl (xw Z g1 gl1 tf) H) (hF : Fr [] g g1) (hG : Gd Z tf) (hS : va_S (zA Z) s.heap H locs) (h7 : 0 ≤ z7.toInt ∧ z7.toInt ≤ z5.toInt + 1) (h51 : 0 ≤ z5.toInt ∧ z5.toInt < 5) (hz5 : z5 = nI z5.toInt.toNat) (hM : z4.toInt = (lwF x1 (fun k => mpF (nI k) (tf a 1) (tf a 2) (tf a 3) x2) z5.toInt.toNat : Int)) (hQ2 : ∀ e : Nat, (e : Int) < z5.toInt + 1 → gl1 15 e = (fun k => mpF (nI k) (tf a 1) (tf a 2) (tf a 3) x2) e) (hN : z6.toInt = (cB (alB x1 (fun k => mpF (nI k) (tf a 1) (tf a 2) (tf a 3) x2) z5.toInt.toNat) z7.toInt.toNat : Int)) (hn : (6 - z7.toInt).toNat < n) (ls : Array Slot) (hl : lv_has ls 8 [(0, .ref (za Z 11)), (1, .int x1), (2, .ref a), (3, .int x2), (4, .int z4), (5, .int z5), (6, .int z6), (7, .int z7)]), W p l e ({ frames := 3, cells := 0, slots := 0, locals := 65 } : Room) s m ([.ref (za Z 11), .int x1, .ref a, .int x2] : List Value).toArray below meth c H locs 0 0 (MQ below (va_Qi (fun (r : Int32) (u : (Nat → Nat → Int32) × (Nat → Nat → Int64) × (Nat → Nat → Int32)) => Fr [] g u.1 ∧ Gd Z u.2.2 ∧ tf = u.2.2 ∧ r.toInt = (lwF x1 (fun k => mpF (nI k) (tf a 1) (tf a 2) (tf a 3) x2) 5 : Int)) (fun u t => va_P (zD Z) vwCl (xw Z u.1 u.2.1 u.2.2) t.heap) (zA Z)) ([.ref (za Z 11), .int x1, .ref a, .int x2] : List Value).toArray s 0 0 (zA Z)) (F0 m 32 ls []) := by
        intro n
        induction n with
        | zero => intro z6 z7 g1 gl1 H locs hP hF hG hS h7 h51 hz5 hM hQ2 hN hn; exact absurd hn (Nat.not_lt_zero _)
        | succ n ih32 =>
          intro z6 z7 g1 gl1 H locs hP hF hG hS h7 h51 hz5 hM hQ2 hN hn ls hl
          refine lv_iload hx hb dX2_leftAtWorst_32 (lv_at hl 7 rfl) ?_
          refine lv_iload hx hb dX2_leftAtWorst_34 (lv_at hl 5 rfl) ?_
          refine lv_icmp_gt (tgt := 76) hx hb dX2_leftAtWorst_36 (by decide) (fun c_36 => ?_) (fun c_36 => ?_)
          · skip
            have i_36 := ti_ltk rfl rfl c_36
            refine lv_iload_n hx hb dX2_leftAtWorst_76 rfl (lv_at hl 1 rfl) ?_
            refine lv_iload hx hb dX2_leftAtWorst_77 (lv_at hl 5 rfl) ?_
            refine lv_ishr hx hb dX2_leftAtWorst_79 ?_
            refine lv_topi (fun v_79 e_79 => ?_)
            refine lv_iconst (v := 1) hx hb dX2_leftAtWorst_80 (by decide) ?_
            refine lv_iand hx hb dX2_leftAtWorst_81 ?_
            refine lv_topi (fun v_81 e_81 => ?_)
            refine lv_iconst (v := 1) hx hb dX2_leftAtWorst_82 (by decide) ?_
            refine lv_icmp_ne (tgt := 95) hx hb dX2_leftAtWorst_83 (by decide) (fun c_83 => ?_) (fun c_83 => ?_)
            · skip
              have i_83 := ti_nek rfl tk_1 c_83
              obtain ⟨v_95, e_95⟩ : ∃ y : Int32, y = z5 + 1 := ⟨_, rfl⟩
              refine lv_iinc (v := v_95) (lv' := [(5, .int v_95), (0, .ref (za Z 11)), (1, .int x1), (2, .ref a), (3, .int x2), (4, .int z4), (6, .int z6), (7, .int z7)]) hx hb dX2_leftAtWorst_95 hl (k := 5) rfl (by rw [e_95]; rfl) (by decide) rfl (fun ls hl => ?_)
              have t_95 := ti_addk rfl tk_1 (by omega) (by omega) e_95
              refine lv_goto (tgt := 6) hx hb dX2_leftAtWorst_98 (by decide) ?_
              exact ih6 z4 v_95 g1 gl1 _ _ hP hF hG hS (by omega) (fun e he => hQ2 e (by omega)) (by rw [show v_95.toInt.toNat = z5.toInt.toNat + 1 by omega, lwF, if_neg (by unfold inB; rw [← hz5, ← e_79, ← e_81, decide_eq_false c_83]; decide)]; exact hM) (by omega) ls (lv_sub hl [1, 2, 3, 4, 5, 0] rfl)
            · skip
              have i_83 := ti_eqk rfl tk_1 c_83
              refine lv_iload hx hb dX2_leftAtWorst_86 (lv_at hl 4 rfl) ?_
              refine lv_iload hx hb dX2_leftAtWorst_88 (lv_at hl 6 rfl) ?_
              refine va_mmax hx hb (hml.trans hl.1.symm) hown (hT _ (tr_21 _ (List.mem_of_getElem? (i := 21) rfl))) (hT _ (tr_3 _ (List.mem_of_getElem? (i := 0) rfl))) (hT _ (tr_3 _ (List.mem_of_getElem? (i := 1) rfl))) (hT _ (tr_3 _ (List.mem_of_getElem? (i := 2) rfl))) (Nat.le_of_ble_eq_true rfl) (Nat.le_of_ble_eq_true rfl) (Nat.zero_le _) (Nat.zero_le _) dX2_leftAtWorst_90 ?_
              refine lv_topi (fun v_90 e_90 => ?_)
              refine lv_istore (lv' := [(4, .int v_90), (0, .ref (za Z 11)), (1, .int x1), (2, .ref a), (3, .int x2), (5, .int z5), (6, .int z6), (7, .int z7)]) hx hb dX2_leftAtWorst_93 hl (by decide) rfl (fun ls hl => ?_)
              obtain ⟨v_95, e_95⟩ : ∃ y : Int32, y = z5 + 1 := ⟨_, rfl⟩
              refine lv_iinc (v := v_95) (lv' := [(5, .int v_95), (4, .int v_90), (0, .ref (za Z 11)), (1, .int x1), (2, .ref a), (3, .int x2), (6, .int z6), (7, .int z7)]) hx hb dX2_leftAtWorst_95 hl (k := 5) rfl (by rw [e_95]; rfl) (by decide) rfl (fun ls hl => ?_)
              have t_95 := ti_addk rfl tk_1 (by omega) (by omega) e_95
              refine lv_goto (tgt := 6) hx hb dX2_leftAtWorst_98 (by decide) ?_
              exact ih6 v_90 v_95 g1 gl1 _ _ hP hF hG hS (by omega) (fun e he => hQ2 e (by omega)) (by rw [show v_95.toInt.toNat = z5.toInt.toNat + 1 by omega, lwF, if_pos (by unfold inB; rw [← hz5, ← e_79, ← e_81]; exact decide_eq_true c_83)]; have m90 : v_90.toInt = max z4.toInt z6.toInt := (by rw [e_90]; split <;> (rename_i z; first | (have y := ti_lt z; omega) | (have y := ti_nlt z; omega))); rw [show z7.toInt.toNat = z5.toInt.toNat + 1 by omega] at hN; omega) (by omega) ls (lv_sub hl [2, 3, 4, 5, 1, 0] rfl)
          · skip
            have i_36 := ti_nltk rfl rfl c_36
            have hz7 : z7 = nI z7.toInt.toNat := nI_ek (by omega)
            have cl7 := cB_le (alB x1 (fun k => mpF (nI k) (tf a 1) (tf a 2) (tf a 3) x2) z5.toInt.toNat) z7.toInt.toNat
            refine lv_iload_n hx hb dX2_leftAtWorst_39 rfl (lv_at hl 1 rfl) ?_
            refine lv_iload hx hb dX2_leftAtWorst_40 (lv_at hl 7 rfl) ?_
            refine lv_ishr hx hb dX2_leftAtWorst_42 ?_
            refine lv_topi (fun v_42 e_42 => ?_)
            refine lv_iconst (v := 1) hx hb dX2_leftAtWorst_43 (by decide) ?_
            refine lv_iand hx hb dX2_leftAtWorst_44 ?_
            refine lv_topi (fun v_44 e_44 => ?_)
            refine lv_iconst (v := 1) hx hb dX2_leftAtWorst_45 (by decide) ?_
            refine lv_icmp_ne (tgt := 70) hx hb dX2_leftAtWorst_46 (by decide) (fun c_46 => ?_) (fun c_46 => ?_)
            · skip
              have i_46 := ti_nek rfl tk_1 c_46
              obtain ⟨v_70, e_70⟩ : ∃ y : Int32, y = z7 + 1 := ⟨_, rfl⟩
              refine lv_iinc (v := v_70) (lv' := [(7, .int v_70), (0, .ref (za Z 11)), (1, .int x1), (2, .ref a), (3, .int x2), (4, .int z4), (5, .int z5), (6, .int z6)]) hx hb dX2_leftAtWorst_70 hl (k := 7) rfl (by rw [e_70]; rfl) (by decide) rfl (fun ls hl => ?_)
              have t_70 := ti_addk rfl tk_1 (by omega) (by omega) e_70
              refine lv_goto (tgt := 32) hx hb dX2_leftAtWorst_73 (by decide) ?_
              exact ih32 z6 v_70 g1 gl1 _ _ hP hF hG hS (by omega) (by first | assumption | omega | decide) (by first | assumption | omega | decide) (by first | assumption | omega | decide) hQ2 (by rw [show v_70.toInt.toNat = z7.toInt.toNat + 1 by omega, cB_n (p := alB x1 (fun k => mpF (nI k) (tf a 1) (tf a 2) (tf a 3) x2) z5.toInt.toNat) (n := z7.toInt.toNat) (by unfold alB inB; rw [← hz7, ← e_42, ← e_44, decide_eq_false c_46, Bool.false_and]; decide)]; exact hN) (by omega) ls (lv_sub hl [1, 2, 3, 4, 5, 6, 7, 0] rfl)
            · skip
              have i_46 := ti_eqk rfl tk_1 c_46
              refine lv_aload_n hx hb dX2_leftAtWorst_49 rfl (lv_at hl 0 rfl) ?_
              refine va_get (D := zD Z) (ci := 2) (v := .ref (za Z 15)) (C := RX2) (T := TX2) (N := 5) hx hb hT inlX2 hown hK hP 11 xw_11 rfl 3 (by decide) (hT _ (tr_4 _ (List.mem_of_getElem? (i := 5) rfl))) (fun _ h9 => h9) rfl dX2_leftAtWorst_50 ?_
              refine lv_iload hx hb dX2_leftAtWorst_53 (lv_at hl 7 rfl) ?_
              have h_55 : vp_in z7 5 := (ti_vp (by omega) (by omega))
              refine va_lald hx hb hK hP 15 2 xw_15 rfl h_55 dX2_leftAtWorst_55 ?_
              refine lv_topl (fun v_55 e_55 => ?_)
              refine lv_aload_n hx hb dX2_leftAtWorst_56 rfl (lv_at hl 0 rfl) ?_
              refine va_get (D := zD Z) (ci := 2) (v := .ref (za Z 15)) (C := RX2) (T := TX2) (N := 5) hx hb hT inlX2 hown hK hP 11 xw_11 rfl 3 (by decide) (hT _ (tr_4 _ (List.mem_of_getElem? (i := 5) rfl))) (fun _ h9 => h9) rfl dX2_leftAtWorst_57 ?_
              refine lv_iload hx hb dX2_leftAtWorst_60 (lv_at hl 5 rfl) ?_
              have h_62 : vp_in z5 5 := (ti_vp (by omega) (by omega))
              refine va_lald hx hb hK hP 15 2 xw_15 rfl h_62 dX2_leftAtWorst_62 ?_
              refine lv_topl (fun v_62 e_62 => ?_)
              have w55 : v_55 = gl1 15 z7.toInt.toNat := e_55
              have w62 : v_62 = gl1 15 z5.toInt.toNat := e_62
              refine W.lcmp hx hb dX2_leftAtWorst_63 ?_
              refine lv_topi (fun v_63 e_63 => ?_)
              refine lv_if_ne (tgt := 70) hx hb dX2_leftAtWorst_64 (by decide) (fun c_64 => ?_) (fun c_64 => ?_)
              · skip
                have i_64 := ti_nek rfl tk_0 c_64
                obtain ⟨v_70, e_70⟩ : ∃ y : Int32, y = z7 + 1 := ⟨_, rfl⟩
                refine lv_iinc (v := v_70) (lv' := [(7, .int v_70), (0, .ref (za Z 11)), (1, .int x1), (2, .ref a), (3, .int x2), (4, .int z4), (5, .int z5), (6, .int z6)]) hx hb dX2_leftAtWorst_70 hl (k := 7) rfl (by rw [e_70]; rfl) (by decide) rfl (fun ls hl => ?_)
                have t_70 := ti_addk rfl tk_1 (by omega) (by omega) e_70
                refine lv_goto (tgt := 32) hx hb dX2_leftAtWorst_73 (by decide) ?_
                exact ih32 z6 v_70 g1 gl1 _ _ hP hF hG hS (by omega) (by first | assumption | omega | decide) (by first | assumption | omega | decide) (by first | assumption | omega | decide) hQ2 (by rw [show v_70.toInt.toNat = z7.toInt.toNat + 1 by omega, cB_n (p := alB x1 (fun k => mpF (nI k) (tf a 1) (tf a 2) (tf a 3) x2) z5.toInt.toNat) (n := z7.toInt.toNat) (by unfold alB; rw [decide_eq_false (fun z => c_64 (by rw [e_63]; exact (lg_cmp_eq _ _).mpr (by rw [← hQ2 z7.toInt.toNat (by omega), ← hQ2 z5.toInt.toNat (by omega)] at z; exact w55.trans (z.trans w62.symm)))), Bool.and_false]; decide)]; exact hN) (by omega) ls (lv_sub hl [1, 2, 3, 4, 5, 6, 7, 0] rfl)
              · skip
                have i_64 := ti_eqk rfl tk_0 c_64
                obtain ⟨v_67, e_67⟩ : ∃ y : Int32, y = z6 + 1 := ⟨_, rfl⟩
                refine lv_iinc (v := v_67) (lv' := [(6, .int v_67), (0, .ref (za Z 11)), (1, .int x1), (2, .ref a), (3, .int x2), (4, .int z4), (5, .int z5), (7, .int z7)]) hx hb dX2_leftAtWorst_67 hl (k := 6) rfl (by rw [e_67]; rfl) (by decide) rfl (fun ls hl => ?_)
                have t_67 := ti_addk rfl tk_1 (by omega) (by omega) e_67
                obtain ⟨v_70, e_70⟩ : ∃ y : Int32, y = z7 + 1 := ⟨_, rfl⟩
                refine lv_iinc (v := v_70) (lv' := [(7, .int v_70), (6, .int v_67), (0, .ref (za Z 11)), (1, .int x1), (2, .ref a), (3, .int x2), (4, .int z4), (5, .int z5)]) hx hb dX2_leftAtWorst_70 hl (k := 7) rfl (by rw [e_70]; rfl) (by decide) rfl (fun ls hl => ?_)
                have t_70 := ti_addk rfl tk_1 (by omega) (by omega) e_70
                refine lv_goto (tgt := 32) hx hb dX2_leftAtWorst_73 (by decide) ?_
                exact ih32 v_67 v_70 g1 gl1 _ _ hP hF hG hS (by omega) (by first | assumption | omega | decide) (by first | assumption | omega | decide) (by first | assumption | omega | decide) hQ2 (by rw [show v_70.toInt.toNat = z7.toInt.toNat + 1 by omega, cB_y (p := alB x1 (fun k => mpF (nI k) (tf a 1) (tf a 2) (tf a 3) x2) z5.toInt.toNat) (n := z7.toInt.toNat) (by unfold alB inB; rw [← hz7, ← e_42, ← e_44, decide_eq_true c_46, Bool.true_and]; exact decide_eq_true (by rw [← hQ2 z7.toInt.toNat (by omega), ← hQ2 z5.toInt.toNat (by omega)]; exact w55.symm.trans (((lg_cmp_eq _ _).mp (by rw [← e_63]; exact c_64)).trans w62)))]; omega) (by omega) ls (lv_sub hl [2, 3, 4, 5, 6, 7, 1, 0] rfl)
      refine lv_iload hx hb dX2_leftAtWorst_6 (lv_at hl 5 rfl) ?_
      refine lv_iconst (v := 5) hx hb dX2_leftAtWorst_8 (by decide) ?_
      refine lv_icmp_ge (tgt := 101) hx hb dX2_leftAtWorst_9 (by decide) (fun c_9 => ?_) (fun c_9 => ?_)
      · skip
        have i_9 := ti_lek tk_5 rfl c_9
        refine lv_iload hx hb dX2_leftAtWorst_101 (lv_at hl 4 rfl) ?_
        exact W.iret (v := z4) hx hb hr (fun t ht hW => ⟨⟨z4, (g1, gl1, tf), rfl, ⟨hF, hG, rfl, (by (try dsimp only); rw [hM, show z5.toInt.toNat = 5 by omega])⟩, by show va_P (zD Z) vwCl (xw Z g1 gl1 tf) t.heap; rw [ht]; exact hP⟩, hS.F ht⟩) hS.2.2 dX2_leftAtWorst_103
      · skip
        have i_9 := ti_nlek tk_5 rfl c_9
        have hz5 : z5 = nI z5.toInt.toNat := nI_ek (by omega)
        refine lv_aload_n hx hb dX2_leftAtWorst_12 rfl (lv_at hl 0 rfl) ?_
        refine va_get (D := zD Z) (ci := 2) (v := .ref (za Z 15)) (C := RX2) (T := TX2) (N := 5) hx hb hT inlX2 hown hK hP 11 xw_11 rfl 3 (by decide) (hT _ (tr_4 _ (List.mem_of_getElem? (i := 5) rfl))) (fun _ h9 => h9) rfl dX2_leftAtWorst_13 ?_
        refine lv_iload hx hb dX2_leftAtWorst_16 (lv_at hl 5 rfl) ?_
        refine lv_aload_n hx hb dX2_leftAtWorst_18 rfl (lv_at hl 2 rfl) ?_
        refine lv_iload hx hb dX2_leftAtWorst_19 (lv_at hl 5 rfl) ?_
        refine lv_iload_n hx hb dX2_leftAtWorst_21 rfl (lv_at hl 3 rfl) ?_
        obtain ⟨k_22, hk_22⟩ := xt_at (g := g1) (gl := gl1) (tf := tf) ha
        refine rd_cl (va_runV (As := [.int z5, .int x2]) (rest := [.int z5, .ref (za Z 15)]) ⟨hx, hb, hml, hown, hT⟩ (c_X3_priceAs l Z hZ g1 gl1 tf a ha z5 x2 hG) (cwV 2 hT (tb_V (fun _ h => h) (tr_21 _ (List.mem_of_getElem? (i := 6) rfl)) (tr_21 _ (List.mem_of_getElem? (i := 7) rfl)) (tr_21 _ (List.mem_of_getElem? (i := 8) rfl)) (tr_2 _ (List.mem_of_getElem? (i := 10) rfl)) (tr_21 _ (List.mem_of_getElem? (i := 9) rfl))) rfl rfl rfl (by decide +kernel) ⟨Nat.le_of_ble_eq_true rfl, Nat.le_of_ble_eq_true rfl⟩) ⟨fun a U f mk q => ⟨q.1, XI.blind f mk a q.2⟩, va_recv hK hP (ci := 3) (q0 := k_22) rfl hk_22, fun U hU hW => ⟨rfl, hI.at hS hP hU hW⟩⟩ rfl rfl hl.1 rfl (lv_room (Nat.le_of_ble_eq_true rfl)) dX2_leftAtWorst_22 ⟨Nat.zero_le _, Nat.zero_le _⟩) (fun r_22 hr_22 => ?_)
        have h_25 : vp_in z5 5 := (ti_vp (by omega) (by omega))
        refine va_last hx hb hK hP hZ.D hS 15 2 xw_15 rfl h_25 dX2_leftAtWorst_25 (fun H locs hP _ hS => ?_)
        replace hP := xs_15 hP
        refine lv_iconst (v := 0) hx hb dX2_leftAtWorst_26 (by decide) ?_
        refine lv_istore (lv' := [(6, .int 0), (0, .ref (za Z 11)), (1, .int x1), (2, .ref a), (3, .int x2), (4, .int z4), (5, .int z5)]) hx hb dX2_leftAtWorst_27 hl (by decide) rfl (fun ls hl => ?_)
        refine lv_iconst (v := 0) hx hb dX2_leftAtWorst_29 (by decide) ?_
        refine lv_istore (lv' := [(7, .int 0), (6, .int 0), (0, .ref (za Z 11)), (1, .int x1), (2, .ref a), (3, .int x2), (4, .int z4), (5, .int z5)]) hx hb dX2_leftAtWorst_30 hl (by decide) rfl (fun ls hl => ?_)
        exact L32 _ 0 0 g1 (upL gl1 15 (vp_updL (gl1 15) z5.toNatClampNeg r_22)) _ _ hP hF hG hS (by rw [tk_0]; omega) (by first | assumption | omega | decide) (by first | assumption | omega | decide) (by first | assumption | omega | decide) (fun e he => by show vp_updL (gl1 15) z5.toNatClampNeg r_22 e = _; by_cases y : e = z5.toNatClampNeg; (rw [y, pk_uLs, hr_22 hx2]; show mpF z5 _ _ _ _ = mpF (nI z5.toInt.toNat) _ _ _ _; rw [← hz5]); rw [pk_uLn y]; exact hQ e (by have y2 : ¬ (e : Int) = z5.toInt := (fun y3 => y (ti_clamp y3.symm).symm); omega)) (by rw [tk_0]; rfl) (Nat.lt_succ_self _) ls (lv_sub hl [2, 3, 4, 5, 6, 7, 1, 0] rfl)
  refine lv_iconst (v := 0) hx hb dX2_leftAtWorst_0 (by decide) ?_
  refine lv_istore (lv' := [(4, .int 0), (0, .ref (za Z 11)), (1, .int x1), (2, .ref a), (3, .int x2)]) hx hb dX2_leftAtWorst_1 hl (by decide) rfl (fun ls hl => ?_)
  refine lv_iconst (v := 0) hx hb dX2_leftAtWorst_3 (by decide) ?_
  refine lv_istore (lv' := [(5, .int 0), (4, .int 0), (0, .ref (za Z 11)), (1, .int x1), (2, .ref a), (3, .int x2)]) hx hb dX2_leftAtWorst_4 hl (by decide) rfl (fun ls hl => ?_)
  exact L6 _ 0 0 g gl _ _ hP hF hG hS (by decide) (fun e he => by rw [tk_0] at he; omega) (by rw [tk_0]; rfl) (Nat.lt_succ_self _) ls (lv_sub hl [2, 3, 4, 5, 1, 0] rfl)
set_option maxHeartbeats 4000000 in
set_option maxRecDepth 100000 in
theorem c_X2_nextToAsk (l : Launch) (Z : ZT) (hZ : XG Z) (g : Nat → Nat → Int32) (gl : Nat → Nat → Int64) (tf : Nat → Nat → Int32) (x1 : Int32) (a : Nat) (ha : a ∈ zL Z) (hsz : 0 ≤ (g 11 4).toInt ∧ (g 11 4).toInt ≤ 6) (hsq : ∀ i : Nat, (i : Int) < (g 11 4).toInt → 0 ≤ (g 13 i).toInt ∧ (g 13 i).toInt ≤ 63) (h0 : 0 ≤ x1.toInt) (hrow : a = ro Z x1.toInt.toNat) (hG : Gd Z tf) : Met l yX2_nextToAsk (Cond.code yX2_nextToAsk cX2_nextToAsk 8 (some .int) :: wsL_law) ({ frames := 5, cells := 0, slots := 0, locals := 113 } : Room) (va_Pc [.ref (za Z 11), .int x1, .ref a] (XI Z g gl tf)) (va_Qi (fun (r : Int32) (u : (Nat → Nat → Int32) × (Nat → Nat → Int64) × (Nat → Nat → Int32)) => Fr [] g u.1 ∧ Gd Z u.2.2 ∧ tf = u.2.2 ∧ r = asF (xr Z tf) (srF (xr Z tf) (g 12) (g 13) (g 14) (g 11 4).toInt.toNat x1.toInt.toNat) x1.toInt.toNat) (fun u t => va_P (zD Z) vwCl (xw Z u.1 u.2.1 u.2.2) t.heap) (zA Z)) 0 0 (zA Z) := by
  refine Met.ofW (cc := cX2_nextToAsk) (maxL := 8) (ret := (some .int)) (by decide) rfl ?_
  intro p e s m args below meth c s₁ B hml hv
  obtain ⟨rfl, hI⟩ := hv
  have hx := B.exec
  have hb := B.bytes
  have hr := B.returns
  have hT : ∀ w ∈ wsL_law, w.before ([.ref (za Z 11), .int x1, .ref a] : List Value).toArray s = true := fun w h => atoms_spec (ws := (Cond.code yX2_nextToAsk cX2_nextToAsk 8 (some .int) :: wsL_law)) B.pre w (List.mem_cons_of_mem _ h)
  have hown : s.vm.findClass RX2 = some m.cls := findClass_of_methodNamed B.named
  have hlocks := B.notSynchronized
  have hK := hI.2.1
  have hP := hI.1
  have hS : va_S (zA Z) s.heap s.heap [] := va_S.rf
  have hF : Fr [] g g := Fr.rf
  have fa : (tf a 3).toInt = (xr Z tf 4 x1.toInt.toNat).toInt := by rw [hrow]; rfl
  have la : (tf a 4).toInt = (xr Z tf 5 x1.toInt.toNat).toInt := by rw [hrow]; rfl
  have ga := hG a ha
  have hl := lv_entry ([.ref (za Z 11), .int x1, .ref a]) (n := 8) (Nat.le_of_ble_eq_true rfl)
  rw [lg_entry_eq]
  generalize (lg_sl ([.ref (za Z 11), .int x1, .ref a]) ++ List.replicate (8 - (lg_sl ([.ref (za Z 11), .int x1, .ref a])).length) Slot.unset).toArray = ls at hl ⊢
  have hl : lv_has ls 8 [(0, .ref (za Z 11)), (1, .int x1), (2, .ref a)] := hl
  have L20 : ∀ (n : Nat) (z3 : Int32) (z4 : Int32) (z5 : Int32) (z6 : Int32) (g1 : Nat → Nat → Int32) (gl1 : Nat → Nat → Int64) (H : Heap) (locs : List Loc) (hP : va_P (zD Z) vwCl (xw Z g1 gl1 tf) H) (hF : Fr [] g g1) (hG : Gd Z tf) (hS : va_S (zA Z) s.heap H locs) (hz3 : z3 = (srF (xr Z tf) (g 12) (g 13) (g 14) (g 11 4).toInt.toNat x1.toInt.toNat)) (h6 : (xr Z tf 4 x1.toInt.toNat).toInt ≤ z6.toInt ∧ z6.toInt ≤ 64) (h5 : 0 ≤ z5.toInt) (hAk : akL (fun q => lwF (srF (xr Z tf) (g 12) (g 13) (g 14) (g 11 4).toInt.toNat x1.toInt.toNat) (pkF (xr Z tf) x1.toInt.toNat q) 5) (xr Z tf 4 x1.toInt.toNat).toInt.toNat 6 (z6.toInt - (xr Z tf 4 x1.toInt.toNat).toInt).toNat = (z4, z5.toInt.toNat)) (hL : z6.toInt = (xr Z tf 4 x1.toInt.toNat).toInt ∨ (z6.toInt ≤ (xr Z tf 5 x1.toInt.toNat).toInt + 1 ∧ ¬ z3 = 0)) (hn : (64 - z6.toInt).toNat < n) (ls : Array Slot) (hl : lv_has ls 8 [(0, .ref (za Z 11)), (1, .int x1), (2, .ref a), (3, .int z3), (4, .int z4), (5, .int z5), (6, .int z6)]), W p l e ({ frames := 5, cells := 0, slots := 0, locals := 113 } : Room) s m ([.ref (za Z 11), .int x1, .ref a] : List Value).toArray below meth c H locs 0 0 (MQ below (va_Qi (fun (r : Int32) (u : (Nat → Nat → Int32) × (Nat → Nat → Int64) × (Nat → Nat → Int32)) => Fr [] g u.1 ∧ Gd Z u.2.2 ∧ tf = u.2.2 ∧ r = asF (xr Z tf) (srF (xr Z tf) (g 12) (g 13) (g 14) (g 11 4).toInt.toNat x1.toInt.toNat) x1.toInt.toNat) (fun u t => va_P (zD Z) vwCl (xw Z u.1 u.2.1 u.2.2) t.heap) (zA Z)) ([.ref (za Z 11), .int x1, .ref a] : List Value).toArray s 0 0 (zA Z)) (F0 m 20 ls []) := by
    intro n
    induction n with
    | zero => intro z3 z4 z5 z6 g1 gl1 H locs hP hF hG hS hz3 h6 h5 hAk hL hn; exact absurd hn (Nat.not_lt_zero _)
    | succ n ih20 =>
      intro z3 z4 z5 z6 g1 gl1 H locs hP hF hG hS hz3 h6 h5 hAk hL hn ls hl
      refine lv_iload_n hx hb dX2_nextToAsk_20 rfl (lv_at hl 3 rfl) ?_
      refine lv_if_eq (tgt := 64) hx hb dX2_nextToAsk_21 (by decide) (fun c_21 => ?_) (fun c_21 => ?_)
      · skip
        have i_21 := ti_eqk rfl tk_0 c_21
        refine lv_iload hx hb dX2_nextToAsk_64 (lv_at hl 4 rfl) ?_
        exact W.iret (v := z4) hx hb hr (fun t ht hW => ⟨⟨z4, (g1, gl1, tf), rfl, ⟨hF, hG, rfl, (by (try dsimp only); unfold asF; by_cases y : (srF (xr Z tf) (g 12) (g 13) (g 14) (g 11 4).toInt.toNat x1.toInt.toNat) = 0; (rw [if_pos y]; have y2 : z6.toInt = (xr Z tf 4 x1.toInt.toNat).toInt := (by rcases hL with w | w; exact w; exact absurd (hz3.trans y) w.2); rw [y2, show ((xr Z tf 4 x1.toInt.toNat).toInt - (xr Z tf 4 x1.toInt.toNat).toInt).toNat = 0 by omega] at hAk; exact (congrArg Prod.fst hAk).symm); rw [if_neg y]; have y3 : ((xr Z tf 5 x1.toInt.toNat).toInt + 1 - (xr Z tf 4 x1.toInt.toNat).toInt).toNat = (z6.toInt - (xr Z tf 4 x1.toInt.toNat).toInt).toNat := (by first | omega | (exfalso; exact y (hz3.symm.trans c_21))); rw [y3, hAk])⟩, by show va_P (zD Z) vwCl (xw Z g1 gl1 tf) t.heap; rw [ht]; exact hP⟩, hS.F ht⟩) hS.2.2 dX2_nextToAsk_66
      · skip
        have i_21 := ti_nek rfl tk_0 c_21
        refine lv_iload hx hb dX2_nextToAsk_24 (lv_at hl 6 rfl) ?_
        refine lv_aload_n hx hb dX2_nextToAsk_26 rfl (lv_at hl 2 rfl) ?_
        obtain ⟨k_27, hk_27⟩ := xt_at (g := g1) (gl := gl1) (tf := tf) ha
        refine va_get (D := zD Z) (ci := 3) (v := .int (tf a 4)) (C := RX3) (T := TX3) (N := 5) hx hb hT inlX3 hown hK hP k_27 hk_27 rfl 4 (by decide) (hT _ (tr_21 _ (List.mem_of_getElem? (i := 15) rfl))) (fun _ h9 => h9) rfl dX2_nextToAsk_27 ?_
        refine lv_icmp_gt (tgt := 64) hx hb dX2_nextToAsk_30 (by decide) (fun c_30 => ?_) (fun c_30 => ?_)
        · skip
          have i_30 := ti_ltk rfl rfl c_30
          refine lv_iload hx hb dX2_nextToAsk_64 (lv_at hl 4 rfl) ?_
          exact W.iret (v := z4) hx hb hr (fun t ht hW => ⟨⟨z4, (g1, gl1, tf), rfl, ⟨hF, hG, rfl, (by (try dsimp only); unfold asF; by_cases y : (srF (xr Z tf) (g 12) (g 13) (g 14) (g 11 4).toInt.toNat x1.toInt.toNat) = 0; (rw [if_pos y]; have y2 : z6.toInt = (xr Z tf 4 x1.toInt.toNat).toInt := (by rcases hL with w | w; exact w; exact absurd (hz3.trans y) w.2); rw [y2, show ((xr Z tf 4 x1.toInt.toNat).toInt - (xr Z tf 4 x1.toInt.toNat).toInt).toNat = 0 by omega] at hAk; exact (congrArg Prod.fst hAk).symm); rw [if_neg y]; have y3 : ((xr Z tf 5 x1.toInt.toNat).toInt + 1 - (xr Z tf 4 x1.toInt.toNat).toInt).toNat = (z6.toInt - (xr Z tf 4 x1.toInt.toNat).toInt).toNat := (by first | omega | (exfalso; exact y (hz3.symm.trans c_21))); rw [y3, hAk])⟩, by show va_P (zD Z) vwCl (xw Z g1 gl1 tf) t.heap; rw [ht]; exact hP⟩, hS.F ht⟩) hS.2.2 dX2_nextToAsk_66
        · skip
          have i_30 := ti_nltk rfl rfl c_30
          have hz6 : z6 = nI z6.toInt.toNat := nI_ek (by omega)
          refine lv_aload_n hx hb dX2_nextToAsk_33 rfl (lv_at hl 0 rfl) ?_
          refine lv_iload_n hx hb dX2_nextToAsk_34 rfl (lv_at hl 3 rfl) ?_
          refine lv_aload_n hx hb dX2_nextToAsk_35 rfl (lv_at hl 2 rfl) ?_
          refine lv_iload hx hb dX2_nextToAsk_36 (lv_at hl 6 rfl) ?_
          refine va_calli (va_runV (As := [.int z3, .ref a, .int z6]) (rest := []) ⟨hx, hb, hml, hown, hT⟩ (c_X2_leftAtWorst l Z hZ g1 gl1 tf z3 a ha z6 (by omega) hG) (cwV 3 hT (tb_V (fun _ h => h) (tr_21 _ (List.mem_of_getElem? (i := 17) rfl)) (tr_21 _ (List.mem_of_getElem? (i := 18) rfl)) (tr_21 _ (List.mem_of_getElem? (i := 19) rfl)) (tr_2 _ (List.mem_of_getElem? (i := 2) rfl)) (tr_21 _ (List.mem_of_getElem? (i := 20) rfl))) rfl rfl rfl (by decide +kernel) ⟨Nat.le_of_ble_eq_true rfl, Nat.le_of_ble_eq_true rfl⟩) ⟨fun a U f mk q => ⟨q.1, XI.blind f mk a q.2⟩, va_recv hK hP (ci := 2) (q0 := 11) rfl xw_11, fun U hU hW => ⟨rfl, hI.at hS hP hU hW⟩⟩ rfl rfl hl.1 rfl (lv_room (Nat.le_of_ble_eq_true rfl)) dX2_nextToAsk_38 ⟨Nat.zero_le _, Nat.zero_le _⟩) hS (fun q _ h => h) (fun q h => h) (fun r_38 u_38 t_38 H locs ht_38 _ hw_38 hB_38 _ _ hS => ?_)
          obtain ⟨g_38, gl_38, tf_38⟩ := u_38
          have hP : va_P (zD Z) vwCl (xw Z g_38 gl_38 tf_38) H := ht_38 ▸ hB_38
          obtain ⟨hf_38, hG, et_38, hr_38⟩ := hw_38
          have hF := hF.tr hf_38 (by decide)
          (try dsimp only at hf_38 hG hF et_38 hr_38)
          subst et_38
          refine lv_istore (lv' := [(7, .int r_38), (0, .ref (za Z 11)), (1, .int x1), (2, .ref a), (3, .int z3), (4, .int z4), (5, .int z5), (6, .int z6)]) hx hb dX2_nextToAsk_41 hl (by decide) rfl (fun ls hl => ?_)
          refine lv_iload hx hb dX2_nextToAsk_43 (lv_at hl 0 rfl) ?_
          refine lv_iload hx hb dX2_nextToAsk_45 (lv_at hl 6 rfl) ?_
          refine lv_icmp_ge (tgt := 58) hx hb dX2_nextToAsk_47 (by decide) (fun c_47 => ?_) (fun c_47 => ?_)
          · skip
            have i_47 := ti_lek rfl rfl c_47
            obtain ⟨v_58, e_58⟩ : ∃ y : Int32, y = z6 + 1 := ⟨_, rfl⟩
            refine lv_iinc (v := v_58) (lv' := [(6, .int v_58), (7, .int r_38), (0, .ref (za Z 11)), (1, .int x1), (2, .ref a), (3, .int z3), (4, .int z4), (5, .int z5)]) hx hb dX2_nextToAsk_58 hl (k := 7) rfl (by rw [e_58]; rfl) (by decide) rfl (fun ls hl => ?_)
            have t_58 := ti_addk rfl tk_1 (by omega) (by omega) e_58
            refine lv_goto (tgt := 20) hx hb dX2_nextToAsk_61 (by decide) ?_
            exact ih20 z3 z4 z5 v_58 g_38 gl_38 _ _ hP hF hG hS hz3 (by omega) (by omega) (by have w38 : lwF (srF (xr Z tf) (g 12) (g 13) (g 14) (g 11 4).toInt.toNat x1.toInt.toNat) (pkF (xr Z tf) x1.toInt.toNat ((xr Z tf 4 x1.toInt.toNat).toInt.toNat + (z6.toInt - (xr Z tf 4 x1.toInt.toNat).toInt).toNat)) 5 = r_38.toInt.toNat := (by rw [show (xr Z tf 4 x1.toInt.toNat).toInt.toNat + (z6.toInt - (xr Z tf 4 x1.toInt.toNat).toInt).toNat = z6.toInt.toNat by omega]; rw [show pkF (xr Z tf) x1.toInt.toNat z6.toInt.toNat = (fun k => mpF (nI k) (tf a 1) (tf a 2) (tf a 3) z6) from funext (fun k => by unfold pkF; rw [← hz6, hrow]; rfl), ← hz3]; omega); rw [show (v_58.toInt - (xr Z tf 4 x1.toInt.toNat).toInt).toNat = (z6.toInt - (xr Z tf 4 x1.toInt.toNat).toInt).toNat + 1 by omega, ak_n (by rw [hAk, w38]; show ¬ r_38.toInt.toNat < z5.toInt.toNat; omega)]; exact hAk) (Or.inr ⟨by omega, c_21⟩) (by omega) ls (lv_sub hl [2, 3, 4, 5, 6, 7, 0] rfl)
          · skip
            have i_47 := ti_nlek rfl rfl c_47
            refine lv_iload hx hb dX2_nextToAsk_50 (lv_at hl 0 rfl) ?_
            refine lv_istore (lv' := [(5, .int r_38), (7, .int r_38), (0, .ref (za Z 11)), (1, .int x1), (2, .ref a), (3, .int z3), (4, .int z4), (6, .int z6)]) hx hb dX2_nextToAsk_52 hl (by decide) rfl (fun ls hl => ?_)
            refine lv_iload hx hb dX2_nextToAsk_54 (lv_at hl 7 rfl) ?_
            refine lv_istore (lv' := [(4, .int z6), (5, .int r_38), (7, .int r_38), (0, .ref (za Z 11)), (1, .int x1), (2, .ref a), (3, .int z3), (6, .int z6)]) hx hb dX2_nextToAsk_56 hl (by decide) rfl (fun ls hl => ?_)
            obtain ⟨v_58, e_58⟩ : ∃ y : Int32, y = z6 + 1 := ⟨_, rfl⟩
            refine lv_iinc (v := v_58) (lv' := [(6, .int v_58), (4, .int z6), (5, .int r_38), (7, .int r_38), (0, .ref (za Z 11)), (1, .int x1), (2, .ref a), (3, .int z3)]) hx hb dX2_nextToAsk_58 hl (k := 7) rfl (by rw [e_58]; rfl) (by decide) rfl (fun ls hl => ?_)
            have t_58 := ti_addk rfl tk_1 (by omega) (by omega) e_58
            refine lv_goto (tgt := 20) hx hb dX2_nextToAsk_61 (by decide) ?_
            exact ih20 z3 z6 r_38 v_58 g_38 gl_38 _ _ hP hF hG hS hz3 (by omega) (by omega) (by have w38 : lwF (srF (xr Z tf) (g 12) (g 13) (g 14) (g 11 4).toInt.toNat x1.toInt.toNat) (pkF (xr Z tf) x1.toInt.toNat ((xr Z tf 4 x1.toInt.toNat).toInt.toNat + (z6.toInt - (xr Z tf 4 x1.toInt.toNat).toInt).toNat)) 5 = r_38.toInt.toNat := (by rw [show (xr Z tf 4 x1.toInt.toNat).toInt.toNat + (z6.toInt - (xr Z tf 4 x1.toInt.toNat).toInt).toNat = z6.toInt.toNat by omega]; rw [show pkF (xr Z tf) x1.toInt.toNat z6.toInt.toNat = (fun k => mpF (nI k) (tf a 1) (tf a 2) (tf a 3) z6) from funext (fun k => by unfold pkF; rw [← hz6, hrow]; rfl), ← hz3]; omega); rw [show (v_58.toInt - (xr Z tf 4 x1.toInt.toNat).toInt).toNat = (z6.toInt - (xr Z tf 4 x1.toInt.toNat).toInt).toNat + 1 by omega, ak_y (by rw [hAk, w38]; show r_38.toInt.toNat < z5.toInt.toNat; omega), w38, show (xr Z tf 4 x1.toInt.toNat).toInt.toNat + (z6.toInt - (xr Z tf 4 x1.toInt.toNat).toInt).toNat = z6.toInt.toNat by omega, ← hz6]) (Or.inr ⟨by omega, c_21⟩) (by omega) ls (lv_sub hl [4, 5, 6, 7, 1, 2, 0] rfl)
  refine lv_aload_n hx hb dX2_nextToAsk_0 rfl (lv_at hl 0 rfl) ?_
  refine lv_iload_n hx hb dX2_nextToAsk_1 rfl (lv_at hl 1 rfl) ?_
  refine lv_aload_n hx hb dX2_nextToAsk_2 rfl (lv_at hl 2 rfl) ?_
  refine rd_ci (va_runV (As := [.int x1, .ref a]) (rest := []) ⟨hx, hb, hml, hown, hT⟩ (c_X2_sortsOf l Z hZ g gl tf x1 a ha (by first | assumption | omega | decide) (by first | assumption | omega | decide) (by first | assumption | omega | decide) (by first | assumption | omega | decide) hG) (cwV 2 hT (tb_V (fun _ h => h) (tr_21 _ (List.mem_of_getElem? (i := 16) rfl)) (tr_20 _ (List.mem_of_getElem? (i := 22) rfl)) (tr_20 _ (List.mem_of_getElem? (i := 23) rfl)) (tr_2 _ (List.mem_of_getElem? (i := 2) rfl)) (tr_21 _ (List.mem_of_getElem? (i := 0) rfl))) rfl rfl rfl (by decide +kernel) ⟨Nat.le_of_ble_eq_true rfl, Nat.le_of_ble_eq_true rfl⟩) ⟨fun a U f mk q => ⟨q.1, XI.blind f mk a q.2⟩, va_recv hK hP (ci := 2) (q0 := 11) rfl xw_11, fun U hU hW => ⟨rfl, hI.at hS hP hU hW⟩⟩ rfl rfl hl.1 rfl (lv_room (Nat.le_of_ble_eq_true rfl)) dX2_nextToAsk_3 ⟨Nat.zero_le _, Nat.zero_le _⟩) (fun r_3 hr_3 => ?_)
  refine lv_istore_n (lv' := [(3, .int r_3), (0, .ref (za Z 11)), (1, .int x1), (2, .ref a)]) hx hb dX2_nextToAsk_6 rfl hl (by decide) rfl (fun ls hl => ?_)
  refine lv_iconst (v := (-1)) hx hb dX2_nextToAsk_7 (by decide) ?_
  refine lv_istore (lv' := [(4, .int (-1)), (3, .int r_3), (0, .ref (za Z 11)), (1, .int x1), (2, .ref a)]) hx hb dX2_nextToAsk_8 hl (by decide) rfl (fun ls hl => ?_)
  refine lv_bipush (v := 6) hx hb dX2_nextToAsk_10 (by decide) ?_
  refine lv_istore (lv' := [(5, .int 6), (4, .int (-1)), (3, .int r_3), (0, .ref (za Z 11)), (1, .int x1), (2, .ref a)]) hx hb dX2_nextToAsk_12 hl (by decide) rfl (fun ls hl => ?_)
  refine lv_aload_n hx hb dX2_nextToAsk_14 rfl (lv_at hl 5 rfl) ?_
  obtain ⟨k_15, hk_15⟩ := xt_at (g := g) (gl := gl) (tf := tf) ha
  refine va_get (D := zD Z) (ci := 3) (v := .int (tf a 3)) (C := RX3) (T := TX3) (N := 5) hx hb hT inlX3 hown hK hP k_15 hk_15 rfl 3 (by decide) (hT _ (tr_21 _ (List.mem_of_getElem? (i := 14) rfl))) (fun _ h9 => h9) rfl dX2_nextToAsk_15 ?_
  refine lv_istore (lv' := [(6, .int (tf a 3)), (5, .int 6), (4, .int (-1)), (3, .int r_3), (0, .ref (za Z 11)), (1, .int x1), (2, .ref a)]) hx hb dX2_nextToAsk_18 hl (by decide) rfl (fun ls hl => ?_)
  exact L20 _ r_3 (-1) 6 (tf a 3) g gl _ _ hP hF hG hS hr_3 (by omega) (by decide) (by rw [fa, show ((xr Z tf 4 x1.toInt.toNat).toInt - (xr Z tf 4 x1.toInt.toNat).toInt).toNat = 0 by omega]; rfl) (Or.inl fa) (Nat.lt_succ_self _) ls (lv_sub hl [4, 5, 6, 3, 2, 1, 0] rfl)
