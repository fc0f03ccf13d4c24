set_option maxHeartbeats 4000000 in
set_option maxRecDepth 100000 in
theorem c_X1_write (l : Launch) (Z : ZT) (hZ : XG Z) (g : Nat → Nat → Int32) (gl : Nat → Nat → Int64) (tf : Nat → Nat → Int32) (x1 : Int32) (hG : Gd Z tf) : Met l yX1_write (Cond.code yX1_write cX1_write 2 (some .boolean) :: wsL_law) ({ frames := 0, cells := 0, slots := 0, locals := 0 } : Room) (va_Pc [.ref (za Z 1), .int x1] (XI Z g gl tf)) (va_Qi (fun (r : Int32) (u : (Nat → Nat → Int32) × (Nat → Nat → Int64) × (Nat → Nat → Int32)) => Fr [1, 2] g u.1 ∧ Gd Z u.2.2 ∧ tf = u.2.2 ∧ ((r = 1 ∧ (0 ≤ (g 1 1).toInt ∧ (g 1 1).toInt < 50) ∧ u.1 = up2 (upR g 2 (upd (g 2) (g 1 1).toNatClampNeg x1)) 1 1 (g 1 1 + 1)) ∨ (r = 0 ∧ ¬ (0 ≤ (g 1 1).toInt ∧ (g 1 1).toInt < 50) ∧ u.1 = g))) (fun u t => va_P (zD Z) vwCl (xw Z u.1 u.2.1 u.2.2) t.heap) (zA Z)) 0 0 (zA Z) := by
  refine Met.ofW (cc := cX1_write) (maxL := 2) (ret := (some .boolean)) (by decide) rfl ?_
  intro p e s m args below meth c s₁ B hml hv
  obtain ⟨rfl, hI⟩ := hv
  have hx := B.exec
  have hb := B.bytes
  have hr := B.returns
  have hT : ∀ w ∈ wsL_law, w.before ([.ref (za Z 1), .int x1] : List Value).toArray s = true := fun w h => atoms_spec (ws := (Cond.code yX1_write cX1_write 2 (some .boolean) :: wsL_law)) B.pre w (List.mem_cons_of_mem _ h)
  have hown : s.vm.findClass RX1 = some m.cls := findClass_of_methodNamed B.named
  have hlocks := B.notSynchronized
  have hK := hI.2.1
  have hP := hI.1
  have hS : va_S (zA Z) s.heap s.heap [] := va_S.rf
  have hF : Fr [1, 2] g g := Fr.rf
  have hl := lv_entry ([.ref (za Z 1), .int x1]) (n := 2) (Nat.le_of_ble_eq_true rfl)
  rw [lg_entry_eq]
  generalize (lg_sl ([.ref (za Z 1), .int x1]) ++ List.replicate (2 - (lg_sl ([.ref (za Z 1), .int x1])).length) Slot.unset).toArray = ls at hl ⊢
  have hl : lv_has ls 2 [(0, .ref (za Z 1)), (1, .int x1)] := hl
  refine lv_aload_n hx hb dX1_write_0 rfl (lv_at hl 0 rfl) ?_
  refine va_get (D := zD Z) (ci := 1) (v := .int (g 1 1)) (C := RX1) (T := TX1) (N := 2) hx hb hT inlX1 hown hK hP 1 xw_1 rfl 1 (by decide) (hT _ (tr_5 _ (List.mem_of_getElem? (i := 18) rfl))) (fun _ h9 => h9) rfl dX1_write_1 ?_
  refine lv_if_lt (tgt := 19) hx hb dX1_write_4 (by decide) (fun c_4 => ?_) (fun c_4 => ?_)
  · skip
    have i_4 := ti_ltk rfl tk_0 c_4
    refine lv_iconst (v := 0) hx hb dX1_write_19 (by decide) ?_
    exact W.zret (v := 0) (ty := .boolean) hx hb hr rfl (fun t ht hW => ⟨⟨0, (g, gl, tf), rfl, ⟨hF, hG, rfl, Or.inr ⟨rfl, (by (try dsimp only); first | done | exact ⟨(by omega), rfl⟩)⟩⟩, by show va_P (zD Z) vwCl (xw Z g gl tf) t.heap; rw [ht]; exact hP⟩, hS.F ht⟩) hS.2.2 dX1_write_20
  · skip
    have i_4 := ti_nltk rfl tk_0 c_4
    refine lv_aload_n hx hb dX1_write_7 rfl (lv_at hl 0 rfl) ?_
    refine va_get (D := zD Z) (ci := 1) (v := .int (g 1 1)) (C := RX1) (T := TX1) (N := 2) hx hb hT inlX1 hown hK hP 1 xw_1 rfl 1 (by decide) (hT _ (tr_5 _ (List.mem_of_getElem? (i := 18) rfl))) (fun _ h9 => h9) rfl dX1_write_8 ?_
    refine lv_aload_n hx hb dX1_write_11 rfl (lv_at hl 0 rfl) ?_
    refine va_get (D := zD Z) (ci := 1) (v := .ref (za Z 2)) (C := RX1) (T := TX1) (N := 2) hx hb hT inlX1 hown hK hP 1 xw_1 rfl 0 (by decide) (hT _ (tr_2 _ (List.mem_of_getElem? (i := 18) rfl))) (fun _ h9 => h9) rfl dX1_write_12 ?_
    refine va_alen hx hb hK hP 2 1 xw_2 rfl (v := 50) rfl dX1_write_15 ?_
    refine lv_icmp_lt (tgt := 21) hx hb dX1_write_16 (by decide) (fun c_16 => ?_) (fun c_16 => ?_)
    · skip
      have i_16 := ti_ltk rfl tk_50 c_16
      refine lv_aload_n hx hb dX1_write_21 rfl (lv_at hl 0 rfl) ?_
      refine va_get (D := zD Z) (ci := 1) (v := .ref (za Z 2)) (C := RX1) (T := TX1) (N := 2) hx hb hT inlX1 hown hK hP 1 xw_1 rfl 0 (by decide) (hT _ (tr_2 _ (List.mem_of_getElem? (i := 18) rfl))) (fun _ h9 => h9) rfl dX1_write_22 ?_
      refine lv_aload_n hx hb dX1_write_25 rfl (lv_at hl 0 rfl) ?_
      refine va_get (D := zD Z) (ci := 1) (v := .int (g 1 1)) (C := RX1) (T := TX1) (N := 2) hx hb hT inlX1 hown hK hP 1 xw_1 rfl 1 (by decide) (hT _ (tr_5 _ (List.mem_of_getElem? (i := 18) rfl))) (fun _ h9 => h9) rfl dX1_write_26 ?_
      refine lv_iload_n hx hb dX1_write_29 rfl (lv_at hl 1 rfl) ?_
      have h_30 : vp_in (g 1 1) 50 := (ti_vp (by omega) (by omega))
      refine va_iast hx hb hK hP hZ.D hS 2 1 xw_2 rfl h_30 dX1_write_30 (fun H locs hP _ hS => ?_)
      replace hP := xs_2 hP
      have hF := hF.uR (i := 2) (r := upd (g 2) (g 1 1).toNatClampNeg x1) (by decide)
      refine lv_aload_n hx hb dX1_write_31 rfl (lv_at hl 0 rfl) ?_
      refine lv_dup hx hb dX1_write_32 rfl ?_
      refine va_get (D := zD Z) (ci := 1) (v := .int (g 1 1)) (C := RX1) (T := TX1) (N := 2) hx hb hT inlX1 hown hK hP 1 xw_1 rfl 1 (by decide) (hT _ (tr_5 _ (List.mem_of_getElem? (i := 18) rfl))) (fun _ h9 => h9) rfl dX1_write_33 ?_
      refine lv_iconst (v := 1) hx hb dX1_write_36 (by decide) ?_
      refine lv_iadd hx hb dX1_write_37 ?_
      refine lv_topi (fun v_37 e_37 => ?_)
      refine va_put (D := zD Z) (ci := 1) (v := .int v_37) (ty := .int) (C := RX1) (T := TX1) (N := 2) hx hb hT inlX1 tyX1 tyX1_ok nmX1 hown hK hP hZ.D hS 1 xw_1 rfl 1 (by decide) (hT _ (tr_5 _ (List.mem_of_getElem? (i := 18) rfl))) (fun _ h9 => h9) rfl (by decide +kernel) rfl rfl (Nat.le_of_ble_eq_true rfl) dX1_write_38 (fun H locs hP _ hS => ?_)
      replace hP := xf_1_1 hP
      have hF := hF.u2 (i := 1) (k := 1) (v := v_37) (by decide)
      refine lv_iconst (v := 1) hx hb dX1_write_41 (by decide) ?_
      exact W.zret (v := 1) (ty := .boolean) hx hb hr rfl (fun t ht hW => ⟨⟨1, ((up2 (upR g 2 (upd (g 2) (g 1 1).toNatClampNeg x1)) 1 1 v_37), gl, tf), rfl, ⟨hF, hG, rfl, Or.inl ⟨rfl, (by (try dsimp only); first | done | exact ⟨⟨(by omega), (by omega)⟩, by rw [e_37]⟩)⟩⟩, by show va_P (zD Z) vwCl (xw Z (up2 (upR g 2 (upd (g 2) (g 1 1).toNatClampNeg x1)) 1 1 v_37) gl tf) t.heap; rw [ht]; exact hP⟩, hS.F ht⟩) hS.2.2 dX1_write_42
    · skip
      have i_16 := ti_nltk rfl tk_50 c_16
      refine lv_iconst (v := 0) hx hb dX1_write_19 (by decide) ?_
      exact W.zret (v := 0) (ty := .boolean) hx hb hr rfl (fun t ht hW => ⟨⟨0, (g, gl, tf), rfl, ⟨hF, hG, rfl, Or.inr ⟨rfl, (by (try dsimp only); first | done | exact ⟨(by omega), rfl⟩)⟩⟩, by show va_P (zD Z) vwCl (xw Z g gl tf) t.heap; rw [ht]; exact hP⟩, hS.F ht⟩) hS.2.2 dX1_write_20
set_option maxHeartbeats 4000000 in
set_option maxRecDepth 100000 in
theorem c_X1_letterAt (l : Launch) (Z : ZT) (hZ : XG Z) (g : Nat → Nat → Int32) (gl : Nat → Nat → Int64) (tf : Nat → Nat → Int32) (x1 : Int32) (hp : ∀ i : Nat, 0 ≤ (g 2 i).toInt ∧ (g 2 i).toInt ≤ 126) (hG : Gd Z tf) : Met l yX1_letterAt (Cond.code yX1_letterAt cX1_letterAt 2 (some .int) :: wsL_law) ({ frames := 0, cells := 0, slots := 0, locals := 0 } : Room) (va_Pc [.ref (za Z 1), .int x1] (XI Z g gl tf)) (rd_Qi (fun r => (∀ k : Nat, k < 50 → x1.toInt = k → r = g 2 k) ∧ (0 ≤ r.toInt ∧ r.toInt ≤ 126))) 0 0 (fun _ => False) := by
  refine Met.ofW (cc := cX1_letterAt) (maxL := 2) (ret := (some .int)) (by decide) rfl ?_
  intro p e s m args below meth c s₁ B hml hv
  obtain ⟨rfl, hI⟩ := hv
  have hx := B.exec
  have hb := B.bytes
  have hr := B.returns
  have hT : ∀ w ∈ wsL_law, w.before ([.ref (za Z 1), .int x1] : List Value).toArray s = true := fun w h => atoms_spec (ws := (Cond.code yX1_letterAt cX1_letterAt 2 (some .int) :: wsL_law)) B.pre w (List.mem_cons_of_mem _ h)
  have hown : s.vm.findClass RX1 = some m.cls := findClass_of_methodNamed B.named
  have hlocks := B.notSynchronized
  have hK := hI.2.1
  have hP := hI.1
  have hS : va_S (zA Z) s.heap s.heap [] := va_S.rf
  have hl := lv_entry ([.ref (za Z 1), .int x1]) (n := 2) (Nat.le_of_ble_eq_true rfl)
  rw [lg_entry_eq]
  generalize (lg_sl ([.ref (za Z 1), .int x1]) ++ List.replicate (2 - (lg_sl ([.ref (za Z 1), .int x1])).length) Slot.unset).toArray = ls at hl ⊢
  have hl : lv_has ls 2 [(0, .ref (za Z 1)), (1, .int x1)] := hl
  refine lv_iload_n hx hb dX1_letterAt_0 rfl (lv_at hl 1 rfl) ?_
  refine lv_if_lt (tgt := 22) hx hb dX1_letterAt_1 (by decide) (fun c_1 => ?_) (fun c_1 => ?_)
  · skip
    have i_1 := ti_ltk rfl tk_0 c_1
    refine lv_iconst (v := 0) hx hb dX1_letterAt_22 (by decide) ?_
    exact W.iret (v := 0) hx hb hr (fun t ht hW => ⟨0, rfl, ⟨fun k _ _ => (by omega), by decide⟩, ht⟩) (fun q hq => by cases hq) dX1_letterAt_23
  · skip
    have i_1 := ti_nltk rfl tk_0 c_1
    refine lv_iload_n hx hb dX1_letterAt_4 rfl (lv_at hl 1 rfl) ?_
    refine lv_aload_n hx hb dX1_letterAt_5 rfl (lv_at hl 0 rfl) ?_
    refine va_get (D := zD Z) (ci := 1) (v := .ref (za Z 2)) (C := RX1) (T := TX1) (N := 2) hx hb hT inlX1 hown hK hP 1 xw_1 rfl 0 (by decide) (hT _ (tr_2 _ (List.mem_of_getElem? (i := 18) rfl))) (fun _ h9 => h9) rfl dX1_letterAt_6 ?_
    refine va_alen hx hb hK hP 2 1 xw_2 rfl (v := 50) rfl dX1_letterAt_9 ?_
    refine lv_icmp_ge (tgt := 22) hx hb dX1_letterAt_10 (by decide) (fun c_10 => ?_) (fun c_10 => ?_)
    · skip
      have i_10 := ti_lek tk_50 rfl c_10
      refine lv_iconst (v := 0) hx hb dX1_letterAt_22 (by decide) ?_
      exact W.iret (v := 0) hx hb hr (fun t ht hW => ⟨0, rfl, ⟨fun k _ _ => (by omega), by decide⟩, ht⟩) (fun q hq => by cases hq) dX1_letterAt_23
    · skip
      have i_10 := ti_nlek tk_50 rfl c_10
      refine lv_aload_n hx hb dX1_letterAt_13 rfl (lv_at hl 0 rfl) ?_
      refine va_get (D := zD Z) (ci := 1) (v := .ref (za Z 2)) (C := RX1) (T := TX1) (N := 2) hx hb hT inlX1 hown hK hP 1 xw_1 rfl 0 (by decide) (hT _ (tr_2 _ (List.mem_of_getElem? (i := 18) rfl))) (fun _ h9 => h9) rfl dX1_letterAt_14 ?_
      refine lv_iload_n hx hb dX1_letterAt_17 rfl (lv_at hl 1 rfl) ?_
      have h_18 : vp_in x1 50 := (ti_vp (by omega) (by omega))
      refine va_iald hx hb hK hP 2 1 xw_2 rfl h_18 dX1_letterAt_18 ?_
      refine lv_topi (fun v_18 e_18 => ?_)
      refine lv_goto (tgt := 23) hx hb dX1_letterAt_19 (by decide) ?_
      exact W.iret (v := v_18) hx hb hr (fun t ht hW => ⟨v_18, rfl, ⟨fun k _ hk => by rw [e_18, ti_clamp hk], by rw [e_18]; exact hp _⟩, ht⟩) (fun q hq => by cases hq) dX1_letterAt_23
set_option maxHeartbeats 4000000 in
set_option maxRecDepth 100000 in
theorem c_X1_isDigit (l : Launch) (x1 : Int32) : Met l yX1_isDigit (Cond.code yX1_isDigit cX1_isDigit 1 (some .boolean) :: wsL_law) ({ frames := 0, cells := 0, slots := 0, locals := 0 } : Room) (va_Pc [.int x1] (fun _ => True)) (rd_Qi (fun r => (r = 1 ∧ (48 ≤ x1.toInt ∧ x1.toInt ≤ 57)) ∨ (r = 0 ∧ ¬ (48 ≤ x1.toInt ∧ x1.toInt ≤ 57)))) 0 0 (fun _ => False) := by
  refine Met.ofW (cc := cX1_isDigit) (maxL := 1) (ret := (some .boolean)) (by decide) rfl ?_
  intro p e s m args below meth c s₁ B hml hv
  obtain ⟨rfl, hI⟩ := hv
  have hx := B.exec
  have hb := B.bytes
  have hr := B.returns
  have hT : ∀ w ∈ wsL_law, w.before ([.int x1] : List Value).toArray s = true := fun w h => atoms_spec (ws := (Cond.code yX1_isDigit cX1_isDigit 1 (some .boolean) :: wsL_law)) B.pre w (List.mem_cons_of_mem _ h)
  have hown : s.vm.findClass RX1 = some m.cls := findClass_of_methodNamed B.named
  have hlocks := B.notSynchronized
  have hl := lv_entry ([.int x1]) (n := 1) (Nat.le_of_ble_eq_true rfl)
  rw [lg_entry_eq]
  generalize (lg_sl ([.int x1]) ++ List.replicate (1 - (lg_sl ([.int x1])).length) Slot.unset).toArray = ls at hl ⊢
  have hl : lv_has ls 1 [(0, .int x1)] := hl
  refine lv_iload_n hx hb dX1_isDigit_0 rfl (lv_at hl 0 rfl) ?_
  refine lv_bipush (v := 48) hx hb dX1_isDigit_1 (by decide) ?_
  refine lv_icmp_lt (tgt := 16) hx hb dX1_isDigit_3 (by decide) (fun c_3 => ?_) (fun c_3 => ?_)
  · skip
    have i_3 := ti_ltk rfl tk_48 c_3
    refine lv_iconst (v := 0) hx hb dX1_isDigit_16 (by decide) ?_
    exact W.zret (v := 0) (ty := .boolean) hx hb hr rfl (fun t ht hW => ⟨0, rfl, Or.inr ⟨rfl, (by first | assumption | omega | decide)⟩, ht⟩) (fun q hq => by cases hq) dX1_isDigit_17
  · skip
    have i_3 := ti_nltk rfl tk_48 c_3
    refine lv_iload_n hx hb dX1_isDigit_6 rfl (lv_at hl 0 rfl) ?_
    refine lv_bipush (v := 57) hx hb dX1_isDigit_7 (by decide) ?_
    refine lv_icmp_gt (tgt := 16) hx hb dX1_isDigit_9 (by decide) (fun c_9 => ?_) (fun c_9 => ?_)
    · skip
      have i_9 := ti_ltk tk_57 rfl c_9
      refine lv_iconst (v := 0) hx hb dX1_isDigit_16 (by decide) ?_
      exact W.zret (v := 0) (ty := .boolean) hx hb hr rfl (fun t ht hW => ⟨0, rfl, Or.inr ⟨rfl, (by first | assumption | omega | decide)⟩, ht⟩) (fun q hq => by cases hq) dX1_isDigit_17
    · skip
      have i_9 := ti_nltk tk_57 rfl c_9
      refine lv_iconst (v := 1) hx hb dX1_isDigit_12 (by decide) ?_
      refine lv_goto (tgt := 17) hx hb dX1_isDigit_13 (by decide) ?_
      exact W.zret (v := 1) (ty := .boolean) hx hb hr rfl (fun t ht hW => ⟨1, rfl, Or.inl ⟨rfl, (by first | assumption | omega | decide)⟩, ht⟩) (fun q hq => by cases hq) dX1_isDigit_17
set_option maxHeartbeats 4000000 in
set_option maxRecDepth 100000 in
theorem c_X1_signAt (l : Launch) (Z : ZT) (hZ : XG Z) (g : Nat → Nat → Int32) (gl : Nat → Nat → Int64) (tf : Nat → Nat → Int32) (x1 : Int32) (hp : ∀ i : Nat, 0 ≤ (g 2 i).toInt ∧ (g 2 i).toInt ≤ 126) (hG : Gd Z tf) : Met l yX1_signAt (Cond.code yX1_signAt cX1_signAt 2 (some .int) :: wsL_law) ({ frames := 1, cells := 0, slots := 0, locals := 21 } : Room) (va_Pc [.ref (za Z 1), .int x1] (XI Z g gl tf)) (rd_Qi (fun r => (∀ k : Nat, k < 50 → x1.toInt = k → r = sgF (g 2 k)))) 0 0 (fun _ => False) := by
  refine Met.ofW (cc := cX1_signAt) (maxL := 2) (ret := (some .int)) (by decide) rfl ?_
  intro p e s m args below meth c s₁ B hml hv
  obtain ⟨rfl, hI⟩ := hv
  have hx := B.exec
  have hb := B.bytes
  have hr := B.returns
  have hT : ∀ w ∈ wsL_law, w.before ([.ref (za Z 1), .int x1] : List Value).toArray s = true := fun w h => atoms_spec (ws := (Cond.code yX1_signAt cX1_signAt 2 (some .int) :: wsL_law)) B.pre w (List.mem_cons_of_mem _ h)
  have hown : s.vm.findClass RX1 = some m.cls := findClass_of_methodNamed B.named
  have hlocks := B.notSynchronized
  have hK := hI.2.1
  have hP := hI.1
  have hS : va_S (zA Z) s.heap s.heap [] := va_S.rf
  have hl := lv_entry ([.ref (za Z 1), .int x1]) (n := 2) (Nat.le_of_ble_eq_true rfl)
  rw [lg_entry_eq]
  generalize (lg_sl ([.ref (za Z 1), .int x1]) ++ List.replicate (2 - (lg_sl ([.ref (za Z 1), .int x1])).length) Slot.unset).toArray = ls at hl ⊢
  have hl : lv_has ls 2 [(0, .ref (za Z 1)), (1, .int x1)] := hl
  refine lv_aload_n hx hb dX1_signAt_0 rfl (lv_at hl 0 rfl) ?_
  refine lv_iload_n hx hb dX1_signAt_1 rfl (lv_at hl 1 rfl) ?_
  refine rd_ci (va_runV (As := [.int x1]) (rest := []) ⟨hx, hb, hml, hown, hT⟩ (c_X1_letterAt l Z hZ g gl tf x1 (by first | assumption | omega | decide) hG) (cwV 1 hT (tb_V (fun _ h => h) (tr_6 _ (List.mem_of_getElem? (i := 23) rfl)) (tr_7 _ (List.mem_of_getElem? (i := 0) rfl)) (tr_7 _ (List.mem_of_getElem? (i := 1) rfl)) (tr_1 _ (List.mem_of_getElem? (i := 14) rfl)) (tr_7 _ (List.mem_of_getElem? (i := 2) rfl))) rfl rfl rfl (by decide +kernel) ⟨Nat.le_of_ble_eq_true rfl, Nat.le_of_ble_eq_true rfl⟩) ⟨fun a U f mk q => ⟨q.1, XI.blind f mk a q.2⟩, va_recv hK hP (ci := 1) (q0 := 1) rfl xw_1, fun U hU hW => ⟨rfl, hI.at hS hP hU hW⟩⟩ rfl rfl hl.1 rfl (lv_room (Nat.le_of_ble_eq_true rfl)) dX1_signAt_2 ⟨Nat.zero_le _, Nat.zero_le _⟩) (fun r_2 hr_2 => ?_)
  refine lv_bipush (v := 45) hx hb dX1_signAt_5 (by decide) ?_
  refine lv_icmp_ne (tgt := 14) hx hb dX1_signAt_7 (by decide) (fun c_7 => ?_) (fun c_7 => ?_)
  · skip
    have i_7 := ti_nek rfl tk_45 c_7
    refine lv_iconst (v := 1) hx hb dX1_signAt_14 (by decide) ?_
    exact W.iret (v := 1) hx hb hr (fun t ht hW => ⟨1, rfl, (fun k hk e => by rw [← hr_2.1 k hk e]; unfold sgF; rw [if_neg c_7]), ht⟩) (fun q hq => by cases hq) dX1_signAt_15
  · skip
    have i_7 := ti_eqk rfl tk_45 c_7
    refine lv_iconst (v := (-1)) hx hb dX1_signAt_10 (by decide) ?_
    refine lv_goto (tgt := 15) hx hb dX1_signAt_11 (by decide) ?_
    exact W.iret (v := (-1)) hx hb hr (fun t ht hW => ⟨(-1), rfl, (fun k hk e => by rw [← hr_2.1 k hk e]; unfold sgF; rw [if_pos c_7]), ht⟩) (fun q hq => by cases hq) dX1_signAt_15
set_option maxHeartbeats 4000000 in
set_option maxRecDepth 100000 in
theorem c_X1_digitAt (l : Launch) (Z : ZT) (hZ : XG Z) (g : Nat → Nat → Int32) (gl : Nat → Nat → Int64) (tf : Nat → Nat → Int32) (x1 : Int32) (hp : ∀ i : Nat, 0 ≤ (g 2 i).toInt ∧ (g 2 i).toInt ≤ 126) (hG : Gd Z tf) : Met l yX1_digitAt (Cond.code yX1_digitAt cX1_digitAt 2 (some .int) :: wsL_law) ({ frames := 1, cells := 0, slots := 0, locals := 21 } : Room) (va_Pc [.ref (za Z 1), .int x1] (XI Z g gl tf)) (rd_Qi (fun r => (∀ k : Nat, k < 50 → x1.toInt = k → r.toInt = (g 2 k).toInt - 48 ∧ r = g 2 k - 48) ∧ (-48 ≤ r.toInt ∧ r.toInt ≤ 78))) 0 0 (fun _ => False) := by
  refine Met.ofW (cc := cX1_digitAt) (maxL := 2) (ret := (some .int)) (by decide) rfl ?_
  intro p e s m args below meth c s₁ B hml hv
  obtain ⟨rfl, hI⟩ := hv
  have hx := B.exec
  have hb := B.bytes
  have hr := B.returns
  have hT : ∀ w ∈ wsL_law, w.before ([.ref (za Z 1), .int x1] : List Value).toArray s = true := fun w h => atoms_spec (ws := (Cond.code yX1_digitAt cX1_digitAt 2 (some .int) :: wsL_law)) B.pre w (List.mem_cons_of_mem _ h)
  have hown : s.vm.findClass RX1 = some m.cls := findClass_of_methodNamed B.named
  have hlocks := B.notSynchronized
  have hK := hI.2.1
  have hP := hI.1
  have hS : va_S (zA Z) s.heap s.heap [] := va_S.rf
  have hl := lv_entry ([.ref (za Z 1), .int x1]) (n := 2) (Nat.le_of_ble_eq_true rfl)
  rw [lg_entry_eq]
  generalize (lg_sl ([.ref (za Z 1), .int x1]) ++ List.replicate (2 - (lg_sl ([.ref (za Z 1), .int x1])).length) Slot.unset).toArray = ls at hl ⊢
  have hl : lv_has ls 2 [(0, .ref (za Z 1)), (1, .int x1)] := hl
  refine lv_aload_n hx hb dX1_digitAt_0 rfl (lv_at hl 0 rfl) ?_
  refine lv_iload_n hx hb dX1_digitAt_1 rfl (lv_at hl 1 rfl) ?_
  refine rd_ci (va_runV (As := [.int x1]) (rest := []) ⟨hx, hb, hml, hown, hT⟩ (c_X1_letterAt l Z hZ g gl tf x1 (by first | assumption | omega | decide) hG) (cwV 1 hT (tb_V (fun _ h => h) (tr_6 _ (List.mem_of_getElem? (i := 23) rfl)) (tr_7 _ (List.mem_of_getElem? (i := 0) rfl)) (tr_7 _ (List.mem_of_getElem? (i := 1) rfl)) (tr_1 _ (List.mem_of_getElem? (i := 14) rfl)) (tr_7 _ (List.mem_of_getElem? (i := 2) rfl))) rfl rfl rfl (by decide +kernel) ⟨Nat.le_of_ble_eq_true rfl, Nat.le_of_ble_eq_true rfl⟩) ⟨fun a U f mk q => ⟨q.1, XI.blind f mk a q.2⟩, va_recv hK hP (ci := 1) (q0 := 1) rfl xw_1, fun U hU hW => ⟨rfl, hI.at hS hP hU hW⟩⟩ rfl rfl hl.1 rfl (lv_room (Nat.le_of_ble_eq_true rfl)) dX1_digitAt_2 ⟨Nat.zero_le _, Nat.zero_le _⟩) (fun r_2 hr_2 => ?_)
  have q2 := hr_2.2
  refine lv_bipush (v := 48) hx hb dX1_digitAt_5 (by decide) ?_
  refine lv_isub hx hb dX1_digitAt_7 ?_
  refine lv_topi (fun v_7 e_7 => ?_)
  have t_7 := ti_subk rfl tk_48 (by omega) (by omega) e_7
  exact W.iret (v := v_7) hx hb hr (fun t ht hW => ⟨v_7, rfl, ⟨fun k hk he => by rw [← hr_2.1 k hk he]; exact ⟨t_7, e_7⟩, by omega⟩, ht⟩) (fun q hq => by cases hq) dX1_digitAt_8
set_option maxHeartbeats 4000000 in
set_option maxRecDepth 100000 in
theorem c_X1_pairAt (l : Launch) (Z : ZT) (hZ : XG Z) (g : Nat → Nat → Int32) (gl : Nat → Nat → Int64) (tf : Nat → Nat → Int32) (x1 : Int32) (hp : ∀ i : Nat, 0 ≤ (g 2 i).toInt ∧ (g 2 i).toInt ≤ 126) (hG : Gd Z tf) : Met l yX1_pairAt (Cond.code yX1_pairAt cX1_pairAt 2 (some .int) :: wsL_law) ({ frames := 2, cells := 0, slots := 0, locals := 42 } : Room) (va_Pc [.ref (za Z 1), .int x1] (XI Z g gl tf)) (rd_Qi (fun r => (∀ k : Nat, k + 1 < 50 → x1.toInt = k → r.toInt = 10 * ((g 2 k).toInt - 48) + ((g 2 (k + 1)).toInt - 48) ∧ r = 10 * (g 2 k - 48) + (g 2 (k + 1) - 48)) ∧ r.toInt ≤ 858)) 0 0 (fun _ => False) := by
  refine Met.ofW (cc := cX1_pairAt) (maxL := 2) (ret := (some .int)) (by decide) rfl ?_
  intro p e s m args below meth c s₁ B hml hv
  obtain ⟨rfl, hI⟩ := hv
  have hx := B.exec
  have hb := B.bytes
  have hr := B.returns
  have hT : ∀ w ∈ wsL_law, w.before ([.ref (za Z 1), .int x1] : List Value).toArray s = true := fun w h => atoms_spec (ws := (Cond.code yX1_pairAt cX1_pairAt 2 (some .int) :: wsL_law)) B.pre w (List.mem_cons_of_mem _ h)
  have hown : s.vm.findClass RX1 = some m.cls := findClass_of_methodNamed B.named
  have hlocks := B.notSynchronized
  have hK := hI.2.1
  have hP := hI.1
  have hS : va_S (zA Z) s.heap s.heap [] := va_S.rf
  have hl := lv_entry ([.ref (za Z 1), .int x1]) (n := 2) (Nat.le_of_ble_eq_true rfl)
  rw [lg_entry_eq]
  generalize (lg_sl ([.ref (za Z 1), .int x1]) ++ List.replicate (2 - (lg_sl ([.ref (za Z 1), .int x1])).length) Slot.unset).toArray = ls at hl ⊢
  have hl : lv_has ls 2 [(0, .ref (za Z 1)), (1, .int x1)] := hl
  refine lv_bipush (v := 10) hx hb dX1_pairAt_0 (by decide) ?_
  refine lv_aload_n hx hb dX1_pairAt_2 rfl (lv_at hl 0 rfl) ?_
  refine lv_iload_n hx hb dX1_pairAt_3 rfl (lv_at hl 1 rfl) ?_
  refine rd_ci (va_runV (As := [.int x1]) (rest := [.int 10]) ⟨hx, hb, hml, hown, hT⟩ (c_X1_digitAt l Z hZ g gl tf x1 (by first | assumption | omega | decide) hG) (cwV 1 hT (tb_V (fun _ h => h) (tr_10 _ (List.mem_of_getElem? (i := 20) rfl)) (tr_10 _ (List.mem_of_getElem? (i := 21) rfl)) (tr_10 _ (List.mem_of_getElem? (i := 22) rfl)) (tr_1 _ (List.mem_of_getElem? (i := 14) rfl)) (tr_10 _ (List.mem_of_getElem? (i := 23) rfl))) rfl rfl rfl (by decide +kernel) ⟨Nat.le_of_ble_eq_true rfl, Nat.le_of_ble_eq_true rfl⟩) ⟨fun a U f mk q => ⟨q.1, XI.blind f mk a q.2⟩, va_recv hK hP (ci := 1) (q0 := 1) rfl xw_1, fun U hU hW => ⟨rfl, hI.at hS hP hU hW⟩⟩ rfl rfl hl.1 rfl (lv_room (Nat.le_of_ble_eq_true rfl)) dX1_pairAt_4 ⟨Nat.zero_le _, Nat.zero_le _⟩) (fun r_4 hr_4 => ?_)
  have q4 := hr_4.2
  refine lv_imul hx hb dX1_pairAt_7 ?_
  refine lv_topi (fun v_7 e_7 => ?_)
  have t_7 := ti_mulk tk_10 rfl (by omega) (by omega) e_7
  refine lv_aload_n hx hb dX1_pairAt_8 rfl (lv_at hl 0 rfl) ?_
  refine lv_iload_n hx hb dX1_pairAt_9 rfl (lv_at hl 1 rfl) ?_
  refine lv_iconst (v := 1) hx hb dX1_pairAt_10 (by decide) ?_
  refine lv_iadd hx hb dX1_pairAt_11 ?_
  refine lv_topi (fun v_11 e_11 => ?_)
  refine rd_ci (va_runV (As := [.int v_11]) (rest := [.int v_7]) ⟨hx, hb, hml, hown, hT⟩ (c_X1_digitAt l Z hZ g gl tf v_11 (by first | assumption | omega | decide) hG) (cwV 1 hT (tb_V (fun _ h => h) (tr_10 _ (List.mem_of_getElem? (i := 20) rfl)) (tr_10 _ (List.mem_of_getElem? (i := 21) rfl)) (tr_10 _ (List.mem_of_getElem? (i := 22) rfl)) (tr_1 _ (List.mem_of_getElem? (i := 14) rfl)) (tr_10 _ (List.mem_of_getElem? (i := 23) rfl))) rfl rfl rfl (by decide +kernel) ⟨Nat.le_of_ble_eq_true rfl, Nat.le_of_ble_eq_true rfl⟩) ⟨fun a U f mk q => ⟨q.1, XI.blind f mk a q.2⟩, va_recv hK hP (ci := 1) (q0 := 1) rfl xw_1, fun U hU hW => ⟨rfl, hI.at hS hP hU hW⟩⟩ rfl rfl hl.1 rfl (lv_room (Nat.le_of_ble_eq_true rfl)) dX1_pairAt_12 ⟨Nat.zero_le _, Nat.zero_le _⟩) (fun r_12 hr_12 => ?_)
  have q12 := hr_12.2
  refine lv_iadd hx hb dX1_pairAt_15 ?_
  refine lv_topi (fun v_15 e_15 => ?_)
  have t_15 := ti_addk rfl rfl (by omega) (by omega) e_15
  exact W.iret (v := v_15) hx hb hr (fun t ht hW => ⟨v_15, rfl, ⟨fun k hk he => by have a1 := hr_4.1 k (by omega) he; have a2 := hr_12.1 (k + 1) hk (by have a3 := ti_addk he tk_1 (by omega) (by omega) e_11; omega); exact ⟨by omega, by rw [e_15, e_7, a1.2, a2.2]⟩, by omega⟩, ht⟩) (fun q hq => by cases hq) dX1_pairAt_16
set_option maxHeartbeats 4000000 in
set_option maxRecDepth 100000 in
theorem c_X1_goesOn (l : Launch) (Z : ZT) (hZ : XG Z) (g : Nat → Nat → Int32) (gl : Nat → Nat → Int64) (tf : Nat → Nat → Int32) (x1 : Int32) (k : Nat) (hk : x1.toInt = k) (hk2 : k < 50) (hp : ∀ i : Nat, 0 ≤ (g 2 i).toInt ∧ (g 2 i).toInt ≤ 126) (hG : Gd Z tf) : Met l yX1_goesOn (Cond.code yX1_goesOn cX1_goesOn 3 (some .boolean) :: wsL_law) ({ frames := 4, cells := 0, slots := 0, locals := 91 } : Room) (va_Pc [.ref (za Z 1), .int x1] (XI Z g gl tf)) (rd_Qi (fun r => (r = 1 ∧ okp (g 2) k) ∨ (r = 0 ∧ ¬ okp (g 2) k))) 0 0 (fun _ => False) := by
  refine Met.ofW (cc := cX1_goesOn) (maxL := 3) (ret := (some .boolean)) (by decide) rfl ?_
  intro p e s m args below meth c s₁ B hml hv
  obtain ⟨rfl, hI⟩ := hv
  have hx := B.exec
  have hb := B.bytes
  have hr := B.returns
  have hT : ∀ w ∈ wsL_law, w.before ([.ref (za Z 1), .int x1] : List Value).toArray s = true := fun w h => atoms_spec (ws := (Cond.code yX1_goesOn cX1_goesOn 3 (some .boolean) :: wsL_law)) B.pre w (List.mem_cons_of_mem _ h)
  have hown : s.vm.findClass RX1 = some m.cls := findClass_of_methodNamed B.named
  have hlocks := B.notSynchronized
  have hK := hI.2.1
  have hP := hI.1
  have hS : va_S (zA Z) s.heap s.heap [] := va_S.rf
  have hl := lv_entry ([.ref (za Z 1), .int x1]) (n := 3) (Nat.le_of_ble_eq_true rfl)
  rw [lg_entry_eq]
  generalize (lg_sl ([.ref (za Z 1), .int x1]) ++ List.replicate (3 - (lg_sl ([.ref (za Z 1), .int x1])).length) Slot.unset).toArray = ls at hl ⊢
  have hl : lv_has ls 3 [(0, .ref (za Z 1)), (1, .int x1)] := hl
  refine lv_iload_n hx hb dX1_goesOn_0 rfl (lv_at hl 1 rfl) ?_
  refine lv_bipush (v := 47) hx hb dX1_goesOn_1 (by decide) ?_
  refine lv_icmp_lt (tgt := 8) hx hb dX1_goesOn_3 (by decide) (fun c_3 => ?_) (fun c_3 => ?_)
  · skip
    have i_3 := ti_ltk rfl tk_47 c_3
    refine lv_aload_n hx hb dX1_goesOn_8 rfl (lv_at hl 0 rfl) ?_
    refine lv_iload_n hx hb dX1_goesOn_9 rfl (lv_at hl 1 rfl) ?_
    refine rd_ci (va_runV (As := [.int x1]) (rest := []) ⟨hx, hb, hml, hown, hT⟩ (c_X1_letterAt l Z hZ g gl tf x1 (by first | assumption | omega | decide) hG) (cwV 1 hT (tb_V (fun _ h => h) (tr_6 _ (List.mem_of_getElem? (i := 23) rfl)) (tr_7 _ (List.mem_of_getElem? (i := 0) rfl)) (tr_7 _ (List.mem_of_getElem? (i := 1) rfl)) (tr_1 _ (List.mem_of_getElem? (i := 14) rfl)) (tr_7 _ (List.mem_of_getElem? (i := 2) rfl))) rfl rfl rfl (by decide +kernel) ⟨Nat.le_of_ble_eq_true rfl, Nat.le_of_ble_eq_true rfl⟩) ⟨fun a U f mk q => ⟨q.1, XI.blind f mk a q.2⟩, va_recv hK hP (ci := 1) (q0 := 1) rfl xw_1, fun U hU hW => ⟨rfl, hI.at hS hP hU hW⟩⟩ rfl rfl hl.1 rfl (lv_room (Nat.le_of_ble_eq_true rfl)) dX1_goesOn_10 ⟨Nat.zero_le _, Nat.zero_le _⟩) (fun r_10 hr_10 => ?_)
    have l10 : r_10.toInt = (g 2 k).toInt := by rw [hr_10.1 k hk2 hk]
    have lb := hp k
    refine lv_istore_n (lv' := [(2, .int r_10), (0, .ref (za Z 1)), (1, .int x1)]) hx hb dX1_goesOn_13 rfl hl (by decide) rfl (fun ls hl => ?_)
    refine lv_iload_n hx hb dX1_goesOn_14 rfl (lv_at hl 2 rfl) ?_
    refine lv_bipush (v := 12) hx hb dX1_goesOn_15 (by decide) ?_
    refine lv_irem hx hb dX1_goesOn_17 (by decide) ?_
    refine lv_topi (fun v_17 e_17 => ?_)
    have t_17 := ti_remk rfl tk_12 (by omega) (by omega) e_17
    by_cases w_18_0 : v_17 = 0
    · skip
      refine lv_tableIn (tgt := 76) (off := 58) hx hb dX1_goesOn_18 (by rw [w_18_0]; decide) (by rw [w_18_0]; decide) (by rw [w_18_0]; decide) (by decide) ?_
      have m_0 := ti_eqk rfl tk_0 w_18_0
      refine va_ldcS hx hb hown hI.2.2.2.1 dX1_goesOn_76 ?_
      refine lv_iload_n hx hb dX1_goesOn_78 rfl (lv_at hl 0 rfl) ?_
      refine lv_i2c hx hb dX1_goesOn_79 rfl ?_
      refine lv_topi (fun v_79 e_79 => ?_)
      refine rd_ci (va_runV (As := [.int v_79]) (rest := []) ⟨hx, hb, hml, hown, hT⟩ (c_J0_indexOf_0f7a4 l Z hZ g gl tf v_79 (by rw [e_79, ti_char (by omega) (by omega)]; omega) hG) (cwV 1 hT (tb_V (fun _ h => h) (tr_7 _ (List.mem_of_getElem? (i := 3) rfl)) (tr_7 _ (List.mem_of_getElem? (i := 4) rfl)) (tr_7 _ (List.mem_of_getElem? (i := 5) rfl)) (tr_7 _ (List.mem_of_getElem? (i := 6) rfl)) (tr_7 _ (List.mem_of_getElem? (i := 7) rfl))) rfl rfl rfl (by decide +kernel) ⟨Nat.le_of_ble_eq_true rfl, Nat.le_of_ble_eq_true rfl⟩) ⟨fun a U f mk q => ⟨q.1, XI.blind f mk a q.2⟩, vk_recv hI.2.2.2.2.1 (i := 0) (by decide) hS, fun U hU hW => ⟨rfl, hI.at hS hP hU hW⟩⟩ rfl rfl hl.1 rfl (lv_room (Nat.le_of_ble_eq_true rfl)) dX1_goesOn_80 ⟨Nat.zero_le _, Nat.zero_le _⟩) (fun r_80 hr_80 => ?_)
      rw [e_79, ti_char (by omega) (by omega)] at hr_80
      have hk80 := kd_iff r_10
      rw [← hr_80] at hk80
      refine lv_if_lt (tgt := 90) hx hb dX1_goesOn_83 (by decide) (fun c_83 => ?_) (fun c_83 => ?_)
      · skip
        have i_83 := ti_ltk rfl tk_0 c_83
        refine lv_iconst (v := 0) hx hb dX1_goesOn_90 (by decide) ?_
        exact W.zret (v := 0) (ty := .boolean) hx hb hr rfl (fun t ht hW => ⟨0, rfl, Or.inr ⟨rfl, (fun q => by have q1 := ((ok0 (by omega)).mp q).2; omega)⟩, ht⟩) (fun q hq => by cases hq) dX1_goesOn_91
      · skip
        have i_83 := ti_nltk rfl tk_0 c_83
        refine lv_iconst (v := 1) hx hb dX1_goesOn_86 (by decide) ?_
        refine lv_goto (tgt := 91) hx hb dX1_goesOn_87 (by decide) ?_
        exact W.zret (v := 1) (ty := .boolean) hx hb hr rfl (fun t ht hW => ⟨1, rfl, Or.inl ⟨rfl, ((ok0 (by omega)).mpr (by omega))⟩, ht⟩) (fun q hq => by cases hq) dX1_goesOn_91
    by_cases w_18_1 : v_17 = 1
    · skip
      refine lv_tableIn (tgt := 92) (off := 74) hx hb dX1_goesOn_18 (by rw [w_18_1]; decide) (by rw [w_18_1]; decide) (by rw [w_18_1]; decide) (by decide) ?_
      have m_1 := ti_eqk rfl tk_1 w_18_1
      refine lv_iload_n hx hb dX1_goesOn_92 rfl (lv_at hl 0 rfl) ?_
      refine lv_bipush (v := 43) hx hb dX1_goesOn_93 (by decide) ?_
      refine lv_icmp_eq (tgt := 104) hx hb dX1_goesOn_95 (by decide) (fun c_95 => ?_) (fun c_95 => ?_)
      · skip
        have i_95 := ti_eqk rfl tk_43 c_95
        refine lv_iconst (v := 1) hx hb dX1_goesOn_104 (by decide) ?_
        refine lv_goto (tgt := 109) hx hb dX1_goesOn_105 (by decide) ?_
        exact W.zret (v := 1) (ty := .boolean) hx hb hr rfl (fun t ht hW => ⟨1, rfl, Or.inl ⟨rfl, ((ok1 (by omega)).mpr (by omega))⟩, ht⟩) (fun q hq => by cases hq) dX1_goesOn_109
      · skip
        have i_95 := ti_nek rfl tk_43 c_95
        refine lv_iload_n hx hb dX1_goesOn_98 rfl (lv_at hl 0 rfl) ?_
        refine lv_bipush (v := 45) hx hb dX1_goesOn_99 (by decide) ?_
        refine lv_icmp_ne (tgt := 108) hx hb dX1_goesOn_101 (by decide) (fun c_101 => ?_) (fun c_101 => ?_)
        · skip
          have i_101 := ti_nek rfl tk_45 c_101
          refine lv_iconst (v := 0) hx hb dX1_goesOn_108 (by decide) ?_
          exact W.zret (v := 0) (ty := .boolean) hx hb hr rfl (fun t ht hW => ⟨0, rfl, Or.inr ⟨rfl, (fun q => by have q1 := ((ok1 (by omega)).mp q).2; omega)⟩, ht⟩) (fun q hq => by cases hq) dX1_goesOn_109
        · skip
          have i_101 := ti_eqk rfl tk_45 c_101
          refine lv_iconst (v := 1) hx hb dX1_goesOn_104 (by decide) ?_
          refine lv_goto (tgt := 109) hx hb dX1_goesOn_105 (by decide) ?_
          exact W.zret (v := 1) (ty := .boolean) hx hb hr rfl (fun t ht hW => ⟨1, rfl, Or.inl ⟨rfl, ((ok1 (by omega)).mpr (by omega))⟩, ht⟩) (fun q hq => by cases hq) dX1_goesOn_109
    by_cases w_18_2 : v_17 = 2
    · skip
      refine lv_tableIn (tgt := 110) (off := 92) hx hb dX1_goesOn_18 (by rw [w_18_2]; decide) (by rw [w_18_2]; decide) (by rw [w_18_2]; decide) (by decide) ?_
      have m_2 := ti_eqk rfl tk_2 w_18_2
      refine lv_iload_n hx hb dX1_goesOn_110 rfl (lv_at hl 0 rfl) ?_
      refine rd_ci (va_runS (As := [.int r_10]) (rest := []) ⟨hx, hb, hml, hown, hT⟩ (c_X1_isDigit l r_10) (va_cwS 1 hT (tb_S (fun _ h => h) (tr_10 _ (List.mem_of_getElem? (i := 17) rfl)) (tr_10 _ (List.mem_of_getElem? (i := 18) rfl)) (tr_1 _ (List.mem_of_getElem? (i := 14) rfl)) (tr_10 _ (List.mem_of_getElem? (i := 19) rfl))) rfl rfl rfl (by decide +kernel) ⟨Nat.le_of_ble_eq_true rfl, Nat.le_of_ble_eq_true rfl⟩) ⟨fun _ _ _ _ q => q, fun U hU hW => ⟨rfl, trivial⟩⟩ rfl rfl hl.1 rfl (lv_room (Nat.le_of_ble_eq_true rfl)) dX1_goesOn_111 ⟨Nat.zero_le _, Nat.zero_le _⟩) (fun r_111 hr_111 => ?_)
      rcases hr_111 with ⟨rfl, b_111⟩ | ⟨rfl, b_111⟩
      · skip
        exact W.zret (v := 1) (ty := .boolean) hx hb hr rfl (fun t ht hW => ⟨1, rfl, Or.inl ⟨rfl, ((ok2 (by omega)).mpr (by omega))⟩, ht⟩) (fun q hq => by cases hq) dX1_goesOn_114
      · skip
        exact W.zret (v := 0) (ty := .boolean) hx hb hr rfl (fun t ht hW => ⟨0, rfl, Or.inr ⟨rfl, (fun q => by have q1 := ((ok2 (by omega)).mp q).2; omega)⟩, ht⟩) (fun q hq => by cases hq) dX1_goesOn_114
    by_cases w_18_3 : v_17 = 3
    · skip
      refine lv_tableIn (tgt := 92) (off := 74) hx hb dX1_goesOn_18 (by rw [w_18_3]; decide) (by rw [w_18_3]; decide) (by rw [w_18_3]; decide) (by decide) ?_
      have m_3 := ti_eqk rfl tk_3 w_18_3
      refine lv_iload_n hx hb dX1_goesOn_92 rfl (lv_at hl 0 rfl) ?_
      refine lv_bipush (v := 43) hx hb dX1_goesOn_93 (by decide) ?_
      refine lv_icmp_eq (tgt := 104) hx hb dX1_goesOn_95 (by decide) (fun c_95 => ?_) (fun c_95 => ?_)
      · skip
        have i_95 := ti_eqk rfl tk_43 c_95
        refine lv_iconst (v := 1) hx hb dX1_goesOn_104 (by decide) ?_
        refine lv_goto (tgt := 109) hx hb dX1_goesOn_105 (by decide) ?_
        exact W.zret (v := 1) (ty := .boolean) hx hb hr rfl (fun t ht hW => ⟨1, rfl, Or.inl ⟨rfl, ((ok1 (by omega)).mpr (by omega))⟩, ht⟩) (fun q hq => by cases hq) dX1_goesOn_109
      · skip
        have i_95 := ti_nek rfl tk_43 c_95
        refine lv_iload_n hx hb dX1_goesOn_98 rfl (lv_at hl 0 rfl) ?_
        refine lv_bipush (v := 45) hx hb dX1_goesOn_99 (by decide) ?_
        refine lv_icmp_ne (tgt := 108) hx hb dX1_goesOn_101 (by decide) (fun c_101 => ?_) (fun c_101 => ?_)
        · skip
          have i_101 := ti_nek rfl tk_45 c_101
          refine lv_iconst (v := 0) hx hb dX1_goesOn_108 (by decide) ?_
          exact W.zret (v := 0) (ty := .boolean) hx hb hr rfl (fun t ht hW => ⟨0, rfl, Or.inr ⟨rfl, (fun q => by have q1 := ((ok1 (by omega)).mp q).2; omega)⟩, ht⟩) (fun q hq => by cases hq) dX1_goesOn_109
        · skip
          have i_101 := ti_eqk rfl tk_45 c_101
          refine lv_iconst (v := 1) hx hb dX1_goesOn_104 (by decide) ?_
          refine lv_goto (tgt := 109) hx hb dX1_goesOn_105 (by decide) ?_
          exact W.zret (v := 1) (ty := .boolean) hx hb hr rfl (fun t ht hW => ⟨1, rfl, Or.inl ⟨rfl, ((ok1 (by omega)).mpr (by omega))⟩, ht⟩) (fun q hq => by cases hq) dX1_goesOn_109
    by_cases w_18_4 : v_17 = 4
    · skip
      refine lv_tableIn (tgt := 110) (off := 92) hx hb dX1_goesOn_18 (by rw [w_18_4]; decide) (by rw [w_18_4]; decide) (by rw [w_18_4]; decide) (by decide) ?_
      have m_4 := ti_eqk rfl tk_4 w_18_4
      refine lv_iload_n hx hb dX1_goesOn_110 rfl (lv_at hl 0 rfl) ?_
      refine rd_ci (va_runS (As := [.int r_10]) (rest := []) ⟨hx, hb, hml, hown, hT⟩ (c_X1_isDigit l r_10) (va_cwS 1 hT (tb_S (fun _ h => h) (tr_10 _ (List.mem_of_getElem? (i := 17) rfl)) (tr_10 _ (List.mem_of_getElem? (i := 18) rfl)) (tr_1 _ (List.mem_of_getElem? (i := 14) rfl)) (tr_10 _ (List.mem_of_getElem? (i := 19) rfl))) rfl rfl rfl (by decide +kernel) ⟨Nat.le_of_ble_eq_true rfl, Nat.le_of_ble_eq_true rfl⟩) ⟨fun _ _ _ _ q => q, fun U hU hW => ⟨rfl, trivial⟩⟩ rfl rfl hl.1 rfl (lv_room (Nat.le_of_ble_eq_true rfl)) dX1_goesOn_111 ⟨Nat.zero_le _, Nat.zero_le _⟩) (fun r_111 hr_111 => ?_)
      rcases hr_111 with ⟨rfl, b_111⟩ | ⟨rfl, b_111⟩
      · skip
        exact W.zret (v := 1) (ty := .boolean) hx hb hr rfl (fun t ht hW => ⟨1, rfl, Or.inl ⟨rfl, ((ok2 (by omega)).mpr (by omega))⟩, ht⟩) (fun q hq => by cases hq) dX1_goesOn_114
      · skip
        exact W.zret (v := 0) (ty := .boolean) hx hb hr rfl (fun t ht hW => ⟨0, rfl, Or.inr ⟨rfl, (fun q => by have q1 := ((ok2 (by omega)).mp q).2; omega)⟩, ht⟩) (fun q hq => by cases hq) dX1_goesOn_114
    by_cases w_18_5 : v_17 = 5
    · skip
      refine lv_tableIn (tgt := 110) (off := 92) hx hb dX1_goesOn_18 (by rw [w_18_5]; decide) (by rw [w_18_5]; decide) (by rw [w_18_5]; decide) (by decide) ?_
      have m_5 := ti_eqk rfl tk_5 w_18_5
      refine lv_iload_n hx hb dX1_goesOn_110 rfl (lv_at hl 0 rfl) ?_
      refine rd_ci (va_runS (As := [.int r_10]) (rest := []) ⟨hx, hb, hml, hown, hT⟩ (c_X1_isDigit l r_10) (va_cwS 1 hT (tb_S (fun _ h => h) (tr_10 _ (List.mem_of_getElem? (i := 17) rfl)) (tr_10 _ (List.mem_of_getElem? (i := 18) rfl)) (tr_1 _ (List.mem_of_getElem? (i := 14) rfl)) (tr_10 _ (List.mem_of_getElem? (i := 19) rfl))) rfl rfl rfl (by decide +kernel) ⟨Nat.le_of_ble_eq_true rfl, Nat.le_of_ble_eq_true rfl⟩) ⟨fun _ _ _ _ q => q, fun U hU hW => ⟨rfl, trivial⟩⟩ rfl rfl hl.1 rfl (lv_room (Nat.le_of_ble_eq_true rfl)) dX1_goesOn_111 ⟨Nat.zero_le _, Nat.zero_le _⟩) (fun r_111 hr_111 => ?_)
      rcases hr_111 with ⟨rfl, b_111⟩ | ⟨rfl, b_111⟩
      · skip
        exact W.zret (v := 1) (ty := .boolean) hx hb hr rfl (fun t ht hW => ⟨1, rfl, Or.inl ⟨rfl, ((ok2 (by omega)).mpr (by omega))⟩, ht⟩) (fun q hq => by cases hq) dX1_goesOn_114
      · skip
        exact W.zret (v := 0) (ty := .boolean) hx hb hr rfl (fun t ht hW => ⟨0, rfl, Or.inr ⟨rfl, (fun q => by have q1 := ((ok2 (by omega)).mp q).2; omega)⟩, ht⟩) (fun q hq => by cases hq) dX1_goesOn_114
    by_cases w_18_6 : v_17 = 6
    · skip
      refine lv_tableIn (tgt := 115) (off := 97) hx hb dX1_goesOn_18 (by rw [w_18_6]; decide) (by rw [w_18_6]; decide) (by rw [w_18_6]; decide) (by decide) ?_
      have m_6 := ti_eqk rfl tk_6 w_18_6
      refine lv_iload_n hx hb dX1_goesOn_115 rfl (lv_at hl 0 rfl) ?_
      refine lv_bipush (v := 64) hx hb dX1_goesOn_116 (by decide) ?_
      refine lv_icmp_ne (tgt := 125) hx hb dX1_goesOn_118 (by decide) (fun c_118 => ?_) (fun c_118 => ?_)
      · skip
        have i_118 := ti_nek rfl tk_64 c_118
        refine lv_iconst (v := 0) hx hb dX1_goesOn_125 (by decide) ?_
        exact W.zret (v := 0) (ty := .boolean) hx hb hr rfl (fun t ht hW => ⟨0, rfl, Or.inr ⟨rfl, (fun q => by have q1 := ((ok6 (by omega)).mp q).2; omega)⟩, ht⟩) (fun q hq => by cases hq) dX1_goesOn_126
      · skip
        have i_118 := ti_eqk rfl tk_64 c_118
        refine lv_iconst (v := 1) hx hb dX1_goesOn_121 (by decide) ?_
        refine lv_goto (tgt := 126) hx hb dX1_goesOn_122 (by decide) ?_
        exact W.zret (v := 1) (ty := .boolean) hx hb hr rfl (fun t ht hW => ⟨1, rfl, Or.inl ⟨rfl, ((ok6 (by omega)).mpr (by omega))⟩, ht⟩) (fun q hq => by cases hq) dX1_goesOn_126
    by_cases w_18_7 : v_17 = 7
    · skip
      refine lv_tableIn (tgt := 127) (off := 109) hx hb dX1_goesOn_18 (by rw [w_18_7]; decide) (by rw [w_18_7]; decide) (by rw [w_18_7]; decide) (by decide) ?_
      have m_7 := ti_eqk rfl tk_7 w_18_7
      refine lv_iload_n hx hb dX1_goesOn_127 rfl (lv_at hl 0 rfl) ?_
      refine rd_ci (va_runS (As := [.int r_10]) (rest := []) ⟨hx, hb, hml, hown, hT⟩ (c_X1_isDigit l r_10) (va_cwS 1 hT (tb_S (fun _ h => h) (tr_10 _ (List.mem_of_getElem? (i := 17) rfl)) (tr_10 _ (List.mem_of_getElem? (i := 18) rfl)) (tr_1 _ (List.mem_of_getElem? (i := 14) rfl)) (tr_10 _ (List.mem_of_getElem? (i := 19) rfl))) rfl rfl rfl (by decide +kernel) ⟨Nat.le_of_ble_eq_true rfl, Nat.le_of_ble_eq_true rfl⟩) ⟨fun _ _ _ _ q => q, fun U hU hW => ⟨rfl, trivial⟩⟩ rfl rfl hl.1 rfl (lv_room (Nat.le_of_ble_eq_true rfl)) dX1_goesOn_128 ⟨Nat.zero_le _, Nat.zero_le _⟩) (fun r_128 hr_128 => ?_)
      rcases hr_128 with ⟨rfl, b_128⟩ | ⟨rfl, b_128⟩
      · skip
        refine lv_if_eq (tgt := 148) hx hb dX1_goesOn_131 (by decide) (fun c_131 => absurd c_131 (by decide)) (fun c_131 => ?_)
        refine lv_aload_n hx hb dX1_goesOn_134 rfl (lv_at hl 1 rfl) ?_
        refine lv_iload_n hx hb dX1_goesOn_135 rfl (lv_at hl 2 rfl) ?_
        refine rd_ci (va_runV (As := [.int x1]) (rest := []) ⟨hx, hb, hml, hown, hT⟩ (c_X1_digitAt l Z hZ g gl tf x1 (by first | assumption | omega | decide) hG) (cwV 1 hT (tb_V (fun _ h => h) (tr_10 _ (List.mem_of_getElem? (i := 20) rfl)) (tr_10 _ (List.mem_of_getElem? (i := 21) rfl)) (tr_10 _ (List.mem_of_getElem? (i := 22) rfl)) (tr_1 _ (List.mem_of_getElem? (i := 14) rfl)) (tr_10 _ (List.mem_of_getElem? (i := 23) rfl))) rfl rfl rfl (by decide +kernel) ⟨Nat.le_of_ble_eq_true rfl, Nat.le_of_ble_eq_true rfl⟩) ⟨fun a U f mk q => ⟨q.1, XI.blind f mk a q.2⟩, va_recv hK hP (ci := 1) (q0 := 1) rfl xw_1, fun U hU hW => ⟨rfl, hI.at hS hP hU hW⟩⟩ rfl rfl hl.1 rfl (lv_room (Nat.le_of_ble_eq_true rfl)) dX1_goesOn_136 ⟨Nat.zero_le _, Nat.zero_le _⟩) (fun r_136 hr_136 => ?_)
        have d136 := (hr_136.1 k hk2 hk).1
        refine lv_bipush (v := 6) hx hb dX1_goesOn_139 (by decide) ?_
        refine lv_icmp_gt (tgt := 148) hx hb dX1_goesOn_141 (by decide) (fun c_141 => ?_) (fun c_141 => ?_)
        · skip
          have i_141 := ti_ltk tk_6 rfl c_141
          refine lv_iconst (v := 0) hx hb dX1_goesOn_148 (by decide) ?_
          exact W.zret (v := 0) (ty := .boolean) hx hb hr rfl (fun t ht hW => ⟨0, rfl, Or.inr ⟨rfl, (fun q => by have q1 := ((ok7 (by omega)).mp q).2; omega)⟩, ht⟩) (fun q hq => by cases hq) dX1_goesOn_149
        · skip
          have i_141 := ti_nltk tk_6 rfl c_141
          refine lv_iconst (v := 1) hx hb dX1_goesOn_144 (by decide) ?_
          refine lv_goto (tgt := 149) hx hb dX1_goesOn_145 (by decide) ?_
          exact W.zret (v := 1) (ty := .boolean) hx hb hr rfl (fun t ht hW => ⟨1, rfl, Or.inl ⟨rfl, ((ok7 (by omega)).mpr (by omega))⟩, ht⟩) (fun q hq => by cases hq) dX1_goesOn_149
      · skip
        refine lv_if_eq (tgt := 148) hx hb dX1_goesOn_131 (by decide) (fun c_131 => ?_) (fun c_131 => absurd c_131 (by decide))
        refine lv_iconst (v := 0) hx hb dX1_goesOn_148 (by decide) ?_
        exact W.zret (v := 0) (ty := .boolean) hx hb hr rfl (fun t ht hW => ⟨0, rfl, Or.inr ⟨rfl, (fun q => by have q1 := ((ok7 (by omega)).mp q).2; omega)⟩, ht⟩) (fun q hq => by cases hq) dX1_goesOn_149
    by_cases w_18_8 : v_17 = 8
    · skip
      refine lv_tableIn (tgt := 150) (off := 132) hx hb dX1_goesOn_18 (by rw [w_18_8]; decide) (by rw [w_18_8]; decide) (by rw [w_18_8]; decide) (by decide) ?_
      have m_8 := ti_eqk rfl tk_8 w_18_8
      refine lv_iload_n hx hb dX1_goesOn_150 rfl (lv_at hl 0 rfl) ?_
      refine rd_ci (va_runS (As := [.int r_10]) (rest := []) ⟨hx, hb, hml, hown, hT⟩ (c_X1_isDigit l r_10) (va_cwS 1 hT (tb_S (fun _ h => h) (tr_10 _ (List.mem_of_getElem? (i := 17) rfl)) (tr_10 _ (List.mem_of_getElem? (i := 18) rfl)) (tr_1 _ (List.mem_of_getElem? (i := 14) rfl)) (tr_10 _ (List.mem_of_getElem? (i := 19) rfl))) rfl rfl rfl (by decide +kernel) ⟨Nat.le_of_ble_eq_true rfl, Nat.le_of_ble_eq_true rfl⟩) ⟨fun _ _ _ _ q => q, fun U hU hW => ⟨rfl, trivial⟩⟩ rfl rfl hl.1 rfl (lv_room (Nat.le_of_ble_eq_true rfl)) dX1_goesOn_151 ⟨Nat.zero_le _, Nat.zero_le _⟩) (fun r_151 hr_151 => ?_)
      rcases hr_151 with ⟨rfl, b_151⟩ | ⟨rfl, b_151⟩
      · skip
        refine lv_if_eq (tgt := 173) hx hb dX1_goesOn_154 (by decide) (fun c_154 => absurd c_154 (by decide)) (fun c_154 => ?_)
        refine lv_aload_n hx hb dX1_goesOn_157 rfl (lv_at hl 1 rfl) ?_
        refine lv_iload_n hx hb dX1_goesOn_158 rfl (lv_at hl 2 rfl) ?_
        refine lv_iconst (v := 1) hx hb dX1_goesOn_159 (by decide) ?_
        refine lv_isub hx hb dX1_goesOn_160 ?_
        refine lv_topi (fun v_160 e_160 => ?_)
        have t_160 := ti_subk rfl tk_1 (by omega) (by omega) e_160
        refine rd_ci (va_runV (As := [.int v_160]) (rest := []) ⟨hx, hb, hml, hown, hT⟩ (c_X1_pairAt l Z hZ g gl tf v_160 (by first | assumption | omega | decide) hG) (cwV 1 hT (tb_V (fun _ h => h) (tr_11 _ (List.mem_of_getElem? (i := 0) rfl)) (tr_11 _ (List.mem_of_getElem? (i := 1) rfl)) (tr_11 _ (List.mem_of_getElem? (i := 2) rfl)) (tr_1 _ (List.mem_of_getElem? (i := 14) rfl)) (tr_11 _ (List.mem_of_getElem? (i := 3) rfl))) rfl rfl rfl (by decide +kernel) ⟨Nat.le_of_ble_eq_true rfl, Nat.le_of_ble_eq_true rfl⟩) ⟨fun a U f mk q => ⟨q.1, XI.blind f mk a q.2⟩, va_recv hK hP (ci := 1) (q0 := 1) rfl xw_1, fun U hU hW => ⟨rfl, hI.at hS hP hU hW⟩⟩ rfl rfl hl.1 rfl (lv_room (Nat.le_of_ble_eq_true rfl)) dX1_goesOn_161 ⟨Nat.zero_le _, Nat.zero_le _⟩) (fun r_161 hr_161 => ?_)
        have d161 := (hr_161.1 (k - 1) (by omega) (by omega)).1
        rw [show k - 1 + 1 = k by omega] at d161
        refine lv_bipush (v := 63) hx hb dX1_goesOn_164 (by decide) ?_
        refine lv_icmp_gt (tgt := 173) hx hb dX1_goesOn_166 (by decide) (fun c_166 => ?_) (fun c_166 => ?_)
        · skip
          have i_166 := ti_ltk tk_63 rfl c_166
          refine lv_iconst (v := 0) hx hb dX1_goesOn_173 (by decide) ?_
          exact W.zret (v := 0) (ty := .boolean) hx hb hr rfl (fun t ht hW => ⟨0, rfl, Or.inr ⟨rfl, (fun q => by have q1 := ((ok8 (by omega)).mp q).2; omega)⟩, ht⟩) (fun q hq => by cases hq) dX1_goesOn_174
        · skip
          have i_166 := ti_nltk tk_63 rfl c_166
          refine lv_iconst (v := 1) hx hb dX1_goesOn_169 (by decide) ?_
          refine lv_goto (tgt := 174) hx hb dX1_goesOn_170 (by decide) ?_
          exact W.zret (v := 1) (ty := .boolean) hx hb hr rfl (fun t ht hW => ⟨1, rfl, Or.inl ⟨rfl, ((ok8 (by omega)).mpr (by omega))⟩, ht⟩) (fun q hq => by cases hq) dX1_goesOn_174
      · skip
        refine lv_if_eq (tgt := 173) hx hb dX1_goesOn_154 (by decide) (fun c_154 => ?_) (fun c_154 => absurd c_154 (by decide))
        refine lv_iconst (v := 0) hx hb dX1_goesOn_173 (by decide) ?_
        exact W.zret (v := 0) (ty := .boolean) hx hb hr rfl (fun t ht hW => ⟨0, rfl, Or.inr ⟨rfl, (fun q => by have q1 := ((ok8 (by omega)).mp q).2; omega)⟩, ht⟩) (fun q hq => by cases hq) dX1_goesOn_174
    by_cases w_18_9 : v_17 = 9
    · skip
      refine lv_tableIn (tgt := 175) (off := 157) hx hb dX1_goesOn_18 (by rw [w_18_9]; decide) (by rw [w_18_9]; decide) (by rw [w_18_9]; decide) (by decide) ?_
      have m_9 := ti_eqk rfl tk_9 w_18_9
      refine lv_iload_n hx hb dX1_goesOn_175 rfl (lv_at hl 0 rfl) ?_
      refine rd_ci (va_runS (As := [.int r_10]) (rest := []) ⟨hx, hb, hml, hown, hT⟩ (c_X1_isDigit l r_10) (va_cwS 1 hT (tb_S (fun _ h => h) (tr_10 _ (List.mem_of_getElem? (i := 17) rfl)) (tr_10 _ (List.mem_of_getElem? (i := 18) rfl)) (tr_1 _ (List.mem_of_getElem? (i := 14) rfl)) (tr_10 _ (List.mem_of_getElem? (i := 19) rfl))) rfl rfl rfl (by decide +kernel) ⟨Nat.le_of_ble_eq_true rfl, Nat.le_of_ble_eq_true rfl⟩) ⟨fun _ _ _ _ q => q, fun U hU hW => ⟨rfl, trivial⟩⟩ rfl rfl hl.1 rfl (lv_room (Nat.le_of_ble_eq_true rfl)) dX1_goesOn_176 ⟨Nat.zero_le _, Nat.zero_le _⟩) (fun r_176 hr_176 => ?_)
      rcases hr_176 with ⟨rfl, b_176⟩ | ⟨rfl, b_176⟩
      · skip
        refine lv_if_eq (tgt := 211) hx hb dX1_goesOn_179 (by decide) (fun c_179 => absurd c_179 (by decide)) (fun c_179 => ?_)
        refine lv_aload_n hx hb dX1_goesOn_182 rfl (lv_at hl 1 rfl) ?_
        refine lv_iload_n hx hb dX1_goesOn_183 rfl (lv_at hl 2 rfl) ?_
        refine rd_ci (va_runV (As := [.int x1]) (rest := []) ⟨hx, hb, hml, hown, hT⟩ (c_X1_digitAt l Z hZ g gl tf x1 (by first | assumption | omega | decide) hG) (cwV 1 hT (tb_V (fun _ h => h) (tr_10 _ (List.mem_of_getElem? (i := 20) rfl)) (tr_10 _ (List.mem_of_getElem? (i := 21) rfl)) (tr_10 _ (List.mem_of_getElem? (i := 22) rfl)) (tr_1 _ (List.mem_of_getElem? (i := 14) rfl)) (tr_10 _ (List.mem_of_getElem? (i := 23) rfl))) rfl rfl rfl (by decide +kernel) ⟨Nat.le_of_ble_eq_true rfl, Nat.le_of_ble_eq_true rfl⟩) ⟨fun a U f mk q => ⟨q.1, XI.blind f mk a q.2⟩, va_recv hK hP (ci := 1) (q0 := 1) rfl xw_1, fun U hU hW => ⟨rfl, hI.at hS hP hU hW⟩⟩ rfl rfl hl.1 rfl (lv_room (Nat.le_of_ble_eq_true rfl)) dX1_goesOn_184 ⟨Nat.zero_le _, Nat.zero_le _⟩) (fun r_184 hr_184 => ?_)
        have d184 := (hr_184.1 k hk2 hk).1
        refine lv_bipush (v := 6) hx hb dX1_goesOn_187 (by decide) ?_
        refine lv_icmp_gt (tgt := 211) hx hb dX1_goesOn_189 (by decide) (fun c_189 => ?_) (fun c_189 => ?_)
        · skip
          have i_189 := ti_ltk tk_6 rfl c_189
          refine lv_iconst (v := 0) hx hb dX1_goesOn_211 (by decide) ?_
          exact W.zret (v := 0) (ty := .boolean) hx hb hr rfl (fun t ht hW => ⟨0, rfl, Or.inr ⟨rfl, (fun q => by have q1 := ((ok9 (by omega)).mp q).2; omega)⟩, ht⟩) (fun q hq => by cases hq) dX1_goesOn_212
        · skip
          have i_189 := ti_nltk tk_6 rfl c_189
          refine lv_aload_n hx hb dX1_goesOn_192 rfl (lv_at hl 1 rfl) ?_
          refine lv_iload_n hx hb dX1_goesOn_193 rfl (lv_at hl 2 rfl) ?_
          refine rd_ci (va_runV (As := [.int x1]) (rest := []) ⟨hx, hb, hml, hown, hT⟩ (c_X1_digitAt l Z hZ g gl tf x1 (by first | assumption | omega | decide) hG) (cwV 1 hT (tb_V (fun _ h => h) (tr_10 _ (List.mem_of_getElem? (i := 20) rfl)) (tr_10 _ (List.mem_of_getElem? (i := 21) rfl)) (tr_10 _ (List.mem_of_getElem? (i := 22) rfl)) (tr_1 _ (List.mem_of_getElem? (i := 14) rfl)) (tr_10 _ (List.mem_of_getElem? (i := 23) rfl))) rfl rfl rfl (by decide +kernel) ⟨Nat.le_of_ble_eq_true rfl, Nat.le_of_ble_eq_true rfl⟩) ⟨fun a U f mk q => ⟨q.1, XI.blind f mk a q.2⟩, va_recv hK hP (ci := 1) (q0 := 1) rfl xw_1, fun U hU hW => ⟨rfl, hI.at hS hP hU hW⟩⟩ rfl rfl hl.1 rfl (lv_room (Nat.le_of_ble_eq_true rfl)) dX1_goesOn_194 ⟨Nat.zero_le _, Nat.zero_le _⟩) (fun r_194 hr_194 => ?_)
          have d194 := (hr_194.1 k hk2 hk).1
          refine lv_aload_n hx hb dX1_goesOn_197 rfl (lv_at hl 1 rfl) ?_
          refine lv_iload_n hx hb dX1_goesOn_198 rfl (lv_at hl 2 rfl) ?_
          refine lv_iconst (v := 2) hx hb dX1_goesOn_199 (by decide) ?_
          refine lv_isub hx hb dX1_goesOn_200 ?_
          refine lv_topi (fun v_200 e_200 => ?_)
          have t_200 := ti_subk rfl tk_2 (by omega) (by omega) e_200
          refine rd_ci (va_runV (As := [.int v_200]) (rest := [.int r_194]) ⟨hx, hb, hml, hown, hT⟩ (c_X1_digitAt l Z hZ g gl tf v_200 (by first | assumption | omega | decide) hG) (cwV 1 hT (tb_V (fun _ h => h) (tr_10 _ (List.mem_of_getElem? (i := 20) rfl)) (tr_10 _ (List.mem_of_getElem? (i := 21) rfl)) (tr_10 _ (List.mem_of_getElem? (i := 22) rfl)) (tr_1 _ (List.mem_of_getElem? (i := 14) rfl)) (tr_10 _ (List.mem_of_getElem? (i := 23) rfl))) rfl rfl rfl (by decide +kernel) ⟨Nat.le_of_ble_eq_true rfl, Nat.le_of_ble_eq_true rfl⟩) ⟨fun a U f mk q => ⟨q.1, XI.blind f mk a q.2⟩, va_recv hK hP (ci := 1) (q0 := 1) rfl xw_1, fun U hU hW => ⟨rfl, hI.at hS hP hU hW⟩⟩ rfl rfl hl.1 rfl (lv_room (Nat.le_of_ble_eq_true rfl)) dX1_goesOn_201 ⟨Nat.zero_le _, Nat.zero_le _⟩) (fun r_201 hr_201 => ?_)
          have d201 := (hr_201.1 (k - 2) (by omega) (by omega)).1
          refine lv_icmp_lt (tgt := 211) hx hb dX1_goesOn_204 (by decide) (fun c_204 => ?_) (fun c_204 => ?_)
          · skip
            have i_204 := ti_ltk rfl rfl c_204
            refine lv_iconst (v := 0) hx hb dX1_goesOn_211 (by decide) ?_
            exact W.zret (v := 0) (ty := .boolean) hx hb hr rfl (fun t ht hW => ⟨0, rfl, Or.inr ⟨rfl, (fun q => by have q1 := ((ok9 (by omega)).mp q).2; omega)⟩, ht⟩) (fun q hq => by cases hq) dX1_goesOn_212
          · skip
            have i_204 := ti_nltk rfl rfl c_204
            refine lv_iconst (v := 1) hx hb dX1_goesOn_207 (by decide) ?_
            refine lv_goto (tgt := 212) hx hb dX1_goesOn_208 (by decide) ?_
            exact W.zret (v := 1) (ty := .boolean) hx hb hr rfl (fun t ht hW => ⟨1, rfl, Or.inl ⟨rfl, ((ok9 (by omega)).mpr (by omega))⟩, ht⟩) (fun q hq => by cases hq) dX1_goesOn_212
      · skip
        refine lv_if_eq (tgt := 211) hx hb dX1_goesOn_179 (by decide) (fun c_179 => ?_) (fun c_179 => absurd c_179 (by decide))
        refine lv_iconst (v := 0) hx hb dX1_goesOn_211 (by decide) ?_
        exact W.zret (v := 0) (ty := .boolean) hx hb hr rfl (fun t ht hW => ⟨0, rfl, Or.inr ⟨rfl, (fun q => by have q1 := ((ok9 (by omega)).mp q).2; omega)⟩, ht⟩) (fun q hq => by cases hq) dX1_goesOn_212
    by_cases w_18_10 : v_17 = 10
    · skip
      refine lv_tableIn (tgt := 213) (off := 195) hx hb dX1_goesOn_18 (by rw [w_18_10]; decide) (by rw [w_18_10]; decide) (by rw [w_18_10]; decide) (by decide) ?_
      have m_10 := ti_eqk rfl tk_10 w_18_10
      refine lv_iload_n hx hb dX1_goesOn_213 rfl (lv_at hl 0 rfl) ?_
      refine rd_ci (va_runS (As := [.int r_10]) (rest := []) ⟨hx, hb, hml, hown, hT⟩ (c_X1_isDigit l r_10) (va_cwS 1 hT (tb_S (fun _ h => h) (tr_10 _ (List.mem_of_getElem? (i := 17) rfl)) (tr_10 _ (List.mem_of_getElem? (i := 18) rfl)) (tr_1 _ (List.mem_of_getElem? (i := 14) rfl)) (tr_10 _ (List.mem_of_getElem? (i := 19) rfl))) rfl rfl rfl (by decide +kernel) ⟨Nat.le_of_ble_eq_true rfl, Nat.le_of_ble_eq_true rfl⟩) ⟨fun _ _ _ _ q => q, fun U hU hW => ⟨rfl, trivial⟩⟩ rfl rfl hl.1 rfl (lv_room (Nat.le_of_ble_eq_true rfl)) dX1_goesOn_214 ⟨Nat.zero_le _, Nat.zero_le _⟩) (fun r_214 hr_214 => ?_)
      rcases hr_214 with ⟨rfl, b_214⟩ | ⟨rfl, b_214⟩
      · skip
        refine lv_if_eq (tgt := 253) hx hb dX1_goesOn_217 (by decide) (fun c_217 => absurd c_217 (by decide)) (fun c_217 => ?_)
        refine lv_aload_n hx hb dX1_goesOn_220 rfl (lv_at hl 1 rfl) ?_
        refine lv_iload_n hx hb dX1_goesOn_221 rfl (lv_at hl 2 rfl) ?_
        refine lv_iconst (v := 1) hx hb dX1_goesOn_222 (by decide) ?_
        refine lv_isub hx hb dX1_goesOn_223 ?_
        refine lv_topi (fun v_223 e_223 => ?_)
        have t_223 := ti_subk rfl tk_1 (by omega) (by omega) e_223
        refine rd_ci (va_runV (As := [.int v_223]) (rest := []) ⟨hx, hb, hml, hown, hT⟩ (c_X1_pairAt l Z hZ g gl tf v_223 (by first | assumption | omega | decide) hG) (cwV 1 hT (tb_V (fun _ h => h) (tr_11 _ (List.mem_of_getElem? (i := 0) rfl)) (tr_11 _ (List.mem_of_getElem? (i := 1) rfl)) (tr_11 _ (List.mem_of_getElem? (i := 2) rfl)) (tr_1 _ (List.mem_of_getElem? (i := 14) rfl)) (tr_11 _ (List.mem_of_getElem? (i := 3) rfl))) rfl rfl rfl (by decide +kernel) ⟨Nat.le_of_ble_eq_true rfl, Nat.le_of_ble_eq_true rfl⟩) ⟨fun a U f mk q => ⟨q.1, XI.blind f mk a q.2⟩, va_recv hK hP (ci := 1) (q0 := 1) rfl xw_1, fun U hU hW => ⟨rfl, hI.at hS hP hU hW⟩⟩ rfl rfl hl.1 rfl (lv_room (Nat.le_of_ble_eq_true rfl)) dX1_goesOn_224 ⟨Nat.zero_le _, Nat.zero_le _⟩) (fun r_224 hr_224 => ?_)
        have d224 := (hr_224.1 (k - 1) (by omega) (by omega)).1
        rw [show k - 1 + 1 = k by omega] at d224
        refine lv_bipush (v := 63) hx hb dX1_goesOn_227 (by decide) ?_
        refine lv_icmp_gt (tgt := 253) hx hb dX1_goesOn_229 (by decide) (fun c_229 => ?_) (fun c_229 => ?_)
        · skip
          have i_229 := ti_ltk tk_63 rfl c_229
          refine lv_iconst (v := 0) hx hb dX1_goesOn_253 (by decide) ?_
          exact W.zret (v := 0) (ty := .boolean) hx hb hr rfl (fun t ht hW => ⟨0, rfl, Or.inr ⟨rfl, (fun q => by have q1 := ((ok10 (by omega)).mp q).2; omega)⟩, ht⟩) (fun q hq => by cases hq) dX1_goesOn_254
        · skip
          have i_229 := ti_nltk tk_63 rfl c_229
          refine lv_aload_n hx hb dX1_goesOn_232 rfl (lv_at hl 1 rfl) ?_
          refine lv_iload_n hx hb dX1_goesOn_233 rfl (lv_at hl 2 rfl) ?_
          refine lv_iconst (v := 1) hx hb dX1_goesOn_234 (by decide) ?_
          refine lv_isub hx hb dX1_goesOn_235 ?_
          refine lv_topi (fun v_235 e_235 => ?_)
          have t_235 := ti_subk rfl tk_1 (by omega) (by omega) e_235
          refine rd_ci (va_runV (As := [.int v_235]) (rest := []) ⟨hx, hb, hml, hown, hT⟩ (c_X1_pairAt l Z hZ g gl tf v_235 (by first | assumption | omega | decide) hG) (cwV 1 hT (tb_V (fun _ h => h) (tr_11 _ (List.mem_of_getElem? (i := 0) rfl)) (tr_11 _ (List.mem_of_getElem? (i := 1) rfl)) (tr_11 _ (List.mem_of_getElem? (i := 2) rfl)) (tr_1 _ (List.mem_of_getElem? (i := 14) rfl)) (tr_11 _ (List.mem_of_getElem? (i := 3) rfl))) rfl rfl rfl (by decide +kernel) ⟨Nat.le_of_ble_eq_true rfl, Nat.le_of_ble_eq_true rfl⟩) ⟨fun a U f mk q => ⟨q.1, XI.blind f mk a q.2⟩, va_recv hK hP (ci := 1) (q0 := 1) rfl xw_1, fun U hU hW => ⟨rfl, hI.at hS hP hU hW⟩⟩ rfl rfl hl.1 rfl (lv_room (Nat.le_of_ble_eq_true rfl)) dX1_goesOn_236 ⟨Nat.zero_le _, Nat.zero_le _⟩) (fun r_236 hr_236 => ?_)
          have d236 := (hr_236.1 (k - 1) (by omega) (by omega)).1
          rw [show k - 1 + 1 = k by omega] at d236
          refine lv_aload_n hx hb dX1_goesOn_239 rfl (lv_at hl 1 rfl) ?_
          refine lv_iload_n hx hb dX1_goesOn_240 rfl (lv_at hl 2 rfl) ?_
          refine lv_iconst (v := 3) hx hb dX1_goesOn_241 (by decide) ?_
          refine lv_isub hx hb dX1_goesOn_242 ?_
          refine lv_topi (fun v_242 e_242 => ?_)
          have t_242 := ti_subk rfl tk_3 (by omega) (by omega) e_242
          refine rd_ci (va_runV (As := [.int v_242]) (rest := [.int r_236]) ⟨hx, hb, hml, hown, hT⟩ (c_X1_pairAt l Z hZ g gl tf v_242 (by first | assumption | omega | decide) hG) (cwV 1 hT (tb_V (fun _ h => h) (tr_11 _ (List.mem_of_getElem? (i := 0) rfl)) (tr_11 _ (List.mem_of_getElem? (i := 1) rfl)) (tr_11 _ (List.mem_of_getElem? (i := 2) rfl)) (tr_1 _ (List.mem_of_getElem? (i := 14) rfl)) (tr_11 _ (List.mem_of_getElem? (i := 3) rfl))) rfl rfl rfl (by decide +kernel) ⟨Nat.le_of_ble_eq_true rfl, Nat.le_of_ble_eq_true rfl⟩) ⟨fun a U f mk q => ⟨q.1, XI.blind f mk a q.2⟩, va_recv hK hP (ci := 1) (q0 := 1) rfl xw_1, fun U hU hW => ⟨rfl, hI.at hS hP hU hW⟩⟩ rfl rfl hl.1 rfl (lv_room (Nat.le_of_ble_eq_true rfl)) dX1_goesOn_243 ⟨Nat.zero_le _, Nat.zero_le _⟩) (fun r_243 hr_243 => ?_)
          have d243 := (hr_243.1 (k - 3) (by omega) (by omega)).1
          rw [show k - 3 + 1 = k - 2 by omega] at d243
          refine lv_icmp_lt (tgt := 253) hx hb dX1_goesOn_246 (by decide) (fun c_246 => ?_) (fun c_246 => ?_)
          · skip
            have i_246 := ti_ltk rfl rfl c_246
            refine lv_iconst (v := 0) hx hb dX1_goesOn_253 (by decide) ?_
            exact W.zret (v := 0) (ty := .boolean) hx hb hr rfl (fun t ht hW => ⟨0, rfl, Or.inr ⟨rfl, (fun q => by have q1 := ((ok10 (by omega)).mp q).2; omega)⟩, ht⟩) (fun q hq => by cases hq) dX1_goesOn_254
          · skip
            have i_246 := ti_nltk rfl rfl c_246
            refine lv_iconst (v := 1) hx hb dX1_goesOn_249 (by decide) ?_
            refine lv_goto (tgt := 254) hx hb dX1_goesOn_250 (by decide) ?_
            exact W.zret (v := 1) (ty := .boolean) hx hb hr rfl (fun t ht hW => ⟨1, rfl, Or.inl ⟨rfl, ((ok10 (by omega)).mpr (by omega))⟩, ht⟩) (fun q hq => by cases hq) dX1_goesOn_254
      · skip
        refine lv_if_eq (tgt := 253) hx hb dX1_goesOn_217 (by decide) (fun c_217 => ?_) (fun c_217 => absurd c_217 (by decide))
        refine lv_iconst (v := 0) hx hb dX1_goesOn_253 (by decide) ?_
        exact W.zret (v := 0) (ty := .boolean) hx hb hr rfl (fun t ht hW => ⟨0, rfl, Or.inr ⟨rfl, (fun q => by have q1 := ((ok10 (by omega)).mp q).2; omega)⟩, ht⟩) (fun q hq => by cases hq) dX1_goesOn_254
    have n_18_0 := ti_nek rfl tk_0 w_18_0
    have n_18_1 := ti_nek rfl tk_1 w_18_1
    have n_18_2 := ti_nek rfl tk_2 w_18_2
    have n_18_3 := ti_nek rfl tk_3 w_18_3
    have n_18_4 := ti_nek rfl tk_4 w_18_4
    have n_18_5 := ti_nek rfl tk_5 w_18_5
    have n_18_6 := ti_nek rfl tk_6 w_18_6
    have n_18_7 := ti_nek rfl tk_7 w_18_7
    have n_18_8 := ti_nek rfl tk_8 w_18_8
    have n_18_9 := ti_nek rfl tk_9 w_18_9
    have n_18_10 := ti_nek rfl tk_10 w_18_10
    refine lv_tableOut (tgt := 255) hx hb dX1_goesOn_18 (by omega) (by decide) ?_
    refine lv_iload_n hx hb dX1_goesOn_255 rfl (lv_at hl 0 rfl) ?_
    refine lv_bipush (v := 44) hx hb dX1_goesOn_256 (by decide) ?_
    refine lv_icmp_ne (tgt := 265) hx hb dX1_goesOn_258 (by decide) (fun c_258 => ?_) (fun c_258 => ?_)
    · skip
      have i_258 := ti_nek rfl tk_44 c_258
      refine lv_iconst (v := 0) hx hb dX1_goesOn_265 (by decide) ?_
      exact W.zret (v := 0) (ty := .boolean) hx hb hr rfl (fun t ht hW => ⟨0, rfl, Or.inr ⟨rfl, (fun q => by have q1 := ((ok11 (by omega)).mp q).2; omega)⟩, ht⟩) (fun q hq => by cases hq) dX1_goesOn_266
    · skip
      have i_258 := ti_eqk rfl tk_44 c_258
      refine lv_iconst (v := 1) hx hb dX1_goesOn_261 (by decide) ?_
      refine lv_goto (tgt := 266) hx hb dX1_goesOn_262 (by decide) ?_
      exact W.zret (v := 1) (ty := .boolean) hx hb hr rfl (fun t ht hW => ⟨1, rfl, Or.inl ⟨rfl, ((ok11 (by omega)).mpr (by omega))⟩, ht⟩) (fun q hq => by cases hq) dX1_goesOn_266
  · skip
    have i_3 := ti_nltk rfl tk_47 c_3
    refine lv_iconst (v := 0) hx hb dX1_goesOn_6 (by decide) ?_
    exact W.zret (v := 0) (ty := .boolean) hx hb hr rfl (fun t ht hW => ⟨0, rfl, Or.inr ⟨rfl, (fun q => by have q1 := q.1; omega)⟩, ht⟩) (fun q hq => by cases hq) dX1_goesOn_7
set_option maxHeartbeats 4000000 in
set_option maxRecDepth 100000 in
theorem c_X1_firstWrong (l : Launch) (Z : ZT) (hZ : XG Z) (g : Nat → Nat → Int32) (gl : Nat → Nat → Int64) (tf : Nat → Nat → Int32) (hp : ∀ i : Nat, 0 ≤ (g 2 i).toInt ∧ (g 2 i).toInt ≤ 126) (hn0 : 0 ≤ (g 1 1).toInt ∧ (g 1 1).toInt ≤ 50) (hG : Gd Z tf) : Met l yX1_firstWrong (Cond.code yX1_firstWrong cX1_firstWrong 2 (some .int) :: wsL_law) ({ frames := 5, cells := 0, slots := 0, locals := 113 } : Room) (va_Pc [.ref (za Z 1)] (XI Z g gl tf)) (rd_Qi (fun r => (∃ k : Nat, r.toInt = k ∧ fwp (g 2) (g 1 1).toInt k))) 0 0 (fun _ => False) := by
  refine Met.ofW (cc := cX1_firstWrong) (maxL := 2) (ret := (some .int)) (by decide) rfl ?_
  intro p e s m args below meth c s₁ B hml hv
  obtain ⟨rfl, hI⟩ := hv
  have hx := B.exec
  have hb := B.bytes
  have hr := B.returns
  have hT : ∀ w ∈ wsL_law, w.before ([.ref (za Z 1)] : List Value).toArray s = true := fun w h => atoms_spec (ws := (Cond.code yX1_firstWrong cX1_firstWrong 2 (some .int) :: wsL_law)) B.pre w (List.mem_cons_of_mem _ h)
  have hown : s.vm.findClass RX1 = some m.cls := findClass_of_methodNamed B.named
  have hlocks := B.notSynchronized
  have hK := hI.2.1
  have hP := hI.1
  have hS : va_S (zA Z) s.heap s.heap [] := va_S.rf
  have hl := lv_entry ([.ref (za Z 1)]) (n := 2) (Nat.le_of_ble_eq_true rfl)
  rw [lg_entry_eq]
  generalize (lg_sl ([.ref (za Z 1)]) ++ List.replicate (2 - (lg_sl ([.ref (za Z 1)])).length) Slot.unset).toArray = ls at hl ⊢
  have hl : lv_has ls 2 [(0, .ref (za Z 1))] := hl
  have L2 : ∀ (n : Nat) (z1 : Int32)  (h1 : 0 ≤ z1.toInt ∧ z1.toInt ≤ (g 1 1).toInt) (h2 : ∀ j : Nat, (j : Int) < z1.toInt → okp (g 2) j) (hn : ((g 1 1).toInt - z1.toInt).toNat < n) (ls : Array Slot) (hl : lv_has ls 2 [(0, .ref (za Z 1)), (1, .int z1)]), W p l e ({ frames := 5, cells := 0, slots := 0, locals := 113 } : Room) s m ([.ref (za Z 1)] : List Value).toArray below meth c s.heap [] 0 0 (MQ below (rd_Qi (fun r => (∃ k : Nat, r.toInt = k ∧ fwp (g 2) (g 1 1).toInt k))) ([.ref (za Z 1)] : List Value).toArray s 0 0 (fun _ => False)) (F0 m 2 ls []) := by
    intro n
    induction n with
    | zero => intro z1 h1 h2 hn; exact absurd hn (Nat.not_lt_zero _)
    | succ n ih2 =>
      intro z1 h1 h2 hn ls hl
      refine lv_iload_n hx hb dX1_firstWrong_2 rfl (lv_at hl 1 rfl) ?_
      refine lv_aload_n hx hb dX1_firstWrong_3 rfl (lv_at hl 0 rfl) ?_
      refine va_get (D := zD Z) (ci := 1) (v := .int (g 1 1)) (C := RX1) (T := TX1) (N := 2) hx hb hT inlX1 hown hK hP 1 xw_1 rfl 1 (by decide) (hT _ (tr_5 _ (List.mem_of_getElem? (i := 18) rfl))) (fun _ h9 => h9) rfl dX1_firstWrong_4 ?_
      refine lv_icmp_ge (tgt := 24) hx hb dX1_firstWrong_7 (by decide) (fun c_7 => ?_) (fun c_7 => ?_)
      · skip
        have i_7 := ti_lek rfl rfl c_7
        refine lv_iload_n hx hb dX1_firstWrong_24 rfl (lv_at hl 1 rfl) ?_
        exact W.iret (v := z1) hx hb hr (fun t ht hW => ⟨z1, rfl, ⟨z1.toInt.toNat, by omega, by omega, fun j hj => h2 j (by omega), fun hq => by first | exact b_12 | omega⟩, ht⟩) (fun q hq => by cases hq) dX1_firstWrong_25
      · skip
        have i_7 := ti_nlek rfl rfl c_7
        refine lv_aload_n hx hb dX1_firstWrong_10 rfl (lv_at hl 0 rfl) ?_
        refine lv_iload_n hx hb dX1_firstWrong_11 rfl (lv_at hl 1 rfl) ?_
        refine rd_ci (va_runV (As := [.int z1]) (rest := []) ⟨hx, hb, hml, hown, hT⟩ (c_X1_goesOn l Z hZ g gl tf z1 z1.toInt.toNat (by omega) (by omega) (by first | assumption | omega | decide) hG) (cwV 1 hT (tb_V (fun _ h => h) (tr_6 _ (List.mem_of_getElem? (i := 19) rfl)) (tr_6 _ (List.mem_of_getElem? (i := 20) rfl)) (tr_6 _ (List.mem_of_getElem? (i := 21) rfl)) (tr_1 _ (List.mem_of_getElem? (i := 14) rfl)) (tr_6 _ (List.mem_of_getElem? (i := 22) rfl))) rfl rfl rfl (by decide +kernel) ⟨Nat.le_of_ble_eq_true rfl, Nat.le_of_ble_eq_true rfl⟩) ⟨fun a U f mk q => ⟨q.1, XI.blind f mk a q.2⟩, va_recv hK hP (ci := 1) (q0 := 1) rfl xw_1, fun U hU hW => ⟨rfl, hI.at hS hP hU hW⟩⟩ rfl rfl hl.1 rfl (lv_room (Nat.le_of_ble_eq_true rfl)) dX1_firstWrong_12 ⟨Nat.zero_le _, Nat.zero_le _⟩) (fun r_12 hr_12 => ?_)
        rcases hr_12 with ⟨rfl, b_12⟩ | ⟨rfl, b_12⟩
        · skip
          refine lv_if_eq (tgt := 24) hx hb dX1_firstWrong_15 (by decide) (fun c_15 => absurd c_15 (by decide)) (fun c_15 => ?_)
          obtain ⟨v_18, e_18⟩ : ∃ y : Int32, y = z1 + 1 := ⟨_, rfl⟩
          refine lv_iinc (v := v_18) (lv' := [(1, .int v_18), (0, .ref (za Z 1))]) hx hb dX1_firstWrong_18 hl (k := 1) rfl (by rw [e_18]; rfl) (by decide) rfl (fun ls hl => ?_)
          have t_18 := ti_addk rfl tk_1 (by omega) (by omega) e_18
          refine lv_goto (tgt := 2) hx hb dX1_firstWrong_21 (by decide) ?_
          exact ih2 v_18 (by omega) (fun j hj => by rcases Int.lt_or_le (j : Int) z1.toInt with q | q; exact h2 j q; rw [show j = z1.toInt.toNat by omega]; exact b_12) (by omega) ls (lv_sub hl [1, 0] rfl)
        · skip
          refine lv_if_eq (tgt := 24) hx hb dX1_firstWrong_15 (by decide) (fun c_15 => ?_) (fun c_15 => absurd c_15 (by decide))
          refine lv_iload_n hx hb dX1_firstWrong_24 rfl (lv_at hl 1 rfl) ?_
          exact W.iret (v := z1) hx hb hr (fun t ht hW => ⟨z1, rfl, ⟨z1.toInt.toNat, by omega, by omega, fun j hj => h2 j (by omega), fun hq => by first | exact b_12 | omega⟩, ht⟩) (fun q hq => by cases hq) dX1_firstWrong_25
  refine lv_iconst (v := 0) hx hb dX1_firstWrong_0 (by decide) ?_
  refine lv_istore_n (lv' := [(1, .int 0), (0, .ref (za Z 1))]) hx hb dX1_firstWrong_1 rfl hl (by decide) rfl (fun ls hl => ?_)
  exact L2 _ 0 ⟨by decide, by rw [tk_0]; omega⟩ (fun j hj => by rw [tk_0] at hj; omega) (Nat.lt_succ_self _) ls (lv_sub hl [1, 0] rfl)
set_option maxHeartbeats 4000000 in
set_option maxRecDepth 100000 in
theorem c_X1_isWholeDesk (l : Launch) (Z : ZT) (hZ : XG Z) (g : Nat → Nat → Int32) (gl : Nat → Nat → Int64) (tf : Nat → Nat → Int32) (hp : ∀ i : Nat, 0 ≤ (g 2 i).toInt ∧ (g 2 i).toInt ≤ 126) (hn0 : 0 ≤ (g 1 1).toInt ∧ (g 1 1).toInt ≤ 50) (hG : Gd Z tf) : Met l yX1_isWholeDesk (Cond.code yX1_isWholeDesk cX1_isWholeDesk 1 (some .boolean) :: wsL_law) ({ frames := 6, cells := 0, slots := 0, locals := 134 } : Room) (va_Pc [.ref (za Z 1)] (XI Z g gl tf)) (rd_Qi (fun r => (r = 1 ∧ whp (g 2) (g 1 1).toInt) ∨ (r = 0 ∧ ¬ whp (g 2) (g 1 1).toInt))) 0 0 (fun _ => False) := by
  refine Met.ofW (cc := cX1_isWholeDesk) (maxL := 1) (ret := (some .boolean)) (by decide) rfl ?_
  intro p e s m args below meth c s₁ B hml hv
  obtain ⟨rfl, hI⟩ := hv
  have hx := B.exec
  have hb := B.bytes
  have hr := B.returns
  have hT : ∀ w ∈ wsL_law, w.before ([.ref (za Z 1)] : List Value).toArray s = true := fun w h => atoms_spec (ws := (Cond.code yX1_isWholeDesk cX1_isWholeDesk 1 (some .boolean) :: wsL_law)) B.pre w (List.mem_cons_of_mem _ h)
  have hown : s.vm.findClass RX1 = some m.cls := findClass_of_methodNamed B.named
  have hlocks := B.notSynchronized
  have hK := hI.2.1
  have hP := hI.1
  have hS : va_S (zA Z) s.heap s.heap [] := va_S.rf
  have hl := lv_entry ([.ref (za Z 1)]) (n := 1) (Nat.le_of_ble_eq_true rfl)
  rw [lg_entry_eq]
  generalize (lg_sl ([.ref (za Z 1)]) ++ List.replicate (1 - (lg_sl ([.ref (za Z 1)])).length) Slot.unset).toArray = ls at hl ⊢
  have hl : lv_has ls 1 [(0, .ref (za Z 1))] := hl
  refine lv_aload_n hx hb dX1_isWholeDesk_0 rfl (lv_at hl 0 rfl) ?_
  refine va_get (D := zD Z) (ci := 1) (v := .int (g 1 1)) (C := RX1) (T := TX1) (N := 2) hx hb hT inlX1 hown hK hP 1 xw_1 rfl 1 (by decide) (hT _ (tr_5 _ (List.mem_of_getElem? (i := 18) rfl))) (fun _ h9 => h9) rfl dX1_isWholeDesk_1 ?_
  refine lv_bipush (v := 12) hx hb dX1_isWholeDesk_4 (by decide) ?_
  refine lv_irem hx hb dX1_isWholeDesk_6 (by decide) ?_
  refine lv_topi (fun v_6 e_6 => ?_)
  have t_6 := ti_remk rfl tk_12 (by omega) (by omega) e_6
  refine lv_bipush (v := 11) hx hb dX1_isWholeDesk_7 (by decide) ?_
  refine lv_icmp_ne (tgt := 27) hx hb dX1_isWholeDesk_9 (by decide) (fun c_9 => ?_) (fun c_9 => ?_)
  · skip
    have i_9 := ti_nek rfl tk_11 c_9
    refine lv_iconst (v := 0) hx hb dX1_isWholeDesk_27 (by decide) ?_
    exact W.zret (v := 0) (ty := .boolean) hx hb hr rfl (fun t ht hW => ⟨0, rfl, Or.inr ⟨rfl, (fun hw => by first | (have hq := hw.1; omega) | (obtain ⟨k, q1, q2⟩ := hr_13; have hq := fwp_one hw.2 q2; omega))⟩, ht⟩) (fun q hq => by cases hq) dX1_isWholeDesk_28
  · skip
    have i_9 := ti_eqk rfl tk_11 c_9
    refine lv_aload_n hx hb dX1_isWholeDesk_12 rfl (lv_at hl 0 rfl) ?_
    refine rd_ci (va_runV (As := []) (rest := []) ⟨hx, hb, hml, hown, hT⟩ (c_X1_firstWrong l Z hZ g gl tf (by first | assumption | omega | decide) (by first | assumption | omega | decide) hG) (cwV 0 hT (tb_V (fun _ h => h) (tr_13 _ (List.mem_of_getElem? (i := 2) rfl)) (tr_6 _ (List.mem_of_getElem? (i := 16) rfl)) (tr_6 _ (List.mem_of_getElem? (i := 17) rfl)) (tr_1 _ (List.mem_of_getElem? (i := 14) rfl)) (tr_6 _ (List.mem_of_getElem? (i := 18) rfl))) rfl rfl rfl (by decide +kernel) ⟨Nat.le_of_ble_eq_true rfl, Nat.le_of_ble_eq_true rfl⟩) ⟨fun a U f mk q => ⟨q.1, XI.blind f mk a q.2⟩, va_recv hK hP (ci := 1) (q0 := 1) rfl xw_1, fun U hU hW => ⟨rfl, hI.at hS hP hU hW⟩⟩ rfl rfl hl.1 rfl (lv_room (Nat.le_of_ble_eq_true rfl)) dX1_isWholeDesk_13 ⟨Nat.zero_le _, Nat.zero_le _⟩) (fun r_13 hr_13 => ?_)
    refine lv_aload_n hx hb dX1_isWholeDesk_16 rfl (lv_at hl 0 rfl) ?_
    refine va_get (D := zD Z) (ci := 1) (v := .int (g 1 1)) (C := RX1) (T := TX1) (N := 2) hx hb hT inlX1 hown hK hP 1 xw_1 rfl 1 (by decide) (hT _ (tr_5 _ (List.mem_of_getElem? (i := 18) rfl))) (fun _ h9 => h9) rfl dX1_isWholeDesk_17 ?_
    refine lv_icmp_ne (tgt := 27) hx hb dX1_isWholeDesk_20 (by decide) (fun c_20 => ?_) (fun c_20 => ?_)
    · skip
      have i_20 := ti_nek rfl rfl c_20
      refine lv_iconst (v := 0) hx hb dX1_isWholeDesk_27 (by decide) ?_
      exact W.zret (v := 0) (ty := .boolean) hx hb hr rfl (fun t ht hW => ⟨0, rfl, Or.inr ⟨rfl, (fun hw => by first | (have hq := hw.1; omega) | (obtain ⟨k, q1, q2⟩ := hr_13; have hq := fwp_one hw.2 q2; omega))⟩, ht⟩) (fun q hq => by cases hq) dX1_isWholeDesk_28
    · skip
      have i_20 := ti_eqk rfl rfl c_20
      refine lv_iconst (v := 1) hx hb dX1_isWholeDesk_23 (by decide) ?_
      refine lv_goto (tgt := 28) hx hb dX1_isWholeDesk_24 (by decide) ?_
      exact W.zret (v := 1) (ty := .boolean) hx hb hr rfl (fun t ht hW => ⟨1, rfl, Or.inl ⟨rfl, ⟨by omega, by obtain ⟨k, q1, q2⟩ := hr_13; rw [show (g 1 1).toInt.toNat = k by omega]; exact q2⟩⟩, ht⟩) (fun q hq => by cases hq) dX1_isWholeDesk_28
set_option maxHeartbeats 4000000 in
set_option maxRecDepth 100000 in
theorem c_X1_readTariff (l : Launch) (Z : ZT) (hZ : XG Z) (g : Nat → Nat → Int32) (gl : Nat → Nat → Int64) (tf : Nat → Nat → Int32) (x1 : Int32) (a : Nat) (ha : a ∈ zL Z) (hp : ∀ i : Nat, 0 ≤ (g 2 i).toInt ∧ (g 2 i).toInt ≤ 126) (k : Nat) (hk : x1.toInt = k) (hk2 : k ≤ 36) (hk3 : k % 12 = 0) (hok : ∀ j, j < k + 11 → okp (g 2) j) (hG : Gd Z tf) : Met l yX1_readTariff (Cond.code yX1_readTariff cX1_readTariff 6 none :: wsL_law) ({ frames := 4, cells := 0, slots := 0, locals := 91 } : Room) (va_Pc [.ref (za Z 1), .int x1, .ref a] (XI Z g gl tf)) (va_Qv (fun (u : (Nat → Nat → Int32) × (Nat → Nat → Int64) × (Nat → Nat → Int32)) => Fr [] g u.1 ∧ Gd Z u.2.2 ∧ (wrT tf a (rdT (g 2) x1.toInt.toNat 0) (rdT (g 2) x1.toInt.toNat 1) (rdT (g 2) x1.toInt.toNat 2) (rdT (g 2) x1.toInt.toNat 3) (rdT (g 2) x1.toInt.toNat 4)) = u.2.2 ∧ g = u.1) (fun u t => va_P (zD Z) vwCl (xw Z u.1 u.2.1 u.2.2) t.heap) (zA Z)) 0 0 (zA Z) := by
  refine Met.ofW (cc := cX1_readTariff) (maxL := 6) (ret := none) (by decide) rfl ?_
  intro p e s m args below meth c s₁ B hml hv
  obtain ⟨rfl, hI⟩ := hv
  have hx := B.exec
  have hb := B.bytes
  have hr := B.returns
  have hT : ∀ w ∈ wsL_law, w.before ([.ref (za Z 1), .int x1, .ref a] : List Value).toArray s = true := fun w h => atoms_spec (ws := (Cond.code yX1_readTariff cX1_readTariff 6 none :: wsL_law)) B.pre w (List.mem_cons_of_mem _ h)
  have hown : s.vm.findClass RX1 = some m.cls := findClass_of_methodNamed B.named
  have hlocks := B.notSynchronized
  have hK := hI.2.1
  have hP := hI.1
  have hS : va_S (zA Z) s.heap s.heap [] := va_S.rf
  have hF : Fr [] g g := Fr.rf
  have o7 := ((ok7 (by omega)).mp (hok (k + 7) (by omega))).2
  have o8 := ((ok8 (by omega)).mp (hok (k + 8) (by omega))).2
  rw [show k + 8 - 1 = k + 7 by omega] at o8
  have o9 := ((ok9 (by omega)).mp (hok (k + 9) (by omega))).2
  have o10 := ((ok10 (by omega)).mp (hok (k + 10) (by omega))).2
  rw [show k + 10 - 1 = k + 9 by omega] at o10
  have hl := lv_entry ([.ref (za Z 1), .int x1, .ref a]) (n := 6) (Nat.le_of_ble_eq_true rfl)
  rw [lg_entry_eq]
  generalize (lg_sl ([.ref (za Z 1), .int x1, .ref a]) ++ List.replicate (6 - (lg_sl ([.ref (za Z 1), .int x1, .ref a])).length) Slot.unset).toArray = ls at hl ⊢
  have hl : lv_has ls 6 [(0, .ref (za Z 1)), (1, .int x1), (2, .ref a)] := hl
  refine va_ldcS hx hb hown hI.2.2.2.1 dX1_readTariff_0 ?_
  refine lv_aload_n hx hb dX1_readTariff_2 rfl (lv_at hl 0 rfl) ?_
  refine lv_iload_n hx hb dX1_readTariff_3 rfl (lv_at hl 1 rfl) ?_
  refine rd_ci (va_runV (As := [.int x1]) (rest := [.ref (zK Z)]) ⟨hx, hb, hml, hown, hT⟩ (c_X1_letterAt l Z hZ g gl tf x1 (by first | assumption | omega | decide) hG) (cwV 1 hT (tb_V (fun _ h => h) (tr_6 _ (List.mem_of_getElem? (i := 23) rfl)) (tr_7 _ (List.mem_of_getElem? (i := 0) rfl)) (tr_7 _ (List.mem_of_getElem? (i := 1) rfl)) (tr_1 _ (List.mem_of_getElem? (i := 14) rfl)) (tr_7 _ (List.mem_of_getElem? (i := 2) rfl))) rfl rfl rfl (by decide +kernel) ⟨Nat.le_of_ble_eq_true rfl, Nat.le_of_ble_eq_true rfl⟩) ⟨fun a U f mk q => ⟨q.1, XI.blind f mk a q.2⟩, va_recv hK hP (ci := 1) (q0 := 1) rfl xw_1, fun U hU hW => ⟨rfl, hI.at hS hP hU hW⟩⟩ rfl rfl hl.1 rfl (lv_room (Nat.le_of_ble_eq_true rfl)) dX1_readTariff_4 ⟨Nat.zero_le _, Nat.zero_le _⟩) (fun r_4 hr_4 => ?_)
  have q4 := hr_4.2
  have l4 := hr_4.1 k (by omega) hk
  refine lv_i2c hx hb dX1_readTariff_7 rfl ?_
  refine lv_topi (fun v_7 e_7 => ?_)
  refine rd_ci (va_runV (As := [.int v_7]) (rest := []) ⟨hx, hb, hml, hown, hT⟩ (c_J0_indexOf_0f7a4 l Z hZ g gl tf v_7 (by rw [e_7, ti_char (by omega) (by omega)]; omega) hG) (cwV 1 hT (tb_V (fun _ h => h) (tr_7 _ (List.mem_of_getElem? (i := 3) rfl)) (tr_7 _ (List.mem_of_getElem? (i := 4) rfl)) (tr_7 _ (List.mem_of_getElem? (i := 5) rfl)) (tr_7 _ (List.mem_of_getElem? (i := 6) rfl)) (tr_7 _ (List.mem_of_getElem? (i := 7) rfl))) rfl rfl rfl (by decide +kernel) ⟨Nat.le_of_ble_eq_true rfl, Nat.le_of_ble_eq_true rfl⟩) ⟨fun a U f mk q => ⟨q.1, XI.blind f mk a q.2⟩, vk_recv hI.2.2.2.2.1 (i := 0) (by decide) hS, fun U hU hW => ⟨rfl, hI.at hS hP hU hW⟩⟩ rfl rfl hl.1 rfl (lv_room (Nat.le_of_ble_eq_true rfl)) dX1_readTariff_8 ⟨Nat.zero_le _, Nat.zero_le _⟩) (fun r_8 hr_8 => ?_)
  rw [e_7, ti_char (by omega) (by omega), l4] at hr_8
  refine lv_istore_n (lv' := [(3, .int r_8), (0, .ref (za Z 1)), (1, .int x1), (2, .ref a)]) hx hb dX1_readTariff_11 rfl hl (by decide) rfl (fun ls hl => ?_)
  refine lv_aload_n hx hb dX1_readTariff_12 rfl (lv_at hl 1 rfl) ?_
  refine lv_iload_n hx hb dX1_readTariff_13 rfl (lv_at hl 2 rfl) ?_
  refine lv_iconst (v := 1) hx hb dX1_readTariff_14 (by decide) ?_
  refine lv_iadd hx hb dX1_readTariff_15 ?_
  refine lv_topi (fun v_15 e_15 => ?_)
  have t_15 := ti_addk rfl tk_1 (by omega) (by omega) e_15
  refine rd_ci (va_runV (As := [.int v_15]) (rest := []) ⟨hx, hb, hml, hown, hT⟩ (c_X1_signAt l Z hZ g gl tf v_15 (by first | assumption | omega | decide) hG) (cwV 1 hT (tb_V (fun _ h => h) (tr_13 _ (List.mem_of_getElem? (i := 13) rfl)) (tr_13 _ (List.mem_of_getElem? (i := 14) rfl)) (tr_13 _ (List.mem_of_getElem? (i := 15) rfl)) (tr_1 _ (List.mem_of_getElem? (i := 14) rfl)) (tr_13 _ (List.mem_of_getElem? (i := 16) rfl))) rfl rfl rfl (by decide +kernel) ⟨Nat.le_of_ble_eq_true rfl, Nat.le_of_ble_eq_true rfl⟩) ⟨fun a U f mk q => ⟨q.1, XI.blind f mk a q.2⟩, va_recv hK hP (ci := 1) (q0 := 1) rfl xw_1, fun U hU hW => ⟨rfl, hI.at hS hP hU hW⟩⟩ rfl rfl hl.1 rfl (lv_room (Nat.le_of_ble_eq_true rfl)) dX1_readTariff_16 ⟨Nat.zero_le _, Nat.zero_le _⟩) (fun r_16 hr_16 => ?_)
  have l16 := hr_16 (k + 1) (by omega) (by omega)
  refine lv_aload_n hx hb dX1_readTariff_19 rfl (lv_at hl 1 rfl) ?_
  refine lv_iload_n hx hb dX1_readTariff_20 rfl (lv_at hl 2 rfl) ?_
  refine lv_iconst (v := 2) hx hb dX1_readTariff_21 (by decide) ?_
  refine lv_iadd hx hb dX1_readTariff_22 ?_
  refine lv_topi (fun v_22 e_22 => ?_)
  have t_22 := ti_addk rfl tk_2 (by omega) (by omega) e_22
  refine rd_ci (va_runV (As := [.int v_22]) (rest := [.int r_16]) ⟨hx, hb, hml, hown, hT⟩ (c_X1_digitAt l Z hZ g gl tf v_22 (by first | assumption | omega | decide) hG) (cwV 1 hT (tb_V (fun _ h => h) (tr_10 _ (List.mem_of_getElem? (i := 20) rfl)) (tr_10 _ (List.mem_of_getElem? (i := 21) rfl)) (tr_10 _ (List.mem_of_getElem? (i := 22) rfl)) (tr_1 _ (List.mem_of_getElem? (i := 14) rfl)) (tr_10 _ (List.mem_of_getElem? (i := 23) rfl))) rfl rfl rfl (by decide +kernel) ⟨Nat.le_of_ble_eq_true rfl, Nat.le_of_ble_eq_true rfl⟩) ⟨fun a U f mk q => ⟨q.1, XI.blind f mk a q.2⟩, va_recv hK hP (ci := 1) (q0 := 1) rfl xw_1, fun U hU hW => ⟨rfl, hI.at hS hP hU hW⟩⟩ rfl rfl hl.1 rfl (lv_room (Nat.le_of_ble_eq_true rfl)) dX1_readTariff_23 ⟨Nat.zero_le _, Nat.zero_le _⟩) (fun r_23 hr_23 => ?_)
  have l23 := (hr_23.1 (k + 2) (by omega) (by omega)).2
  refine lv_imul hx hb dX1_readTariff_26 ?_
  refine lv_topi (fun v_26 e_26 => ?_)
  refine lv_istore (lv' := [(4, .int v_26), (3, .int r_8), (0, .ref (za Z 1)), (1, .int x1), (2, .ref a)]) hx hb dX1_readTariff_27 hl (by decide) rfl (fun ls hl => ?_)
  refine lv_aload_n hx hb dX1_readTariff_29 rfl (lv_at hl 2 rfl) ?_
  refine lv_iload_n hx hb dX1_readTariff_30 rfl (lv_at hl 3 rfl) ?_
  refine lv_iconst (v := 3) hx hb dX1_readTariff_31 (by decide) ?_
  refine lv_iadd hx hb dX1_readTariff_32 ?_
  refine lv_topi (fun v_32 e_32 => ?_)
  have t_32 := ti_addk rfl tk_3 (by omega) (by omega) e_32
  refine rd_ci (va_runV (As := [.int v_32]) (rest := []) ⟨hx, hb, hml, hown, hT⟩ (c_X1_signAt l Z hZ g gl tf v_32 (by first | assumption | omega | decide) hG) (cwV 1 hT (tb_V (fun _ h => h) (tr_13 _ (List.mem_of_getElem? (i := 13) rfl)) (tr_13 _ (List.mem_of_getElem? (i := 14) rfl)) (tr_13 _ (List.mem_of_getElem? (i := 15) rfl)) (tr_1 _ (List.mem_of_getElem? (i := 14) rfl)) (tr_13 _ (List.mem_of_getElem? (i := 16) rfl))) rfl rfl rfl (by decide +kernel) ⟨Nat.le_of_ble_eq_true rfl, Nat.le_of_ble_eq_true rfl⟩) ⟨fun a U f mk q => ⟨q.1, XI.blind f mk a q.2⟩, va_recv hK hP (ci := 1) (q0 := 1) rfl xw_1, fun U hU hW => ⟨rfl, hI.at hS hP hU hW⟩⟩ rfl rfl hl.1 rfl (lv_room (Nat.le_of_ble_eq_true rfl)) dX1_readTariff_33 ⟨Nat.zero_le _, Nat.zero_le _⟩) (fun r_33 hr_33 => ?_)
  have l33 := hr_33 (k + 3) (by omega) (by omega)
  refine lv_aload_n hx hb dX1_readTariff_36 rfl (lv_at hl 2 rfl) ?_
  refine lv_iload_n hx hb dX1_readTariff_37 rfl (lv_at hl 3 rfl) ?_
  refine lv_iconst (v := 4) hx hb dX1_readTariff_38 (by decide) ?_
  refine lv_iadd hx hb dX1_readTariff_39 ?_
  refine lv_topi (fun v_39 e_39 => ?_)
  have t_39 := ti_addk rfl tk_4 (by omega) (by omega) e_39
  refine rd_ci (va_runV (As := [.int v_39]) (rest := [.int r_33]) ⟨hx, hb, hml, hown, hT⟩ (c_X1_pairAt l Z hZ g gl tf v_39 (by first | assumption | omega | decide) hG) (cwV 1 hT (tb_V (fun _ h => h) (tr_11 _ (List.mem_of_getElem? (i := 0) rfl)) (tr_11 _ (List.mem_of_getElem? (i := 1) rfl)) (tr_11 _ (List.mem_of_getElem? (i := 2) rfl)) (tr_1 _ (List.mem_of_getElem? (i := 14) rfl)) (tr_11 _ (List.mem_of_getElem? (i := 3) rfl))) rfl rfl rfl (by decide +kernel) ⟨Nat.le_of_ble_eq_true rfl, Nat.le_of_ble_eq_true rfl⟩) ⟨fun a U f mk q => ⟨q.1, XI.blind f mk a q.2⟩, va_recv hK hP (ci := 1) (q0 := 1) rfl xw_1, fun U hU hW => ⟨rfl, hI.at hS hP hU hW⟩⟩ rfl rfl hl.1 rfl (lv_room (Nat.le_of_ble_eq_true rfl)) dX1_readTariff_40 ⟨Nat.zero_le _, Nat.zero_le _⟩) (fun r_40 hr_40 => ?_)
  have l40 := (hr_40.1 (k + 4) (by omega) (by omega)).2
  refine lv_imul hx hb dX1_readTariff_43 ?_
  refine lv_topi (fun v_43 e_43 => ?_)
  refine lv_istore (lv' := [(5, .int v_43), (4, .int v_26), (3, .int r_8), (0, .ref (za Z 1)), (1, .int x1), (2, .ref a)]) hx hb dX1_readTariff_44 hl (by decide) rfl (fun ls hl => ?_)
  refine lv_aload_n hx hb dX1_readTariff_46 rfl (lv_at hl 5 rfl) ?_
  refine lv_iload_n hx hb dX1_readTariff_47 rfl (lv_at hl 2 rfl) ?_
  refine lv_iload hx hb dX1_readTariff_48 (lv_at hl 1 rfl) ?_
  refine lv_iload hx hb dX1_readTariff_50 (lv_at hl 0 rfl) ?_
  refine lv_aload_n hx hb dX1_readTariff_52 rfl (lv_at hl 3 rfl) ?_
  refine lv_iload_n hx hb dX1_readTariff_53 rfl (lv_at hl 4 rfl) ?_
  refine lv_bipush (v := 7) hx hb dX1_readTariff_54 (by decide) ?_
  refine lv_iadd hx hb dX1_readTariff_56 ?_
  refine lv_topi (fun v_56 e_56 => ?_)
  have t_56 := ti_addk rfl tk_7 (by omega) (by omega) e_56
  refine rd_ci (va_runV (As := [.int v_56]) (rest := [.int v_43, .int v_26, .int r_8, .ref a]) ⟨hx, hb, hml, hown, hT⟩ (c_X1_pairAt l Z hZ g gl tf v_56 (by first | assumption | omega | decide) hG) (cwV 1 hT (tb_V (fun _ h => h) (tr_11 _ (List.mem_of_getElem? (i := 0) rfl)) (tr_11 _ (List.mem_of_getElem? (i := 1) rfl)) (tr_11 _ (List.mem_of_getElem? (i := 2) rfl)) (tr_1 _ (List.mem_of_getElem? (i := 14) rfl)) (tr_11 _ (List.mem_of_getElem? (i := 3) rfl))) rfl rfl rfl (by decide +kernel) ⟨Nat.le_of_ble_eq_true rfl, Nat.le_of_ble_eq_true rfl⟩) ⟨fun a U f mk q => ⟨q.1, XI.blind f mk a q.2⟩, va_recv hK hP (ci := 1) (q0 := 1) rfl xw_1, fun U hU hW => ⟨rfl, hI.at hS hP hU hW⟩⟩ rfl rfl hl.1 rfl (lv_room (Nat.le_of_ble_eq_true rfl)) dX1_readTariff_57 ⟨Nat.zero_le _, Nat.zero_le _⟩) (fun r_57 hr_57 => ?_)
  have l57 := hr_57.1 (k + 7) (by omega) (by omega)
  refine lv_aload_n hx hb dX1_readTariff_60 rfl (lv_at hl 3 rfl) ?_
  refine lv_iload_n hx hb dX1_readTariff_61 rfl (lv_at hl 4 rfl) ?_
  refine lv_bipush (v := 9) hx hb dX1_readTariff_62 (by decide) ?_
  refine lv_iadd hx hb dX1_readTariff_64 ?_
  refine lv_topi (fun v_64 e_64 => ?_)
  have t_64 := ti_addk rfl tk_9 (by omega) (by omega) e_64
  refine rd_ci (va_runV (As := [.int v_64]) (rest := [.int r_57, .int v_43, .int v_26, .int r_8, .ref a]) ⟨hx, hb, hml, hown, hT⟩ (c_X1_pairAt l Z hZ g gl tf v_64 (by first | assumption | omega | decide) hG) (cwV 1 hT (tb_V (fun _ h => h) (tr_11 _ (List.mem_of_getElem? (i := 0) rfl)) (tr_11 _ (List.mem_of_getElem? (i := 1) rfl)) (tr_11 _ (List.mem_of_getElem? (i := 2) rfl)) (tr_1 _ (List.mem_of_getElem? (i := 14) rfl)) (tr_11 _ (List.mem_of_getElem? (i := 3) rfl))) rfl rfl rfl (by decide +kernel) ⟨Nat.le_of_ble_eq_true rfl, Nat.le_of_ble_eq_true rfl⟩) ⟨fun a U f mk q => ⟨q.1, XI.blind f mk a q.2⟩, va_recv hK hP (ci := 1) (q0 := 1) rfl xw_1, fun U hU hW => ⟨rfl, hI.at hS hP hU hW⟩⟩ rfl rfl hl.1 rfl (lv_room (Nat.le_of_ble_eq_true rfl)) dX1_readTariff_65 ⟨Nat.zero_le _, Nat.zero_le _⟩) (fun r_65 hr_65 => ?_)
  have l65 := hr_65.1 (k + 9) (by omega) (by omega)
  have a0 : r_8 = rdT (g 2) k 0 := hr_8
  have a1 : v_26 = rdT (g 2) k 1 := by rw [e_26, l16, l23]; rfl
  have a2 : v_43 = rdT (g 2) k 2 := by rw [e_43, l33, l40]; rfl
  have a3 : r_57 = rdT (g 2) k 3 := l57.2
  have a4 : r_65 = rdT (g 2) k 4 := l65.2
  rw [a0, a1, a2, a3, a4]
  obtain ⟨k_68, hk_68⟩ := xt_at (g := g) (gl := gl) (tf := tf) ha
  refine va_callv (va_runV (As := [.int (rdT (g 2) k 0), .int (rdT (g 2) k 1), .int (rdT (g 2) k 2), .int (rdT (g 2) k 3), .int (rdT (g 2) k 4)]) (rest := []) ⟨hx, hb, hml, hown, hT⟩ (c_X3_write l Z hZ g gl tf a ha (rdT (g 2) k 0) (rdT (g 2) k 1) (rdT (g 2) k 2) (rdT (g 2) k 3) (rdT (g 2) k 4) (by have z : (rdT (g 2) k 3).toInt = 10 * ((g 2 (k + 7)).toInt - 48) + ((g 2 (k + 8)).toInt - 48) := (by rw [← a3]; exact l57.1); omega) (by have z : (rdT (g 2) k 4).toInt = 10 * ((g 2 (k + 9)).toInt - 48) + ((g 2 (k + 10)).toInt - 48) := (by rw [← a4]; exact l65.1); omega) hG) (cwV 5 hT (tb_V (fun _ h => h) (tr_13 _ (List.mem_of_getElem? (i := 17) rfl)) (tr_13 _ (List.mem_of_getElem? (i := 18) rfl)) (tr_13 _ (List.mem_of_getElem? (i := 19) rfl)) (tr_2 _ (List.mem_of_getElem? (i := 10) rfl)) (tr_13 _ (List.mem_of_getElem? (i := 20) rfl))) rfl rfl rfl (by decide +kernel) ⟨Nat.le_of_ble_eq_true rfl, Nat.le_of_ble_eq_true rfl⟩) ⟨fun a U f mk q => ⟨q.1, XI.blind f mk a q.2⟩, va_recv hK hP (ci := 3) (q0 := k_68) rfl hk_68, fun U hU hW => ⟨rfl, hI.at hS hP hU hW⟩⟩ rfl rfl hl.1 rfl (lv_room (Nat.le_of_ble_eq_true rfl)) dX1_readTariff_68 ⟨Nat.zero_le _, Nat.zero_le _⟩) hS (fun q _ h => h) (fun q h => h) (fun u_68 t_68 H locs ht_68 _ hw_68 hB_68 _ _ hS => ?_)
  obtain ⟨g_68, gl_68, tf_68⟩ := u_68
  have hP : va_P (zD Z) vwCl (xw Z g_68 gl_68 tf_68) H := ht_68 ▸ hB_68
  obtain ⟨hf_68, hG, et_68, eg_68⟩ := hw_68
  have hF := hF.tr hf_68 (by decide)
  dsimp only at hf_68 hG hF et_68 eg_68
  subst et_68
  subst eg_68
  exact W.vret hx hb hr (fun t ht hW => ⟨⟨(g, gl_68, (wrT tf a (rdT (g 2) k 0) (rdT (g 2) k 1) (rdT (g 2) k 2) (rdT (g 2) k 3) (rdT (g 2) k 4))), rfl, ⟨hF, hG, (by rw [show x1.toInt.toNat = k by omega]), rfl⟩, by show va_P (zD Z) vwCl (xw Z g gl_68 (wrT tf a (rdT (g 2) k 0) (rdT (g 2) k 1) (rdT (g 2) k 2) (rdT (g 2) k 3) (rdT (g 2) k 4))) t.heap; rw [ht]; exact hP⟩, hS.F ht⟩) hS.2.2 dX1_readTariff_71
