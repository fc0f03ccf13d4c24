theorem rdw {tf : Nat → Nat → Int32} {a : Nat} {f : Nat → Int32} {s : Nat} : ∀ k, k < 5 → wrT tf a (rdT f s 0) (rdT f s 1) (rdT f s 2) (rdT f s 3) (rdT f s 4) a k = rdT f s k := fun k hk => by
  match k, hk with
  | 0, _ => exact wrT_0
  | 1, _ => exact wrT_1
  | 2, _ => exact wrT_2
  | 3, _ => exact wrT_3
  | 4, _ => exact wrT_4
set_option maxHeartbeats 4000000 in
set_option maxRecDepth 100000 in
theorem c_X6_letter (l : Launch) (Z : ZT) (hZ : XG Z) (g : Nat → Nat → Int32) (gl : Nat → Nat → Int64) (tf : Nat → Nat → Int32) (x1 : Int32) (hn0 : 0 ≤ (g 1 1).toInt ∧ (g 1 1).toInt ≤ 50) (hG : Gd Z tf) : Met l yX6_letter (Cond.code yX6_letter cX6_letter 2 (some .int) :: wsL_law) ({ frames := 1, cells := 0, slots := 0, locals := 21 } : Room) (va_Pc [.ref (za Z 0), .int x1] (XI Z g gl tf)) (va_Qi (fun (r : Int32) (u : (Nat → Nat → Int32) × (Nat → Nat → Int64) × (Nat → Nat → Int32)) => Fr [1, 2] g u.1 ∧ Gd Z u.2.2 ∧ tf = u.2.2 ∧ ((¬ (32 ≤ x1.toInt ∧ x1.toInt ≤ 126) ∧ r = -102 ∧ u.1 = g) ∨ ((32 ≤ x1.toInt ∧ x1.toInt ≤ 126) ∧ (g 1 1).toInt = 50 ∧ r = -104 ∧ u.1 = g) ∨ ((32 ≤ x1.toInt ∧ x1.toInt ≤ 126) ∧ (g 1 1).toInt < 50 ∧ r = g 1 1 + 1 ∧ u.1 = up2 (upR g 2 (upd (g 2) (g 1 1).toNatClampNeg x1)) 1 1 (g 1 1 + 1)))) (fun u t => va_P (zD Z) vwCl (xw Z u.1 u.2.1 u.2.2) t.heap) (zA Z)) 0 0 (zA Z) := by
  refine Met.ofW (cc := cX6_letter) (maxL := 2) (ret := (some .int)) (by decide) rfl ?_
  intro p e s m args below meth c s₁ B hml hv
  obtain ⟨rfl, hI⟩ := hv
  have hx := B.exec
  have hb := B.bytes
  have hr := B.returns
  have hT : ∀ w ∈ wsL_law, w.before ([.ref (za Z 0), .int x1] : List Value).toArray s = true := fun w h => atoms_spec (ws := (Cond.code yX6_letter cX6_letter 2 (some .int) :: wsL_law)) B.pre w (List.mem_cons_of_mem _ h)
  have hown : s.vm.findClass RX6 = some m.cls := findClass_of_methodNamed B.named
  have hlocks := B.notSynchronized
  have hK := hI.2.1
  have hP := hI.1
  have hS : va_S (zA Z) s.heap s.heap [] := va_S.rf
  have hF : Fr [1, 2] g g := Fr.rf
  have hl := lv_entry ([.ref (za Z 0), .int x1]) (n := 2) (Nat.le_of_ble_eq_true rfl)
  rw [lg_entry_eq]
  generalize (lg_sl ([.ref (za Z 0), .int x1]) ++ List.replicate (2 - (lg_sl ([.ref (za Z 0), .int x1])).length) Slot.unset).toArray = ls at hl ⊢
  have hl : lv_has ls 2 [(0, .ref (za Z 0)), (1, .int x1)] := hl
  refine lv_iload_n hx hb dX6_letter_0 rfl (lv_at hl 1 rfl) ?_
  refine lv_bipush (v := 32) hx hb dX6_letter_1 (by decide) ?_
  refine lv_icmp_lt (tgt := 12) hx hb dX6_letter_3 (by decide) (fun c_3 => ?_) (fun c_3 => ?_)
  · skip
    have i_3 := ti_ltk rfl tk_32 c_3
    refine lv_bipush (v := (-102)) hx hb dX6_letter_12 (by decide) ?_
    exact W.iret (v := (-102)) hx hb hr (fun t ht hW => ⟨⟨(-102), (g, gl, tf), rfl, ⟨hF, hG, rfl, (by (try dsimp only); first | done | exact Or.inl ⟨by omega, rfl, rfl⟩)⟩, by show va_P (zD Z) vwCl (xw Z g gl tf) t.heap; rw [ht]; exact hP⟩, hS.F ht⟩) hS.2.2 dX6_letter_14
  · skip
    have i_3 := ti_nltk rfl tk_32 c_3
    refine lv_iload_n hx hb dX6_letter_6 rfl (lv_at hl 1 rfl) ?_
    refine lv_bipush (v := 126) hx hb dX6_letter_7 (by decide) ?_
    refine lv_icmp_le (tgt := 15) hx hb dX6_letter_9 (by decide) (fun c_9 => ?_) (fun c_9 => ?_)
    · skip
      have i_9 := ti_lek rfl tk_126 c_9
      refine lv_aload_n hx hb dX6_letter_15 rfl (lv_at hl 0 rfl) ?_
      refine va_get (D := zD Z) (ci := 6) (v := .ref (za Z 1)) (C := RX6) (T := TX6) (N := 11) hx hb hT inlX6 hown hK hP 0 xw_0 rfl 0 (by decide) (hT _ (tr_1 _ (List.mem_of_getElem? (i := 15) rfl))) (fun _ h9 => h9) rfl dX6_letter_16 ?_
      refine lv_iload_n hx hb dX6_letter_19 rfl (lv_at hl 1 rfl) ?_
      refine va_calli (va_runV (As := [.int x1]) (rest := []) ⟨hx, hb, hml, hown, hT⟩ (c_X1_write l Z hZ g gl tf x1 hG) (cwV 1 hT (tb_V (fun _ h => h) (tr_5 _ (List.mem_of_getElem? (i := 14) rfl)) (tr_5 _ (List.mem_of_getElem? (i := 15) rfl)) (tr_5 _ (List.mem_of_getElem? (i := 16) rfl)) (tr_1 _ (List.mem_of_getElem? (i := 14) rfl)) (tr_5 _ (List.mem_of_getElem? (i := 17) rfl))) rfl rfl rfl (by decide +kernel) ⟨Nat.le_of_ble_eq_true rfl, Nat.le_of_ble_eq_true rfl⟩) ⟨fun a U f mk q => ⟨q.1, XI.blind f mk a q.2⟩, va_recv hK hP (ci := 1) (q0 := 1) rfl xw_1, fun U hU hW => ⟨rfl, hI.at hS hP hU hW⟩⟩ rfl rfl hl.1 rfl (lv_room (Nat.le_of_ble_eq_true rfl)) dX6_letter_20 ⟨Nat.zero_le _, Nat.zero_le _⟩) hS (fun q _ h => h) (fun q h => h) (fun r_20 u_20 t_20 H locs ht_20 _ hw_20 hB_20 _ _ hS => ?_)
      obtain ⟨g_20, gl_20, tf_20⟩ := u_20
      have hP : va_P (zD Z) vwCl (xw Z g_20 gl_20 tf_20) H := ht_20 ▸ hB_20
      obtain ⟨hf_20, hG, et_20, hr_20⟩ := hw_20
      have hF := hF.tr hf_20 (by decide)
      (try dsimp only at hf_20 hG hF et_20 hr_20)
      subst et_20
      rcases hr_20 with ⟨rfl, b_20⟩ | ⟨rfl, b_20⟩
      · skip
        refine lv_if_eq (tgt := 36) hx hb dX6_letter_23 (by decide) (fun c_23 => absurd c_23 (by decide)) (fun c_23 => ?_)
        refine lv_aload_n hx hb dX6_letter_26 rfl (lv_at hl 0 rfl) ?_
        refine va_get (D := zD Z) (ci := 6) (v := .ref (za Z 1)) (C := RX6) (T := TX6) (N := 11) hx hb hT inlX6 hown hK hP 0 xw_0 rfl 0 (by decide) (hT _ (tr_1 _ (List.mem_of_getElem? (i := 15) rfl))) (fun _ h9 => h9) rfl dX6_letter_27 ?_
        refine va_get (D := zD Z) (ci := 1) (v := .int (g_20 1 1)) (C := RX1) (T := TX1) (N := 2) hx hb hT inlX1 hown hK hP 1 xw_1 rfl 1 (by decide) (hT _ (tr_5 _ (List.mem_of_getElem? (i := 13) rfl))) (fun _ h9 => h9) rfl dX6_letter_30 ?_
        refine lv_goto (tgt := 38) hx hb dX6_letter_33 (by decide) ?_
        exact W.iret (v := (g_20 1 1)) hx hb hr (fun t ht hW => ⟨⟨(g_20 1 1), (g_20, gl_20, tf), rfl, ⟨hF, hG, rfl, (by (try dsimp only); first | done | exact Or.inr (Or.inr ⟨by omega, by have q := b_20.1; omega, by have q := congrFun (congrFun b_20.2 1) 1; exact q, b_20.2⟩))⟩, by show va_P (zD Z) vwCl (xw Z g_20 gl_20 tf) t.heap; rw [ht]; exact hP⟩, hS.F ht⟩) hS.2.2 dX6_letter_38
      · skip
        refine lv_if_eq (tgt := 36) hx hb dX6_letter_23 (by decide) (fun c_23 => ?_) (fun c_23 => absurd c_23 (by decide))
        refine lv_bipush (v := (-104)) hx hb dX6_letter_36 (by decide) ?_
        exact W.iret (v := (-104)) hx hb hr (fun t ht hW => ⟨⟨(-104), (g_20, gl_20, tf), rfl, ⟨hF, hG, rfl, (by (try dsimp only); first | done | exact Or.inr (Or.inl ⟨by omega, by have q := b_20.1; omega, rfl, b_20.2⟩))⟩, by show va_P (zD Z) vwCl (xw Z g_20 gl_20 tf) t.heap; rw [ht]; exact hP⟩, hS.F ht⟩) hS.2.2 dX6_letter_38
    · skip
      have i_9 := ti_nlek rfl tk_126 c_9
      refine lv_bipush (v := (-102)) hx hb dX6_letter_12 (by decide) ?_
      exact W.iret (v := (-102)) hx hb hr (fun t ht hW => ⟨⟨(-102), (g, gl, tf), rfl, ⟨hF, hG, rfl, (by (try dsimp only); first | done | exact Or.inl ⟨by omega, rfl, rfl⟩)⟩, by show va_P (zD Z) vwCl (xw Z g gl tf) t.heap; rw [ht]; exact hP⟩, hS.F ht⟩) hS.2.2 dX6_letter_14
set_option maxHeartbeats 4000000 in
set_option maxRecDepth 100000 in
theorem c_X6_blank (l : Launch) (Z : ZT) (hZ : XG Z) (g : Nat → Nat → Int32) (gl : Nat → Nat → Int64) (tf : Nat → Nat → Int32)  (hG : Gd Z tf) : Met l yX6_blank (Cond.code yX6_blank cX6_blank 2 (some .int) :: wsL_law) ({ frames := 0, cells := 0, slots := 0, locals := 0 } : Room) (va_Pc [.ref (za Z 0)] (XI Z g gl tf)) (va_Qi (fun (r : Int32) (u : (Nat → Nat → Int32) × (Nat → Nat → Int64) × (Nat → Nat → Int32)) => Fr [1] g u.1 ∧ Gd Z u.2.2 ∧ tf = u.2.2 ∧ (r = g 1 1 ∧ u.1 1 1 = 0)) (fun u t => va_P (zD Z) vwCl (xw Z u.1 u.2.1 u.2.2) t.heap) (zA Z)) 0 0 (zA Z) := by
  refine Met.ofW (cc := cX6_blank) (maxL := 2) (ret := (some .int)) (by decide) rfl ?_
  intro p e s m args below meth c s₁ B hml hv
  obtain ⟨rfl, hI⟩ := hv
  have hx := B.exec
  have hb := B.bytes
  have hr := B.returns
  have hT : ∀ w ∈ wsL_law, w.before ([.ref (za Z 0)] : List Value).toArray s = true := fun w h => atoms_spec (ws := (Cond.code yX6_blank cX6_blank 2 (some .int) :: wsL_law)) B.pre w (List.mem_cons_of_mem _ h)
  have hown : s.vm.findClass RX6 = some m.cls := findClass_of_methodNamed B.named
  have hlocks := B.notSynchronized
  have hK := hI.2.1
  have hP := hI.1
  have hS : va_S (zA Z) s.heap s.heap [] := va_S.rf
  have hF : Fr [1] g g := Fr.rf
  have hl := lv_entry ([.ref (za Z 0)]) (n := 2) (Nat.le_of_ble_eq_true rfl)
  rw [lg_entry_eq]
  generalize (lg_sl ([.ref (za Z 0)]) ++ List.replicate (2 - (lg_sl ([.ref (za Z 0)])).length) Slot.unset).toArray = ls at hl ⊢
  have hl : lv_has ls 2 [(0, .ref (za Z 0))] := hl
  refine lv_aload_n hx hb dX6_blank_0 rfl (lv_at hl 0 rfl) ?_
  refine va_get (D := zD Z) (ci := 6) (v := .ref (za Z 1)) (C := RX6) (T := TX6) (N := 11) hx hb hT inlX6 hown hK hP 0 xw_0 rfl 0 (by decide) (hT _ (tr_1 _ (List.mem_of_getElem? (i := 15) rfl))) (fun _ h9 => h9) rfl dX6_blank_1 ?_
  refine va_get (D := zD Z) (ci := 1) (v := .int (g 1 1)) (C := RX1) (T := TX1) (N := 2) hx hb hT inlX1 hown hK hP 1 xw_1 rfl 1 (by decide) (hT _ (tr_5 _ (List.mem_of_getElem? (i := 13) rfl))) (fun _ h9 => h9) rfl dX6_blank_4 ?_
  refine lv_istore_n (lv' := [(1, .int (g 1 1)), (0, .ref (za Z 0))]) hx hb dX6_blank_7 rfl hl (by decide) rfl (fun ls hl => ?_)
  refine lv_aload_n hx hb dX6_blank_8 rfl (lv_at hl 1 rfl) ?_
  refine va_get (D := zD Z) (ci := 6) (v := .ref (za Z 1)) (C := RX6) (T := TX6) (N := 11) hx hb hT inlX6 hown hK hP 0 xw_0 rfl 0 (by decide) (hT _ (tr_1 _ (List.mem_of_getElem? (i := 15) rfl))) (fun _ h9 => h9) rfl dX6_blank_9 ?_
  refine lv_iconst (v := 0) hx hb dX6_blank_12 (by decide) ?_
  refine va_put (D := zD Z) (ci := 1) (v := .int 0) (ty := .int) (C := RX1) (T := TX1) (N := 2) hx hb hT inlX1 tyX1 tyX1_ok nmX1 hown hK hP hZ.D hS 1 xw_1 rfl 1 (by decide) (hT _ (tr_5 _ (List.mem_of_getElem? (i := 13) rfl))) (fun _ h9 => h9) rfl (by decide +kernel) rfl rfl (Nat.le_of_ble_eq_true rfl) dX6_blank_13 (fun H locs hP _ hS => ?_)
  replace hP := xf_1_1 hP
  have hF := hF.u2 (i := 1) (k := 1) (v := 0) (by decide)
  refine lv_iload_n hx hb dX6_blank_16 rfl (lv_at hl 0 rfl) ?_
  exact W.iret (v := (g 1 1)) hx hb hr (fun t ht hW => ⟨⟨(g 1 1), ((up2 g 1 1 0), gl, tf), rfl, ⟨hF, hG, rfl, (by (try dsimp only); first | done | exact ⟨rfl, rfl⟩)⟩, by show va_P (zD Z) vwCl (xw Z (up2 g 1 1 0) gl tf) t.heap; rw [ht]; exact hP⟩, hS.F ht⟩) hS.2.2 dX6_blank_17
set_option maxHeartbeats 4000000 in
set_option maxRecDepth 100000 in
theorem c_X6_fault (l : Launch) (Z : ZT) (hZ : XG Z) (g : Nat → Nat → Int32) (gl : Nat → Nat → Int64) (tf : Nat → Nat → Int32) (hp : ∀ i : Nat, 0 ≤ (g 2 i).toInt ∧ (g 2 i).toInt ≤ 126) (hn0 : 0 ≤ (g 1 1).toInt ∧ (g 1 1).toInt ≤ 50) (hG : Gd Z tf) : Met l yX6_fault (Cond.code yX6_fault cX6_fault 1 (some .int) :: wsL_law) ({ frames := 6, cells := 0, slots := 0, locals := 134 } : Room) (va_Pc [.ref (za Z 0)] (XI Z g gl tf)) (rd_Qi (fun r => (∃ k : Nat, r.toInt = k ∧ fwp (g 2) (g 1 1).toInt k))) 0 0 (fun _ => False) := by
  refine Met.ofW (cc := cX6_fault) (maxL := 1) (ret := (some .int)) (by decide) rfl ?_
  intro p e s m args below meth c s₁ B hml hv
  obtain ⟨rfl, hI⟩ := hv
  have hx := B.exec
  have hb := B.bytes
  have hr := B.returns
  have hT : ∀ w ∈ wsL_law, w.before ([.ref (za Z 0)] : List Value).toArray s = true := fun w h => atoms_spec (ws := (Cond.code yX6_fault cX6_fault 1 (some .int) :: wsL_law)) B.pre w (List.mem_cons_of_mem _ h)
  have hown : s.vm.findClass RX6 = some m.cls := findClass_of_methodNamed B.named
  have hlocks := B.notSynchronized
  have hK := hI.2.1
  have hP := hI.1
  have hS : va_S (zA Z) s.heap s.heap [] := va_S.rf
  have hl := lv_entry ([.ref (za Z 0)]) (n := 1) (Nat.le_of_ble_eq_true rfl)
  rw [lg_entry_eq]
  generalize (lg_sl ([.ref (za Z 0)]) ++ List.replicate (1 - (lg_sl ([.ref (za Z 0)])).length) Slot.unset).toArray = ls at hl ⊢
  have hl : lv_has ls 1 [(0, .ref (za Z 0))] := hl
  refine lv_aload_n hx hb dX6_fault_0 rfl (lv_at hl 0 rfl) ?_
  refine va_get (D := zD Z) (ci := 6) (v := .ref (za Z 1)) (C := RX6) (T := TX6) (N := 11) hx hb hT inlX6 hown hK hP 0 xw_0 rfl 0 (by decide) (hT _ (tr_1 _ (List.mem_of_getElem? (i := 15) rfl))) (fun _ h9 => h9) rfl dX6_fault_1 ?_
  refine rd_ci (va_runV (As := []) (rest := []) ⟨hx, hb, hml, hown, hT⟩ (c_X1_firstWrong l Z hZ g gl tf (by first | assumption | omega | decide) (by first | assumption | omega | decide) hG) (cwV 0 hT (tb_V (fun _ h => h) (tr_6 _ (List.mem_of_getElem? (i := 15) rfl)) (tr_6 _ (List.mem_of_getElem? (i := 16) rfl)) (tr_6 _ (List.mem_of_getElem? (i := 17) rfl)) (tr_1 _ (List.mem_of_getElem? (i := 14) rfl)) (tr_6 _ (List.mem_of_getElem? (i := 18) rfl))) rfl rfl rfl (by decide +kernel) ⟨Nat.le_of_ble_eq_true rfl, Nat.le_of_ble_eq_true rfl⟩) ⟨fun a U f mk q => ⟨q.1, XI.blind f mk a q.2⟩, va_recv hK hP (ci := 1) (q0 := 1) rfl xw_1, fun U hU hW => ⟨rfl, hI.at hS hP hU hW⟩⟩ rfl rfl hl.1 rfl (lv_room (Nat.le_of_ble_eq_true rfl)) dX6_fault_4 ⟨Nat.zero_le _, Nat.zero_le _⟩) (fun r_4 hr_4 => ?_)
  exact W.iret (v := r_4) hx hb hr (fun t ht hW => ⟨r_4, rfl, hr_4, ht⟩) (fun q hq => by cases hq) dX6_fault_7
set_option maxHeartbeats 4000000 in
set_option maxRecDepth 100000 in
theorem c_X6_desk (l : Launch) (Z : ZT) (hZ : XG Z) (g : Nat → Nat → Int32) (gl : Nat → Nat → Int64) (tf : Nat → Nat → Int32) (hp : ∀ i : Nat, 0 ≤ (g 2 i).toInt ∧ (g 2 i).toInt ≤ 126) (hn0 : 0 ≤ (g 1 1).toInt ∧ (g 1 1).toInt ≤ 50) (hG : Gd Z tf) : Met l yX6_desk (Cond.code yX6_desk cX6_desk 2 (some .int) :: wsL_law) ({ frames := 7, cells := 0, slots := 0, locals := 166 } : Room) (va_Pc [.ref (za Z 0)] (XI Z g gl tf)) (va_Qi (fun (r : Int32) (u : (Nat → Nat → Int32) × (Nat → Nat → Int64) × (Nat → Nat → Int32)) => Fr [0, 1, 11, 3, 5, 6, 7, 8, 9, 10] g u.1 ∧ Gd Z u.2.2 ∧ ((¬ whp (g 2) (g 1 1).toInt ∧ r = -103 ∧ u.1 = g ∧ u.2.2 = tf) ∨ (whp (g 2) (g 1 1).toInt ∧ u.1 1 1 = 0 ∧ 12 * r.toInt = (g 1 1).toInt + 1 ∧ u.1 3 1 = r ∧ u.1 11 4 = 0 ∧ u.1 0 8 = 1 ∧ u.1 0 9 = 0 ∧ u.1 0 10 = g 0 10 + 1 ∧ (∀ t : Nat, 12 * (t : Int) < (g 1 1).toInt → ∀ k, k < 5 → u.2.2 (ro Z t) k = rdT (g 2) (12 * t) k) ∧ (∀ b, b ≠ za Z 24 → (∀ t, t < 70 → b ≠ ro Z t) → u.2.2 b = tf b) ∧ TX (xr Z u.2.2) (u.1 3 1).toInt.toNat u.1))) (fun u t => va_P (zD Z) vwCl (xw Z u.1 u.2.1 u.2.2) t.heap) (zA Z)) 0 0 (zA Z) := by
  refine Met.ofW (cc := cX6_desk) (maxL := 2) (ret := (some .int)) (by decide) rfl ?_
  intro p e s m args below meth c s₁ B hml hv
  obtain ⟨rfl, hI⟩ := hv
  have hx := B.exec
  have hb := B.bytes
  have hr := B.returns
  have hT : ∀ w ∈ wsL_law, w.before ([.ref (za Z 0)] : List Value).toArray s = true := fun w h => atoms_spec (ws := (Cond.code yX6_desk cX6_desk 2 (some .int) :: wsL_law)) B.pre w (List.mem_cons_of_mem _ h)
  have hown : s.vm.findClass RX6 = some m.cls := findClass_of_methodNamed B.named
  have hlocks := B.notSynchronized
  have hK := hI.2.1
  have hP := hI.1
  have hS : va_S (zA Z) s.heap s.heap [] := va_S.rf
  have hF : Fr [0, 1, 11, 3, 5, 6, 7, 8, 9, 10] g g := Fr.rf
  have hl := lv_entry ([.ref (za Z 0)]) (n := 2) (Nat.le_of_ble_eq_true rfl)
  rw [lg_entry_eq]
  generalize (lg_sl ([.ref (za Z 0)]) ++ List.replicate (2 - (lg_sl ([.ref (za Z 0)])).length) Slot.unset).toArray = ls at hl ⊢
  have hl : lv_has ls 2 [(0, .ref (za Z 0))] := hl
  have L50 : ∀ (n : Nat) (z1 : Int32) (g1 : Nat → Nat → Int32) (gl1 : Nat → Nat → Int64) (tf1 : Nat → Nat → Int32) (H : Heap) (locs : List Loc) (hP : va_P (zD Z) vwCl (xw Z g1 gl1 tf1) H) (hF : Fr [0, 1, 11, 3, 5, 6, 7, 8, 9, 10] g g1) (hG : Gd Z tf1) (hS : va_S (zA Z) s.heap H locs) (h1 : 0 ≤ z1.toInt ∧ z1.toInt ≤ (g 1 1).toInt + 1) (h3 : z1.toInt = 12 * (g1 3 1).toInt) (hq : g1 1 1 = g 1 1) (hw0 : whp (g 2) (g 1 1).toInt) (hk : g1 11 4 = 0 ∧ g1 0 8 = 1 ∧ g1 0 9 = 0 ∧ g1 0 10 = g 0 10 + 1) (hT9 : TX (xr Z tf1) (g1 3 1).toInt.toNat g1) (h40d : (g1 3 1).toInt ≤ 40) (hA : ∀ t : Nat, 12 * (t : Int) < z1.toInt → ∀ k, k < 5 → tf1 (ro Z t) k = rdT (g 2) (12 * t) k) (hB : ∀ b, b ≠ za Z 24 → (∀ t, t < 70 → b ≠ ro Z t) → tf1 b = tf b) (hn : ((g 1 1).toInt + 12 - z1.toInt).toNat < n) (ls : Array Slot) (hl : lv_has ls 2 [(0, .ref (za Z 0)), (1, .int z1)]), W p l e ({ frames := 7, cells := 0, slots := 0, locals := 166 } : Room) s m ([.ref (za Z 0)] : List Value).toArray below meth c H locs 0 0 (MQ below (va_Qi (fun (r : Int32) (u : (Nat → Nat → Int32) × (Nat → Nat → Int64) × (Nat → Nat → Int32)) => Fr [0, 1, 11, 3, 5, 6, 7, 8, 9, 10] g u.1 ∧ Gd Z u.2.2 ∧ ((¬ whp (g 2) (g 1 1).toInt ∧ r = -103 ∧ u.1 = g ∧ u.2.2 = tf) ∨ (whp (g 2) (g 1 1).toInt ∧ u.1 1 1 = 0 ∧ 12 * r.toInt = (g 1 1).toInt + 1 ∧ u.1 3 1 = r ∧ u.1 11 4 = 0 ∧ u.1 0 8 = 1 ∧ u.1 0 9 = 0 ∧ u.1 0 10 = g 0 10 + 1 ∧ (∀ t : Nat, 12 * (t : Int) < (g 1 1).toInt → ∀ k, k < 5 → u.2.2 (ro Z t) k = rdT (g 2) (12 * t) k) ∧ (∀ b, b ≠ za Z 24 → (∀ t, t < 70 → b ≠ ro Z t) → u.2.2 b = tf b) ∧ TX (xr Z u.2.2) (u.1 3 1).toInt.toNat u.1))) (fun u t => va_P (zD Z) vwCl (xw Z u.1 u.2.1 u.2.2) t.heap) (zA Z)) ([.ref (za Z 0)] : List Value).toArray s 0 0 (zA Z)) (F0 m 50 ls []) := by
    intro n
    induction n with
    | zero => intro z1 g1 gl1 tf1 H locs hP hF hG hS h1 h3 hq hw0 hk hT9 h40d hA hB hn; exact absurd hn (Nat.not_lt_zero _)
    | succ n ih50 =>
      intro z1 g1 gl1 tf1 H locs hP hF hG hS h1 h3 hq hw0 hk hT9 h40d hA hB hn ls hl
      have q2 : g1 2 = g 2 := hF 2 (by decide)
      refine lv_iload_n hx hb dX6_desk_50 rfl (lv_at hl 1 rfl) ?_
      refine lv_aload_n hx hb dX6_desk_51 rfl (lv_at hl 0 rfl) ?_
      refine va_get (D := zD Z) (ci := 6) (v := .ref (za Z 1)) (C := RX6) (T := TX6) (N := 11) hx hb hT inlX6 hown hK hP 0 xw_0 rfl 0 (by decide) (hT _ (tr_1 _ (List.mem_of_getElem? (i := 15) rfl))) (fun _ h9 => h9) rfl dX6_desk_52 ?_
      refine va_get (D := zD Z) (ci := 1) (v := .int (g1 1 1)) (C := RX1) (T := TX1) (N := 2) hx hb hT inlX1 hown hK hP 1 xw_1 rfl 1 (by decide) (hT _ (tr_5 _ (List.mem_of_getElem? (i := 13) rfl))) (fun _ h9 => h9) rfl dX6_desk_55 ?_
      refine lv_icmp_ge (tgt := 91) hx hb dX6_desk_58 (by decide) (fun c_58 => ?_) (fun c_58 => ?_)
      · skip
        have i_58 := ti_lek rfl rfl c_58
        have w1 := hw0.1
        rw [hq] at i_58
        refine lv_aload_n hx hb dX6_desk_91 rfl (lv_at hl 0 rfl) ?_
        refine va_get (D := zD Z) (ci := 6) (v := .ref (za Z 1)) (C := RX6) (T := TX6) (N := 11) hx hb hT inlX6 hown hK hP 0 xw_0 rfl 0 (by decide) (hT _ (tr_1 _ (List.mem_of_getElem? (i := 15) rfl))) (fun _ h9 => h9) rfl dX6_desk_92 ?_
        refine lv_iconst (v := 0) hx hb dX6_desk_95 (by decide) ?_
        refine va_put (D := zD Z) (ci := 1) (v := .int 0) (ty := .int) (C := RX1) (T := TX1) (N := 2) hx hb hT inlX1 tyX1 tyX1_ok nmX1 hown hK hP hZ.D hS 1 xw_1 rfl 1 (by decide) (hT _ (tr_5 _ (List.mem_of_getElem? (i := 13) rfl))) (fun _ h9 => h9) rfl (by decide +kernel) rfl rfl (Nat.le_of_ble_eq_true rfl) dX6_desk_96 (fun H locs hP _ hS => ?_)
        replace hP := xf_1_1 hP
        have hF := hF.u2 (i := 1) (k := 1) (v := 0) (by decide)
        refine lv_aload_n hx hb dX6_desk_99 rfl (lv_at hl 0 rfl) ?_
        refine va_get (D := zD Z) (ci := 6) (v := .ref (za Z 3)) (C := RX6) (T := TX6) (N := 11) hx hb hT inlX6 hown hK hP 0 xw_0 rfl 1 (by decide) (hT _ (tr_1 _ (List.mem_of_getElem? (i := 19) rfl))) (fun _ h9 => h9) rfl dX6_desk_100 ?_
        refine va_get (D := zD Z) (ci := 4) (v := .int (g1 3 1)) (C := RX4) (T := TX4) (N := 2) hx hb hT inlX4 hown hK hP 3 xw_3 rfl 1 (by decide) (hT _ (tr_12 _ (List.mem_of_getElem? (i := 21) rfl))) (fun _ h9 => h9) rfl dX6_desk_103 ?_
        exact W.iret (v := (g1 3 1)) hx hb hr (fun t ht hW => ⟨⟨(g1 3 1), ((up2 g1 1 1 0), gl1, tf1), rfl, ⟨hF, hG, (by (try dsimp only); first | done | exact Or.inr ⟨hw0, rfl, by show 12 * (g1 3 1).toInt = _; omega, rfl, hk.1, hk.2.1, hk.2.2.1, hk.2.2.2, fun t ht => hA t (by omega), hB, TX_ch hT9 (S := [1]) (fun i hi => by simp at hi; simp [up2, hi]) (by decide)⟩)⟩, by show va_P (zD Z) vwCl (xw Z (up2 g1 1 1 0) gl1 tf1) t.heap; rw [ht]; exact hP⟩, hS.F ht⟩) hS.2.2 dX6_desk_106
      · skip
        have i_58 := ti_nlek rfl rfl c_58
        rw [hq] at i_58
        have w1 := hw0.1
        have w2 := hw0.2.2.1
        refine lv_aload_n hx hb dX6_desk_61 rfl (lv_at hl 0 rfl) ?_
        refine va_get (D := zD Z) (ci := 6) (v := .ref (za Z 1)) (C := RX6) (T := TX6) (N := 11) hx hb hT inlX6 hown hK hP 0 xw_0 rfl 0 (by decide) (hT _ (tr_1 _ (List.mem_of_getElem? (i := 15) rfl))) (fun _ h9 => h9) rfl dX6_desk_62 ?_
        refine lv_iload_n hx hb dX6_desk_65 rfl (lv_at hl 1 rfl) ?_
        refine lv_aload_n hx hb dX6_desk_66 rfl (lv_at hl 0 rfl) ?_
        refine va_get (D := zD Z) (ci := 6) (v := .ref (za Z 24)) (C := RX6) (T := TX6) (N := 11) hx hb hT inlX6 hown hK hP 0 xw_0 rfl 5 (by decide) (hT _ (tr_2 _ (List.mem_of_getElem? (i := 11) rfl))) (fun _ h9 => h9) rfl dX6_desk_67 ?_
        refine va_callv (va_runV (As := [.int z1, .ref (za Z 24)]) (rest := []) ⟨hx, hb, hml, hown, hT⟩ (c_X1_readTariff l Z hZ g1 gl1 tf1 z1 (za Z 24) hZ.ask (by rw [q2]; exact hp) z1.toInt.toNat (by omega) (by omega) (by omega) (fun j hj => by rw [q2]; exact w2 j (by omega)) hG) (cwV 2 hT (tb_V (fun _ h => h) (tr_13 _ (List.mem_of_getElem? (i := 9) rfl)) (tr_13 _ (List.mem_of_getElem? (i := 10) rfl)) (tr_13 _ (List.mem_of_getElem? (i := 11) rfl)) (tr_1 _ (List.mem_of_getElem? (i := 14) rfl)) (tr_13 _ (List.mem_of_getElem? (i := 12) rfl))) rfl rfl rfl (by decide +kernel) ⟨Nat.le_of_ble_eq_true rfl, Nat.le_of_ble_eq_true rfl⟩) ⟨fun a U f mk q => ⟨q.1, XI.blind f mk a q.2⟩, va_recv hK hP (ci := 1) (q0 := 1) rfl xw_1, fun U hU hW => ⟨rfl, hI.at hS hP hU hW⟩⟩ rfl rfl hl.1 rfl (lv_room (Nat.le_of_ble_eq_true rfl)) dX6_desk_70 ⟨Nat.zero_le _, Nat.zero_le _⟩) hS (fun q _ h => h) (fun q h => h) (fun u_70 t_70 H locs ht_70 _ hw_70 hB_70 _ _ hS => ?_)
        obtain ⟨g_70, gl_70, tf_70⟩ := u_70
        have hP : va_P (zD Z) vwCl (xw Z g_70 gl_70 tf_70) H := ht_70 ▸ hB_70
        obtain ⟨hf_70, hG, et_70, eg_70⟩ := hw_70
        have hF := hF.tr hf_70 (by decide)
        dsimp only at hf_70 hG hF et_70 eg_70
        subst et_70
        subst eg_70
        refine lv_aload_n hx hb dX6_desk_73 rfl (lv_at hl 0 rfl) ?_
        refine va_get (D := zD Z) (ci := 6) (v := .ref (za Z 5)) (C := RX6) (T := TX6) (N := 11) hx hb hT inlX6 hown hK hP 0 xw_0 rfl 2 (by decide) (hT _ (tr_1 _ (List.mem_of_getElem? (i := 23) rfl))) (fun _ h9 => h9) rfl dX6_desk_74 ?_
        refine lv_aload_n hx hb dX6_desk_77 rfl (lv_at hl 0 rfl) ?_
        refine va_get (D := zD Z) (ci := 6) (v := .ref (za Z 24)) (C := RX6) (T := TX6) (N := 11) hx hb hT inlX6 hown hK hP 0 xw_0 rfl 5 (by decide) (hT _ (tr_2 _ (List.mem_of_getElem? (i := 11) rfl))) (fun _ h9 => h9) rfl dX6_desk_78 ?_
        refine va_calli (va_runV (As := [.ref (za Z 24)]) (rest := []) ⟨hx, hb, hml, hown, hT⟩ (c_X5_take l Z hZ g1 gl_70 (wrT tf1 (za Z 24) (rdT (g1 2) z1.toInt.toNat 0) (rdT (g1 2) z1.toInt.toNat 1) (rdT (g1 2) z1.toInt.toNat 2) (rdT (g1 2) z1.toInt.toNat 3) (rdT (g1 2) z1.toInt.toNat 4)) (za Z 24) hZ.ask (by omega) (TX_cr (by omega) (xr_Rw hZ (fun t ht => wrT_ne (hZ.ra (by omega)))) hT9) hG) (cwV 1 hT (tb_V (fun _ h => h) (tr_14 _ (List.mem_of_getElem? (i := 2) rfl)) (tr_14 _ (List.mem_of_getElem? (i := 3) rfl)) (tr_14 _ (List.mem_of_getElem? (i := 4) rfl)) (tr_1 _ (List.mem_of_getElem? (i := 22) rfl)) (tr_14 _ (List.mem_of_getElem? (i := 5) rfl))) rfl rfl rfl (by decide +kernel) ⟨Nat.le_of_ble_eq_true rfl, Nat.le_of_ble_eq_true rfl⟩) ⟨fun a U f mk q => ⟨q.1, XI.blind f mk a q.2⟩, va_recv hK hP (ci := 5) (q0 := 5) rfl xw_5, fun U hU hW => ⟨rfl, hI.at hS hP hU hW⟩⟩ rfl rfl hl.1 rfl (lv_room (Nat.le_of_ble_eq_true rfl)) dX6_desk_81 ⟨Nat.zero_le _, Nat.zero_le _⟩) hS (fun q _ h => h) (fun q h => h) (fun r_81 u_81 t_81 H locs ht_81 _ hw_81 hB_81 _ _ hS => ?_)
        obtain ⟨g_81, gl_81, tf_81⟩ := u_81
        have hP : va_P (zD Z) vwCl (xw Z g_81 gl_81 tf_81) H := ht_81 ▸ hB_81
        obtain ⟨hf_81, hG, et_81, hr_81⟩ := hw_81
        have hF := hF.tr hf_81 (by decide)
        (try dsimp only at hf_81 hG hF et_81 hr_81)
        subst et_81
        have k81 : (g_81 3 1).toInt = (g1 3 1).toInt + 1 := by rw [hr_81.1]; exact ti_addk rfl tk_1 (by omega) (by omega) rfl
        have k81n : (g_81 3 1).toInt.toNat = (g1 3 1).toInt.toNat + 1 := by omega
        refine lv_pop hx hb dX6_desk_84 rfl ?_
        obtain ⟨v_85, e_85⟩ : ∃ y : Int32, y = z1 + 12 := ⟨_, rfl⟩
        refine lv_iinc (v := v_85) (lv' := [(1, .int v_85), (0, .ref (za Z 0))]) hx hb dX6_desk_85 hl (k := 1) rfl (by rw [e_85]; rfl) (by decide) rfl (fun ls hl => ?_)
        have t_85 := ti_addk rfl tk_12 (by omega) (by omega) e_85
        refine lv_goto (tgt := 50) hx hb dX6_desk_88 (by decide) ?_
        exact ih50 v_85 g_81 gl_81 (wrT (wrT tf1 (za Z 24) (rdT (g1 2) z1.toInt.toNat 0) (rdT (g1 2) z1.toInt.toNat 1) (rdT (g1 2) z1.toInt.toNat 2) (rdT (g1 2) z1.toInt.toNat 3) (rdT (g1 2) z1.toInt.toNat 4)) (ro Z (g1 3 1).toInt.toNat) ((wrT tf1 (za Z 24) (rdT (g1 2) z1.toInt.toNat 0) (rdT (g1 2) z1.toInt.toNat 1) (rdT (g1 2) z1.toInt.toNat 2) (rdT (g1 2) z1.toInt.toNat 3) (rdT (g1 2) z1.toInt.toNat 4)) (za Z 24) 0) ((wrT tf1 (za Z 24) (rdT (g1 2) z1.toInt.toNat 0) (rdT (g1 2) z1.toInt.toNat 1) (rdT (g1 2) z1.toInt.toNat 2) (rdT (g1 2) z1.toInt.toNat 3) (rdT (g1 2) z1.toInt.toNat 4)) (za Z 24) 1) ((wrT tf1 (za Z 24) (rdT (g1 2) z1.toInt.toNat 0) (rdT (g1 2) z1.toInt.toNat 1) (rdT (g1 2) z1.toInt.toNat 2) (rdT (g1 2) z1.toInt.toNat 3) (rdT (g1 2) z1.toInt.toNat 4)) (za Z 24) 2) ((wrT tf1 (za Z 24) (rdT (g1 2) z1.toInt.toNat 0) (rdT (g1 2) z1.toInt.toNat 1) (rdT (g1 2) z1.toInt.toNat 2) (rdT (g1 2) z1.toInt.toNat 3) (rdT (g1 2) z1.toInt.toNat 4)) (za Z 24) 3) ((wrT tf1 (za Z 24) (rdT (g1 2) z1.toInt.toNat 0) (rdT (g1 2) z1.toInt.toNat 1) (rdT (g1 2) z1.toInt.toNat 2) (rdT (g1 2) z1.toInt.toNat 3) (rdT (g1 2) z1.toInt.toNat 4)) (za Z 24) 4)) _ _ hP hF hG hS (by omega) (by omega) ((congrFun (hf_81 1 (by decide)) 1).trans hq) hw0 ⟨by rw [hf_81 11 (by decide)]; exact hk.1, by rw [hf_81 0 (by decide)]; exact hk.2.1, by rw [hf_81 0 (by decide)]; exact hk.2.2.1, by rw [hf_81 0 (by decide)]; exact hk.2.2.2⟩ (by rw [k81n]; exact hr_81.2.1) (by omega) (fun t ht k hk9 => by rcases Int.lt_or_le (12 * (t : Int)) z1.toInt with q | q; (rw [wrT_ne (hZ.ri (by omega) (by omega) (by omega)), wrT_ne (hZ.ra (by omega))]; exact hA t q k hk9); rw [show (g1 3 1).toInt.toNat = t by omega, wrT_k k hk9, show z1.toInt.toNat = 12 * t by omega, q2]; exact rdw k hk9) (fun b h9 hb => by rw [wrT_ne (hb _ (by omega)), wrT_ne h9]; exact hB b h9 hb) (by omega) ls (lv_sub hl [1, 0] rfl)
  refine lv_aload_n hx hb dX6_desk_0 rfl (lv_at hl 0 rfl) ?_
  refine va_get (D := zD Z) (ci := 6) (v := .ref (za Z 1)) (C := RX6) (T := TX6) (N := 11) hx hb hT inlX6 hown hK hP 0 xw_0 rfl 0 (by decide) (hT _ (tr_1 _ (List.mem_of_getElem? (i := 15) rfl))) (fun _ h9 => h9) rfl dX6_desk_1 ?_
  refine rd_ci (va_runV (As := []) (rest := []) ⟨hx, hb, hml, hown, hT⟩ (c_X1_isWholeDesk l Z hZ g gl tf (by first | assumption | omega | decide) (by first | assumption | omega | decide) hG) (cwV 0 hT (tb_V (fun _ h => h) (tr_12 _ (List.mem_of_getElem? (i := 22) rfl)) (tr_12 _ (List.mem_of_getElem? (i := 23) rfl)) (tr_13 _ (List.mem_of_getElem? (i := 0) rfl)) (tr_1 _ (List.mem_of_getElem? (i := 14) rfl)) (tr_13 _ (List.mem_of_getElem? (i := 1) rfl))) rfl rfl rfl (by decide +kernel) ⟨Nat.le_of_ble_eq_true rfl, Nat.le_of_ble_eq_true rfl⟩) ⟨fun a U f mk q => ⟨q.1, XI.blind f mk a q.2⟩, va_recv hK hP (ci := 1) (q0 := 1) rfl xw_1, fun U hU hW => ⟨rfl, hI.at hS hP hU hW⟩⟩ rfl rfl hl.1 rfl (lv_room (Nat.le_of_ble_eq_true rfl)) dX6_desk_4 ⟨Nat.zero_le _, Nat.zero_le _⟩) (fun r_4 hr_4 => ?_)
  rcases hr_4 with ⟨rfl, b_4⟩ | ⟨rfl, b_4⟩
  · skip
    refine lv_if_ne (tgt := 13) hx hb dX6_desk_7 (by decide) (fun c_7 => ?_) (fun c_7 => absurd c_7 (by decide))
    refine lv_aload_n hx hb dX6_desk_13 rfl (lv_at hl 0 rfl) ?_
    refine va_get (D := zD Z) (ci := 6) (v := .ref (za Z 5)) (C := RX6) (T := TX6) (N := 11) hx hb hT inlX6 hown hK hP 0 xw_0 rfl 2 (by decide) (hT _ (tr_1 _ (List.mem_of_getElem? (i := 23) rfl))) (fun _ h9 => h9) rfl dX6_desk_14 ?_
    refine va_callv (va_runV (As := []) (rest := []) ⟨hx, hb, hml, hown, hT⟩ (c_X5_empty l Z hZ g gl tf hG) (cwV 0 hT (tb_V (fun _ h => h) (tr_13 _ (List.mem_of_getElem? (i := 3) rfl)) (tr_13 _ (List.mem_of_getElem? (i := 4) rfl)) (tr_13 _ (List.mem_of_getElem? (i := 5) rfl)) (tr_1 _ (List.mem_of_getElem? (i := 22) rfl)) (tr_13 _ (List.mem_of_getElem? (i := 6) rfl))) rfl rfl rfl (by decide +kernel) ⟨Nat.le_of_ble_eq_true rfl, Nat.le_of_ble_eq_true rfl⟩) ⟨fun a U f mk q => ⟨q.1, XI.blind f mk a q.2⟩, va_recv hK hP (ci := 5) (q0 := 5) rfl xw_5, fun U hU hW => ⟨rfl, hI.at hS hP hU hW⟩⟩ rfl rfl hl.1 rfl (lv_room (Nat.le_of_ble_eq_true rfl)) dX6_desk_17 ⟨Nat.zero_le _, Nat.zero_le _⟩) hS (fun q _ h => h) (fun q h => h) (fun u_17 t_17 H locs ht_17 _ hw_17 hB_17 _ _ hS => ?_)
    obtain ⟨g_17, gl_17, tf_17⟩ := u_17
    have hP : va_P (zD Z) vwCl (xw Z g_17 gl_17 tf_17) H := ht_17 ▸ hB_17
    obtain ⟨hf_17, hG, et_17, hr_17⟩ := hw_17
    have hF := hF.tr hf_17 (by decide)
    (try dsimp only at hf_17 hG hF et_17 hr_17)
    subst et_17
    refine lv_aload_n hx hb dX6_desk_20 rfl (lv_at hl 0 rfl) ?_
    refine va_get (D := zD Z) (ci := 6) (v := .ref (za Z 11)) (C := RX6) (T := TX6) (N := 11) hx hb hT inlX6 hown hK hP 0 xw_0 rfl 3 (by decide) (hT _ (tr_2 _ (List.mem_of_getElem? (i := 3) rfl))) (fun _ h9 => h9) rfl dX6_desk_21 ?_
    refine lv_iconst (v := 0) hx hb dX6_desk_24 (by decide) ?_
    refine va_put (D := zD Z) (ci := 2) (v := .int 0) (ty := .int) (C := RX2) (T := TX2) (N := 5) hx hb hT inlX2 tyX2 tyX2_ok nmX2 hown hK hP hZ.D hS 11 xw_11 rfl 4 (by decide) (hT _ (tr_12 _ (List.mem_of_getElem? (i := 17) rfl))) (fun _ h9 => h9) rfl (by decide +kernel) rfl rfl (Nat.le_of_ble_eq_true rfl) dX6_desk_25 (fun H locs hP _ hS => ?_)
    replace hP := xf_11_4 hP
    have hF := hF.u2 (i := 11) (k := 4) (v := 0) (by decide)
    refine lv_aload_n hx hb dX6_desk_28 rfl (lv_at hl 0 rfl) ?_
    refine lv_iconst (v := 0) hx hb dX6_desk_29 (by decide) ?_
    refine va_put (D := zD Z) (ci := 6) (v := .int 0) (ty := .boolean) (C := RX6) (T := TX6) (N := 11) hx hb hT inlX6 tyX6 tyX6_ok nmX6 hown hK hP hZ.D hS 0 xw_0 rfl 9 (by decide) (hT _ (tr_12 _ (List.mem_of_getElem? (i := 18) rfl))) (fun _ h9 => h9) rfl (by decide +kernel) rfl rfl (Nat.le_of_ble_eq_true rfl) dX6_desk_30 (fun H locs hP _ hS => ?_)
    replace hP := xf_0_9 hP
    have hF := hF.u2 (i := 0) (k := 9) (v := 0) (by decide)
    refine lv_aload_n hx hb dX6_desk_33 rfl (lv_at hl 0 rfl) ?_
    refine lv_iconst (v := 1) hx hb dX6_desk_34 (by decide) ?_
    refine va_put (D := zD Z) (ci := 6) (v := .int 1) (ty := .boolean) (C := RX6) (T := TX6) (N := 11) hx hb hT inlX6 tyX6 tyX6_ok nmX6 hown hK hP hZ.D hS 0 xw_0 rfl 8 (by decide) (hT _ (tr_12 _ (List.mem_of_getElem? (i := 19) rfl))) (fun _ h9 => h9) rfl (by decide +kernel) rfl rfl (Nat.le_of_ble_eq_true rfl) dX6_desk_35 (fun H locs hP _ hS => ?_)
    replace hP := xf_0_8 hP
    have hF := hF.u2 (i := 0) (k := 8) (v := 1) (by decide)
    refine lv_aload_n hx hb dX6_desk_38 rfl (lv_at hl 0 rfl) ?_
    refine lv_dup hx hb dX6_desk_39 rfl ?_
    refine va_get (D := zD Z) (ci := 6) (v := .int (g_17 0 10)) (C := RX6) (T := TX6) (N := 11) hx hb hT inlX6 hown hK hP 0 xw_0 rfl 10 (by decide) (hT _ (tr_12 _ (List.mem_of_getElem? (i := 20) rfl))) (fun _ h9 => h9) rfl dX6_desk_40 ?_
    refine lv_iconst (v := 1) hx hb dX6_desk_43 (by decide) ?_
    refine lv_iadd hx hb dX6_desk_44 ?_
    refine lv_topi (fun v_44 e_44 => ?_)
    refine va_put (D := zD Z) (ci := 6) (v := .int v_44) (ty := .int) (C := RX6) (T := TX6) (N := 11) hx hb hT inlX6 tyX6 tyX6_ok nmX6 hown hK hP hZ.D hS 0 xw_0 rfl 10 (by decide) (hT _ (tr_12 _ (List.mem_of_getElem? (i := 20) rfl))) (fun _ h9 => h9) rfl (by decide +kernel) rfl rfl (Nat.le_of_ble_eq_true rfl) dX6_desk_45 (fun H locs hP _ hS => ?_)
    replace hP := xf_0_10 hP
    have hF := hF.u2 (i := 0) (k := 10) (v := v_44) (by decide)
    refine lv_iconst (v := 0) hx hb dX6_desk_48 (by decide) ?_
    refine lv_istore_n (lv' := [(1, .int 0), (0, .ref (za Z 0))]) hx hb dX6_desk_49 rfl hl (by decide) rfl (fun ls hl => ?_)
    exact L50 _ 0 (up2 (up2 (up2 (up2 g_17 11 4 0) 0 9 0) 0 8 1) 0 10 v_44) gl_17 tf _ _ hP hF hG hS ⟨by decide, by rw [tk_0]; omega⟩ (by show (0 : Int32).toInt = 12 * (g_17 3 1).toInt; rw [hr_17.1]; decide) (congrFun (hf_17 1 (by decide)) 1) b_4 ⟨rfl, rfl, rfl, by rw [e_44]; show g_17 0 10 + 1 = _; rw [hf_17 0 (by decide)]⟩ (by show TX (xr Z tf) (g_17 3 1).toInt.toNat _; rw [hr_17.1, show (0 : Int32).toInt.toNat = 0 from rfl]; exact TX_ch (S := [0, 11]) (TX_0 hr_17.2.1 hr_17.2.2.1 hr_17.2.2.2) (Fr.u2 (Fr.u2 (Fr.u2 (Fr.u2 Fr.rf (by decide)) (by decide)) (by decide)) (by decide)) (by decide)) (by show (g_17 3 1).toInt ≤ 40; rw [hr_17.1]; decide) (fun t ht => by rw [tk_0] at ht; omega) (fun _ _ _ => rfl) (Nat.lt_succ_self _) ls (lv_sub hl [1, 0] rfl)
  · skip
    refine lv_if_ne (tgt := 13) hx hb dX6_desk_7 (by decide) (fun c_7 => absurd c_7 (by decide)) (fun c_7 => ?_)
    refine lv_bipush (v := (-103)) hx hb dX6_desk_10 (by decide) ?_
    exact W.iret (v := (-103)) hx hb hr (fun t ht hW => ⟨⟨(-103), (g, gl, tf), rfl, ⟨hF, hG, (by (try dsimp only); first | done | exact Or.inl ⟨b_4, rfl, rfl, rfl⟩)⟩, by show va_P (zD Z) vwCl (xw Z g gl tf) t.heap; rw [ht]; exact hP⟩, hS.F ht⟩) hS.2.2 dX6_desk_12
