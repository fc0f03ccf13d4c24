theorem xr_4 {Z : ZT} (hZ : XG Z) {tf : Nat → Nat → Int32} (hG : Gd Z tf) : ∀ t, 0 ≤ (xr Z tf 4 t).toInt ∧ (xr Z tf 4 t).toInt ≤ 63 := fun t => (hG (ro Z t) (hZ.rin t)).1
theorem xr_5 {Z : ZT} (hZ : XG Z) {tf : Nat → Nat → Int32} (hG : Gd Z tf) : ∀ t, (xr Z tf 5 t).toInt ≤ 63 := fun t => (hG (ro Z t) (hZ.rin t)).2.2
theorem xr_5n {Z : ZT} (hZ : XG Z) {tf : Nat → Nat → Int32} (hG : Gd Z tf) (t : Nat) : 0 ≤ (xr Z tf 5 t).toInt := (hG (ro Z t) (hZ.rin t)).2.1
/-- rows that are the same ahead of n -/
theorem xr_Rw {Z : ZT} (hZ : XG Z) {tf tf2 : Nat → Nat → Int32} {n : Nat} (h : ∀ t, t < n → tf2 (ro Z t) = tf (ro Z t)) : Rw (xr Z tf) (xr Z tf2) n := fun t ht k _ => by
  show tf (ro Z t) (k + 1 - 1) = tf2 (ro Z t) (k + 1 - 1)
  rw [h t (by omega)]
theorem wrT_self {tf : Nat → Nat → Int32} {a b : Nat} : ∀ k, k < 5 → wrT tf b (tf a 0) (tf a 1) (tf a 2) (tf a 3) (tf a 4) a k = tf a k := fun k hk => by
  by_cases e : a = b
  · subst e; exact wrT_k k hk
  · rw [wrT_ne e]
/-- offered with the greatest number: the cheapest one then -/
theorem lw_y {R : Nat → Nat → Int32} {n q : Nat} {b x : Int32} (hx : x = nI n) (h : hs R n q) (hbd : b = bst R n q) (h2 : b = -1 ∨ mbt R x b (nI q) = true) : x = bst R (n + 1) q := by
  subst hx; subst hbd; exact (bst_y h h2).symm
theorem lw_n {R : Nat → Nat → Int32} {n q : Nat} {b x : Int32} (hx : x = nI n) (hbd : b = bst R n q) (h2 : ¬ (hs R n q ∧ (b = -1 ∨ mbt R x b (nI q) = true))) : b = bst R (n + 1) q := by
  subst hx; subst hbd; exact (bst_n h2).symm
theorem bst_rg {R : Nat → Nat → Int32} {n q : Nat} (hn : n ≤ 70) : bst R n q = -1 ∨ (0 ≤ (bst R n q).toInt ∧ (bst R n q).toInt < n) := by
  rcases bst_isB (R := R) (q := q) n (by omega) with ⟨z, -⟩ | ⟨t, z1, z2, -⟩
  · exact Or.inl z
  · right; rw [z2, nI_toInt (by omega)]; omega
theorem bst_back {R : Nat → Nat → Int32} {n q : Nat} (hn : n < 70) (h : ¬ bst R (n + 1) q = nI n) : bst R (n + 1) q = bst R n q := by
  by_cases c : hs R n q ∧ (bst R n q = -1 ∨ bt R (nI n) (bst R n q) q)
  · exact absurd (bst_y c.1 c.2) h
  · exact bst_n c
set_option maxHeartbeats 4000000 in
set_option maxRecDepth 100000 in
theorem c_X6_isQuantity (l : Launch) (x1 : Int32) : Met l yX6_isQuantity (Cond.code yX6_isQuantity cX6_isQuantity 1 (some .boolean) :: wsL_law) ({ frames := 0, cells := 0, slots := 0, locals := 0 } : Room) (va_Pc [.int x1] (fun _ => True)) (rd_Qi (fun r => (r = 1 ∧ (0 ≤ x1.toInt ∧ x1.toInt < 64)) ∨ (r = 0 ∧ ¬ (0 ≤ x1.toInt ∧ x1.toInt < 64)))) 0 0 (fun _ => False) := by
  refine Met.ofW (cc := cX6_isQuantity) (maxL := 1) (ret := (some .boolean)) (by decide) rfl ?_
  intro p e s m args below meth c s₁ B hml hv
  obtain ⟨rfl, hI⟩ := hv
  have hx := B.exec
  have hb := B.bytes
  have hr := B.returns
  have hT : ∀ w ∈ wsL_law, w.before ([.int x1] : List Value).toArray s = true := fun w h => atoms_spec (ws := (Cond.code yX6_isQuantity cX6_isQuantity 1 (some .boolean) :: wsL_law)) B.pre w (List.mem_cons_of_mem _ h)
  have hown : s.vm.findClass RX6 = some m.cls := findClass_of_methodNamed B.named
  have hlocks := B.notSynchronized
  have hl := lv_entry ([.int x1]) (n := 1) (Nat.le_of_ble_eq_true rfl)
  rw [lg_entry_eq]
  generalize (lg_sl ([.int x1]) ++ List.replicate (1 - (lg_sl ([.int x1])).length) Slot.unset).toArray = ls at hl ⊢
  have hl : lv_has ls 1 [(0, .int x1)] := hl
  refine lv_iload_n hx hb dX6_isQuantity_0 rfl (lv_at hl 0 rfl) ?_
  refine lv_if_lt (tgt := 14) hx hb dX6_isQuantity_1 (by decide) (fun c_1 => ?_) (fun c_1 => ?_)
  · skip
    have i_1 := ti_ltk rfl tk_0 c_1
    refine lv_iconst (v := 0) hx hb dX6_isQuantity_14 (by decide) ?_
    exact W.zret (v := 0) (ty := .boolean) hx hb hr rfl (fun t ht hW => ⟨0, rfl, Or.inr ⟨rfl, (by first | assumption | omega | decide)⟩, ht⟩) (fun q hq => by cases hq) dX6_isQuantity_15
  · skip
    have i_1 := ti_nltk rfl tk_0 c_1
    refine lv_iload_n hx hb dX6_isQuantity_4 rfl (lv_at hl 0 rfl) ?_
    refine lv_bipush (v := 64) hx hb dX6_isQuantity_5 (by decide) ?_
    refine lv_icmp_ge (tgt := 14) hx hb dX6_isQuantity_7 (by decide) (fun c_7 => ?_) (fun c_7 => ?_)
    · skip
      have i_7 := ti_lek tk_64 rfl c_7
      refine lv_iconst (v := 0) hx hb dX6_isQuantity_14 (by decide) ?_
      exact W.zret (v := 0) (ty := .boolean) hx hb hr rfl (fun t ht hW => ⟨0, rfl, Or.inr ⟨rfl, (by first | assumption | omega | decide)⟩, ht⟩) (fun q hq => by cases hq) dX6_isQuantity_15
    · skip
      have i_7 := ti_nlek tk_64 rfl c_7
      refine lv_iconst (v := 1) hx hb dX6_isQuantity_10 (by decide) ?_
      refine lv_goto (tgt := 15) hx hb dX6_isQuantity_11 (by decide) ?_
      exact W.zret (v := 1) (ty := .boolean) hx hb hr rfl (fun t ht hW => ⟨1, rfl, Or.inl ⟨rfl, (by first | assumption | omega | decide)⟩, ht⟩) (fun q hq => by cases hq) dX6_isQuantity_15
set_option maxHeartbeats 4000000 in
set_option maxRecDepth 100000 in
theorem c_X5_isLogPlace (l : Launch) (Z : ZT) (hZ : XG Z) (g : Nat → Nat → Int32) (gl : Nat → Nat → Int64) (tf : Nat → Nat → Int32) (x1 : Int32) (hG : Gd Z tf) : Met l yX5_isLogPlace (Cond.code yX5_isLogPlace cX5_isLogPlace 2 (some .boolean) :: wsL_law) ({ frames := 0, cells := 0, slots := 0, locals := 0 } : Room) (va_Pc [.ref (za Z 5), .int x1] (XI Z g gl tf)) (rd_Qi (fun r => (r = 1 ∧ (0 ≤ x1.toInt ∧ x1.toInt < 2100)) ∨ (r = 0 ∧ ¬ (0 ≤ x1.toInt ∧ x1.toInt < 2100)))) 0 0 (fun _ => False) := by
  refine Met.ofW (cc := cX5_isLogPlace) (maxL := 2) (ret := (some .boolean)) (by decide) rfl ?_
  intro p e s m args below meth c s₁ B hml hv
  obtain ⟨rfl, hI⟩ := hv
  have hx := B.exec
  have hb := B.bytes
  have hr := B.returns
  have hT : ∀ w ∈ wsL_law, w.before ([.ref (za Z 5), .int x1] : List Value).toArray s = true := fun w h => atoms_spec (ws := (Cond.code yX5_isLogPlace cX5_isLogPlace 2 (some .boolean) :: wsL_law)) B.pre w (List.mem_cons_of_mem _ h)
  have hown : s.vm.findClass RX5 = some m.cls := findClass_of_methodNamed B.named
  have hlocks := B.notSynchronized
  have hK := hI.2.1
  have hP := hI.1
  have hS : va_S (zA Z) s.heap s.heap [] := va_S.rf
  have hl := lv_entry ([.ref (za Z 5), .int x1]) (n := 2) (Nat.le_of_ble_eq_true rfl)
  rw [lg_entry_eq]
  generalize (lg_sl ([.ref (za Z 5), .int x1]) ++ List.replicate (2 - (lg_sl ([.ref (za Z 5), .int x1])).length) Slot.unset).toArray = ls at hl ⊢
  have hl : lv_has ls 2 [(0, .ref (za Z 5)), (1, .int x1)] := hl
  refine lv_iload_n hx hb dX5_isLogPlace_0 rfl (lv_at hl 1 rfl) ?_
  refine lv_if_lt (tgt := 26) hx hb dX5_isLogPlace_1 (by decide) (fun c_1 => ?_) (fun c_1 => ?_)
  · skip
    have i_1 := ti_ltk rfl tk_0 c_1
    refine lv_iconst (v := 0) hx hb dX5_isLogPlace_26 (by decide) ?_
    exact W.zret (v := 0) (ty := .boolean) hx hb hr rfl (fun t ht hW => ⟨0, rfl, Or.inr ⟨rfl, (by first | assumption | omega | decide)⟩, ht⟩) (fun q hq => by cases hq) dX5_isLogPlace_27
  · skip
    have i_1 := ti_nltk rfl tk_0 c_1
    refine lv_iload_n hx hb dX5_isLogPlace_4 rfl (lv_at hl 1 rfl) ?_
    refine lv_aload_n hx hb dX5_isLogPlace_5 rfl (lv_at hl 0 rfl) ?_
    refine va_get (D := zD Z) (ci := 5) (v := .ref (za Z 7)) (C := RX5) (T := TX5) (N := 7) hx hb hT inlX5 hown hK hP 5 xw_5 rfl 2 (by decide) (hT _ (tr_3 _ (List.mem_of_getElem? (i := 13) rfl))) (fun _ h9 => h9) rfl dX5_isLogPlace_6 ?_
    refine va_alen hx hb hK hP 7 1 xw_7 rfl (v := 2100) rfl dX5_isLogPlace_9 ?_
    refine lv_icmp_ge (tgt := 26) hx hb dX5_isLogPlace_10 (by decide) (fun c_10 => ?_) (fun c_10 => ?_)
    · skip
      have i_10 := ti_lek tk_2100 rfl c_10
      refine lv_iconst (v := 0) hx hb dX5_isLogPlace_26 (by decide) ?_
      exact W.zret (v := 0) (ty := .boolean) hx hb hr rfl (fun t ht hW => ⟨0, rfl, Or.inr ⟨rfl, (by first | assumption | omega | decide)⟩, ht⟩) (fun q hq => by cases hq) dX5_isLogPlace_27
    · skip
      have i_10 := ti_nlek tk_2100 rfl c_10
      refine lv_iload_n hx hb dX5_isLogPlace_13 rfl (lv_at hl 1 rfl) ?_
      refine lv_aload_n hx hb dX5_isLogPlace_14 rfl (lv_at hl 0 rfl) ?_
      refine va_get (D := zD Z) (ci := 5) (v := .ref (za Z 8)) (C := RX5) (T := TX5) (N := 7) hx hb hT inlX5 hown hK hP 5 xw_5 rfl 3 (by decide) (hT _ (tr_3 _ (List.mem_of_getElem? (i := 14) rfl))) (fun _ h9 => h9) rfl dX5_isLogPlace_15 ?_
      refine va_alen hx hb hK hP 8 1 xw_8 rfl (v := 2100) rfl dX5_isLogPlace_18 ?_
      refine lv_icmp_ge (tgt := 26) hx hb dX5_isLogPlace_19 (by decide) (fun c_19 => ?_) (fun c_19 => ?_)
      · skip
        have i_19 := ti_lek tk_2100 rfl c_19
        refine lv_iconst (v := 0) hx hb dX5_isLogPlace_26 (by decide) ?_
        exact W.zret (v := 0) (ty := .boolean) hx hb hr rfl (fun t ht hW => ⟨0, rfl, Or.inr ⟨rfl, (by first | assumption | omega | decide)⟩, ht⟩) (fun q hq => by cases hq) dX5_isLogPlace_27
      · skip
        have i_19 := ti_nlek tk_2100 rfl c_19
        refine lv_iconst (v := 1) hx hb dX5_isLogPlace_22 (by decide) ?_
        refine lv_goto (tgt := 27) hx hb dX5_isLogPlace_23 (by decide) ?_
        exact W.zret (v := 1) (ty := .boolean) hx hb hr rfl (fun t ht hW => ⟨1, rfl, Or.inl ⟨rfl, (by first | assumption | omega | decide)⟩, ht⟩) (fun q hq => by cases hq) dX5_isLogPlace_27
set_option maxHeartbeats 4000000 in
set_option maxRecDepth 100000 in
theorem c_X5_put (l : Launch) (Z : ZT) (hZ : XG Z) (g : Nat → Nat → Int32) (gl : Nat → Nat → Int64) (tf : Nat → Nat → Int32) (x1 : Int32) (x2 : Int32) (hc : 0 ≤ (g 5 5).toInt ∧ (g 5 5).toInt < 2100) (h1 : 1 ≤ x1.toInt ∧ x1.toInt ≤ 127) (hG : Gd Z tf) : Met l yX5_put (Cond.code yX5_put cX5_put 3 none :: wsL_law) ({ frames := 1, cells := 0, slots := 0, locals := 21 } : Room) (va_Pc [.ref (za Z 5), .int x1, .int x2] (XI Z g gl tf)) (va_Qv (fun (u : (Nat → Nat → Int32) × (Nat → Nat → Int64) × (Nat → Nat → Int32)) => Fr [5, 6, 7, 8] g u.1 ∧ Gd Z u.2.2 ∧ tf = u.2.2 ∧ (putG g x1 x2) = u.1) (fun u t => va_P (zD Z) vwCl (xw Z u.1 u.2.1 u.2.2) t.heap) (zA Z)) 0 0 (zA Z) := by
  refine Met.ofW (cc := cX5_put) (maxL := 3) (ret := none) (by decide) rfl ?_
  intro p e s m args below meth c s₁ B hml hv
  obtain ⟨rfl, hI⟩ := hv
  have hx := B.exec
  have hb := B.bytes
  have hr := B.returns
  have hT : ∀ w ∈ wsL_law, w.before ([.ref (za Z 5), .int x1, .int x2] : List Value).toArray s = true := fun w h => atoms_spec (ws := (Cond.code yX5_put cX5_put 3 none :: wsL_law)) B.pre w (List.mem_cons_of_mem _ h)
  have hown : s.vm.findClass RX5 = some m.cls := findClass_of_methodNamed B.named
  have hlocks := B.notSynchronized
  have hK := hI.2.1
  have hP := hI.1
  have hS : va_S (zA Z) s.heap s.heap [] := va_S.rf
  have hF : Fr [5, 6, 7, 8] g g := Fr.rf
  have hl := lv_entry ([.ref (za Z 5), .int x1, .int x2]) (n := 3) (Nat.le_of_ble_eq_true rfl)
  rw [lg_entry_eq]
  generalize (lg_sl ([.ref (za Z 5), .int x1, .int x2]) ++ List.replicate (3 - (lg_sl ([.ref (za Z 5), .int x1, .int x2])).length) Slot.unset).toArray = ls at hl ⊢
  have hl : lv_has ls 3 [(0, .ref (za Z 5)), (1, .int x1), (2, .int x2)] := hl
  refine lv_aload_n hx hb dX5_put_0 rfl (lv_at hl 0 rfl) ?_
  refine lv_aload_n hx hb dX5_put_1 rfl (lv_at hl 0 rfl) ?_
  refine va_get (D := zD Z) (ci := 5) (v := .int (g 5 5)) (C := RX5) (T := TX5) (N := 7) hx hb hT inlX5 hown hK hP 5 xw_5 rfl 5 (by decide) (hT _ (tr_13 _ (List.mem_of_getElem? (i := 8) rfl))) (fun _ h9 => h9) rfl dX5_put_2 ?_
  refine rd_ci (va_runV (As := [.int (g 5 5)]) (rest := []) ⟨hx, hb, hml, hown, hT⟩ (c_X5_isLogPlace l Z hZ g gl tf (g 5 5) hG) (cwV 1 hT (tb_V (fun _ h => h) (tr_15 _ (List.mem_of_getElem? (i := 18) rfl)) (tr_15 _ (List.mem_of_getElem? (i := 19) rfl)) (tr_15 _ (List.mem_of_getElem? (i := 20) rfl)) (tr_1 _ (List.mem_of_getElem? (i := 22) rfl)) (tr_15 _ (List.mem_of_getElem? (i := 21) rfl))) rfl rfl rfl (by decide +kernel) ⟨Nat.le_of_ble_eq_true rfl, Nat.le_of_ble_eq_true rfl⟩) ⟨fun a U f mk q => ⟨q.1, XI.blind f mk a q.2⟩, va_recv hK hP (ci := 5) (q0 := 5) rfl xw_5, fun U hU hW => ⟨rfl, hI.at hS hP hU hW⟩⟩ rfl rfl hl.1 rfl (lv_room (Nat.le_of_ble_eq_true rfl)) dX5_put_5 ⟨Nat.zero_le _, Nat.zero_le _⟩) (fun r_5 hr_5 => ?_)
  rcases hr_5 with ⟨rfl, b_5⟩ | ⟨rfl, b_5⟩
  · skip
    refine lv_if_eq (tgt := 64) hx hb dX5_put_8 (by decide) (fun c_8 => absurd c_8 (by decide)) (fun c_8 => ?_)
    refine lv_iload_n hx hb dX5_put_11 rfl (lv_at hl 1 rfl) ?_
    refine lv_iconst (v := 1) hx hb dX5_put_12 (by decide) ?_
    refine lv_icmp_lt (tgt := 64) hx hb dX5_put_13 (by decide) (fun c_13 => ?_) (fun c_13 => ?_)
    · skip
      have i_13 := ti_ltk rfl tk_1 c_13
      exfalso
      omega
    · skip
      have i_13 := ti_nltk rfl tk_1 c_13
      refine lv_iload_n hx hb dX5_put_16 rfl (lv_at hl 1 rfl) ?_
      refine lv_bipush (v := 127) hx hb dX5_put_17 (by decide) ?_
      refine lv_icmp_gt (tgt := 64) hx hb dX5_put_19 (by decide) (fun c_19 => ?_) (fun c_19 => ?_)
      · skip
        have i_19 := ti_ltk tk_127 rfl c_19
        exfalso
        omega
      · skip
        have i_19 := ti_nltk tk_127 rfl c_19
        refine lv_aload_n hx hb dX5_put_22 rfl (lv_at hl 0 rfl) ?_
        refine va_get (D := zD Z) (ci := 5) (v := .ref (za Z 7)) (C := RX5) (T := TX5) (N := 7) hx hb hT inlX5 hown hK hP 5 xw_5 rfl 2 (by decide) (hT _ (tr_3 _ (List.mem_of_getElem? (i := 13) rfl))) (fun _ h9 => h9) rfl dX5_put_23 ?_
        refine lv_aload_n hx hb dX5_put_26 rfl (lv_at hl 0 rfl) ?_
        refine va_get (D := zD Z) (ci := 5) (v := .int (g 5 5)) (C := RX5) (T := TX5) (N := 7) hx hb hT inlX5 hown hK hP 5 xw_5 rfl 5 (by decide) (hT _ (tr_13 _ (List.mem_of_getElem? (i := 8) rfl))) (fun _ h9 => h9) rfl dX5_put_27 ?_
        refine lv_iload_n hx hb dX5_put_30 rfl (lv_at hl 1 rfl) ?_
        have h_31 : vp_in (g 5 5) 2100 := (ti_vp (by omega) (by omega))
        refine va_iast hx hb hK hP hZ.D hS 7 1 xw_7 rfl h_31 dX5_put_31 (fun H locs hP _ hS => ?_)
        replace hP := xs_7 hP
        have hF := hF.uR (i := 7) (r := upd (g 7) (g 5 5).toNatClampNeg x1) (by decide)
        refine lv_aload_n hx hb dX5_put_32 rfl (lv_at hl 0 rfl) ?_
        refine va_get (D := zD Z) (ci := 5) (v := .ref (za Z 8)) (C := RX5) (T := TX5) (N := 7) hx hb hT inlX5 hown hK hP 5 xw_5 rfl 3 (by decide) (hT _ (tr_3 _ (List.mem_of_getElem? (i := 14) rfl))) (fun _ h9 => h9) rfl dX5_put_33 ?_
        refine lv_aload_n hx hb dX5_put_36 rfl (lv_at hl 0 rfl) ?_
        refine va_get (D := zD Z) (ci := 5) (v := .int (g 5 5)) (C := RX5) (T := TX5) (N := 7) hx hb hT inlX5 hown hK hP 5 xw_5 rfl 5 (by decide) (hT _ (tr_13 _ (List.mem_of_getElem? (i := 8) rfl))) (fun _ h9 => h9) rfl dX5_put_37 ?_
        refine lv_aload_n hx hb dX5_put_40 rfl (lv_at hl 0 rfl) ?_
        refine va_get (D := zD Z) (ci := 5) (v := .ref (za Z 6)) (C := RX5) (T := TX5) (N := 7) hx hb hT inlX5 hown hK hP 5 xw_5 rfl 1 (by decide) (hT _ (tr_3 _ (List.mem_of_getElem? (i := 12) rfl))) (fun _ h9 => h9) rfl dX5_put_41 ?_
        refine lv_iload_n hx hb dX5_put_44 rfl (lv_at hl 1 rfl) ?_
        have h_45 : vp_in x1 128 := (ti_vp (by omega) (by omega))
        refine va_iald hx hb hK hP 6 1 xw_6 rfl h_45 dX5_put_45 ?_
        refine lv_topi (fun v_45 e_45 => ?_)
        have h_46 : vp_in (g 5 5) 2100 := (ti_vp (by omega) (by omega))
        refine va_iast hx hb hK hP hZ.D hS 8 1 xw_8 rfl h_46 dX5_put_46 (fun H locs hP _ hS => ?_)
        replace hP := xs_8 hP
        have hF := hF.uR (i := 8) (r := upd (g 8) (g 5 5).toNatClampNeg v_45) (by decide)
        refine lv_aload_n hx hb dX5_put_47 rfl (lv_at hl 0 rfl) ?_
        refine lv_dup hx hb dX5_put_48 rfl ?_
        refine va_get (D := zD Z) (ci := 5) (v := .int (g 5 5)) (C := RX5) (T := TX5) (N := 7) hx hb hT inlX5 hown hK hP 5 xw_5 rfl 5 (by decide) (hT _ (tr_13 _ (List.mem_of_getElem? (i := 8) rfl))) (fun _ h9 => h9) rfl dX5_put_49 ?_
        refine lv_iconst (v := 1) hx hb dX5_put_52 (by decide) ?_
        refine lv_iadd hx hb dX5_put_53 ?_
        refine lv_topi (fun v_53 e_53 => ?_)
        refine va_put (D := zD Z) (ci := 5) (v := .int v_53) (ty := .int) (C := RX5) (T := TX5) (N := 7) hx hb hT inlX5 tyX5 tyX5_ok nmX5 hown hK hP hZ.D hS 5 xw_5 rfl 5 (by decide) (hT _ (tr_13 _ (List.mem_of_getElem? (i := 8) rfl))) (fun _ h9 => h9) rfl (by decide +kernel) rfl rfl (Nat.le_of_ble_eq_true rfl) dX5_put_54 (fun H locs hP _ hS => ?_)
        replace hP := xf_5_5 hP
        have hF := hF.u2 (i := 5) (k := 5) (v := v_53) (by decide)
        refine lv_aload_n hx hb dX5_put_57 rfl (lv_at hl 0 rfl) ?_
        refine va_get (D := zD Z) (ci := 5) (v := .ref (za Z 6)) (C := RX5) (T := TX5) (N := 7) hx hb hT inlX5 hown hK hP 5 xw_5 rfl 1 (by decide) (hT _ (tr_3 _ (List.mem_of_getElem? (i := 12) rfl))) (fun _ h9 => h9) rfl dX5_put_58 ?_
        refine lv_iload_n hx hb dX5_put_61 rfl (lv_at hl 1 rfl) ?_
        refine lv_iload_n hx hb dX5_put_62 rfl (lv_at hl 2 rfl) ?_
        have h_63 : vp_in x1 128 := (ti_vp (by omega) (by omega))
        refine va_iast hx hb hK hP hZ.D hS 6 1 xw_6 rfl h_63 dX5_put_63 (fun H locs hP _ hS => ?_)
        replace hP := xs_6 hP
        have hF := hF.uR (i := 6) (r := upd (g 6) x1.toNatClampNeg x2) (by decide)
        exact W.vret hx hb hr (fun t ht hW => ⟨⟨((upR (up2 (upR (upR g 7 (upd (g 7) (g 5 5).toNatClampNeg x1)) 8 (upd (g 8) (g 5 5).toNatClampNeg v_45)) 5 5 v_53) 6 (upd (g 6) x1.toNatClampNeg x2)), gl, tf), rfl, ⟨hF, hG, rfl, (by (try dsimp only); unfold putG; rw [e_53, e_45] <;> rfl)⟩, by show va_P (zD Z) vwCl (xw Z (upR (up2 (upR (upR g 7 (upd (g 7) (g 5 5).toNatClampNeg x1)) 8 (upd (g 8) (g 5 5).toNatClampNeg v_45)) 5 5 v_53) 6 (upd (g 6) x1.toNatClampNeg x2)) gl tf) t.heap; rw [ht]; exact hP⟩, hS.F ht⟩) hS.2.2 dX5_put_64
  · skip
    exfalso
    omega
set_option maxHeartbeats 4000000 in
set_option maxRecDepth 100000 in
theorem c_X5_putBack (l : Launch) (Z : ZT) (hZ : XG Z) (g : Nat → Nat → Int32) (gl : Nat → Nat → Int64) (tf : Nat → Nat → Int32) (x1 : Int32) (h1 : 0 ≤ x1.toInt ∧ x1.toInt < 2100) (hG : Gd Z tf) : Met l yX5_putBack (Cond.code yX5_putBack cX5_putBack 2 none :: wsL_law) ({ frames := 1, cells := 0, slots := 0, locals := 21 } : Room) (va_Pc [.ref (za Z 5), .int x1] (XI Z g gl tf)) (va_Qv (fun (u : (Nat → Nat → Int32) × (Nat → Nat → Int64) × (Nat → Nat → Int32)) => Fr [6] g u.1 ∧ Gd Z u.2.2 ∧ tf = u.2.2 ∧ (upR g 6 (pbk (g 6) (g 7 x1.toNatClampNeg) (g 8 x1.toNatClampNeg))) = u.1) (fun u t => va_P (zD Z) vwCl (xw Z u.1 u.2.1 u.2.2) t.heap) (zA Z)) 0 0 (zA Z) := by
  refine Met.ofW (cc := cX5_putBack) (maxL := 2) (ret := none) (by decide) rfl ?_
  intro p e s m args below meth c s₁ B hml hv
  obtain ⟨rfl, hI⟩ := hv
  have hx := B.exec
  have hb := B.bytes
  have hr := B.returns
  have hT : ∀ w ∈ wsL_law, w.before ([.ref (za Z 5), .int x1] : List Value).toArray s = true := fun w h => atoms_spec (ws := (Cond.code yX5_putBack cX5_putBack 2 none :: wsL_law)) B.pre w (List.mem_cons_of_mem _ h)
  have hown : s.vm.findClass RX5 = some m.cls := findClass_of_methodNamed B.named
  have hlocks := B.notSynchronized
  have hK := hI.2.1
  have hP := hI.1
  have hS : va_S (zA Z) s.heap s.heap [] := va_S.rf
  have hF : Fr [6] g g := Fr.rf
  have hl := lv_entry ([.ref (za Z 5), .int x1]) (n := 2) (Nat.le_of_ble_eq_true rfl)
  rw [lg_entry_eq]
  generalize (lg_sl ([.ref (za Z 5), .int x1]) ++ List.replicate (2 - (lg_sl ([.ref (za Z 5), .int x1])).length) Slot.unset).toArray = ls at hl ⊢
  have hl : lv_has ls 2 [(0, .ref (za Z 5)), (1, .int x1)] := hl
  refine lv_aload_n hx hb dX5_putBack_0 rfl (lv_at hl 0 rfl) ?_
  refine lv_iload_n hx hb dX5_putBack_1 rfl (lv_at hl 1 rfl) ?_
  refine rd_ci (va_runV (As := [.int x1]) (rest := []) ⟨hx, hb, hml, hown, hT⟩ (c_X5_isLogPlace l Z hZ g gl tf x1 hG) (cwV 1 hT (tb_V (fun _ h => h) (tr_15 _ (List.mem_of_getElem? (i := 18) rfl)) (tr_15 _ (List.mem_of_getElem? (i := 19) rfl)) (tr_15 _ (List.mem_of_getElem? (i := 20) rfl)) (tr_1 _ (List.mem_of_getElem? (i := 22) rfl)) (tr_15 _ (List.mem_of_getElem? (i := 21) rfl))) rfl rfl rfl (by decide +kernel) ⟨Nat.le_of_ble_eq_true rfl, Nat.le_of_ble_eq_true rfl⟩) ⟨fun a U f mk q => ⟨q.1, XI.blind f mk a q.2⟩, va_recv hK hP (ci := 5) (q0 := 5) rfl xw_5, fun U hU hW => ⟨rfl, hI.at hS hP hU hW⟩⟩ rfl rfl hl.1 rfl (lv_room (Nat.le_of_ble_eq_true rfl)) dX5_putBack_2 ⟨Nat.zero_le _, Nat.zero_le _⟩) (fun r_2 hr_2 => ?_)
  rcases hr_2 with ⟨rfl, b_2⟩ | ⟨rfl, b_2⟩
  · skip
    refine lv_if_eq (tgt := 46) hx hb dX5_putBack_5 (by decide) (fun c_5 => absurd c_5 (by decide)) (fun c_5 => ?_)
    refine lv_aload_n hx hb dX5_putBack_8 rfl (lv_at hl 0 rfl) ?_
    refine va_get (D := zD Z) (ci := 5) (v := .ref (za Z 7)) (C := RX5) (T := TX5) (N := 7) hx hb hT inlX5 hown hK hP 5 xw_5 rfl 2 (by decide) (hT _ (tr_3 _ (List.mem_of_getElem? (i := 13) rfl))) (fun _ h9 => h9) rfl dX5_putBack_9 ?_
    refine lv_iload_n hx hb dX5_putBack_12 rfl (lv_at hl 1 rfl) ?_
    have h_13 : vp_in x1 2100 := (ti_vp (by omega) (by omega))
    refine va_iald hx hb hK hP 7 1 xw_7 rfl h_13 dX5_putBack_13 ?_
    refine lv_topi (fun v_13 e_13 => ?_)
    refine lv_iconst (v := 1) hx hb dX5_putBack_14 (by decide) ?_
    refine lv_icmp_lt (tgt := 46) hx hb dX5_putBack_15 (by decide) (fun c_15 => ?_) (fun c_15 => ?_)
    · skip
      have i_15 := ti_ltk rfl tk_1 c_15
      exact W.vret hx hb hr (fun t ht hW => ⟨⟨(g, gl, tf), rfl, ⟨hF, hG, rfl, (by (try dsimp only); subst e_13; exact pbk_n (by omega))⟩, by show va_P (zD Z) vwCl (xw Z g gl tf) t.heap; rw [ht]; exact hP⟩, hS.F ht⟩) hS.2.2 dX5_putBack_46
    · skip
      have i_15 := ti_nltk rfl tk_1 c_15
      refine lv_aload_n hx hb dX5_putBack_18 rfl (lv_at hl 0 rfl) ?_
      refine va_get (D := zD Z) (ci := 5) (v := .ref (za Z 7)) (C := RX5) (T := TX5) (N := 7) hx hb hT inlX5 hown hK hP 5 xw_5 rfl 2 (by decide) (hT _ (tr_3 _ (List.mem_of_getElem? (i := 13) rfl))) (fun _ h9 => h9) rfl dX5_putBack_19 ?_
      refine lv_iload_n hx hb dX5_putBack_22 rfl (lv_at hl 1 rfl) ?_
      have h_23 : vp_in x1 2100 := (ti_vp (by omega) (by omega))
      refine va_iald hx hb hK hP 7 1 xw_7 rfl h_23 dX5_putBack_23 ?_
      rw [← e_13]
      refine lv_bipush (v := 127) hx hb dX5_putBack_24 (by decide) ?_
      refine lv_icmp_gt (tgt := 46) hx hb dX5_putBack_26 (by decide) (fun c_26 => ?_) (fun c_26 => ?_)
      · skip
        have i_26 := ti_ltk tk_127 rfl c_26
        exact W.vret hx hb hr (fun t ht hW => ⟨⟨(g, gl, tf), rfl, ⟨hF, hG, rfl, (by (try dsimp only); subst e_13; exact pbk_n (by omega))⟩, by show va_P (zD Z) vwCl (xw Z g gl tf) t.heap; rw [ht]; exact hP⟩, hS.F ht⟩) hS.2.2 dX5_putBack_46
      · skip
        have i_26 := ti_nltk tk_127 rfl c_26
        refine lv_aload_n hx hb dX5_putBack_29 rfl (lv_at hl 0 rfl) ?_
        refine va_get (D := zD Z) (ci := 5) (v := .ref (za Z 6)) (C := RX5) (T := TX5) (N := 7) hx hb hT inlX5 hown hK hP 5 xw_5 rfl 1 (by decide) (hT _ (tr_3 _ (List.mem_of_getElem? (i := 12) rfl))) (fun _ h9 => h9) rfl dX5_putBack_30 ?_
        refine lv_aload_n hx hb dX5_putBack_33 rfl (lv_at hl 0 rfl) ?_
        refine va_get (D := zD Z) (ci := 5) (v := .ref (za Z 7)) (C := RX5) (T := TX5) (N := 7) hx hb hT inlX5 hown hK hP 5 xw_5 rfl 2 (by decide) (hT _ (tr_3 _ (List.mem_of_getElem? (i := 13) rfl))) (fun _ h9 => h9) rfl dX5_putBack_34 ?_
        refine lv_iload_n hx hb dX5_putBack_37 rfl (lv_at hl 1 rfl) ?_
        have h_38 : vp_in x1 2100 := (ti_vp (by omega) (by omega))
        refine va_iald hx hb hK hP 7 1 xw_7 rfl h_38 dX5_putBack_38 ?_
        rw [← e_13]
        refine lv_aload_n hx hb dX5_putBack_39 rfl (lv_at hl 0 rfl) ?_
        refine va_get (D := zD Z) (ci := 5) (v := .ref (za Z 8)) (C := RX5) (T := TX5) (N := 7) hx hb hT inlX5 hown hK hP 5 xw_5 rfl 3 (by decide) (hT _ (tr_3 _ (List.mem_of_getElem? (i := 14) rfl))) (fun _ h9 => h9) rfl dX5_putBack_40 ?_
        refine lv_iload_n hx hb dX5_putBack_43 rfl (lv_at hl 1 rfl) ?_
        have h_44 : vp_in x1 2100 := (ti_vp (by omega) (by omega))
        refine va_iald hx hb hK hP 8 1 xw_8 rfl h_44 dX5_putBack_44 ?_
        refine lv_topi (fun v_44 e_44 => ?_)
        have h_45 : vp_in v_13 128 := (ti_vp (by omega) (by omega))
        refine va_iast hx hb hK hP hZ.D hS 6 1 xw_6 rfl h_45 dX5_putBack_45 (fun H locs hP _ hS => ?_)
        replace hP := xs_6 hP
        have hF := hF.uR (i := 6) (r := upd (g 6) v_13.toNatClampNeg v_44) (by decide)
        exact W.vret hx hb hr (fun t ht hW => ⟨⟨((upR g 6 (upd (g 6) v_13.toNatClampNeg v_44)), gl, tf), rfl, ⟨hF, hG, rfl, (by (try dsimp only); subst e_13; subst e_44; exact pbk_y ⟨by omega, by omega⟩)⟩, by show va_P (zD Z) vwCl (xw Z (upR g 6 (upd (g 6) v_13.toNatClampNeg v_44)) gl tf) t.heap; rw [ht]; exact hP⟩, hS.F ht⟩) hS.2.2 dX5_putBack_46
  · skip
    exfalso
    omega
set_option maxHeartbeats 4000000 in
set_option maxRecDepth 100000 in
theorem c_X5_standingAt (l : Launch) (Z : ZT) (hZ : XG Z) (g : Nat → Nat → Int32) (gl : Nat → Nat → Int64) (tf : Nat → Nat → Int32) (x1 : Int32) (hG : Gd Z tf) : Met l yX5_standingAt (Cond.code yX5_standingAt cX5_standingAt 2 (some .int) :: wsL_law) ({ frames := 0, cells := 0, slots := 0, locals := 0 } : Room) (va_Pc [.ref (za Z 5), .int x1] (XI Z g gl tf)) (rd_Qi (fun r => ((1 ≤ x1.toInt ∧ x1.toInt ≤ 127 → r = g 6 x1.toInt.toNat) ∧ (¬ (1 ≤ x1.toInt ∧ x1.toInt ≤ 127) → r = -1)))) 0 0 (fun _ => False) := by
  refine Met.ofW (cc := cX5_standingAt) (maxL := 2) (ret := (some .int)) (by decide) rfl ?_
  intro p e s m args below meth c s₁ B hml hv
  obtain ⟨rfl, hI⟩ := hv
  have hx := B.exec
  have hb := B.bytes
  have hr := B.returns
  have hT : ∀ w ∈ wsL_law, w.before ([.ref (za Z 5), .int x1] : List Value).toArray s = true := fun w h => atoms_spec (ws := (Cond.code yX5_standingAt cX5_standingAt 2 (some .int) :: wsL_law)) B.pre w (List.mem_cons_of_mem _ h)
  have hown : s.vm.findClass RX5 = some m.cls := findClass_of_methodNamed B.named
  have hlocks := B.notSynchronized
  have hK := hI.2.1
  have hP := hI.1
  have hS : va_S (zA Z) s.heap s.heap [] := va_S.rf
  have hl := lv_entry ([.ref (za Z 5), .int x1]) (n := 2) (Nat.le_of_ble_eq_true rfl)
  rw [lg_entry_eq]
  generalize (lg_sl ([.ref (za Z 5), .int x1]) ++ List.replicate (2 - (lg_sl ([.ref (za Z 5), .int x1])).length) Slot.unset).toArray = ls at hl ⊢
  have hl : lv_has ls 2 [(0, .ref (za Z 5)), (1, .int x1)] := hl
  refine lv_iload_n hx hb dX5_standingAt_0 rfl (lv_at hl 1 rfl) ?_
  refine lv_iconst (v := 1) hx hb dX5_standingAt_1 (by decide) ?_
  refine lv_icmp_lt (tgt := 20) hx hb dX5_standingAt_2 (by decide) (fun c_2 => ?_) (fun c_2 => ?_)
  · skip
    have i_2 := ti_ltk rfl tk_1 c_2
    refine lv_iconst (v := (-1)) hx hb dX5_standingAt_20 (by decide) ?_
    exact W.iret (v := (-1)) hx hb hr (fun t ht hW => ⟨(-1), rfl, ⟨fun z => by omega, fun _ => rfl⟩, ht⟩) (fun q hq => by cases hq) dX5_standingAt_21
  · skip
    have i_2 := ti_nltk rfl tk_1 c_2
    refine lv_iload_n hx hb dX5_standingAt_5 rfl (lv_at hl 1 rfl) ?_
    refine lv_bipush (v := 127) hx hb dX5_standingAt_6 (by decide) ?_
    refine lv_icmp_gt (tgt := 20) hx hb dX5_standingAt_8 (by decide) (fun c_8 => ?_) (fun c_8 => ?_)
    · skip
      have i_8 := ti_ltk tk_127 rfl c_8
      refine lv_iconst (v := (-1)) hx hb dX5_standingAt_20 (by decide) ?_
      exact W.iret (v := (-1)) hx hb hr (fun t ht hW => ⟨(-1), rfl, ⟨fun z => by omega, fun _ => rfl⟩, ht⟩) (fun q hq => by cases hq) dX5_standingAt_21
    · skip
      have i_8 := ti_nltk tk_127 rfl c_8
      refine lv_aload_n hx hb dX5_standingAt_11 rfl (lv_at hl 0 rfl) ?_
      refine va_get (D := zD Z) (ci := 5) (v := .ref (za Z 6)) (C := RX5) (T := TX5) (N := 7) hx hb hT inlX5 hown hK hP 5 xw_5 rfl 1 (by decide) (hT _ (tr_3 _ (List.mem_of_getElem? (i := 12) rfl))) (fun _ h9 => h9) rfl dX5_standingAt_12 ?_
      refine lv_iload_n hx hb dX5_standingAt_15 rfl (lv_at hl 1 rfl) ?_
      have h_16 : vp_in x1 128 := (ti_vp (by omega) (by omega))
      refine va_iald hx hb hK hP 6 1 xw_6 rfl h_16 dX5_standingAt_16 ?_
      refine lv_topi (fun v_16 e_16 => ?_)
      refine lv_goto (tgt := 21) hx hb dX5_standingAt_17 (by decide) ?_
      exact W.iret (v := v_16) hx hb hr (fun t ht hW => ⟨v_16, rfl, ⟨fun _ => e_16, fun z => by omega⟩, ht⟩) (fun q hq => by cases hq) dX5_standingAt_21
set_option maxHeartbeats 4000000 in
set_option maxRecDepth 100000 in
theorem c_X5_nodesOf (l : Launch) (Z : ZT) (hZ : XG Z) (g : Nat → Nat → Int32) (gl : Nat → Nat → Int64) (tf : Nat → Nat → Int32) (x1 : Int32) (x2 : Int32) (hG : Gd Z tf) : Met l yX5_nodesOf (Cond.code yX5_nodesOf cX5_nodesOf 5 (some .int) :: wsL_law) ({ frames := 0, cells := 0, slots := 0, locals := 0 } : Room) (va_Pc [.ref (za Z 5), .int x1, .int x2] (XI Z g gl tf)) (rd_Qi (fun r => r.toInt = cB (ndB (g 6) x1.toInt x2.toInt) 128)) 0 0 (fun _ => False) := by
  refine Met.ofW (cc := cX5_nodesOf) (maxL := 5) (ret := (some .int)) (by decide) rfl ?_
  intro p e s m args below meth c s₁ B hml hv
  obtain ⟨rfl, hI⟩ := hv
  have hx := B.exec
  have hb := B.bytes
  have hr := B.returns
  have hT : ∀ w ∈ wsL_law, w.before ([.ref (za Z 5), .int x1, .int x2] : List Value).toArray s = true := fun w h => atoms_spec (ws := (Cond.code yX5_nodesOf cX5_nodesOf 5 (some .int) :: wsL_law)) B.pre w (List.mem_cons_of_mem _ h)
  have hown : s.vm.findClass RX5 = some m.cls := findClass_of_methodNamed B.named
  have hlocks := B.notSynchronized
  have hK := hI.2.1
  have hP := hI.1
  have hS : va_S (zA Z) s.heap s.heap [] := va_S.rf
  have hl := lv_entry ([.ref (za Z 5), .int x1, .int x2]) (n := 5) (Nat.le_of_ble_eq_true rfl)
  rw [lg_entry_eq]
  generalize (lg_sl ([.ref (za Z 5), .int x1, .int x2]) ++ List.replicate (5 - (lg_sl ([.ref (za Z 5), .int x1, .int x2])).length) Slot.unset).toArray = ls at hl ⊢
  have hl : lv_has ls 5 [(0, .ref (za Z 5)), (1, .int x1), (2, .int x2)] := hl
  have L5 : ∀ (n : Nat) (z3 : Int32) (z4 : Int32)  (h4 : 1 ≤ z4.toInt ∧ z4.toInt ≤ 128) (hC : z3.toInt = cB (ndB (g 6) x1.toInt x2.toInt) z4.toInt.toNat) (hn : (128 - z4.toInt).toNat < n) (ls : Array Slot) (hl : lv_has ls 5 [(0, .ref (za Z 5)), (1, .int x1), (2, .int x2), (3, .int z3), (4, .int z4)]), W p l e ({ frames := 0, cells := 0, slots := 0, locals := 0 } : Room) s m ([.ref (za Z 5), .int x1, .int x2] : List Value).toArray below meth c s.heap [] 0 0 (MQ below (rd_Qi (fun r => r.toInt = cB (ndB (g 6) x1.toInt x2.toInt) 128)) ([.ref (za Z 5), .int x1, .int x2] : List Value).toArray s 0 0 (fun _ => False)) (F0 m 5 ls []) := by
    intro n
    induction n with
    | zero => intro z3 z4 h4 hC hn; exact absurd hn (Nat.not_lt_zero _)
    | succ n ih5 =>
      intro z3 z4 h4 hC hn ls hl
      refine lv_iload hx hb dX5_nodesOf_5 (lv_at hl 4 rfl) ?_
      refine lv_bipush (v := 127) hx hb dX5_nodesOf_7 (by decide) ?_
      refine lv_icmp_gt (tgt := 43) hx hb dX5_nodesOf_9 (by decide) (fun c_9 => ?_) (fun c_9 => ?_)
      · skip
        have i_9 := ti_ltk tk_127 rfl c_9
        refine lv_iload_n hx hb dX5_nodesOf_43 rfl (lv_at hl 3 rfl) ?_
        exact W.iret (v := z3) hx hb hr (fun t ht hW => ⟨z3, rfl, (by (try dsimp only); rw [hC, show z4.toInt.toNat = 128 by omega]), ht⟩) (fun q hq => by cases hq) dX5_nodesOf_44
      · skip
        have i_9 := ti_nltk tk_127 rfl c_9
        have cl := cB_le (ndB (g 6) x1.toInt x2.toInt) z4.toInt.toNat
        refine lv_aload_n hx hb dX5_nodesOf_12 rfl (lv_at hl 0 rfl) ?_
        refine va_get (D := zD Z) (ci := 5) (v := .ref (za Z 6)) (C := RX5) (T := TX5) (N := 7) hx hb hT inlX5 hown hK hP 5 xw_5 rfl 1 (by decide) (hT _ (tr_3 _ (List.mem_of_getElem? (i := 12) rfl))) (fun _ h9 => h9) rfl dX5_nodesOf_13 ?_
        refine lv_iload hx hb dX5_nodesOf_16 (lv_at hl 4 rfl) ?_
        have h_18 : vp_in z4 128 := (ti_vp (by omega) (by omega))
        refine va_iald hx hb hK hP 6 1 xw_6 rfl h_18 dX5_nodesOf_18 ?_
        refine lv_topi (fun v_18 e_18 => ?_)
        refine lv_iload_n hx hb dX5_nodesOf_19 rfl (lv_at hl 1 rfl) ?_
        refine lv_icmp_lt (tgt := 37) hx hb dX5_nodesOf_20 (by decide) (fun c_20 => ?_) (fun c_20 => ?_)
        · skip
          have i_20 := ti_ltk rfl rfl c_20
          obtain ⟨v_37, e_37⟩ : ∃ y : Int32, y = z4 + 1 := ⟨_, rfl⟩
          refine lv_iinc (v := v_37) (lv' := [(4, .int v_37), (0, .ref (za Z 5)), (1, .int x1), (2, .int x2), (3, .int z3)]) hx hb dX5_nodesOf_37 hl (k := 4) rfl (by rw [e_37]; rfl) (by decide) rfl (fun ls hl => ?_)
          have t_37 := ti_addk rfl tk_1 (by omega) (by omega) e_37
          refine lv_goto (tgt := 5) hx hb dX5_nodesOf_40 (by decide) ?_
          exact ih5 z3 v_37 (by omega) (by have e18 : g 6 z4.toInt.toNat = v_18 := e_18.symm; rw [show v_37.toInt.toNat = z4.toInt.toNat + 1 by omega, cB_n (p := (ndB (g 6) x1.toInt x2.toInt)) (n := z4.toInt.toNat) (by unfold ndB; rw [e18]; exact fun z => by have z := of_decide_eq_true z; omega)]; omega) (by omega) ls (lv_sub hl [1, 2, 3, 4, 0] rfl)
        · skip
          have i_20 := ti_nltk rfl rfl c_20
          refine lv_aload_n hx hb dX5_nodesOf_23 rfl (lv_at hl 0 rfl) ?_
          refine va_get (D := zD Z) (ci := 5) (v := .ref (za Z 6)) (C := RX5) (T := TX5) (N := 7) hx hb hT inlX5 hown hK hP 5 xw_5 rfl 1 (by decide) (hT _ (tr_3 _ (List.mem_of_getElem? (i := 12) rfl))) (fun _ h9 => h9) rfl dX5_nodesOf_24 ?_
          refine lv_iload hx hb dX5_nodesOf_27 (lv_at hl 4 rfl) ?_
          have h_29 : vp_in z4 128 := (ti_vp (by omega) (by omega))
          refine va_iald hx hb hK hP 6 1 xw_6 rfl h_29 dX5_nodesOf_29 ?_
          rw [← e_18]
          refine lv_iload_n hx hb dX5_nodesOf_30 rfl (lv_at hl 2 rfl) ?_
          refine lv_icmp_gt (tgt := 37) hx hb dX5_nodesOf_31 (by decide) (fun c_31 => ?_) (fun c_31 => ?_)
          · skip
            have i_31 := ti_ltk rfl rfl c_31
            obtain ⟨v_37, e_37⟩ : ∃ y : Int32, y = z4 + 1 := ⟨_, rfl⟩
            refine lv_iinc (v := v_37) (lv' := [(4, .int v_37), (0, .ref (za Z 5)), (1, .int x1), (2, .int x2), (3, .int z3)]) hx hb dX5_nodesOf_37 hl (k := 4) rfl (by rw [e_37]; rfl) (by decide) rfl (fun ls hl => ?_)
            have t_37 := ti_addk rfl tk_1 (by omega) (by omega) e_37
            refine lv_goto (tgt := 5) hx hb dX5_nodesOf_40 (by decide) ?_
            exact ih5 z3 v_37 (by omega) (by have e18 : g 6 z4.toInt.toNat = v_18 := e_18.symm; rw [show v_37.toInt.toNat = z4.toInt.toNat + 1 by omega, cB_n (p := (ndB (g 6) x1.toInt x2.toInt)) (n := z4.toInt.toNat) (by unfold ndB; rw [e18]; exact fun z => by have z := of_decide_eq_true z; omega)]; omega) (by omega) ls (lv_sub hl [1, 2, 3, 4, 0] rfl)
          · skip
            have i_31 := ti_nltk rfl rfl c_31
            obtain ⟨v_34, e_34⟩ : ∃ y : Int32, y = z3 + 1 := ⟨_, rfl⟩
            refine lv_iinc (v := v_34) (lv' := [(3, .int v_34), (0, .ref (za Z 5)), (1, .int x1), (2, .int x2), (4, .int z4)]) hx hb dX5_nodesOf_34 hl (k := 3) rfl (by rw [e_34]; rfl) (by decide) rfl (fun ls hl => ?_)
            have t_34 := ti_addk rfl tk_1 (by omega) (by omega) e_34
            obtain ⟨v_37, e_37⟩ : ∃ y : Int32, y = z4 + 1 := ⟨_, rfl⟩
            refine lv_iinc (v := v_37) (lv' := [(4, .int v_37), (3, .int v_34), (0, .ref (za Z 5)), (1, .int x1), (2, .int x2)]) hx hb dX5_nodesOf_37 hl (k := 4) rfl (by rw [e_37]; rfl) (by decide) rfl (fun ls hl => ?_)
            have t_37 := ti_addk rfl tk_1 (by omega) (by omega) e_37
            refine lv_goto (tgt := 5) hx hb dX5_nodesOf_40 (by decide) ?_
            exact ih5 v_34 v_37 (by omega) (by have e18 : g 6 z4.toInt.toNat = v_18 := e_18.symm; rw [show v_37.toInt.toNat = z4.toInt.toNat + 1 by omega, cB_y (p := (ndB (g 6) x1.toInt x2.toInt)) (n := z4.toInt.toNat) (by unfold ndB; rw [e18]; exact decide_eq_true ⟨by omega, by omega, by omega⟩)]; omega) (by omega) ls (lv_sub hl [2, 3, 4, 1, 0] rfl)
  refine lv_iconst (v := 0) hx hb dX5_nodesOf_0 (by decide) ?_
  refine lv_istore_n (lv' := [(3, .int 0), (0, .ref (za Z 5)), (1, .int x1), (2, .int x2)]) hx hb dX5_nodesOf_1 rfl hl (by decide) rfl (fun ls hl => ?_)
  refine lv_iconst (v := 1) hx hb dX5_nodesOf_2 (by decide) ?_
  refine lv_istore (lv' := [(4, .int 1), (3, .int 0), (0, .ref (za Z 5)), (1, .int x1), (2, .int x2)]) hx hb dX5_nodesOf_3 hl (by decide) rfl (fun ls hl => ?_)
  exact L5 _ 0 1 (by decide) (by rw [tk_0, tk_1]; rfl) (Nat.lt_succ_self _) ls (lv_sub hl [2, 3, 4, 1, 0] rfl)
set_option maxHeartbeats 4000000 in
set_option maxRecDepth 100000 in
theorem c_X5_lowestFor (l : Launch) (Z : ZT) (hZ : XG Z) (g : Nat → Nat → Int32) (gl : Nat → Nat → Int64) (tf : Nat → Nat → Int32) (x1 : Int32) (hG : Gd Z tf) : Met l yX5_lowestFor (Cond.code yX5_lowestFor cX5_lowestFor 2 (some .int) :: wsL_law) ({ frames := 1, cells := 0, slots := 0, locals := 20 } : Room) (va_Pc [.ref (za Z 5), .int x1] (XI Z g gl tf)) (rd_Qi (fun r => (0 ≤ x1.toInt ∧ x1.toInt ≤ 63 → r = g 10 x1.toInt.toNat))) 0 0 (fun _ => False) := by
  refine Met.ofW (cc := cX5_lowestFor) (maxL := 2) (ret := (some .int)) (by decide) rfl ?_
  intro p e s m args below meth c s₁ B hml hv
  obtain ⟨rfl, hI⟩ := hv
  have hx := B.exec
  have hb := B.bytes
  have hr := B.returns
  have hT : ∀ w ∈ wsL_law, w.before ([.ref (za Z 5), .int x1] : List Value).toArray s = true := fun w h => atoms_spec (ws := (Cond.code yX5_lowestFor cX5_lowestFor 2 (some .int) :: wsL_law)) B.pre w (List.mem_cons_of_mem _ h)
  have hown : s.vm.findClass RX5 = some m.cls := findClass_of_methodNamed B.named
  have hlocks := B.notSynchronized
  have hK := hI.2.1
  have hP := hI.1
  have hS : va_S (zA Z) s.heap s.heap [] := va_S.rf
  have hl := lv_entry ([.ref (za Z 5), .int x1]) (n := 2) (Nat.le_of_ble_eq_true rfl)
  rw [lg_entry_eq]
  generalize (lg_sl ([.ref (za Z 5), .int x1]) ++ List.replicate (2 - (lg_sl ([.ref (za Z 5), .int x1])).length) Slot.unset).toArray = ls at hl ⊢
  have hl : lv_has ls 2 [(0, .ref (za Z 5)), (1, .int x1)] := hl
  refine lv_iload_n hx hb dX5_lowestFor_0 rfl (lv_at hl 1 rfl) ?_
  refine rd_ci (va_runSN (As := [.int x1]) (rest := []) ⟨hx, hb, hml, hown, hT⟩ (c_X6_isQuantity l x1) ⟨va_cnB 1 hT (tb_I (fun _ h => h) (tr_20 _ (List.mem_of_getElem? (i := 20) rfl))) rfl rfl rfl hI.2.2.1 (hT _ (tr_1 _ (List.mem_of_getElem? (i := 2) rfl))) (by decide +kernel) ⟨Nat.le_of_ble_eq_true rfl, Nat.le_of_ble_eq_true rfl⟩, hT _ (tr_20 _ (List.mem_of_getElem? (i := 19) rfl)), trivial⟩ ⟨fun _ _ _ _ q => q, fun U hU hW => ⟨rfl, trivial⟩⟩ rfl rfl hl.1 rfl (lv_room (Nat.le_of_ble_eq_true rfl)) dX5_lowestFor_1 ⟨Nat.zero_le _, Nat.zero_le _⟩) (fun r_1 hr_1 => ?_)
  rcases hr_1 with ⟨rfl, b_1⟩ | ⟨rfl, b_1⟩
  · skip
    refine lv_if_eq (tgt := 16) hx hb dX5_lowestFor_4 (by decide) (fun c_4 => absurd c_4 (by decide)) (fun c_4 => ?_)
    refine lv_aload_n hx hb dX5_lowestFor_7 rfl (lv_at hl 0 rfl) ?_
    refine va_get (D := zD Z) (ci := 5) (v := .ref (za Z 10)) (C := RX5) (T := TX5) (N := 7) hx hb hT inlX5 hown hK hP 5 xw_5 rfl 6 (by decide) (hT _ (tr_3 _ (List.mem_of_getElem? (i := 16) rfl))) (fun _ h9 => h9) rfl dX5_lowestFor_8 ?_
    refine lv_iload_n hx hb dX5_lowestFor_11 rfl (lv_at hl 1 rfl) ?_
    have h_12 : vp_in x1 64 := (ti_vp (by omega) (by omega))
    refine va_iald hx hb hK hP 10 1 xw_10 rfl h_12 dX5_lowestFor_12 ?_
    refine lv_topi (fun v_12 e_12 => ?_)
    refine lv_goto (tgt := 17) hx hb dX5_lowestFor_13 (by decide) ?_
    exact W.iret (v := v_12) hx hb hr (fun t ht hW => ⟨v_12, rfl, (fun _ => e_12), ht⟩) (fun q hq => by cases hq) dX5_lowestFor_17
  · skip
    refine lv_if_eq (tgt := 16) hx hb dX5_lowestFor_4 (by decide) (fun c_4 => ?_) (fun c_4 => absurd c_4 (by decide))
    refine lv_iconst (v := (-1)) hx hb dX5_lowestFor_16 (by decide) ?_
    exact W.iret (v := (-1)) hx hb hr (fun t ht hW => ⟨(-1), rfl, (fun z => by omega), ht⟩) (fun q hq => by cases hq) dX5_lowestFor_17
set_option maxHeartbeats 4000000 in
set_option maxRecDepth 100000 in
theorem c_X5_sizeOf (l : Launch) (x1 : Int32) (h1 : 1 ≤ x1.toInt ∧ x1.toInt ≤ 127) : Met l yX5_sizeOf (Cond.code yX5_sizeOf cX5_sizeOf 3 (some .int) :: wsL_law) ({ frames := 0, cells := 0, slots := 0, locals := 0 } : Room) (va_Pc [.int x1] (fun _ => True)) (rd_Qi (fun r => r.toInt = lenP x1.toInt)) 0 0 (fun _ => False) := by
  refine Met.ofW (cc := cX5_sizeOf) (maxL := 3) (ret := (some .int)) (by decide) rfl ?_
  intro p e s m args below meth c s₁ B hml hv
  obtain ⟨rfl, hI⟩ := hv
  have hx := B.exec
  have hb := B.bytes
  have hr := B.returns
  have hT : ∀ w ∈ wsL_law, w.before ([.int x1] : List Value).toArray s = true := fun w h => atoms_spec (ws := (Cond.code yX5_sizeOf cX5_sizeOf 3 (some .int) :: wsL_law)) B.pre w (List.mem_cons_of_mem _ h)
  have hown : s.vm.findClass RX5 = some m.cls := findClass_of_methodNamed B.named
  have hlocks := B.notSynchronized
  have hl := lv_entry ([.int x1]) (n := 3) (Nat.le_of_ble_eq_true rfl)
  rw [lg_entry_eq]
  generalize (lg_sl ([.int x1]) ++ List.replicate (3 - (lg_sl ([.int x1])).length) Slot.unset).toArray = ls at hl ⊢
  have hl : lv_has ls 3 [(0, .int x1)] := hl
  have L5 : ∀ (n : Nat) (z1 : Int32) (z2 : Int32)  (h3 : 1 ≤ z2.toInt ∧ z2.toInt ≤ 127) (h4 : 0 ≤ z1.toInt) (hE : lenQ z2.toInt z1.toInt = lenP x1.toInt) (hn : z2.toInt.toNat < n) (ls : Array Slot) (hl : lv_has ls 3 [(0, .int x1), (1, .int z1), (2, .int z2)]), W p l e ({ frames := 0, cells := 0, slots := 0, locals := 0 } : Room) s m ([.int x1] : List Value).toArray below meth c s.heap [] 0 0 (MQ below (rd_Qi (fun r => r.toInt = lenP x1.toInt)) ([.int x1] : List Value).toArray s 0 0 (fun _ => False)) (F0 m 5 ls []) := by
    intro n
    induction n with
    | zero => intro z1 z2 h3 h4 hE hn; exact absurd hn (Nat.not_lt_zero _)
    | succ n ih5 =>
      intro z1 z2 h3 h4 hE hn ls hl
      refine lv_iload_n hx hb dX5_sizeOf_5 rfl (lv_at hl 2 rfl) ?_
      refine lv_iconst (v := 1) hx hb dX5_sizeOf_6 (by decide) ?_
      refine lv_icmp_le (tgt := 21) hx hb dX5_sizeOf_7 (by decide) (fun c_7 => ?_) (fun c_7 => ?_)
      · skip
        have i_7 := ti_lek rfl tk_1 c_7
        refine lv_iload_n hx hb dX5_sizeOf_21 rfl (lv_at hl 1 rfl) ?_
        exact W.iret (v := z1) hx hb hr (fun t ht hW => ⟨z1, rfl, (by (try dsimp only); rw [← hE, lenQ_1 (by omega)]), ht⟩) (fun q hq => by cases hq) dX5_sizeOf_22
      · skip
        have i_7 := ti_nlek rfl tk_1 c_7
        refine lv_iload_n hx hb dX5_sizeOf_10 rfl (lv_at hl 1 rfl) ?_
        refine lv_iconst (v := 2) hx hb dX5_sizeOf_11 (by decide) ?_
        refine lv_idiv hx hb dX5_sizeOf_12 (by decide) ?_
        refine lv_topi (fun v_12 e_12 => ?_)
        have t_12 := ti_half (by omega) e_12
        refine lv_istore_n (lv' := [(1, .int v_12), (0, .int x1), (2, .int z2)]) hx hb dX5_sizeOf_13 rfl hl (by decide) rfl (fun ls hl => ?_)
        refine lv_iload_n hx hb dX5_sizeOf_14 rfl (lv_at hl 2 rfl) ?_
        refine lv_iconst (v := 2) hx hb dX5_sizeOf_15 (by decide) ?_
        refine lv_idiv hx hb dX5_sizeOf_16 (by decide) ?_
        refine lv_topi (fun v_16 e_16 => ?_)
        have t_16 := ti_half (by omega) e_16
        refine lv_istore_n (lv' := [(2, .int v_16), (1, .int v_12), (0, .int x1)]) hx hb dX5_sizeOf_17 rfl hl (by decide) rfl (fun ls hl => ?_)
        refine lv_goto (tgt := 5) hx hb dX5_sizeOf_18 (by decide) ?_
        exact ih5 v_12 v_16 (by first | assumption | omega | decide) (by first | assumption | omega | decide) (by rw [t_12, t_16, lenQ_step (by omega) (by omega) (by omega)]; exact hE) (by omega) ls (lv_sub hl [2, 1, 0] rfl)
  refine lv_bipush (v := 64) hx hb dX5_sizeOf_0 (by decide) ?_
  refine lv_istore_n (lv' := [(1, .int 64), (0, .int x1)]) hx hb dX5_sizeOf_2 rfl hl (by decide) rfl (fun ls hl => ?_)
  refine lv_iload_n hx hb dX5_sizeOf_3 rfl (lv_at hl 1 rfl) ?_
  refine lv_istore_n (lv' := [(2, .int x1), (1, .int 64), (0, .int x1)]) hx hb dX5_sizeOf_4 rfl hl (by decide) rfl (fun ls hl => ?_)
  exact L5 _ 64 x1 (by first | assumption | omega | decide) (by first | assumption | omega | decide) (by rw [tk_64]; exact lenQ_64 _) (Nat.lt_succ_self _) ls (lv_sub hl [2, 1, 0] rfl)
set_option maxHeartbeats 4000000 in
set_option maxRecDepth 100000 in
theorem c_X5_firstOf (l : Launch) (x1 : Int32) (h1 : 1 ≤ x1.toInt ∧ x1.toInt ≤ 127) : Met l yX5_firstOf (Cond.code yX5_firstOf cX5_firstOf 1 (some .int) :: wsL_law) ({ frames := 1, cells := 0, slots := 0, locals := 22 } : Room) (va_Pc [.int x1] (fun _ => True)) (rd_Qi (fun r => r.toInt = firP x1.toInt)) 0 0 (fun _ => False) := by
  refine Met.ofW (cc := cX5_firstOf) (maxL := 1) (ret := (some .int)) (by decide) rfl ?_
  intro p e s m args below meth c s₁ B hml hv
  obtain ⟨rfl, hI⟩ := hv
  have hx := B.exec
  have hb := B.bytes
  have hr := B.returns
  have hT : ∀ w ∈ wsL_law, w.before ([.int x1] : List Value).toArray s = true := fun w h => atoms_spec (ws := (Cond.code yX5_firstOf cX5_firstOf 1 (some .int) :: wsL_law)) B.pre w (List.mem_cons_of_mem _ h)
  have hown : s.vm.findClass RX5 = some m.cls := findClass_of_methodNamed B.named
  have hlocks := B.notSynchronized
  have hl := lv_entry ([.int x1]) (n := 1) (Nat.le_of_ble_eq_true rfl)
  rw [lg_entry_eq]
  generalize (lg_sl ([.int x1]) ++ List.replicate (1 - (lg_sl ([.int x1])).length) Slot.unset).toArray = ls at hl ⊢
  have hl : lv_has ls 1 [(0, .int x1)] := hl
  refine lv_iload_n hx hb dX5_firstOf_0 rfl (lv_at hl 0 rfl) ?_
  refine lv_iload_n hx hb dX5_firstOf_1 rfl (lv_at hl 0 rfl) ?_
  refine rd_ci (va_runS (As := [.int x1]) (rest := [.int x1]) ⟨hx, hb, hml, hown, hT⟩ (c_X5_sizeOf l x1 (by first | assumption | omega | decide)) (va_cwS 1 hT (tb_S (fun _ h => h) (tr_15 _ (List.mem_of_getElem? (i := 7) rfl)) (tr_15 _ (List.mem_of_getElem? (i := 8) rfl)) (tr_1 _ (List.mem_of_getElem? (i := 22) rfl)) (tr_15 _ (List.mem_of_getElem? (i := 9) rfl))) rfl rfl rfl (by decide +kernel) ⟨Nat.le_of_ble_eq_true rfl, Nat.le_of_ble_eq_true rfl⟩) ⟨fun _ _ _ _ q => q, fun U hU hW => ⟨rfl, trivial⟩⟩ rfl rfl hl.1 rfl (lv_room (Nat.le_of_ble_eq_true rfl)) dX5_firstOf_2 ⟨Nat.zero_le _, Nat.zero_le _⟩) (fun r_2 hr_2 => ?_)
  refine lv_imul hx hb dX5_firstOf_5 ?_
  refine lv_topi (fun v_5 e_5 => ?_)
  have qm := lenP_mul h1.1 h1.2
  rw [← hr_2] at qm
  have t5 : v_5.toInt = firP x1.toInt + 64 := by rw [e_5, ti_mul (by rw [qm.1]; omega) (by rw [qm.1]; omega), qm.1]
  refine lv_bipush (v := 64) hx hb dX5_firstOf_6 (by decide) ?_
  refine lv_isub hx hb dX5_firstOf_8 ?_
  refine lv_topi (fun v_8 e_8 => ?_)
  have t_8 := ti_subk rfl tk_64 (by omega) (by omega) e_8
  exact W.iret (v := v_8) hx hb hr (fun t ht hW => ⟨v_8, rfl, (by first | assumption | omega | decide), ht⟩) (fun q hq => by cases hq) dX5_firstOf_9
set_option maxHeartbeats 4000000 in
set_option maxRecDepth 100000 in
theorem c_X5_lastOf (l : Launch) (x1 : Int32) (h1 : 1 ≤ x1.toInt ∧ x1.toInt ≤ 127) : Met l yX5_lastOf (Cond.code yX5_lastOf cX5_lastOf 1 (some .int) :: wsL_law) ({ frames := 2, cells := 0, slots := 0, locals := 42 } : Room) (va_Pc [.int x1] (fun _ => True)) (rd_Qi (fun r => r.toInt = lasP x1.toInt)) 0 0 (fun _ => False) := by
  refine Met.ofW (cc := cX5_lastOf) (maxL := 1) (ret := (some .int)) (by decide) rfl ?_
  intro p e s m args below meth c s₁ B hml hv
  obtain ⟨rfl, hI⟩ := hv
  have hx := B.exec
  have hb := B.bytes
  have hr := B.returns
  have hT : ∀ w ∈ wsL_law, w.before ([.int x1] : List Value).toArray s = true := fun w h => atoms_spec (ws := (Cond.code yX5_lastOf cX5_lastOf 1 (some .int) :: wsL_law)) B.pre w (List.mem_cons_of_mem _ h)
  have hown : s.vm.findClass RX5 = some m.cls := findClass_of_methodNamed B.named
  have hlocks := B.notSynchronized
  have hl := lv_entry ([.int x1]) (n := 1) (Nat.le_of_ble_eq_true rfl)
  rw [lg_entry_eq]
  generalize (lg_sl ([.int x1]) ++ List.replicate (1 - (lg_sl ([.int x1])).length) Slot.unset).toArray = ls at hl ⊢
  have hl : lv_has ls 1 [(0, .int x1)] := hl
  refine lv_iload_n hx hb dX5_lastOf_0 rfl (lv_at hl 0 rfl) ?_
  refine rd_ci (va_runS (As := [.int x1]) (rest := []) ⟨hx, hb, hml, hown, hT⟩ (c_X5_firstOf l x1 (by first | assumption | omega | decide)) (va_cwS 1 hT (tb_S (fun _ h => h) (tr_15 _ (List.mem_of_getElem? (i := 4) rfl)) (tr_15 _ (List.mem_of_getElem? (i := 5) rfl)) (tr_1 _ (List.mem_of_getElem? (i := 22) rfl)) (tr_15 _ (List.mem_of_getElem? (i := 6) rfl))) rfl rfl rfl (by decide +kernel) ⟨Nat.le_of_ble_eq_true rfl, Nat.le_of_ble_eq_true rfl⟩) ⟨fun _ _ _ _ q => q, fun U hU hW => ⟨rfl, trivial⟩⟩ rfl rfl hl.1 rfl (lv_room (Nat.le_of_ble_eq_true rfl)) dX5_lastOf_1 ⟨Nat.zero_le _, Nat.zero_le _⟩) (fun r_1 hr_1 => ?_)
  have q1 := (lenP_mul h1.1 h1.2).2
  refine lv_iload_n hx hb dX5_lastOf_4 rfl (lv_at hl 0 rfl) ?_
  refine rd_ci (va_runS (As := [.int x1]) (rest := [.int r_1]) ⟨hx, hb, hml, hown, hT⟩ (c_X5_sizeOf l x1 (by first | assumption | omega | decide)) (va_cwS 1 hT (tb_S (fun _ h => h) (tr_15 _ (List.mem_of_getElem? (i := 7) rfl)) (tr_15 _ (List.mem_of_getElem? (i := 8) rfl)) (tr_1 _ (List.mem_of_getElem? (i := 22) rfl)) (tr_15 _ (List.mem_of_getElem? (i := 9) rfl))) rfl rfl rfl (by decide +kernel) ⟨Nat.le_of_ble_eq_true rfl, Nat.le_of_ble_eq_true rfl⟩) ⟨fun _ _ _ _ q => q, fun U hU hW => ⟨rfl, trivial⟩⟩ rfl rfl hl.1 rfl (lv_room (Nat.le_of_ble_eq_true rfl)) dX5_lastOf_5 ⟨Nat.zero_le _, Nat.zero_le _⟩) (fun r_5 hr_5 => ?_)
  have q5 := lenP_rng x1.toInt
  refine lv_iadd hx hb dX5_lastOf_8 ?_
  refine lv_topi (fun v_8 e_8 => ?_)
  have t_8 := ti_addk rfl rfl (by omega) (by omega) e_8
  refine lv_iconst (v := 1) hx hb dX5_lastOf_9 (by decide) ?_
  refine lv_isub hx hb dX5_lastOf_10 ?_
  refine lv_topi (fun v_10 e_10 => ?_)
  have t_10 := ti_subk rfl tk_1 (by omega) (by omega) e_10
  exact W.iret (v := v_10) hx hb hr (fun t ht hW => ⟨v_10, rfl, (by (try dsimp only); unfold lasP; omega), ht⟩) (fun q hq => by cases hq) dX5_lastOf_11
set_option maxHeartbeats 4000000 in
set_option maxRecDepth 100000 in
theorem c_X5_middleOf (l : Launch) (x1 : Int32) (h1 : 1 ≤ x1.toInt ∧ x1.toInt ≤ 127) : Met l yX5_middleOf (Cond.code yX5_middleOf cX5_middleOf 1 (some .int) :: wsL_law) ({ frames := 2, cells := 0, slots := 0, locals := 42 } : Room) (va_Pc [.int x1] (fun _ => True)) (rd_Qi (fun r => r.toInt = (miN x1.toInt.toNat : Int))) 0 0 (fun _ => False) := by
  refine Met.ofW (cc := cX5_middleOf) (maxL := 1) (ret := (some .int)) (by decide) rfl ?_
  intro p e s m args below meth c s₁ B hml hv
  obtain ⟨rfl, hI⟩ := hv
  have hx := B.exec
  have hb := B.bytes
  have hr := B.returns
  have hT : ∀ w ∈ wsL_law, w.before ([.int x1] : List Value).toArray s = true := fun w h => atoms_spec (ws := (Cond.code yX5_middleOf cX5_middleOf 1 (some .int) :: wsL_law)) B.pre w (List.mem_cons_of_mem _ h)
  have hown : s.vm.findClass RX5 = some m.cls := findClass_of_methodNamed B.named
  have hlocks := B.notSynchronized
  have hl := lv_entry ([.int x1]) (n := 1) (Nat.le_of_ble_eq_true rfl)
  rw [lg_entry_eq]
  generalize (lg_sl ([.int x1]) ++ List.replicate (1 - (lg_sl ([.int x1])).length) Slot.unset).toArray = ls at hl ⊢
  have hl : lv_has ls 1 [(0, .int x1)] := hl
  refine lv_iload_n hx hb dX5_middleOf_0 rfl (lv_at hl 0 rfl) ?_
  refine rd_ci (va_runS (As := [.int x1]) (rest := []) ⟨hx, hb, hml, hown, hT⟩ (c_X5_firstOf l x1 (by first | assumption | omega | decide)) (va_cwS 1 hT (tb_S (fun _ h => h) (tr_15 _ (List.mem_of_getElem? (i := 4) rfl)) (tr_15 _ (List.mem_of_getElem? (i := 5) rfl)) (tr_1 _ (List.mem_of_getElem? (i := 22) rfl)) (tr_15 _ (List.mem_of_getElem? (i := 6) rfl))) rfl rfl rfl (by decide +kernel) ⟨Nat.le_of_ble_eq_true rfl, Nat.le_of_ble_eq_true rfl⟩) ⟨fun _ _ _ _ q => q, fun U hU hW => ⟨rfl, trivial⟩⟩ rfl rfl hl.1 rfl (lv_room (Nat.le_of_ble_eq_true rfl)) dX5_middleOf_1 ⟨Nat.zero_le _, Nat.zero_le _⟩) (fun r_1 hr_1 => ?_)
  have q1 := (lenP_mul h1.1 h1.2).2
  refine lv_iload_n hx hb dX5_middleOf_4 rfl (lv_at hl 0 rfl) ?_
  refine rd_ci (va_runS (As := [.int x1]) (rest := [.int r_1]) ⟨hx, hb, hml, hown, hT⟩ (c_X5_sizeOf l x1 (by first | assumption | omega | decide)) (va_cwS 1 hT (tb_S (fun _ h => h) (tr_15 _ (List.mem_of_getElem? (i := 7) rfl)) (tr_15 _ (List.mem_of_getElem? (i := 8) rfl)) (tr_1 _ (List.mem_of_getElem? (i := 22) rfl)) (tr_15 _ (List.mem_of_getElem? (i := 9) rfl))) rfl rfl rfl (by decide +kernel) ⟨Nat.le_of_ble_eq_true rfl, Nat.le_of_ble_eq_true rfl⟩) ⟨fun _ _ _ _ q => q, fun U hU hW => ⟨rfl, trivial⟩⟩ rfl rfl hl.1 rfl (lv_room (Nat.le_of_ble_eq_true rfl)) dX5_middleOf_5 ⟨Nat.zero_le _, Nat.zero_le _⟩) (fun r_5 hr_5 => ?_)
  have q5 := lenP_rng x1.toInt
  refine lv_iconst (v := 1) hx hb dX5_middleOf_8 (by decide) ?_
  refine lv_isub hx hb dX5_middleOf_9 ?_
  refine lv_topi (fun v_9 e_9 => ?_)
  have t_9 := ti_subk rfl tk_1 (by omega) (by omega) e_9
  refine lv_iconst (v := 2) hx hb dX5_middleOf_10 (by decide) ?_
  refine lv_idiv hx hb dX5_middleOf_11 (by decide) ?_
  refine lv_topi (fun v_11 e_11 => ?_)
  have t_11 := ti_half (by omega) e_11
  refine lv_iadd hx hb dX5_middleOf_12 ?_
  refine lv_topi (fun v_12 e_12 => ?_)
  have t_12 := ti_addk rfl rfl (by omega) (by omega) e_12
  exact W.iret (v := v_12) hx hb hr (fun t ht hW => ⟨v_12, rfl, (by (try dsimp only); have q := midP h1; omega), ht⟩) (fun q hq => by cases hq) dX5_middleOf_13
set_option maxHeartbeats 4000000 in
set_option maxRecDepth 100000 in
theorem c_X5_widestNode (l : Launch) (x1 : Int32) (x2 : Int32) (h1 : 0 ≤ x1.toInt ∧ x1.toInt ≤ 63) (h2 : 0 ≤ x2.toInt ∧ x2.toInt ≤ 63) : Met l yX5_widestNode (Cond.code yX5_widestNode cX5_widestNode 3 (some .int) :: wsL_law) ({ frames := 3, cells := 0, slots := 0, locals := 62 } : Room) (va_Pc [.int x1, .int x2] (fun _ => True)) (rd_Qi (fun r => r.toInt = (wdn 6 (64 + x1.toInt.toNat) x2.toInt.toNat : Int))) 0 0 (fun _ => False) := by
  refine Met.ofW (cc := cX5_widestNode) (maxL := 3) (ret := (some .int)) (by decide) rfl ?_
  intro p e s m args below meth c s₁ B hml hv
  obtain ⟨rfl, hI⟩ := hv
  have hx := B.exec
  have hb := B.bytes
  have hr := B.returns
  have hT : ∀ w ∈ wsL_law, w.before ([.int x1, .int x2] : List Value).toArray s = true := fun w h => atoms_spec (ws := (Cond.code yX5_widestNode cX5_widestNode 3 (some .int) :: wsL_law)) B.pre w (List.mem_cons_of_mem _ h)
  have hown : s.vm.findClass RX5 = some m.cls := findClass_of_methodNamed B.named
  have hlocks := B.notSynchronized
  have hl := lv_entry ([.int x1, .int x2]) (n := 3) (Nat.le_of_ble_eq_true rfl)
  rw [lg_entry_eq]
  generalize (lg_sl ([.int x1, .int x2]) ++ List.replicate (3 - (lg_sl ([.int x1, .int x2])).length) Slot.unset).toArray = ls at hl ⊢
  have hl : lv_has ls 3 [(0, .int x1), (1, .int x2)] := hl
  have L5 : ∀ (n : Nat) (f : Nat) (z2 : Int32)  (h3 : 1 ≤ z2.toInt ∧ z2.toInt ≤ 127) (hf : z2.toInt.toNat < 2 ^ (f + 1)) (hWn : wdn f z2.toInt.toNat x2.toInt.toNat = wdn 6 (64 + x1.toInt.toNat) x2.toInt.toNat) (hn : z2.toInt.toNat < n) (ls : Array Slot) (hl : lv_has ls 3 [(0, .int x1), (1, .int x2), (2, .int z2)]), W p l e ({ frames := 3, cells := 0, slots := 0, locals := 62 } : Room) s m ([.int x1, .int x2] : List Value).toArray below meth c s.heap [] 0 0 (MQ below (rd_Qi (fun r => r.toInt = (wdn 6 (64 + x1.toInt.toNat) x2.toInt.toNat : Int))) ([.int x1, .int x2] : List Value).toArray s 0 0 (fun _ => False)) (F0 m 5 ls []) := by
    intro n
    induction n with
    | zero => intro f z2 h3 hf hWn hn; exact absurd hn (Nat.not_lt_zero _)
    | succ n ih5 =>
      intro f z2 h3 hf hWn hn ls hl
      refine lv_iload_n hx hb dX5_widestNode_5 rfl (lv_at hl 2 rfl) ?_
      refine lv_iconst (v := 1) hx hb dX5_widestNode_6 (by decide) ?_
      refine lv_icmp_le (tgt := 33) hx hb dX5_widestNode_7 (by decide) (fun c_7 => ?_) (fun c_7 => ?_)
      · skip
        have i_7 := ti_lek rfl tk_1 c_7
        refine lv_iload_n hx hb dX5_widestNode_33 rfl (lv_at hl 2 rfl) ?_
        exact W.iret (v := z2) hx hb hr (fun t ht hW => ⟨z2, rfl, (by (try dsimp only); rw [← hWn, wdn_s (by omega)]; omega), ht⟩) (fun q hq => by cases hq) dX5_widestNode_34
      · skip
        have i_7 := ti_nlek rfl tk_1 c_7
        refine lv_iload_n hx hb dX5_widestNode_10 rfl (lv_at hl 2 rfl) ?_
        refine lv_iconst (v := 2) hx hb dX5_widestNode_11 (by decide) ?_
        refine lv_irem hx hb dX5_widestNode_12 (by decide) ?_
        refine lv_topi (fun v_12 e_12 => ?_)
        have t_12 := ti_remk rfl tk_2 (by omega) (by omega) e_12
        refine lv_if_ne (tgt := 33) hx hb dX5_widestNode_13 (by decide) (fun c_13 => ?_) (fun c_13 => ?_)
        · skip
          have i_13 := ti_nek rfl tk_0 c_13
          refine lv_iload_n hx hb dX5_widestNode_33 rfl (lv_at hl 2 rfl) ?_
          exact W.iret (v := z2) hx hb hr (fun t ht hW => ⟨z2, rfl, (by (try dsimp only); rw [← hWn, wdn_s (by omega)]; omega), ht⟩) (fun q hq => by cases hq) dX5_widestNode_34
        · skip
          have i_13 := ti_eqk rfl tk_0 c_13
          obtain ⟨f, rfl⟩ : ∃ f2, f = f2 + 1 := by
            cases f with
            | zero => exact absurd hf (by show ¬ z2.toInt.toNat < 2 ^ 1; omega)
            | succ f2 => exact ⟨f2, rfl⟩
          refine lv_iload_n hx hb dX5_widestNode_16 rfl (lv_at hl 2 rfl) ?_
          refine lv_iconst (v := 2) hx hb dX5_widestNode_17 (by decide) ?_
          refine lv_idiv hx hb dX5_widestNode_18 (by decide) ?_
          refine lv_topi (fun v_18 e_18 => ?_)
          have t_18 := ti_half (by omega) e_18
          refine rd_ci (va_runS (As := [.int v_18]) (rest := []) ⟨hx, hb, hml, hown, hT⟩ (c_X5_lastOf l v_18 (by first | assumption | omega | decide)) (va_cwS 1 hT (tb_S (fun _ h => h) (tr_15 _ (List.mem_of_getElem? (i := 1) rfl)) (tr_15 _ (List.mem_of_getElem? (i := 2) rfl)) (tr_1 _ (List.mem_of_getElem? (i := 22) rfl)) (tr_15 _ (List.mem_of_getElem? (i := 3) rfl))) rfl rfl rfl (by decide +kernel) ⟨Nat.le_of_ble_eq_true rfl, Nat.le_of_ble_eq_true rfl⟩) ⟨fun _ _ _ _ q => q, fun U hU hW => ⟨rfl, trivial⟩⟩ rfl rfl hl.1 rfl (lv_room (Nat.le_of_ble_eq_true rfl)) dX5_widestNode_19 ⟨Nat.zero_le _, Nat.zero_le _⟩) (fun r_19 hr_19 => ?_)
          rw [t_18, show z2.toInt / 2 = ((z2.toInt.toNat / 2 : Nat) : Int) by omega, lasP_N (by omega) (by omega)] at hr_19
          refine lv_iload_n hx hb dX5_widestNode_22 rfl (lv_at hl 1 rfl) ?_
          refine lv_icmp_gt (tgt := 33) hx hb dX5_widestNode_23 (by decide) (fun c_23 => ?_) (fun c_23 => ?_)
          · skip
            have i_23 := ti_ltk rfl rfl c_23
            refine lv_iload_n hx hb dX5_widestNode_33 rfl (lv_at hl 2 rfl) ?_
            exact W.iret (v := z2) hx hb hr (fun t ht hW => ⟨z2, rfl, (by (try dsimp only); rw [← hWn, wdn_s (by omega)]; omega), ht⟩) (fun q hq => by cases hq) dX5_widestNode_34
          · skip
            have i_23 := ti_nltk rfl rfl c_23
            refine lv_iload_n hx hb dX5_widestNode_26 rfl (lv_at hl 2 rfl) ?_
            refine lv_iconst (v := 2) hx hb dX5_widestNode_27 (by decide) ?_
            refine lv_idiv hx hb dX5_widestNode_28 (by decide) ?_
            refine lv_topi (fun v_28 e_28 => ?_)
            have t_28 := ti_half (by omega) e_28
            refine lv_istore_n (lv' := [(2, .int v_28), (0, .int x1), (1, .int x2)]) hx hb dX5_widestNode_29 rfl hl (by decide) rfl (fun ls hl => ?_)
            refine lv_goto (tgt := 5) hx hb dX5_widestNode_30 (by decide) ?_
            exact ih5 f v_28 (by first | assumption | omega | decide) (by have q := hf; rw [Nat.pow_succ] at q; omega) (by rw [← hWn, show v_28.toInt.toNat = z2.toInt.toNat / 2 by omega, wdn_y (by omega)]) (by omega) ls (lv_sub hl [1, 2, 0] rfl)
  refine lv_bipush (v := 64) hx hb dX5_widestNode_0 (by decide) ?_
  refine lv_iload_n hx hb dX5_widestNode_2 rfl (lv_at hl 0 rfl) ?_
  refine lv_iadd hx hb dX5_widestNode_3 ?_
  refine lv_topi (fun v_3 e_3 => ?_)
  have t_3 := ti_addk tk_64 rfl (by omega) (by omega) e_3
  refine lv_istore_n (lv' := [(2, .int v_3), (0, .int x1), (1, .int x2)]) hx hb dX5_widestNode_4 rfl hl (by decide) rfl (fun ls hl => ?_)
  exact L5 _ 6 v_3 (by first | assumption | omega | decide) (by rw [show (2 : Nat) ^ (6 + 1) = 128 from rfl]; omega) (by rw [show v_3.toInt.toNat = 64 + x1.toInt.toNat by omega]) (Nat.lt_succ_self _) ls (lv_sub hl [1, 2, 0] rfl)
set_option maxHeartbeats 4000000 in
set_option maxRecDepth 100000 in
theorem c_X5_halfFor (l : Launch) (Z : ZT) (hZ : XG Z) (g : Nat → Nat → Int32) (gl : Nat → Nat → Int64) (tf : Nat → Nat → Int32) (x1 : Int32) (x2 : Int32) (x3 : Int32) (h1 : 0 ≤ x1.toInt ∧ x1.toInt < 70) (h2 : 0 ≤ x2.toInt ∧ x2.toInt < 70) (h3 : 1 ≤ x3.toInt ∧ x3.toInt ≤ 127) (hG : Gd Z tf) : Met l yX5_halfFor (Cond.code yX5_halfFor cX5_halfFor 4 (some .int) :: wsL_law) ({ frames := 4, cells := 0, slots := 0, locals := 91 } : Room) (va_Pc [.ref (za Z 5), .int x1, .int x2, .int x3] (XI Z g gl tf)) (rd_Qi (fun r => r.toInt = (hlf (xr Z tf) x1 x2 x3.toInt.toNat : Int))) 0 0 (fun _ => False) := by
  refine Met.ofW (cc := cX5_halfFor) (maxL := 4) (ret := (some .int)) (by decide) rfl ?_
  intro p e s m args below meth c s₁ B hml hv
  obtain ⟨rfl, hI⟩ := hv
  have hx := B.exec
  have hb := B.bytes
  have hr := B.returns
  have hT : ∀ w ∈ wsL_law, w.before ([.ref (za Z 5), .int x1, .int x2, .int x3] : List Value).toArray s = true := fun w h => atoms_spec (ws := (Cond.code yX5_halfFor cX5_halfFor 4 (some .int) :: wsL_law)) B.pre w (List.mem_cons_of_mem _ h)
  have hown : s.vm.findClass RX5 = some m.cls := findClass_of_methodNamed B.named
  have hlocks := B.notSynchronized
  have hK := hI.2.1
  have hP := hI.1
  have hS : va_S (zA Z) s.heap s.heap [] := va_S.rf
  have nl := nd_le (v := x3.toInt.toNat) (by omega) (by omega)
  have c3 : ((x3.toInt.toNat : Nat) : Int) = x3.toInt := by omega
  have hl := lv_entry ([.ref (za Z 5), .int x1, .int x2, .int x3]) (n := 4) (Nat.le_of_ble_eq_true rfl)
  rw [lg_entry_eq]
  generalize (lg_sl ([.ref (za Z 5), .int x1, .int x2, .int x3]) ++ List.replicate (4 - (lg_sl ([.ref (za Z 5), .int x1, .int x2, .int x3])).length) Slot.unset).toArray = ls at hl ⊢
  have hl : lv_has ls 4 [(0, .ref (za Z 5)), (1, .int x1), (2, .int x2), (3, .int x3)] := hl
  refine lv_aload_n hx hb dX5_halfFor_0 rfl (lv_at hl 0 rfl) ?_
  refine va_get (D := zD Z) (ci := 5) (v := .ref (za Z 3)) (C := RX5) (T := TX5) (N := 7) hx hb hT inlX5 hown hK hP 5 xw_5 rfl 0 (by decide) (hT _ (tr_3 _ (List.mem_of_getElem? (i := 17) rfl))) (fun _ h9 => h9) rfl dX5_halfFor_1 ?_
  refine lv_iload_n hx hb dX5_halfFor_4 rfl (lv_at hl 1 rfl) ?_
  refine lv_iload_n hx hb dX5_halfFor_5 rfl (lv_at hl 2 rfl) ?_
  refine lv_iload_n hx hb dX5_halfFor_6 rfl (lv_at hl 3 rfl) ?_
  refine rd_ci (va_runS (As := [.int x3]) (rest := [.int x2, .int x1, .ref (za Z 3)]) ⟨hx, hb, hml, hown, hT⟩ (c_X5_firstOf l x3 (by first | assumption | omega | decide)) (va_cwS 1 hT (tb_S (fun _ h => h) (tr_15 _ (List.mem_of_getElem? (i := 4) rfl)) (tr_15 _ (List.mem_of_getElem? (i := 5) rfl)) (tr_1 _ (List.mem_of_getElem? (i := 22) rfl)) (tr_15 _ (List.mem_of_getElem? (i := 6) rfl))) rfl rfl rfl (by decide +kernel) ⟨Nat.le_of_ble_eq_true rfl, Nat.le_of_ble_eq_true rfl⟩) ⟨fun _ _ _ _ q => q, fun U hU hW => ⟨rfl, trivial⟩⟩ rfl rfl hl.1 rfl (lv_room (Nat.le_of_ble_eq_true rfl)) dX5_halfFor_7 ⟨Nat.zero_le _, Nat.zero_le _⟩) (fun r_7 hr_7 => ?_)
  rw [← c3, firP_N (by omega) (by omega)] at hr_7
  have q7 := nI_ek hr_7
  refine rd_ci (va_runV (As := [.int x1, .int x2, .int r_7]) (rest := []) ⟨hx, hb, hml, hown, hT⟩ (c_X4_isBetter l Z hZ g gl tf x1 x2 r_7 hG) (cwV 3 hT (tb_V (fun _ h => h) (tr_16 _ (List.mem_of_getElem? (i := 1) rfl)) (tr_16 _ (List.mem_of_getElem? (i := 2) rfl)) (tr_16 _ (List.mem_of_getElem? (i := 3) rfl)) (tr_1 _ (List.mem_of_getElem? (i := 18) rfl)) (tr_16 _ (List.mem_of_getElem? (i := 4) rfl))) rfl rfl rfl (by decide +kernel) ⟨Nat.le_of_ble_eq_true rfl, Nat.le_of_ble_eq_true rfl⟩) ⟨fun a U f mk q => ⟨q.1, XI.blind f mk a q.2⟩, va_recv hK hP (ci := 4) (q0 := 3) rfl xw_3, fun U hU hW => ⟨rfl, hI.at hS hP hU hW⟩⟩ rfl rfl hl.1 rfl (lv_room (Nat.le_of_ble_eq_true rfl)) dX5_halfFor_10 ⟨Nat.zero_le _, Nat.zero_le _⟩) (fun r_10 hr_10 => ?_)
  rcases hr_10 with ⟨rfl, b_10⟩ | ⟨rfl, b_10⟩
  · skip
    have m10 := b_10 (by omega) h1 h2
    rw [q7] at m10
    refine lv_if_eq (tgt := 20) hx hb dX5_halfFor_13 (by decide) (fun c_13 => absurd c_13 (by decide)) (fun c_13 => ?_)
    refine lv_iconst (v := 2) hx hb dX5_halfFor_16 (by decide) ?_
    refine lv_iload_n hx hb dX5_halfFor_17 rfl (lv_at hl 3 rfl) ?_
    refine lv_imul hx hb dX5_halfFor_18 ?_
    refine lv_topi (fun v_18 e_18 => ?_)
    have t_18 := ti_mulk tk_2 rfl (by omega) (by omega) e_18
    exact W.iret (v := v_18) hx hb hr (fun t ht hW => ⟨v_18, rfl, (by (try dsimp only); unfold hlf; rw [if_pos m10]; omega), ht⟩) (fun q hq => by cases hq) dX5_halfFor_19
  · skip
    have m10 := b_10 (by omega) h1 h2
    rw [q7] at m10
    refine lv_if_eq (tgt := 20) hx hb dX5_halfFor_13 (by decide) (fun c_13 => ?_) (fun c_13 => absurd c_13 (by decide))
    refine lv_aload_n hx hb dX5_halfFor_20 rfl (lv_at hl 0 rfl) ?_
    refine va_get (D := zD Z) (ci := 5) (v := .ref (za Z 3)) (C := RX5) (T := TX5) (N := 7) hx hb hT inlX5 hown hK hP 5 xw_5 rfl 0 (by decide) (hT _ (tr_3 _ (List.mem_of_getElem? (i := 17) rfl))) (fun _ h9 => h9) rfl dX5_halfFor_21 ?_
    refine lv_iload_n hx hb dX5_halfFor_24 rfl (lv_at hl 1 rfl) ?_
    refine lv_iload_n hx hb dX5_halfFor_25 rfl (lv_at hl 2 rfl) ?_
    refine lv_iload_n hx hb dX5_halfFor_26 rfl (lv_at hl 3 rfl) ?_
    refine rd_ci (va_runS (As := [.int x3]) (rest := [.int x2, .int x1, .ref (za Z 3)]) ⟨hx, hb, hml, hown, hT⟩ (c_X5_lastOf l x3 (by first | assumption | omega | decide)) (va_cwS 1 hT (tb_S (fun _ h => h) (tr_15 _ (List.mem_of_getElem? (i := 1) rfl)) (tr_15 _ (List.mem_of_getElem? (i := 2) rfl)) (tr_1 _ (List.mem_of_getElem? (i := 22) rfl)) (tr_15 _ (List.mem_of_getElem? (i := 3) rfl))) rfl rfl rfl (by decide +kernel) ⟨Nat.le_of_ble_eq_true rfl, Nat.le_of_ble_eq_true rfl⟩) ⟨fun _ _ _ _ q => q, fun U hU hW => ⟨rfl, trivial⟩⟩ rfl rfl hl.1 rfl (lv_room (Nat.le_of_ble_eq_true rfl)) dX5_halfFor_27 ⟨Nat.zero_le _, Nat.zero_le _⟩) (fun r_27 hr_27 => ?_)
    rw [← c3, lasP_N (by omega) (by omega)] at hr_27
    have q27 := nI_ek hr_27
    refine rd_ci (va_runV (As := [.int x1, .int x2, .int r_27]) (rest := []) ⟨hx, hb, hml, hown, hT⟩ (c_X4_isBetter l Z hZ g gl tf x1 x2 r_27 hG) (cwV 3 hT (tb_V (fun _ h => h) (tr_16 _ (List.mem_of_getElem? (i := 1) rfl)) (tr_16 _ (List.mem_of_getElem? (i := 2) rfl)) (tr_16 _ (List.mem_of_getElem? (i := 3) rfl)) (tr_1 _ (List.mem_of_getElem? (i := 18) rfl)) (tr_16 _ (List.mem_of_getElem? (i := 4) rfl))) rfl rfl rfl (by decide +kernel) ⟨Nat.le_of_ble_eq_true rfl, Nat.le_of_ble_eq_true rfl⟩) ⟨fun a U f mk q => ⟨q.1, XI.blind f mk a q.2⟩, va_recv hK hP (ci := 4) (q0 := 3) rfl xw_3, fun U hU hW => ⟨rfl, hI.at hS hP hU hW⟩⟩ rfl rfl hl.1 rfl (lv_room (Nat.le_of_ble_eq_true rfl)) dX5_halfFor_30 ⟨Nat.zero_le _, Nat.zero_le _⟩) (fun r_30 hr_30 => ?_)
    rcases hr_30 with ⟨rfl, b_30⟩ | ⟨rfl, b_30⟩
    · skip
      have m30 := b_30 (by omega) h1 h2
      rw [q27] at m30
      refine lv_if_eq (tgt := 44) hx hb dX5_halfFor_33 (by decide) (fun c_33 => absurd c_33 (by decide)) (fun c_33 => ?_)
      refine lv_iconst (v := 2) hx hb dX5_halfFor_36 (by decide) ?_
      refine lv_iload_n hx hb dX5_halfFor_37 rfl (lv_at hl 3 rfl) ?_
      refine lv_imul hx hb dX5_halfFor_38 ?_
      refine lv_topi (fun v_38 e_38 => ?_)
      have t_38 := ti_mulk tk_2 rfl (by omega) (by omega) e_38
      refine lv_iconst (v := 1) hx hb dX5_halfFor_39 (by decide) ?_
      refine lv_iadd hx hb dX5_halfFor_40 ?_
      refine lv_topi (fun v_40 e_40 => ?_)
      have t_40 := ti_addk rfl tk_1 (by omega) (by omega) e_40
      refine lv_goto (tgt := 45) hx hb dX5_halfFor_41 (by decide) ?_
      exact W.iret (v := v_40) hx hb hr (fun t ht hW => ⟨v_40, rfl, (by (try dsimp only); unfold hlf; rw [if_neg (by rw [m10]; decide), if_pos m30]; omega), ht⟩) (fun q hq => by cases hq) dX5_halfFor_45
    · skip
      have m30 := b_30 (by omega) h1 h2
      rw [q27] at m30
      refine lv_if_eq (tgt := 44) hx hb dX5_halfFor_33 (by decide) (fun c_33 => ?_) (fun c_33 => absurd c_33 (by decide))
      refine lv_iconst (v := 0) hx hb dX5_halfFor_44 (by decide) ?_
      exact W.iret (v := 0) hx hb hr (fun t ht hW => ⟨0, rfl, (by (try dsimp only); unfold hlf; rw [if_neg (by rw [m10]; decide), if_neg (by rw [m30]; decide)]; rfl), ht⟩) (fun q hq => by cases hq) dX5_halfFor_45
set_option maxHeartbeats 4000000 in
set_option maxRecDepth 100000 in
theorem c_X5_push (l : Launch) (Z : ZT) (hZ : XG Z) (g : Nat → Nat → Int32) (gl : Nat → Nat → Int64) (tf : Nat → Nat → Int32) (x1 : Int32) (x2 : Int32) (h1 : 0 ≤ x1.toInt ∧ x1.toInt < 70) (h2 : 1 ≤ x2.toInt ∧ x2.toInt ≤ 127) (hc : 0 ≤ (g 5 5).toInt ∧ (g 5 5).toInt + hgN x2.toInt.toNat ≤ 2100) (hbd : bdS 70 (g 6)) (hG : Gd Z tf) : Met l yX5_push (Cond.code yX5_push cX5_push 7 none :: wsL_law) ({ frames := 5, cells := 0, slots := 0, locals := 114 } : Room) (va_Pc [.ref (za Z 5), .int x1, .int x2] (XI Z g gl tf)) (va_Qv (fun (u : (Nat → Nat → Int32) × (Nat → Nat → Int64) × (Nat → Nat → Int32)) => Fr [5, 6, 7, 8] g u.1 ∧ Gd Z u.2.2 ∧ tf = u.2.2 ∧ PE (xr Z tf) g u.1 x2.toInt.toNat x1) (fun u t => va_P (zD Z) vwCl (xw Z u.1 u.2.1 u.2.2) t.heap) (zA Z)) 0 0 (zA Z) := by
  refine Met.ofW (cc := cX5_push) (maxL := 7) (ret := none) (by decide) rfl ?_
  intro p e s m args below meth c s₁ B hml hv
  obtain ⟨rfl, hI⟩ := hv
  have hx := B.exec
  have hb := B.bytes
  have hr := B.returns
  have hT : ∀ w ∈ wsL_law, w.before ([.ref (za Z 5), .int x1, .int x2] : List Value).toArray s = true := fun w h => atoms_spec (ws := (Cond.code yX5_push cX5_push 7 none :: wsL_law)) B.pre w (List.mem_cons_of_mem _ h)
  have hown : s.vm.findClass RX5 = some m.cls := findClass_of_methodNamed B.named
  have hlocks := B.notSynchronized
  have hK := hI.2.1
  have hP := hI.1
  have hS : va_S (zA Z) s.heap s.heap [] := va_S.rf
  have hF : Fr [5, 6, 7, 8] g g := Fr.rf
  have hl := lv_entry ([.ref (za Z 5), .int x1, .int x2]) (n := 7) (Nat.le_of_ble_eq_true rfl)
  rw [lg_entry_eq]
  generalize (lg_sl ([.ref (za Z 5), .int x1, .int x2]) ++ List.replicate (7 - (lg_sl ([.ref (za Z 5), .int x1, .int x2])).length) Slot.unset).toArray = ls at hl ⊢
  have hl : lv_has ls 7 [(0, .ref (za Z 5)), (1, .int x1), (2, .int x2)] := hl
  have L8 : ∀ (n : Nat) (z3 : Int32) (z4 : Int32) (z5 : Int32) (g1 : Nat → Nat → Int32) (gl1 : Nat → Nat → Int64) (H : Heap) (locs : List Loc) (hP : va_P (zD Z) vwCl (xw Z g1 gl1 tf) H) (hF : Fr [5, 6, 7, 8] g g1) (hG : Gd Z tf) (hS : va_S (zA Z) s.heap H locs) (h5 : 0 ≤ z5.toInt ∧ z5.toInt ≤ 7) (h4 : 0 ≤ z4.toInt) (hPI : PI (xr Z tf) g g1 x2.toInt.toNat x1 (7 - z5.toInt).toNat z4.toInt.toNat z3) (hn : (7 - z5.toInt).toNat < n) (ls : Array Slot) (hl : lv_has ls 7 [(0, .ref (za Z 5)), (1, .int x1), (2, .int x2), (3, .int z3), (4, .int z4), (5, .int z5)]), W p l e ({ frames := 5, cells := 0, slots := 0, locals := 114 } : Room) s m ([.ref (za Z 5), .int x1, .int x2] : List Value).toArray below meth c H locs 0 0 (MQ below (va_Qv (fun (u : (Nat → Nat → Int32) × (Nat → Nat → Int64) × (Nat → Nat → Int32)) => Fr [5, 6, 7, 8] g u.1 ∧ Gd Z u.2.2 ∧ tf = u.2.2 ∧ PE (xr Z tf) g u.1 x2.toInt.toNat x1) (fun u t => va_P (zD Z) vwCl (xw Z u.1 u.2.1 u.2.2) t.heap) (zA Z)) ([.ref (za Z 5), .int x1, .int x2] : List Value).toArray s 0 0 (zA Z)) (F0 m 8 ls []) := by
    intro n
    induction n with
    | zero => intro z3 z4 z5 g1 gl1 H locs hP hF hG hS h5 h4 hPI hn; exact absurd hn (Nat.not_lt_zero _)
    | succ n ih8 =>
      intro z3 z4 z5 g1 gl1 H locs hP hF hG hS h5 h4 hPI hn ls hl
      refine lv_iload hx hb dX5_push_8 (lv_at hl 5 rfl) ?_
      refine lv_bipush (v := 7) hx hb dX5_push_10 (by decide) ?_
      refine lv_icmp_ge (tgt := 110) hx hb dX5_push_12 (by decide) (fun c_12 => ?_) (fun c_12 => ?_)
      · skip
        have i_12 := ti_lek tk_7 rfl c_12
        exact W.vret hx hb hr (fun t ht hW => ⟨⟨(g1, gl1, tf), rfl, ⟨hF, hG, rfl, (by (try dsimp only); first | done | exact (hPI.out (by omega)))⟩, by show va_P (zD Z) vwCl (xw Z g1 gl1 tf) t.heap; rw [ht]; exact hP⟩, hS.F ht⟩) hS.2.2 dX5_push_110
      · skip
        have i_12 := ti_nlek tk_7 rfl c_12
        refine lv_iload hx hb dX5_push_15 (lv_at hl 4 rfl) ?_
        refine lv_iconst (v := 1) hx hb dX5_push_17 (by decide) ?_
        refine lv_icmp_lt (tgt := 110) hx hb dX5_push_18 (by decide) (fun c_18 => ?_) (fun c_18 => ?_)
        · skip
          have i_18 := ti_ltk rfl tk_1 c_18
          exact W.vret hx hb hr (fun t ht hW => ⟨⟨(g1, gl1, tf), rfl, ⟨hF, hG, rfl, (by (try dsimp only); first | done | exact (hPI.out (by omega)))⟩, by show va_P (zD Z) vwCl (xw Z g1 gl1 tf) t.heap; rw [ht]; exact hP⟩, hS.F ht⟩) hS.2.2 dX5_push_110
        · skip
          have i_18 := ti_nltk rfl tk_1 c_18
          refine lv_iload hx hb dX5_push_21 (lv_at hl 4 rfl) ?_
          refine lv_bipush (v := 127) hx hb dX5_push_23 (by decide) ?_
          refine lv_icmp_gt (tgt := 110) hx hb dX5_push_25 (by decide) (fun c_25 => ?_) (fun c_25 => ?_)
          · skip
            have i_25 := ti_ltk tk_127 rfl c_25
            exact W.vret hx hb hr (fun t ht hW => ⟨⟨(g1, gl1, tf), rfl, ⟨hF, hG, rfl, (by (try dsimp only); first | done | exact (hPI.out (by omega)))⟩, by show va_P (zD Z) vwCl (xw Z g1 gl1 tf) t.heap; rw [ht]; exact hP⟩, hS.F ht⟩) hS.2.2 dX5_push_110
          · skip
            have i_25 := ti_nltk tk_127 rfl c_25
            have hv : 1 ≤ z4.toInt.toNat ∧ z4.toInt.toNat ≤ 127 := by omega
            have hx4 : z4.toInt = ((z4.toInt.toNat : Nat) : Int) := by omega
            have hgv := (hg_c hv).2.2
            have h55 := hPI.2.2.2.2.1
            have ht3 := hPI.2.2.2.2.2.2
            have hb4 := hPI.2.2.2.2.2.1 z4.toInt.toNat hv.1 hv.2
            obtain ⟨f, hf⟩ : ∃ f, (7 - z5.toInt).toNat = f + 1 := ⟨(6 - z5.toInt).toNat, by omega⟩
            rw [hf] at hPI
            have nl := nd_le hv.1 hv.2
            refine lv_aload_n hx hb dX5_push_28 rfl (lv_at hl 0 rfl) ?_
            refine va_get (D := zD Z) (ci := 5) (v := .ref (za Z 6)) (C := RX5) (T := TX5) (N := 7) hx hb hT inlX5 hown hK hP 5 xw_5 rfl 1 (by decide) (hT _ (tr_3 _ (List.mem_of_getElem? (i := 12) rfl))) (fun _ h9 => h9) rfl dX5_push_29 ?_
            refine lv_iload hx hb dX5_push_32 (lv_at hl 4 rfl) ?_
            have h_34 : vp_in z4 128 := (ti_vp (by omega) (by omega))
            refine va_iald hx hb hK hP 6 1 xw_6 rfl h_34 dX5_push_34 ?_
            refine lv_topi (fun v_34 e_34 => ?_)
            refine lv_istore (lv' := [(6, .int v_34), (0, .ref (za Z 5)), (1, .int x1), (2, .int x2), (3, .int z3), (4, .int z4), (5, .int z5)]) hx hb dX5_push_35 hl (by decide) rfl (fun ls hl => ?_)
            have e34 : g1 6 z4.toInt.toNat = v_34 := e_34.symm
            rw [e34] at hb4
            refine lv_iload hx hb dX5_push_37 (lv_at hl 0 rfl) ?_
            refine lv_iconst (v := (-1)) hx hb dX5_push_39 (by decide) ?_
            refine lv_icmp_ne (tgt := 51) hx hb dX5_push_40 (by decide) (fun c_40 => ?_) (fun c_40 => ?_)
            · skip
              have i_40 := ti_nek rfl tk_m1 c_40
              have r34 := hb4 c_40
              refine lv_aload_n hx hb dX5_push_51 rfl (lv_at hl 1 rfl) ?_
              refine va_get (D := zD Z) (ci := 5) (v := .ref (za Z 3)) (C := RX5) (T := TX5) (N := 7) hx hb hT inlX5 hown hK hP 5 xw_5 rfl 0 (by decide) (hT _ (tr_3 _ (List.mem_of_getElem? (i := 17) rfl))) (fun _ h9 => h9) rfl dX5_push_52 ?_
              refine lv_iload_n hx hb dX5_push_55 rfl (lv_at hl 4 rfl) ?_
              refine lv_iload hx hb dX5_push_56 (lv_at hl 0 rfl) ?_
              refine lv_iload hx hb dX5_push_58 (lv_at hl 5 rfl) ?_
              refine rd_ci (va_runS (As := [.int z4]) (rest := [.int v_34, .int z3, .ref (za Z 3)]) ⟨hx, hb, hml, hown, hT⟩ (c_X5_middleOf l z4 (by first | assumption | omega | decide)) (va_cwS 1 hT (tb_S (fun _ h => h) (tr_15 _ (List.mem_of_getElem? (i := 22) rfl)) (tr_15 _ (List.mem_of_getElem? (i := 23) rfl)) (tr_1 _ (List.mem_of_getElem? (i := 22) rfl)) (tr_16 _ (List.mem_of_getElem? (i := 0) rfl))) rfl rfl rfl (by decide +kernel) ⟨Nat.le_of_ble_eq_true rfl, Nat.le_of_ble_eq_true rfl⟩) ⟨fun _ _ _ _ q => q, fun U hU hW => ⟨rfl, trivial⟩⟩ rfl rfl hl.1 rfl (lv_room (Nat.le_of_ble_eq_true rfl)) dX5_push_60 ⟨Nat.zero_le _, Nat.zero_le _⟩) (fun r_60 hr_60 => ?_)
              have q60 := nI_ek hr_60
              refine rd_ci (va_runV (As := [.int z3, .int v_34, .int r_60]) (rest := []) ⟨hx, hb, hml, hown, hT⟩ (c_X4_isBetter l Z hZ g1 gl1 tf z3 v_34 r_60 hG) (cwV 3 hT (tb_V (fun _ h => h) (tr_16 _ (List.mem_of_getElem? (i := 1) rfl)) (tr_16 _ (List.mem_of_getElem? (i := 2) rfl)) (tr_16 _ (List.mem_of_getElem? (i := 3) rfl)) (tr_1 _ (List.mem_of_getElem? (i := 18) rfl)) (tr_16 _ (List.mem_of_getElem? (i := 4) rfl))) rfl rfl rfl (by decide +kernel) ⟨Nat.le_of_ble_eq_true rfl, Nat.le_of_ble_eq_true rfl⟩) ⟨fun a U f mk q => ⟨q.1, XI.blind f mk a q.2⟩, va_recv hK hP (ci := 4) (q0 := 3) rfl xw_3, fun U hU hW => ⟨rfl, hI.at hS hP hU hW⟩⟩ rfl rfl hl.1 rfl (lv_room (Nat.le_of_ble_eq_true rfl)) dX5_push_63 ⟨Nat.zero_le _, Nat.zero_le _⟩) (fun r_63 hr_63 => ?_)
              rcases hr_63 with ⟨rfl, b_63⟩ | ⟨rfl, b_63⟩
              · skip
                have m63 := b_63 (by omega) ht3 r34
                rw [q60] at m63
                refine lv_if_eq (tgt := 93) hx hb dX5_push_66 (by decide) (fun c_66 => absurd c_66 (by decide)) (fun c_66 => ?_)
                refine lv_aload_n hx hb dX5_push_69 rfl (lv_at hl 1 rfl) ?_
                refine lv_iload hx hb dX5_push_70 (lv_at hl 5 rfl) ?_
                refine lv_iload_n hx hb dX5_push_72 rfl (lv_at hl 4 rfl) ?_
                refine va_callv (va_runV (As := [.int z4, .int z3]) (rest := []) ⟨hx, hb, hml, hown, hT⟩ (c_X5_put l Z hZ g1 gl1 tf z4 z3 (by first | assumption | omega | decide) (by first | assumption | omega | decide) hG) (cwV 2 hT (tb_V (fun _ h => h) (tr_15 _ (List.mem_of_getElem? (i := 14) rfl)) (tr_15 _ (List.mem_of_getElem? (i := 15) rfl)) (tr_15 _ (List.mem_of_getElem? (i := 16) rfl)) (tr_1 _ (List.mem_of_getElem? (i := 22) rfl)) (tr_15 _ (List.mem_of_getElem? (i := 17) rfl))) rfl rfl rfl (by decide +kernel) ⟨Nat.le_of_ble_eq_true rfl, Nat.le_of_ble_eq_true rfl⟩) ⟨fun a U f mk q => ⟨q.1, XI.blind f mk a q.2⟩, va_recv hK hP (ci := 5) (q0 := 5) rfl xw_5, fun U hU hW => ⟨rfl, hI.at hS hP hU hW⟩⟩ rfl rfl hl.1 rfl (lv_room (Nat.le_of_ble_eq_true rfl)) dX5_push_73 ⟨Nat.zero_le _, Nat.zero_le _⟩) hS (fun q _ h => h) (fun q h => h) (fun u_73 t_73 H locs ht_73 _ hw_73 hB_73 _ _ hS => ?_)
                obtain ⟨g_73, gl_73, tf_73⟩ := u_73
                have hP : va_P (zD Z) vwCl (xw Z g_73 gl_73 tf_73) H := ht_73 ▸ hB_73
                obtain ⟨hf_73, hG, et_73, eg_73⟩ := hw_73
                have hF := hF.tr hf_73 (by decide)
                dsimp only at hf_73 hG hF et_73 eg_73
                subst et_73
                subst eg_73
                refine lv_aload_n hx hb dX5_push_76 rfl (lv_at hl 1 rfl) ?_
                refine lv_iload hx hb dX5_push_77 (lv_at hl 0 rfl) ?_
                refine lv_iload_n hx hb dX5_push_79 rfl (lv_at hl 4 rfl) ?_
                refine lv_iload hx hb dX5_push_80 (lv_at hl 5 rfl) ?_
                refine rd_ci (va_runV (As := [.int v_34, .int z3, .int z4]) (rest := []) ⟨hx, hb, hml, hown, hT⟩ (c_X5_halfFor l Z hZ (putG g1 z4 z3) gl_73 tf v_34 z3 z4 (by first | assumption | omega | decide) (by first | assumption | omega | decide) (by first | assumption | omega | decide) hG) (cwV 3 hT (tb_V (fun _ h => h) (tr_16 _ (List.mem_of_getElem? (i := 22) rfl)) (tr_16 _ (List.mem_of_getElem? (i := 23) rfl)) (tr_17 _ (List.mem_of_getElem? (i := 0) rfl)) (tr_1 _ (List.mem_of_getElem? (i := 22) rfl)) (tr_17 _ (List.mem_of_getElem? (i := 1) rfl))) rfl rfl rfl (by decide +kernel) ⟨Nat.le_of_ble_eq_true rfl, Nat.le_of_ble_eq_true rfl⟩) ⟨fun a U f mk q => ⟨q.1, XI.blind f mk a q.2⟩, va_recv hK hP (ci := 5) (q0 := 5) rfl xw_5, fun U hU hW => ⟨rfl, hI.at hS hP hU hW⟩⟩ rfl rfl hl.1 rfl (lv_room (Nat.le_of_ble_eq_true rfl)) dX5_push_82 ⟨Nat.zero_le _, Nat.zero_le _⟩) (fun r_82 hr_82 => ?_)
                refine lv_istore (lv' := [(4, .int r_82), (6, .int v_34), (0, .ref (za Z 5)), (1, .int x1), (2, .int x2), (3, .int z3), (5, .int z5)]) hx hb dX5_push_85 hl (by decide) rfl (fun ls hl => ?_)
                refine lv_iload hx hb dX5_push_87 (lv_at hl 1 rfl) ?_
                refine lv_istore_n (lv' := [(3, .int v_34), (4, .int r_82), (6, .int v_34), (0, .ref (za Z 5)), (1, .int x1), (2, .int x2), (5, .int z5)]) hx hb dX5_push_89 rfl hl (by decide) rfl (fun ls hl => ?_)
                refine lv_goto (tgt := 104) hx hb dX5_push_90 (by decide) ?_
                obtain ⟨v_104, e_104⟩ : ∃ y : Int32, y = z5 + 1 := ⟨_, rfl⟩
                refine lv_iinc (v := v_104) (lv' := [(5, .int v_104), (3, .int v_34), (4, .int r_82), (6, .int v_34), (0, .ref (za Z 5)), (1, .int x1), (2, .int x2)]) hx hb dX5_push_104 hl (k := 6) rfl (by rw [e_104]; rfl) (by decide) rfl (fun ls hl => ?_)
                have t_104 := ti_addk rfl tk_1 (by omega) (by omega) e_104
                refine lv_goto (tgt := 8) hx hb dX5_push_107 (by decide) ?_
                exact ih8 v_34 r_82 v_104 (putG g1 z4 z3) gl_73 _ _ hP hF hG hS (by omega) (by first | assumption | omega | decide) (by have q := hPI.y (x := z4) hv hx4 (by rw [e34]; exact c_40) (by rw [e34]; exact m63); rw [e34] at q; rw [show (7 - v_104.toInt).toNat = f by omega, show r_82.toInt.toNat = hlf (xr Z tf) v_34 z3 z4.toInt.toNat by omega]; exact q) (by omega) ls (lv_sub hl [4, 5, 6, 1, 2, 0] rfl)
              · skip
                have m63 := b_63 (by omega) ht3 r34
                rw [q60] at m63
                refine lv_if_eq (tgt := 93) hx hb dX5_push_66 (by decide) (fun c_66 => ?_) (fun c_66 => absurd c_66 (by decide))
                refine lv_aload_n hx hb dX5_push_93 rfl (lv_at hl 1 rfl) ?_
                refine lv_iload_n hx hb dX5_push_94 rfl (lv_at hl 4 rfl) ?_
                refine lv_iload hx hb dX5_push_95 (lv_at hl 0 rfl) ?_
                refine lv_iload hx hb dX5_push_97 (lv_at hl 5 rfl) ?_
                refine rd_ci (va_runV (As := [.int z3, .int v_34, .int z4]) (rest := []) ⟨hx, hb, hml, hown, hT⟩ (c_X5_halfFor l Z hZ g1 gl1 tf z3 v_34 z4 (by first | assumption | omega | decide) (by first | assumption | omega | decide) (by first | assumption | omega | decide) hG) (cwV 3 hT (tb_V (fun _ h => h) (tr_16 _ (List.mem_of_getElem? (i := 22) rfl)) (tr_16 _ (List.mem_of_getElem? (i := 23) rfl)) (tr_17 _ (List.mem_of_getElem? (i := 0) rfl)) (tr_1 _ (List.mem_of_getElem? (i := 22) rfl)) (tr_17 _ (List.mem_of_getElem? (i := 1) rfl))) rfl rfl rfl (by decide +kernel) ⟨Nat.le_of_ble_eq_true rfl, Nat.le_of_ble_eq_true rfl⟩) ⟨fun a U f mk q => ⟨q.1, XI.blind f mk a q.2⟩, va_recv hK hP (ci := 5) (q0 := 5) rfl xw_5, fun U hU hW => ⟨rfl, hI.at hS hP hU hW⟩⟩ rfl rfl hl.1 rfl (lv_room (Nat.le_of_ble_eq_true rfl)) dX5_push_99 ⟨Nat.zero_le _, Nat.zero_le _⟩) (fun r_99 hr_99 => ?_)
                refine lv_istore (lv' := [(4, .int r_99), (6, .int v_34), (0, .ref (za Z 5)), (1, .int x1), (2, .int x2), (3, .int z3), (5, .int z5)]) hx hb dX5_push_102 hl (by decide) rfl (fun ls hl => ?_)
                obtain ⟨v_104, e_104⟩ : ∃ y : Int32, y = z5 + 1 := ⟨_, rfl⟩
                refine lv_iinc (v := v_104) (lv' := [(5, .int v_104), (4, .int r_99), (6, .int v_34), (0, .ref (za Z 5)), (1, .int x1), (2, .int x2), (3, .int z3)]) hx hb dX5_push_104 hl (k := 6) rfl (by rw [e_104]; rfl) (by decide) rfl (fun ls hl => ?_)
                have t_104 := ti_addk rfl tk_1 (by omega) (by omega) e_104
                refine lv_goto (tgt := 8) hx hb dX5_push_107 (by decide) ?_
                exact ih8 z3 r_99 v_104 g1 gl1 _ _ hP hF hG hS (by omega) (by first | assumption | omega | decide) (by have q := hPI.n hv (by rw [e34]; exact c_40) (by rw [e34, m63]; decide); rw [e34] at q; rw [show (7 - v_104.toInt).toNat = f by omega, show r_99.toInt.toNat = hlf (xr Z tf) z3 v_34 z4.toInt.toNat by omega]; exact q) (by omega) ls (lv_sub hl [3, 4, 5, 6, 1, 0] rfl)
            · skip
              have i_40 := ti_eqk rfl tk_m1 c_40
              refine lv_aload_n hx hb dX5_push_43 rfl (lv_at hl 1 rfl) ?_
              refine lv_iload hx hb dX5_push_44 (lv_at hl 5 rfl) ?_
              refine lv_iload_n hx hb dX5_push_46 rfl (lv_at hl 4 rfl) ?_
              refine va_callv (va_runV (As := [.int z4, .int z3]) (rest := []) ⟨hx, hb, hml, hown, hT⟩ (c_X5_put l Z hZ g1 gl1 tf z4 z3 (by first | assumption | omega | decide) (by first | assumption | omega | decide) hG) (cwV 2 hT (tb_V (fun _ h => h) (tr_15 _ (List.mem_of_getElem? (i := 14) rfl)) (tr_15 _ (List.mem_of_getElem? (i := 15) rfl)) (tr_15 _ (List.mem_of_getElem? (i := 16) rfl)) (tr_1 _ (List.mem_of_getElem? (i := 22) rfl)) (tr_15 _ (List.mem_of_getElem? (i := 17) rfl))) rfl rfl rfl (by decide +kernel) ⟨Nat.le_of_ble_eq_true rfl, Nat.le_of_ble_eq_true rfl⟩) ⟨fun a U f mk q => ⟨q.1, XI.blind f mk a q.2⟩, va_recv hK hP (ci := 5) (q0 := 5) rfl xw_5, fun U hU hW => ⟨rfl, hI.at hS hP hU hW⟩⟩ rfl rfl hl.1 rfl (lv_room (Nat.le_of_ble_eq_true rfl)) dX5_push_47 ⟨Nat.zero_le _, Nat.zero_le _⟩) hS (fun q _ h => h) (fun q h => h) (fun u_47 t_47 H locs ht_47 _ hw_47 hB_47 _ _ hS => ?_)
              obtain ⟨g_47, gl_47, tf_47⟩ := u_47
              have hP : va_P (zD Z) vwCl (xw Z g_47 gl_47 tf_47) H := ht_47 ▸ hB_47
              obtain ⟨hf_47, hG, et_47, eg_47⟩ := hw_47
              have hF := hF.tr hf_47 (by decide)
              dsimp only at hf_47 hG hF et_47 eg_47
              subst et_47
              subst eg_47
              exact W.vret hx hb hr (fun t ht hW => ⟨⟨((putG g1 z4 z3), gl_47, tf), rfl, ⟨hF, hG, rfl, (by (try dsimp only); first | done | exact (hPI.e hv hx4 (e34.trans c_40)))⟩, by show va_P (zD Z) vwCl (xw Z (putG g1 z4 z3) gl_47 tf) t.heap; rw [ht]; exact hP⟩, hS.F ht⟩) hS.2.2 dX5_push_50
  refine lv_iload_n hx hb dX5_push_0 rfl (lv_at hl 1 rfl) ?_
  refine lv_istore_n (lv' := [(3, .int x1), (0, .ref (za Z 5)), (1, .int x1), (2, .int x2)]) hx hb dX5_push_1 rfl hl (by decide) rfl (fun ls hl => ?_)
  refine lv_iload_n hx hb dX5_push_2 rfl (lv_at hl 3 rfl) ?_
  refine lv_istore (lv' := [(4, .int x2), (3, .int x1), (0, .ref (za Z 5)), (1, .int x1), (2, .int x2)]) hx hb dX5_push_3 hl (by decide) rfl (fun ls hl => ?_)
  refine lv_iconst (v := 0) hx hb dX5_push_5 (by decide) ?_
  refine lv_istore (lv' := [(5, .int 0), (4, .int x2), (3, .int x1), (0, .ref (za Z 5)), (1, .int x1), (2, .int x2)]) hx hb dX5_push_6 hl (by decide) rfl (fun ls hl => ?_)
  exact L8 _ x1 x2 0 g gl _ _ hP hF hG hS (by decide) (by first | assumption | omega | decide) (by rw [tk_0]; exact PI.rf hc hbd h1) (Nat.lt_succ_self _) ls (lv_sub hl [3, 4, 5, 2, 1, 0] rfl)
set_option maxHeartbeats 4000000 in
set_option maxRecDepth 100000 in
theorem c_X5_lowerBy (l : Launch) (Z : ZT) (hZ : XG Z) (g : Nat → Nat → Int32) (gl : Nat → Nat → Int64) (tf : Nat → Nat → Int32) (x1 : Int32) (a : Nat) (ha : a ∈ zL Z) (h1 : 0 ≤ x1.toInt ∧ x1.toInt < 70) (hsp : tf a 3 = xr Z tf 4 x1.toInt.toNat ∧ tf a 4 = xr Z tf 5 x1.toInt.toNat) (hL : ∀ q, q < 64 → g 10 q = bst (xr Z tf) x1.toInt.toNat q) (hG : Gd Z tf) : Met l yX5_lowerBy (Cond.code yX5_lowerBy cX5_lowerBy 5 none :: wsL_law) ({ frames := 4, cells := 0, slots := 0, locals := 91 } : Room) (va_Pc [.ref (za Z 5), .int x1, .ref a] (XI Z g gl tf)) (va_Qv (fun (u : (Nat → Nat → Int32) × (Nat → Nat → Int64) × (Nat → Nat → Int32)) => Fr [10] g u.1 ∧ Gd Z u.2.2 ∧ tf = u.2.2 ∧ (∀ q, q < 64 → u.1 10 q = bst (xr Z tf) (x1.toInt.toNat + 1) q)) (fun u t => va_P (zD Z) vwCl (xw Z u.1 u.2.1 u.2.2) t.heap) (zA Z)) 0 0 (zA Z) := by
  refine Met.ofW (cc := cX5_lowerBy) (maxL := 5) (ret := none) (by decide) rfl ?_
  intro p e s m args below meth c s₁ B hml hv
  obtain ⟨rfl, hI⟩ := hv
  have hx := B.exec
  have hb := B.bytes
  have hr := B.returns
  have hT : ∀ w ∈ wsL_law, w.before ([.ref (za Z 5), .int x1, .ref a] : List Value).toArray s = true := fun w h => atoms_spec (ws := (Cond.code yX5_lowerBy cX5_lowerBy 5 none :: wsL_law)) B.pre w (List.mem_cons_of_mem _ h)
  have hown : s.vm.findClass RX5 = some m.cls := findClass_of_methodNamed B.named
  have hlocks := B.notSynchronized
  have hK := hI.2.1
  have hP := hI.1
  have hS : va_S (zA Z) s.heap s.heap [] := va_S.rf
  have hF : Fr [10] g g := Fr.rf
  have hxn : x1 = nI x1.toInt.toNat := nI_ek (by omega)
  have s4 := congrArg Int32.toInt hsp.1
  have s5 := congrArg Int32.toInt hsp.2
  have hl := lv_entry ([.ref (za Z 5), .int x1, .ref a]) (n := 5) (Nat.le_of_ble_eq_true rfl)
  rw [lg_entry_eq]
  generalize (lg_sl ([.ref (za Z 5), .int x1, .ref a]) ++ List.replicate (5 - (lg_sl ([.ref (za Z 5), .int x1, .ref a])).length) Slot.unset).toArray = ls at hl ⊢
  have hl : lv_has ls 5 [(0, .ref (za Z 5)), (1, .int x1), (2, .ref a)] := hl
  have L2 : ∀ (n : Nat) (z3 : Int32) (g1 : Nat → Nat → Int32) (gl1 : Nat → Nat → Int64) (H : Heap) (locs : List Loc) (hP : va_P (zD Z) vwCl (xw Z g1 gl1 tf) H) (hF : Fr [10] g g1) (hG : Gd Z tf) (hS : va_S (zA Z) s.heap H locs) (h3 : 0 ≤ z3.toInt ∧ z3.toInt ≤ 64) (hA : ∀ q : Nat, (q : Int) < z3.toInt → g1 10 q = bst (xr Z tf) (x1.toInt.toNat + 1) q) (hB : ∀ q : Nat, q < 64 → z3.toInt ≤ (q : Int) → g1 10 q = bst (xr Z tf) x1.toInt.toNat q) (hn : (64 - z3.toInt).toNat < n) (ls : Array Slot) (hl : lv_has ls 5 [(0, .ref (za Z 5)), (1, .int x1), (2, .ref a), (3, .int z3)]), W p l e ({ frames := 4, cells := 0, slots := 0, locals := 91 } : Room) s m ([.ref (za Z 5), .int x1, .ref a] : List Value).toArray below meth c H locs 0 0 (MQ below (va_Qv (fun (u : (Nat → Nat → Int32) × (Nat → Nat → Int64) × (Nat → Nat → Int32)) => Fr [10] g u.1 ∧ Gd Z u.2.2 ∧ tf = u.2.2 ∧ (∀ q, q < 64 → u.1 10 q = bst (xr Z tf) (x1.toInt.toNat + 1) q)) (fun u t => va_P (zD Z) vwCl (xw Z u.1 u.2.1 u.2.2) t.heap) (zA Z)) ([.ref (za Z 5), .int x1, .ref a] : List Value).toArray s 0 0 (zA Z)) (F0 m 2 ls []) := by
    intro n
    induction n with
    | zero => intro z3 g1 gl1 H locs hP hF hG hS h3 hA hB hn; exact absurd hn (Nat.not_lt_zero _)
    | succ n ih2 =>
      intro z3 g1 gl1 H locs hP hF hG hS h3 hA hB hn ls hl
      refine lv_iload_n hx hb dX5_lowerBy_2 rfl (lv_at hl 3 rfl) ?_
      refine lv_bipush (v := 64) hx hb dX5_lowerBy_3 (by decide) ?_
      refine lv_icmp_ge (tgt := 57) hx hb dX5_lowerBy_5 (by decide) (fun c_5 => ?_) (fun c_5 => ?_)
      · skip
        have i_5 := ti_lek tk_64 rfl c_5
        exact W.vret hx hb hr (fun t ht hW => ⟨⟨(g1, gl1, tf), rfl, ⟨hF, hG, rfl, (by (try dsimp only); first | done | exact (fun q hq => hA q (by omega)))⟩, by show va_P (zD Z) vwCl (xw Z g1 gl1 tf) t.heap; rw [ht]; exact hP⟩, hS.F ht⟩) hS.2.2 dX5_lowerBy_57
      · skip
        have i_5 := ti_nlek tk_64 rfl c_5
        refine lv_aload_n hx hb dX5_lowerBy_8 rfl (lv_at hl 0 rfl) ?_
        refine va_get (D := zD Z) (ci := 5) (v := .ref (za Z 10)) (C := RX5) (T := TX5) (N := 7) hx hb hT inlX5 hown hK hP 5 xw_5 rfl 6 (by decide) (hT _ (tr_3 _ (List.mem_of_getElem? (i := 16) rfl))) (fun _ h9 => h9) rfl dX5_lowerBy_9 ?_
        refine lv_iload_n hx hb dX5_lowerBy_12 rfl (lv_at hl 3 rfl) ?_
        have h_13 : vp_in z3 64 := (ti_vp (by omega) (by omega))
        refine va_iald hx hb hK hP 10 1 xw_10 rfl h_13 dX5_lowerBy_13 ?_
        refine lv_topi (fun v_13 e_13 => ?_)
        have e13 : g1 10 z3.toInt.toNat = v_13 := e_13.symm
        have ob : v_13 = bst (xr Z tf) x1.toInt.toNat z3.toInt.toNat := by rw [← e13]; exact hB _ (by omega) (by omega)
        refine lv_istore (lv' := [(4, .int v_13), (0, .ref (za Z 5)), (1, .int x1), (2, .ref a), (3, .int z3)]) hx hb dX5_lowerBy_14 hl (by decide) rfl (fun ls hl => ?_)
        refine lv_aload_n hx hb dX5_lowerBy_16 rfl (lv_at hl 3 rfl) ?_
        refine lv_iload_n hx hb dX5_lowerBy_17 rfl (lv_at hl 4 rfl) ?_
        obtain ⟨k_18, hk_18⟩ := xt_at (g := g1) (gl := gl1) (tf := tf) ha
        refine rd_ci (va_runV (As := [.int z3]) (rest := []) ⟨hx, hb, hml, hown, hT⟩ (c_X3_spans l Z hZ g1 gl1 tf a ha z3 hG) (cwV 1 hT (tb_V (fun _ h => h) (tr_17 _ (List.mem_of_getElem? (i := 6) rfl)) (tr_17 _ (List.mem_of_getElem? (i := 7) rfl)) (tr_17 _ (List.mem_of_getElem? (i := 8) rfl)) (tr_2 _ (List.mem_of_getElem? (i := 10) rfl)) (tr_17 _ (List.mem_of_getElem? (i := 9) rfl))) rfl rfl rfl (by decide +kernel) ⟨Nat.le_of_ble_eq_true rfl, Nat.le_of_ble_eq_true rfl⟩) ⟨fun a U f mk q => ⟨q.1, XI.blind f mk a q.2⟩, va_recv hK hP (ci := 3) (q0 := k_18) rfl hk_18, fun U hU hW => ⟨rfl, hI.at hS hP hU hW⟩⟩ rfl rfl hl.1 rfl (lv_room (Nat.le_of_ble_eq_true rfl)) dX5_lowerBy_18 ⟨Nat.zero_le _, Nat.zero_le _⟩) (fun r_18 hr_18 => ?_)
        rcases hr_18 with ⟨rfl, b_18⟩ | ⟨rfl, b_18⟩
        · skip
          refine lv_if_eq (tgt := 51) hx hb dX5_lowerBy_21 (by decide) (fun c_21 => absurd c_21 (by decide)) (fun c_21 => ?_)
          refine lv_iload hx hb dX5_lowerBy_24 (lv_at hl 0 rfl) ?_
          refine lv_iconst (v := (-1)) hx hb dX5_lowerBy_26 (by decide) ?_
          refine lv_icmp_eq (tgt := 44) hx hb dX5_lowerBy_27 (by decide) (fun c_27 => ?_) (fun c_27 => ?_)
          · skip
            have i_27 := ti_eqk rfl tk_m1 c_27
            refine lv_aload_n hx hb dX5_lowerBy_44 rfl (lv_at hl 1 rfl) ?_
            refine va_get (D := zD Z) (ci := 5) (v := .ref (za Z 10)) (C := RX5) (T := TX5) (N := 7) hx hb hT inlX5 hown hK hP 5 xw_5 rfl 6 (by decide) (hT _ (tr_3 _ (List.mem_of_getElem? (i := 16) rfl))) (fun _ h9 => h9) rfl dX5_lowerBy_45 ?_
            refine lv_iload_n hx hb dX5_lowerBy_48 rfl (lv_at hl 4 rfl) ?_
            refine lv_iload_n hx hb dX5_lowerBy_49 rfl (lv_at hl 2 rfl) ?_
            have h_50 : vp_in z3 64 := (ti_vp (by omega) (by omega))
            refine va_iast hx hb hK hP hZ.D hS 10 1 xw_10 rfl h_50 dX5_lowerBy_50 (fun H locs hP _ hS => ?_)
            replace hP := xs_10 hP
            have hF := hF.uR (i := 10) (r := upd (g1 10) z3.toNatClampNeg x1) (by decide)
            obtain ⟨v_51, e_51⟩ : ∃ y : Int32, y = z3 + 1 := ⟨_, rfl⟩
            refine lv_iinc (v := v_51) (lv' := [(3, .int v_51), (4, .int v_13), (0, .ref (za Z 5)), (1, .int x1), (2, .ref a)]) hx hb dX5_lowerBy_51 hl (k := 4) rfl (by rw [e_51]; rfl) (by decide) rfl (fun ls hl => ?_)
            have t_51 := ti_addk rfl tk_1 (by omega) (by omega) e_51
            refine lv_goto (tgt := 2) hx hb dX5_lowerBy_54 (by decide) ?_
            exact ih2 v_51 (upR g1 10 (upd (g1 10) z3.toNatClampNeg x1)) gl1 _ _ hP hF hG hS (by omega) (fun q hq => by rcases Int.lt_or_le (q : Int) z3.toInt with y | y; (show upd (g1 10) z3.toNatClampNeg x1 q = _; rw [pk_un (by show q ≠ z3.toInt.toNat; omega)]; exact hA q y); have eq : q = z3.toInt.toNat := (by omega); subst eq; show upd (g1 10) z3.toNatClampNeg x1 z3.toInt.toNat = _; rw [upd_at (show z3.toInt.toNat = z3.toNatClampNeg from rfl)]; exact lw_y hxn (by unfold hs; omega) ob (by first | exact Or.inr m38 | exact Or.inl c_27)) (fun q hq h => by show upd (g1 10) z3.toNatClampNeg x1 q = _; rw [pk_un (by show q ≠ z3.toInt.toNat; omega)]; exact hB q hq (by omega)) (by omega) ls (lv_sub hl [2, 3, 4, 0] rfl)
          · skip
            have i_27 := ti_nek rfl tk_m1 c_27
            have r13 : 0 ≤ v_13.toInt ∧ v_13.toInt < 70 := by
              rcases bst_rg (R := xr Z tf) (n := x1.toInt.toNat) (q := z3.toInt.toNat) (by omega) with y | y
              · exact absurd (ob.trans y) c_27
              · rw [← ob] at y; omega
            refine lv_aload_n hx hb dX5_lowerBy_30 rfl (lv_at hl 1 rfl) ?_
            refine va_get (D := zD Z) (ci := 5) (v := .ref (za Z 3)) (C := RX5) (T := TX5) (N := 7) hx hb hT inlX5 hown hK hP 5 xw_5 rfl 0 (by decide) (hT _ (tr_3 _ (List.mem_of_getElem? (i := 17) rfl))) (fun _ h9 => h9) rfl dX5_lowerBy_31 ?_
            refine lv_iload_n hx hb dX5_lowerBy_34 rfl (lv_at hl 2 rfl) ?_
            refine lv_iload hx hb dX5_lowerBy_35 (lv_at hl 0 rfl) ?_
            refine lv_iload_n hx hb dX5_lowerBy_37 rfl (lv_at hl 4 rfl) ?_
            refine rd_ci (va_runV (As := [.int x1, .int v_13, .int z3]) (rest := []) ⟨hx, hb, hml, hown, hT⟩ (c_X4_isBetter l Z hZ g1 gl1 tf x1 v_13 z3 hG) (cwV 3 hT (tb_V (fun _ h => h) (tr_16 _ (List.mem_of_getElem? (i := 1) rfl)) (tr_16 _ (List.mem_of_getElem? (i := 2) rfl)) (tr_16 _ (List.mem_of_getElem? (i := 3) rfl)) (tr_1 _ (List.mem_of_getElem? (i := 18) rfl)) (tr_16 _ (List.mem_of_getElem? (i := 4) rfl))) rfl rfl rfl (by decide +kernel) ⟨Nat.le_of_ble_eq_true rfl, Nat.le_of_ble_eq_true rfl⟩) ⟨fun a U f mk q => ⟨q.1, XI.blind f mk a q.2⟩, va_recv hK hP (ci := 4) (q0 := 3) rfl xw_3, fun U hU hW => ⟨rfl, hI.at hS hP hU hW⟩⟩ rfl rfl hl.1 rfl (lv_room (Nat.le_of_ble_eq_true rfl)) dX5_lowerBy_38 ⟨Nat.zero_le _, Nat.zero_le _⟩) (fun r_38 hr_38 => ?_)
            rcases hr_38 with ⟨rfl, b_38⟩ | ⟨rfl, b_38⟩
            · skip
              have m38 := b_38 (by omega) h1 r13
              rw [show z3 = nI z3.toInt.toNat from nI_ek (by omega)] at m38
              refine lv_if_eq (tgt := 51) hx hb dX5_lowerBy_41 (by decide) (fun c_41 => absurd c_41 (by decide)) (fun c_41 => ?_)
              refine lv_aload_n hx hb dX5_lowerBy_44 rfl (lv_at hl 1 rfl) ?_
              refine va_get (D := zD Z) (ci := 5) (v := .ref (za Z 10)) (C := RX5) (T := TX5) (N := 7) hx hb hT inlX5 hown hK hP 5 xw_5 rfl 6 (by decide) (hT _ (tr_3 _ (List.mem_of_getElem? (i := 16) rfl))) (fun _ h9 => h9) rfl dX5_lowerBy_45 ?_
              refine lv_iload_n hx hb dX5_lowerBy_48 rfl (lv_at hl 4 rfl) ?_
              refine lv_iload_n hx hb dX5_lowerBy_49 rfl (lv_at hl 2 rfl) ?_
              have h_50 : vp_in z3 64 := (ti_vp (by omega) (by omega))
              refine va_iast hx hb hK hP hZ.D hS 10 1 xw_10 rfl h_50 dX5_lowerBy_50 (fun H locs hP _ hS => ?_)
              replace hP := xs_10 hP
              have hF := hF.uR (i := 10) (r := upd (g1 10) z3.toNatClampNeg x1) (by decide)
              obtain ⟨v_51, e_51⟩ : ∃ y : Int32, y = z3 + 1 := ⟨_, rfl⟩
              refine lv_iinc (v := v_51) (lv' := [(3, .int v_51), (4, .int v_13), (0, .ref (za Z 5)), (1, .int x1), (2, .ref a)]) hx hb dX5_lowerBy_51 hl (k := 4) rfl (by rw [e_51]; rfl) (by decide) rfl (fun ls hl => ?_)
              have t_51 := ti_addk rfl tk_1 (by omega) (by omega) e_51
              refine lv_goto (tgt := 2) hx hb dX5_lowerBy_54 (by decide) ?_
              exact ih2 v_51 (upR g1 10 (upd (g1 10) z3.toNatClampNeg x1)) gl1 _ _ hP hF hG hS (by omega) (fun q hq => by rcases Int.lt_or_le (q : Int) z3.toInt with y | y; (show upd (g1 10) z3.toNatClampNeg x1 q = _; rw [pk_un (by show q ≠ z3.toInt.toNat; omega)]; exact hA q y); have eq : q = z3.toInt.toNat := (by omega); subst eq; show upd (g1 10) z3.toNatClampNeg x1 z3.toInt.toNat = _; rw [upd_at (show z3.toInt.toNat = z3.toNatClampNeg from rfl)]; exact lw_y hxn (by unfold hs; omega) ob (by first | exact Or.inr m38 | exact Or.inl c_27)) (fun q hq h => by show upd (g1 10) z3.toNatClampNeg x1 q = _; rw [pk_un (by show q ≠ z3.toInt.toNat; omega)]; exact hB q hq (by omega)) (by omega) ls (lv_sub hl [2, 3, 4, 0] rfl)
            · skip
              have m38 := b_38 (by omega) h1 r13
              rw [show z3 = nI z3.toInt.toNat from nI_ek (by omega)] at m38
              refine lv_if_eq (tgt := 51) hx hb dX5_lowerBy_41 (by decide) (fun c_41 => ?_) (fun c_41 => absurd c_41 (by decide))
              obtain ⟨v_51, e_51⟩ : ∃ y : Int32, y = z3 + 1 := ⟨_, rfl⟩
              refine lv_iinc (v := v_51) (lv' := [(3, .int v_51), (4, .int v_13), (0, .ref (za Z 5)), (1, .int x1), (2, .ref a)]) hx hb dX5_lowerBy_51 hl (k := 4) rfl (by rw [e_51]; rfl) (by decide) rfl (fun ls hl => ?_)
              have t_51 := ti_addk rfl tk_1 (by omega) (by omega) e_51
              refine lv_goto (tgt := 2) hx hb dX5_lowerBy_54 (by decide) ?_
              exact ih2 v_51 g1 gl1 _ _ hP hF hG hS (by omega) (fun q hq => by rcases Int.lt_or_le (q : Int) z3.toInt with y | y; (exact hA q y); have eq : q = z3.toInt.toNat := (by omega); subst eq; rw [e13]; exact lw_n hxn ob (fun z => by first | (have y := z.1; unfold hs at y; omega) | (rcases z.2 with w | w; exact c_27 w; rw [m38] at w; cases w))) (fun q hq h => by exact hB q hq (by omega)) (by omega) ls (lv_sub hl [2, 3, 4, 0] rfl)
        · skip
          refine lv_if_eq (tgt := 51) hx hb dX5_lowerBy_21 (by decide) (fun c_21 => ?_) (fun c_21 => absurd c_21 (by decide))
          obtain ⟨v_51, e_51⟩ : ∃ y : Int32, y = z3 + 1 := ⟨_, rfl⟩
          refine lv_iinc (v := v_51) (lv' := [(3, .int v_51), (4, .int v_13), (0, .ref (za Z 5)), (1, .int x1), (2, .ref a)]) hx hb dX5_lowerBy_51 hl (k := 4) rfl (by rw [e_51]; rfl) (by decide) rfl (fun ls hl => ?_)
          have t_51 := ti_addk rfl tk_1 (by omega) (by omega) e_51
          refine lv_goto (tgt := 2) hx hb dX5_lowerBy_54 (by decide) ?_
          exact ih2 v_51 g1 gl1 _ _ hP hF hG hS (by omega) (fun q hq => by rcases Int.lt_or_le (q : Int) z3.toInt with y | y; (exact hA q y); have eq : q = z3.toInt.toNat := (by omega); subst eq; rw [e13]; exact lw_n hxn ob (fun z => by first | (have y := z.1; unfold hs at y; omega) | (rcases z.2 with w | w; exact c_27 w; rw [m38] at w; cases w))) (fun q hq h => by exact hB q hq (by omega)) (by omega) ls (lv_sub hl [2, 3, 4, 0] rfl)
  refine lv_iconst (v := 0) hx hb dX5_lowerBy_0 (by decide) ?_
  refine lv_istore_n (lv' := [(3, .int 0), (0, .ref (za Z 5)), (1, .int x1), (2, .ref a)]) hx hb dX5_lowerBy_1 rfl hl (by decide) rfl (fun ls hl => ?_)
  exact L2 _ 0 g gl _ _ hP hF hG hS (by decide) (fun q hq => by rw [tk_0] at hq; omega) (fun q hq _ => hL q hq) (Nat.lt_succ_self _) ls (lv_sub hl [1, 2, 3, 0] rfl)
set_option maxHeartbeats 4000000 in
set_option maxRecDepth 100000 in
theorem c_X5_bestAbove (l : Launch) (Z : ZT) (hZ : XG Z) (g : Nat → Nat → Int32) (gl : Nat → Nat → Int64) (tf : Nat → Nat → Int32) (x1 : Int32) (h1 : 0 ≤ x1.toInt ∧ x1.toInt ≤ 63) (hbd : bdS 70 (g 6)) (hG : Gd Z tf) : Met l yX5_bestAbove (Cond.code yX5_bestAbove cX5_bestAbove 5 (some .int) :: wsL_law) ({ frames := 4, cells := 0, slots := 0, locals := 91 } : Room) (va_Pc [.ref (za Z 5), .int x1] (XI Z g gl tf)) (rd_Qi (fun r => r = mcS (xr Z tf) (g 6) x1)) 0 0 (fun _ => False) := by
  refine Met.ofW (cc := cX5_bestAbove) (maxL := 5) (ret := (some .int)) (by decide) rfl ?_
  intro p e s m args below meth c s₁ B hml hv
  obtain ⟨rfl, hI⟩ := hv
  have hx := B.exec
  have hb := B.bytes
  have hr := B.returns
  have hT : ∀ w ∈ wsL_law, w.before ([.ref (za Z 5), .int x1] : List Value).toArray s = true := fun w h => atoms_spec (ws := (Cond.code yX5_bestAbove cX5_bestAbove 5 (some .int) :: wsL_law)) B.pre w (List.mem_cons_of_mem _ h)
  have hown : s.vm.findClass RX5 = some m.cls := findClass_of_methodNamed B.named
  have hlocks := B.notSynchronized
  have hK := hI.2.1
  have hP := hI.1
  have hS : va_S (zA Z) s.heap s.heap [] := va_S.rf
  have hl := lv_entry ([.ref (za Z 5), .int x1]) (n := 5) (Nat.le_of_ble_eq_true rfl)
  rw [lg_entry_eq]
  generalize (lg_sl ([.ref (za Z 5), .int x1]) ++ List.replicate (5 - (lg_sl ([.ref (za Z 5), .int x1])).length) Slot.unset).toArray = ls at hl ⊢
  have hl : lv_has ls 5 [(0, .ref (za Z 5)), (1, .int x1)] := hl
  have L7 : ∀ (n : Nat) (f : Nat) (z2 : Int32) (z3 : Int32)  (h2 : -1 ≤ z2.toInt ∧ z2.toInt < 70) (h3 : 0 ≤ z3.toInt ∧ z3.toInt ≤ 127) (hf : z3.toNatClampNeg < 2 ^ f) (hE : mchL (xr Z tf) (g 6) x1 f z3.toNatClampNeg z2 = mcS (xr Z tf) (g 6) x1) (hn : z3.toInt.toNat < n) (ls : Array Slot) (hl : lv_has ls 5 [(0, .ref (za Z 5)), (1, .int x1), (2, .int z2), (3, .int z3)]), W p l e ({ frames := 4, cells := 0, slots := 0, locals := 91 } : Room) s m ([.ref (za Z 5), .int x1] : List Value).toArray below meth c s.heap [] 0 0 (MQ below (rd_Qi (fun r => r = mcS (xr Z tf) (g 6) x1)) ([.ref (za Z 5), .int x1] : List Value).toArray s 0 0 (fun _ => False)) (F0 m 7 ls []) := by
    intro n
    induction n with
    | zero => intro f z2 z3 h2 h3 hf hE hn; exact absurd hn (Nat.not_lt_zero _)
    | succ n ih7 =>
      intro f z2 z3 h2 h3 hf hE hn ls hl
      refine lv_iload_n hx hb dX5_bestAbove_7 rfl (lv_at hl 3 rfl) ?_
      refine lv_iconst (v := 1) hx hb dX5_bestAbove_8 (by decide) ?_
      refine lv_icmp_lt (tgt := 54) hx hb dX5_bestAbove_9 (by decide) (fun c_9 => ?_) (fun c_9 => ?_)
      · skip
        have i_9 := ti_ltk rfl tk_1 c_9
        refine lv_iload_n hx hb dX5_bestAbove_54 rfl (lv_at hl 2 rfl) ?_
        exact W.iret (v := z2) hx hb hr (fun t ht hW => ⟨z2, rfl, (by (try dsimp only); rw [← hE, show z3.toNatClampNeg = 0 by show z3.toInt.toNat = 0; omega, mchL_0]), ht⟩) (fun q hq => by cases hq) dX5_bestAbove_55
      · skip
        have i_9 := ti_nltk rfl tk_1 c_9
        obtain ⟨f, rfl⟩ : ∃ f2, f = f2 + 1 := by
          cases f with
          | zero => exact absurd hf (by show ¬ z3.toInt.toNat < 2 ^ 0; omega)
          | succ f2 => exact ⟨f2, rfl⟩
        refine lv_aload_n hx hb dX5_bestAbove_12 rfl (lv_at hl 0 rfl) ?_
        refine lv_iload_n hx hb dX5_bestAbove_13 rfl (lv_at hl 3 rfl) ?_
        refine rd_ci (va_runV (As := [.int z3]) (rest := []) ⟨hx, hb, hml, hown, hT⟩ (c_X5_standingAt l Z hZ g gl tf z3 hG) (cwV 1 hT (tb_V (fun _ h => h) (tr_28 _ (List.mem_of_getElem? (i := 18) rfl)) (tr_25 _ (List.mem_of_getElem? (i := 14) rfl)) (tr_25 _ (List.mem_of_getElem? (i := 15) rfl)) (tr_1 _ (List.mem_of_getElem? (i := 22) rfl)) (tr_25 _ (List.mem_of_getElem? (i := 16) rfl))) rfl rfl rfl (by decide +kernel) ⟨Nat.le_of_ble_eq_true rfl, Nat.le_of_ble_eq_true rfl⟩) ⟨fun a U f mk q => ⟨q.1, XI.blind f mk a q.2⟩, va_recv hK hP (ci := 5) (q0 := 5) rfl xw_5, fun U hU hW => ⟨rfl, hI.at hS hP hU hW⟩⟩ rfl rfl hl.1 rfl (lv_room (Nat.le_of_ble_eq_true rfl)) dX5_bestAbove_14 ⟨Nat.zero_le _, Nat.zero_le _⟩) (fun r_14 hr_14 => ?_)
        have e14 : r_14 = g 6 z3.toNatClampNeg := hr_14.1 (by omega)
        refine lv_istore (lv' := [(4, .int r_14), (0, .ref (za Z 5)), (1, .int x1), (2, .int z2), (3, .int z3)]) hx hb dX5_bestAbove_17 hl (by decide) rfl (fun ls hl => ?_)
        refine lv_iload hx hb dX5_bestAbove_19 (lv_at hl 0 rfl) ?_
        refine lv_iconst (v := (-1)) hx hb dX5_bestAbove_21 (by decide) ?_
        refine lv_icmp_eq (tgt := 47) hx hb dX5_bestAbove_22 (by decide) (fun c_22 => ?_) (fun c_22 => ?_)
        · skip
          have i_22 := ti_eqk rfl tk_m1 c_22
          refine lv_iload_n hx hb dX5_bestAbove_47 rfl (lv_at hl 4 rfl) ?_
          refine lv_iconst (v := 2) hx hb dX5_bestAbove_48 (by decide) ?_
          refine lv_idiv hx hb dX5_bestAbove_49 (by decide) ?_
          refine lv_topi (fun v_49 e_49 => ?_)
          have t_49 := ti_half (by omega) e_49
          refine lv_istore_n (lv' := [(3, .int v_49), (4, .int r_14), (0, .ref (za Z 5)), (1, .int x1), (2, .int z2)]) hx hb dX5_bestAbove_50 rfl hl (by decide) rfl (fun ls hl => ?_)
          refine lv_goto (tgt := 7) hx hb dX5_bestAbove_51 (by decide) ?_
          exact ih7 f z2 v_49 (by first | assumption | omega | decide) (by first | assumption | omega | decide) (by have q : z3.toInt.toNat < 2 ^ (f + 1) := hf; rw [Nat.pow_succ] at q; show v_49.toInt.toNat < 2 ^ f; omega) (mchL_s hE (by show ¬ z3.toInt.toNat = 0; omega) (by show v_49.toInt.toNat = z3.toInt.toNat / 2; omega) (by first | exact mstep_m e14 c_27 m38 | exact mstep_n e14 c_22)) (by omega) ls (lv_sub hl [2, 3, 4, 0] rfl)
        · skip
          have i_22 := ti_nek rfl tk_m1 c_22
          have r14 : 0 ≤ r_14.toInt ∧ r_14.toInt < 70 := by rw [e14]; exact hbd _ (by show 1 ≤ z3.toInt.toNat; omega) (by show z3.toInt.toNat ≤ 127; omega) (by rw [← e14]; exact c_22)
          refine lv_iload_n hx hb dX5_bestAbove_25 rfl (lv_at hl 3 rfl) ?_
          refine lv_iconst (v := (-1)) hx hb dX5_bestAbove_26 (by decide) ?_
          refine lv_icmp_eq (tgt := 44) hx hb dX5_bestAbove_27 (by decide) (fun c_27 => ?_) (fun c_27 => ?_)
          · skip
            have i_27 := ti_eqk rfl tk_m1 c_27
            refine lv_iload hx hb dX5_bestAbove_44 (lv_at hl 0 rfl) ?_
            refine lv_istore_n (lv' := [(2, .int r_14), (4, .int r_14), (0, .ref (za Z 5)), (1, .int x1), (3, .int z3)]) hx hb dX5_bestAbove_46 rfl hl (by decide) rfl (fun ls hl => ?_)
            refine lv_iload_n hx hb dX5_bestAbove_47 rfl (lv_at hl 4 rfl) ?_
            refine lv_iconst (v := 2) hx hb dX5_bestAbove_48 (by decide) ?_
            refine lv_idiv hx hb dX5_bestAbove_49 (by decide) ?_
            refine lv_topi (fun v_49 e_49 => ?_)
            have t_49 := ti_half (by omega) e_49
            refine lv_istore_n (lv' := [(3, .int v_49), (2, .int r_14), (4, .int r_14), (0, .ref (za Z 5)), (1, .int x1)]) hx hb dX5_bestAbove_50 rfl hl (by decide) rfl (fun ls hl => ?_)
            refine lv_goto (tgt := 7) hx hb dX5_bestAbove_51 (by decide) ?_
            exact ih7 f r_14 v_49 (by first | assumption | omega | decide) (by first | assumption | omega | decide) (by have q : z3.toInt.toNat < 2 ^ (f + 1) := hf; rw [Nat.pow_succ] at q; show v_49.toInt.toNat < 2 ^ f; omega) (mchL_s hE (by show ¬ z3.toInt.toNat = 0; omega) (by show v_49.toInt.toNat = z3.toInt.toNat / 2; omega) (by first | exact mstep_y e14 c_22 (Or.inr m38) | exact mstep_y e14 c_22 (Or.inl c_27))) (by omega) ls (lv_sub hl [3, 4, 1, 0] rfl)
          · skip
            have i_27 := ti_nek rfl tk_m1 c_27
            have h27 := ti_nek rfl tk_m1 c_27
            refine lv_aload_n hx hb dX5_bestAbove_30 rfl (lv_at hl 1 rfl) ?_
            refine va_get (D := zD Z) (ci := 5) (v := .ref (za Z 3)) (C := RX5) (T := TX5) (N := 7) hx hb hT inlX5 hown hK hP 5 xw_5 rfl 0 (by decide) (hT _ (tr_3 _ (List.mem_of_getElem? (i := 17) rfl))) (fun _ h9 => h9) rfl dX5_bestAbove_31 ?_
            refine lv_iload hx hb dX5_bestAbove_34 (lv_at hl 0 rfl) ?_
            refine lv_iload_n hx hb dX5_bestAbove_36 rfl (lv_at hl 3 rfl) ?_
            refine lv_iload_n hx hb dX5_bestAbove_37 rfl (lv_at hl 2 rfl) ?_
            refine rd_ci (va_runV (As := [.int r_14, .int z2, .int x1]) (rest := []) ⟨hx, hb, hml, hown, hT⟩ (c_X4_isBetter l Z hZ g gl tf r_14 z2 x1 hG) (cwV 3 hT (tb_V (fun _ h => h) (tr_16 _ (List.mem_of_getElem? (i := 1) rfl)) (tr_16 _ (List.mem_of_getElem? (i := 2) rfl)) (tr_16 _ (List.mem_of_getElem? (i := 3) rfl)) (tr_1 _ (List.mem_of_getElem? (i := 18) rfl)) (tr_16 _ (List.mem_of_getElem? (i := 4) rfl))) rfl rfl rfl (by decide +kernel) ⟨Nat.le_of_ble_eq_true rfl, Nat.le_of_ble_eq_true rfl⟩) ⟨fun a U f mk q => ⟨q.1, XI.blind f mk a q.2⟩, va_recv hK hP (ci := 4) (q0 := 3) rfl xw_3, fun U hU hW => ⟨rfl, hI.at hS hP hU hW⟩⟩ rfl rfl hl.1 rfl (lv_room (Nat.le_of_ble_eq_true rfl)) dX5_bestAbove_38 ⟨Nat.zero_le _, Nat.zero_le _⟩) (fun r_38 hr_38 => ?_)
            rcases hr_38 with ⟨rfl, b_38⟩ | ⟨rfl, b_38⟩
            · skip
              have m38 := b_38 (by omega) r14 (by omega)
              refine lv_if_eq (tgt := 47) hx hb dX5_bestAbove_41 (by decide) (fun c_41 => absurd c_41 (by decide)) (fun c_41 => ?_)
              refine lv_iload hx hb dX5_bestAbove_44 (lv_at hl 0 rfl) ?_
              refine lv_istore_n (lv' := [(2, .int r_14), (4, .int r_14), (0, .ref (za Z 5)), (1, .int x1), (3, .int z3)]) hx hb dX5_bestAbove_46 rfl hl (by decide) rfl (fun ls hl => ?_)
              refine lv_iload_n hx hb dX5_bestAbove_47 rfl (lv_at hl 4 rfl) ?_
              refine lv_iconst (v := 2) hx hb dX5_bestAbove_48 (by decide) ?_
              refine lv_idiv hx hb dX5_bestAbove_49 (by decide) ?_
              refine lv_topi (fun v_49 e_49 => ?_)
              have t_49 := ti_half (by omega) e_49
              refine lv_istore_n (lv' := [(3, .int v_49), (2, .int r_14), (4, .int r_14), (0, .ref (za Z 5)), (1, .int x1)]) hx hb dX5_bestAbove_50 rfl hl (by decide) rfl (fun ls hl => ?_)
              refine lv_goto (tgt := 7) hx hb dX5_bestAbove_51 (by decide) ?_
              exact ih7 f r_14 v_49 (by first | assumption | omega | decide) (by first | assumption | omega | decide) (by have q : z3.toInt.toNat < 2 ^ (f + 1) := hf; rw [Nat.pow_succ] at q; show v_49.toInt.toNat < 2 ^ f; omega) (mchL_s hE (by show ¬ z3.toInt.toNat = 0; omega) (by show v_49.toInt.toNat = z3.toInt.toNat / 2; omega) (by first | exact mstep_y e14 c_22 (Or.inr m38) | exact mstep_y e14 c_22 (Or.inl c_27))) (by omega) ls (lv_sub hl [3, 4, 1, 0] rfl)
            · skip
              have m38 := b_38 (by omega) r14 (by omega)
              refine lv_if_eq (tgt := 47) hx hb dX5_bestAbove_41 (by decide) (fun c_41 => ?_) (fun c_41 => absurd c_41 (by decide))
              refine lv_iload_n hx hb dX5_bestAbove_47 rfl (lv_at hl 4 rfl) ?_
              refine lv_iconst (v := 2) hx hb dX5_bestAbove_48 (by decide) ?_
              refine lv_idiv hx hb dX5_bestAbove_49 (by decide) ?_
              refine lv_topi (fun v_49 e_49 => ?_)
              have t_49 := ti_half (by omega) e_49
              refine lv_istore_n (lv' := [(3, .int v_49), (4, .int r_14), (0, .ref (za Z 5)), (1, .int x1), (2, .int z2)]) hx hb dX5_bestAbove_50 rfl hl (by decide) rfl (fun ls hl => ?_)
              refine lv_goto (tgt := 7) hx hb dX5_bestAbove_51 (by decide) ?_
              exact ih7 f z2 v_49 (by first | assumption | omega | decide) (by first | assumption | omega | decide) (by have q : z3.toInt.toNat < 2 ^ (f + 1) := hf; rw [Nat.pow_succ] at q; show v_49.toInt.toNat < 2 ^ f; omega) (mchL_s hE (by show ¬ z3.toInt.toNat = 0; omega) (by show v_49.toInt.toNat = z3.toInt.toNat / 2; omega) (by first | exact mstep_m e14 c_27 m38 | exact mstep_n e14 c_22)) (by omega) ls (lv_sub hl [2, 3, 4, 0] rfl)
  refine lv_iconst (v := (-1)) hx hb dX5_bestAbove_0 (by decide) ?_
  refine lv_istore_n (lv' := [(2, .int (-1)), (0, .ref (za Z 5)), (1, .int x1)]) hx hb dX5_bestAbove_1 rfl hl (by decide) rfl (fun ls hl => ?_)
  refine lv_bipush (v := 64) hx hb dX5_bestAbove_2 (by decide) ?_
  refine lv_iload_n hx hb dX5_bestAbove_4 rfl (lv_at hl 2 rfl) ?_
  refine lv_iadd hx hb dX5_bestAbove_5 ?_
  refine lv_topi (fun v_5 e_5 => ?_)
  have t_5 := ti_addk tk_64 rfl (by omega) (by omega) e_5
  refine lv_istore_n (lv' := [(3, .int v_5), (2, .int (-1)), (0, .ref (za Z 5)), (1, .int x1)]) hx hb dX5_bestAbove_6 rfl hl (by decide) rfl (fun ls hl => ?_)
  exact L7 _ 8 (-1) v_5 (by first | assumption | omega | decide) (by first | assumption | omega | decide) (by show v_5.toInt.toNat < 2 ^ 8; omega) (by unfold mcS; rw [show v_5.toNatClampNeg = 64 + x1.toNatClampNeg by show v_5.toInt.toNat = 64 + x1.toInt.toNat; omega]) (Nat.lt_succ_self _) ls (lv_sub hl [2, 3, 1, 0] rfl)
set_option maxHeartbeats 4000000 in
set_option maxRecDepth 100000 in
theorem c_X5_empty (l : Launch) (Z : ZT) (hZ : XG Z) (g : Nat → Nat → Int32) (gl : Nat → Nat → Int64) (tf : Nat → Nat → Int32)  (hG : Gd Z tf) : Met l yX5_empty (Cond.code yX5_empty cX5_empty 1 none :: wsL_law) ({ frames := 1, cells := 0, slots := 0, locals := 23 } : Room) (va_Pc [.ref (za Z 5)] (XI Z g gl tf)) (va_Qv (fun (u : (Nat → Nat → Int32) × (Nat → Nat → Int64) × (Nat → Nat → Int32)) => Fr [3, 5, 6, 10] g u.1 ∧ Gd Z u.2.2 ∧ tf = u.2.2 ∧ (u.1 3 1 = 0 ∧ (∀ j : Nat, j < 128 → u.1 6 j = -1) ∧ (∀ j : Nat, j < 64 → u.1 10 j = -1) ∧ u.1 5 5 = 0)) (fun u t => va_P (zD Z) vwCl (xw Z u.1 u.2.1 u.2.2) t.heap) (zA Z)) 0 0 (zA Z) := by
  refine Met.ofW (cc := cX5_empty) (maxL := 1) (ret := none) (by decide) rfl ?_
  intro p e s m args below meth c s₁ B hml hv
  obtain ⟨rfl, hI⟩ := hv
  have hx := B.exec
  have hb := B.bytes
  have hr := B.returns
  have hT : ∀ w ∈ wsL_law, w.before ([.ref (za Z 5)] : List Value).toArray s = true := fun w h => atoms_spec (ws := (Cond.code yX5_empty cX5_empty 1 none :: wsL_law)) B.pre w (List.mem_cons_of_mem _ h)
  have hown : s.vm.findClass RX5 = some m.cls := findClass_of_methodNamed B.named
  have hlocks := B.notSynchronized
  have hK := hI.2.1
  have hP := hI.1
  have hS : va_S (zA Z) s.heap s.heap [] := va_S.rf
  have hF : Fr [3, 5, 6, 10] g g := Fr.rf
  have hl := lv_entry ([.ref (za Z 5)]) (n := 1) (Nat.le_of_ble_eq_true rfl)
  rw [lg_entry_eq]
  generalize (lg_sl ([.ref (za Z 5)]) ++ List.replicate (1 - (lg_sl ([.ref (za Z 5)])).length) Slot.unset).toArray = ls at hl ⊢
  have hl : lv_has ls 1 [(0, .ref (za Z 5))] := hl
  refine lv_aload_n hx hb dX5_empty_0 rfl (lv_at hl 0 rfl) ?_
  refine va_get (D := zD Z) (ci := 5) (v := .ref (za Z 6)) (C := RX5) (T := TX5) (N := 7) hx hb hT inlX5 hown hK hP 5 xw_5 rfl 1 (by decide) (hT _ (tr_3 _ (List.mem_of_getElem? (i := 12) rfl))) (fun _ h9 => h9) rfl dX5_empty_1 ?_
  refine lv_iconst (v := (-1)) hx hb dX5_empty_4 (by decide) ?_
  refine va_callv (va_runS (As := [.ref (za Z 6), .int (-1)]) (rest := []) ⟨hx, hb, hml, hown, hT⟩ (c_J7_fill_53178_6 l Z hZ g gl tf (-1) hG) (va_cwS 2 hT (tb_S (fun _ h => h) (tr_3 _ (List.mem_of_getElem? (i := 18) rfl)) (tr_3 _ (List.mem_of_getElem? (i := 19) rfl)) (tr_3 _ (List.mem_of_getElem? (i := 20) rfl)) (tr_3 _ (List.mem_of_getElem? (i := 21) rfl))) rfl rfl rfl (by decide +kernel) ⟨Nat.le_of_ble_eq_true rfl, Nat.le_of_ble_eq_true rfl⟩) ⟨fun a U f mk q => ⟨q.1, XI.blind f mk a q.2⟩, fun U hU hW => ⟨rfl, hI.at hS hP hU hW⟩⟩ rfl rfl hl.1 rfl (lv_room (Nat.le_of_ble_eq_true rfl)) dX5_empty_5 ⟨Nat.zero_le _, Nat.zero_le _⟩) hS (fun q _ h => h) (fun q h => h) (fun u_5 t_5 H locs ht_5 _ hw_5 hB_5 _ _ hS => ?_)
  obtain ⟨g_5, gl_5, tf_5⟩ := u_5
  have hP : va_P (zD Z) vwCl (xw Z g_5 gl_5 tf_5) H := ht_5 ▸ hB_5
  obtain ⟨hf_5, hG, et_5, hr_5⟩ := hw_5
  have hF := hF.tr hf_5 (by decide)
  (try dsimp only at hf_5 hG hF et_5 hr_5)
  subst et_5
  refine lv_aload_n hx hb dX5_empty_8 rfl (lv_at hl 0 rfl) ?_
  refine va_get (D := zD Z) (ci := 5) (v := .ref (za Z 10)) (C := RX5) (T := TX5) (N := 7) hx hb hT inlX5 hown hK hP 5 xw_5 rfl 6 (by decide) (hT _ (tr_3 _ (List.mem_of_getElem? (i := 16) rfl))) (fun _ h9 => h9) rfl dX5_empty_9 ?_
  refine lv_iconst (v := (-1)) hx hb dX5_empty_12 (by decide) ?_
  refine va_callv (va_runS (As := [.ref (za Z 10), .int (-1)]) (rest := []) ⟨hx, hb, hml, hown, hT⟩ (c_J7_fill_53178_10 l Z hZ g_5 gl_5 tf (-1) hG) (va_cwS 2 hT (tb_S (fun _ h => h) (tr_3 _ (List.mem_of_getElem? (i := 18) rfl)) (tr_3 _ (List.mem_of_getElem? (i := 19) rfl)) (tr_3 _ (List.mem_of_getElem? (i := 20) rfl)) (tr_3 _ (List.mem_of_getElem? (i := 21) rfl))) rfl rfl rfl (by decide +kernel) ⟨Nat.le_of_ble_eq_true rfl, Nat.le_of_ble_eq_true rfl⟩) ⟨fun a U f mk q => ⟨q.1, XI.blind f mk a q.2⟩, fun U hU hW => ⟨rfl, hI.at hS hP hU hW⟩⟩ rfl rfl hl.1 rfl (lv_room (Nat.le_of_ble_eq_true rfl)) dX5_empty_13 ⟨Nat.zero_le _, Nat.zero_le _⟩) hS (fun q _ h => h) (fun q h => h) (fun u_13 t_13 H locs ht_13 _ hw_13 hB_13 _ _ hS => ?_)
  obtain ⟨g_13, gl_13, tf_13⟩ := u_13
  have hP : va_P (zD Z) vwCl (xw Z g_13 gl_13 tf_13) H := ht_13 ▸ hB_13
  obtain ⟨hf_13, hG, et_13, hr_13⟩ := hw_13
  have hF := hF.tr hf_13 (by decide)
  (try dsimp only at hf_13 hG hF et_13 hr_13)
  subst et_13
  refine lv_aload_n hx hb dX5_empty_16 rfl (lv_at hl 0 rfl) ?_
  refine va_get (D := zD Z) (ci := 5) (v := .ref (za Z 3)) (C := RX5) (T := TX5) (N := 7) hx hb hT inlX5 hown hK hP 5 xw_5 rfl 0 (by decide) (hT _ (tr_3 _ (List.mem_of_getElem? (i := 17) rfl))) (fun _ h9 => h9) rfl dX5_empty_17 ?_
  refine lv_iconst (v := 0) hx hb dX5_empty_20 (by decide) ?_
  refine va_put (D := zD Z) (ci := 4) (v := .int 0) (ty := .int) (C := RX4) (T := TX4) (N := 2) hx hb hT inlX4 tyX4 tyX4_ok nmX4 hown hK hP hZ.D hS 3 xw_3 rfl 1 (by decide) (hT _ (tr_13 _ (List.mem_of_getElem? (i := 7) rfl))) (fun _ h9 => h9) rfl (by decide +kernel) rfl rfl (Nat.le_of_ble_eq_true rfl) dX5_empty_21 (fun H locs hP _ hS => ?_)
  replace hP := xf_3_1 hP
  have hF := hF.u2 (i := 3) (k := 1) (v := 0) (by decide)
  refine lv_aload_n hx hb dX5_empty_24 rfl (lv_at hl 0 rfl) ?_
  refine lv_iconst (v := 0) hx hb dX5_empty_25 (by decide) ?_
  refine va_put (D := zD Z) (ci := 5) (v := .int 0) (ty := .int) (C := RX5) (T := TX5) (N := 7) hx hb hT inlX5 tyX5 tyX5_ok nmX5 hown hK hP hZ.D hS 5 xw_5 rfl 5 (by decide) (hT _ (tr_13 _ (List.mem_of_getElem? (i := 8) rfl))) (fun _ h9 => h9) rfl (by decide +kernel) rfl rfl (Nat.le_of_ble_eq_true rfl) dX5_empty_26 (fun H locs hP _ hS => ?_)
  replace hP := xf_5_5 hP
  have hF := hF.u2 (i := 5) (k := 5) (v := 0) (by decide)
  exact W.vret hx hb hr (fun t ht hW => ⟨⟨((up2 (up2 g_13 3 1 0) 5 5 0), gl_13, tf), rfl, ⟨hF, hG, rfl, (by (try dsimp only); first | done | exact ⟨rfl, (fun j hj => by show g_13 6 j = -1; rw [hf_13 6 (by decide)]; exact hr_5 j hj), (fun j hj => hr_13 j hj), rfl⟩)⟩, by show va_P (zD Z) vwCl (xw Z (up2 (up2 g_13 3 1 0) 5 5 0) gl_13 tf) t.heap; rw [ht]; exact hP⟩, hS.F ht⟩) hS.2.2 dX5_empty_29
set_option maxHeartbeats 4000000 in
set_option maxRecDepth 100000 in
theorem c_X5_take (l : Launch) (Z : ZT) (hZ : XG Z) (g : Nat → Nat → Int32) (gl : Nat → Nat → Int64) (tf : Nat → Nat → Int32) (a : Nat) (ha : a ∈ zL Z) (hn : 0 ≤ (g 3 1).toInt ∧ (g 3 1).toInt < 70) (hTx : TX (xr Z tf) (g 3 1).toInt.toNat g) (hG : Gd Z tf) : Met l yX5_take (Cond.code yX5_take cX5_take 7 (some .int) :: wsL_law) ({ frames := 6, cells := 0, slots := 0, locals := 140 } : Room) (va_Pc [.ref (za Z 5), .ref a] (XI Z g gl tf)) (va_Qi (fun (r : Int32) (u : (Nat → Nat → Int32) × (Nat → Nat → Int64) × (Nat → Nat → Int32)) => Fr [3, 5, 6, 7, 8, 9, 10] g u.1 ∧ Gd Z u.2.2 ∧ (wrT tf (ro Z (g 3 1).toInt.toNat) (tf a 0) (tf a 1) (tf a 2) (tf a 3) (tf a 4)) = u.2.2 ∧ (u.1 3 1 = g 3 1 + 1 ∧ TX (xr Z u.2.2) ((g 3 1).toInt.toNat + 1) u.1 ∧ r.toInt = (ofc (xr Z u.2.2) (TR (xr Z u.2.2) (g 3 1).toInt.toNat) (cns (xr Z u.2.2) (g 3 1).toInt.toNat) (g 3 1) : Int))) (fun u t => va_P (zD Z) vwCl (xw Z u.1 u.2.1 u.2.2) t.heap) (zA Z)) 0 0 (zA Z) := by
  refine Met.ofW (cc := cX5_take) (maxL := 7) (ret := (some .int)) (by decide) rfl ?_
  intro p e s m args below meth c s₁ B hml hv
  obtain ⟨rfl, hI⟩ := hv
  have hx := B.exec
  have hb := B.bytes
  have hr := B.returns
  have hT : ∀ w ∈ wsL_law, w.before ([.ref (za Z 5), .ref a] : List Value).toArray s = true := fun w h => atoms_spec (ws := (Cond.code yX5_take cX5_take 7 (some .int) :: wsL_law)) B.pre w (List.mem_cons_of_mem _ h)
  have hown : s.vm.findClass RX5 = some m.cls := findClass_of_methodNamed B.named
  have hlocks := B.notSynchronized
  have hK := hI.2.1
  have hP := hI.1
  have hS : va_S (zA Z) s.heap s.heap [] := va_S.rf
  have hF : Fr [3, 5, 6, 7, 8, 9, 10] g g := Fr.rf
  have hn70 := hn
  have ga := hG a ha
  have hG1 : Gd Z (wrT tf (ro Z (g 3 1).toInt.toNat) (tf a 0) (tf a 1) (tf a 2) (tf a 3) (tf a 4)) := ((((hG.u (by decide) (by decide)).u (by decide) (by decide)).u (by decide) (by decide)).u3 ga.1).u4 ga.2
  have ha3 : (wrT tf (ro Z (g 3 1).toInt.toNat) (tf a 0) (tf a 1) (tf a 2) (tf a 3) (tf a 4)) a 3 = tf a 3 := wrT_self 3 (by decide)
  have ha4 : (wrT tf (ro Z (g 3 1).toInt.toNat) (tf a 0) (tf a 1) (tf a 2) (tf a 3) (tf a 4)) a 4 = tf a 4 := wrT_self 4 (by decide)
  have ha4i := congrArg Int32.toInt ha4
  have ha3i := congrArg Int32.toInt ha3
  have r3 : (xr Z (wrT tf (ro Z (g 3 1).toInt.toNat) (tf a 0) (tf a 1) (tf a 2) (tf a 3) (tf a 4))) 4 (g 3 1).toInt.toNat = tf a 3 := wrT_3
  have r4 : (xr Z (wrT tf (ro Z (g 3 1).toInt.toNat) (tf a 0) (tf a 1) (tf a 2) (tf a 3) (tf a 4))) 5 (g 3 1).toInt.toNat = tf a 4 := wrT_4
  have hT1 : TX (xr Z (wrT tf (ro Z (g 3 1).toInt.toNat) (tf a 0) (tf a 1) (tf a 2) (tf a 3) (tf a 4))) (g 3 1).toInt.toNat g := TX_cr (by omega) (xr_Rw hZ (fun t ht => wrT_ne (hZ.ri (by omega) (by omega) (by omega)))) hTx
  have hc0 := hTx.c0
  have cs0 : cns (xr Z (wrT tf (ro Z (g 3 1).toInt.toNat) (tf a 0) (tf a 1) (tf a 2) (tf a 3) (tf a 4))) (g 3 1).toInt.toNat = (cnl 64 (tf a 3).toInt.toNat (tf a 4).toInt.toNat) := by have q := cns_nn (R := (xr Z (wrT tf (ro Z (g 3 1).toInt.toNat) (tf a 0) (tf a 1) (tf a 2) (tf a 3) (tf a 4)))) (n := (g 3 1).toInt.toNat) (by rw [r3]; omega) (by rw [r4]; omega); rw [r3, r4] at q; exact q
  have ch0 : (tf a 4).toInt.toNat < (tf a 3).toInt.toNat ∨ chn (tf a 3).toInt.toNat (tf a 4).toInt.toNat (cnl 64 (tf a 3).toInt.toNat (tf a 4).toInt.toNat) := by rcases Nat.lt_or_ge (tf a 4).toInt.toNat (tf a 3).toInt.toNat with y | y; exact Or.inl y; exact Or.inr (cn_all y (by omega)).2.1
  have hl := lv_entry ([.ref (za Z 5), .ref a]) (n := 7) (Nat.le_of_ble_eq_true rfl)
  rw [lg_entry_eq]
  generalize (lg_sl ([.ref (za Z 5), .ref a]) ++ List.replicate (7 - (lg_sl ([.ref (za Z 5), .ref a])).length) Slot.unset).toArray = ls at hl ⊢
  have hl : lv_has ls 7 [(0, .ref (za Z 5)), (1, .ref a)] := hl
  have L52 : ∀ (n : Nat) (z2 : Int32) (z3 : Int32) (z4 : Int32) (z5 : Int32) (g1 : Nat → Nat → Int32) (gl1 : Nat → Nat → Int64) (H : Heap) (locs : List Loc) (hP : va_P (zD Z) vwCl (xw Z g1 gl1 (wrT tf (ro Z (g 3 1).toInt.toNat) (tf a 0) (tf a 1) (tf a 2) (tf a 3) (tf a 4))) H) (hF : Fr [3, 5, 6, 7, 8, 9, 10] g g1) (hG : Gd Z (wrT tf (ro Z (g 3 1).toInt.toNat) (tf a 0) (tf a 1) (tf a 2) (tf a 3) (tf a 4))) (hS : va_S (zA Z) s.heap H locs) (h5 : 0 ≤ z5.toInt ∧ z5.toInt ≤ 64) (h4 : 0 ≤ z4.toInt ∧ z4.toInt ≤ 64) (h2 : z2 = g 3 1) (h3 : z3 = g 5 5) (h31 : g1 3 1 = g 3 1 + 1) (h9 : g1 9 = upd (g 9) (g 3 1).toInt.toNat (g 5 5)) (h10 : g1 10 = g 10) (hbd : bdS 70 (g1 6)) (hc1 : 0 ≤ (g1 5 5).toInt ∧ (g1 5 5).toInt + (hgs (cnl (64 - z5.toInt).toNat z4.toInt.toNat (tf a 4).toInt.toNat) : Int) ≤ 2100) (hch : (tf a 4).toInt.toNat < z4.toInt.toNat ∨ chn z4.toInt.toNat (tf a 4).toInt.toNat (cnl (64 - z5.toInt).toNat z4.toInt.toNat (tf a 4).toInt.toNat)) (hO : ∀ g2, OE (xr Z (wrT tf (ro Z (g 3 1).toInt.toNat) (tf a 0) (tf a 1) (tf a 2) (tf a 3) (tf a 4))) g1 g2 (cnl (64 - z5.toInt).toNat z4.toInt.toNat (tf a 4).toInt.toNat) (g 3 1) → OE (xr Z (wrT tf (ro Z (g 3 1).toInt.toNat) (tf a 0) (tf a 1) (tf a 2) (tf a 3) (tf a 4))) g g2 (cnl 64 (tf a 3).toInt.toNat (tf a 4).toInt.toNat) (g 3 1)) (hn : (64 - z5.toInt).toNat < n) (ls : Array Slot) (hl : lv_has ls 7 [(0, .ref (za Z 5)), (1, .ref a), (2, .int z2), (3, .int z3), (4, .int z4), (5, .int z5)]), W p l e ({ frames := 6, cells := 0, slots := 0, locals := 140 } : Room) s m ([.ref (za Z 5), .ref a] : List Value).toArray below meth c H locs 0 0 (MQ below (va_Qi (fun (r : Int32) (u : (Nat → Nat → Int32) × (Nat → Nat → Int64) × (Nat → Nat → Int32)) => Fr [3, 5, 6, 7, 8, 9, 10] g u.1 ∧ Gd Z u.2.2 ∧ (wrT tf (ro Z (g 3 1).toInt.toNat) (tf a 0) (tf a 1) (tf a 2) (tf a 3) (tf a 4)) = u.2.2 ∧ (u.1 3 1 = g 3 1 + 1 ∧ TX (xr Z u.2.2) ((g 3 1).toInt.toNat + 1) u.1 ∧ r.toInt = (ofc (xr Z u.2.2) (TR (xr Z u.2.2) (g 3 1).toInt.toNat) (cns (xr Z u.2.2) (g 3 1).toInt.toNat) (g 3 1) : Int))) (fun u t => va_P (zD Z) vwCl (xw Z u.1 u.2.1 u.2.2) t.heap) (zA Z)) ([.ref (za Z 5), .ref a] : List Value).toArray s 0 0 (zA Z)) (F0 m 52 ls []) := by
    intro n
    induction n with
    | zero => intro z2 z3 z4 z5 g1 gl1 H locs hP hF hG hS h5 h4 h2 h3 h31 h9 h10 hbd hc1 hch hO hn; exact absurd hn (Nat.not_lt_zero _)
    | succ n ih52 =>
      intro z2 z3 z4 z5 g1 gl1 H locs hP hF hG hS h5 h4 h2 h3 h31 h9 h10 hbd hc1 hch hO hn ls hl
      have h2i := congrArg Int32.toInt h2
      refine lv_iload hx hb dX5_take_52 (lv_at hl 5 rfl) ?_
      refine lv_bipush (v := 64) hx hb dX5_take_54 (by decide) ?_
      refine lv_icmp_ge (tgt := 101) hx hb dX5_take_56 (by decide) (fun c_56 => ?_) (fun c_56 => ?_)
      · skip
        have i_56 := ti_lek tk_64 rfl c_56
        have hO1 := hO g1 (by rw [cnl_e (by omega)]; exact OE.rf)
        refine lv_aload_n hx hb dX5_take_101 rfl (lv_at hl 0 rfl) ?_
        refine lv_iload_n hx hb dX5_take_102 rfl (lv_at hl 2 rfl) ?_
        refine lv_aload_n hx hb dX5_take_103 rfl (lv_at hl 1 rfl) ?_
        refine va_callv (va_runV (As := [.int z2, .ref a]) (rest := []) ⟨hx, hb, hml, hown, hT⟩ (c_X5_lowerBy l Z hZ g1 gl1 (wrT tf (ro Z (g 3 1).toInt.toNat) (tf a 0) (tf a 1) (tf a 2) (tf a 3) (tf a 4)) z2 a ha (by omega) (by rw [h2]; exact ⟨ha3.trans r3.symm, ha4.trans r4.symm⟩) (by rw [h2, h10]; exact hT1.2.1) hG) (cwV 2 hT (tb_V (fun _ h => h) (tr_17 _ (List.mem_of_getElem? (i := 2) rfl)) (tr_17 _ (List.mem_of_getElem? (i := 3) rfl)) (tr_17 _ (List.mem_of_getElem? (i := 4) rfl)) (tr_1 _ (List.mem_of_getElem? (i := 22) rfl)) (tr_17 _ (List.mem_of_getElem? (i := 5) rfl))) rfl rfl rfl (by decide +kernel) ⟨Nat.le_of_ble_eq_true rfl, Nat.le_of_ble_eq_true rfl⟩) ⟨fun a U f mk q => ⟨q.1, XI.blind f mk a q.2⟩, va_recv hK hP (ci := 5) (q0 := 5) rfl xw_5, fun U hU hW => ⟨rfl, hI.at hS hP hU hW⟩⟩ rfl rfl hl.1 rfl (lv_room (Nat.le_of_ble_eq_true rfl)) dX5_take_104 ⟨Nat.zero_le _, Nat.zero_le _⟩) hS (fun q _ h => h) (fun q h => h) (fun u_104 t_104 H locs ht_104 _ hw_104 hB_104 _ _ hS => ?_)
        obtain ⟨g_104, gl_104, tf_104⟩ := u_104
        have hP : va_P (zD Z) vwCl (xw Z g_104 gl_104 tf_104) H := ht_104 ▸ hB_104
        obtain ⟨hf_104, hG, et_104, hr_104⟩ := hw_104
        have hF := hF.tr hf_104 (by decide)
        (try dsimp only at hf_104 hG hF et_104 hr_104)
        subst et_104
        have e5i : (g_104 5 5).toInt = (g1 5 5).toInt := by rw [hf_104 5 (by decide)]
        have h3i := congrArg Int32.toInt h3
        have o2 := hO1.2.1
        have oq := ofc_hg (xr Z (wrT tf (ro Z (g 3 1).toInt.toNat) (tf a 0) (tf a 1) (tf a 2) (tf a 3) (tf a 4))) (cnl 64 (tf a 3).toInt.toNat (tf a 4).toInt.toNat) (g 6) (g 3 1)
        have hq30 := hg_30 (xr_4 hZ hG1) (xr_5 hZ hG1) (g 3 1).toInt.toNat
        rw [cs0] at hq30
        refine lv_aload_n hx hb dX5_take_107 rfl (lv_at hl 0 rfl) ?_
        refine va_get (D := zD Z) (ci := 5) (v := .int (g_104 5 5)) (C := RX5) (T := TX5) (N := 7) hx hb hT inlX5 hown hK hP 5 xw_5 rfl 5 (by decide) (hT _ (tr_13 _ (List.mem_of_getElem? (i := 8) rfl))) (fun _ h9 => h9) rfl dX5_take_108 ?_
        refine lv_iload_n hx hb dX5_take_111 rfl (lv_at hl 3 rfl) ?_
        refine lv_isub hx hb dX5_take_112 ?_
        refine lv_topi (fun v_112 e_112 => ?_)
        have t_112 := ti_subk rfl rfl (by omega) (by omega) e_112
        exact W.iret (v := v_112) hx hb hr (fun t ht hW => ⟨⟨v_112, (g_104, gl_104, (wrT tf (ro Z (g 3 1).toInt.toNat) (tf a 0) (tf a 1) (tf a 2) (tf a 3) (tf a 4))), rfl, ⟨hF, hG, rfl, (by (try dsimp only); first | done | exact ⟨(congrFun (hf_104 3 (by decide)) 1).trans h31, TX_take (g1 := g1) (x := g 3 1) (xr_4 hZ hG1) (xr_5 hZ hG1) (by omega) (nI_ek (by omega)) hT1 (by rw [cs0]; exact hO1) (congrFun (hf_104 5 (by decide)) 5) (hf_104 6 (by decide)) (hf_104 7 (by decide)) (hf_104 8 (by decide)) ((hf_104 9 (by decide)).trans h9) (by rw [h2] at hr_104; exact hr_104), by rw [t_112, cs0, ← (ofr_cs (xr Z (wrT tf (ro Z (g 3 1).toInt.toNat) (tf a 0) (tf a 1) (tf a 2) (tf a 3) (tf a 4))) (cnl 64 (tf a 3).toInt.toNat (tf a 4).toInt.toNat) _ _ (g 3 1) hT1.1).2]; omega⟩)⟩, by show va_P (zD Z) vwCl (xw Z g_104 gl_104 (wrT tf (ro Z (g 3 1).toInt.toNat) (tf a 0) (tf a 1) (tf a 2) (tf a 3) (tf a 4))) t.heap; rw [ht]; exact hP⟩, hS.F ht⟩) hS.2.2 dX5_take_113
      · skip
        have i_56 := ti_nlek tk_64 rfl c_56
        refine lv_iload hx hb dX5_take_59 (lv_at hl 4 rfl) ?_
        refine lv_aload_n hx hb dX5_take_61 rfl (lv_at hl 1 rfl) ?_
        obtain ⟨k_62, hk_62⟩ := xt_at (g := g1) (gl := gl1) (tf := (wrT tf (ro Z (g 3 1).toInt.toNat) (tf a 0) (tf a 1) (tf a 2) (tf a 3) (tf a 4))) ha
        refine va_get (D := zD Z) (ci := 3) (v := .int ((wrT tf (ro Z (g 3 1).toInt.toNat) (tf a 0) (tf a 1) (tf a 2) (tf a 3) (tf a 4)) a 4)) (C := RX3) (T := TX3) (N := 5) hx hb hT inlX3 hown hK hP k_62 hk_62 rfl 4 (by decide) (hT _ (tr_14 _ (List.mem_of_getElem? (i := 7) rfl))) (fun _ h9 => h9) rfl dX5_take_62 ?_
        refine lv_icmp_gt (tgt := 101) hx hb dX5_take_65 (by decide) (fun c_65 => ?_) (fun c_65 => ?_)
        · skip
          have i_65 := ti_ltk rfl rfl c_65
          have hO1 := hO g1 (by rw [cnl_e (by omega)]; exact OE.rf)
          refine lv_aload_n hx hb dX5_take_101 rfl (lv_at hl 0 rfl) ?_
          refine lv_iload_n hx hb dX5_take_102 rfl (lv_at hl 2 rfl) ?_
          refine lv_aload_n hx hb dX5_take_103 rfl (lv_at hl 1 rfl) ?_
          refine va_callv (va_runV (As := [.int z2, .ref a]) (rest := []) ⟨hx, hb, hml, hown, hT⟩ (c_X5_lowerBy l Z hZ g1 gl1 (wrT tf (ro Z (g 3 1).toInt.toNat) (tf a 0) (tf a 1) (tf a 2) (tf a 3) (tf a 4)) z2 a ha (by omega) (by rw [h2]; exact ⟨ha3.trans r3.symm, ha4.trans r4.symm⟩) (by rw [h2, h10]; exact hT1.2.1) hG) (cwV 2 hT (tb_V (fun _ h => h) (tr_17 _ (List.mem_of_getElem? (i := 2) rfl)) (tr_17 _ (List.mem_of_getElem? (i := 3) rfl)) (tr_17 _ (List.mem_of_getElem? (i := 4) rfl)) (tr_1 _ (List.mem_of_getElem? (i := 22) rfl)) (tr_17 _ (List.mem_of_getElem? (i := 5) rfl))) rfl rfl rfl (by decide +kernel) ⟨Nat.le_of_ble_eq_true rfl, Nat.le_of_ble_eq_true rfl⟩) ⟨fun a U f mk q => ⟨q.1, XI.blind f mk a q.2⟩, va_recv hK hP (ci := 5) (q0 := 5) rfl xw_5, fun U hU hW => ⟨rfl, hI.at hS hP hU hW⟩⟩ rfl rfl hl.1 rfl (lv_room (Nat.le_of_ble_eq_true rfl)) dX5_take_104 ⟨Nat.zero_le _, Nat.zero_le _⟩) hS (fun q _ h => h) (fun q h => h) (fun u_104 t_104 H locs ht_104 _ hw_104 hB_104 _ _ hS => ?_)
          obtain ⟨g_104, gl_104, tf_104⟩ := u_104
          have hP : va_P (zD Z) vwCl (xw Z g_104 gl_104 tf_104) H := ht_104 ▸ hB_104
          obtain ⟨hf_104, hG, et_104, hr_104⟩ := hw_104
          have hF := hF.tr hf_104 (by decide)
          (try dsimp only at hf_104 hG hF et_104 hr_104)
          subst et_104
          have e5i : (g_104 5 5).toInt = (g1 5 5).toInt := by rw [hf_104 5 (by decide)]
          have h3i := congrArg Int32.toInt h3
          have o2 := hO1.2.1
          have oq := ofc_hg (xr Z (wrT tf (ro Z (g 3 1).toInt.toNat) (tf a 0) (tf a 1) (tf a 2) (tf a 3) (tf a 4))) (cnl 64 (tf a 3).toInt.toNat (tf a 4).toInt.toNat) (g 6) (g 3 1)
          have hq30 := hg_30 (xr_4 hZ hG1) (xr_5 hZ hG1) (g 3 1).toInt.toNat
          rw [cs0] at hq30
          refine lv_aload_n hx hb dX5_take_107 rfl (lv_at hl 0 rfl) ?_
          refine va_get (D := zD Z) (ci := 5) (v := .int (g_104 5 5)) (C := RX5) (T := TX5) (N := 7) hx hb hT inlX5 hown hK hP 5 xw_5 rfl 5 (by decide) (hT _ (tr_13 _ (List.mem_of_getElem? (i := 8) rfl))) (fun _ h9 => h9) rfl dX5_take_108 ?_
          refine lv_iload_n hx hb dX5_take_111 rfl (lv_at hl 3 rfl) ?_
          refine lv_isub hx hb dX5_take_112 ?_
          refine lv_topi (fun v_112 e_112 => ?_)
          have t_112 := ti_subk rfl rfl (by omega) (by omega) e_112
          exact W.iret (v := v_112) hx hb hr (fun t ht hW => ⟨⟨v_112, (g_104, gl_104, (wrT tf (ro Z (g 3 1).toInt.toNat) (tf a 0) (tf a 1) (tf a 2) (tf a 3) (tf a 4))), rfl, ⟨hF, hG, rfl, (by (try dsimp only); first | done | exact ⟨(congrFun (hf_104 3 (by decide)) 1).trans h31, TX_take (g1 := g1) (x := g 3 1) (xr_4 hZ hG1) (xr_5 hZ hG1) (by omega) (nI_ek (by omega)) hT1 (by rw [cs0]; exact hO1) (congrFun (hf_104 5 (by decide)) 5) (hf_104 6 (by decide)) (hf_104 7 (by decide)) (hf_104 8 (by decide)) ((hf_104 9 (by decide)).trans h9) (by rw [h2] at hr_104; exact hr_104), by rw [t_112, cs0, ← (ofr_cs (xr Z (wrT tf (ro Z (g 3 1).toInt.toNat) (tf a 0) (tf a 1) (tf a 2) (tf a 3) (tf a 4))) (cnl 64 (tf a 3).toInt.toNat (tf a 4).toInt.toNat) _ _ (g 3 1) hT1.1).2]; omega⟩)⟩, by show va_P (zD Z) vwCl (xw Z g_104 gl_104 (wrT tf (ro Z (g 3 1).toInt.toNat) (tf a 0) (tf a 1) (tf a 2) (tf a 3) (tf a 4))) t.heap; rw [ht]; exact hP⟩, hS.F ht⟩) hS.2.2 dX5_take_113
        · skip
          have i_65 := ti_nltk rfl rfl c_65
          obtain ⟨k, hk⟩ : ∃ k, (64 - z5.toInt).toNat = k + 1 := ⟨(63 - z5.toInt).toNat, by omega⟩
          rw [hk] at hc1 hch hO
          have cv := cnl_c (k := k) (q := z4.toInt.toNat) (l := (tf a 4).toInt.toNat) (by omega)
          have ch : chn z4.toInt.toNat (tf a 4).toInt.toNat ((wdn 6 (64 + z4.toInt.toNat) (tf a 4).toInt.toNat) :: cnl k (laN (wdn 6 (64 + z4.toInt.toNat) (tf a 4).toInt.toNat) + 1) (tf a 4).toInt.toNat) := by rcases hch with y | y; (exfalso; omega); rw [← cv]; exact y
          have ch1 : 1 ≤ (wdn 6 (64 + z4.toInt.toNat) (tf a 4).toInt.toNat) ∧ (wdn 6 (64 + z4.toInt.toNat) (tf a 4).toInt.toNat) ≤ 127 := ch.1
          have ch2 : fiN (wdn 6 (64 + z4.toInt.toNat) (tf a 4).toInt.toNat) = z4.toInt.toNat := ch.2.1
          have ch3 : laN (wdn 6 (64 + z4.toInt.toNat) (tf a 4).toInt.toNat) ≤ (tf a 4).toInt.toNat := ch.2.2.1
          have nv := nd_le ch.1.1 ch.1.2
          refine lv_iload hx hb dX5_take_68 (lv_at hl 4 rfl) ?_
          refine lv_aload_n hx hb dX5_take_70 rfl (lv_at hl 1 rfl) ?_
          obtain ⟨k_71, hk_71⟩ := xt_at (g := g1) (gl := gl1) (tf := (wrT tf (ro Z (g 3 1).toInt.toNat) (tf a 0) (tf a 1) (tf a 2) (tf a 3) (tf a 4))) ha
          refine va_get (D := zD Z) (ci := 3) (v := .int ((wrT tf (ro Z (g 3 1).toInt.toNat) (tf a 0) (tf a 1) (tf a 2) (tf a 3) (tf a 4)) a 4)) (C := RX3) (T := TX3) (N := 5) hx hb hT inlX3 hown hK hP k_71 hk_71 rfl 4 (by decide) (hT _ (tr_14 _ (List.mem_of_getElem? (i := 7) rfl))) (fun _ h9 => h9) rfl dX5_take_71 ?_
          refine rd_ci (va_runS (As := [.int z4, .int ((wrT tf (ro Z (g 3 1).toInt.toNat) (tf a 0) (tf a 1) (tf a 2) (tf a 3) (tf a 4)) a 4)]) (rest := []) ⟨hx, hb, hml, hown, hT⟩ (c_X5_widestNode l z4 ((wrT tf (ro Z (g 3 1).toInt.toNat) (tf a 0) (tf a 1) (tf a 2) (tf a 3) (tf a 4)) a 4) (by omega) (by omega)) (va_cwS 2 hT (tb_S (fun _ h => h) (tr_14 _ (List.mem_of_getElem? (i := 22) rfl)) (tr_14 _ (List.mem_of_getElem? (i := 23) rfl)) (tr_1 _ (List.mem_of_getElem? (i := 22) rfl)) (tr_15 _ (List.mem_of_getElem? (i := 0) rfl))) rfl rfl rfl (by decide +kernel) ⟨Nat.le_of_ble_eq_true rfl, Nat.le_of_ble_eq_true rfl⟩) ⟨fun _ _ _ _ q => q, fun U hU hW => ⟨rfl, trivial⟩⟩ rfl rfl hl.1 rfl (lv_room (Nat.le_of_ble_eq_true rfl)) dX5_take_74 ⟨Nat.zero_le _, Nat.zero_le _⟩) (fun r_74 hr_74 => ?_)
          rw [ha4] at hr_74
          have q74 : r_74.toInt.toNat = (wdn 6 (64 + z4.toInt.toNat) (tf a 4).toInt.toNat) := by omega
          refine lv_istore (lv' := [(6, .int r_74), (0, .ref (za Z 5)), (1, .ref a), (2, .int z2), (3, .int z3), (4, .int z4), (5, .int z5)]) hx hb dX5_take_77 hl (by decide) rfl (fun ls hl => ?_)
          refine lv_aload_n hx hb dX5_take_79 rfl (lv_at hl 1 rfl) ?_
          refine lv_iload_n hx hb dX5_take_80 rfl (lv_at hl 3 rfl) ?_
          refine lv_iload hx hb dX5_take_81 (lv_at hl 0 rfl) ?_
          refine va_callv (va_runV (As := [.int z2, .int r_74]) (rest := []) ⟨hx, hb, hml, hown, hT⟩ (c_X5_push l Z hZ g1 gl1 (wrT tf (ro Z (g 3 1).toInt.toNat) (tf a 0) (tf a 1) (tf a 2) (tf a 3) (tf a 4)) z2 r_74 (by omega) (by omega) (by rw [q74]; rw [cv, hgs] at hc1; omega) hbd hG) (cwV 2 hT (tb_V (fun _ h => h) (tr_15 _ (List.mem_of_getElem? (i := 10) rfl)) (tr_15 _ (List.mem_of_getElem? (i := 11) rfl)) (tr_15 _ (List.mem_of_getElem? (i := 12) rfl)) (tr_1 _ (List.mem_of_getElem? (i := 22) rfl)) (tr_15 _ (List.mem_of_getElem? (i := 13) rfl))) rfl rfl rfl (by decide +kernel) ⟨Nat.le_of_ble_eq_true rfl, Nat.le_of_ble_eq_true rfl⟩) ⟨fun a U f mk q => ⟨q.1, XI.blind f mk a q.2⟩, va_recv hK hP (ci := 5) (q0 := 5) rfl xw_5, fun U hU hW => ⟨rfl, hI.at hS hP hU hW⟩⟩ rfl rfl hl.1 rfl (lv_room (Nat.le_of_ble_eq_true rfl)) dX5_take_83 ⟨Nat.zero_le _, Nat.zero_le _⟩) hS (fun q _ h => h) (fun q h => h) (fun u_83 t_83 H locs ht_83 _ hw_83 hB_83 _ _ hS => ?_)
          obtain ⟨g_83, gl_83, tf_83⟩ := u_83
          have hP : va_P (zD Z) vwCl (xw Z g_83 gl_83 tf_83) H := ht_83 ▸ hB_83
          obtain ⟨hf_83, hG, et_83, hr_83⟩ := hw_83
          have hF := hF.tr hf_83 (by decide)
          (try dsimp only at hf_83 hG hF et_83 hr_83)
          subst et_83
          rw [h2, q74] at hr_83
          refine lv_iload hx hb dX5_take_86 (lv_at hl 0 rfl) ?_
          refine rd_ci (va_runS (As := [.int r_74]) (rest := []) ⟨hx, hb, hml, hown, hT⟩ (c_X5_lastOf l r_74 (by omega)) (va_cwS 1 hT (tb_S (fun _ h => h) (tr_15 _ (List.mem_of_getElem? (i := 1) rfl)) (tr_15 _ (List.mem_of_getElem? (i := 2) rfl)) (tr_1 _ (List.mem_of_getElem? (i := 22) rfl)) (tr_15 _ (List.mem_of_getElem? (i := 3) rfl))) rfl rfl rfl (by decide +kernel) ⟨Nat.le_of_ble_eq_true rfl, Nat.le_of_ble_eq_true rfl⟩) ⟨fun _ _ _ _ q => q, fun U hU hW => ⟨rfl, trivial⟩⟩ rfl rfl hl.1 rfl (lv_room (Nat.le_of_ble_eq_true rfl)) dX5_take_88 ⟨Nat.zero_le _, Nat.zero_le _⟩) (fun r_88 hr_88 => ?_)
          rw [hr_74, lasP_N ch.1.1 ch.1.2] at hr_88
          refine lv_iconst (v := 1) hx hb dX5_take_91 (by decide) ?_
          refine lv_iadd hx hb dX5_take_92 ?_
          refine lv_topi (fun v_92 e_92 => ?_)
          have t_92 := ti_addk rfl tk_1 (by omega) (by omega) e_92
          refine lv_istore (lv' := [(4, .int v_92), (6, .int r_74), (0, .ref (za Z 5)), (1, .ref a), (2, .int z2), (3, .int z3), (5, .int z5)]) hx hb dX5_take_93 hl (by decide) rfl (fun ls hl => ?_)
          obtain ⟨v_95, e_95⟩ : ∃ y : Int32, y = z5 + 1 := ⟨_, rfl⟩
          refine lv_iinc (v := v_95) (lv' := [(5, .int v_95), (4, .int v_92), (6, .int r_74), (0, .ref (za Z 5)), (1, .ref a), (2, .int z2), (3, .int z3)]) hx hb dX5_take_95 hl (k := 6) rfl (by rw [e_95]; rfl) (by decide) rfl (fun ls hl => ?_)
          have t_95 := ti_addk rfl tk_1 (by omega) (by omega) e_95
          refine lv_goto (tgt := 52) hx hb dX5_take_98 (by decide) ?_
          have e95 : (64 - v_95.toInt).toNat = k := by omega
          have e92 : v_92.toInt.toNat = laN (wdn 6 (64 + z4.toInt.toNat) (tf a 4).toInt.toNat) + 1 := by omega
          exact ih52 z2 z3 v_92 v_95 g_83 gl_83 _ _ hP hF hG hS (by omega) (by omega) h2 h3 ((congrFun (hf_83 3 (by decide)) 1).trans h31) ((hf_83 9 (by decide)).trans h9) ((hf_83 10 (by decide)).trans h10) (by rw [hr_83.1]; exact psh_bd 7 _ _ _ hbd (by omega)) (by have q := hr_83.2.1; have q2 := pcn_hg (xr Z (wrT tf (ro Z (g 3 1).toInt.toNat) (tf a 0) (tf a 1) (tf a 2) (tf a 3) (tf a 4))) 7 (g1 6) (wdn 6 (64 + z4.toInt.toNat) (tf a 4).toInt.toNat) (g 3 1); rw [cv, hgs] at hc1; rw [e95, e92]; omega) (by rw [e95, e92]; exact Or.inr ch.2.2.2) (fun g2 h => hO g2 (by rw [cv]; exact OE.cons hc1.1 hr_83 (by rw [e95, e92] at h; exact h))) (by omega) ls (lv_sub hl [3, 4, 5, 6, 1, 0] rfl)
  refine lv_aload_n hx hb dX5_take_0 rfl (lv_at hl 0 rfl) ?_
  refine va_get (D := zD Z) (ci := 5) (v := .ref (za Z 3)) (C := RX5) (T := TX5) (N := 7) hx hb hT inlX5 hown hK hP 5 xw_5 rfl 0 (by decide) (hT _ (tr_3 _ (List.mem_of_getElem? (i := 17) rfl))) (fun _ h9 => h9) rfl dX5_take_1 ?_
  refine va_get (D := zD Z) (ci := 4) (v := .int (g 3 1)) (C := RX4) (T := TX4) (N := 2) hx hb hT inlX4 hown hK hP 3 xw_3 rfl 1 (by decide) (hT _ (tr_13 _ (List.mem_of_getElem? (i := 7) rfl))) (fun _ h9 => h9) rfl dX5_take_4 ?_
  refine lv_istore_n (lv' := [(2, .int (g 3 1)), (0, .ref (za Z 5)), (1, .ref a)]) hx hb dX5_take_7 rfl hl (by decide) rfl (fun ls hl => ?_)
  refine lv_iload_n hx hb dX5_take_8 rfl (lv_at hl 0 rfl) ?_
  refine lv_if_lt (tgt := 21) hx hb dX5_take_9 (by decide) (fun c_9 => ?_) (fun c_9 => ?_)
  · skip
    have i_9 := ti_ltk rfl tk_0 c_9
    exfalso
    omega
  · skip
    have i_9 := ti_nltk rfl tk_0 c_9
    refine lv_iload_n hx hb dX5_take_12 rfl (lv_at hl 0 rfl) ?_
    refine lv_aload_n hx hb dX5_take_13 rfl (lv_at hl 1 rfl) ?_
    refine va_get (D := zD Z) (ci := 5) (v := .ref (za Z 9)) (C := RX5) (T := TX5) (N := 7) hx hb hT inlX5 hown hK hP 5 xw_5 rfl 4 (by decide) (hT _ (tr_3 _ (List.mem_of_getElem? (i := 15) rfl))) (fun _ h9 => h9) rfl dX5_take_14 ?_
    refine va_alen hx hb hK hP 9 1 xw_9 rfl (v := 70) rfl dX5_take_17 ?_
    refine lv_icmp_lt (tgt := 23) hx hb dX5_take_18 (by decide) (fun c_18 => ?_) (fun c_18 => ?_)
    · skip
      have i_18 := ti_ltk rfl tk_70 c_18
      refine lv_aload_n hx hb dX5_take_23 rfl (lv_at hl 1 rfl) ?_
      refine va_get (D := zD Z) (ci := 5) (v := .int (g 5 5)) (C := RX5) (T := TX5) (N := 7) hx hb hT inlX5 hown hK hP 5 xw_5 rfl 5 (by decide) (hT _ (tr_13 _ (List.mem_of_getElem? (i := 8) rfl))) (fun _ h9 => h9) rfl dX5_take_24 ?_
      refine lv_istore_n (lv' := [(3, .int (g 5 5)), (2, .int (g 3 1)), (0, .ref (za Z 5)), (1, .ref a)]) hx hb dX5_take_27 rfl hl (by decide) rfl (fun ls hl => ?_)
      refine lv_aload_n hx hb dX5_take_28 rfl (lv_at hl 2 rfl) ?_
      refine va_get (D := zD Z) (ci := 5) (v := .ref (za Z 9)) (C := RX5) (T := TX5) (N := 7) hx hb hT inlX5 hown hK hP 5 xw_5 rfl 4 (by decide) (hT _ (tr_3 _ (List.mem_of_getElem? (i := 15) rfl))) (fun _ h9 => h9) rfl dX5_take_29 ?_
      refine lv_iload_n hx hb dX5_take_32 rfl (lv_at hl 1 rfl) ?_
      refine lv_iload_n hx hb dX5_take_33 rfl (lv_at hl 0 rfl) ?_
      have h_34 : vp_in (g 3 1) 70 := (ti_vp (by omega) (by omega))
      refine va_iast hx hb hK hP hZ.D hS 9 1 xw_9 rfl h_34 dX5_take_34 (fun H locs hP _ hS => ?_)
      replace hP := xs_9 hP
      have hF := hF.uR (i := 9) (r := upd (g 9) (g 3 1).toNatClampNeg (g 5 5)) (by decide)
      refine lv_aload_n hx hb dX5_take_35 rfl (lv_at hl 2 rfl) ?_
      refine va_get (D := zD Z) (ci := 5) (v := .ref (za Z 3)) (C := RX5) (T := TX5) (N := 7) hx hb hT inlX5 hown hK hP 5 xw_5 rfl 0 (by decide) (hT _ (tr_3 _ (List.mem_of_getElem? (i := 17) rfl))) (fun _ h9 => h9) rfl dX5_take_36 ?_
      refine lv_aload_n hx hb dX5_take_39 rfl (lv_at hl 3 rfl) ?_
      refine va_callv (va_runV (As := [.ref a]) (rest := []) ⟨hx, hb, hml, hown, hT⟩ (c_X4_add_3 l Z hZ (upR g 9 (upd (g 9) (g 3 1).toNatClampNeg (g 5 5))) gl tf a ha (by first | assumption | omega | decide) hG) (cwV 1 hT (tb_V (fun _ h => h) (tr_14 _ (List.mem_of_getElem? (i := 8) rfl)) (tr_14 _ (List.mem_of_getElem? (i := 9) rfl)) (tr_14 _ (List.mem_of_getElem? (i := 10) rfl)) (tr_1 _ (List.mem_of_getElem? (i := 18) rfl)) (tr_14 _ (List.mem_of_getElem? (i := 11) rfl))) rfl rfl rfl (by decide +kernel) ⟨Nat.le_of_ble_eq_true rfl, Nat.le_of_ble_eq_true rfl⟩) ⟨fun a U f mk q => ⟨q.1, XI.blind f mk a q.2⟩, va_recv hK hP (ci := 4) (q0 := 3) rfl xw_3, fun U hU hW => ⟨rfl, hI.at hS hP hU hW⟩⟩ rfl rfl hl.1 rfl (lv_room (Nat.le_of_ble_eq_true rfl)) dX5_take_40 ⟨Nat.zero_le _, Nat.zero_le _⟩) hS (fun q _ h => h) (fun q h => h) (fun u_40 t_40 H locs ht_40 _ hw_40 hB_40 _ _ hS => ?_)
      obtain ⟨g_40, gl_40, tf_40⟩ := u_40
      have hP : va_P (zD Z) vwCl (xw Z g_40 gl_40 tf_40) H := ht_40 ▸ hB_40
      obtain ⟨hf_40, hG, et_40, eg_40⟩ := hw_40
      have hF := hF.tr hf_40 (by decide)
      dsimp only at hf_40 hG hF et_40 eg_40
      subst et_40
      subst eg_40
      have hG := hG1
      have hP : va_P (zD Z) vwCl (xw Z (up2 (upR g 9 (upd (g 9) (g 3 1).toNatClampNeg (g 5 5))) 3 1 ((upR g 9 (upd (g 9) (g 3 1).toNatClampNeg (g 5 5))) 3 1 + 1)) gl_40 (wrT tf (ro Z (g 3 1).toInt.toNat) (tf a 0) (tf a 1) (tf a 2) (tf a 3) (tf a 4))) H := hP
      refine lv_aload_n hx hb dX5_take_43 rfl (lv_at hl 3 rfl) ?_
      obtain ⟨k_44, hk_44⟩ := xt_at (g := (up2 (upR g 9 (upd (g 9) (g 3 1).toNatClampNeg (g 5 5))) 3 1 ((upR g 9 (upd (g 9) (g 3 1).toNatClampNeg (g 5 5))) 3 1 + 1))) (gl := gl_40) (tf := (wrT tf (ro Z (g 3 1).toInt.toNat) (tf a 0) (tf a 1) (tf a 2) (tf a 3) (tf a 4))) ha
      refine va_get (D := zD Z) (ci := 3) (v := .int ((wrT tf (ro Z (g 3 1).toInt.toNat) (tf a 0) (tf a 1) (tf a 2) (tf a 3) (tf a 4)) a 3)) (C := RX3) (T := TX3) (N := 5) hx hb hT inlX3 hown hK hP k_44 hk_44 rfl 3 (by decide) (hT _ (tr_14 _ (List.mem_of_getElem? (i := 6) rfl))) (fun _ h9 => h9) rfl dX5_take_44 ?_
      refine lv_istore (lv' := [(4, .int ((wrT tf (ro Z (g 3 1).toInt.toNat) (tf a 0) (tf a 1) (tf a 2) (tf a 3) (tf a 4)) a 3)), (3, .int (g 5 5)), (2, .int (g 3 1)), (0, .ref (za Z 5)), (1, .ref a)]) hx hb dX5_take_47 hl (by decide) rfl (fun ls hl => ?_)
      refine lv_iconst (v := 0) hx hb dX5_take_49 (by decide) ?_
      refine lv_istore (lv' := [(5, .int 0), (4, .int ((wrT tf (ro Z (g 3 1).toInt.toNat) (tf a 0) (tf a 1) (tf a 2) (tf a 3) (tf a 4)) a 3)), (3, .int (g 5 5)), (2, .int (g 3 1)), (0, .ref (za Z 5)), (1, .ref a)]) hx hb dX5_take_50 hl (by decide) rfl (fun ls hl => ?_)
      exact L52 _ (g 3 1) (g 5 5) ((wrT tf (ro Z (g 3 1).toInt.toNat) (tf a 0) (tf a 1) (tf a 2) (tf a 3) (tf a 4)) a 3) 0 (up2 (upR g 9 (upd (g 9) (g 3 1).toNatClampNeg (g 5 5))) 3 1 ((upR g 9 (upd (g 9) (g 3 1).toNatClampNeg (g 5 5))) 3 1 + 1)) gl_40 _ _ hP hF hG hS (by decide) (by omega) rfl rfl rfl rfl rfl (hTx.bd (by omega)) (by rw [tk_0, ha3]; show 0 ≤ (g 5 5).toInt ∧ (g 5 5).toInt + (hgs (cnl 64 (tf a 3).toInt.toNat (tf a 4).toInt.toNat) : Int) ≤ 2100; have q := hg_30 (xr_4 hZ hG1) (xr_5 hZ hG1) (g 3 1).toInt.toNat; rw [cs0] at q; omega) (by rw [tk_0, ha3]; exact ch0) (fun g2 h => by rw [tk_0, ha3] at h; exact h) (Nat.lt_succ_self _) ls (lv_sub hl [4, 5, 3, 2, 1, 0] rfl)
    · skip
      have i_18 := ti_nltk rfl tk_70 c_18
      exfalso
      omega
set_option maxHeartbeats 4000000 in
set_option maxRecDepth 100000 in
theorem c_X5_takeBack (l : Launch) (Z : ZT) (hZ : XG Z) (g : Nat → Nat → Int32) (gl : Nat → Nat → Int64) (tf : Nat → Nat → Int32) (hn : 1 ≤ (g 3 1).toInt ∧ (g 3 1).toInt ≤ 70) (hTx : TX (xr Z tf) (g 3 1).toInt.toNat g) (hG : Gd Z tf) : Met l yX5_takeBack (Cond.code yX5_takeBack cX5_takeBack 3 none :: wsL_law) ({ frames := 5, cells := 0, slots := 0, locals := 115 } : Room) (va_Pc [.ref (za Z 5)] (XI Z g gl tf)) (va_Qv (fun (u : (Nat → Nat → Int32) × (Nat → Nat → Int64) × (Nat → Nat → Int32)) => Fr [3, 5, 6, 10] g u.1 ∧ Gd Z u.2.2 ∧ tf = u.2.2 ∧ (u.1 3 1 = g 3 1 - 1 ∧ TX (xr Z tf) ((g 3 1).toInt.toNat - 1) u.1)) (fun u t => va_P (zD Z) vwCl (xw Z u.1 u.2.1 u.2.2) t.heap) (zA Z)) 0 0 (zA Z) := by
  refine Met.ofW (cc := cX5_takeBack) (maxL := 3) (ret := none) (by decide) rfl ?_
  intro p e s m args below meth c s₁ B hml hv
  obtain ⟨rfl, hI⟩ := hv
  have hx := B.exec
  have hb := B.bytes
  have hr := B.returns
  have hT : ∀ w ∈ wsL_law, w.before ([.ref (za Z 5)] : List Value).toArray s = true := fun w h => atoms_spec (ws := (Cond.code yX5_takeBack cX5_takeBack 3 none :: wsL_law)) B.pre w (List.mem_cons_of_mem _ h)
  have hown : s.vm.findClass RX5 = some m.cls := findClass_of_methodNamed B.named
  have hlocks := B.notSynchronized
  have hK := hI.2.1
  have hP := hI.1
  have hS : va_S (zA Z) s.heap s.heap [] := va_S.rf
  have hF : Fr [3, 5, 6, 10] g g := Fr.rf
  have hn70 := hn
  obtain ⟨N, hN⟩ : ∃ N, (g 3 1).toInt.toNat = N + 1 := ⟨((g 3 1).toInt - 1).toNat, by omega⟩
  have hT0 := hTx
  rw [hN] at hTx
  have l1 := hTx.2.2.le N (by omega)
  have l2 := (hTx.2.2.2 N (by omega)).1
  rw [cbx_n, show cbx g (N + 1) N = (g 9 N).toInt from if_pos (by omega)] at l2
  rw [show cbx g (N + 1) N = (g 9 N).toInt from if_pos (by omega)] at l1
  have l3 := hTx.c0
  have hTN : Eq1 (und (g 7) (g 8) (g 9 N).toInt.toNat ((g 5 5).toInt - (g 9 N).toInt).toNat (g 6)) (TR (xr Z tf) N) := by have q := (hTx.2.2.2 N (by omega)).2.2; rw [cbx_n, show cbx g (N + 1) N = (g 9 N).toInt from if_pos (by omega)] at q; exact (und_cs _ _ _ hTx.1).tr q
  have hl := lv_entry ([.ref (za Z 5)]) (n := 3) (Nat.le_of_ble_eq_true rfl)
  rw [lg_entry_eq]
  generalize (lg_sl ([.ref (za Z 5)]) ++ List.replicate (3 - (lg_sl ([.ref (za Z 5)])).length) Slot.unset).toArray = ls at hl ⊢
  have hl : lv_has ls 3 [(0, .ref (za Z 5))] := hl
  have L60 : ∀ (n : Nat) (z1 : Int32) (z2 : Int32) (g1 : Nat → Nat → Int32) (gl1 : Nat → Nat → Int64) (H : Heap) (locs : List Loc) (hP : va_P (zD Z) vwCl (xw Z g1 gl1 tf) H) (hF : Fr [3, 5, 6, 10] g g1) (hG : Gd Z tf) (hS : va_S (zA Z) s.heap H locs) (h2 : 0 ≤ z2.toInt ∧ z2.toInt ≤ 64) (hz : z1 = g 3 1 - 1) (hz1 : z1 = nI N) (h5 : g1 5 5 = g 9 N) (hU : g1 6 = und (g 7) (g 8) (g 9 N).toInt.toNat ((g 5 5).toInt - (g 9 N).toInt).toNat (g 6)) (hA : ∀ q : Nat, (q : Int) < z2.toInt → g1 10 q = bst (xr Z tf) N q) (hB : ∀ q : Nat, q < 64 → z2.toInt ≤ (q : Int) → g1 10 q = bst (xr Z tf) (N + 1) q) (hn : (64 - z2.toInt).toNat < n) (ls : Array Slot) (hl : lv_has ls 3 [(0, .ref (za Z 5)), (1, .int z1), (2, .int z2)]), W p l e ({ frames := 5, cells := 0, slots := 0, locals := 115 } : Room) s m ([.ref (za Z 5)] : List Value).toArray below meth c H locs 0 0 (MQ below (va_Qv (fun (u : (Nat → Nat → Int32) × (Nat → Nat → Int64) × (Nat → Nat → Int32)) => Fr [3, 5, 6, 10] g u.1 ∧ Gd Z u.2.2 ∧ tf = u.2.2 ∧ (u.1 3 1 = g 3 1 - 1 ∧ TX (xr Z tf) ((g 3 1).toInt.toNat - 1) u.1)) (fun u t => va_P (zD Z) vwCl (xw Z u.1 u.2.1 u.2.2) t.heap) (zA Z)) ([.ref (za Z 5)] : List Value).toArray s 0 0 (zA Z)) (F0 m 60 ls []) := by
    intro n
    induction n with
    | zero => intro z1 z2 g1 gl1 H locs hP hF hG hS h2 hz hz1 h5 hU hA hB hn; exact absurd hn (Nat.not_lt_zero _)
    | succ n ih60 =>
      intro z1 z2 g1 gl1 H locs hP hF hG hS h2 hz hz1 h5 hU hA hB hn ls hl
      have hF_ := hF
      refine lv_iload_n hx hb dX5_takeBack_60 rfl (lv_at hl 2 rfl) ?_
      refine lv_bipush (v := 64) hx hb dX5_takeBack_61 (by decide) ?_
      refine lv_icmp_ge (tgt := 93) hx hb dX5_takeBack_63 (by decide) (fun c_63 => ?_) (fun c_63 => ?_)
      · skip
        have i_63 := ti_lek tk_64 rfl c_63
        refine lv_aload_n hx hb dX5_takeBack_93 rfl (lv_at hl 0 rfl) ?_
        refine va_get (D := zD Z) (ci := 5) (v := .ref (za Z 3)) (C := RX5) (T := TX5) (N := 7) hx hb hT inlX5 hown hK hP 5 xw_5 rfl 0 (by decide) (hT _ (tr_3 _ (List.mem_of_getElem? (i := 17) rfl))) (fun _ h9 => h9) rfl dX5_takeBack_94 ?_
        refine lv_iload_n hx hb dX5_takeBack_97 rfl (lv_at hl 1 rfl) ?_
        refine va_put (D := zD Z) (ci := 4) (v := .int z1) (ty := .int) (C := RX4) (T := TX4) (N := 2) hx hb hT inlX4 tyX4 tyX4_ok nmX4 hown hK hP hZ.D hS 3 xw_3 rfl 1 (by decide) (hT _ (tr_13 _ (List.mem_of_getElem? (i := 7) rfl))) (fun _ h9 => h9) rfl (by decide +kernel) rfl rfl (Nat.le_of_ble_eq_true rfl) dX5_takeBack_98 (fun H locs hP _ hS => ?_)
        replace hP := xf_3_1 hP
        have hF := hF.u2 (i := 3) (k := 1) (v := z1) (by decide)
        exact W.vret hx hb hr (fun t ht hW => ⟨⟨((up2 g1 3 1 z1), gl1, tf), rfl, ⟨hF, hG, rfl, (by (try dsimp only); first | done | exact ⟨hz, by rw [show (g 3 1).toInt.toNat - 1 = N by omega]; exact TX_back (by omega) hTx (by rw [show (up2 g1 3 1 z1) 6 = g1 6 from rfl, hU]; exact Eq1.rf) h5 (hF_ 7 (by decide)) (hF_ 8 (by decide)) (hF_ 9 (by decide)) (fun q hq => hA q (by omega))⟩)⟩, by show va_P (zD Z) vwCl (xw Z (up2 g1 3 1 z1) gl1 tf) t.heap; rw [ht]; exact hP⟩, hS.F ht⟩) hS.2.2 dX5_takeBack_101
      · skip
        have i_63 := ti_nlek tk_64 rfl c_63
        refine lv_aload_n hx hb dX5_takeBack_66 rfl (lv_at hl 0 rfl) ?_
        refine va_get (D := zD Z) (ci := 5) (v := .ref (za Z 10)) (C := RX5) (T := TX5) (N := 7) hx hb hT inlX5 hown hK hP 5 xw_5 rfl 6 (by decide) (hT _ (tr_3 _ (List.mem_of_getElem? (i := 16) rfl))) (fun _ h9 => h9) rfl dX5_takeBack_67 ?_
        refine lv_iload_n hx hb dX5_takeBack_70 rfl (lv_at hl 2 rfl) ?_
        have h_71 : vp_in z2 64 := (ti_vp (by omega) (by omega))
        refine va_iald hx hb hK hP 10 1 xw_10 rfl h_71 dX5_takeBack_71 ?_
        refine lv_topi (fun v_71 e_71 => ?_)
        refine lv_iload_n hx hb dX5_takeBack_72 rfl (lv_at hl 1 rfl) ?_
        refine lv_icmp_ne (tgt := 87) hx hb dX5_takeBack_73 (by decide) (fun c_73 => ?_) (fun c_73 => ?_)
        · skip
          have i_73 := ti_nek rfl rfl c_73
          obtain ⟨v_87, e_87⟩ : ∃ y : Int32, y = z2 + 1 := ⟨_, rfl⟩
          refine lv_iinc (v := v_87) (lv' := [(2, .int v_87), (0, .ref (za Z 5)), (1, .int z1)]) hx hb dX5_takeBack_87 hl (k := 2) rfl (by rw [e_87]; rfl) (by decide) rfl (fun ls hl => ?_)
          have t_87 := ti_addk rfl tk_1 (by omega) (by omega) e_87
          refine lv_goto (tgt := 60) hx hb dX5_takeBack_90 (by decide) ?_
          exact ih60 z1 v_87 g1 gl1 _ _ hP hF hG hS (by omega) (by first | assumption | omega | decide) hz1 h5 hU (fun q hq => by rcases Int.lt_or_le (q : Int) z2.toInt with y | y; (exact hA q y); have eq : q = z2.toInt.toNat := (by omega); subst eq; rw [hB z2.toInt.toNat (by omega) (by omega)]; refine bst_back (by omega) (fun z => c_73 ?_); rw [e_71]; exact (hB z2.toInt.toNat (by omega) (by omega)).trans (z.trans hz1.symm)) (fun q hq h => by exact hB q hq (by omega)) (by omega) ls (lv_sub hl [1, 2, 0] rfl)
        · skip
          have i_73 := ti_eqk rfl rfl c_73
          refine lv_aload_n hx hb dX5_takeBack_76 rfl (lv_at hl 0 rfl) ?_
          refine va_get (D := zD Z) (ci := 5) (v := .ref (za Z 10)) (C := RX5) (T := TX5) (N := 7) hx hb hT inlX5 hown hK hP 5 xw_5 rfl 6 (by decide) (hT _ (tr_3 _ (List.mem_of_getElem? (i := 16) rfl))) (fun _ h9 => h9) rfl dX5_takeBack_77 ?_
          refine lv_iload_n hx hb dX5_takeBack_80 rfl (lv_at hl 2 rfl) ?_
          refine lv_aload_n hx hb dX5_takeBack_81 rfl (lv_at hl 0 rfl) ?_
          refine lv_iload_n hx hb dX5_takeBack_82 rfl (lv_at hl 2 rfl) ?_
          refine rd_ci (va_runV (As := [.int z2]) (rest := [.int z2, .ref (za Z 10)]) ⟨hx, hb, hml, hown, hT⟩ (c_X5_bestAbove l Z hZ g1 gl1 tf z2 (by omega) (by rw [hU]; exact fun v a b c => by have e := hTN v a b; rw [e] at c ⊢; have q := TR_bd (R := xr Z tf) N (by omega) v a b c; omega) hG) (cwV 1 hT (tb_V (fun _ h => h) (tr_28 _ (List.mem_of_getElem? (i := 14) rfl)) (tr_28 _ (List.mem_of_getElem? (i := 15) rfl)) (tr_28 _ (List.mem_of_getElem? (i := 16) rfl)) (tr_1 _ (List.mem_of_getElem? (i := 22) rfl)) (tr_28 _ (List.mem_of_getElem? (i := 17) rfl))) rfl rfl rfl (by decide +kernel) ⟨Nat.le_of_ble_eq_true rfl, Nat.le_of_ble_eq_true rfl⟩) ⟨fun a U f mk q => ⟨q.1, XI.blind f mk a q.2⟩, va_recv hK hP (ci := 5) (q0 := 5) rfl xw_5, fun U hU hW => ⟨rfl, hI.at hS hP hU hW⟩⟩ rfl rfl hl.1 rfl (lv_room (Nat.le_of_ble_eq_true rfl)) dX5_takeBack_83 ⟨Nat.zero_le _, Nat.zero_le _⟩) (fun r_83 hr_83 => ?_)
          have h_86 : vp_in z2 64 := (ti_vp (by omega) (by omega))
          refine va_iast hx hb hK hP hZ.D hS 10 1 xw_10 rfl h_86 dX5_takeBack_86 (fun H locs hP _ hS => ?_)
          replace hP := xs_10 hP
          have hF := hF.uR (i := 10) (r := upd (g1 10) z2.toNatClampNeg r_83) (by decide)
          obtain ⟨v_87, e_87⟩ : ∃ y : Int32, y = z2 + 1 := ⟨_, rfl⟩
          refine lv_iinc (v := v_87) (lv' := [(2, .int v_87), (0, .ref (za Z 5)), (1, .int z1)]) hx hb dX5_takeBack_87 hl (k := 2) rfl (by rw [e_87]; rfl) (by decide) rfl (fun ls hl => ?_)
          have t_87 := ti_addk rfl tk_1 (by omega) (by omega) e_87
          refine lv_goto (tgt := 60) hx hb dX5_takeBack_90 (by decide) ?_
          exact ih60 z1 v_87 (upR g1 10 (upd (g1 10) z2.toNatClampNeg r_83)) gl1 _ _ hP hF hG hS (by omega) (by first | assumption | omega | decide) hz1 h5 hU (fun q hq => by rcases Int.lt_or_le (q : Int) z2.toInt with y | y; (show upd (g1 10) z2.toNatClampNeg r_83 q = _; rw [pk_un (by show q ≠ z2.toInt.toNat; omega)]; exact hA q y); have eq : q = z2.toInt.toNat := (by omega); subst eq; show upd (g1 10) z2.toNatClampNeg r_83 z2.toInt.toNat = _; rw [upd_at (show z2.toInt.toNat = z2.toNatClampNeg from rfl), hr_83, hU, mcS_cs hTN (by omega), show z2 = nI z2.toInt.toNat from nI_ek (by omega), nI_toInt (by omega)]; exact TR_bst (xr_4 hZ hG) (xr_5 hZ hG) (by omega) (by omega)) (fun q hq h => by show upd (g1 10) z2.toNatClampNeg r_83 q = _; rw [pk_un (by show q ≠ z2.toInt.toNat; omega)]; exact hB q hq (by omega)) (by omega) ls (lv_sub hl [1, 2, 0] rfl)
  have L24 : ∀ (n : Nat) (z1 : Int32) (g1 : Nat → Nat → Int32) (gl1 : Nat → Nat → Int64) (H : Heap) (locs : List Loc) (hP : va_P (zD Z) vwCl (xw Z g1 gl1 tf) H) (hF : Fr [3, 5, 6, 10] g g1) (hG : Gd Z tf) (hS : va_S (zA Z) s.heap H locs) (h1 : z1.toInt = (N : Int)) (hz : z1 = g 3 1 - 1) (h10 : g1 10 = g 10) (hc : (g 9 N).toInt ≤ (g1 5 5).toInt ∧ (g1 5 5).toInt ≤ (g 5 5).toInt) (hU : und (g 7) (g 8) (g 9 N).toInt.toNat ((g1 5 5).toInt - (g 9 N).toInt).toNat (g1 6) = und (g 7) (g 8) (g 9 N).toInt.toNat ((g 5 5).toInt - (g 9 N).toInt).toNat (g 6)) (hn : ((g1 5 5).toInt - (g 9 N).toInt).toNat < n) (ls : Array Slot) (hl : lv_has ls 3 [(0, .ref (za Z 5)), (1, .int z1)]), W p l e ({ frames := 5, cells := 0, slots := 0, locals := 115 } : Room) s m ([.ref (za Z 5)] : List Value).toArray below meth c H locs 0 0 (MQ below (va_Qv (fun (u : (Nat → Nat → Int32) × (Nat → Nat → Int64) × (Nat → Nat → Int32)) => Fr [3, 5, 6, 10] g u.1 ∧ Gd Z u.2.2 ∧ tf = u.2.2 ∧ (u.1 3 1 = g 3 1 - 1 ∧ TX (xr Z tf) ((g 3 1).toInt.toNat - 1) u.1)) (fun u t => va_P (zD Z) vwCl (xw Z u.1 u.2.1 u.2.2) t.heap) (zA Z)) ([.ref (za Z 5)] : List Value).toArray s 0 0 (zA Z)) (F0 m 24 ls []) := by
    intro n
    induction n with
    | zero => intro z1 g1 gl1 H locs hP hF hG hS h1 hz h10 hc hU hn; exact absurd hn (Nat.not_lt_zero _)
    | succ n ih24 =>
      intro z1 g1 gl1 H locs hP hF hG hS h1 hz h10 hc hU hn ls hl
      have q7 : g1 7 = g 7 := hF 7 (by decide)
      have q8 : g1 8 = g 8 := hF 8 (by decide)
      have q9 : g1 9 = g 9 := hF 9 (by decide)
      refine lv_aload_n hx hb dX5_takeBack_24 rfl (lv_at hl 0 rfl) ?_
      refine va_get (D := zD Z) (ci := 5) (v := .int (g1 5 5)) (C := RX5) (T := TX5) (N := 7) hx hb hT inlX5 hown hK hP 5 xw_5 rfl 5 (by decide) (hT _ (tr_13 _ (List.mem_of_getElem? (i := 8) rfl))) (fun _ h9 => h9) rfl dX5_takeBack_25 ?_
      refine lv_aload_n hx hb dX5_takeBack_28 rfl (lv_at hl 0 rfl) ?_
      refine va_get (D := zD Z) (ci := 5) (v := .ref (za Z 9)) (C := RX5) (T := TX5) (N := 7) hx hb hT inlX5 hown hK hP 5 xw_5 rfl 4 (by decide) (hT _ (tr_3 _ (List.mem_of_getElem? (i := 15) rfl))) (fun _ h9 => h9) rfl dX5_takeBack_29 ?_
      refine lv_iload_n hx hb dX5_takeBack_32 rfl (lv_at hl 1 rfl) ?_
      have h_33 : vp_in z1 70 := (ti_vp (by omega) (by omega))
      refine va_iald hx hb hK hP 9 1 xw_9 rfl h_33 dX5_takeBack_33 ?_
      refine lv_topi (fun v_33 e_33 => ?_)
      have e33 : v_33 = g 9 N := by rw [e_33, q9, show z1.toNatClampNeg = N by show z1.toInt.toNat = N; omega]
      have e33i := congrArg Int32.toInt e33
      refine lv_icmp_le (tgt := 58) hx hb dX5_takeBack_34 (by decide) (fun c_34 => ?_) (fun c_34 => ?_)
      · skip
        have i_34 := ti_lek rfl rfl c_34
        refine lv_iconst (v := 0) hx hb dX5_takeBack_58 (by decide) ?_
        refine lv_istore_n (lv' := [(2, .int 0), (0, .ref (za Z 5)), (1, .int z1)]) hx hb dX5_takeBack_59 rfl hl (by decide) rfl (fun ls hl => ?_)
        exact L60 _ z1 0 g1 gl1 _ _ hP hF hG hS (by decide) (by first | assumption | omega | decide) (nI_ek h1) (Int32.toInt_inj.mp (by omega)) (by rw [← hU, show ((g1 5 5).toInt - (g 9 N).toInt).toNat = 0 by omega]; rfl) (fun q hq => by rw [tk_0] at hq; omega) (fun q hq _ => by rw [h10]; exact hTx.2.1 q hq) (Nat.lt_succ_self _) ls (lv_sub hl [1, 2, 0] rfl)
      · skip
        have i_34 := ti_nlek rfl rfl c_34
        refine lv_aload_n hx hb dX5_takeBack_37 rfl (lv_at hl 0 rfl) ?_
        refine lv_dup hx hb dX5_takeBack_38 rfl ?_
        refine va_get (D := zD Z) (ci := 5) (v := .int (g1 5 5)) (C := RX5) (T := TX5) (N := 7) hx hb hT inlX5 hown hK hP 5 xw_5 rfl 5 (by decide) (hT _ (tr_13 _ (List.mem_of_getElem? (i := 8) rfl))) (fun _ h9 => h9) rfl dX5_takeBack_39 ?_
        have rg2 := ti_rng (g1 5 5)
        refine lv_iconst (v := 1) hx hb dX5_takeBack_42 (by decide) ?_
        refine lv_isub hx hb dX5_takeBack_43 ?_
        refine lv_topi (fun v_43 e_43 => ?_)
        have t_43 := ti_subk rfl tk_1 (by omega) (by omega) e_43
        refine va_put (D := zD Z) (ci := 5) (v := .int v_43) (ty := .int) (C := RX5) (T := TX5) (N := 7) hx hb hT inlX5 tyX5 tyX5_ok nmX5 hown hK hP hZ.D hS 5 xw_5 rfl 5 (by decide) (hT _ (tr_13 _ (List.mem_of_getElem? (i := 8) rfl))) (fun _ h9 => h9) rfl (by decide +kernel) rfl rfl (Nat.le_of_ble_eq_true rfl) dX5_takeBack_44 (fun H locs hP _ hS => ?_)
        replace hP := xf_5_5 hP
        have hF := hF.u2 (i := 5) (k := 5) (v := v_43) (by decide)
        refine lv_aload_n hx hb dX5_takeBack_47 rfl (lv_at hl 0 rfl) ?_
        refine lv_aload_n hx hb dX5_takeBack_48 rfl (lv_at hl 0 rfl) ?_
        refine va_get (D := zD Z) (ci := 5) (v := .int v_43) (C := RX5) (T := TX5) (N := 7) hx hb hT inlX5 hown hK hP 5 xw_5 rfl 5 (by decide) (hT _ (tr_13 _ (List.mem_of_getElem? (i := 8) rfl))) (fun _ h9 => h9) rfl dX5_takeBack_49 ?_
        refine va_callv (va_runV (As := [.int v_43]) (rest := []) ⟨hx, hb, hml, hown, hT⟩ (c_X5_putBack l Z hZ (up2 g1 5 5 v_43) gl1 tf v_43 (by first | assumption | omega | decide) hG) (cwV 1 hT (tb_V (fun _ h => h) (tr_28 _ (List.mem_of_getElem? (i := 10) rfl)) (tr_28 _ (List.mem_of_getElem? (i := 11) rfl)) (tr_28 _ (List.mem_of_getElem? (i := 12) rfl)) (tr_1 _ (List.mem_of_getElem? (i := 22) rfl)) (tr_28 _ (List.mem_of_getElem? (i := 13) rfl))) rfl rfl rfl (by decide +kernel) ⟨Nat.le_of_ble_eq_true rfl, Nat.le_of_ble_eq_true rfl⟩) ⟨fun a U f mk q => ⟨q.1, XI.blind f mk a q.2⟩, va_recv hK hP (ci := 5) (q0 := 5) rfl xw_5, fun U hU hW => ⟨rfl, hI.at hS hP hU hW⟩⟩ rfl rfl hl.1 rfl (lv_room (Nat.le_of_ble_eq_true rfl)) dX5_takeBack_52 ⟨Nat.zero_le _, Nat.zero_le _⟩) hS (fun q _ h => h) (fun q h => h) (fun u_52 t_52 H locs ht_52 _ hw_52 hB_52 _ _ hS => ?_)
        obtain ⟨g_52, gl_52, tf_52⟩ := u_52
        have hP : va_P (zD Z) vwCl (xw Z g_52 gl_52 tf_52) H := ht_52 ▸ hB_52
        obtain ⟨hf_52, hG, et_52, eg_52⟩ := hw_52
        have hF := hF.tr hf_52 (by decide)
        dsimp only at hf_52 hG hF et_52 eg_52
        subst et_52
        subst eg_52
        refine lv_goto (tgt := 24) hx hb dX5_takeBack_55 (by decide) ?_
        exact ih24 z1 (upR (up2 g1 5 5 v_43) 6 (pbk ((up2 g1 5 5 v_43) 6) ((up2 g1 5 5 v_43) 7 v_43.toNatClampNeg) ((up2 g1 5 5 v_43) 8 v_43.toNatClampNeg))) gl_52 _ _ hP hF hG hS h1 hz h10 (by show (g 9 N).toInt ≤ v_43.toInt ∧ v_43.toInt ≤ _; omega) (by rw [← hU, show ((g1 5 5).toInt - (g 9 N).toInt).toNat = (v_43.toInt - (g 9 N).toInt).toNat + 1 by omega, und]; show und (g 7) (g 8) (g 9 N).toInt.toNat (v_43.toInt - (g 9 N).toInt).toNat (pbk (g1 6) (g1 7 v_43.toNatClampNeg) (g1 8 v_43.toNatClampNeg)) = _; rw [q7, q8, show (g 9 N).toInt.toNat + (v_43.toInt - (g 9 N).toInt).toNat = v_43.toNatClampNeg by show _ = v_43.toInt.toNat; omega]) (by show (v_43.toInt - (g 9 N).toInt).toNat < n; omega) ls (lv_sub hl [0, 1] rfl)
  refine lv_aload_n hx hb dX5_takeBack_0 rfl (lv_at hl 0 rfl) ?_
  refine va_get (D := zD Z) (ci := 5) (v := .ref (za Z 3)) (C := RX5) (T := TX5) (N := 7) hx hb hT inlX5 hown hK hP 5 xw_5 rfl 0 (by decide) (hT _ (tr_3 _ (List.mem_of_getElem? (i := 17) rfl))) (fun _ h9 => h9) rfl dX5_takeBack_1 ?_
  refine va_get (D := zD Z) (ci := 4) (v := .int (g 3 1)) (C := RX4) (T := TX4) (N := 2) hx hb hT inlX4 hown hK hP 3 xw_3 rfl 1 (by decide) (hT _ (tr_13 _ (List.mem_of_getElem? (i := 7) rfl))) (fun _ h9 => h9) rfl dX5_takeBack_4 ?_
  refine lv_iconst (v := 1) hx hb dX5_takeBack_7 (by decide) ?_
  refine lv_isub hx hb dX5_takeBack_8 ?_
  refine lv_topi (fun v_8 e_8 => ?_)
  have t_8 := ti_subk rfl tk_1 (by omega) (by omega) e_8
  refine lv_istore_n (lv' := [(1, .int v_8), (0, .ref (za Z 5))]) hx hb dX5_takeBack_9 rfl hl (by decide) rfl (fun ls hl => ?_)
  refine lv_iload_n hx hb dX5_takeBack_10 rfl (lv_at hl 0 rfl) ?_
  refine lv_if_lt (tgt := 23) hx hb dX5_takeBack_11 (by decide) (fun c_11 => ?_) (fun c_11 => ?_)
  · skip
    have i_11 := ti_ltk rfl tk_0 c_11
    exfalso
    omega
  · skip
    have i_11 := ti_nltk rfl tk_0 c_11
    refine lv_iload_n hx hb dX5_takeBack_14 rfl (lv_at hl 0 rfl) ?_
    refine lv_aload_n hx hb dX5_takeBack_15 rfl (lv_at hl 1 rfl) ?_
    refine va_get (D := zD Z) (ci := 5) (v := .ref (za Z 9)) (C := RX5) (T := TX5) (N := 7) hx hb hT inlX5 hown hK hP 5 xw_5 rfl 4 (by decide) (hT _ (tr_3 _ (List.mem_of_getElem? (i := 15) rfl))) (fun _ h9 => h9) rfl dX5_takeBack_16 ?_
    refine va_alen hx hb hK hP 9 1 xw_9 rfl (v := 70) rfl dX5_takeBack_19 ?_
    refine lv_icmp_lt (tgt := 24) hx hb dX5_takeBack_20 (by decide) (fun c_20 => ?_) (fun c_20 => ?_)
    · skip
      have i_20 := ti_ltk rfl tk_70 c_20
      exact L24 _ v_8 g gl _ _ hP hF hG hS (by omega) e_8 rfl ⟨l2, Int.le_refl _⟩ rfl (Nat.lt_succ_self _) ls (lv_sub hl [1, 0] rfl)
    · skip
      have i_20 := ti_nltk rfl tk_70 c_20
      exfalso
      omega
