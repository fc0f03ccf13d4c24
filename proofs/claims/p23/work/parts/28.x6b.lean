set_option maxHeartbeats 4000000 in
set_option maxRecDepth 100000 in
theorem c_X6_bargain (l : Launch) (Z : ZT) (hZ : XG Z) (g : Nat → Nat → Int32) (gl : Nat → Nat → Int64) (tf : Nat → Nat → Int32) (x1 : Int32) (x2 : Int32) (hn4 : 0 ≤ (g 3 1).toInt ∧ (g 3 1).toInt ≤ 40) (hTx : TX (xr Z tf) (g 3 1).toInt.toNat g) (hG : Gd Z tf) : Met l yX6_bargain (Cond.code yX6_bargain cX6_bargain 10 (some .int) :: wsL_law) ({ frames := 3, cells := 0, slots := 0, locals := 64 } : Room) (va_Pc [.ref (za Z 0), .int x1, .int x2] (XI Z g gl tf)) (rd_Qi (fun r => ((¬ (0 ≤ x1.toInt ∧ x1.toInt ≤ x2.toInt ∧ x2.toInt ≤ 63) ∧ r = -102) ∨ ((0 ≤ x1.toInt ∧ x1.toInt ≤ x2.toInt ∧ x2.toInt ≤ 63) ∧ g 0 8 = 0 ∧ r = -103) ∨ ((0 ≤ x1.toInt ∧ x1.toInt ≤ x2.toInt ∧ x2.toInt ≤ 63) ∧ ¬ g 0 8 = 0 ∧ isG (g 10) (prC (xr Z tf) (g 10)) x1.toInt.toNat (x2.toInt.toNat + 1) r)))) 0 0 (fun _ => False) := by
  refine Met.ofW (cc := cX6_bargain) (maxL := 10) (ret := (some .int)) (by decide) rfl ?_
  intro p e s m args below meth c s₁ B hml hv
  obtain ⟨rfl, hI⟩ := hv
  have hx := B.exec
  have hb := B.bytes
  have hr := B.returns
  have hT : ∀ w ∈ wsL_law, w.before ([.ref (za Z 0), .int x1, .int x2] : List Value).toArray s = true := fun w h => atoms_spec (ws := (Cond.code yX6_bargain cX6_bargain 10 (some .int) :: wsL_law)) B.pre w (List.mem_cons_of_mem _ h)
  have hown : s.vm.findClass RX6 = some m.cls := findClass_of_methodNamed B.named
  have hlocks := B.notSynchronized
  have hK := hI.2.1
  have hP := hI.1
  have hS : va_S (zA Z) s.heap s.heap [] := va_S.rf
  have hl := lv_entry ([.ref (za Z 0), .int x1, .int x2]) (n := 10) (Nat.le_of_ble_eq_true rfl)
  rw [lg_entry_eq]
  generalize (lg_sl ([.ref (za Z 0), .int x1, .int x2]) ++ List.replicate (10 - (lg_sl ([.ref (za Z 0), .int x1, .int x2])).length) Slot.unset).toArray = ls at hl ⊢
  have hl : lv_has ls 10 [(0, .ref (za Z 0)), (1, .int x1), (2, .int x2)] := hl
  have L40 : ∀ (n : Nat) (z3 : Int32) (z4 : Int64) (z6 : Int32)  (hok : (0 ≤ x1.toInt ∧ x1.toInt ≤ x2.toInt ∧ x2.toInt ≤ 63)) (hd : ¬ g 0 8 = 0) (h6 : x1.toInt ≤ z6.toInt ∧ z6.toInt ≤ x2.toInt + 1) (h3 : -1 ≤ z3.toInt ∧ z3.toInt ≤ 63) (hI9 : isG (g 10) (prC (xr Z tf) (g 10)) x1.toInt.toNat z6.toInt.toNat z3) (hz4 : ∀ b : Nat, b < 64 → z3 = nI b → z4.toInt = (prC (xr Z tf) (g 10)) b) (hn : (64 - z6.toInt).toNat < n) (ls : Array Slot) (hl : lv_has ls 10 [(0, .ref (za Z 0)), (1, .int x1), (2, .int x2), (3, .int z3), (4, .long z4), (6, .int z6)]), W p l e ({ frames := 3, cells := 0, slots := 0, locals := 64 } : Room) s m ([.ref (za Z 0), .int x1, .int x2] : List Value).toArray below meth c s.heap [] 0 0 (MQ below (rd_Qi (fun r => ((¬ (0 ≤ x1.toInt ∧ x1.toInt ≤ x2.toInt ∧ x2.toInt ≤ 63) ∧ r = -102) ∨ ((0 ≤ x1.toInt ∧ x1.toInt ≤ x2.toInt ∧ x2.toInt ≤ 63) ∧ g 0 8 = 0 ∧ r = -103) ∨ ((0 ≤ x1.toInt ∧ x1.toInt ≤ x2.toInt ∧ x2.toInt ≤ 63) ∧ ¬ g 0 8 = 0 ∧ isG (g 10) (prC (xr Z tf) (g 10)) x1.toInt.toNat (x2.toInt.toNat + 1) r)))) ([.ref (za Z 0), .int x1, .int x2] : List Value).toArray s 0 0 (fun _ => False)) (F0 m 40 ls []) := by
    intro n
    induction n with
    | zero => intro z3 z4 z6 hok hd h6 h3 hI9 hz4 hn; exact absurd hn (Nat.not_lt_zero _)
    | succ n ih40 =>
      intro z3 z4 z6 hok hd h6 h3 hI9 hz4 hn ls hl
      refine lv_iload hx hb dX6_bargain_40 (lv_at hl 5 rfl) ?_
      refine lv_iload_n hx hb dX6_bargain_42 rfl (lv_at hl 2 rfl) ?_
      refine lv_icmp_gt (tgt := 105) hx hb dX6_bargain_43 (by decide) (fun c_43 => ?_) (fun c_43 => ?_)
      · skip
        have i_43 := ti_ltk rfl rfl c_43
        refine lv_iload_n hx hb dX6_bargain_105 rfl (lv_at hl 3 rfl) ?_
        exact W.iret (v := z3) hx hb hr (fun t ht hW => ⟨z3, rfl, Or.inr (Or.inr ⟨hok, hd, by rw [show x2.toInt.toNat + 1 = z6.toInt.toNat by omega]; exact hI9⟩), ht⟩) (fun q hq => by cases hq) dX6_bargain_106
      · skip
        have i_43 := ti_nltk rfl rfl c_43
        have hz6 : z6 = nI z6.toInt.toNat := nI_ek (by omega)
        refine lv_aload_n hx hb dX6_bargain_46 rfl (lv_at hl 0 rfl) ?_
        refine va_get (D := zD Z) (ci := 6) (v := .ref (za Z 5)) (C := RX6) (T := TX6) (N := 11) hx hb hT inlX6 hown hK hP 0 xw_0 rfl 2 (by decide) (hT _ (tr_1 _ (List.mem_of_getElem? (i := 23) rfl))) (fun _ h9 => h9) rfl dX6_bargain_47 ?_
        refine lv_iload hx hb dX6_bargain_50 (lv_at hl 5 rfl) ?_
        refine rd_ci (va_runV (As := [.int z6]) (rest := []) ⟨hx, hb, hml, hown, hT⟩ (c_X5_lowestFor l Z hZ g gl tf z6 hG) (cwV 1 hT (tb_V (fun _ h => h) (tr_20 _ (List.mem_of_getElem? (i := 15) rfl)) (tr_20 _ (List.mem_of_getElem? (i := 16) rfl)) (tr_20 _ (List.mem_of_getElem? (i := 17) rfl)) (tr_1 _ (List.mem_of_getElem? (i := 22) rfl)) (tr_20 _ (List.mem_of_getElem? (i := 18) rfl))) rfl rfl rfl (by decide +kernel) ⟨Nat.le_of_ble_eq_true rfl, Nat.le_of_ble_eq_true rfl⟩) ⟨fun a U f mk q => ⟨q.1, XI.blind f mk a q.2⟩, va_recv hK hP (ci := 5) (q0 := 5) rfl xw_5, fun U hU hW => ⟨rfl, hI.at hS hP hU hW⟩⟩ rfl rfl hl.1 rfl (lv_room (Nat.le_of_ble_eq_true rfl)) dX6_bargain_52 ⟨Nat.zero_le _, Nat.zero_le _⟩) (fun r_52 hr_52 => ?_)
        have e52 : r_52 = g 10 z6.toInt.toNat := hr_52 (by omega)
        refine lv_istore (lv' := [(7, .int r_52), (0, .ref (za Z 0)), (1, .int x1), (2, .int x2), (3, .int z3), (4, .long z4), (6, .int z6)]) hx hb dX6_bargain_55 hl (by decide) rfl (fun ls hl => ?_)
        refine lv_iload hx hb dX6_bargain_57 (lv_at hl 0 rfl) ?_
        refine lv_iconst (v := (-1)) hx hb dX6_bargain_59 (by decide) ?_
        refine lv_icmp_eq (tgt := 99) hx hb dX6_bargain_60 (by decide) (fun c_60 => ?_) (fun c_60 => ?_)
        · skip
          have i_60 := ti_eqk rfl tk_m1 c_60
          obtain ⟨v_99, e_99⟩ : ∃ y : Int32, y = z6 + 1 := ⟨_, rfl⟩
          refine lv_iinc (v := v_99) (lv' := [(6, .int v_99), (7, .int r_52), (0, .ref (za Z 0)), (1, .int x1), (2, .int x2), (3, .int z3), (4, .long z4)]) hx hb dX6_bargain_99 hl (k := 6) rfl (by rw [e_99]; rfl) (by decide) rfl (fun ls hl => ?_)
          have t_99 := ti_addk rfl tk_1 (by omega) (by omega) e_99
          refine lv_goto (tgt := 40) hx hb dX6_bargain_102 (by decide) ?_
          exact ih40 z3 z4 v_99 hok hd (by omega) (by omega) (by rw [show v_99.toInt.toNat = z6.toInt.toNat + 1 by omega]; exact isG_n hI9 (by rw [← e52]; exact c_60)) hz4 (by omega) ls (lv_sub hl [2, 3, 4, 5, 6, 0] rfl)
        · skip
          have i_60 := ti_nek rfl tk_m1 c_60
          have lo := (hTx.lo (by omega) z6.toInt.toNat (by omega)).resolve_left (by rw [← e52]; exact c_60)
          rw [← e52] at lo
          refine lv_aload_n hx hb dX6_bargain_63 rfl (lv_at hl 1 rfl) ?_
          refine va_get (D := zD Z) (ci := 6) (v := .ref (za Z 3)) (C := RX6) (T := TX6) (N := 11) hx hb hT inlX6 hown hK hP 0 xw_0 rfl 1 (by decide) (hT _ (tr_1 _ (List.mem_of_getElem? (i := 19) rfl))) (fun _ h9 => h9) rfl dX6_bargain_64 ?_
          refine lv_iload hx hb dX6_bargain_67 (lv_at hl 0 rfl) ?_
          refine rd_cr (va_runV (As := [.int r_52]) (rest := []) ⟨hx, hb, hml, hown, hT⟩ (c_X4_at_3 l Z hZ g gl tf r_52 hG) (cwV 1 hT (tb_V (fun _ h => h) (tr_20 _ (List.mem_of_getElem? (i := 6) rfl)) (tr_14 _ (List.mem_of_getElem? (i := 14) rfl)) (tr_14 _ (List.mem_of_getElem? (i := 15) rfl)) (tr_1 _ (List.mem_of_getElem? (i := 18) rfl)) (tr_14 _ (List.mem_of_getElem? (i := 16) rfl))) rfl rfl rfl (by decide +kernel) ⟨Nat.le_of_ble_eq_true rfl, Nat.le_of_ble_eq_true rfl⟩) ⟨fun a U f mk q => ⟨q.1, XI.blind f mk a q.2⟩, va_recv hK hP (ci := 4) (q0 := 3) rfl xw_3, fun U hU hW => ⟨rfl, hI.at hS hP hU hW⟩⟩ rfl rfl hl.1 rfl (lv_room (Nat.le_of_ble_eq_true rfl)) dX6_bargain_69 ⟨Nat.zero_le _, Nat.zero_le _⟩) (fun r_69 hr_69 => ?_)
          have e69 := hr_69.2 r_52.toInt.toNat (by omega) (by omega)
          subst e69
          refine lv_iload hx hb dX6_bargain_72 (lv_at hl 6 rfl) ?_
          obtain ⟨k_74, hk_74⟩ := xt_at (g := g) (gl := gl) (tf := tf) hr_69.1
          refine rd_cl (va_runV (As := [.int z6]) (rest := []) ⟨hx, hb, hml, hown, hT⟩ (c_X3_priceFor l Z hZ g gl tf (ro Z r_52.toInt.toNat) hr_69.1 z6 hG) (cwV 1 hT (tb_V (fun _ h => h) (tr_24 _ (List.mem_of_getElem? (i := 18) rfl)) (tr_16 _ (List.mem_of_getElem? (i := 6) rfl)) (tr_16 _ (List.mem_of_getElem? (i := 7) rfl)) (tr_2 _ (List.mem_of_getElem? (i := 10) rfl)) (tr_16 _ (List.mem_of_getElem? (i := 8) rfl))) rfl rfl rfl (by decide +kernel) ⟨Nat.le_of_ble_eq_true rfl, Nat.le_of_ble_eq_true rfl⟩) ⟨fun a U f mk q => ⟨q.1, XI.blind f mk a q.2⟩, va_recv hK hP (ci := 3) (q0 := k_74) rfl hk_74, fun U hU hW => ⟨rfl, hI.at hS hP hU hW⟩⟩ rfl rfl hl.1 rfl (lv_room (Nat.le_of_ble_eq_true rfl)) dX6_bargain_74 ⟨Nat.zero_le _, Nat.zero_le _⟩) (fun r_74 hr_74 => ?_)
          have p74 : r_74.toInt = (prC (xr Z tf) (g 10)) z6.toInt.toNat := by rw [hr_74 (by omega)]; unfold prC; rw [← e52, ← hz6]; rfl
          
          refine lv_lstore (lv' := [(8, .long r_74), (7, .int r_52), (0, .ref (za Z 0)), (1, .int x1), (2, .int x2), (3, .int z3), (4, .long z4), (6, .int z6)]) hx hb dX6_bargain_77 hl (by decide) rfl (fun ls hl => ?_)
          refine lv_iload_n hx hb dX6_bargain_79 rfl (lv_at hl 5 rfl) ?_
          refine lv_iconst (v := (-1)) hx hb dX6_bargain_80 (by decide) ?_
          refine lv_icmp_eq (tgt := 92) hx hb dX6_bargain_81 (by decide) (fun c_81 => ?_) (fun c_81 => ?_)
          · skip
            have i_81 := ti_eqk rfl tk_m1 c_81
            refine lv_iload hx hb dX6_bargain_92 (lv_at hl 7 rfl) ?_
            refine lv_istore_n (lv' := [(3, .int z6), (8, .long r_74), (7, .int r_52), (0, .ref (za Z 0)), (1, .int x1), (2, .int x2), (4, .long z4), (6, .int z6)]) hx hb dX6_bargain_94 rfl hl (by decide) rfl (fun ls hl => ?_)
            refine lv_lload hx hb dX6_bargain_95 (lv_at hl 1 rfl) ?_
            refine lv_lstore (lv' := [(4, .long r_74), (3, .int z6), (8, .long r_74), (7, .int r_52), (0, .ref (za Z 0)), (1, .int x1), (2, .int x2), (6, .int z6)]) hx hb dX6_bargain_97 hl (by decide) rfl (fun ls hl => ?_)
            obtain ⟨v_99, e_99⟩ : ∃ y : Int32, y = z6 + 1 := ⟨_, rfl⟩
            refine lv_iinc (v := v_99) (lv' := [(6, .int v_99), (4, .long r_74), (3, .int z6), (8, .long r_74), (7, .int r_52), (0, .ref (za Z 0)), (1, .int x1), (2, .int x2)]) hx hb dX6_bargain_99 hl (k := 7) rfl (by rw [e_99]; rfl) (by decide) rfl (fun ls hl => ?_)
            have t_99 := ti_addk rfl tk_1 (by omega) (by omega) e_99
            refine lv_goto (tgt := 40) hx hb dX6_bargain_102 (by decide) ?_
            exact ih40 z6 r_74 v_99 hok hd (by omega) (by omega) (by have q := isG_y hI9 (by omega) (by rw [← e52]; exact c_60) (by first | exact Or.inl c_81 | exact Or.inr ⟨z3.toInt.toNat, nI_ek (by omega), by omega, by have w := hz4 z3.toInt.toNat (by omega) (nI_ek (by omega)); rw [e_88, lg_cmp_ge] at c_89; have w2 := Int64.not_le.mp c_89; rw [Int64.lt_iff_toInt_lt] at w2; omega⟩) (by omega); rw [← hz6] at q; rw [show v_99.toInt.toNat = z6.toInt.toNat + 1 by omega]; exact q) (fun b hb e => by have y : b = z6.toInt.toNat := nI_inj (by omega) (by omega) (e.symm.trans hz6); rw [y]; exact p74) (by omega) ls (lv_sub hl [5, 6, 7, 2, 1, 0] rfl)
          · skip
            have i_81 := ti_nek rfl tk_m1 c_81
            refine lv_lload hx hb dX6_bargain_84 (lv_at hl 0 rfl) ?_
            refine lv_lload hx hb dX6_bargain_86 (lv_at hl 6 rfl) ?_
            refine W.lcmp hx hb dX6_bargain_88 ?_
            refine lv_topi (fun v_88 e_88 => ?_)
            refine lv_if_ge (tgt := 99) hx hb dX6_bargain_89 (by decide) (fun c_89 => ?_) (fun c_89 => ?_)
            · skip
              have i_89 := ti_lek tk_0 rfl c_89
              obtain ⟨v_99, e_99⟩ : ∃ y : Int32, y = z6 + 1 := ⟨_, rfl⟩
              refine lv_iinc (v := v_99) (lv' := [(6, .int v_99), (8, .long r_74), (7, .int r_52), (0, .ref (za Z 0)), (1, .int x1), (2, .int x2), (3, .int z3), (4, .long z4)]) hx hb dX6_bargain_99 hl (k := 7) rfl (by rw [e_99]; rfl) (by decide) rfl (fun ls hl => ?_)
              have t_99 := ti_addk rfl tk_1 (by omega) (by omega) e_99
              refine lv_goto (tgt := 40) hx hb dX6_bargain_102 (by decide) ?_
              exact ih40 z3 z4 v_99 hok hd (by omega) (by omega) (by rw [show v_99.toInt.toNat = z6.toInt.toNat + 1 by omega]; exact isG_k hI9 (b := z3.toInt.toNat) (nI_ek (by omega)) (by omega) (by have w := hz4 z3.toInt.toNat (by omega) (nI_ek (by omega)); rw [e_88, lg_cmp_ge] at c_89; rw [Int64.le_iff_toInt_le] at c_89; omega) (by omega)) hz4 (by omega) ls (lv_sub hl [3, 4, 5, 6, 7, 0] rfl)
            · skip
              have i_89 := ti_nlek tk_0 rfl c_89
              refine lv_iload hx hb dX6_bargain_92 (lv_at hl 7 rfl) ?_
              refine lv_istore_n (lv' := [(3, .int z6), (8, .long r_74), (7, .int r_52), (0, .ref (za Z 0)), (1, .int x1), (2, .int x2), (4, .long z4), (6, .int z6)]) hx hb dX6_bargain_94 rfl hl (by decide) rfl (fun ls hl => ?_)
              refine lv_lload hx hb dX6_bargain_95 (lv_at hl 1 rfl) ?_
              refine lv_lstore (lv' := [(4, .long r_74), (3, .int z6), (8, .long r_74), (7, .int r_52), (0, .ref (za Z 0)), (1, .int x1), (2, .int x2), (6, .int z6)]) hx hb dX6_bargain_97 hl (by decide) rfl (fun ls hl => ?_)
              obtain ⟨v_99, e_99⟩ : ∃ y : Int32, y = z6 + 1 := ⟨_, rfl⟩
              refine lv_iinc (v := v_99) (lv' := [(6, .int v_99), (4, .long r_74), (3, .int z6), (8, .long r_74), (7, .int r_52), (0, .ref (za Z 0)), (1, .int x1), (2, .int x2)]) hx hb dX6_bargain_99 hl (k := 7) rfl (by rw [e_99]; rfl) (by decide) rfl (fun ls hl => ?_)
              have t_99 := ti_addk rfl tk_1 (by omega) (by omega) e_99
              refine lv_goto (tgt := 40) hx hb dX6_bargain_102 (by decide) ?_
              exact ih40 z6 r_74 v_99 hok hd (by omega) (by omega) (by have q := isG_y hI9 (by omega) (by rw [← e52]; exact c_60) (by first | exact Or.inl c_81 | exact Or.inr ⟨z3.toInt.toNat, nI_ek (by omega), by omega, by have w := hz4 z3.toInt.toNat (by omega) (nI_ek (by omega)); rw [e_88, lg_cmp_ge] at c_89; have w2 := Int64.not_le.mp c_89; rw [Int64.lt_iff_toInt_lt] at w2; omega⟩) (by omega); rw [← hz6] at q; rw [show v_99.toInt.toNat = z6.toInt.toNat + 1 by omega]; exact q) (fun b hb e => by have y : b = z6.toInt.toNat := nI_inj (by omega) (by omega) (e.symm.trans hz6); rw [y]; exact p74) (by omega) ls (lv_sub hl [5, 6, 7, 2, 1, 0] rfl)
  refine lv_iload_n hx hb dX6_bargain_0 rfl (lv_at hl 1 rfl) ?_
  refine rd_ci (va_runS (As := [.int x1]) (rest := []) ⟨hx, hb, hml, hown, hT⟩ (c_X6_isQuantity l x1) (va_cwS 1 hT (tb_S (fun _ h => h) (tr_24 _ (List.mem_of_getElem? (i := 16) rfl)) (tr_20 _ (List.mem_of_getElem? (i := 19) rfl)) (tr_1 _ (List.mem_of_getElem? (i := 2) rfl)) (tr_20 _ (List.mem_of_getElem? (i := 20) rfl))) rfl rfl rfl (by decide +kernel) ⟨Nat.le_of_ble_eq_true rfl, Nat.le_of_ble_eq_true rfl⟩) ⟨fun _ _ _ _ q => q, fun U hU hW => ⟨rfl, trivial⟩⟩ rfl rfl hl.1 rfl (lv_room (Nat.le_of_ble_eq_true rfl)) dX6_bargain_1 ⟨Nat.zero_le _, Nat.zero_le _⟩) (fun r_1 hr_1 => ?_)
  rcases hr_1 with ⟨rfl, b_1⟩ | ⟨rfl, b_1⟩
  · skip
    refine lv_if_eq (tgt := 19) hx hb dX6_bargain_4 (by decide) (fun c_4 => absurd c_4 (by decide)) (fun c_4 => ?_)
    refine lv_iload_n hx hb dX6_bargain_7 rfl (lv_at hl 2 rfl) ?_
    refine rd_ci (va_runS (As := [.int x2]) (rest := []) ⟨hx, hb, hml, hown, hT⟩ (c_X6_isQuantity l x2) (va_cwS 1 hT (tb_S (fun _ h => h) (tr_24 _ (List.mem_of_getElem? (i := 16) rfl)) (tr_20 _ (List.mem_of_getElem? (i := 19) rfl)) (tr_1 _ (List.mem_of_getElem? (i := 2) rfl)) (tr_20 _ (List.mem_of_getElem? (i := 20) rfl))) rfl rfl rfl (by decide +kernel) ⟨Nat.le_of_ble_eq_true rfl, Nat.le_of_ble_eq_true rfl⟩) ⟨fun _ _ _ _ q => q, fun U hU hW => ⟨rfl, trivial⟩⟩ rfl rfl hl.1 rfl (lv_room (Nat.le_of_ble_eq_true rfl)) dX6_bargain_8 ⟨Nat.zero_le _, Nat.zero_le _⟩) (fun r_8 hr_8 => ?_)
    rcases hr_8 with ⟨rfl, b_8⟩ | ⟨rfl, b_8⟩
    · skip
      refine lv_if_eq (tgt := 19) hx hb dX6_bargain_11 (by decide) (fun c_11 => absurd c_11 (by decide)) (fun c_11 => ?_)
      refine lv_iload_n hx hb dX6_bargain_14 rfl (lv_at hl 1 rfl) ?_
      refine lv_iload_n hx hb dX6_bargain_15 rfl (lv_at hl 2 rfl) ?_
      refine lv_icmp_le (tgt := 22) hx hb dX6_bargain_16 (by decide) (fun c_16 => ?_) (fun c_16 => ?_)
      · skip
        have i_16 := ti_lek rfl rfl c_16
        refine lv_aload_n hx hb dX6_bargain_22 rfl (lv_at hl 0 rfl) ?_
        refine va_get (D := zD Z) (ci := 6) (v := .int (g 0 8)) (C := RX6) (T := TX6) (N := 11) hx hb hT inlX6 hown hK hP 0 xw_0 rfl 8 (by decide) (hT _ (tr_12 _ (List.mem_of_getElem? (i := 19) rfl))) (fun _ h9 => h9) rfl dX6_bargain_23 ?_
        refine lv_if_ne (tgt := 32) hx hb dX6_bargain_26 (by decide) (fun c_26 => ?_) (fun c_26 => ?_)
        · skip
          have i_26 := ti_nek rfl tk_0 c_26
          refine lv_iconst (v := (-1)) hx hb dX6_bargain_32 (by decide) ?_
          refine lv_istore_n (lv' := [(3, .int (-1)), (0, .ref (za Z 0)), (1, .int x1), (2, .int x2)]) hx hb dX6_bargain_33 rfl hl (by decide) rfl (fun ls hl => ?_)
          refine lv_lconst (v := 0) hx hb dX6_bargain_34 (by decide) ?_
          refine lv_lstore (lv' := [(4, .long 0), (3, .int (-1)), (0, .ref (za Z 0)), (1, .int x1), (2, .int x2)]) hx hb dX6_bargain_35 hl (by decide) rfl (fun ls hl => ?_)
          refine lv_iload_n hx hb dX6_bargain_37 rfl (lv_at hl 3 rfl) ?_
          refine lv_istore (lv' := [(6, .int x1), (4, .long 0), (3, .int (-1)), (0, .ref (za Z 0)), (1, .int x1), (2, .int x2)]) hx hb dX6_bargain_38 hl (by decide) rfl (fun ls hl => ?_)
          exact L40 _ (-1) 0 x1 (by omega) c_26 (by omega) (by decide) isG_0 (fun b hb e => absurd e.symm (nI_ne (by omega))) (Nat.lt_succ_self _) ls (lv_sub hl [3, 4, 5, 2, 1, 0] rfl)
        · skip
          have i_26 := ti_eqk rfl tk_0 c_26
          refine lv_bipush (v := (-103)) hx hb dX6_bargain_29 (by decide) ?_
          exact W.iret (v := (-103)) hx hb hr (fun t ht hW => ⟨(-103), rfl, Or.inr (Or.inl ⟨by omega, c_26, rfl⟩), ht⟩) (fun q hq => by cases hq) dX6_bargain_31
      · skip
        have i_16 := ti_nlek rfl rfl c_16
        refine lv_bipush (v := (-102)) hx hb dX6_bargain_19 (by decide) ?_
        exact W.iret (v := (-102)) hx hb hr (fun t ht hW => ⟨(-102), rfl, Or.inl ⟨by omega, rfl⟩, ht⟩) (fun q hq => by cases hq) dX6_bargain_21
    · skip
      refine lv_if_eq (tgt := 19) hx hb dX6_bargain_11 (by decide) (fun c_11 => ?_) (fun c_11 => absurd c_11 (by decide))
      refine lv_bipush (v := (-102)) hx hb dX6_bargain_19 (by decide) ?_
      exact W.iret (v := (-102)) hx hb hr (fun t ht hW => ⟨(-102), rfl, Or.inl ⟨by omega, rfl⟩, ht⟩) (fun q hq => by cases hq) dX6_bargain_21
  · skip
    refine lv_if_eq (tgt := 19) hx hb dX6_bargain_4 (by decide) (fun c_4 => ?_) (fun c_4 => absurd c_4 (by decide))
    refine lv_bipush (v := (-102)) hx hb dX6_bargain_19 (by decide) ?_
    exact W.iret (v := (-102)) hx hb hr (fun t ht hW => ⟨(-102), rfl, Or.inl ⟨by omega, rfl⟩, ht⟩) (fun q hq => by cases hq) dX6_bargain_21
set_option maxHeartbeats 4000000 in
set_option maxRecDepth 100000 in
theorem c_X6_crossing (l : Launch) (Z : ZT) (hZ : XG Z) (g : Nat → Nat → Int32) (gl : Nat → Nat → Int64) (tf : Nat → Nat → Int32) (x1 : Int32) (x2 : Int32) (hn3 : (g 3 1).toInt ≤ 70) (hG : Gd Z tf) : Met l yX6_crossing (Cond.code yX6_crossing cX6_crossing 6 (some .int) :: wsL_law) ({ frames := 4, cells := 0, slots := 0, locals := 91 } : Room) (va_Pc [.ref (za Z 0), .int x1, .int x2] (XI Z g gl tf)) (rd_Qi (fun r => ((¬ ((0 ≤ x1.toInt ∧ x1.toInt < (g 3 1).toInt) ∧ (0 ≤ x2.toInt ∧ x2.toInt < (g 3 1).toInt) ∧ ¬ x1 = x2) ∧ r = -101) ∨ (((0 ≤ x1.toInt ∧ x1.toInt < (g 3 1).toInt) ∧ (0 ≤ x2.toInt ∧ x2.toInt < (g 3 1).toInt) ∧ ¬ x1 = x2) ∧ ∃ q : Nat, q < 64 ∧ r.toInt = q ∧ ((tf (ro Z x1.toInt.toNat) 3).toInt ≤ (q : Int) ∧ (q : Int) ≤ (tf (ro Z x1.toInt.toNat) 4).toInt ∧ (tf (ro Z x2.toInt.toNat) 3).toInt ≤ (q : Int) ∧ (q : Int) ≤ (tf (ro Z x2.toInt.toNat) 4).toInt ∧ mbt (xr Z tf) x2 x1 (nI q) = true) ∧ (∀ j : Nat, j < q → ¬ ((tf (ro Z x1.toInt.toNat) 3).toInt ≤ (j : Int) ∧ (j : Int) ≤ (tf (ro Z x1.toInt.toNat) 4).toInt ∧ (tf (ro Z x2.toInt.toNat) 3).toInt ≤ (j : Int) ∧ (j : Int) ≤ (tf (ro Z x2.toInt.toNat) 4).toInt ∧ mbt (xr Z tf) x2 x1 (nI j) = true))) ∨ (((0 ≤ x1.toInt ∧ x1.toInt < (g 3 1).toInt) ∧ (0 ≤ x2.toInt ∧ x2.toInt < (g 3 1).toInt) ∧ ¬ x1 = x2) ∧ r = -1 ∧ (∀ j : Nat, j < 64 → ¬ ((tf (ro Z x1.toInt.toNat) 3).toInt ≤ (j : Int) ∧ (j : Int) ≤ (tf (ro Z x1.toInt.toNat) 4).toInt ∧ (tf (ro Z x2.toInt.toNat) 3).toInt ≤ (j : Int) ∧ (j : Int) ≤ (tf (ro Z x2.toInt.toNat) 4).toInt ∧ mbt (xr Z tf) x2 x1 (nI j) = true)))))) 0 0 (fun _ => False) := by
  refine Met.ofW (cc := cX6_crossing) (maxL := 6) (ret := (some .int)) (by decide) rfl ?_
  intro p e s m args below meth c s₁ B hml hv
  obtain ⟨rfl, hI⟩ := hv
  have hx := B.exec
  have hb := B.bytes
  have hr := B.returns
  have hT : ∀ w ∈ wsL_law, w.before ([.ref (za Z 0), .int x1, .int x2] : List Value).toArray s = true := fun w h => atoms_spec (ws := (Cond.code yX6_crossing cX6_crossing 6 (some .int) :: wsL_law)) B.pre w (List.mem_cons_of_mem _ h)
  have hown : s.vm.findClass RX6 = some m.cls := findClass_of_methodNamed B.named
  have hlocks := B.notSynchronized
  have hK := hI.2.1
  have hP := hI.1
  have hS : va_S (zA Z) s.heap s.heap [] := va_S.rf
  have hl := lv_entry ([.ref (za Z 0), .int x1, .int x2]) (n := 6) (Nat.le_of_ble_eq_true rfl)
  rw [lg_entry_eq]
  generalize (lg_sl ([.ref (za Z 0), .int x1, .int x2]) ++ List.replicate (6 - (lg_sl ([.ref (za Z 0), .int x1, .int x2])).length) Slot.unset).toArray = ls at hl ⊢
  have hl : lv_has ls 6 [(0, .ref (za Z 0)), (1, .int x1), (2, .int x2)] := hl
  have L86 : ∀ (n : Nat) (z3 : Int32) (z4 : Int32) (z5 : Int32)  (hnx : ((0 ≤ x1.toInt ∧ x1.toInt < (g 3 1).toInt) ∧ (0 ≤ x2.toInt ∧ x2.toInt < (g 3 1).toInt) ∧ ¬ x1 = x2)) (h3 : z3.toInt = max (tf (ro Z x1.toInt.toNat) 3).toInt (tf (ro Z x2.toInt.toNat) 3).toInt) (h4 : z4.toInt = min (tf (ro Z x1.toInt.toNat) 4).toInt (tf (ro Z x2.toInt.toNat) 4).toInt) (h34 : 0 ≤ z3.toInt ∧ z4.toInt ≤ 63) (h5 : z3.toInt ≤ z5.toInt) (hA : ∀ q : Nat, (q : Int) < z5.toInt → ¬ ((tf (ro Z x1.toInt.toNat) 3).toInt ≤ (q : Int) ∧ (q : Int) ≤ (tf (ro Z x1.toInt.toNat) 4).toInt ∧ (tf (ro Z x2.toInt.toNat) 3).toInt ≤ (q : Int) ∧ (q : Int) ≤ (tf (ro Z x2.toInt.toNat) 4).toInt ∧ mbt (xr Z tf) x2 x1 (nI q) = true)) (hn : (64 - z5.toInt).toNat < n) (ls : Array Slot) (hl : lv_has ls 6 [(0, .ref (za Z 0)), (1, .int x1), (2, .int x2), (3, .int z3), (4, .int z4), (5, .int z5)]), W p l e ({ frames := 4, cells := 0, slots := 0, locals := 91 } : Room) s m ([.ref (za Z 0), .int x1, .int x2] : List Value).toArray below meth c s.heap [] 0 0 (MQ below (rd_Qi (fun r => ((¬ ((0 ≤ x1.toInt ∧ x1.toInt < (g 3 1).toInt) ∧ (0 ≤ x2.toInt ∧ x2.toInt < (g 3 1).toInt) ∧ ¬ x1 = x2) ∧ r = -101) ∨ (((0 ≤ x1.toInt ∧ x1.toInt < (g 3 1).toInt) ∧ (0 ≤ x2.toInt ∧ x2.toInt < (g 3 1).toInt) ∧ ¬ x1 = x2) ∧ ∃ q : Nat, q < 64 ∧ r.toInt = q ∧ ((tf (ro Z x1.toInt.toNat) 3).toInt ≤ (q : Int) ∧ (q : Int) ≤ (tf (ro Z x1.toInt.toNat) 4).toInt ∧ (tf (ro Z x2.toInt.toNat) 3).toInt ≤ (q : Int) ∧ (q : Int) ≤ (tf (ro Z x2.toInt.toNat) 4).toInt ∧ mbt (xr Z tf) x2 x1 (nI q) = true) ∧ (∀ j : Nat, j < q → ¬ ((tf (ro Z x1.toInt.toNat) 3).toInt ≤ (j : Int) ∧ (j : Int) ≤ (tf (ro Z x1.toInt.toNat) 4).toInt ∧ (tf (ro Z x2.toInt.toNat) 3).toInt ≤ (j : Int) ∧ (j : Int) ≤ (tf (ro Z x2.toInt.toNat) 4).toInt ∧ mbt (xr Z tf) x2 x1 (nI j) = true))) ∨ (((0 ≤ x1.toInt ∧ x1.toInt < (g 3 1).toInt) ∧ (0 ≤ x2.toInt ∧ x2.toInt < (g 3 1).toInt) ∧ ¬ x1 = x2) ∧ r = -1 ∧ (∀ j : Nat, j < 64 → ¬ ((tf (ro Z x1.toInt.toNat) 3).toInt ≤ (j : Int) ∧ (j : Int) ≤ (tf (ro Z x1.toInt.toNat) 4).toInt ∧ (tf (ro Z x2.toInt.toNat) 3).toInt ≤ (j : Int) ∧ (j : Int) ≤ (tf (ro Z x2.toInt.toNat) 4).toInt ∧ mbt (xr Z tf) x2 x1 (nI j) = true)))))) ([.ref (za Z 0), .int x1, .int x2] : List Value).toArray s 0 0 (fun _ => False)) (F0 m 86 ls []) := by
    intro n
    induction n with
    | zero => intro z3 z4 z5 hnx h3 h4 h34 h5 hA hn; exact absurd hn (Nat.not_lt_zero _)
    | succ n ih86 =>
      intro z3 z4 z5 hnx h3 h4 h34 h5 hA hn ls hl
      refine lv_iload hx hb dX6_crossing_86 (lv_at hl 5 rfl) ?_
      refine lv_iload hx hb dX6_crossing_88 (lv_at hl 4 rfl) ?_
      refine lv_icmp_gt (tgt := 116) hx hb dX6_crossing_90 (by decide) (fun c_90 => ?_) (fun c_90 => ?_)
      · skip
        have i_90 := ti_ltk rfl rfl c_90
        refine lv_iconst (v := (-1)) hx hb dX6_crossing_116 (by decide) ?_
        exact W.iret (v := (-1)) hx hb hr (fun t ht hW => ⟨(-1), rfl, Or.inr (Or.inr ⟨hnx, rfl, fun j hj h => by rcases Int.lt_or_le (j : Int) z5.toInt with y | y; exact hA j y h; omega⟩), ht⟩) (fun q hq => by cases hq) dX6_crossing_117
      · skip
        have i_90 := ti_nltk rfl rfl c_90
        refine lv_aload_n hx hb dX6_crossing_93 rfl (lv_at hl 0 rfl) ?_
        refine va_get (D := zD Z) (ci := 6) (v := .ref (za Z 3)) (C := RX6) (T := TX6) (N := 11) hx hb hT inlX6 hown hK hP 0 xw_0 rfl 1 (by decide) (hT _ (tr_1 _ (List.mem_of_getElem? (i := 19) rfl))) (fun _ h9 => h9) rfl dX6_crossing_94 ?_
        refine lv_iload_n hx hb dX6_crossing_97 rfl (lv_at hl 2 rfl) ?_
        refine lv_iload_n hx hb dX6_crossing_98 rfl (lv_at hl 1 rfl) ?_
        refine lv_iload hx hb dX6_crossing_99 (lv_at hl 5 rfl) ?_
        refine rd_ci (va_runV (As := [.int x2, .int x1, .int z5]) (rest := []) ⟨hx, hb, hml, hown, hT⟩ (c_X4_isBetter l Z hZ g gl tf x2 x1 z5 hG) (cwV 3 hT (tb_V (fun _ h => h) (tr_32 _ (List.mem_of_getElem? (i := 3) rfl)) (tr_16 _ (List.mem_of_getElem? (i := 2) rfl)) (tr_16 _ (List.mem_of_getElem? (i := 3) rfl)) (tr_1 _ (List.mem_of_getElem? (i := 18) rfl)) (tr_16 _ (List.mem_of_getElem? (i := 4) rfl))) rfl rfl rfl (by decide +kernel) ⟨Nat.le_of_ble_eq_true rfl, Nat.le_of_ble_eq_true rfl⟩) ⟨fun a U f mk q => ⟨q.1, XI.blind f mk a q.2⟩, va_recv hK hP (ci := 4) (q0 := 3) rfl xw_3, fun U hU hW => ⟨rfl, hI.at hS hP hU hW⟩⟩ rfl rfl hl.1 rfl (lv_room (Nat.le_of_ble_eq_true rfl)) dX6_crossing_101 ⟨Nat.zero_le _, Nat.zero_le _⟩) (fun r_101 hr_101 => ?_)
        rcases hr_101 with ⟨rfl, b_101⟩ | ⟨rfl, b_101⟩
        · skip
          refine lv_if_eq (tgt := 110) hx hb dX6_crossing_104 (by decide) (fun c_104 => absurd c_104 (by decide)) (fun c_104 => ?_)
          refine lv_iload hx hb dX6_crossing_107 (lv_at hl 5 rfl) ?_
          exact W.iret (v := z5) hx hb hr (fun t ht hW => ⟨z5, rfl, Or.inr (Or.inl ⟨hnx, z5.toInt.toNat, by omega, by omega, ⟨by omega, by omega, by omega, by omega, by rw [nI_toN (by omega)]; exact b_101 (by omega) (by omega) (by omega)⟩, fun j hj => hA j (by omega)⟩), ht⟩) (fun q hq => by cases hq) dX6_crossing_109
        · skip
          refine lv_if_eq (tgt := 110) hx hb dX6_crossing_104 (by decide) (fun c_104 => ?_) (fun c_104 => absurd c_104 (by decide))
          obtain ⟨v_110, e_110⟩ : ∃ y : Int32, y = z5 + 1 := ⟨_, rfl⟩
          refine lv_iinc (v := v_110) (lv' := [(5, .int v_110), (0, .ref (za Z 0)), (1, .int x1), (2, .int x2), (3, .int z3), (4, .int z4)]) hx hb dX6_crossing_110 hl (k := 5) rfl (by rw [e_110]; rfl) (by decide) rfl (fun ls hl => ?_)
          have t_110 := ti_addk rfl tk_1 (by omega) (by omega) e_110
          refine lv_goto (tgt := 86) hx hb dX6_crossing_113 (by decide) ?_
          exact ih86 z3 z4 v_110 hnx (by first | assumption | omega | decide) (by first | assumption | omega | decide) (by first | assumption | omega | decide) (by omega) (fun q hq h => by rcases Int.lt_or_le (q : Int) z5.toInt with y | y; exact hA q y h; have e : (q : Int) = z5.toInt := (by omega); have b := b_101 (by omega) (by omega) (by omega); rw [show z5 = nI q by rw [show q = z5.toInt.toNat by omega, nI_toN (by omega)], h.2.2.2.2] at b; cases b) (by omega) ls (lv_sub hl [1, 2, 3, 4, 5, 0] rfl)
  refine lv_aload_n hx hb dX6_crossing_0 rfl (lv_at hl 0 rfl) ?_
  refine va_get (D := zD Z) (ci := 6) (v := .ref (za Z 3)) (C := RX6) (T := TX6) (N := 11) hx hb hT inlX6 hown hK hP 0 xw_0 rfl 1 (by decide) (hT _ (tr_1 _ (List.mem_of_getElem? (i := 19) rfl))) (fun _ h9 => h9) rfl dX6_crossing_1 ?_
  refine lv_iload_n hx hb dX6_crossing_4 rfl (lv_at hl 1 rfl) ?_
  refine rd_ci (va_runV (As := [.int x1]) (rest := []) ⟨hx, hb, hml, hown, hT⟩ (c_X4_hasNumber l Z hZ g gl tf x1 hG) (cwV 1 hT (tb_V (fun _ h => h) (tr_20 _ (List.mem_of_getElem? (i := 2) rfl)) (tr_20 _ (List.mem_of_getElem? (i := 3) rfl)) (tr_20 _ (List.mem_of_getElem? (i := 4) rfl)) (tr_1 _ (List.mem_of_getElem? (i := 18) rfl)) (tr_20 _ (List.mem_of_getElem? (i := 5) rfl))) rfl rfl rfl (by decide +kernel) ⟨Nat.le_of_ble_eq_true rfl, Nat.le_of_ble_eq_true rfl⟩) ⟨fun a U f mk q => ⟨q.1, XI.blind f mk a q.2⟩, va_recv hK hP (ci := 4) (q0 := 3) rfl xw_3, fun U hU hW => ⟨rfl, hI.at hS hP hU hW⟩⟩ rfl rfl hl.1 rfl (lv_room (Nat.le_of_ble_eq_true rfl)) dX6_crossing_5 ⟨Nat.zero_le _, Nat.zero_le _⟩) (fun r_5 hr_5 => ?_)
  rcases hr_5 with ⟨rfl, b_5⟩ | ⟨rfl, b_5⟩
  · skip
    refine lv_if_eq (tgt := 27) hx hb dX6_crossing_8 (by decide) (fun c_8 => absurd c_8 (by decide)) (fun c_8 => ?_)
    refine lv_aload_n hx hb dX6_crossing_11 rfl (lv_at hl 0 rfl) ?_
    refine va_get (D := zD Z) (ci := 6) (v := .ref (za Z 3)) (C := RX6) (T := TX6) (N := 11) hx hb hT inlX6 hown hK hP 0 xw_0 rfl 1 (by decide) (hT _ (tr_1 _ (List.mem_of_getElem? (i := 19) rfl))) (fun _ h9 => h9) rfl dX6_crossing_12 ?_
    refine lv_iload_n hx hb dX6_crossing_15 rfl (lv_at hl 2 rfl) ?_
    refine rd_ci (va_runV (As := [.int x2]) (rest := []) ⟨hx, hb, hml, hown, hT⟩ (c_X4_hasNumber l Z hZ g gl tf x2 hG) (cwV 1 hT (tb_V (fun _ h => h) (tr_20 _ (List.mem_of_getElem? (i := 2) rfl)) (tr_20 _ (List.mem_of_getElem? (i := 3) rfl)) (tr_20 _ (List.mem_of_getElem? (i := 4) rfl)) (tr_1 _ (List.mem_of_getElem? (i := 18) rfl)) (tr_20 _ (List.mem_of_getElem? (i := 5) rfl))) rfl rfl rfl (by decide +kernel) ⟨Nat.le_of_ble_eq_true rfl, Nat.le_of_ble_eq_true rfl⟩) ⟨fun a U f mk q => ⟨q.1, XI.blind f mk a q.2⟩, va_recv hK hP (ci := 4) (q0 := 3) rfl xw_3, fun U hU hW => ⟨rfl, hI.at hS hP hU hW⟩⟩ rfl rfl hl.1 rfl (lv_room (Nat.le_of_ble_eq_true rfl)) dX6_crossing_16 ⟨Nat.zero_le _, Nat.zero_le _⟩) (fun r_16 hr_16 => ?_)
    rcases hr_16 with ⟨rfl, b_16⟩ | ⟨rfl, b_16⟩
    · skip
      refine lv_if_eq (tgt := 27) hx hb dX6_crossing_19 (by decide) (fun c_19 => absurd c_19 (by decide)) (fun c_19 => ?_)
      refine lv_iload_n hx hb dX6_crossing_22 rfl (lv_at hl 1 rfl) ?_
      refine lv_iload_n hx hb dX6_crossing_23 rfl (lv_at hl 2 rfl) ?_
      refine lv_icmp_ne (tgt := 30) hx hb dX6_crossing_24 (by decide) (fun c_24 => ?_) (fun c_24 => ?_)
      · skip
        have i_24 := ti_nek rfl rfl c_24
        refine lv_aload_n hx hb dX6_crossing_30 rfl (lv_at hl 0 rfl) ?_
        refine va_get (D := zD Z) (ci := 6) (v := .ref (za Z 3)) (C := RX6) (T := TX6) (N := 11) hx hb hT inlX6 hown hK hP 0 xw_0 rfl 1 (by decide) (hT _ (tr_1 _ (List.mem_of_getElem? (i := 19) rfl))) (fun _ h9 => h9) rfl dX6_crossing_31 ?_
        refine lv_iload_n hx hb dX6_crossing_34 rfl (lv_at hl 1 rfl) ?_
        refine rd_cr (va_runV (As := [.int x1]) (rest := []) ⟨hx, hb, hml, hown, hT⟩ (c_X4_at_3 l Z hZ g gl tf x1 hG) (cwV 1 hT (tb_V (fun _ h => h) (tr_20 _ (List.mem_of_getElem? (i := 6) rfl)) (tr_14 _ (List.mem_of_getElem? (i := 14) rfl)) (tr_14 _ (List.mem_of_getElem? (i := 15) rfl)) (tr_1 _ (List.mem_of_getElem? (i := 18) rfl)) (tr_14 _ (List.mem_of_getElem? (i := 16) rfl))) rfl rfl rfl (by decide +kernel) ⟨Nat.le_of_ble_eq_true rfl, Nat.le_of_ble_eq_true rfl⟩) ⟨fun a U f mk q => ⟨q.1, XI.blind f mk a q.2⟩, va_recv hK hP (ci := 4) (q0 := 3) rfl xw_3, fun U hU hW => ⟨rfl, hI.at hS hP hU hW⟩⟩ rfl rfl hl.1 rfl (lv_room (Nat.le_of_ble_eq_true rfl)) dX6_crossing_35 ⟨Nat.zero_le _, Nat.zero_le _⟩) (fun r_35 hr_35 => ?_)
        have e35 := hr_35.2 x1.toInt.toNat (by omega) (by omega)
        subst e35
        obtain ⟨k_38, hk_38⟩ := xt_at (g := g) (gl := gl) (tf := tf) hr_35.1
        refine va_get (D := zD Z) (ci := 3) (v := .int (tf (ro Z x1.toInt.toNat) 3)) (C := RX3) (T := TX3) (N := 5) hx hb hT inlX3 hown hK hP k_38 hk_38 rfl 3 (by decide) (hT _ (tr_20 _ (List.mem_of_getElem? (i := 0) rfl))) (fun _ h9 => h9) rfl dX6_crossing_38 ?_
        refine lv_aload_n hx hb dX6_crossing_41 rfl (lv_at hl 0 rfl) ?_
        refine va_get (D := zD Z) (ci := 6) (v := .ref (za Z 3)) (C := RX6) (T := TX6) (N := 11) hx hb hT inlX6 hown hK hP 0 xw_0 rfl 1 (by decide) (hT _ (tr_1 _ (List.mem_of_getElem? (i := 19) rfl))) (fun _ h9 => h9) rfl dX6_crossing_42 ?_
        refine lv_iload_n hx hb dX6_crossing_45 rfl (lv_at hl 2 rfl) ?_
        refine rd_cr (va_runV (As := [.int x2]) (rest := [.int (tf (ro Z x1.toInt.toNat) 3)]) ⟨hx, hb, hml, hown, hT⟩ (c_X4_at_3 l Z hZ g gl tf x2 hG) (cwV 1 hT (tb_V (fun _ h => h) (tr_20 _ (List.mem_of_getElem? (i := 6) rfl)) (tr_14 _ (List.mem_of_getElem? (i := 14) rfl)) (tr_14 _ (List.mem_of_getElem? (i := 15) rfl)) (tr_1 _ (List.mem_of_getElem? (i := 18) rfl)) (tr_14 _ (List.mem_of_getElem? (i := 16) rfl))) rfl rfl rfl (by decide +kernel) ⟨Nat.le_of_ble_eq_true rfl, Nat.le_of_ble_eq_true rfl⟩) ⟨fun a U f mk q => ⟨q.1, XI.blind f mk a q.2⟩, va_recv hK hP (ci := 4) (q0 := 3) rfl xw_3, fun U hU hW => ⟨rfl, hI.at hS hP hU hW⟩⟩ rfl rfl hl.1 rfl (lv_room (Nat.le_of_ble_eq_true rfl)) dX6_crossing_46 ⟨Nat.zero_le _, Nat.zero_le _⟩) (fun r_46 hr_46 => ?_)
        have e46 := hr_46.2 x2.toInt.toNat (by omega) (by omega)
        subst e46
        obtain ⟨k_49, hk_49⟩ := xt_at (g := g) (gl := gl) (tf := tf) hr_46.1
        refine va_get (D := zD Z) (ci := 3) (v := .int (tf (ro Z x2.toInt.toNat) 3)) (C := RX3) (T := TX3) (N := 5) hx hb hT inlX3 hown hK hP k_49 hk_49 rfl 3 (by decide) (hT _ (tr_20 _ (List.mem_of_getElem? (i := 0) rfl))) (fun _ h9 => h9) rfl dX6_crossing_49 ?_
        refine va_mmax hx hb (hml.trans hl.1.symm) hown (hT _ (tr_32 _ (List.mem_of_getElem? (i := 1) rfl))) (hT _ (tr_3 _ (List.mem_of_getElem? (i := 0) rfl))) (hT _ (tr_3 _ (List.mem_of_getElem? (i := 1) rfl))) (hT _ (tr_3 _ (List.mem_of_getElem? (i := 2) rfl))) (Nat.le_of_ble_eq_true rfl) (Nat.le_of_ble_eq_true rfl) (Nat.zero_le _) (Nat.zero_le _) dX6_crossing_52 ?_
        refine lv_topi (fun v_52 e_52 => ?_)
        refine lv_istore_n (lv' := [(3, .int v_52), (0, .ref (za Z 0)), (1, .int x1), (2, .int x2)]) hx hb dX6_crossing_55 rfl hl (by decide) rfl (fun ls hl => ?_)
        have m52 : v_52.toInt = max (tf (ro Z x1.toInt.toNat) 3).toInt (tf (ro Z x2.toInt.toNat) 3).toInt := by rw [e_52]; split <;> (rename_i z; first | (have y := ti_lt z; omega) | (have y := ti_nlt z; omega) | (have y := ti_le z; omega) | (have y := ti_nle z; omega))
        refine lv_aload_n hx hb dX6_crossing_56 rfl (lv_at hl 1 rfl) ?_
        refine va_get (D := zD Z) (ci := 6) (v := .ref (za Z 3)) (C := RX6) (T := TX6) (N := 11) hx hb hT inlX6 hown hK hP 0 xw_0 rfl 1 (by decide) (hT _ (tr_1 _ (List.mem_of_getElem? (i := 19) rfl))) (fun _ h9 => h9) rfl dX6_crossing_57 ?_
        refine lv_iload_n hx hb dX6_crossing_60 rfl (lv_at hl 2 rfl) ?_
        refine rd_cr (va_runV (As := [.int x1]) (rest := []) ⟨hx, hb, hml, hown, hT⟩ (c_X4_at_3 l Z hZ g gl tf x1 hG) (cwV 1 hT (tb_V (fun _ h => h) (tr_20 _ (List.mem_of_getElem? (i := 6) rfl)) (tr_14 _ (List.mem_of_getElem? (i := 14) rfl)) (tr_14 _ (List.mem_of_getElem? (i := 15) rfl)) (tr_1 _ (List.mem_of_getElem? (i := 18) rfl)) (tr_14 _ (List.mem_of_getElem? (i := 16) rfl))) rfl rfl rfl (by decide +kernel) ⟨Nat.le_of_ble_eq_true rfl, Nat.le_of_ble_eq_true rfl⟩) ⟨fun a U f mk q => ⟨q.1, XI.blind f mk a q.2⟩, va_recv hK hP (ci := 4) (q0 := 3) rfl xw_3, fun U hU hW => ⟨rfl, hI.at hS hP hU hW⟩⟩ rfl rfl hl.1 rfl (lv_room (Nat.le_of_ble_eq_true rfl)) dX6_crossing_61 ⟨Nat.zero_le _, Nat.zero_le _⟩) (fun r_61 hr_61 => ?_)
        have e61 := hr_61.2 x1.toInt.toNat (by omega) (by omega)
        subst e61
        obtain ⟨k_64, hk_64⟩ := xt_at (g := g) (gl := gl) (tf := tf) hr_61.1
        refine va_get (D := zD Z) (ci := 3) (v := .int (tf (ro Z x1.toInt.toNat) 4)) (C := RX3) (T := TX3) (N := 5) hx hb hT inlX3 hown hK hP k_64 hk_64 rfl 4 (by decide) (hT _ (tr_20 _ (List.mem_of_getElem? (i := 1) rfl))) (fun _ h9 => h9) rfl dX6_crossing_64 ?_
        refine lv_aload_n hx hb dX6_crossing_67 rfl (lv_at hl 1 rfl) ?_
        refine va_get (D := zD Z) (ci := 6) (v := .ref (za Z 3)) (C := RX6) (T := TX6) (N := 11) hx hb hT inlX6 hown hK hP 0 xw_0 rfl 1 (by decide) (hT _ (tr_1 _ (List.mem_of_getElem? (i := 19) rfl))) (fun _ h9 => h9) rfl dX6_crossing_68 ?_
        refine lv_iload_n hx hb dX6_crossing_71 rfl (lv_at hl 3 rfl) ?_
        refine rd_cr (va_runV (As := [.int x2]) (rest := [.int (tf (ro Z x1.toInt.toNat) 4)]) ⟨hx, hb, hml, hown, hT⟩ (c_X4_at_3 l Z hZ g gl tf x2 hG) (cwV 1 hT (tb_V (fun _ h => h) (tr_20 _ (List.mem_of_getElem? (i := 6) rfl)) (tr_14 _ (List.mem_of_getElem? (i := 14) rfl)) (tr_14 _ (List.mem_of_getElem? (i := 15) rfl)) (tr_1 _ (List.mem_of_getElem? (i := 18) rfl)) (tr_14 _ (List.mem_of_getElem? (i := 16) rfl))) rfl rfl rfl (by decide +kernel) ⟨Nat.le_of_ble_eq_true rfl, Nat.le_of_ble_eq_true rfl⟩) ⟨fun a U f mk q => ⟨q.1, XI.blind f mk a q.2⟩, va_recv hK hP (ci := 4) (q0 := 3) rfl xw_3, fun U hU hW => ⟨rfl, hI.at hS hP hU hW⟩⟩ rfl rfl hl.1 rfl (lv_room (Nat.le_of_ble_eq_true rfl)) dX6_crossing_72 ⟨Nat.zero_le _, Nat.zero_le _⟩) (fun r_72 hr_72 => ?_)
        have e72 := hr_72.2 x2.toInt.toNat (by omega) (by omega)
        subst e72
        obtain ⟨k_75, hk_75⟩ := xt_at (g := g) (gl := gl) (tf := tf) hr_72.1
        refine va_get (D := zD Z) (ci := 3) (v := .int (tf (ro Z x2.toInt.toNat) 4)) (C := RX3) (T := TX3) (N := 5) hx hb hT inlX3 hown hK hP k_75 hk_75 rfl 4 (by decide) (hT _ (tr_20 _ (List.mem_of_getElem? (i := 1) rfl))) (fun _ h9 => h9) rfl dX6_crossing_75 ?_
        refine va_mmin hx hb (hml.trans hl.1.symm) hown (hT _ (tr_32 _ (List.mem_of_getElem? (i := 2) rfl))) (hT _ (tr_8 _ (List.mem_of_getElem? (i := 9) rfl))) (hT _ (tr_3 _ (List.mem_of_getElem? (i := 1) rfl))) (hT _ (tr_8 _ (List.mem_of_getElem? (i := 10) rfl))) (Nat.le_of_ble_eq_true rfl) (Nat.le_of_ble_eq_true rfl) (Nat.zero_le _) (Nat.zero_le _) dX6_crossing_78 ?_
        refine lv_topi (fun v_78 e_78 => ?_)
        refine lv_istore (lv' := [(4, .int v_78), (3, .int v_52), (0, .ref (za Z 0)), (1, .int x1), (2, .int x2)]) hx hb dX6_crossing_81 hl (by decide) rfl (fun ls hl => ?_)
        have m78 : v_78.toInt = min (tf (ro Z x1.toInt.toNat) 4).toInt (tf (ro Z x2.toInt.toNat) 4).toInt := by rw [e_78]; split <;> (rename_i z; first | (have y := ti_lt z; omega) | (have y := ti_nlt z; omega) | (have y := ti_le z; omega) | (have y := ti_nle z; omega))
        have g1 := hG _ (hZ.mem (k := 1 + x1.toInt.toNat) (by omega))
        have g2 := hG _ (hZ.mem (k := 1 + x2.toInt.toNat) (by omega))
        have g1 : (0 ≤ (tf (ro Z x1.toInt.toNat) 3).toInt ∧ (tf (ro Z x1.toInt.toNat) 3).toInt ≤ 63) ∧ (0 ≤ (tf (ro Z x1.toInt.toNat) 4).toInt ∧ (tf (ro Z x1.toInt.toNat) 4).toInt ≤ 63) := g1
        have g2 : (0 ≤ (tf (ro Z x2.toInt.toNat) 3).toInt ∧ (tf (ro Z x2.toInt.toNat) 3).toInt ≤ 63) ∧ (0 ≤ (tf (ro Z x2.toInt.toNat) 4).toInt ∧ (tf (ro Z x2.toInt.toNat) 4).toInt ≤ 63) := g2
        refine lv_iload_n hx hb dX6_crossing_83 rfl (lv_at hl 1 rfl) ?_
        refine lv_istore (lv' := [(5, .int v_52), (4, .int v_78), (3, .int v_52), (0, .ref (za Z 0)), (1, .int x1), (2, .int x2)]) hx hb dX6_crossing_84 hl (by decide) rfl (fun ls hl => ?_)
        exact L86 _ v_52 v_78 v_52 ⟨b_5, b_16, c_24⟩ (by first | assumption | omega | decide) (by first | assumption | omega | decide) (by first | assumption | omega | decide) (by omega) (fun q hq h => by omega) (Nat.lt_succ_self _) ls (lv_sub hl [3, 4, 5, 2, 1, 0] rfl)
      · skip
        have i_24 := ti_eqk rfl rfl c_24
        refine lv_bipush (v := (-101)) hx hb dX6_crossing_27 (by decide) ?_
        exact W.iret (v := (-101)) hx hb hr (fun t ht hW => ⟨(-101), rfl, Or.inl ⟨fun z => by first | exact b_5 z.1 | exact b_16 z.2.1 | exact z.2.2 c_24, rfl⟩, ht⟩) (fun q hq => by cases hq) dX6_crossing_29
    · skip
      refine lv_if_eq (tgt := 27) hx hb dX6_crossing_19 (by decide) (fun c_19 => ?_) (fun c_19 => absurd c_19 (by decide))
      refine lv_bipush (v := (-101)) hx hb dX6_crossing_27 (by decide) ?_
      exact W.iret (v := (-101)) hx hb hr (fun t ht hW => ⟨(-101), rfl, Or.inl ⟨fun z => by first | exact b_5 z.1 | exact b_16 z.2.1 | exact z.2.2 c_24, rfl⟩, ht⟩) (fun q hq => by cases hq) dX6_crossing_29
  · skip
    refine lv_if_eq (tgt := 27) hx hb dX6_crossing_8 (by decide) (fun c_8 => ?_) (fun c_8 => absurd c_8 (by decide))
    refine lv_bipush (v := (-101)) hx hb dX6_crossing_27 (by decide) ?_
    exact W.iret (v := (-101)) hx hb hr (fun t ht hW => ⟨(-101), rfl, Or.inl ⟨fun z => by first | exact b_5 z.1 | exact b_16 z.2.1 | exact z.2.2 c_24, rfl⟩, ht⟩) (fun q hq => by cases hq) dX6_crossing_29
set_option maxHeartbeats 4000000 in
set_option maxRecDepth 100000 in
theorem c_X6_would (l : Launch) (Z : ZT) (hZ : XG Z) (g : Nat → Nat → Int32) (gl : Nat → Nat → Int64) (tf : Nat → Nat → Int32) (x1 : Int32) (x2 : Int32) (x3 : Int32) (x4 : Int32) (hn4 : 0 ≤ (g 3 1).toInt ∧ (g 3 1).toInt ≤ 40) (hTx : TX (xr Z tf) (g 3 1).toInt.toNat g) (hG : Gd Z tf) : Met l yX6_would (Cond.code yX6_would cX6_would 9 (some .int) :: wsL_law) ({ frames := 6, cells := 0, slots := 0, locals := 132 } : Room) (va_Pc [.ref (za Z 0), .int x1, .int x2, .int x3, .int x4] (XI Z g gl tf)) (va_Qi (fun (r : Int32) (u : (Nat → Nat → Int32) × (Nat → Nat → Int64) × (Nat → Nat → Int32)) => Fr [] g u.1 ∧ Gd Z u.2.2 ∧ g = u.1 ∧ ((∃ c, rjF (g 0 8) (g 3 1) x1 x2 x3 x4 c ∧ ((¬ c = 0 ∧ r = c) ∨ (c = 0 ∧ r.toInt = (cB (wdB (xr Z tf) (g 10) x1 x2 x3 (x4 / 100) (x4 - x4 / 100 * 100)) 64 : Int)))) ∧ (∀ b, b ≠ za Z 24 → u.2.2 b = tf b))) (fun u t => va_P (zD Z) vwCl (xw Z u.1 u.2.1 u.2.2) t.heap) (zA Z)) 0 0 (zA Z) := by
  refine Met.ofW (cc := cX6_would) (maxL := 9) (ret := (some .int)) (by decide) rfl ?_
  intro p e s m args below meth c s₁ B hml hv
  obtain ⟨rfl, hI⟩ := hv
  have hx := B.exec
  have hb := B.bytes
  have hr := B.returns
  have hT : ∀ w ∈ wsL_law, w.before ([.ref (za Z 0), .int x1, .int x2, .int x3, .int x4] : List Value).toArray s = true := fun w h => atoms_spec (ws := (Cond.code yX6_would cX6_would 9 (some .int) :: wsL_law)) B.pre w (List.mem_cons_of_mem _ h)
  have hown : s.vm.findClass RX6 = some m.cls := findClass_of_methodNamed B.named
  have hlocks := B.notSynchronized
  have hK := hI.2.1
  have hP := hI.1
  have hS : va_S (zA Z) s.heap s.heap [] := va_S.rf
  have hF : Fr [] g g := Fr.rf
  have w3 : (wrT tf (za Z 24) x1 x2 x3 (x4 / 100) (x4 - x4 / 100 * 100)) (za Z 24) 3 = (x4 / 100) := wrT_3
  have w4 : (wrT tf (za Z 24) x1 x2 x3 (x4 / 100) (x4 - x4 / 100 * 100)) (za Z 24) 4 = (x4 - x4 / 100 * 100) := wrT_4
  have w3i := congrArg Int32.toInt w3
  have w4i := congrArg Int32.toInt w4
  have hl := lv_entry ([.ref (za Z 0), .int x1, .int x2, .int x3, .int x4]) (n := 9) (Nat.le_of_ble_eq_true rfl)
  rw [lg_entry_eq]
  generalize (lg_sl ([.ref (za Z 0), .int x1, .int x2, .int x3, .int x4]) ++ List.replicate (9 - (lg_sl ([.ref (za Z 0), .int x1, .int x2, .int x3, .int x4])).length) Slot.unset).toArray = ls at hl ⊢
  have hl : lv_has ls 9 [(0, .ref (za Z 0)), (1, .int x1), (2, .int x2), (3, .int x3), (4, .int x4)] := hl
  have L31 : ∀ (n : Nat) (z5 : Int32) (z6 : Int32) (z7 : Int32) (g1 : Nat → Nat → Int32) (gl1 : Nat → Nat → Int64) (H : Heap) (locs : List Loc) (hP : va_P (zD Z) vwCl (xw Z g1 gl1 (wrT tf (za Z 24) x1 x2 x3 (x4 / 100) (x4 - x4 / 100 * 100))) H) (hF : Fr [] g g1) (hG : Gd Z (wrT tf (za Z 24) x1 x2 x3 (x4 / 100) (x4 - x4 / 100 * 100))) (hS : va_S (zA Z) s.heap H locs) (hR0 : rjF (g 0 8) (g 3 1) x1 x2 x3 x4 0) (hv4 : 0 ≤ (x4 / 100).toInt ∧ (x4 - x4 / 100 * 100).toInt ≤ 63) (h7 : (x4 / 100).toInt ≤ z7.toInt ∧ z7.toInt ≤ 64) (hC : z6.toInt = (cB (wdB (xr Z tf) (g 10) x1 x2 x3 (x4 / 100) (x4 - x4 / 100 * 100)) z7.toInt.toNat : Int)) (hn : (64 - z7.toInt).toNat < n) (ls : Array Slot) (hl : lv_has ls 9 [(0, .ref (za Z 0)), (1, .int x1), (2, .int x2), (3, .int x3), (4, .int x4), (5, .int z5), (6, .int z6), (7, .int z7)]), W p l e ({ frames := 6, cells := 0, slots := 0, locals := 132 } : Room) s m ([.ref (za Z 0), .int x1, .int x2, .int x3, .int x4] : List Value).toArray below meth c H locs 0 0 (MQ below (va_Qi (fun (r : Int32) (u : (Nat → Nat → Int32) × (Nat → Nat → Int64) × (Nat → Nat → Int32)) => Fr [] g u.1 ∧ Gd Z u.2.2 ∧ g = u.1 ∧ ((∃ c, rjF (g 0 8) (g 3 1) x1 x2 x3 x4 c ∧ ((¬ c = 0 ∧ r = c) ∨ (c = 0 ∧ r.toInt = (cB (wdB (xr Z tf) (g 10) x1 x2 x3 (x4 / 100) (x4 - x4 / 100 * 100)) 64 : Int)))) ∧ (∀ b, b ≠ za Z 24 → u.2.2 b = tf b))) (fun u t => va_P (zD Z) vwCl (xw Z u.1 u.2.1 u.2.2) t.heap) (zA Z)) ([.ref (za Z 0), .int x1, .int x2, .int x3, .int x4] : List Value).toArray s 0 0 (zA Z)) (F0 m 31 ls []) := by
    intro n
    induction n with
    | zero => intro z5 z6 z7 g1 gl1 H locs hP hF hG hS hR0 hv4 h7 hC hn; exact absurd hn (Nat.not_lt_zero _)
    | succ n ih31 =>
      intro z5 z6 z7 g1 gl1 H locs hP hF hG hS hR0 hv4 h7 hC hn ls hl
      refine lv_iload hx hb dX6_would_31 (lv_at hl 7 rfl) ?_
      refine lv_aload_n hx hb dX6_would_33 rfl (lv_at hl 0 rfl) ?_
      refine va_get (D := zD Z) (ci := 6) (v := .ref (za Z 24)) (C := RX6) (T := TX6) (N := 11) hx hb hT inlX6 hown hK hP 0 xw_0 rfl 5 (by decide) (hT _ (tr_2 _ (List.mem_of_getElem? (i := 11) rfl))) (fun _ h9 => h9) rfl dX6_would_34 ?_
      obtain ⟨k_37, hk_37⟩ := xt_at (g := g1) (gl := gl1) (tf := (wrT tf (za Z 24) x1 x2 x3 (x4 / 100) (x4 - x4 / 100 * 100))) hZ.ask
      refine va_get (D := zD Z) (ci := 3) (v := .int ((wrT tf (za Z 24) x1 x2 x3 (x4 / 100) (x4 - x4 / 100 * 100)) (za Z 24) 4)) (C := RX3) (T := TX3) (N := 5) hx hb hT inlX3 hown hK hP k_37 hk_37 rfl 4 (by decide) (hT _ (tr_20 _ (List.mem_of_getElem? (i := 1) rfl))) (fun _ h9 => h9) rfl dX6_would_37 ?_
      refine lv_icmp_gt (tgt := 96) hx hb dX6_would_40 (by decide) (fun c_40 => ?_) (fun c_40 => ?_)
      · skip
        have i_40 := ti_ltk rfl rfl c_40
        refine lv_iload hx hb dX6_would_96 (lv_at hl 6 rfl) ?_
        exact W.iret (v := z6) hx hb hr (fun t ht hW => ⟨⟨z6, (g1, gl1, (wrT tf (za Z 24) x1 x2 x3 (x4 / 100) (x4 - x4 / 100 * 100))), rfl, ⟨hF, hG, (funext fun i => (hF i (by simp)).symm), (by (try dsimp only); first | done | exact ⟨⟨0, hR0, Or.inr ⟨rfl, by have q := cB_t (p := (wdB (xr Z tf) (g 10) x1 x2 x3 (x4 / 100) (x4 - x4 / 100 * 100))) (i := z7.toInt.toNat) (64 - z7.toInt.toNat) (fun j h1 h2 z => by have z := (of_decide_eq_true z).1; omega); rw [show z7.toInt.toNat + (64 - z7.toInt.toNat) = 64 by omega] at q; rw [q]; exact hC⟩⟩, fun b hb => wrT_ne hb⟩)⟩, by show va_P (zD Z) vwCl (xw Z g1 gl1 (wrT tf (za Z 24) x1 x2 x3 (x4 / 100) (x4 - x4 / 100 * 100))) t.heap; rw [ht]; exact hP⟩, hS.F ht⟩) hS.2.2 dX6_would_98
      · skip
        have i_40 := ti_nltk rfl rfl c_40
        have q10 : g1 10 = g 10 := hF 10 (by simp)
        have hz7 : z7 = nI z7.toInt.toNat := nI_ek (by omega)
        have cl := cB_le (wdB (xr Z tf) (g 10) x1 x2 x3 (x4 / 100) (x4 - x4 / 100 * 100)) z7.toInt.toNat
        refine lv_aload_n hx hb dX6_would_43 rfl (lv_at hl 0 rfl) ?_
        refine va_get (D := zD Z) (ci := 6) (v := .ref (za Z 5)) (C := RX6) (T := TX6) (N := 11) hx hb hT inlX6 hown hK hP 0 xw_0 rfl 2 (by decide) (hT _ (tr_1 _ (List.mem_of_getElem? (i := 23) rfl))) (fun _ h9 => h9) rfl dX6_would_44 ?_
        refine lv_iload hx hb dX6_would_47 (lv_at hl 7 rfl) ?_
        refine rd_ci (va_runV (As := [.int z7]) (rest := []) ⟨hx, hb, hml, hown, hT⟩ (c_X5_lowestFor l Z hZ g1 gl1 (wrT tf (za Z 24) x1 x2 x3 (x4 / 100) (x4 - x4 / 100 * 100)) z7 hG) (cwV 1 hT (tb_V (fun _ h => h) (tr_20 _ (List.mem_of_getElem? (i := 15) rfl)) (tr_20 _ (List.mem_of_getElem? (i := 16) rfl)) (tr_20 _ (List.mem_of_getElem? (i := 17) rfl)) (tr_1 _ (List.mem_of_getElem? (i := 22) rfl)) (tr_20 _ (List.mem_of_getElem? (i := 18) rfl))) rfl rfl rfl (by decide +kernel) ⟨Nat.le_of_ble_eq_true rfl, Nat.le_of_ble_eq_true rfl⟩) ⟨fun a U f mk q => ⟨q.1, XI.blind f mk a q.2⟩, va_recv hK hP (ci := 5) (q0 := 5) rfl xw_5, fun U hU hW => ⟨rfl, hI.at hS hP hU hW⟩⟩ rfl rfl hl.1 rfl (lv_room (Nat.le_of_ble_eq_true rfl)) dX6_would_49 ⟨Nat.zero_le _, Nat.zero_le _⟩) (fun r_49 hr_49 => ?_)
        have e49 : r_49 = g 10 z7.toInt.toNat := by rw [← q10]; exact hr_49 (by omega)
        refine lv_istore (lv' := [(8, .int r_49), (0, .ref (za Z 0)), (1, .int x1), (2, .int x2), (3, .int x3), (4, .int x4), (5, .int z5), (6, .int z6), (7, .int z7)]) hx hb dX6_would_52 hl (by decide) rfl (fun ls hl => ?_)
        refine lv_iload hx hb dX6_would_54 (lv_at hl 0 rfl) ?_
        refine lv_iconst (v := (-1)) hx hb dX6_would_56 (by decide) ?_
        refine lv_icmp_eq (tgt := 87) hx hb dX6_would_57 (by decide) (fun c_57 => ?_) (fun c_57 => ?_)
        · skip
          have i_57 := ti_eqk rfl tk_m1 c_57
          obtain ⟨v_87, e_87⟩ : ∃ y : Int32, y = z6 + 1 := ⟨_, rfl⟩
          refine lv_iinc (v := v_87) (lv' := [(6, .int v_87), (8, .int r_49), (0, .ref (za Z 0)), (1, .int x1), (2, .int x2), (3, .int x3), (4, .int x4), (5, .int z5), (7, .int z7)]) hx hb dX6_would_87 hl (k := 7) rfl (by rw [e_87]; rfl) (by decide) rfl (fun ls hl => ?_)
          have t_87 := ti_addk rfl tk_1 (by omega) (by omega) e_87
          obtain ⟨v_90, e_90⟩ : ∃ y : Int32, y = z7 + 1 := ⟨_, rfl⟩
          refine lv_iinc (v := v_90) (lv' := [(7, .int v_90), (6, .int v_87), (8, .int r_49), (0, .ref (za Z 0)), (1, .int x1), (2, .int x2), (3, .int x3), (4, .int x4), (5, .int z5)]) hx hb dX6_would_90 hl (k := 8) rfl (by rw [e_90]; rfl) (by decide) rfl (fun ls hl => ?_)
          have t_90 := ti_addk rfl tk_1 (by omega) (by omega) e_90
          refine lv_goto (tgt := 31) hx hb dX6_would_93 (by decide) ?_
          exact ih31 z5 v_87 v_90 g1 gl1 _ _ hP hF hG hS hR0 hv4 (by omega) (by rw [show v_90.toInt.toNat = z7.toInt.toNat + 1 by omega, cB_y (p := (wdB (xr Z tf) (g 10) x1 x2 x3 (x4 / 100) (x4 - x4 / 100 * 100))) (n := z7.toInt.toNat) (decide_eq_true ⟨by omega, by first | exact Or.inl (by rw [← e49]; exact c_57) | exact Or.inr (by rw [← hz7, ← p66, ← p80]; rw [e_83, lg_cmp_ge] at c_84; have w := Int64.not_le.mp c_84; rw [Int64.lt_iff_toInt_lt] at w; exact w)⟩)]; omega) (by omega) ls (lv_sub hl [3, 4, 5, 6, 7, 8, 1, 0] rfl)
        · skip
          have i_57 := ti_nek rfl tk_m1 c_57
          have lo := (hTx.lo (by omega) z7.toInt.toNat (by omega)).resolve_left (by rw [← e49]; exact c_57)
          rw [← e49] at lo
          refine lv_aload_n hx hb dX6_would_60 rfl (lv_at hl 1 rfl) ?_
          refine va_get (D := zD Z) (ci := 6) (v := .ref (za Z 24)) (C := RX6) (T := TX6) (N := 11) hx hb hT inlX6 hown hK hP 0 xw_0 rfl 5 (by decide) (hT _ (tr_2 _ (List.mem_of_getElem? (i := 11) rfl))) (fun _ h9 => h9) rfl dX6_would_61 ?_
          refine lv_iload hx hb dX6_would_64 (lv_at hl 8 rfl) ?_
          obtain ⟨k_66, hk_66⟩ := xt_at (g := g1) (gl := gl1) (tf := (wrT tf (za Z 24) x1 x2 x3 (x4 / 100) (x4 - x4 / 100 * 100))) hZ.ask
          refine rd_cl (va_runV (As := [.int z7]) (rest := []) ⟨hx, hb, hml, hown, hT⟩ (c_X3_priceFor l Z hZ g1 gl1 (wrT tf (za Z 24) x1 x2 x3 (x4 / 100) (x4 - x4 / 100 * 100)) (za Z 24) hZ.ask z7 hG) (cwV 1 hT (tb_V (fun _ h => h) (tr_24 _ (List.mem_of_getElem? (i := 18) rfl)) (tr_16 _ (List.mem_of_getElem? (i := 6) rfl)) (tr_16 _ (List.mem_of_getElem? (i := 7) rfl)) (tr_2 _ (List.mem_of_getElem? (i := 10) rfl)) (tr_16 _ (List.mem_of_getElem? (i := 8) rfl))) rfl rfl rfl (by decide +kernel) ⟨Nat.le_of_ble_eq_true rfl, Nat.le_of_ble_eq_true rfl⟩) ⟨fun a U f mk q => ⟨q.1, XI.blind f mk a q.2⟩, va_recv hK hP (ci := 3) (q0 := k_66) rfl hk_66, fun U hU hW => ⟨rfl, hI.at hS hP hU hW⟩⟩ rfl rfl hl.1 rfl (lv_room (Nat.le_of_ble_eq_true rfl)) dX6_would_66 ⟨Nat.zero_le _, Nat.zero_le _⟩) (fun r_66 hr_66 => ?_)
          have p66 : r_66.toInt = (mpF x1 x2 x3 (x4 / 100) z7).toInt := by rw [hr_66 (by omega), wrT_0, wrT_1, wrT_2, wrT_3]
          refine lv_aload_n hx hb dX6_would_69 rfl (lv_at hl 1 rfl) ?_
          refine va_get (D := zD Z) (ci := 6) (v := .ref (za Z 3)) (C := RX6) (T := TX6) (N := 11) hx hb hT inlX6 hown hK hP 0 xw_0 rfl 1 (by decide) (hT _ (tr_1 _ (List.mem_of_getElem? (i := 19) rfl))) (fun _ h9 => h9) rfl dX6_would_70 ?_
          refine lv_iload hx hb dX6_would_73 (lv_at hl 0 rfl) ?_
          refine rd_cr (va_runV (As := [.int r_49]) (rest := [.long r_66]) ⟨hx, hb, hml, hown, hT⟩ (c_X4_at_3 l Z hZ g1 gl1 (wrT tf (za Z 24) x1 x2 x3 (x4 / 100) (x4 - x4 / 100 * 100)) r_49 hG) (cwV 1 hT (tb_V (fun _ h => h) (tr_20 _ (List.mem_of_getElem? (i := 6) rfl)) (tr_14 _ (List.mem_of_getElem? (i := 14) rfl)) (tr_14 _ (List.mem_of_getElem? (i := 15) rfl)) (tr_1 _ (List.mem_of_getElem? (i := 18) rfl)) (tr_14 _ (List.mem_of_getElem? (i := 16) rfl))) rfl rfl rfl (by decide +kernel) ⟨Nat.le_of_ble_eq_true rfl, Nat.le_of_ble_eq_true rfl⟩) ⟨fun a U f mk q => ⟨q.1, XI.blind f mk a q.2⟩, va_recv hK hP (ci := 4) (q0 := 3) rfl xw_3, fun U hU hW => ⟨rfl, hI.at hS hP hU hW⟩⟩ rfl rfl hl.1 rfl (lv_room (Nat.le_of_ble_eq_true rfl)) dX6_would_75 ⟨Nat.zero_le _, Nat.zero_le _⟩) (fun r_75 hr_75 => ?_)
          have e75 := hr_75.2 r_49.toInt.toNat (by omega) (by omega)
          subst e75
          refine lv_iload hx hb dX6_would_78 (lv_at hl 8 rfl) ?_
          obtain ⟨k_80, hk_80⟩ := xt_at (g := g1) (gl := gl1) (tf := (wrT tf (za Z 24) x1 x2 x3 (x4 / 100) (x4 - x4 / 100 * 100))) hr_75.1
          refine rd_cl (va_runV (As := [.int z7]) (rest := [.long r_66]) ⟨hx, hb, hml, hown, hT⟩ (c_X3_priceFor l Z hZ g1 gl1 (wrT tf (za Z 24) x1 x2 x3 (x4 / 100) (x4 - x4 / 100 * 100)) (ro Z r_49.toInt.toNat) hr_75.1 z7 hG) (cwV 1 hT (tb_V (fun _ h => h) (tr_24 _ (List.mem_of_getElem? (i := 18) rfl)) (tr_16 _ (List.mem_of_getElem? (i := 6) rfl)) (tr_16 _ (List.mem_of_getElem? (i := 7) rfl)) (tr_2 _ (List.mem_of_getElem? (i := 10) rfl)) (tr_16 _ (List.mem_of_getElem? (i := 8) rfl))) rfl rfl rfl (by decide +kernel) ⟨Nat.le_of_ble_eq_true rfl, Nat.le_of_ble_eq_true rfl⟩) ⟨fun a U f mk q => ⟨q.1, XI.blind f mk a q.2⟩, va_recv hK hP (ci := 3) (q0 := k_80) rfl hk_80, fun U hU hW => ⟨rfl, hI.at hS hP hU hW⟩⟩ rfl rfl hl.1 rfl (lv_room (Nat.le_of_ble_eq_true rfl)) dX6_would_80 ⟨Nat.zero_le _, Nat.zero_le _⟩) (fun r_80 hr_80 => ?_)
          have p80 : r_80.toInt = prC (xr Z tf) (g 10) z7.toInt.toNat := by rw [hr_80 (by omega), wrT_ne (hZ.ra (by omega))]; unfold prC; rw [← e49, ← hz7]; rfl
          refine W.lcmp hx hb dX6_would_83 ?_
          refine lv_topi (fun v_83 e_83 => ?_)
          refine lv_if_ge (tgt := 90) hx hb dX6_would_84 (by decide) (fun c_84 => ?_) (fun c_84 => ?_)
          · skip
            have i_84 := ti_lek tk_0 rfl c_84
            obtain ⟨v_90, e_90⟩ : ∃ y : Int32, y = z7 + 1 := ⟨_, rfl⟩
            refine lv_iinc (v := v_90) (lv' := [(7, .int v_90), (8, .int r_49), (0, .ref (za Z 0)), (1, .int x1), (2, .int x2), (3, .int x3), (4, .int x4), (5, .int z5), (6, .int z6)]) hx hb dX6_would_90 hl (k := 8) rfl (by rw [e_90]; rfl) (by decide) rfl (fun ls hl => ?_)
            have t_90 := ti_addk rfl tk_1 (by omega) (by omega) e_90
            refine lv_goto (tgt := 31) hx hb dX6_would_93 (by decide) ?_
            exact ih31 z5 z6 v_90 g1 gl1 _ _ hP hF hG hS hR0 hv4 (by omega) (by rw [show v_90.toInt.toNat = z7.toInt.toNat + 1 by omega, cB_n (p := (wdB (xr Z tf) (g 10) x1 x2 x3 (x4 / 100) (x4 - x4 / 100 * 100))) (n := z7.toInt.toNat) (fun z => by have z := (of_decide_eq_true z).2; rcases z with z | z; exact c_57 (e49.trans z); rw [← hz7, ← p66, ← p80] at z; rw [e_83, lg_cmp_ge, Int64.le_iff_toInt_le] at c_84; omega)]; exact hC) (by omega) ls (lv_sub hl [2, 3, 4, 5, 6, 7, 8, 0] rfl)
          · skip
            have i_84 := ti_nlek tk_0 rfl c_84
            obtain ⟨v_87, e_87⟩ : ∃ y : Int32, y = z6 + 1 := ⟨_, rfl⟩
            refine lv_iinc (v := v_87) (lv' := [(6, .int v_87), (8, .int r_49), (0, .ref (za Z 0)), (1, .int x1), (2, .int x2), (3, .int x3), (4, .int x4), (5, .int z5), (7, .int z7)]) hx hb dX6_would_87 hl (k := 7) rfl (by rw [e_87]; rfl) (by decide) rfl (fun ls hl => ?_)
            have t_87 := ti_addk rfl tk_1 (by omega) (by omega) e_87
            obtain ⟨v_90, e_90⟩ : ∃ y : Int32, y = z7 + 1 := ⟨_, rfl⟩
            refine lv_iinc (v := v_90) (lv' := [(7, .int v_90), (6, .int v_87), (8, .int r_49), (0, .ref (za Z 0)), (1, .int x1), (2, .int x2), (3, .int x3), (4, .int x4), (5, .int z5)]) hx hb dX6_would_90 hl (k := 8) rfl (by rw [e_90]; rfl) (by decide) rfl (fun ls hl => ?_)
            have t_90 := ti_addk rfl tk_1 (by omega) (by omega) e_90
            refine lv_goto (tgt := 31) hx hb dX6_would_93 (by decide) ?_
            exact ih31 z5 v_87 v_90 g1 gl1 _ _ hP hF hG hS hR0 hv4 (by omega) (by rw [show v_90.toInt.toNat = z7.toInt.toNat + 1 by omega, cB_y (p := (wdB (xr Z tf) (g 10) x1 x2 x3 (x4 / 100) (x4 - x4 / 100 * 100))) (n := z7.toInt.toNat) (decide_eq_true ⟨by omega, by first | exact Or.inl (by rw [← e49]; exact c_57) | exact Or.inr (by rw [← hz7, ← p66, ← p80]; rw [e_83, lg_cmp_ge] at c_84; have w := Int64.not_le.mp c_84; rw [Int64.lt_iff_toInt_lt] at w; exact w)⟩)]; omega) (by omega) ls (lv_sub hl [3, 4, 5, 6, 7, 8, 1, 0] rfl)
  refine lv_aload_n hx hb dX6_would_0 rfl (lv_at hl 0 rfl) ?_
  refine lv_iload_n hx hb dX6_would_1 rfl (lv_at hl 1 rfl) ?_
  refine lv_iload_n hx hb dX6_would_2 rfl (lv_at hl 2 rfl) ?_
  refine lv_iload_n hx hb dX6_would_3 rfl (lv_at hl 3 rfl) ?_
  refine lv_iload hx hb dX6_would_4 (lv_at hl 4 rfl) ?_
  refine va_calli (va_runV (As := [.int x1, .int x2, .int x3, .int x4]) (rest := []) ⟨hx, hb, hml, hown, hT⟩ (c_X6_refusalOf l Z hZ g gl tf x1 x2 x3 x4 hG) (cwV 4 hT (tb_V (fun _ h => h) (tr_26 _ (List.mem_of_getElem? (i := 8) rfl)) (tr_26 _ (List.mem_of_getElem? (i := 9) rfl)) (tr_26 _ (List.mem_of_getElem? (i := 10) rfl)) (tr_1 _ (List.mem_of_getElem? (i := 2) rfl)) (tr_26 _ (List.mem_of_getElem? (i := 11) rfl))) rfl rfl rfl (by decide +kernel) ⟨Nat.le_of_ble_eq_true rfl, Nat.le_of_ble_eq_true rfl⟩) ⟨fun a U f mk q => ⟨q.1, XI.blind f mk a q.2⟩, va_recv hK hP (ci := 6) (q0 := 0) rfl xw_0, fun U hU hW => ⟨rfl, hI.at hS hP hU hW⟩⟩ rfl rfl hl.1 rfl (lv_room (Nat.le_of_ble_eq_true rfl)) dX6_would_6 ⟨Nat.zero_le _, Nat.zero_le _⟩) hS (fun q _ h => h) (fun q h => h) (fun r_6 u_6 t_6 H locs ht_6 _ hw_6 hB_6 _ _ hS => ?_)
  obtain ⟨g_6, gl_6, tf_6⟩ := u_6
  have hP : va_P (zD Z) vwCl (xw Z g_6 gl_6 tf_6) H := ht_6 ▸ hB_6
  obtain ⟨hf_6, hG, eg_6, hr_6⟩ := hw_6
  have hF := hF.tr hf_6 (by decide)
  (try dsimp only at hf_6 hG hF eg_6 hr_6)
  subst eg_6
  refine lv_istore (lv' := [(5, .int r_6), (0, .ref (za Z 0)), (1, .int x1), (2, .int x2), (3, .int x3), (4, .int x4)]) hx hb dX6_would_9 hl (by decide) rfl (fun ls hl => ?_)
  refine lv_iload hx hb dX6_would_11 (lv_at hl 0 rfl) ?_
  refine lv_if_eq (tgt := 19) hx hb dX6_would_13 (by decide) (fun c_13 => ?_) (fun c_13 => ?_)
  · skip
    have i_13 := ti_eqk rfl tk_0 c_13
    have v6 := rjF_0 hr_6.1 c_13
    have d6 := dv100 v6.1.2.1
    have w6 := hr_6.2.2 c_13
    subst w6
    refine lv_iconst (v := 0) hx hb dX6_would_19 (by decide) ?_
    refine lv_istore (lv' := [(6, .int 0), (5, .int r_6), (0, .ref (za Z 0)), (1, .int x1), (2, .int x2), (3, .int x3), (4, .int x4)]) hx hb dX6_would_20 hl (by decide) rfl (fun ls hl => ?_)
    refine lv_aload_n hx hb dX6_would_22 rfl (lv_at hl 2 rfl) ?_
    refine va_get (D := zD Z) (ci := 6) (v := .ref (za Z 24)) (C := RX6) (T := TX6) (N := 11) hx hb hT inlX6 hown hK hP 0 xw_0 rfl 5 (by decide) (hT _ (tr_2 _ (List.mem_of_getElem? (i := 11) rfl))) (fun _ h9 => h9) rfl dX6_would_23 ?_
    obtain ⟨k_26, hk_26⟩ := xt_at (g := g) (gl := gl_6) (tf := (wrT tf (za Z 24) x1 x2 x3 (x4 / 100) (x4 - x4 / 100 * 100))) hZ.ask
    refine va_get (D := zD Z) (ci := 3) (v := .int ((wrT tf (za Z 24) x1 x2 x3 (x4 / 100) (x4 - x4 / 100 * 100)) (za Z 24) 3)) (C := RX3) (T := TX3) (N := 5) hx hb hT inlX3 hown hK hP k_26 hk_26 rfl 3 (by decide) (hT _ (tr_20 _ (List.mem_of_getElem? (i := 0) rfl))) (fun _ h9 => h9) rfl dX6_would_26 ?_
    refine lv_istore (lv' := [(7, .int ((wrT tf (za Z 24) x1 x2 x3 (x4 / 100) (x4 - x4 / 100 * 100)) (za Z 24) 3)), (6, .int 0), (5, .int r_6), (0, .ref (za Z 0)), (1, .int x1), (2, .int x2), (3, .int x3), (4, .int x4)]) hx hb dX6_would_29 hl (by decide) rfl (fun ls hl => ?_)
    exact L31 _ r_6 0 ((wrT tf (za Z 24) x1 x2 x3 (x4 / 100) (x4 - x4 / 100 * 100)) (za Z 24) 3) g gl_6 _ _ hP hF hG hS (c_13 ▸ hr_6.1) ⟨d6.1, v6.1.2.2.2.1⟩ (by rw [w3]; have q := v6.1.2.2.1; omega) (by rw [tk_0, w3, cB_z _ (fun i hi z => by have z := of_decide_eq_true z; omega)]; rfl) (Nat.lt_succ_self _) ls (lv_sub hl [3, 4, 5, 6, 7, 2, 1, 0] rfl)
  · skip
    have i_13 := ti_nek rfl tk_0 c_13
    refine lv_iload hx hb dX6_would_16 (lv_at hl 0 rfl) ?_
    exact W.iret (v := r_6) hx hb hr (fun t ht hW => ⟨⟨r_6, (g, gl_6, tf_6), rfl, ⟨hF, hG, (funext fun i => (hF i (by simp)).symm), (by (try dsimp only); first | done | exact ⟨⟨r_6, hr_6.1, Or.inl ⟨c_13, rfl⟩⟩, hr_6.2.1⟩)⟩, by show va_P (zD Z) vwCl (xw Z g gl_6 tf_6) t.heap; rw [ht]; exact hP⟩, hS.F ht⟩) hS.2.2 dX6_would_18
set_option maxHeartbeats 4000000 in
set_option maxRecDepth 100000 in
theorem c_X6_see (l : Launch) (Z : ZT) (hZ : XG Z) (g : Nat → Nat → Int32) (gl : Nat → Nat → Int64) (tf : Nat → Nat → Int32) (x1 : Int32) (x2 : Int32) (x3 : Int32) (hG : Gd Z tf) : Met l yX6_see (Cond.code yX6_see cX6_see 4 (some .int) :: wsL_law) ({ frames := 1, cells := 0, slots := 0, locals := 23 } : Room) (va_Pc [.ref (za Z 0), .int x1, .int x2, .int x3] (XI Z g gl tf)) (va_Qi (fun (r : Int32) (u : (Nat → Nat → Int32) × (Nat → Nat → Int64) × (Nat → Nat → Int32)) => Fr [11, 12, 13, 14] g u.1 ∧ Gd Z u.2.2 ∧ tf = u.2.2 ∧ ((¬ (0 ≤ x1.toInt ∧ x1.toInt < (g 3 1).toInt ∧ 0 ≤ x2.toInt ∧ x2.toInt ≤ 63) ∧ r = -101 ∧ u.1 = g) ∨ ((0 ≤ x1.toInt ∧ x1.toInt < (g 3 1).toInt ∧ 0 ≤ x2.toInt ∧ x2.toInt ≤ 63) ∧ ¬ (0 ≤ (g 11 4).toInt ∧ (g 11 4).toInt < 6) ∧ r = -104 ∧ u.1 = g) ∨ ((0 ≤ x1.toInt ∧ x1.toInt < (g 3 1).toInt ∧ 0 ≤ x2.toInt ∧ x2.toInt ≤ 63) ∧ (0 ≤ (g 11 4).toInt ∧ (g 11 4).toInt < 6) ∧ r = g 11 4 + 1 ∧ u.1 = up2 (upR (upR (upR g 12 (upd (g 12) (g 11 4).toNatClampNeg x1)) 13 (upd (g 13) (g 11 4).toNatClampNeg x2)) 14 (upd (g 14) (g 11 4).toNatClampNeg x3)) 11 4 (g 11 4 + 1)))) (fun u t => va_P (zD Z) vwCl (xw Z u.1 u.2.1 u.2.2) t.heap) (zA Z)) 0 0 (zA Z) := by
  refine Met.ofW (cc := cX6_see) (maxL := 4) (ret := (some .int)) (by decide) rfl ?_
  intro p e s m args below meth c s₁ B hml hv
  obtain ⟨rfl, hI⟩ := hv
  have hx := B.exec
  have hb := B.bytes
  have hr := B.returns
  have hT : ∀ w ∈ wsL_law, w.before ([.ref (za Z 0), .int x1, .int x2, .int x3] : List Value).toArray s = true := fun w h => atoms_spec (ws := (Cond.code yX6_see cX6_see 4 (some .int) :: wsL_law)) B.pre w (List.mem_cons_of_mem _ h)
  have hown : s.vm.findClass RX6 = some m.cls := findClass_of_methodNamed B.named
  have hlocks := B.notSynchronized
  have hK := hI.2.1
  have hP := hI.1
  have hS : va_S (zA Z) s.heap s.heap [] := va_S.rf
  have hF : Fr [11, 12, 13, 14] g g := Fr.rf
  have hl := lv_entry ([.ref (za Z 0), .int x1, .int x2, .int x3]) (n := 4) (Nat.le_of_ble_eq_true rfl)
  rw [lg_entry_eq]
  generalize (lg_sl ([.ref (za Z 0), .int x1, .int x2, .int x3]) ++ List.replicate (4 - (lg_sl ([.ref (za Z 0), .int x1, .int x2, .int x3])).length) Slot.unset).toArray = ls at hl ⊢
  have hl : lv_has ls 4 [(0, .ref (za Z 0)), (1, .int x1), (2, .int x2), (3, .int x3)] := hl
  refine lv_aload_n hx hb dX6_see_0 rfl (lv_at hl 0 rfl) ?_
  refine va_get (D := zD Z) (ci := 6) (v := .ref (za Z 3)) (C := RX6) (T := TX6) (N := 11) hx hb hT inlX6 hown hK hP 0 xw_0 rfl 1 (by decide) (hT _ (tr_1 _ (List.mem_of_getElem? (i := 19) rfl))) (fun _ h9 => h9) rfl dX6_see_1 ?_
  refine lv_iload_n hx hb dX6_see_4 rfl (lv_at hl 1 rfl) ?_
  refine rd_ci (va_runV (As := [.int x1]) (rest := []) ⟨hx, hb, hml, hown, hT⟩ (c_X4_hasNumber l Z hZ g gl tf x1 hG) (cwV 1 hT (tb_V (fun _ h => h) (tr_20 _ (List.mem_of_getElem? (i := 2) rfl)) (tr_20 _ (List.mem_of_getElem? (i := 3) rfl)) (tr_20 _ (List.mem_of_getElem? (i := 4) rfl)) (tr_1 _ (List.mem_of_getElem? (i := 18) rfl)) (tr_20 _ (List.mem_of_getElem? (i := 5) rfl))) rfl rfl rfl (by decide +kernel) ⟨Nat.le_of_ble_eq_true rfl, Nat.le_of_ble_eq_true rfl⟩) ⟨fun a U f mk q => ⟨q.1, XI.blind f mk a q.2⟩, va_recv hK hP (ci := 4) (q0 := 3) rfl xw_3, fun U hU hW => ⟨rfl, hI.at hS hP hU hW⟩⟩ rfl rfl hl.1 rfl (lv_room (Nat.le_of_ble_eq_true rfl)) dX6_see_5 ⟨Nat.zero_le _, Nat.zero_le _⟩) (fun r_5 hr_5 => ?_)
  rcases hr_5 with ⟨rfl, b_5⟩ | ⟨rfl, b_5⟩
  · skip
    refine lv_if_eq (tgt := 18) hx hb dX6_see_8 (by decide) (fun c_8 => absurd c_8 (by decide)) (fun c_8 => ?_)
    refine lv_iload_n hx hb dX6_see_11 rfl (lv_at hl 2 rfl) ?_
    refine rd_ci (va_runS (As := [.int x2]) (rest := []) ⟨hx, hb, hml, hown, hT⟩ (c_X6_isQuantity l x2) (va_cwS 1 hT (tb_S (fun _ h => h) (tr_24 _ (List.mem_of_getElem? (i := 16) rfl)) (tr_20 _ (List.mem_of_getElem? (i := 19) rfl)) (tr_1 _ (List.mem_of_getElem? (i := 2) rfl)) (tr_20 _ (List.mem_of_getElem? (i := 20) rfl))) rfl rfl rfl (by decide +kernel) ⟨Nat.le_of_ble_eq_true rfl, Nat.le_of_ble_eq_true rfl⟩) ⟨fun _ _ _ _ q => q, fun U hU hW => ⟨rfl, trivial⟩⟩ rfl rfl hl.1 rfl (lv_room (Nat.le_of_ble_eq_true rfl)) dX6_see_12 ⟨Nat.zero_le _, Nat.zero_le _⟩) (fun r_12 hr_12 => ?_)
    rcases hr_12 with ⟨rfl, b_12⟩ | ⟨rfl, b_12⟩
    · skip
      refine lv_if_ne (tgt := 21) hx hb dX6_see_15 (by decide) (fun c_15 => ?_) (fun c_15 => absurd c_15 (by decide))
      refine lv_aload_n hx hb dX6_see_21 rfl (lv_at hl 0 rfl) ?_
      refine va_get (D := zD Z) (ci := 6) (v := .ref (za Z 11)) (C := RX6) (T := TX6) (N := 11) hx hb hT inlX6 hown hK hP 0 xw_0 rfl 3 (by decide) (hT _ (tr_2 _ (List.mem_of_getElem? (i := 3) rfl))) (fun _ h9 => h9) rfl dX6_see_22 ?_
      refine lv_iload_n hx hb dX6_see_25 rfl (lv_at hl 1 rfl) ?_
      refine lv_iload_n hx hb dX6_see_26 rfl (lv_at hl 2 rfl) ?_
      refine lv_iload_n hx hb dX6_see_27 rfl (lv_at hl 3 rfl) ?_
      refine va_calli (va_runV (As := [.int x1, .int x2, .int x3]) (rest := []) ⟨hx, hb, hml, hown, hT⟩ (c_X2_write_11 l Z hZ g gl tf x1 x2 x3 hG) (cwV 3 hT (tb_V (fun _ h => h) (tr_33 _ (List.mem_of_getElem? (i := 0) rfl)) (tr_33 _ (List.mem_of_getElem? (i := 1) rfl)) (tr_33 _ (List.mem_of_getElem? (i := 2) rfl)) (tr_2 _ (List.mem_of_getElem? (i := 2) rfl)) (tr_33 _ (List.mem_of_getElem? (i := 3) rfl))) rfl rfl rfl (by decide +kernel) ⟨Nat.le_of_ble_eq_true rfl, Nat.le_of_ble_eq_true rfl⟩) ⟨fun a U f mk q => ⟨q.1, XI.blind f mk a q.2⟩, va_recv hK hP (ci := 2) (q0 := 11) rfl xw_11, fun U hU hW => ⟨rfl, hI.at hS hP hU hW⟩⟩ rfl rfl hl.1 rfl (lv_room (Nat.le_of_ble_eq_true rfl)) dX6_see_28 ⟨Nat.zero_le _, Nat.zero_le _⟩) hS (fun q _ h => h) (fun q h => h) (fun r_28 u_28 t_28 H locs ht_28 _ hw_28 hB_28 _ _ hS => ?_)
      obtain ⟨g_28, gl_28, tf_28⟩ := u_28
      have hP : va_P (zD Z) vwCl (xw Z g_28 gl_28 tf_28) H := ht_28 ▸ hB_28
      obtain ⟨hf_28, hG, et_28, hr_28⟩ := hw_28
      have hF := hF.tr hf_28 (by decide)
      (try dsimp only at hf_28 hG hF et_28 hr_28)
      subst et_28
      rcases hr_28 with ⟨rfl, b_28⟩ | ⟨rfl, b_28⟩
      · skip
        refine lv_if_eq (tgt := 44) hx hb dX6_see_31 (by decide) (fun c_31 => absurd c_31 (by decide)) (fun c_31 => ?_)
        refine lv_aload_n hx hb dX6_see_34 rfl (lv_at hl 0 rfl) ?_
        refine va_get (D := zD Z) (ci := 6) (v := .ref (za Z 11)) (C := RX6) (T := TX6) (N := 11) hx hb hT inlX6 hown hK hP 0 xw_0 rfl 3 (by decide) (hT _ (tr_2 _ (List.mem_of_getElem? (i := 3) rfl))) (fun _ h9 => h9) rfl dX6_see_35 ?_
        refine va_get (D := zD Z) (ci := 2) (v := .int (g_28 11 4)) (C := RX2) (T := TX2) (N := 5) hx hb hT inlX2 hown hK hP 11 xw_11 rfl 4 (by decide) (hT _ (tr_12 _ (List.mem_of_getElem? (i := 17) rfl))) (fun _ h9 => h9) rfl dX6_see_38 ?_
        refine lv_goto (tgt := 46) hx hb dX6_see_41 (by decide) ?_
        exact W.iret (v := (g_28 11 4)) hx hb hr (fun t ht hW => ⟨⟨(g_28 11 4), (g_28, gl_28, tf), rfl, ⟨hF, hG, rfl, (by (try dsimp only); first | done | exact Or.inr (Or.inr ⟨by omega, b_28.1, (by rw [b_28.2]; rfl), b_28.2⟩))⟩, by show va_P (zD Z) vwCl (xw Z g_28 gl_28 tf) t.heap; rw [ht]; exact hP⟩, hS.F ht⟩) hS.2.2 dX6_see_46
      · skip
        refine lv_if_eq (tgt := 44) hx hb dX6_see_31 (by decide) (fun c_31 => ?_) (fun c_31 => absurd c_31 (by decide))
        refine lv_bipush (v := (-104)) hx hb dX6_see_44 (by decide) ?_
        exact W.iret (v := (-104)) hx hb hr (fun t ht hW => ⟨⟨(-104), (g_28, gl_28, tf), rfl, ⟨hF, hG, rfl, (by (try dsimp only); first | done | exact Or.inr (Or.inl ⟨by omega, b_28.1, rfl, b_28.2⟩))⟩, by show va_P (zD Z) vwCl (xw Z g_28 gl_28 tf) t.heap; rw [ht]; exact hP⟩, hS.F ht⟩) hS.2.2 dX6_see_46
    · skip
      refine lv_if_ne (tgt := 21) hx hb dX6_see_15 (by decide) (fun c_15 => absurd c_15 (by decide)) (fun c_15 => ?_)
      refine lv_bipush (v := (-101)) hx hb dX6_see_18 (by decide) ?_
      exact W.iret (v := (-101)) hx hb hr (fun t ht hW => ⟨⟨(-101), (g, gl, tf), rfl, ⟨hF, hG, rfl, (by (try dsimp only); first | done | exact Or.inl ⟨by omega, rfl, rfl⟩)⟩, by show va_P (zD Z) vwCl (xw Z g gl tf) t.heap; rw [ht]; exact hP⟩, hS.F ht⟩) hS.2.2 dX6_see_20
  · skip
    refine lv_if_eq (tgt := 18) hx hb dX6_see_8 (by decide) (fun c_8 => ?_) (fun c_8 => absurd c_8 (by decide))
    refine lv_bipush (v := (-101)) hx hb dX6_see_18 (by decide) ?_
    exact W.iret (v := (-101)) hx hb hr (fun t ht hW => ⟨⟨(-101), (g, gl, tf), rfl, ⟨hF, hG, rfl, (by (try dsimp only); first | done | exact Or.inl ⟨by omega, rfl, rfl⟩)⟩, by show va_P (zD Z) vwCl (xw Z g gl tf) t.heap; rw [ht]; exact hP⟩, hS.F ht⟩) hS.2.2 dX6_see_20
set_option maxHeartbeats 4000000 in
set_option maxRecDepth 100000 in
theorem c_X6_forget (l : Launch) (Z : ZT) (hZ : XG Z) (g : Nat → Nat → Int32) (gl : Nat → Nat → Int64) (tf : Nat → Nat → Int32)  (hG : Gd Z tf) : Met l yX6_forget (Cond.code yX6_forget cX6_forget 2 (some .int) :: wsL_law) ({ frames := 0, cells := 0, slots := 0, locals := 0 } : Room) (va_Pc [.ref (za Z 0)] (XI Z g gl tf)) (va_Qi (fun (r : Int32) (u : (Nat → Nat → Int32) × (Nat → Nat → Int64) × (Nat → Nat → Int32)) => Fr [11] g u.1 ∧ Gd Z u.2.2 ∧ tf = u.2.2 ∧ (up2 g 11 4 0) = u.1 ∧ r = g 11 4) (fun u t => va_P (zD Z) vwCl (xw Z u.1 u.2.1 u.2.2) t.heap) (zA Z)) 0 0 (zA Z) := by
  refine Met.ofW (cc := cX6_forget) (maxL := 2) (ret := (some .int)) (by decide) rfl ?_
  intro p e s m args below meth c s₁ B hml hv
  obtain ⟨rfl, hI⟩ := hv
  have hx := B.exec
  have hb := B.bytes
  have hr := B.returns
  have hT : ∀ w ∈ wsL_law, w.before ([.ref (za Z 0)] : List Value).toArray s = true := fun w h => atoms_spec (ws := (Cond.code yX6_forget cX6_forget 2 (some .int) :: wsL_law)) B.pre w (List.mem_cons_of_mem _ h)
  have hown : s.vm.findClass RX6 = some m.cls := findClass_of_methodNamed B.named
  have hlocks := B.notSynchronized
  have hK := hI.2.1
  have hP := hI.1
  have hS : va_S (zA Z) s.heap s.heap [] := va_S.rf
  have hF : Fr [11] g g := Fr.rf
  have hl := lv_entry ([.ref (za Z 0)]) (n := 2) (Nat.le_of_ble_eq_true rfl)
  rw [lg_entry_eq]
  generalize (lg_sl ([.ref (za Z 0)]) ++ List.replicate (2 - (lg_sl ([.ref (za Z 0)])).length) Slot.unset).toArray = ls at hl ⊢
  have hl : lv_has ls 2 [(0, .ref (za Z 0))] := hl
  refine lv_aload_n hx hb dX6_forget_0 rfl (lv_at hl 0 rfl) ?_
  refine va_get (D := zD Z) (ci := 6) (v := .ref (za Z 11)) (C := RX6) (T := TX6) (N := 11) hx hb hT inlX6 hown hK hP 0 xw_0 rfl 3 (by decide) (hT _ (tr_2 _ (List.mem_of_getElem? (i := 3) rfl))) (fun _ h9 => h9) rfl dX6_forget_1 ?_
  refine va_get (D := zD Z) (ci := 2) (v := .int (g 11 4)) (C := RX2) (T := TX2) (N := 5) hx hb hT inlX2 hown hK hP 11 xw_11 rfl 4 (by decide) (hT _ (tr_12 _ (List.mem_of_getElem? (i := 17) rfl))) (fun _ h9 => h9) rfl dX6_forget_4 ?_
  refine lv_istore_n (lv' := [(1, .int (g 11 4)), (0, .ref (za Z 0))]) hx hb dX6_forget_7 rfl hl (by decide) rfl (fun ls hl => ?_)
  refine lv_aload_n hx hb dX6_forget_8 rfl (lv_at hl 1 rfl) ?_
  refine va_get (D := zD Z) (ci := 6) (v := .ref (za Z 11)) (C := RX6) (T := TX6) (N := 11) hx hb hT inlX6 hown hK hP 0 xw_0 rfl 3 (by decide) (hT _ (tr_2 _ (List.mem_of_getElem? (i := 3) rfl))) (fun _ h9 => h9) rfl dX6_forget_9 ?_
  refine lv_iconst (v := 0) hx hb dX6_forget_12 (by decide) ?_
  refine va_put (D := zD Z) (ci := 2) (v := .int 0) (ty := .int) (C := RX2) (T := TX2) (N := 5) hx hb hT inlX2 tyX2 tyX2_ok nmX2 hown hK hP hZ.D hS 11 xw_11 rfl 4 (by decide) (hT _ (tr_12 _ (List.mem_of_getElem? (i := 17) rfl))) (fun _ h9 => h9) rfl (by decide +kernel) rfl rfl (Nat.le_of_ble_eq_true rfl) dX6_forget_13 (fun H locs hP _ hS => ?_)
  replace hP := xf_11_4 hP
  have hF := hF.u2 (i := 11) (k := 4) (v := 0) (by decide)
  refine lv_iload_n hx hb dX6_forget_16 rfl (lv_at hl 0 rfl) ?_
  exact W.iret (v := (g 11 4)) hx hb hr (fun t ht hW => ⟨⟨(g 11 4), ((up2 g 11 4 0), gl, tf), rfl, ⟨hF, hG, rfl, rfl, (by (try dsimp only); first | done | exact rfl)⟩, by show va_P (zD Z) vwCl (xw Z (up2 g 11 4 0) gl tf) t.heap; rw [ht]; exact hP⟩, hS.F ht⟩) hS.2.2 dX6_forget_17
set_option maxHeartbeats 4000000 in
set_option maxRecDepth 100000 in
theorem c_X6_drawn (l : Launch) (Z : ZT) (hZ : XG Z) (g : Nat → Nat → Int32) (gl : Nat → Nat → Int64) (tf : Nat → Nat → Int32) (x1 : Int32) (x2 : Int32) (x3 : Int32) (hn4 : 0 ≤ (g 3 1).toInt ∧ (g 3 1).toInt ≤ 40) (hTx : TX (xr Z tf) (g 3 1).toInt.toNat g) (hG : Gd Z tf) : Met l yX6_drawn (Cond.code yX6_drawn cX6_drawn 7 (some .int) :: wsL_law) ({ frames := 7, cells := 0, slots := 0, locals := 166 } : Room) (va_Pc [.ref (za Z 0), .int x1, .int x2, .int x3] (XI Z g gl tf)) (va_Qi (fun (r : Int32) (u : (Nat → Nat → Int32) × (Nat → Nat → Int64) × (Nat → Nat → Int32)) => Fr [3, 5, 6, 7, 8, 9, 10, 16] g u.1 ∧ Gd Z u.2.2 ∧ ((¬ ((1 ≤ x1.toInt ∧ x1.toInt ≤ 30) ∧ 0 ≤ x2.toInt ∧ 0 ≤ x3.toInt ∧ x3.toInt ≤ 2) ∧ r = -102 ∧ u.1 = g ∧ u.2.2 = tf) ∨ (((1 ≤ x1.toInt ∧ x1.toInt ≤ 30) ∧ 0 ≤ x2.toInt ∧ 0 ≤ x3.toInt ∧ x3.toInt ≤ 2) ∧ g 0 8 = 0 ∧ r = -103 ∧ u.1 = g ∧ u.2.2 = tf) ∨ (((1 ≤ x1.toInt ∧ x1.toInt ≤ 30) ∧ 0 ≤ x2.toInt ∧ 0 ≤ x3.toInt ∧ x3.toInt ≤ 2) ∧ ¬ g 0 8 = 0 ∧ u.1 3 1 = g 3 1 ∧ TX (xr Z u.2.2) (g 3 1).toInt.toNat u.1 ∧ (∃ R2 : Nat → Nat → Int32, Rw (xr Z tf) R2 (g 3 1).toInt ∧ (∀ i, i < x1.toInt.toNat → ∀ k, k < 5 → R2 (k + 1) ((g 3 1).toInt.toNat + i) = dwF (sdN x2.toInt.toNat i) k) ∧ ((x3.toInt = 0 ∧ r.toInt = (cB (qnB (bst R2 ((g 3 1).toInt.toNat + x1.toInt.toNat)) (g 3 1).toInt ((g 3 1).toInt + x1.toInt - 1)) 64 : Int)) ∨ (x3.toInt = 1 ∧ r.toInt = (cB (ndB (TR R2 ((g 3 1).toInt.toNat + x1.toInt.toNat)) (g 3 1).toInt ((g 3 1).toInt + x1.toInt - 1)) 128 : Int)) ∨ (x3.toInt = 2 ∧ r = nI (sdN x2.toInt.toNat x1.toInt.toNat)))) ∧ (∀ b, b ≠ za Z 24 → (∀ t : Nat, t < 70 → (g 3 1).toInt ≤ (t : Int) → b ≠ ro Z t) → u.2.2 b = tf b)))) (fun u t => va_P (zD Z) vwCl (xw Z u.1 u.2.1 u.2.2) t.heap) (zA Z)) 0 0 (zA Z) := by
  refine Met.ofW (cc := cX6_drawn) (maxL := 7) (ret := (some .int)) (by decide) rfl ?_
  intro p e s m args below meth c s₁ B hml hv
  obtain ⟨rfl, hI⟩ := hv
  have hx := B.exec
  have hb := B.bytes
  have hr := B.returns
  have hT : ∀ w ∈ wsL_law, w.before ([.ref (za Z 0), .int x1, .int x2, .int x3] : List Value).toArray s = true := fun w h => atoms_spec (ws := (Cond.code yX6_drawn cX6_drawn 7 (some .int) :: wsL_law)) B.pre w (List.mem_cons_of_mem _ h)
  have hown : s.vm.findClass RX6 = some m.cls := findClass_of_methodNamed B.named
  have hlocks := B.notSynchronized
  have hK := hI.2.1
  have hP := hI.1
  have hS : va_S (zA Z) s.heap s.heap [] := va_S.rf
  have hF : Fr [3, 5, 6, 7, 8, 9, 10, 16] g g := Fr.rf
  have hl := lv_entry ([.ref (za Z 0), .int x1, .int x2, .int x3]) (n := 7) (Nat.le_of_ble_eq_true rfl)
  rw [lg_entry_eq]
  generalize (lg_sl ([.ref (za Z 0), .int x1, .int x2, .int x3]) ++ List.replicate (7 - (lg_sl ([.ref (za Z 0), .int x1, .int x2, .int x3])).length) Slot.unset).toArray = ls at hl ⊢
  have hl : lv_has ls 7 [(0, .ref (za Z 0)), (1, .int x1), (2, .int x2), (3, .int x3)] := hl
  have L147 : ∀ (n : Nat) (z4 : Int32) (z5 : Int32) (z6 : Int32) (g1 : Nat → Nat → Int32) (gl1 : Nat → Nat → Int64) (tf1 : Nat → Nat → Int32) (H : Heap) (locs : List Loc) (hP : va_P (zD Z) vwCl (xw Z g1 gl1 tf1) H) (hF : Fr [3, 5, 6, 7, 8, 9, 10, 16] g g1) (hG : Gd Z tf1) (hS : va_S (zA Z) s.heap H locs) (hok : ((1 ≤ x1.toInt ∧ x1.toInt ≤ 30) ∧ 0 ≤ x2.toInt ∧ 0 ≤ x3.toInt ∧ x3.toInt ≤ 2)) (hd : ¬ g 0 8 = 0) (h6 : 0 ≤ z6.toInt ∧ z6.toInt ≤ x1.toInt) (h3 : (g1 3 1).toInt = (g 3 1).toInt + x1.toInt - z6.toInt) (hT9 : TX (xr Z tf1) ((g 3 1).toInt.toNat + x1.toInt.toNat - z6.toInt.toNat) g1) (hE9 : (∃ R2 : Nat → Nat → Int32, Rw (xr Z tf) R2 (g 3 1).toInt ∧ (∀ i, i < x1.toInt.toNat → ∀ k, k < 5 → R2 (k + 1) ((g 3 1).toInt.toNat + i) = dwF (sdN x2.toInt.toNat i) k) ∧ ((x3.toInt = 0 ∧ z5.toInt = (cB (qnB (bst R2 ((g 3 1).toInt.toNat + x1.toInt.toNat)) (g 3 1).toInt ((g 3 1).toInt + x1.toInt - 1)) 64 : Int)) ∨ (x3.toInt = 1 ∧ z5.toInt = (cB (ndB (TR R2 ((g 3 1).toInt.toNat + x1.toInt.toNat)) (g 3 1).toInt ((g 3 1).toInt + x1.toInt - 1)) 128 : Int)) ∨ (x3.toInt = 2 ∧ z5 = nI (sdN x2.toInt.toNat x1.toInt.toNat))))) (hB : ∀ b, b ≠ za Z 24 → (∀ t : Nat, t < 70 → (g 3 1).toInt ≤ (t : Int) → b ≠ ro Z t) → tf1 b = tf b) (hn : (31 - z6.toInt).toNat < n) (ls : Array Slot) (hl : lv_has ls 7 [(0, .ref (za Z 0)), (1, .int x1), (2, .int x2), (3, .int x3), (4, .int z4), (5, .int z5), (6, .int z6)]), W p l e ({ frames := 7, cells := 0, slots := 0, locals := 166 } : Room) s m ([.ref (za Z 0), .int x1, .int x2, .int x3] : List Value).toArray below meth c H locs 0 0 (MQ below (va_Qi (fun (r : Int32) (u : (Nat → Nat → Int32) × (Nat → Nat → Int64) × (Nat → Nat → Int32)) => Fr [3, 5, 6, 7, 8, 9, 10, 16] g u.1 ∧ Gd Z u.2.2 ∧ ((¬ ((1 ≤ x1.toInt ∧ x1.toInt ≤ 30) ∧ 0 ≤ x2.toInt ∧ 0 ≤ x3.toInt ∧ x3.toInt ≤ 2) ∧ r = -102 ∧ u.1 = g ∧ u.2.2 = tf) ∨ (((1 ≤ x1.toInt ∧ x1.toInt ≤ 30) ∧ 0 ≤ x2.toInt ∧ 0 ≤ x3.toInt ∧ x3.toInt ≤ 2) ∧ g 0 8 = 0 ∧ r = -103 ∧ u.1 = g ∧ u.2.2 = tf) ∨ (((1 ≤ x1.toInt ∧ x1.toInt ≤ 30) ∧ 0 ≤ x2.toInt ∧ 0 ≤ x3.toInt ∧ x3.toInt ≤ 2) ∧ ¬ g 0 8 = 0 ∧ u.1 3 1 = g 3 1 ∧ TX (xr Z u.2.2) (g 3 1).toInt.toNat u.1 ∧ (∃ R2 : Nat → Nat → Int32, Rw (xr Z tf) R2 (g 3 1).toInt ∧ (∀ i, i < x1.toInt.toNat → ∀ k, k < 5 → R2 (k + 1) ((g 3 1).toInt.toNat + i) = dwF (sdN x2.toInt.toNat i) k) ∧ ((x3.toInt = 0 ∧ r.toInt = (cB (qnB (bst R2 ((g 3 1).toInt.toNat + x1.toInt.toNat)) (g 3 1).toInt ((g 3 1).toInt + x1.toInt - 1)) 64 : Int)) ∨ (x3.toInt = 1 ∧ r.toInt = (cB (ndB (TR R2 ((g 3 1).toInt.toNat + x1.toInt.toNat)) (g 3 1).toInt ((g 3 1).toInt + x1.toInt - 1)) 128 : Int)) ∨ (x3.toInt = 2 ∧ r = nI (sdN x2.toInt.toNat x1.toInt.toNat)))) ∧ (∀ b, b ≠ za Z 24 → (∀ t : Nat, t < 70 → (g 3 1).toInt ≤ (t : Int) → b ≠ ro Z t) → u.2.2 b = tf b)))) (fun u t => va_P (zD Z) vwCl (xw Z u.1 u.2.1 u.2.2) t.heap) (zA Z)) ([.ref (za Z 0), .int x1, .int x2, .int x3] : List Value).toArray s 0 0 (zA Z)) (F0 m 147 ls []) := by
    intro n
    induction n with
    | zero => intro z4 z5 z6 g1 gl1 tf1 H locs hP hF hG hS hok hd h6 h3 hT9 hE9 hB hn; exact absurd hn (Nat.not_lt_zero _)
    | succ n ih147 =>
      intro z4 z5 z6 g1 gl1 tf1 H locs hP hF hG hS hok hd h6 h3 hT9 hE9 hB hn ls hl
      refine lv_iload hx hb dX6_drawn_147 (lv_at hl 6 rfl) ?_
      refine lv_iload_n hx hb dX6_drawn_149 rfl (lv_at hl 1 rfl) ?_
      refine lv_icmp_ge (tgt := 166) hx hb dX6_drawn_150 (by decide) (fun c_150 => ?_) (fun c_150 => ?_)
      · skip
        have i_150 := ti_lek rfl rfl c_150
        refine lv_iload hx hb dX6_drawn_166 (lv_at hl 5 rfl) ?_
        exact W.iret (v := z5) hx hb hr (fun t ht hW => ⟨⟨z5, (g1, gl1, tf1), rfl, ⟨hF, hG, (by (try dsimp only); first | done | exact Or.inr (Or.inr ⟨hok, hd, Int32.toInt_inj.mp (by omega), by rw [show (g 3 1).toInt.toNat = (g 3 1).toInt.toNat + x1.toInt.toNat - z6.toInt.toNat by omega]; exact hT9, hE9, hB⟩))⟩, by show va_P (zD Z) vwCl (xw Z g1 gl1 tf1) t.heap; rw [ht]; exact hP⟩, hS.F ht⟩) hS.2.2 dX6_drawn_168
      · skip
        have i_150 := ti_nlek rfl rfl c_150
        refine lv_aload_n hx hb dX6_drawn_153 rfl (lv_at hl 0 rfl) ?_
        refine va_get (D := zD Z) (ci := 6) (v := .ref (za Z 5)) (C := RX6) (T := TX6) (N := 11) hx hb hT inlX6 hown hK hP 0 xw_0 rfl 2 (by decide) (hT _ (tr_1 _ (List.mem_of_getElem? (i := 23) rfl))) (fun _ h9 => h9) rfl dX6_drawn_154 ?_
        refine va_callv (va_runV (As := []) (rest := []) ⟨hx, hb, hml, hown, hT⟩ (c_X5_takeBack l Z hZ g1 gl1 tf1 (by omega) (by rw [show (g1 3 1).toInt.toNat = (g 3 1).toInt.toNat + x1.toInt.toNat - z6.toInt.toNat by omega]; exact hT9) hG) (cwV 0 hT (tb_V (fun _ h => h) (tr_28 _ (List.mem_of_getElem? (i := 6) rfl)) (tr_28 _ (List.mem_of_getElem? (i := 7) rfl)) (tr_28 _ (List.mem_of_getElem? (i := 8) rfl)) (tr_1 _ (List.mem_of_getElem? (i := 22) rfl)) (tr_28 _ (List.mem_of_getElem? (i := 9) rfl))) rfl rfl rfl (by decide +kernel) ⟨Nat.le_of_ble_eq_true rfl, Nat.le_of_ble_eq_true rfl⟩) ⟨fun a U f mk q => ⟨q.1, XI.blind f mk a q.2⟩, va_recv hK hP (ci := 5) (q0 := 5) rfl xw_5, fun U hU hW => ⟨rfl, hI.at hS hP hU hW⟩⟩ rfl rfl hl.1 rfl (lv_room (Nat.le_of_ble_eq_true rfl)) dX6_drawn_157 ⟨Nat.zero_le _, Nat.zero_le _⟩) hS (fun q _ h => h) (fun q h => h) (fun u_157 t_157 H locs ht_157 _ hw_157 hB_157 _ _ hS => ?_)
        obtain ⟨g_157, gl_157, tf_157⟩ := u_157
        have hP : va_P (zD Z) vwCl (xw Z g_157 gl_157 tf_157) H := ht_157 ▸ hB_157
        obtain ⟨hf_157, hG, et_157, hr_157⟩ := hw_157
        have hF := hF.tr hf_157 (by decide)
        (try dsimp only at hf_157 hG hF et_157 hr_157)
        subst et_157
        have k157 : (g_157 3 1).toInt = (g1 3 1).toInt - 1 := by rw [hr_157.1]; exact ti_subk rfl tk_1 (by omega) (by omega) rfl
        obtain ⟨v_160, e_160⟩ : ∃ y : Int32, y = z6 + 1 := ⟨_, rfl⟩
        refine lv_iinc (v := v_160) (lv' := [(6, .int v_160), (0, .ref (za Z 0)), (1, .int x1), (2, .int x2), (3, .int x3), (4, .int z4), (5, .int z5)]) hx hb dX6_drawn_160 hl (k := 6) rfl (by rw [e_160]; rfl) (by decide) rfl (fun ls hl => ?_)
        have t_160 := ti_addk rfl tk_1 (by omega) (by omega) e_160
        refine lv_goto (tgt := 147) hx hb dX6_drawn_163 (by decide) ?_
        exact ih147 z4 z5 v_160 g_157 gl_157 tf1 _ _ hP hF hG hS (by first | assumption | omega | decide) (by first | assumption | omega | decide) (by omega) (by omega) (by rw [show (g 3 1).toInt.toNat + x1.toInt.toNat - v_160.toInt.toNat = (g1 3 1).toInt.toNat - 1 by omega]; exact hr_157.2) hE9 (by first | assumption | omega | decide) (by omega) ls (lv_sub hl [1, 2, 3, 4, 5, 6, 0] rfl)
  have L57 : ∀ (n : Nat) (z4 : Int32) (z5 : Int32) (g1 : Nat → Nat → Int32) (gl1 : Nat → Nat → Int64) (tf1 : Nat → Nat → Int32) (H : Heap) (locs : List Loc) (hP : va_P (zD Z) vwCl (xw Z g1 gl1 tf1) H) (hF : Fr [3, 5, 6, 7, 8, 9, 10, 16] g g1) (hG : Gd Z tf1) (hS : va_S (zA Z) s.heap H locs) (hok : ((1 ≤ x1.toInt ∧ x1.toInt ≤ 30) ∧ 0 ≤ x2.toInt ∧ 0 ≤ x3.toInt ∧ x3.toInt ≤ 2)) (hd : ¬ g 0 8 = 0) (hz4 : z4 = g 3 1) (h5 : 0 ≤ z5.toInt ∧ z5.toInt ≤ x1.toInt) (h3 : (g1 3 1).toInt = (g 3 1).toInt + z5.toInt) (hS9 : g1 16 0 = nI (sdN x2.toInt.toNat z5.toInt.toNat)) (hT9 : TX (xr Z tf1) ((g 3 1).toInt.toNat + z5.toInt.toNat) g1) (hD9 : ∀ i, i < z5.toInt.toNat → ∀ k, k < 5 → tf1 (ro Z ((g 3 1).toInt.toNat + i)) k = dwF (sdN x2.toInt.toNat i) k) (hB : ∀ b, b ≠ za Z 24 → (∀ t : Nat, t < 70 → (g 3 1).toInt ≤ (t : Int) → b ≠ ro Z t) → tf1 b = tf b) (hn : (31 - z5.toInt).toNat < n) (ls : Array Slot) (hl : lv_has ls 7 [(0, .ref (za Z 0)), (1, .int x1), (2, .int x2), (3, .int x3), (4, .int z4), (5, .int z5)]), W p l e ({ frames := 7, cells := 0, slots := 0, locals := 166 } : Room) s m ([.ref (za Z 0), .int x1, .int x2, .int x3] : List Value).toArray below meth c H locs 0 0 (MQ below (va_Qi (fun (r : Int32) (u : (Nat → Nat → Int32) × (Nat → Nat → Int64) × (Nat → Nat → Int32)) => Fr [3, 5, 6, 7, 8, 9, 10, 16] g u.1 ∧ Gd Z u.2.2 ∧ ((¬ ((1 ≤ x1.toInt ∧ x1.toInt ≤ 30) ∧ 0 ≤ x2.toInt ∧ 0 ≤ x3.toInt ∧ x3.toInt ≤ 2) ∧ r = -102 ∧ u.1 = g ∧ u.2.2 = tf) ∨ (((1 ≤ x1.toInt ∧ x1.toInt ≤ 30) ∧ 0 ≤ x2.toInt ∧ 0 ≤ x3.toInt ∧ x3.toInt ≤ 2) ∧ g 0 8 = 0 ∧ r = -103 ∧ u.1 = g ∧ u.2.2 = tf) ∨ (((1 ≤ x1.toInt ∧ x1.toInt ≤ 30) ∧ 0 ≤ x2.toInt ∧ 0 ≤ x3.toInt ∧ x3.toInt ≤ 2) ∧ ¬ g 0 8 = 0 ∧ u.1 3 1 = g 3 1 ∧ TX (xr Z u.2.2) (g 3 1).toInt.toNat u.1 ∧ (∃ R2 : Nat → Nat → Int32, Rw (xr Z tf) R2 (g 3 1).toInt ∧ (∀ i, i < x1.toInt.toNat → ∀ k, k < 5 → R2 (k + 1) ((g 3 1).toInt.toNat + i) = dwF (sdN x2.toInt.toNat i) k) ∧ ((x3.toInt = 0 ∧ r.toInt = (cB (qnB (bst R2 ((g 3 1).toInt.toNat + x1.toInt.toNat)) (g 3 1).toInt ((g 3 1).toInt + x1.toInt - 1)) 64 : Int)) ∨ (x3.toInt = 1 ∧ r.toInt = (cB (ndB (TR R2 ((g 3 1).toInt.toNat + x1.toInt.toNat)) (g 3 1).toInt ((g 3 1).toInt + x1.toInt - 1)) 128 : Int)) ∨ (x3.toInt = 2 ∧ r = nI (sdN x2.toInt.toNat x1.toInt.toNat)))) ∧ (∀ b, b ≠ za Z 24 → (∀ t : Nat, t < 70 → (g 3 1).toInt ≤ (t : Int) → b ≠ ro Z t) → u.2.2 b = tf b)))) (fun u t => va_P (zD Z) vwCl (xw Z u.1 u.2.1 u.2.2) t.heap) (zA Z)) ([.ref (za Z 0), .int x1, .int x2, .int x3] : List Value).toArray s 0 0 (zA Z)) (F0 m 57 ls []) := by
    intro n
    induction n with
    | zero => intro z4 z5 g1 gl1 tf1 H locs hP hF hG hS hok hd hz4 h5 h3 hS9 hT9 hD9 hB hn; exact absurd hn (Nat.not_lt_zero _)
    | succ n ih57 =>
      intro z4 z5 g1 gl1 tf1 H locs hP hF hG hS hok hd hz4 h5 h3 hS9 hT9 hD9 hB hn ls hl
      refine lv_iload hx hb dX6_drawn_57 (lv_at hl 5 rfl) ?_
      refine lv_iload_n hx hb dX6_drawn_59 rfl (lv_at hl 1 rfl) ?_
      refine lv_icmp_ge (tgt := 92) hx hb dX6_drawn_60 (by decide) (fun c_60 => ?_) (fun c_60 => ?_)
      · skip
        have i_60 := ti_lek rfl rfl c_60
        refine lv_aload_n hx hb dX6_drawn_92 rfl (lv_at hl 0 rfl) ?_
        refine va_get (D := zD Z) (ci := 6) (v := .ref (za Z 16)) (C := RX6) (T := TX6) (N := 11) hx hb hT inlX6 hown hK hP 0 xw_0 rfl 4 (by decide) (hT _ (tr_2 _ (List.mem_of_getElem? (i := 7) rfl))) (fun _ h9 => h9) rfl dX6_drawn_93 ?_
        refine va_get (D := zD Z) (ci := 0) (v := .int (g1 16 0)) (C := RX0) (T := TX0) (N := 1) hx hb hT inlX0 hown hK hP 16 xw_16 rfl 0 (by decide) (hT _ (tr_33 _ (List.mem_of_getElem? (i := 20) rfl))) (fun _ h9 => h9) rfl dX6_drawn_96 ?_
        refine lv_istore (lv' := [(5, .int (g1 16 0)), (0, .ref (za Z 0)), (1, .int x1), (2, .int x2), (3, .int x3), (4, .int z4)]) hx hb dX6_drawn_99 hl (by decide) rfl (fun ls hl => ?_)
        have hz4i := congrArg Int32.toInt hz4
        refine lv_iload_n hx hb dX6_drawn_101 rfl (lv_at hl 4 rfl) ?_
        refine lv_if_ne (tgt := 122) hx hb dX6_drawn_102 (by decide) (fun c_102 => ?_) (fun c_102 => ?_)
        · skip
          have i_102 := ti_nek rfl tk_0 c_102
          refine lv_iload_n hx hb dX6_drawn_122 rfl (lv_at hl 4 rfl) ?_
          refine lv_iconst (v := 1) hx hb dX6_drawn_123 (by decide) ?_
          refine lv_icmp_ne (tgt := 144) hx hb dX6_drawn_124 (by decide) (fun c_124 => ?_) (fun c_124 => ?_)
          · skip
            have i_124 := ti_nek rfl tk_1 c_124
            have k60 := i_60
            refine lv_iconst (v := 0) hx hb dX6_drawn_144 (by decide) ?_
            refine lv_istore (lv' := [(6, .int 0), (5, .int (g1 16 0)), (0, .ref (za Z 0)), (1, .int x1), (2, .int x2), (3, .int x3), (4, .int z4)]) hx hb dX6_drawn_145 hl (by decide) rfl (fun ls hl => ?_)
            exact L147 _ z4 (g1 16 0) 0 g1 gl1 tf1 _ _ hP hF hG hS (by first | assumption | omega | decide) (by first | assumption | omega | decide) (by rw [tk_0]; omega) (by rw [tk_0]; omega) (by rw [show (g 3 1).toInt.toNat + x1.toInt.toNat - (0 : Int32).toInt.toNat = (g 3 1).toInt.toNat + z5.toInt.toNat by rw [tk_0]; omega]; exact hT9) ⟨xr Z tf1, fun t ht k hk => (congrFun (hB (ro Z t) (hZ.ra (by omega)) (fun t2 h2 h3 => hZ.ri (by omega) h2 (by omega))) k).symm, fun i hi k hk => hD9 i (by omega) k hk, Or.inr (Or.inr ⟨by omega, by rw [show x1.toInt.toNat = z5.toInt.toNat by omega]; exact hS9⟩)⟩ (by first | assumption | omega | decide) (Nat.lt_succ_self _) ls (lv_sub hl [2, 3, 4, 5, 6, 1, 0] rfl)
          · skip
            have i_124 := ti_eqk rfl tk_1 c_124
            refine lv_aload_n hx hb dX6_drawn_127 rfl (lv_at hl 1 rfl) ?_
            refine va_get (D := zD Z) (ci := 6) (v := .ref (za Z 5)) (C := RX6) (T := TX6) (N := 11) hx hb hT inlX6 hown hK hP 0 xw_0 rfl 2 (by decide) (hT _ (tr_1 _ (List.mem_of_getElem? (i := 23) rfl))) (fun _ h9 => h9) rfl dX6_drawn_128 ?_
            refine lv_iload hx hb dX6_drawn_131 (lv_at hl 5 rfl) ?_
            refine lv_iload hx hb dX6_drawn_133 (lv_at hl 5 rfl) ?_
            refine lv_iload_n hx hb dX6_drawn_135 rfl (lv_at hl 2 rfl) ?_
            refine lv_iadd hx hb dX6_drawn_136 ?_
            refine lv_topi (fun v_136 e_136 => ?_)
            have t_136 := ti_addk rfl rfl (by omega) (by omega) e_136
            refine lv_iconst (v := 1) hx hb dX6_drawn_137 (by decide) ?_
            refine lv_isub hx hb dX6_drawn_138 ?_
            refine lv_topi (fun v_138 e_138 => ?_)
            have t_138 := ti_subk rfl tk_1 (by omega) (by omega) e_138
            refine rd_ci (va_runV (As := [.int z4, .int v_138]) (rest := []) ⟨hx, hb, hml, hown, hT⟩ (c_X5_nodesOf l Z hZ g1 gl1 tf1 z4 v_138 hG) (cwV 2 hT (tb_V (fun _ h => h) (tr_20 _ (List.mem_of_getElem? (i := 7) rfl)) (tr_20 _ (List.mem_of_getElem? (i := 8) rfl)) (tr_20 _ (List.mem_of_getElem? (i := 9) rfl)) (tr_1 _ (List.mem_of_getElem? (i := 22) rfl)) (tr_20 _ (List.mem_of_getElem? (i := 10) rfl))) rfl rfl rfl (by decide +kernel) ⟨Nat.le_of_ble_eq_true rfl, Nat.le_of_ble_eq_true rfl⟩) ⟨fun a U f mk q => ⟨q.1, XI.blind f mk a q.2⟩, va_recv hK hP (ci := 5) (q0 := 5) rfl xw_5, fun U hU hW => ⟨rfl, hI.at hS hP hU hW⟩⟩ rfl rfl hl.1 rfl (lv_room (Nat.le_of_ble_eq_true rfl)) dX6_drawn_139 ⟨Nat.zero_le _, Nat.zero_le _⟩) (fun r_139 hr_139 => ?_)
            refine lv_istore (lv' := [(5, .int r_139), (0, .ref (za Z 0)), (1, .int x1), (2, .int x2), (3, .int x3), (4, .int z4)]) hx hb dX6_drawn_142 hl (by decide) rfl (fun ls hl => ?_)
            have k60 := i_60
            refine lv_iconst (v := 0) hx hb dX6_drawn_144 (by decide) ?_
            refine lv_istore (lv' := [(6, .int 0), (5, .int r_139), (0, .ref (za Z 0)), (1, .int x1), (2, .int x2), (3, .int x3), (4, .int z4)]) hx hb dX6_drawn_145 hl (by decide) rfl (fun ls hl => ?_)
            exact L147 _ z4 r_139 0 g1 gl1 tf1 _ _ hP hF hG hS (by first | assumption | omega | decide) (by first | assumption | omega | decide) (by rw [tk_0]; omega) (by rw [tk_0]; omega) (by rw [show (g 3 1).toInt.toNat + x1.toInt.toNat - (0 : Int32).toInt.toNat = (g 3 1).toInt.toNat + z5.toInt.toNat by rw [tk_0]; omega]; exact hT9) ⟨xr Z tf1, fun t ht k hk => (congrFun (hB (ro Z t) (hZ.ra (by omega)) (fun t2 h2 h3 => hZ.ri (by omega) h2 (by omega))) k).symm, fun i hi k hk => hD9 i (by omega) k hk, Or.inr (Or.inl ⟨by omega, by rw [hr_139, hz4, show v_138.toInt = (g 3 1).toInt + x1.toInt - 1 by omega]; rw [cB_cg (p2 := ndB (TR (xr Z tf1) ((g 3 1).toInt.toNat + x1.toInt.toNat)) (g 3 1).toInt ((g 3 1).toInt + x1.toInt - 1)) 128 (fun i hi => by unfold ndB; by_cases y : 1 ≤ i; (rw [hT9.1 i y (by omega), show z5.toInt.toNat = x1.toInt.toNat by omega]); (rw [decide_eq_false (fun z => y z.1), decide_eq_false (fun z => y z.1)]))]⟩)⟩ (by first | assumption | omega | decide) (Nat.lt_succ_self _) ls (lv_sub hl [2, 3, 4, 5, 6, 1, 0] rfl)
        · skip
          have i_102 := ti_eqk rfl tk_0 c_102
          refine lv_aload_n hx hb dX6_drawn_105 rfl (lv_at hl 1 rfl) ?_
          refine lv_iload hx hb dX6_drawn_106 (lv_at hl 5 rfl) ?_
          refine lv_iload hx hb dX6_drawn_108 (lv_at hl 5 rfl) ?_
          refine lv_iload_n hx hb dX6_drawn_110 rfl (lv_at hl 2 rfl) ?_
          refine lv_iadd hx hb dX6_drawn_111 ?_
          refine lv_topi (fun v_111 e_111 => ?_)
          have t_111 := ti_addk rfl rfl (by omega) (by omega) e_111
          refine lv_iconst (v := 1) hx hb dX6_drawn_112 (by decide) ?_
          refine lv_isub hx hb dX6_drawn_113 ?_
          refine lv_topi (fun v_113 e_113 => ?_)
          have t_113 := ti_subk rfl tk_1 (by omega) (by omega) e_113
          refine rd_ci (va_runV (As := [.int z4, .int v_113]) (rest := []) ⟨hx, hb, hml, hown, hT⟩ (c_X6_quantitiesOf l Z hZ g1 gl1 tf1 z4 v_113 hG) (cwV 2 hT (tb_V (fun _ h => h) (tr_20 _ (List.mem_of_getElem? (i := 11) rfl)) (tr_20 _ (List.mem_of_getElem? (i := 12) rfl)) (tr_20 _ (List.mem_of_getElem? (i := 13) rfl)) (tr_1 _ (List.mem_of_getElem? (i := 2) rfl)) (tr_20 _ (List.mem_of_getElem? (i := 14) rfl))) rfl rfl rfl (by decide +kernel) ⟨Nat.le_of_ble_eq_true rfl, Nat.le_of_ble_eq_true rfl⟩) ⟨fun a U f mk q => ⟨q.1, XI.blind f mk a q.2⟩, va_recv hK hP (ci := 6) (q0 := 0) rfl xw_0, fun U hU hW => ⟨rfl, hI.at hS hP hU hW⟩⟩ rfl rfl hl.1 rfl (lv_room (Nat.le_of_ble_eq_true rfl)) dX6_drawn_114 ⟨Nat.zero_le _, Nat.zero_le _⟩) (fun r_114 hr_114 => ?_)
          refine lv_istore (lv' := [(5, .int r_114), (0, .ref (za Z 0)), (1, .int x1), (2, .int x2), (3, .int x3), (4, .int z4)]) hx hb dX6_drawn_117 hl (by decide) rfl (fun ls hl => ?_)
          refine lv_goto (tgt := 144) hx hb dX6_drawn_119 (by decide) ?_
          have k60 := i_60
          refine lv_iconst (v := 0) hx hb dX6_drawn_144 (by decide) ?_
          refine lv_istore (lv' := [(6, .int 0), (5, .int r_114), (0, .ref (za Z 0)), (1, .int x1), (2, .int x2), (3, .int x3), (4, .int z4)]) hx hb dX6_drawn_145 hl (by decide) rfl (fun ls hl => ?_)
          exact L147 _ z4 r_114 0 g1 gl1 tf1 _ _ hP hF hG hS (by first | assumption | omega | decide) (by first | assumption | omega | decide) (by rw [tk_0]; omega) (by rw [tk_0]; omega) (by rw [show (g 3 1).toInt.toNat + x1.toInt.toNat - (0 : Int32).toInt.toNat = (g 3 1).toInt.toNat + z5.toInt.toNat by rw [tk_0]; omega]; exact hT9) ⟨xr Z tf1, fun t ht k hk => (congrFun (hB (ro Z t) (hZ.ra (by omega)) (fun t2 h2 h3 => hZ.ri (by omega) h2 (by omega))) k).symm, fun i hi k hk => hD9 i (by omega) k hk, Or.inl ⟨by omega, by rw [hr_114, hz4, show v_113.toInt = (g 3 1).toInt + x1.toInt - 1 by omega]; rw [cB_cg (p2 := qnB (bst (xr Z tf1) ((g 3 1).toInt.toNat + x1.toInt.toNat)) (g 3 1).toInt ((g 3 1).toInt + x1.toInt - 1)) 64 (fun i hi => by unfold qnB; rw [hT9.2.1 i hi, show z5.toInt.toNat = x1.toInt.toNat by omega])]⟩⟩ (by first | assumption | omega | decide) (Nat.lt_succ_self _) ls (lv_sub hl [2, 3, 4, 5, 6, 1, 0] rfl)
      · skip
        have i_60 := ti_nlek rfl rfl c_60
        have k63 := ti_rng (g1 3 1)
        refine lv_aload_n hx hb dX6_drawn_63 rfl (lv_at hl 0 rfl) ?_
        refine va_get (D := zD Z) (ci := 6) (v := .ref (za Z 16)) (C := RX6) (T := TX6) (N := 11) hx hb hT inlX6 hown hK hP 0 xw_0 rfl 4 (by decide) (hT _ (tr_2 _ (List.mem_of_getElem? (i := 7) rfl))) (fun _ h9 => h9) rfl dX6_drawn_64 ?_
        refine lv_aload_n hx hb dX6_drawn_67 rfl (lv_at hl 0 rfl) ?_
        refine va_get (D := zD Z) (ci := 6) (v := .ref (za Z 24)) (C := RX6) (T := TX6) (N := 11) hx hb hT inlX6 hown hK hP 0 xw_0 rfl 5 (by decide) (hT _ (tr_2 _ (List.mem_of_getElem? (i := 11) rfl))) (fun _ h9 => h9) rfl dX6_drawn_68 ?_
        refine va_callv (va_runV (As := [.ref (za Z 24)]) (rest := []) ⟨hx, hb, hml, hown, hT⟩ (c_X0_drawTariff l Z hZ g1 gl1 tf1 (za Z 24) hZ.ask (sdN x2.toInt.toNat z5.toInt.toNat) hS9 (sdN_lt (by have q := ti_rng x2; omega) _) hG) (cwV 1 hT (tb_V (fun _ h => h) (tr_33 _ (List.mem_of_getElem? (i := 21) rfl)) (tr_33 _ (List.mem_of_getElem? (i := 22) rfl)) (tr_33 _ (List.mem_of_getElem? (i := 23) rfl)) (tr_2 _ (List.mem_of_getElem? (i := 6) rfl)) (tr_34 _ (List.mem_of_getElem? (i := 0) rfl))) rfl rfl rfl (by decide +kernel) ⟨Nat.le_of_ble_eq_true rfl, Nat.le_of_ble_eq_true rfl⟩) ⟨fun a U f mk q => ⟨q.1, XI.blind f mk a q.2⟩, va_recv hK hP (ci := 0) (q0 := 16) rfl xw_16, fun U hU hW => ⟨rfl, hI.at hS hP hU hW⟩⟩ rfl rfl hl.1 rfl (lv_room (Nat.le_of_ble_eq_true rfl)) dX6_drawn_71 ⟨Nat.zero_le _, Nat.zero_le _⟩) hS (fun q _ h => h) (fun q h => h) (fun u_71 t_71 H locs ht_71 _ hw_71 hB_71 _ _ hS => ?_)
        obtain ⟨g_71, gl_71, tf_71⟩ := u_71
        have hP : va_P (zD Z) vwCl (xw Z g_71 gl_71 tf_71) H := ht_71 ▸ hB_71
        obtain ⟨hf_71, hG, hr_71⟩ := hw_71
        have hF := hF.tr hf_71 (by decide)
        (try dsimp only at hf_71 hG hF hr_71)
        have k71 : (g_71 3 1).toInt = (g1 3 1).toInt := by rw [hf_71 3 (by decide)]
        have hT71 : TX (xr Z tf_71) (g_71 3 1).toInt.toNat g_71 := by
          have q := TX_cr (by omega) (xr_Rw hZ (fun t ht => hr_71.1 _ (hZ.ra (by omega)))) hT9
          rw [show (g 3 1).toInt.toNat + z5.toInt.toNat = (g_71 3 1).toInt.toNat by omega] at q
          exact ⟨by rw [hf_71 6 (by decide)]; exact q.1, by rw [hf_71 10 (by decide)]; exact q.2.1, by have z := q.2.2; unfold LG cbx at z ⊢; rw [hf_71 9 (by decide), hf_71 5 (by decide), hf_71 7 (by decide), hf_71 8 (by decide)]; exact z⟩
        refine lv_aload_n hx hb dX6_drawn_74 rfl (lv_at hl 0 rfl) ?_
        refine va_get (D := zD Z) (ci := 6) (v := .ref (za Z 5)) (C := RX6) (T := TX6) (N := 11) hx hb hT inlX6 hown hK hP 0 xw_0 rfl 2 (by decide) (hT _ (tr_1 _ (List.mem_of_getElem? (i := 23) rfl))) (fun _ h9 => h9) rfl dX6_drawn_75 ?_
        refine lv_aload_n hx hb dX6_drawn_78 rfl (lv_at hl 0 rfl) ?_
        refine va_get (D := zD Z) (ci := 6) (v := .ref (za Z 24)) (C := RX6) (T := TX6) (N := 11) hx hb hT inlX6 hown hK hP 0 xw_0 rfl 5 (by decide) (hT _ (tr_2 _ (List.mem_of_getElem? (i := 11) rfl))) (fun _ h9 => h9) rfl dX6_drawn_79 ?_
        refine va_calli (va_runV (As := [.ref (za Z 24)]) (rest := []) ⟨hx, hb, hml, hown, hT⟩ (c_X5_take l Z hZ g_71 gl_71 tf_71 (za Z 24) hZ.ask (by omega) hT71 hG) (cwV 1 hT (tb_V (fun _ h => h) (tr_14 _ (List.mem_of_getElem? (i := 2) rfl)) (tr_14 _ (List.mem_of_getElem? (i := 3) rfl)) (tr_14 _ (List.mem_of_getElem? (i := 4) rfl)) (tr_1 _ (List.mem_of_getElem? (i := 22) rfl)) (tr_14 _ (List.mem_of_getElem? (i := 5) rfl))) rfl rfl rfl (by decide +kernel) ⟨Nat.le_of_ble_eq_true rfl, Nat.le_of_ble_eq_true rfl⟩) ⟨fun a U f mk q => ⟨q.1, XI.blind f mk a q.2⟩, va_recv hK hP (ci := 5) (q0 := 5) rfl xw_5, fun U hU hW => ⟨rfl, hI.at hS hP hU hW⟩⟩ rfl rfl hl.1 rfl (lv_room (Nat.le_of_ble_eq_true rfl)) dX6_drawn_82 ⟨Nat.zero_le _, Nat.zero_le _⟩) hS (fun q _ h => h) (fun q h => h) (fun r_82 u_82 t_82 H locs ht_82 _ hw_82 hB_82 _ _ hS => ?_)
        obtain ⟨g_82, gl_82, tf_82⟩ := u_82
        have hP : va_P (zD Z) vwCl (xw Z g_82 gl_82 tf_82) H := ht_82 ▸ hB_82
        obtain ⟨hf_82, hG, et_82, hr_82⟩ := hw_82
        have hF := hF.tr hf_82 (by decide)
        (try dsimp only at hf_82 hG hF et_82 hr_82)
        subst et_82
        have k82 : (g_82 3 1).toInt = (g_71 3 1).toInt + 1 := by rw [hr_82.1]; exact ti_addk rfl tk_1 (by omega) (by omega) rfl
        have s82 : g_82 16 0 = nI (sdN x2.toInt.toNat (z5.toInt.toNat + 1)) := by rw [hf_82 16 (by decide)]; exact hr_71.2.2
        refine lv_pop hx hb dX6_drawn_85 rfl ?_
        obtain ⟨v_86, e_86⟩ : ∃ y : Int32, y = z5 + 1 := ⟨_, rfl⟩
        refine lv_iinc (v := v_86) (lv' := [(5, .int v_86), (0, .ref (za Z 0)), (1, .int x1), (2, .int x2), (3, .int x3), (4, .int z4)]) hx hb dX6_drawn_86 hl (k := 5) rfl (by rw [e_86]; rfl) (by decide) rfl (fun ls hl => ?_)
        have t_86 := ti_addk rfl tk_1 (by omega) (by omega) e_86
        refine lv_goto (tgt := 57) hx hb dX6_drawn_89 (by decide) ?_
        exact ih57 z4 v_86 g_82 gl_82 (wrT tf_71 (ro Z (g_71 3 1).toInt.toNat) (tf_71 (za Z 24) 0) (tf_71 (za Z 24) 1) (tf_71 (za Z 24) 2) (tf_71 (za Z 24) 3) (tf_71 (za Z 24) 4)) _ _ hP hF hG hS hok hd hz4 (by omega) (by omega) (by rw [show v_86.toInt.toNat = z5.toInt.toNat + 1 by omega]; exact s82) (by rw [show (g 3 1).toInt.toNat + v_86.toInt.toNat = (g_71 3 1).toInt.toNat + 1 by omega]; exact hr_82.2.1) (fun i hi k hk => by rw [show v_86.toInt.toNat = z5.toInt.toNat + 1 by omega] at hi; rcases (show i < z5.toInt.toNat ∨ i = z5.toInt.toNat by omega) with y | y; (rw [wrT_ne (hZ.ri (by omega) (by omega) (by omega)), hr_71.1 _ (hZ.ra (by omega))]; exact hD9 i y k hk); rw [show (g_71 3 1).toInt.toNat = (g 3 1).toInt.toNat + i by omega, wrT_k k hk, y]; exact hr_71.2.1 k hk) (fun b h1 h2 => by rw [wrT_ne (h2 _ (by omega) (by omega)), hr_71.1 b h1]; exact hB b h1 h2) (by omega) ls (lv_sub hl [1, 2, 3, 4, 5, 0] rfl)
  refine lv_iload_n hx hb dX6_drawn_0 rfl (lv_at hl 1 rfl) ?_
  refine lv_iconst (v := 1) hx hb dX6_drawn_1 (by decide) ?_
  refine lv_icmp_lt (tgt := 24) hx hb dX6_drawn_2 (by decide) (fun c_2 => ?_) (fun c_2 => ?_)
  · skip
    have i_2 := ti_ltk rfl tk_1 c_2
    refine lv_bipush (v := (-102)) hx hb dX6_drawn_24 (by decide) ?_
    exact W.iret (v := (-102)) hx hb hr (fun t ht hW => ⟨⟨(-102), (g, gl, tf), rfl, ⟨hF, hG, (by (try dsimp only); first | done | exact Or.inl ⟨by omega, rfl, rfl, rfl⟩)⟩, by show va_P (zD Z) vwCl (xw Z g gl tf) t.heap; rw [ht]; exact hP⟩, hS.F ht⟩) hS.2.2 dX6_drawn_26
  · skip
    have i_2 := ti_nltk rfl tk_1 c_2
    refine lv_iload_n hx hb dX6_drawn_5 rfl (lv_at hl 1 rfl) ?_
    refine lv_bipush (v := 30) hx hb dX6_drawn_6 (by decide) ?_
    refine lv_icmp_gt (tgt := 24) hx hb dX6_drawn_8 (by decide) (fun c_8 => ?_) (fun c_8 => ?_)
    · skip
      have i_8 := ti_ltk tk_30 rfl c_8
      refine lv_bipush (v := (-102)) hx hb dX6_drawn_24 (by decide) ?_
      exact W.iret (v := (-102)) hx hb hr (fun t ht hW => ⟨⟨(-102), (g, gl, tf), rfl, ⟨hF, hG, (by (try dsimp only); first | done | exact Or.inl ⟨by omega, rfl, rfl, rfl⟩)⟩, by show va_P (zD Z) vwCl (xw Z g gl tf) t.heap; rw [ht]; exact hP⟩, hS.F ht⟩) hS.2.2 dX6_drawn_26
    · skip
      have i_8 := ti_nltk tk_30 rfl c_8
      refine lv_iload_n hx hb dX6_drawn_11 rfl (lv_at hl 2 rfl) ?_
      refine lv_if_lt (tgt := 24) hx hb dX6_drawn_12 (by decide) (fun c_12 => ?_) (fun c_12 => ?_)
      · skip
        have i_12 := ti_ltk rfl tk_0 c_12
        refine lv_bipush (v := (-102)) hx hb dX6_drawn_24 (by decide) ?_
        exact W.iret (v := (-102)) hx hb hr (fun t ht hW => ⟨⟨(-102), (g, gl, tf), rfl, ⟨hF, hG, (by (try dsimp only); first | done | exact Or.inl ⟨by omega, rfl, rfl, rfl⟩)⟩, by show va_P (zD Z) vwCl (xw Z g gl tf) t.heap; rw [ht]; exact hP⟩, hS.F ht⟩) hS.2.2 dX6_drawn_26
      · skip
        have i_12 := ti_nltk rfl tk_0 c_12
        refine lv_iload_n hx hb dX6_drawn_15 rfl (lv_at hl 3 rfl) ?_
        refine lv_if_lt (tgt := 24) hx hb dX6_drawn_16 (by decide) (fun c_16 => ?_) (fun c_16 => ?_)
        · skip
          have i_16 := ti_ltk rfl tk_0 c_16
          refine lv_bipush (v := (-102)) hx hb dX6_drawn_24 (by decide) ?_
          exact W.iret (v := (-102)) hx hb hr (fun t ht hW => ⟨⟨(-102), (g, gl, tf), rfl, ⟨hF, hG, (by (try dsimp only); first | done | exact Or.inl ⟨by omega, rfl, rfl, rfl⟩)⟩, by show va_P (zD Z) vwCl (xw Z g gl tf) t.heap; rw [ht]; exact hP⟩, hS.F ht⟩) hS.2.2 dX6_drawn_26
        · skip
          have i_16 := ti_nltk rfl tk_0 c_16
          refine lv_iload_n hx hb dX6_drawn_19 rfl (lv_at hl 3 rfl) ?_
          refine lv_iconst (v := 2) hx hb dX6_drawn_20 (by decide) ?_
          refine lv_icmp_le (tgt := 27) hx hb dX6_drawn_21 (by decide) (fun c_21 => ?_) (fun c_21 => ?_)
          · skip
            have i_21 := ti_lek rfl tk_2 c_21
            refine lv_aload_n hx hb dX6_drawn_27 rfl (lv_at hl 0 rfl) ?_
            refine va_get (D := zD Z) (ci := 6) (v := .int (g 0 8)) (C := RX6) (T := TX6) (N := 11) hx hb hT inlX6 hown hK hP 0 xw_0 rfl 8 (by decide) (hT _ (tr_12 _ (List.mem_of_getElem? (i := 19) rfl))) (fun _ h9 => h9) rfl dX6_drawn_28 ?_
            refine lv_if_ne (tgt := 37) hx hb dX6_drawn_31 (by decide) (fun c_31 => ?_) (fun c_31 => ?_)
            · skip
              have i_31 := ti_nek rfl tk_0 c_31
              refine lv_aload_n hx hb dX6_drawn_37 rfl (lv_at hl 0 rfl) ?_
              refine va_get (D := zD Z) (ci := 6) (v := .ref (za Z 3)) (C := RX6) (T := TX6) (N := 11) hx hb hT inlX6 hown hK hP 0 xw_0 rfl 1 (by decide) (hT _ (tr_1 _ (List.mem_of_getElem? (i := 19) rfl))) (fun _ h9 => h9) rfl dX6_drawn_38 ?_
              refine va_get (D := zD Z) (ci := 4) (v := .int (g 3 1)) (C := RX4) (T := TX4) (N := 2) hx hb hT inlX4 hown hK hP 3 xw_3 rfl 1 (by decide) (hT _ (tr_12 _ (List.mem_of_getElem? (i := 21) rfl))) (fun _ h9 => h9) rfl dX6_drawn_41 ?_
              refine lv_istore (lv' := [(4, .int (g 3 1)), (0, .ref (za Z 0)), (1, .int x1), (2, .int x2), (3, .int x3)]) hx hb dX6_drawn_44 hl (by decide) rfl (fun ls hl => ?_)
              refine lv_aload_n hx hb dX6_drawn_46 rfl (lv_at hl 1 rfl) ?_
              refine va_get (D := zD Z) (ci := 6) (v := .ref (za Z 16)) (C := RX6) (T := TX6) (N := 11) hx hb hT inlX6 hown hK hP 0 xw_0 rfl 4 (by decide) (hT _ (tr_2 _ (List.mem_of_getElem? (i := 7) rfl))) (fun _ h9 => h9) rfl dX6_drawn_47 ?_
              refine lv_iload_n hx hb dX6_drawn_50 rfl (lv_at hl 3 rfl) ?_
              refine va_put (D := zD Z) (ci := 0) (v := .int x2) (ty := .int) (C := RX0) (T := TX0) (N := 1) hx hb hT inlX0 tyX0 tyX0_ok nmX0 hown hK hP hZ.D hS 16 xw_16 rfl 0 (by decide) (hT _ (tr_33 _ (List.mem_of_getElem? (i := 20) rfl))) (fun _ h9 => h9) rfl (by decide +kernel) rfl rfl (Nat.le_of_ble_eq_true rfl) dX6_drawn_51 (fun H locs hP _ hS => ?_)
              replace hP := xf_16_0 hP
              have hF := hF.u2 (i := 16) (k := 0) (v := x2) (by decide)
              refine lv_iconst (v := 0) hx hb dX6_drawn_54 (by decide) ?_
              refine lv_istore (lv' := [(5, .int 0), (4, .int (g 3 1)), (0, .ref (za Z 0)), (1, .int x1), (2, .int x2), (3, .int x3)]) hx hb dX6_drawn_55 hl (by decide) rfl (fun ls hl => ?_)
              exact L57 _ (g 3 1) 0 (up2 g 16 0 x2) gl tf _ _ hP hF hG hS (by omega) c_31 rfl (by rw [tk_0]; omega) (by rw [tk_0]; show (g 3 1).toInt = _; omega) (by show x2 = nI x2.toInt.toNat; exact nI_ek (by omega)) (by rw [show (0 : Int32).toInt.toNat = 0 from rfl]; exact hTx) (fun i hi => by rw [show (0 : Int32).toInt.toNat = 0 from rfl] at hi; omega) (fun _ _ _ => rfl) (Nat.lt_succ_self _) ls (lv_sub hl [2, 3, 4, 5, 1, 0] rfl)
            · skip
              have i_31 := ti_eqk rfl tk_0 c_31
              refine lv_bipush (v := (-103)) hx hb dX6_drawn_34 (by decide) ?_
              exact W.iret (v := (-103)) hx hb hr (fun t ht hW => ⟨⟨(-103), (g, gl, tf), rfl, ⟨hF, hG, (by (try dsimp only); first | done | exact Or.inr (Or.inl ⟨by omega, c_31, rfl, rfl, rfl⟩))⟩, by show va_P (zD Z) vwCl (xw Z g gl tf) t.heap; rw [ht]; exact hP⟩, hS.F ht⟩) hS.2.2 dX6_drawn_36
          · skip
            have i_21 := ti_nlek rfl tk_2 c_21
            refine lv_bipush (v := (-102)) hx hb dX6_drawn_24 (by decide) ?_
            exact W.iret (v := (-102)) hx hb hr (fun t ht hW => ⟨⟨(-102), (g, gl, tf), rfl, ⟨hF, hG, (by (try dsimp only); first | done | exact Or.inl ⟨by omega, rfl, rfl, rfl⟩)⟩, by show va_P (zD Z) vwCl (xw Z g gl tf) t.heap; rw [ht]; exact hP⟩, hS.F ht⟩) hS.2.2 dX6_drawn_26
set_option maxHeartbeats 4000000 in
set_option maxRecDepth 100000 in
theorem c_X6_image (l : Launch) (Z : ZT) (hZ : XG Z) (g : Nat → Nat → Int32) (gl : Nat → Nat → Int64) (tf : Nat → Nat → Int32) (hn4 : 0 ≤ (g 3 1).toInt ∧ (g 3 1).toInt ≤ 40) (hsn : 0 ≤ (g 11 4).toInt ∧ (g 11 4).toInt ≤ 6) (hG : Gd Z tf) : Met l yX6_image (Cond.code yX6_image cX6_image 1 (some .int) :: wsL_law) ({ frames := 4, cells := 0, slots := 0, locals := 89 } : Room) (va_Pc [.ref (za Z 0)] (XI Z g gl tf)) (va_Qi (fun (r : Int32) (u : (Nat → Nat → Int32) × (Nat → Nat → Int64) × (Nat → Nat → Int32)) => Fr [0, 17, 19, 20, 21, 22] g u.1 ∧ Gd Z u.2.2 ∧ ((g 0 8 = 0 ∧ r = -103 ∧ u.1 = g ∧ u.2.2 = tf) ∨ (¬ g 0 8 = 0 ∧ r = g 3 1 ∧ u.1 0 8 = g 0 8 ∧ u.1 0 9 = 1 ∧ u.1 0 10 = g 0 10 ∧ u.1 17 1 = g 3 1 ∧ u.1 19 4 = g 11 4 ∧ ((∀ i : Nat, (i : Int) < (g 11 4).toInt → u.1 20 i = g 12 i) ∧ (∀ i : Nat, (i : Int) < (g 11 4).toInt → u.1 21 i = g 13 i) ∧ (∀ i : Nat, (i : Int) < (g 11 4).toInt → u.1 22 i = g 14 i)) ∧ ((∀ t : Nat, (t : Int) < (g 3 1).toInt → ∀ k, k < 5 → u.2.2 (ko Z t) k = tf (ro Z t) k) ∧ (∀ b, (∀ t, t < 40 → b ≠ ko Z t) → u.2.2 b = tf b))))) (fun u t => va_P (zD Z) vwCl (xw Z u.1 u.2.1 u.2.2) t.heap) (zA Z)) 0 0 (zA Z) := by
  refine Met.ofW (cc := cX6_image) (maxL := 1) (ret := (some .int)) (by decide) rfl ?_
  intro p e s m args below meth c s₁ B hml hv
  obtain ⟨rfl, hI⟩ := hv
  have hx := B.exec
  have hb := B.bytes
  have hr := B.returns
  have hT : ∀ w ∈ wsL_law, w.before ([.ref (za Z 0)] : List Value).toArray s = true := fun w h => atoms_spec (ws := (Cond.code yX6_image cX6_image 1 (some .int) :: wsL_law)) B.pre w (List.mem_cons_of_mem _ h)
  have hown : s.vm.findClass RX6 = some m.cls := findClass_of_methodNamed B.named
  have hlocks := B.notSynchronized
  have hK := hI.2.1
  have hP := hI.1
  have hS : va_S (zA Z) s.heap s.heap [] := va_S.rf
  have hF : Fr [0, 17, 19, 20, 21, 22] g g := Fr.rf
  have hl := lv_entry ([.ref (za Z 0)]) (n := 1) (Nat.le_of_ble_eq_true rfl)
  rw [lg_entry_eq]
  generalize (lg_sl ([.ref (za Z 0)]) ++ List.replicate (1 - (lg_sl ([.ref (za Z 0)])).length) Slot.unset).toArray = ls at hl ⊢
  have hl : lv_has ls 1 [(0, .ref (za Z 0))] := hl
  refine lv_aload_n hx hb dX6_image_0 rfl (lv_at hl 0 rfl) ?_
  refine va_get (D := zD Z) (ci := 6) (v := .int (g 0 8)) (C := RX6) (T := TX6) (N := 11) hx hb hT inlX6 hown hK hP 0 xw_0 rfl 8 (by decide) (hT _ (tr_12 _ (List.mem_of_getElem? (i := 19) rfl))) (fun _ h9 => h9) rfl dX6_image_1 ?_
  refine lv_if_ne (tgt := 10) hx hb dX6_image_4 (by decide) (fun c_4 => ?_) (fun c_4 => ?_)
  · skip
    have i_4 := ti_nek rfl tk_0 c_4
    refine lv_aload_n hx hb dX6_image_10 rfl (lv_at hl 0 rfl) ?_
    refine va_get (D := zD Z) (ci := 6) (v := .ref (za Z 17)) (C := RX6) (T := TX6) (N := 11) hx hb hT inlX6 hown hK hP 0 xw_0 rfl 6 (by decide) (hT _ (tr_2 _ (List.mem_of_getElem? (i := 12) rfl))) (fun _ h9 => h9) rfl dX6_image_11 ?_
    refine lv_aload_n hx hb dX6_image_14 rfl (lv_at hl 0 rfl) ?_
    refine va_get (D := zD Z) (ci := 6) (v := .ref (za Z 3)) (C := RX6) (T := TX6) (N := 11) hx hb hT inlX6 hown hK hP 0 xw_0 rfl 1 (by decide) (hT _ (tr_1 _ (List.mem_of_getElem? (i := 19) rfl))) (fun _ h9 => h9) rfl dX6_image_15 ?_
    refine va_callv (va_runV (As := [.ref (za Z 3)]) (rest := []) ⟨hx, hb, hml, hown, hT⟩ (c_X4_copyFrom l Z hZ g gl tf hn4 hG) (cwV 1 hT (tb_V (fun _ h => h) (tr_35 _ (List.mem_of_getElem? (i := 10) rfl)) (tr_35 _ (List.mem_of_getElem? (i := 11) rfl)) (tr_35 _ (List.mem_of_getElem? (i := 12) rfl)) (tr_1 _ (List.mem_of_getElem? (i := 18) rfl)) (tr_35 _ (List.mem_of_getElem? (i := 13) rfl))) rfl rfl rfl (by decide +kernel) ⟨Nat.le_of_ble_eq_true rfl, Nat.le_of_ble_eq_true rfl⟩) ⟨fun a U f mk q => ⟨q.1, XI.blind f mk a q.2⟩, va_recv hK hP (ci := 4) (q0 := 17) rfl xw_17, fun U hU hW => ⟨rfl, hI.at hS hP hU hW⟩⟩ rfl rfl hl.1 rfl (lv_room (Nat.le_of_ble_eq_true rfl)) dX6_image_18 ⟨Nat.zero_le _, Nat.zero_le _⟩) hS (fun q _ h => h) (fun q h => h) (fun u_18 t_18 H locs ht_18 _ hw_18 hB_18 _ _ hS => ?_)
    obtain ⟨g_18, gl_18, tf_18⟩ := u_18
    have hP : va_P (zD Z) vwCl (xw Z g_18 gl_18 tf_18) H := ht_18 ▸ hB_18
    obtain ⟨hf_18, hG, hr_18⟩ := hw_18
    have hF := hF.tr hf_18 (by decide)
    (try dsimp only at hf_18 hG hF hr_18)
    refine lv_aload_n hx hb dX6_image_21 rfl (lv_at hl 0 rfl) ?_
    refine va_get (D := zD Z) (ci := 6) (v := .ref (za Z 19)) (C := RX6) (T := TX6) (N := 11) hx hb hT inlX6 hown hK hP 0 xw_0 rfl 7 (by decide) (hT _ (tr_2 _ (List.mem_of_getElem? (i := 13) rfl))) (fun _ h9 => h9) rfl dX6_image_22 ?_
    refine lv_aload_n hx hb dX6_image_25 rfl (lv_at hl 0 rfl) ?_
    refine va_get (D := zD Z) (ci := 6) (v := .ref (za Z 11)) (C := RX6) (T := TX6) (N := 11) hx hb hT inlX6 hown hK hP 0 xw_0 rfl 3 (by decide) (hT _ (tr_2 _ (List.mem_of_getElem? (i := 3) rfl))) (fun _ h9 => h9) rfl dX6_image_26 ?_
    have f11 : ∀ i, i ∈ [11, 12, 13, 14] → g_18 i = g i := fun i hi => hf_18 i (by intro z; simp at hi z; omega)
    have k11 : g_18 11 4 = g 11 4 := by rw [f11 11 (by decide)]
    refine va_callv (va_runV (As := [.ref (za Z 11)]) (rest := []) ⟨hx, hb, hml, hown, hT⟩ (c_X2_copyFrom_19 l Z hZ g_18 gl_18 tf_18 (by rw [k11]; exact hsn) hG) (cwV 1 hT (tb_V (fun _ h => h) (tr_35 _ (List.mem_of_getElem? (i := 15) rfl)) (tr_35 _ (List.mem_of_getElem? (i := 16) rfl)) (tr_35 _ (List.mem_of_getElem? (i := 17) rfl)) (tr_2 _ (List.mem_of_getElem? (i := 2) rfl)) (tr_35 _ (List.mem_of_getElem? (i := 18) rfl))) rfl rfl rfl (by decide +kernel) ⟨Nat.le_of_ble_eq_true rfl, Nat.le_of_ble_eq_true rfl⟩) ⟨fun a U f mk q => ⟨q.1, XI.blind f mk a q.2⟩, va_recv hK hP (ci := 2) (q0 := 19) rfl xw_19, fun U hU hW => ⟨rfl, hI.at hS hP hU hW⟩⟩ rfl rfl hl.1 rfl (lv_room (Nat.le_of_ble_eq_true rfl)) dX6_image_29 ⟨Nat.zero_le _, Nat.zero_le _⟩) hS (fun q _ h => h) (fun q h => h) (fun u_29 t_29 H locs ht_29 _ hw_29 hB_29 _ _ hS => ?_)
    obtain ⟨g_29, gl_29, tf_29⟩ := u_29
    have hP : va_P (zD Z) vwCl (xw Z g_29 gl_29 tf_29) H := ht_29 ▸ hB_29
    obtain ⟨hf_29, hG, et_29, hr_29⟩ := hw_29
    have hF := hF.tr hf_29 (by decide)
    (try dsimp only at hf_29 hG hF et_29 hr_29)
    subst et_29
    refine lv_aload_n hx hb dX6_image_32 rfl (lv_at hl 0 rfl) ?_
    refine lv_iconst (v := 1) hx hb dX6_image_33 (by decide) ?_
    refine va_put (D := zD Z) (ci := 6) (v := .int 1) (ty := .boolean) (C := RX6) (T := TX6) (N := 11) hx hb hT inlX6 tyX6 tyX6_ok nmX6 hown hK hP hZ.D hS 0 xw_0 rfl 9 (by decide) (hT _ (tr_12 _ (List.mem_of_getElem? (i := 18) rfl))) (fun _ h9 => h9) rfl (by decide +kernel) rfl rfl (Nat.le_of_ble_eq_true rfl) dX6_image_34 (fun H locs hP _ hS => ?_)
    replace hP := xf_0_9 hP
    have hF := hF.u2 (i := 0) (k := 9) (v := 1) (by decide)
    refine lv_aload_n hx hb dX6_image_37 rfl (lv_at hl 0 rfl) ?_
    refine va_get (D := zD Z) (ci := 6) (v := .ref (za Z 3)) (C := RX6) (T := TX6) (N := 11) hx hb hT inlX6 hown hK hP 0 xw_0 rfl 1 (by decide) (hT _ (tr_1 _ (List.mem_of_getElem? (i := 19) rfl))) (fun _ h9 => h9) rfl dX6_image_38 ?_
    refine va_get (D := zD Z) (ci := 4) (v := .int (g_29 3 1)) (C := RX4) (T := TX4) (N := 2) hx hb hT inlX4 hown hK hP 3 xw_3 rfl 1 (by decide) (hT _ (tr_12 _ (List.mem_of_getElem? (i := 21) rfl))) (fun _ h9 => h9) rfl dX6_image_41 ?_
    exact W.iret (v := (g_29 3 1)) hx hb hr (fun t ht hW => ⟨⟨(g_29 3 1), ((up2 g_29 0 9 1), gl_29, tf_18), rfl, ⟨hF, hG, (by (try dsimp only); first | done | exact Or.inr ⟨c_4, by show g_29 3 1 = g 3 1; rw [hf_29 3 (by decide), hf_18 3 (by decide)], by show g_29 0 8 = g 0 8; rw [hf_29 0 (by decide), hf_18 0 (by decide)], rfl, by show g_29 0 10 = g 0 10; rw [hf_29 0 (by decide), hf_18 0 (by decide)], by show g_29 17 1 = g 3 1; rw [hf_29 17 (by decide)]; exact hr_18.1, by show g_29 19 4 = g 11 4; rw [hr_29.1]; exact k11, ⟨fun i hi => by show g_29 20 i = g 12 i; rw [hr_29.2.1 i (by rw [k11]; exact hi), f11 12 (by decide)], fun i hi => by show g_29 21 i = g 13 i; rw [hr_29.2.2.1 i (by rw [k11]; exact hi), f11 13 (by decide)], fun i hi => by show g_29 22 i = g 14 i; rw [hr_29.2.2.2 i (by rw [k11]; exact hi), f11 14 (by decide)]⟩, ⟨hr_18.2.1, hr_18.2.2⟩⟩)⟩, by show va_P (zD Z) vwCl (xw Z (up2 g_29 0 9 1) gl_29 tf_18) t.heap; rw [ht]; exact hP⟩, hS.F ht⟩) hS.2.2 dX6_image_44
  · skip
    have i_4 := ti_eqk rfl tk_0 c_4
    refine lv_bipush (v := (-103)) hx hb dX6_image_7 (by decide) ?_
    exact W.iret (v := (-103)) hx hb hr (fun t ht hW => ⟨⟨(-103), (g, gl, tf), rfl, ⟨hF, hG, (by (try dsimp only); first | done | exact Or.inl ⟨c_4, rfl, rfl, rfl⟩)⟩, by show va_P (zD Z) vwCl (xw Z g gl tf) t.heap; rw [ht]; exact hP⟩, hS.F ht⟩) hS.2.2 dX6_image_9
set_option maxHeartbeats 4000000 in
set_option maxRecDepth 100000 in
theorem c_X6_restore (l : Launch) (Z : ZT) (hZ : XG Z) (g : Nat → Nat → Int32) (gl : Nat → Nat → Int64) (tf : Nat → Nat → Int32) (hkn : 0 ≤ (g 17 1).toInt ∧ (g 17 1).toInt ≤ 40) (hks : 0 ≤ (g 19 4).toInt ∧ (g 19 4).toInt ≤ 6) (hG : Gd Z tf) : Met l yX6_restore (Cond.code yX6_restore cX6_restore 2 (some .int) :: wsL_law) ({ frames := 7, cells := 0, slots := 0, locals := 166 } : Room) (va_Pc [.ref (za Z 0)] (XI Z g gl tf)) (va_Qi (fun (r : Int32) (u : (Nat → Nat → Int32) × (Nat → Nat → Int64) × (Nat → Nat → Int32)) => Fr [3, 5, 6, 7, 8, 9, 10, 11, 12, 13, 14] g u.1 ∧ Gd Z u.2.2 ∧ ((g 0 9 = 0 ∧ r = -103 ∧ u.1 = g ∧ u.2.2 = tf) ∨ (¬ g 0 9 = 0 ∧ r = g 17 1 ∧ u.1 3 1 = g 17 1 ∧ u.1 11 4 = g 19 4 ∧ ((∀ i : Nat, (i : Int) < (g 19 4).toInt → u.1 12 i = g 20 i) ∧ (∀ i : Nat, (i : Int) < (g 19 4).toInt → u.1 13 i = g 21 i) ∧ (∀ i : Nat, (i : Int) < (g 19 4).toInt → u.1 14 i = g 22 i)) ∧ (∀ t : Nat, (t : Int) < (g 17 1).toInt → ∀ k, k < 5 → u.2.2 (ro Z t) k = tf (ko Z t) k) ∧ (∀ b, (∀ t, t < 70 → b ≠ ro Z t) → u.2.2 b = tf b) ∧ TX (xr Z u.2.2) (g 17 1).toInt.toNat u.1))) (fun u t => va_P (zD Z) vwCl (xw Z u.1 u.2.1 u.2.2) t.heap) (zA Z)) 0 0 (zA Z) := by
  refine Met.ofW (cc := cX6_restore) (maxL := 2) (ret := (some .int)) (by decide) rfl ?_
  intro p e s m args below meth c s₁ B hml hv
  obtain ⟨rfl, hI⟩ := hv
  have hx := B.exec
  have hb := B.bytes
  have hr := B.returns
  have hT : ∀ w ∈ wsL_law, w.before ([.ref (za Z 0)] : List Value).toArray s = true := fun w h => atoms_spec (ws := (Cond.code yX6_restore cX6_restore 2 (some .int) :: wsL_law)) B.pre w (List.mem_cons_of_mem _ h)
  have hown : s.vm.findClass RX6 = some m.cls := findClass_of_methodNamed B.named
  have hlocks := B.notSynchronized
  have hK := hI.2.1
  have hP := hI.1
  have hS : va_S (zA Z) s.heap s.heap [] := va_S.rf
  have hF : Fr [3, 5, 6, 7, 8, 9, 10, 11, 12, 13, 14] g g := Fr.rf
  have hl := lv_entry ([.ref (za Z 0)]) (n := 2) (Nat.le_of_ble_eq_true rfl)
  rw [lg_entry_eq]
  generalize (lg_sl ([.ref (za Z 0)]) ++ List.replicate (2 - (lg_sl ([.ref (za Z 0)])).length) Slot.unset).toArray = ls at hl ⊢
  have hl : lv_has ls 2 [(0, .ref (za Z 0))] := hl
  have L19 : ∀ (n : Nat) (z1 : Int32) (g1 : Nat → Nat → Int32) (gl1 : Nat → Nat → Int64) (tf1 : Nat → Nat → Int32) (H : Heap) (locs : List Loc) (hP : va_P (zD Z) vwCl (xw Z g1 gl1 tf1) H) (hF : Fr [3, 5, 6, 7, 8, 9, 10, 11, 12, 13, 14] g g1) (hG : Gd Z tf1) (hS : va_S (zA Z) s.heap H locs) (hT9 : TX (xr Z tf1) z1.toInt.toNat g1) (h1 : 0 ≤ z1.toInt ∧ z1.toInt ≤ (g 17 1).toInt) (hne : ¬ g 0 9 = 0) (h3 : (g1 3 1).toInt = z1.toInt) (hA : ∀ t : Nat, (t : Int) < z1.toInt → ∀ k, k < 5 → tf1 (ro Z t) k = tf (ko Z t) k) (hB : ∀ b, (∀ t, t < 70 → b ≠ ro Z t) → tf1 b = tf b) (hn : ((g 17 1).toInt - z1.toInt).toNat < n) (ls : Array Slot) (hl : lv_has ls 2 [(0, .ref (za Z 0)), (1, .int z1)]), W p l e ({ frames := 7, cells := 0, slots := 0, locals := 166 } : Room) s m ([.ref (za Z 0)] : List Value).toArray below meth c H locs 0 0 (MQ below (va_Qi (fun (r : Int32) (u : (Nat → Nat → Int32) × (Nat → Nat → Int64) × (Nat → Nat → Int32)) => Fr [3, 5, 6, 7, 8, 9, 10, 11, 12, 13, 14] g u.1 ∧ Gd Z u.2.2 ∧ ((g 0 9 = 0 ∧ r = -103 ∧ u.1 = g ∧ u.2.2 = tf) ∨ (¬ g 0 9 = 0 ∧ r = g 17 1 ∧ u.1 3 1 = g 17 1 ∧ u.1 11 4 = g 19 4 ∧ ((∀ i : Nat, (i : Int) < (g 19 4).toInt → u.1 12 i = g 20 i) ∧ (∀ i : Nat, (i : Int) < (g 19 4).toInt → u.1 13 i = g 21 i) ∧ (∀ i : Nat, (i : Int) < (g 19 4).toInt → u.1 14 i = g 22 i)) ∧ (∀ t : Nat, (t : Int) < (g 17 1).toInt → ∀ k, k < 5 → u.2.2 (ro Z t) k = tf (ko Z t) k) ∧ (∀ b, (∀ t, t < 70 → b ≠ ro Z t) → u.2.2 b = tf b) ∧ TX (xr Z u.2.2) (g 17 1).toInt.toNat u.1))) (fun u t => va_P (zD Z) vwCl (xw Z u.1 u.2.1 u.2.2) t.heap) (zA Z)) ([.ref (za Z 0)] : List Value).toArray s 0 0 (zA Z)) (F0 m 19 ls []) := by
    intro n
    induction n with
    | zero => intro z1 g1 gl1 tf1 H locs hP hF hG hS hT9 h1 hne h3 hA hB hn; exact absurd hn (Nat.not_lt_zero _)
    | succ n ih19 =>
      intro z1 g1 gl1 tf1 H locs hP hF hG hS hT9 h1 hne h3 hA hB hn ls hl
      have f17 : (g1 17 1).toInt = (g 17 1).toInt := by rw [hF 17 (by decide)]
      have k3 := h3
      refine lv_iload_n hx hb dX6_restore_19 rfl (lv_at hl 1 rfl) ?_
      refine lv_aload_n hx hb dX6_restore_20 rfl (lv_at hl 0 rfl) ?_
      refine va_get (D := zD Z) (ci := 6) (v := .ref (za Z 17)) (C := RX6) (T := TX6) (N := 11) hx hb hT inlX6 hown hK hP 0 xw_0 rfl 6 (by decide) (hT _ (tr_2 _ (List.mem_of_getElem? (i := 12) rfl))) (fun _ h9 => h9) rfl dX6_restore_21 ?_
      refine va_get (D := zD Z) (ci := 4) (v := .int (g1 17 1)) (C := RX4) (T := TX4) (N := 2) hx hb hT inlX4 hown hK hP 17 xw_17 rfl 1 (by decide) (hT _ (tr_12 _ (List.mem_of_getElem? (i := 21) rfl))) (fun _ h9 => h9) rfl dX6_restore_24 ?_
      refine lv_icmp_ge (tgt := 52) hx hb dX6_restore_27 (by decide) (fun c_27 => ?_) (fun c_27 => ?_)
      · skip
        have i_27 := ti_lek rfl rfl c_27
        refine lv_aload_n hx hb dX6_restore_52 rfl (lv_at hl 0 rfl) ?_
        refine va_get (D := zD Z) (ci := 6) (v := .ref (za Z 11)) (C := RX6) (T := TX6) (N := 11) hx hb hT inlX6 hown hK hP 0 xw_0 rfl 3 (by decide) (hT _ (tr_2 _ (List.mem_of_getElem? (i := 3) rfl))) (fun _ h9 => h9) rfl dX6_restore_53 ?_
        refine lv_aload_n hx hb dX6_restore_56 rfl (lv_at hl 0 rfl) ?_
        refine va_get (D := zD Z) (ci := 6) (v := .ref (za Z 19)) (C := RX6) (T := TX6) (N := 11) hx hb hT inlX6 hown hK hP 0 xw_0 rfl 7 (by decide) (hT _ (tr_2 _ (List.mem_of_getElem? (i := 13) rfl))) (fun _ h9 => h9) rfl dX6_restore_57 ?_
        have f19 : ∀ i, i ∈ [19, 20, 21, 22] → g1 i = g i := fun i hi => hF i (by intro z; simp at hi z; omega)
        have k19 : g1 19 4 = g 19 4 := by rw [f19 19 (by decide)]
        refine va_callv (va_runV (As := [.ref (za Z 19)]) (rest := []) ⟨hx, hb, hml, hown, hT⟩ (c_X2_copyFrom_11 l Z hZ g1 gl1 tf1 (by rw [k19]; exact hks) hG) (cwV 1 hT (tb_V (fun _ h => h) (tr_35 _ (List.mem_of_getElem? (i := 15) rfl)) (tr_35 _ (List.mem_of_getElem? (i := 16) rfl)) (tr_35 _ (List.mem_of_getElem? (i := 17) rfl)) (tr_2 _ (List.mem_of_getElem? (i := 2) rfl)) (tr_35 _ (List.mem_of_getElem? (i := 18) rfl))) rfl rfl rfl (by decide +kernel) ⟨Nat.le_of_ble_eq_true rfl, Nat.le_of_ble_eq_true rfl⟩) ⟨fun a U f mk q => ⟨q.1, XI.blind f mk a q.2⟩, va_recv hK hP (ci := 2) (q0 := 11) rfl xw_11, fun U hU hW => ⟨rfl, hI.at hS hP hU hW⟩⟩ rfl rfl hl.1 rfl (lv_room (Nat.le_of_ble_eq_true rfl)) dX6_restore_60 ⟨Nat.zero_le _, Nat.zero_le _⟩) hS (fun q _ h => h) (fun q h => h) (fun u_60 t_60 H locs ht_60 _ hw_60 hB_60 _ _ hS => ?_)
        obtain ⟨g_60, gl_60, tf_60⟩ := u_60
        have hP : va_P (zD Z) vwCl (xw Z g_60 gl_60 tf_60) H := ht_60 ▸ hB_60
        obtain ⟨hf_60, hG, et_60, hr_60⟩ := hw_60
        have hF := hF.tr hf_60 (by decide)
        (try dsimp only at hf_60 hG hF et_60 hr_60)
        subst et_60
        refine lv_aload_n hx hb dX6_restore_63 rfl (lv_at hl 0 rfl) ?_
        refine va_get (D := zD Z) (ci := 6) (v := .ref (za Z 3)) (C := RX6) (T := TX6) (N := 11) hx hb hT inlX6 hown hK hP 0 xw_0 rfl 1 (by decide) (hT _ (tr_1 _ (List.mem_of_getElem? (i := 19) rfl))) (fun _ h9 => h9) rfl dX6_restore_64 ?_
        refine va_get (D := zD Z) (ci := 4) (v := .int (g_60 3 1)) (C := RX4) (T := TX4) (N := 2) hx hb hT inlX4 hown hK hP 3 xw_3 rfl 1 (by decide) (hT _ (tr_12 _ (List.mem_of_getElem? (i := 21) rfl))) (fun _ h9 => h9) rfl dX6_restore_67 ?_
        exact W.iret (v := (g_60 3 1)) hx hb hr (fun t ht hW => ⟨⟨(g_60 3 1), (g_60, gl_60, tf1), rfl, ⟨hF, hG, (by (try dsimp only); first | done | exact Or.inr ⟨hne, Int32.toInt_inj.mp (by show (g_60 3 1).toInt = _; rw [hf_60 3 (by decide)]; omega), Int32.toInt_inj.mp (by show (g_60 3 1).toInt = _; rw [hf_60 3 (by decide)]; omega), hr_60.1.trans k19, ⟨fun i hi => by rw [hr_60.2.1 i (by rw [k19]; exact hi), f19 20 (by decide)], fun i hi => by rw [hr_60.2.2.1 i (by rw [k19]; exact hi), f19 21 (by decide)], fun i hi => by rw [hr_60.2.2.2 i (by rw [k19]; exact hi), f19 22 (by decide)]⟩, fun t ht => hA t (by omega), hB, TX_ch (by rw [show (g 17 1).toInt.toNat = z1.toInt.toNat by omega]; exact hT9) hf_60 (by decide)⟩)⟩, by show va_P (zD Z) vwCl (xw Z g_60 gl_60 tf1) t.heap; rw [ht]; exact hP⟩, hS.F ht⟩) hS.2.2 dX6_restore_70
      · skip
        have i_27 := ti_nlek rfl rfl c_27
        refine lv_aload_n hx hb dX6_restore_30 rfl (lv_at hl 0 rfl) ?_
        refine va_get (D := zD Z) (ci := 6) (v := .ref (za Z 5)) (C := RX6) (T := TX6) (N := 11) hx hb hT inlX6 hown hK hP 0 xw_0 rfl 2 (by decide) (hT _ (tr_1 _ (List.mem_of_getElem? (i := 23) rfl))) (fun _ h9 => h9) rfl dX6_restore_31 ?_
        refine lv_aload_n hx hb dX6_restore_34 rfl (lv_at hl 0 rfl) ?_
        refine va_get (D := zD Z) (ci := 6) (v := .ref (za Z 17)) (C := RX6) (T := TX6) (N := 11) hx hb hT inlX6 hown hK hP 0 xw_0 rfl 6 (by decide) (hT _ (tr_2 _ (List.mem_of_getElem? (i := 12) rfl))) (fun _ h9 => h9) rfl dX6_restore_35 ?_
        refine lv_iload_n hx hb dX6_restore_38 rfl (lv_at hl 1 rfl) ?_
        refine rd_cr (va_runV (As := [.int z1]) (rest := [.ref (za Z 5)]) ⟨hx, hb, hml, hown, hT⟩ (c_X4_at_17 l Z hZ g1 gl1 tf1 z1 hG) (cwV 1 hT (tb_V (fun _ h => h) (tr_20 _ (List.mem_of_getElem? (i := 6) rfl)) (tr_14 _ (List.mem_of_getElem? (i := 14) rfl)) (tr_14 _ (List.mem_of_getElem? (i := 15) rfl)) (tr_1 _ (List.mem_of_getElem? (i := 18) rfl)) (tr_14 _ (List.mem_of_getElem? (i := 16) rfl))) rfl rfl rfl (by decide +kernel) ⟨Nat.le_of_ble_eq_true rfl, Nat.le_of_ble_eq_true rfl⟩) ⟨fun a U f mk q => ⟨q.1, XI.blind f mk a q.2⟩, va_recv hK hP (ci := 4) (q0 := 17) rfl xw_17, fun U hU hW => ⟨rfl, hI.at hS hP hU hW⟩⟩ rfl rfl hl.1 rfl (lv_room (Nat.le_of_ble_eq_true rfl)) dX6_restore_39 ⟨Nat.zero_le _, Nat.zero_le _⟩) (fun r_39 hr_39 => ?_)
        have e39 := hr_39.2 z1.toInt.toNat (by omega) (by omega)
        subst e39
        refine va_calli (va_runV (As := [.ref (ko Z z1.toInt.toNat)]) (rest := []) ⟨hx, hb, hml, hown, hT⟩ (c_X5_take l Z hZ g1 gl1 tf1 (ko Z z1.toInt.toNat) hr_39.1 (by omega) (by rw [show (g1 3 1).toInt.toNat = z1.toInt.toNat by omega]; exact hT9) hG) (cwV 1 hT (tb_V (fun _ h => h) (tr_14 _ (List.mem_of_getElem? (i := 2) rfl)) (tr_14 _ (List.mem_of_getElem? (i := 3) rfl)) (tr_14 _ (List.mem_of_getElem? (i := 4) rfl)) (tr_1 _ (List.mem_of_getElem? (i := 22) rfl)) (tr_14 _ (List.mem_of_getElem? (i := 5) rfl))) rfl rfl rfl (by decide +kernel) ⟨Nat.le_of_ble_eq_true rfl, Nat.le_of_ble_eq_true rfl⟩) ⟨fun a U f mk q => ⟨q.1, XI.blind f mk a q.2⟩, va_recv hK hP (ci := 5) (q0 := 5) rfl xw_5, fun U hU hW => ⟨rfl, hI.at hS hP hU hW⟩⟩ rfl rfl hl.1 rfl (lv_room (Nat.le_of_ble_eq_true rfl)) dX6_restore_42 ⟨Nat.zero_le _, Nat.zero_le _⟩) hS (fun q _ h => h) (fun q h => h) (fun r_42 u_42 t_42 H locs ht_42 _ hw_42 hB_42 _ _ hS => ?_)
        obtain ⟨g_42, gl_42, tf_42⟩ := u_42
        have hP : va_P (zD Z) vwCl (xw Z g_42 gl_42 tf_42) H := ht_42 ▸ hB_42
        obtain ⟨hf_42, hG, et_42, hr_42⟩ := hw_42
        have hF := hF.tr hf_42 (by decide)
        (try dsimp only at hf_42 hG hF et_42 hr_42)
        subst et_42
        have k42 : (g_42 3 1).toInt = (g1 3 1).toInt + 1 := by rw [hr_42.1]; exact ti_addk rfl tk_1 (by omega) (by omega) rfl
        refine lv_pop hx hb dX6_restore_45 rfl ?_
        obtain ⟨v_46, e_46⟩ : ∃ y : Int32, y = z1 + 1 := ⟨_, rfl⟩
        refine lv_iinc (v := v_46) (lv' := [(1, .int v_46), (0, .ref (za Z 0))]) hx hb dX6_restore_46 hl (k := 1) rfl (by rw [e_46]; rfl) (by decide) rfl (fun ls hl => ?_)
        have t_46 := ti_addk rfl tk_1 (by omega) (by omega) e_46
        refine lv_goto (tgt := 19) hx hb dX6_restore_49 (by decide) ?_
        exact ih19 v_46 g_42 gl_42 (wrT tf1 (ro Z (g1 3 1).toInt.toNat) (tf1 (ko Z z1.toInt.toNat) 0) (tf1 (ko Z z1.toInt.toNat) 1) (tf1 (ko Z z1.toInt.toNat) 2) (tf1 (ko Z z1.toInt.toNat) 3) (tf1 (ko Z z1.toInt.toNat) 4)) _ _ hP hF hG hS (by rw [show v_46.toInt.toNat = (g1 3 1).toInt.toNat + 1 by omega]; exact hr_42.2.1) (by omega) hne (by omega) (fun t ht k hk => by rcases Int.lt_or_le (t : Int) z1.toInt with q | q; (rw [wrT_ne (hZ.ri (by omega) (by omega) (by omega))]; exact hA t q k hk); have e2 : z1.toInt.toNat = t := (by omega); rw [show (g1 3 1).toInt.toNat = t by omega, e2, wrT_k k hk]; exact congrFun (hB (ko Z t) (fun j hj => (hZ.rk hj (show t < 40 by omega)).symm)) k) (fun b hb => by rw [wrT_ne (hb _ (by omega))]; exact hB b hb) (by omega) ls (lv_sub hl [1, 0] rfl)
  refine lv_aload_n hx hb dX6_restore_0 rfl (lv_at hl 0 rfl) ?_
  refine va_get (D := zD Z) (ci := 6) (v := .int (g 0 9)) (C := RX6) (T := TX6) (N := 11) hx hb hT inlX6 hown hK hP 0 xw_0 rfl 9 (by decide) (hT _ (tr_12 _ (List.mem_of_getElem? (i := 18) rfl))) (fun _ h9 => h9) rfl dX6_restore_1 ?_
  refine lv_if_ne (tgt := 10) hx hb dX6_restore_4 (by decide) (fun c_4 => ?_) (fun c_4 => ?_)
  · skip
    have i_4 := ti_nek rfl tk_0 c_4
    refine lv_aload_n hx hb dX6_restore_10 rfl (lv_at hl 0 rfl) ?_
    refine va_get (D := zD Z) (ci := 6) (v := .ref (za Z 5)) (C := RX6) (T := TX6) (N := 11) hx hb hT inlX6 hown hK hP 0 xw_0 rfl 2 (by decide) (hT _ (tr_1 _ (List.mem_of_getElem? (i := 23) rfl))) (fun _ h9 => h9) rfl dX6_restore_11 ?_
    refine va_callv (va_runV (As := []) (rest := []) ⟨hx, hb, hml, hown, hT⟩ (c_X5_empty l Z hZ g gl tf hG) (cwV 0 hT (tb_V (fun _ h => h) (tr_13 _ (List.mem_of_getElem? (i := 3) rfl)) (tr_13 _ (List.mem_of_getElem? (i := 4) rfl)) (tr_13 _ (List.mem_of_getElem? (i := 5) rfl)) (tr_1 _ (List.mem_of_getElem? (i := 22) rfl)) (tr_13 _ (List.mem_of_getElem? (i := 6) rfl))) rfl rfl rfl (by decide +kernel) ⟨Nat.le_of_ble_eq_true rfl, Nat.le_of_ble_eq_true rfl⟩) ⟨fun a U f mk q => ⟨q.1, XI.blind f mk a q.2⟩, va_recv hK hP (ci := 5) (q0 := 5) rfl xw_5, fun U hU hW => ⟨rfl, hI.at hS hP hU hW⟩⟩ rfl rfl hl.1 rfl (lv_room (Nat.le_of_ble_eq_true rfl)) dX6_restore_14 ⟨Nat.zero_le _, Nat.zero_le _⟩) hS (fun q _ h => h) (fun q h => h) (fun u_14 t_14 H locs ht_14 _ hw_14 hB_14 _ _ hS => ?_)
    obtain ⟨g_14, gl_14, tf_14⟩ := u_14
    have hP : va_P (zD Z) vwCl (xw Z g_14 gl_14 tf_14) H := ht_14 ▸ hB_14
    obtain ⟨hf_14, hG, et_14, hr_14⟩ := hw_14
    have hF := hF.tr hf_14 (by decide)
    (try dsimp only at hf_14 hG hF et_14 hr_14)
    subst et_14
    refine lv_iconst (v := 0) hx hb dX6_restore_17 (by decide) ?_
    refine lv_istore_n (lv' := [(1, .int 0), (0, .ref (za Z 0))]) hx hb dX6_restore_18 rfl hl (by decide) rfl (fun ls hl => ?_)
    exact L19 _ 0 g_14 gl_14 tf _ _ hP hF hG hS (TX_0 hr_14.2.1 hr_14.2.2.1 hr_14.2.2.2) ⟨by decide, by rw [tk_0]; omega⟩ c_4 (by rw [hr_14.1]) (fun t ht => by rw [tk_0] at ht; omega) (fun _ _ => rfl) (Nat.lt_succ_self _) ls (lv_sub hl [1, 0] rfl)
  · skip
    have i_4 := ti_eqk rfl tk_0 c_4
    refine lv_bipush (v := (-103)) hx hb dX6_restore_7 (by decide) ?_
    exact W.iret (v := (-103)) hx hb hr (fun t ht hW => ⟨⟨(-103), (g, gl, tf), rfl, ⟨hF, hG, (by (try dsimp only); first | done | exact Or.inl ⟨c_4, rfl, rfl, rfl⟩)⟩, by show va_P (zD Z) vwCl (xw Z g gl tf) t.heap; rw [ht]; exact hP⟩, hS.F ht⟩) hS.2.2 dX6_restore_9
set_option maxHeartbeats 4000000 in
set_option maxRecDepth 100000 in
theorem c_X6_count (l : Launch) (Z : ZT) (hZ : XG Z) (g : Nat → Nat → Int32) (gl : Nat → Nat → Int64) (tf : Nat → Nat → Int32) (x1 : Int32) (hn4 : 0 ≤ (g 3 1).toInt ∧ (g 3 1).toInt ≤ 40) (hG : Gd Z tf) : Met l yX6_count (Cond.code yX6_count cX6_count 2 (some .int) :: wsL_law) ({ frames := 4, cells := 0, slots := 0, locals := 88 } : Room) (va_Pc [.ref (za Z 0), .int x1] (XI Z g gl tf)) (rd_Qi (fun r => r = cvF (cvX g) x1)) 0 0 (fun _ => False) := by
  refine Met.ofW (cc := cX6_count) (maxL := 2) (ret := (some .int)) (by decide) rfl ?_
  intro p e s m args below meth c s₁ B hml hv
  obtain ⟨rfl, hI⟩ := hv
  have hx := B.exec
  have hb := B.bytes
  have hr := B.returns
  have hT : ∀ w ∈ wsL_law, w.before ([.ref (za Z 0), .int x1] : List Value).toArray s = true := fun w h => atoms_spec (ws := (Cond.code yX6_count cX6_count 2 (some .int) :: wsL_law)) B.pre w (List.mem_cons_of_mem _ h)
  have hown : s.vm.findClass RX6 = some m.cls := findClass_of_methodNamed B.named
  have hlocks := B.notSynchronized
  have hK := hI.2.1
  have hP := hI.1
  have hS : va_S (zA Z) s.heap s.heap [] := va_S.rf
  have hl := lv_entry ([.ref (za Z 0), .int x1]) (n := 2) (Nat.le_of_ble_eq_true rfl)
  rw [lg_entry_eq]
  generalize (lg_sl ([.ref (za Z 0), .int x1]) ++ List.replicate (2 - (lg_sl ([.ref (za Z 0), .int x1])).length) Slot.unset).toArray = ls at hl ⊢
  have hl : lv_has ls 2 [(0, .ref (za Z 0)), (1, .int x1)] := hl
  refine lv_iload_n hx hb dX6_count_0 rfl (lv_at hl 1 rfl) ?_
  by_cases w_1_0 : x1 = 0
  · skip
    refine lv_tableIn (tgt := 48) (off := 47) hx hb dX6_count_1 (by rw [w_1_0]; decide) (by rw [w_1_0]; decide) (by rw [w_1_0]; decide) (by decide) ?_
    refine lv_aload_n hx hb dX6_count_48 rfl (lv_at hl 0 rfl) ?_
    refine va_get (D := zD Z) (ci := 6) (v := .ref (za Z 3)) (C := RX6) (T := TX6) (N := 11) hx hb hT inlX6 hown hK hP 0 xw_0 rfl 1 (by decide) (hT _ (tr_1 _ (List.mem_of_getElem? (i := 19) rfl))) (fun _ h9 => h9) rfl dX6_count_49 ?_
    refine va_get (D := zD Z) (ci := 4) (v := .int (g 3 1)) (C := RX4) (T := TX4) (N := 2) hx hb hT inlX4 hown hK hP 3 xw_3 rfl 1 (by decide) (hT _ (tr_12 _ (List.mem_of_getElem? (i := 21) rfl))) (fun _ h9 => h9) rfl dX6_count_52 ?_
    exact W.iret (v := (g 3 1)) hx hb hr (fun t ht hW => ⟨(g 3 1), rfl, (by (try dsimp only); rw [cv_y (k := 0) w_1_0 (by decide)]; rfl), ht⟩) (fun q hq => by cases hq) dX6_count_55
  by_cases w_1_1 : x1 = 1
  · skip
    refine lv_tableIn (tgt := 56) (off := 55) hx hb dX6_count_1 (by rw [w_1_1]; decide) (by rw [w_1_1]; decide) (by rw [w_1_1]; decide) (by decide) ?_
    refine lv_aload_n hx hb dX6_count_56 rfl (lv_at hl 0 rfl) ?_
    refine va_get (D := zD Z) (ci := 6) (v := .ref (za Z 5)) (C := RX6) (T := TX6) (N := 11) hx hb hT inlX6 hown hK hP 0 xw_0 rfl 2 (by decide) (hT _ (tr_1 _ (List.mem_of_getElem? (i := 23) rfl))) (fun _ h9 => h9) rfl dX6_count_57 ?_
    refine lv_iconst (v := 0) hx hb dX6_count_60 (by decide) ?_
    refine lv_aload_n hx hb dX6_count_61 rfl (lv_at hl 0 rfl) ?_
    refine va_get (D := zD Z) (ci := 6) (v := .ref (za Z 3)) (C := RX6) (T := TX6) (N := 11) hx hb hT inlX6 hown hK hP 0 xw_0 rfl 1 (by decide) (hT _ (tr_1 _ (List.mem_of_getElem? (i := 19) rfl))) (fun _ h9 => h9) rfl dX6_count_62 ?_
    refine va_get (D := zD Z) (ci := 4) (v := .int (g 3 1)) (C := RX4) (T := TX4) (N := 2) hx hb hT inlX4 hown hK hP 3 xw_3 rfl 1 (by decide) (hT _ (tr_12 _ (List.mem_of_getElem? (i := 21) rfl))) (fun _ h9 => h9) rfl dX6_count_65 ?_
    refine lv_iconst (v := 1) hx hb dX6_count_68 (by decide) ?_
    refine lv_isub hx hb dX6_count_69 ?_
    refine lv_topi (fun v_69 e_69 => ?_)
    have t_69 := ti_subk rfl tk_1 (by omega) (by omega) e_69
    refine rd_ci (va_runV (As := [.int 0, .int v_69]) (rest := []) ⟨hx, hb, hml, hown, hT⟩ (c_X5_nodesOf l Z hZ g gl tf 0 v_69 hG) (cwV 2 hT (tb_V (fun _ h => h) (tr_20 _ (List.mem_of_getElem? (i := 7) rfl)) (tr_20 _ (List.mem_of_getElem? (i := 8) rfl)) (tr_20 _ (List.mem_of_getElem? (i := 9) rfl)) (tr_1 _ (List.mem_of_getElem? (i := 22) rfl)) (tr_20 _ (List.mem_of_getElem? (i := 10) rfl))) rfl rfl rfl (by decide +kernel) ⟨Nat.le_of_ble_eq_true rfl, Nat.le_of_ble_eq_true rfl⟩) ⟨fun a U f mk q => ⟨q.1, XI.blind f mk a q.2⟩, va_recv hK hP (ci := 5) (q0 := 5) rfl xw_5, fun U hU hW => ⟨rfl, hI.at hS hP hU hW⟩⟩ rfl rfl hl.1 rfl (lv_room (Nat.le_of_ble_eq_true rfl)) dX6_count_70 ⟨Nat.zero_le _, Nat.zero_le _⟩) (fun r_70 hr_70 => ?_)
    (try simp only [tk_0] at hr_70)
    exact W.iret (v := r_70) hx hb hr (fun t ht hW => ⟨r_70, rfl, (by (try dsimp only); rw [cv_y (k := 1) w_1_1 (by decide)]; show r_70 = nI (cB (ndB (g 6) 0 ((g 3 1).toInt - 1)) 128); rw [t_69] at hr_70; exact nI_ek hr_70), ht⟩) (fun q hq => by cases hq) dX6_count_73
  by_cases w_1_2 : x1 = 2
  · skip
    refine lv_tableIn (tgt := 74) (off := 73) hx hb dX6_count_1 (by rw [w_1_2]; decide) (by rw [w_1_2]; decide) (by rw [w_1_2]; decide) (by decide) ?_
    refine lv_aload_n hx hb dX6_count_74 rfl (lv_at hl 0 rfl) ?_
    refine rd_ci (va_runV (As := []) (rest := []) ⟨hx, hb, hml, hown, hT⟩ (c_X6_pieces l Z hZ g gl tf hG) (cwV 0 hT (tb_V (fun _ h => h) (tr_36 _ (List.mem_of_getElem? (i := 16) rfl)) (tr_36 _ (List.mem_of_getElem? (i := 17) rfl)) (tr_36 _ (List.mem_of_getElem? (i := 18) rfl)) (tr_1 _ (List.mem_of_getElem? (i := 2) rfl)) (tr_36 _ (List.mem_of_getElem? (i := 19) rfl))) rfl rfl rfl (by decide +kernel) ⟨Nat.le_of_ble_eq_true rfl, Nat.le_of_ble_eq_true rfl⟩) ⟨fun a U f mk q => ⟨q.1, XI.blind f mk a q.2⟩, va_recv hK hP (ci := 6) (q0 := 0) rfl xw_0, fun U hU hW => ⟨rfl, hI.at hS hP hU hW⟩⟩ rfl rfl hl.1 rfl (lv_room (Nat.le_of_ble_eq_true rfl)) dX6_count_75 ⟨Nat.zero_le _, Nat.zero_le _⟩) (fun r_75 hr_75 => ?_)
    exact W.iret (v := r_75) hx hb hr (fun t ht hW => ⟨r_75, rfl, (by (try dsimp only); rw [cv_y (k := 2) w_1_2 (by decide)]; exact nI_ek hr_75), ht⟩) (fun q hq => by cases hq) dX6_count_78
  by_cases w_1_3 : x1 = 3
  · skip
    refine lv_tableIn (tgt := 79) (off := 78) hx hb dX6_count_1 (by rw [w_1_3]; decide) (by rw [w_1_3]; decide) (by rw [w_1_3]; decide) (by decide) ?_
    refine lv_aload_n hx hb dX6_count_79 rfl (lv_at hl 0 rfl) ?_
    refine va_get (D := zD Z) (ci := 6) (v := .int (g 0 8)) (C := RX6) (T := TX6) (N := 11) hx hb hT inlX6 hown hK hP 0 xw_0 rfl 8 (by decide) (hT _ (tr_12 _ (List.mem_of_getElem? (i := 19) rfl))) (fun _ h9 => h9) rfl dX6_count_80 ?_
    refine lv_if_eq (tgt := 95) hx hb dX6_count_83 (by decide) (fun c_83 => ?_) (fun c_83 => ?_)
    · skip
      have i_83 := ti_eqk rfl tk_0 c_83
      refine lv_iconst (v := 0) hx hb dX6_count_95 (by decide) ?_
      exact W.iret (v := 0) hx hb hr (fun t ht hW => ⟨0, rfl, (by (try dsimp only); rw [cv_y (k := 3) w_1_3 (by decide)]; show _ = (if g 0 8 = 0 then 0 else nI _); rw [if_pos c_83]), ht⟩) (fun q hq => by cases hq) dX6_count_96
    · skip
      have i_83 := ti_nek rfl tk_0 c_83
      refine lv_aload_n hx hb dX6_count_86 rfl (lv_at hl 0 rfl) ?_
      refine lv_iconst (v := (-1)) hx hb dX6_count_87 (by decide) ?_
      refine lv_iconst (v := (-1)) hx hb dX6_count_88 (by decide) ?_
      refine rd_ci (va_runV (As := [.int (-1), .int (-1)]) (rest := []) ⟨hx, hb, hml, hown, hT⟩ (c_X6_quantitiesOf l Z hZ g gl tf (-1) (-1) hG) (cwV 2 hT (tb_V (fun _ h => h) (tr_20 _ (List.mem_of_getElem? (i := 11) rfl)) (tr_20 _ (List.mem_of_getElem? (i := 12) rfl)) (tr_20 _ (List.mem_of_getElem? (i := 13) rfl)) (tr_1 _ (List.mem_of_getElem? (i := 2) rfl)) (tr_20 _ (List.mem_of_getElem? (i := 14) rfl))) rfl rfl rfl (by decide +kernel) ⟨Nat.le_of_ble_eq_true rfl, Nat.le_of_ble_eq_true rfl⟩) ⟨fun a U f mk q => ⟨q.1, XI.blind f mk a q.2⟩, va_recv hK hP (ci := 6) (q0 := 0) rfl xw_0, fun U hU hW => ⟨rfl, hI.at hS hP hU hW⟩⟩ rfl rfl hl.1 rfl (lv_room (Nat.le_of_ble_eq_true rfl)) dX6_count_89 ⟨Nat.zero_le _, Nat.zero_le _⟩) (fun r_89 hr_89 => ?_)
      (try simp only [tk_m1] at hr_89)
      refine lv_goto (tgt := 96) hx hb dX6_count_92 (by decide) ?_
      exact W.iret (v := r_89) hx hb hr (fun t ht hW => ⟨r_89, rfl, (by (try dsimp only); rw [cv_y (k := 3) w_1_3 (by decide)]; show _ = (if g 0 8 = 0 then 0 else nI _); rw [if_neg c_83]; exact nI_ek hr_89), ht⟩) (fun q hq => by cases hq) dX6_count_96
  by_cases w_1_4 : x1 = 4
  · skip
    refine lv_tableIn (tgt := 97) (off := 96) hx hb dX6_count_1 (by rw [w_1_4]; decide) (by rw [w_1_4]; decide) (by rw [w_1_4]; decide) (by decide) ?_
    refine lv_aload_n hx hb dX6_count_97 rfl (lv_at hl 0 rfl) ?_
    refine rd_ci (va_runV (As := []) (rest := []) ⟨hx, hb, hml, hown, hT⟩ (c_X6_tariffsNeverLowest l Z hZ g gl tf (by first | assumption | omega | decide) hG) (cwV 0 hT (tb_V (fun _ h => h) (tr_36 _ (List.mem_of_getElem? (i := 20) rfl)) (tr_36 _ (List.mem_of_getElem? (i := 21) rfl)) (tr_36 _ (List.mem_of_getElem? (i := 22) rfl)) (tr_1 _ (List.mem_of_getElem? (i := 2) rfl)) (tr_36 _ (List.mem_of_getElem? (i := 23) rfl))) rfl rfl rfl (by decide +kernel) ⟨Nat.le_of_ble_eq_true rfl, Nat.le_of_ble_eq_true rfl⟩) ⟨fun a U f mk q => ⟨q.1, XI.blind f mk a q.2⟩, va_recv hK hP (ci := 6) (q0 := 0) rfl xw_0, fun U hU hW => ⟨rfl, hI.at hS hP hU hW⟩⟩ rfl rfl hl.1 rfl (lv_room (Nat.le_of_ble_eq_true rfl)) dX6_count_98 ⟨Nat.zero_le _, Nat.zero_le _⟩) (fun r_98 hr_98 => ?_)
    exact W.iret (v := r_98) hx hb hr (fun t ht hW => ⟨r_98, rfl, (by (try dsimp only); rw [cv_y (k := 4) w_1_4 (by decide)]; exact nI_ek hr_98), ht⟩) (fun q hq => by cases hq) dX6_count_101
  by_cases w_1_5 : x1 = 5
  · skip
    refine lv_tableIn (tgt := 102) (off := 101) hx hb dX6_count_1 (by rw [w_1_5]; decide) (by rw [w_1_5]; decide) (by rw [w_1_5]; decide) (by decide) ?_
    refine lv_aload_n hx hb dX6_count_102 rfl (lv_at hl 0 rfl) ?_
    refine va_get (D := zD Z) (ci := 6) (v := .ref (za Z 11)) (C := RX6) (T := TX6) (N := 11) hx hb hT inlX6 hown hK hP 0 xw_0 rfl 3 (by decide) (hT _ (tr_2 _ (List.mem_of_getElem? (i := 3) rfl))) (fun _ h9 => h9) rfl dX6_count_103 ?_
    refine va_get (D := zD Z) (ci := 2) (v := .int (g 11 4)) (C := RX2) (T := TX2) (N := 5) hx hb hT inlX2 hown hK hP 11 xw_11 rfl 4 (by decide) (hT _ (tr_12 _ (List.mem_of_getElem? (i := 17) rfl))) (fun _ h9 => h9) rfl dX6_count_106 ?_
    exact W.iret (v := (g 11 4)) hx hb hr (fun t ht hW => ⟨(g 11 4), rfl, (by (try dsimp only); rw [cv_y (k := 5) w_1_5 (by decide)]; rfl), ht⟩) (fun q hq => by cases hq) dX6_count_109
  by_cases w_1_6 : x1 = 6
  · skip
    refine lv_tableIn (tgt := 110) (off := 109) hx hb dX6_count_1 (by rw [w_1_6]; decide) (by rw [w_1_6]; decide) (by rw [w_1_6]; decide) (by decide) ?_
    refine lv_aload_n hx hb dX6_count_110 rfl (lv_at hl 0 rfl) ?_
    refine va_get (D := zD Z) (ci := 6) (v := .ref (za Z 1)) (C := RX6) (T := TX6) (N := 11) hx hb hT inlX6 hown hK hP 0 xw_0 rfl 0 (by decide) (hT _ (tr_1 _ (List.mem_of_getElem? (i := 15) rfl))) (fun _ h9 => h9) rfl dX6_count_111 ?_
    refine va_get (D := zD Z) (ci := 1) (v := .int (g 1 1)) (C := RX1) (T := TX1) (N := 2) hx hb hT inlX1 hown hK hP 1 xw_1 rfl 1 (by decide) (hT _ (tr_5 _ (List.mem_of_getElem? (i := 13) rfl))) (fun _ h9 => h9) rfl dX6_count_114 ?_
    exact W.iret (v := (g 1 1)) hx hb hr (fun t ht hW => ⟨(g 1 1), rfl, (by (try dsimp only); rw [cv_y (k := 6) w_1_6 (by decide)]; rfl), ht⟩) (fun q hq => by cases hq) dX6_count_117
  by_cases w_1_7 : x1 = 7
  · skip
    refine lv_tableIn (tgt := 118) (off := 117) hx hb dX6_count_1 (by rw [w_1_7]; decide) (by rw [w_1_7]; decide) (by rw [w_1_7]; decide) (by decide) ?_
    refine lv_aload_n hx hb dX6_count_118 rfl (lv_at hl 0 rfl) ?_
    refine va_get (D := zD Z) (ci := 6) (v := .int (g 0 10)) (C := RX6) (T := TX6) (N := 11) hx hb hT inlX6 hown hK hP 0 xw_0 rfl 10 (by decide) (hT _ (tr_12 _ (List.mem_of_getElem? (i := 20) rfl))) (fun _ h9 => h9) rfl dX6_count_119 ?_
    exact W.iret (v := (g 0 10)) hx hb hr (fun t ht hW => ⟨(g 0 10), rfl, (by (try dsimp only); rw [cv_y (k := 7) w_1_7 (by decide)]; rfl), ht⟩) (fun q hq => by cases hq) dX6_count_122
  have n_1_0 := ti_nek rfl tk_0 w_1_0
  have n_1_1 := ti_nek rfl tk_1 w_1_1
  have n_1_2 := ti_nek rfl tk_2 w_1_2
  have n_1_3 := ti_nek rfl tk_3 w_1_3
  have n_1_4 := ti_nek rfl tk_4 w_1_4
  have n_1_5 := ti_nek rfl tk_5 w_1_5
  have n_1_6 := ti_nek rfl tk_6 w_1_6
  have n_1_7 := ti_nek rfl tk_7 w_1_7
  refine lv_tableOut (tgt := 123) hx hb dX6_count_1 (by omega) (by decide) ?_
  refine lv_bipush (v := (-102)) hx hb dX6_count_123 (by decide) ?_
  exact W.iret (v := (-102)) hx hb hr (fun t ht hW => ⟨(-102), rfl, (cv_n (by omega)).symm, ht⟩) (fun q hq => by cases hq) dX6_count_125
set_option maxHeartbeats 4000000 in
set_option maxRecDepth 100000 in
theorem c_X6_mixedWithTree (l : Launch) (Z : ZT) (hZ : XG Z) (g : Nat → Nat → Int32) (gl : Nat → Nat → Int64) (tf : Nat → Nat → Int32) (x1 : Int64) (hn4 : 0 ≤ (g 3 1).toInt ∧ (g 3 1).toInt ≤ 40) (hTx : TX (xr Z tf) (g 3 1).toInt.toNat g) (hd9 : ¬ g 0 8 = 0) (hG : Gd Z tf) : Met l yX6_mixedWithTree (Cond.code yX6_mixedWithTree cX6_mixedWithTree 6 (some .long) :: wsL_law) ({ frames := 4, cells := 0, slots := 0, locals := 93 } : Room) (va_Pc [.ref (za Z 0), .long x1] (XI Z g gl tf)) (rd_Ql (fun r => (∃ b, isG (g 10) (prC (xr Z tf) (g 10)) 0 64 b ∧ r = mtF (g 10) (g 6) (csF (xr Z tf) (g 10)) b x1))) 0 0 (fun _ => False) := by
  refine Met.ofW (cc := cX6_mixedWithTree) (maxL := 6) (ret := (some .long)) (by decide) rfl ?_
  intro p e s m args below meth c s₁ B hml hv
  obtain ⟨rfl, hI⟩ := hv
  have hx := B.exec
  have hb := B.bytes
  have hr := B.returns
  have hT : ∀ w ∈ wsL_law, w.before ([.ref (za Z 0), .long x1] : List Value).toArray s = true := fun w h => atoms_spec (ws := (Cond.code yX6_mixedWithTree cX6_mixedWithTree 6 (some .long) :: wsL_law)) B.pre w (List.mem_cons_of_mem _ h)
  have hown : s.vm.findClass RX6 = some m.cls := findClass_of_methodNamed B.named
  have hlocks := B.notSynchronized
  have hK := hI.2.1
  have hP := hI.1
  have hS : va_S (zA Z) s.heap s.heap [] := va_S.rf
  have hl := lv_entry ([.ref (za Z 0), .long x1]) (n := 6) (Nat.le_of_ble_eq_true rfl)
  rw [lg_entry_eq]
  generalize (lg_sl ([.ref (za Z 0), .long x1]) ++ List.replicate (6 - (lg_sl ([.ref (za Z 0), .long x1])).length) Slot.unset).toArray = ls at hl ⊢
  have hl : lv_has ls 6 [(0, .ref (za Z 0)), (1, .long x1)] := hl
  have L44 : ∀ (n : Nat) (z3 : Int64) (z5 : Int32)  (h5 : 1 ≤ z5.toInt ∧ z5.toInt ≤ 128) (hM : z3 = (mxL (fun v => (g 6 (v + 1)).toInt64) (mx2 (fun q => (g 10 q).toInt64) (csF (xr Z tf) (g 10)) x1 64) (z5.toInt.toNat - 1))) (hn : (128 - z5.toInt).toNat < n) (ls : Array Slot) (hl : lv_has ls 6 [(0, .ref (za Z 0)), (1, .long x1), (3, .long z3), (5, .int z5)]), W p l e ({ frames := 4, cells := 0, slots := 0, locals := 93 } : Room) s m ([.ref (za Z 0), .long x1] : List Value).toArray below meth c s.heap [] 0 0 (MQ below (rd_Ql (fun r => (∃ b, isG (g 10) (prC (xr Z tf) (g 10)) 0 64 b ∧ r = mtF (g 10) (g 6) (csF (xr Z tf) (g 10)) b x1))) ([.ref (za Z 0), .long x1] : List Value).toArray s 0 0 (fun _ => False)) (F0 m 44 ls []) := by
    intro n
    induction n with
    | zero => intro z3 z5 h5 hM hn; exact absurd hn (Nat.not_lt_zero _)
    | succ n ih44 =>
      intro z3 z5 h5 hM hn ls hl
      refine lv_iload hx hb dX6_mixedWithTree_44 (lv_at hl 3 rfl) ?_
      refine lv_bipush (v := 127) hx hb dX6_mixedWithTree_46 (by decide) ?_
      refine lv_icmp_gt (tgt := 72) hx hb dX6_mixedWithTree_48 (by decide) (fun c_48 => ?_) (fun c_48 => ?_)
      · skip
        have i_48 := ti_ltk tk_127 rfl c_48
        refine lv_lload_n hx hb dX6_mixedWithTree_72 rfl (lv_at hl 2 rfl) ?_
        refine lv_aload_n hx hb dX6_mixedWithTree_73 rfl (lv_at hl 0 rfl) ?_
        refine lv_iconst (v := 0) hx hb dX6_mixedWithTree_74 (by decide) ?_
        refine lv_bipush (v := 63) hx hb dX6_mixedWithTree_75 (by decide) ?_
        refine rd_ci (va_runV (As := [.int 0, .int 63]) (rest := [.long z3]) ⟨hx, hb, hml, hown, hT⟩ (c_X6_bargain l Z hZ g gl tf 0 63 (by first | assumption | omega | decide) (by first | assumption | omega | decide) hG) (cwV 2 hT (tb_V (fun _ h => h) (tr_38 _ (List.mem_of_getElem? (i := 8) rfl)) (tr_31 _ (List.mem_of_getElem? (i := 10) rfl)) (tr_31 _ (List.mem_of_getElem? (i := 11) rfl)) (tr_1 _ (List.mem_of_getElem? (i := 2) rfl)) (tr_31 _ (List.mem_of_getElem? (i := 12) rfl))) rfl rfl rfl (by decide +kernel) ⟨Nat.le_of_ble_eq_true rfl, Nat.le_of_ble_eq_true rfl⟩) ⟨fun a U f mk q => ⟨q.1, XI.blind f mk a q.2⟩, va_recv hK hP (ci := 6) (q0 := 0) rfl xw_0, fun U hU hW => ⟨rfl, hI.at hS hP hU hW⟩⟩ rfl rfl hl.1 rfl (lv_room (Nat.le_of_ble_eq_true rfl)) dX6_mixedWithTree_77 ⟨Nat.zero_le _, Nat.zero_le _⟩) (fun r_77 hr_77 => ?_)
        have e77 : isG (g 10) (prC (xr Z tf) (g 10)) 0 64 r_77 := by rcases hr_77 with y | y | y; (exact absurd (by decide) y.1); (exact absurd y.2.1 hd9); exact y.2.2
        (try simp only [tk_0, tk_63] at hr_77)
        refine lv_i2l hx hb dX6_mixedWithTree_80 rfl ?_
        refine lv_topl (fun v_80 e_80 => ?_)
        refine rd_cl (va_runS (As := [.long z3, .long v_80]) (rest := []) ⟨hx, hb, hml, hown, hT⟩ (c_X6_mixed l z3 v_80) (va_cwS 2 hT (tb_S (fun _ h => h) (tr_37 _ (List.mem_of_getElem? (i := 22) rfl)) (tr_37 _ (List.mem_of_getElem? (i := 23) rfl)) (tr_1 _ (List.mem_of_getElem? (i := 2) rfl)) (tr_38 _ (List.mem_of_getElem? (i := 0) rfl))) rfl rfl rfl (by decide +kernel) ⟨Nat.le_of_ble_eq_true rfl, Nat.le_of_ble_eq_true rfl⟩) ⟨fun _ _ _ _ q => q, fun U hU hW => ⟨rfl, trivial⟩⟩ rfl rfl hl.1 rfl (lv_room (Nat.le_of_ble_eq_true rfl)) dX6_mixedWithTree_81 ⟨Nat.zero_le _, Nat.zero_le _⟩) (fun r_81 hr_81 => ?_)
        exact W.lret (v := r_81) hx hb hr (fun t ht hW => ⟨r_81, rfl, ⟨r_77, e77, by unfold mtF; rw [hr_81, e_80, hM, show z5.toInt.toNat - 1 = 127 by omega]⟩, ht⟩) (fun q hq => by cases hq) dX6_mixedWithTree_84
      · skip
        have i_48 := ti_nltk tk_127 rfl c_48
        refine lv_lload_n hx hb dX6_mixedWithTree_51 rfl (lv_at hl 2 rfl) ?_
        refine lv_aload_n hx hb dX6_mixedWithTree_52 rfl (lv_at hl 0 rfl) ?_
        refine va_get (D := zD Z) (ci := 6) (v := .ref (za Z 5)) (C := RX6) (T := TX6) (N := 11) hx hb hT inlX6 hown hK hP 0 xw_0 rfl 2 (by decide) (hT _ (tr_1 _ (List.mem_of_getElem? (i := 23) rfl))) (fun _ h9 => h9) rfl dX6_mixedWithTree_53 ?_
        refine lv_iload hx hb dX6_mixedWithTree_56 (lv_at hl 3 rfl) ?_
        refine rd_ci (va_runV (As := [.int z5]) (rest := [.long z3]) ⟨hx, hb, hml, hown, hT⟩ (c_X5_standingAt l Z hZ g gl tf z5 hG) (cwV 1 hT (tb_V (fun _ h => h) (tr_25 _ (List.mem_of_getElem? (i := 13) rfl)) (tr_25 _ (List.mem_of_getElem? (i := 14) rfl)) (tr_25 _ (List.mem_of_getElem? (i := 15) rfl)) (tr_1 _ (List.mem_of_getElem? (i := 22) rfl)) (tr_25 _ (List.mem_of_getElem? (i := 16) rfl))) rfl rfl rfl (by decide +kernel) ⟨Nat.le_of_ble_eq_true rfl, Nat.le_of_ble_eq_true rfl⟩) ⟨fun a U f mk q => ⟨q.1, XI.blind f mk a q.2⟩, va_recv hK hP (ci := 5) (q0 := 5) rfl xw_5, fun U hU hW => ⟨rfl, hI.at hS hP hU hW⟩⟩ rfl rfl hl.1 rfl (lv_room (Nat.le_of_ble_eq_true rfl)) dX6_mixedWithTree_58 ⟨Nat.zero_le _, Nat.zero_le _⟩) (fun r_58 hr_58 => ?_)
        have e58 : r_58 = g 6 z5.toInt.toNat := hr_58.1 (by omega)
        refine lv_i2l hx hb dX6_mixedWithTree_61 rfl ?_
        refine lv_topl (fun v_61 e_61 => ?_)
        refine rd_cl (va_runS (As := [.long z3, .long v_61]) (rest := []) ⟨hx, hb, hml, hown, hT⟩ (c_X6_mixed l z3 v_61) (va_cwS 2 hT (tb_S (fun _ h => h) (tr_37 _ (List.mem_of_getElem? (i := 22) rfl)) (tr_37 _ (List.mem_of_getElem? (i := 23) rfl)) (tr_1 _ (List.mem_of_getElem? (i := 2) rfl)) (tr_38 _ (List.mem_of_getElem? (i := 0) rfl))) rfl rfl rfl (by decide +kernel) ⟨Nat.le_of_ble_eq_true rfl, Nat.le_of_ble_eq_true rfl⟩) ⟨fun _ _ _ _ q => q, fun U hU hW => ⟨rfl, trivial⟩⟩ rfl rfl hl.1 rfl (lv_room (Nat.le_of_ble_eq_true rfl)) dX6_mixedWithTree_62 ⟨Nat.zero_le _, Nat.zero_le _⟩) (fun r_62 hr_62 => ?_)
        refine lv_lstore_n (lv' := [(3, .long r_62), (0, .ref (za Z 0)), (1, .long x1), (5, .int z5)]) hx hb dX6_mixedWithTree_65 rfl hl (by decide) rfl (fun ls hl => ?_)
        obtain ⟨v_66, e_66⟩ : ∃ y : Int32, y = z5 + 1 := ⟨_, rfl⟩
        refine lv_iinc (v := v_66) (lv' := [(5, .int v_66), (3, .long r_62), (0, .ref (za Z 0)), (1, .long x1)]) hx hb dX6_mixedWithTree_66 hl (k := 3) rfl (by rw [e_66]; rfl) (by decide) rfl (fun ls hl => ?_)
        have t_66 := ti_addk rfl tk_1 (by omega) (by omega) e_66
        refine lv_goto (tgt := 44) hx hb dX6_mixedWithTree_69 (by decide) ?_
        exact ih44 r_62 v_66 (by omega) (by rw [show v_66.toInt.toNat - 1 = (z5.toInt.toNat - 1) + 1 by omega, mxL, ← hM, hr_62, e_61, e58, show z5.toInt.toNat - 1 + 1 = z5.toInt.toNat by omega]) (by omega) ls (lv_sub hl [2, 3, 1, 0] rfl)
  have L5 : ∀ (n : Nat) (z3 : Int64) (z5 : Int32)  (h5 : 0 ≤ z5.toInt ∧ z5.toInt ≤ 64) (hM : z3 = (mx2 (fun q => (g 10 q).toInt64) (csF (xr Z tf) (g 10)) x1 z5.toInt.toNat)) (hn : (64 - z5.toInt).toNat < n) (ls : Array Slot) (hl : lv_has ls 6 [(0, .ref (za Z 0)), (1, .long x1), (3, .long z3), (5, .int z5)]), W p l e ({ frames := 4, cells := 0, slots := 0, locals := 93 } : Room) s m ([.ref (za Z 0), .long x1] : List Value).toArray below meth c s.heap [] 0 0 (MQ below (rd_Ql (fun r => (∃ b, isG (g 10) (prC (xr Z tf) (g 10)) 0 64 b ∧ r = mtF (g 10) (g 6) (csF (xr Z tf) (g 10)) b x1))) ([.ref (za Z 0), .long x1] : List Value).toArray s 0 0 (fun _ => False)) (F0 m 5 ls []) := by
    intro n
    induction n with
    | zero => intro z3 z5 h5 hM hn; exact absurd hn (Nat.not_lt_zero _)
    | succ n ih5 =>
      intro z3 z5 h5 hM hn ls hl
      refine lv_iload hx hb dX6_mixedWithTree_5 (lv_at hl 3 rfl) ?_
      refine lv_bipush (v := 64) hx hb dX6_mixedWithTree_7 (by decide) ?_
      refine lv_icmp_ge (tgt := 41) hx hb dX6_mixedWithTree_9 (by decide) (fun c_9 => ?_) (fun c_9 => ?_)
      · skip
        have i_9 := ti_lek tk_64 rfl c_9
        refine lv_iconst (v := 1) hx hb dX6_mixedWithTree_41 (by decide) ?_
        refine lv_istore (lv' := [(5, .int 1), (0, .ref (za Z 0)), (1, .long x1), (3, .long z3)]) hx hb dX6_mixedWithTree_42 hl (by decide) rfl (fun ls hl => ?_)
        exact L44 _ z3 1 (by decide) (by rw [hM, show z5.toInt.toNat = 64 by omega]; rfl) (Nat.lt_succ_self _) ls (lv_sub hl [1, 2, 3, 0] rfl)
      · skip
        have i_9 := ti_nlek tk_64 rfl c_9
        refine lv_lload_n hx hb dX6_mixedWithTree_12 rfl (lv_at hl 2 rfl) ?_
        refine lv_aload_n hx hb dX6_mixedWithTree_13 rfl (lv_at hl 0 rfl) ?_
        refine lv_iload hx hb dX6_mixedWithTree_14 (lv_at hl 3 rfl) ?_
        refine rd_ci (va_runV (As := [.int z5]) (rest := [.long z3]) ⟨hx, hb, hml, hown, hT⟩ (c_X6_cheapest l Z hZ g gl tf z5 hG) (cwV 1 hT (tb_V (fun _ h => h) (tr_38 _ (List.mem_of_getElem? (i := 6) rfl)) (tr_29 _ (List.mem_of_getElem? (i := 4) rfl)) (tr_29 _ (List.mem_of_getElem? (i := 5) rfl)) (tr_1 _ (List.mem_of_getElem? (i := 2) rfl)) (tr_29 _ (List.mem_of_getElem? (i := 6) rfl))) rfl rfl rfl (by decide +kernel) ⟨Nat.le_of_ble_eq_true rfl, Nat.le_of_ble_eq_true rfl⟩) ⟨fun a U f mk q => ⟨q.1, XI.blind f mk a q.2⟩, va_recv hK hP (ci := 6) (q0 := 0) rfl xw_0, fun U hU hW => ⟨rfl, hI.at hS hP hU hW⟩⟩ rfl rfl hl.1 rfl (lv_room (Nat.le_of_ble_eq_true rfl)) dX6_mixedWithTree_16 ⟨Nat.zero_le _, Nat.zero_le _⟩) (fun r_16 hr_16 => ?_)
        have e16 : r_16 = g 10 z5.toInt.toNat := by rcases hr_16 with y | y; exact absurd ⟨by omega, hd9⟩ y.1; exact y.2
        refine lv_i2l hx hb dX6_mixedWithTree_19 rfl ?_
        refine lv_topl (fun v_19 e_19 => ?_)
        refine rd_cl (va_runS (As := [.long z3, .long v_19]) (rest := []) ⟨hx, hb, hml, hown, hT⟩ (c_X6_mixed l z3 v_19) (va_cwS 2 hT (tb_S (fun _ h => h) (tr_37 _ (List.mem_of_getElem? (i := 22) rfl)) (tr_37 _ (List.mem_of_getElem? (i := 23) rfl)) (tr_1 _ (List.mem_of_getElem? (i := 2) rfl)) (tr_38 _ (List.mem_of_getElem? (i := 0) rfl))) rfl rfl rfl (by decide +kernel) ⟨Nat.le_of_ble_eq_true rfl, Nat.le_of_ble_eq_true rfl⟩) ⟨fun _ _ _ _ q => q, fun U hU hW => ⟨rfl, trivial⟩⟩ rfl rfl hl.1 rfl (lv_room (Nat.le_of_ble_eq_true rfl)) dX6_mixedWithTree_20 ⟨Nat.zero_le _, Nat.zero_le _⟩) (fun r_20 hr_20 => ?_)
        refine lv_lstore_n (lv' := [(3, .long r_20), (0, .ref (za Z 0)), (1, .long x1), (5, .int z5)]) hx hb dX6_mixedWithTree_23 rfl hl (by decide) rfl (fun ls hl => ?_)
        refine lv_lload_n hx hb dX6_mixedWithTree_24 rfl (lv_at hl 0 rfl) ?_
        refine lv_aload_n hx hb dX6_mixedWithTree_25 rfl (lv_at hl 1 rfl) ?_
        refine lv_iload hx hb dX6_mixedWithTree_26 (lv_at hl 3 rfl) ?_
        refine rd_cl (va_runV (As := [.int z5]) (rest := [.long r_20]) ⟨hx, hb, hml, hown, hT⟩ (c_X6_cost l Z hZ g gl tf z5 (by first | assumption | omega | decide) (by first | assumption | omega | decide) hG) (cwV 1 hT (tb_V (fun _ h => h) (tr_38 _ (List.mem_of_getElem? (i := 7) rfl)) (tr_29 _ (List.mem_of_getElem? (i := 12) rfl)) (tr_29 _ (List.mem_of_getElem? (i := 13) rfl)) (tr_1 _ (List.mem_of_getElem? (i := 2) rfl)) (tr_29 _ (List.mem_of_getElem? (i := 14) rfl))) rfl rfl rfl (by decide +kernel) ⟨Nat.le_of_ble_eq_true rfl, Nat.le_of_ble_eq_true rfl⟩) ⟨fun a U f mk q => ⟨q.1, XI.blind f mk a q.2⟩, va_recv hK hP (ci := 6) (q0 := 0) rfl xw_0, fun U hU hW => ⟨rfl, hI.at hS hP hU hW⟩⟩ rfl rfl hl.1 rfl (lv_room (Nat.le_of_ble_eq_true rfl)) dX6_mixedWithTree_28 ⟨Nat.zero_le _, Nat.zero_le _⟩) (fun r_28 hr_28 => ?_)
        have e28 : r_28 = (csF (xr Z tf) (g 10)) z5.toInt.toNat := by rcases hr_28 with y | y; exact absurd ⟨by omega, hd9⟩ y.1; exact y.2
        refine rd_cl (va_runS (As := [.long r_20, .long r_28]) (rest := []) ⟨hx, hb, hml, hown, hT⟩ (c_X6_mixed l r_20 r_28) (va_cwS 2 hT (tb_S (fun _ h => h) (tr_37 _ (List.mem_of_getElem? (i := 22) rfl)) (tr_37 _ (List.mem_of_getElem? (i := 23) rfl)) (tr_1 _ (List.mem_of_getElem? (i := 2) rfl)) (tr_38 _ (List.mem_of_getElem? (i := 0) rfl))) rfl rfl rfl (by decide +kernel) ⟨Nat.le_of_ble_eq_true rfl, Nat.le_of_ble_eq_true rfl⟩) ⟨fun _ _ _ _ q => q, fun U hU hW => ⟨rfl, trivial⟩⟩ rfl rfl hl.1 rfl (lv_room (Nat.le_of_ble_eq_true rfl)) dX6_mixedWithTree_31 ⟨Nat.zero_le _, Nat.zero_le _⟩) (fun r_31 hr_31 => ?_)
        refine lv_lstore_n (lv' := [(3, .long r_31), (0, .ref (za Z 0)), (1, .long x1), (5, .int z5)]) hx hb dX6_mixedWithTree_34 rfl hl (by decide) rfl (fun ls hl => ?_)
        obtain ⟨v_35, e_35⟩ : ∃ y : Int32, y = z5 + 1 := ⟨_, rfl⟩
        refine lv_iinc (v := v_35) (lv' := [(5, .int v_35), (3, .long r_31), (0, .ref (za Z 0)), (1, .long x1)]) hx hb dX6_mixedWithTree_35 hl (k := 3) rfl (by rw [e_35]; rfl) (by decide) rfl (fun ls hl => ?_)
        have t_35 := ti_addk rfl tk_1 (by omega) (by omega) e_35
        refine lv_goto (tgt := 5) hx hb dX6_mixedWithTree_38 (by decide) ?_
        exact ih5 r_31 v_35 (by omega) (by rw [show v_35.toInt.toNat = z5.toInt.toNat + 1 by omega, mx2, ← hM, hr_31, hr_20, e_19, e16, e28]) (by omega) ls (lv_sub hl [2, 3, 1, 0] rfl)
  refine lv_lload_n hx hb dX6_mixedWithTree_0 rfl (lv_at hl 1 rfl) ?_
  refine lv_lstore_n (lv' := [(3, .long x1), (0, .ref (za Z 0)), (1, .long x1)]) hx hb dX6_mixedWithTree_1 rfl hl (by decide) rfl (fun ls hl => ?_)
  refine lv_iconst (v := 0) hx hb dX6_mixedWithTree_2 (by decide) ?_
  refine lv_istore (lv' := [(5, .int 0), (3, .long x1), (0, .ref (za Z 0)), (1, .long x1)]) hx hb dX6_mixedWithTree_3 hl (by decide) rfl (fun ls hl => ?_)
  exact L5 _ x1 0 (by decide) rfl (Nat.lt_succ_self _) ls (lv_sub hl [2, 3, 1, 0] rfl)
set_option maxHeartbeats 4000000 in
set_option maxRecDepth 100000 in
theorem c_X6_digest (l : Launch) (Z : ZT) (hZ : XG Z) (g : Nat → Nat → Int32) (gl : Nat → Nat → Int64) (tf : Nat → Nat → Int32) (hp : ∀ i : Nat, 0 ≤ (g 2 i).toInt ∧ (g 2 i).toInt ≤ 126) (hn0 : 0 ≤ (g 1 1).toInt ∧ (g 1 1).toInt ≤ 50) (hn4 : 0 ≤ (g 3 1).toInt ∧ (g 3 1).toInt ≤ 40) (hTx : TX (xr Z tf) (g 3 1).toInt.toNat g) (hsz : 0 ≤ (g 11 4).toInt ∧ (g 11 4).toInt ≤ 6) (hsq : ∀ i : Nat, (i : Int) < (g 11 4).toInt → 0 ≤ (g 13 i).toInt ∧ (g 13 i).toInt ≤ 63) (hG : Gd Z tf) : Met l yX6_digest (Cond.code yX6_digest cX6_digest 5 (some .long) :: wsL_law) ({ frames := 7, cells := 0, slots := 0, locals := 163 } : Room) (va_Pc [.ref (za Z 0)] (XI Z g gl tf)) (va_Ql (fun (r : Int64) (u : (Nat → Nat → Int32) × (Nat → Nat → Int64) × (Nat → Nat → Int32)) => Fr [] g u.1 ∧ Gd Z u.2.2 ∧ tf = u.2.2 ∧ (∃ h2, ((g 0 8 = 0 ∧ h2 = (mxT (fun t w => tvF (xr Z tf) (g 6) (g 10) (g 12) (g 13) (g 14) (g 11 4).toInt.toNat t w) 1361 (g 3 1).toInt.toNat)) ∨ (¬ g 0 8 = 0 ∧ ∃ b, isG (g 10) (prC (xr Z tf) (g 10)) 0 64 b ∧ h2 = mtF (g 10) (g 6) (csF (xr Z tf) (g 10)) b (mxT (fun t w => tvF (xr Z tf) (g 6) (g 10) (g 12) (g 13) (g 14) (g 11 4).toInt.toNat t w) 1361 (g 3 1).toInt.toNat))) ∧ r = (mxL (fun w => (cvX g w).toInt64) (mxL (fun k => (g 2 k).toInt64) h2 (g 1 1).toInt.toNat) 8))) (fun u t => va_P (zD Z) vwCl (xw Z u.1 u.2.1 u.2.2) t.heap) (zA Z)) 0 0 (zA Z) := by
  refine Met.ofW (cc := cX6_digest) (maxL := 5) (ret := (some .long)) (by decide) rfl ?_
  intro p e s m args below meth c s₁ B hml hv
  obtain ⟨rfl, hI⟩ := hv
  have hx := B.exec
  have hb := B.bytes
  have hr := B.returns
  have hT : ∀ w ∈ wsL_law, w.before ([.ref (za Z 0)] : List Value).toArray s = true := fun w h => atoms_spec (ws := (Cond.code yX6_digest cX6_digest 5 (some .long) :: wsL_law)) B.pre w (List.mem_cons_of_mem _ h)
  have hown : s.vm.findClass RX6 = some m.cls := findClass_of_methodNamed B.named
  have hlocks := B.notSynchronized
  have hK := hI.2.1
  have hP := hI.1
  have hS : va_S (zA Z) s.heap s.heap [] := va_S.rf
  have hF : Fr [] g g := Fr.rf
  have hl := lv_entry ([.ref (za Z 0)]) (n := 5) (Nat.le_of_ble_eq_true rfl)
  rw [lg_entry_eq]
  generalize (lg_sl ([.ref (za Z 0)]) ++ List.replicate (5 - (lg_sl ([.ref (za Z 0)])).length) Slot.unset).toArray = ls at hl ⊢
  have hl : lv_has ls 5 [(0, .ref (za Z 0))] := hl
  have L100 : ∀ (n : Nat) (h2 : Int64) (z1 : Int64) (z3 : Int32) (g1 : Nat → Nat → Int32) (gl1 : Nat → Nat → Int64) (H : Heap) (locs : List Loc) (hP : va_P (zD Z) vwCl (xw Z g1 gl1 tf) H) (hF : Fr [] g g1) (hG : Gd Z tf) (hS : va_S (zA Z) s.heap H locs) (h3 : 0 ≤ z3.toInt ∧ z3.toInt ≤ 8) (hh2 : ((g 0 8 = 0 ∧ h2 = (mxT (fun t w => tvF (xr Z tf) (g 6) (g 10) (g 12) (g 13) (g 14) (g 11 4).toInt.toNat t w) 1361 (g 3 1).toInt.toNat)) ∨ (¬ g 0 8 = 0 ∧ ∃ b, isG (g 10) (prC (xr Z tf) (g 10)) 0 64 b ∧ h2 = mtF (g 10) (g 6) (csF (xr Z tf) (g 10)) b (mxT (fun t w => tvF (xr Z tf) (g 6) (g 10) (g 12) (g 13) (g 14) (g 11 4).toInt.toNat t w) 1361 (g 3 1).toInt.toNat)))) (hC9 : z1 = (mxL (fun w => (cvX g w).toInt64) (mxL (fun k => (g 2 k).toInt64) h2 (g 1 1).toInt.toNat) z3.toInt.toNat)) (hn : (8 - z3.toInt).toNat < n) (ls : Array Slot) (hl : lv_has ls 5 [(0, .ref (za Z 0)), (1, .long z1), (3, .int z3)]), W p l e ({ frames := 7, cells := 0, slots := 0, locals := 163 } : Room) s m ([.ref (za Z 0)] : List Value).toArray below meth c H locs 0 0 (MQ below (va_Ql (fun (r : Int64) (u : (Nat → Nat → Int32) × (Nat → Nat → Int64) × (Nat → Nat → Int32)) => Fr [] g u.1 ∧ Gd Z u.2.2 ∧ tf = u.2.2 ∧ (∃ h2, ((g 0 8 = 0 ∧ h2 = (mxT (fun t w => tvF (xr Z tf) (g 6) (g 10) (g 12) (g 13) (g 14) (g 11 4).toInt.toNat t w) 1361 (g 3 1).toInt.toNat)) ∨ (¬ g 0 8 = 0 ∧ ∃ b, isG (g 10) (prC (xr Z tf) (g 10)) 0 64 b ∧ h2 = mtF (g 10) (g 6) (csF (xr Z tf) (g 10)) b (mxT (fun t w => tvF (xr Z tf) (g 6) (g 10) (g 12) (g 13) (g 14) (g 11 4).toInt.toNat t w) 1361 (g 3 1).toInt.toNat))) ∧ r = (mxL (fun w => (cvX g w).toInt64) (mxL (fun k => (g 2 k).toInt64) h2 (g 1 1).toInt.toNat) 8))) (fun u t => va_P (zD Z) vwCl (xw Z u.1 u.2.1 u.2.2) t.heap) (zA Z)) ([.ref (za Z 0)] : List Value).toArray s 0 0 (zA Z)) (F0 m 100 ls []) := by
    intro n
    induction n with
    | zero => intro h2 z1 z3 g1 gl1 H locs hP hF hG hS h3 hh2 hC9 hn; exact absurd hn (Nat.not_lt_zero _)
    | succ n ih100 =>
      intro h2 z1 z3 g1 gl1 H locs hP hF hG hS h3 hh2 hC9 hn ls hl
      have eg : g1 = g := funext fun i => hF i (by simp)
      refine lv_iload_n hx hb dX6_digest_100 rfl (lv_at hl 2 rfl) ?_
      refine lv_bipush (v := 7) hx hb dX6_digest_101 (by decide) ?_
      refine lv_icmp_gt (tgt := 123) hx hb dX6_digest_103 (by decide) (fun c_103 => ?_) (fun c_103 => ?_)
      · skip
        have i_103 := ti_ltk tk_7 rfl c_103
        refine lv_lload_n hx hb dX6_digest_123 rfl (lv_at hl 1 rfl) ?_
        exact W.lret (v := z1) hx hb hr (fun t ht hW => ⟨⟨z1, (g1, gl1, tf), rfl, ⟨hF, hG, rfl, (by (try dsimp only); first | done | exact ⟨h2, hh2, by rw [hC9, show z3.toInt.toNat = 8 by omega]⟩)⟩, by show va_P (zD Z) vwCl (xw Z g1 gl1 tf) t.heap; rw [ht]; exact hP⟩, hS.F ht⟩) hS.2.2 dX6_digest_124
      · skip
        have i_103 := ti_nltk tk_7 rfl c_103
        refine lv_lload_n hx hb dX6_digest_106 rfl (lv_at hl 1 rfl) ?_
        refine lv_aload_n hx hb dX6_digest_107 rfl (lv_at hl 0 rfl) ?_
        refine lv_iload_n hx hb dX6_digest_108 rfl (lv_at hl 2 rfl) ?_
        refine rd_ci (va_runV (As := [.int z3]) (rest := [.long z1]) ⟨hx, hb, hml, hown, hT⟩ (c_X6_count l Z hZ g1 gl1 tf z3 (by rw [eg]; exact hn4) hG) (cwV 1 hT (tb_V (fun _ h => h) (tr_38 _ (List.mem_of_getElem? (i := 10) rfl)) (tr_36 _ (List.mem_of_getElem? (i := 13) rfl)) (tr_36 _ (List.mem_of_getElem? (i := 14) rfl)) (tr_1 _ (List.mem_of_getElem? (i := 2) rfl)) (tr_36 _ (List.mem_of_getElem? (i := 15) rfl))) rfl rfl rfl (by decide +kernel) ⟨Nat.le_of_ble_eq_true rfl, Nat.le_of_ble_eq_true rfl⟩) ⟨fun a U f mk q => ⟨q.1, XI.blind f mk a q.2⟩, va_recv hK hP (ci := 6) (q0 := 0) rfl xw_0, fun U hU hW => ⟨rfl, hI.at hS hP hU hW⟩⟩ rfl rfl hl.1 rfl (lv_room (Nat.le_of_ble_eq_true rfl)) dX6_digest_109 ⟨Nat.zero_le _, Nat.zero_le _⟩) (fun r_109 hr_109 => ?_)
        rw [eg] at hr_109
        have e109 : r_109 = cvX g z3.toInt.toNat := by rw [hr_109, cv_y (k := z3.toInt.toNat) (nI_ek (by omega)) (by omega)]
        refine lv_i2l hx hb dX6_digest_112 rfl ?_
        refine lv_topl (fun v_112 e_112 => ?_)
        refine rd_cl (va_runS (As := [.long z1, .long v_112]) (rest := []) ⟨hx, hb, hml, hown, hT⟩ (c_X6_mixed l z1 v_112) (va_cwS 2 hT (tb_S (fun _ h => h) (tr_37 _ (List.mem_of_getElem? (i := 22) rfl)) (tr_37 _ (List.mem_of_getElem? (i := 23) rfl)) (tr_1 _ (List.mem_of_getElem? (i := 2) rfl)) (tr_38 _ (List.mem_of_getElem? (i := 0) rfl))) rfl rfl rfl (by decide +kernel) ⟨Nat.le_of_ble_eq_true rfl, Nat.le_of_ble_eq_true rfl⟩) ⟨fun _ _ _ _ q => q, fun U hU hW => ⟨rfl, trivial⟩⟩ rfl rfl hl.1 rfl (lv_room (Nat.le_of_ble_eq_true rfl)) dX6_digest_113 ⟨Nat.zero_le _, Nat.zero_le _⟩) (fun r_113 hr_113 => ?_)
        refine lv_lstore_n (lv' := [(1, .long r_113), (0, .ref (za Z 0)), (3, .int z3)]) hx hb dX6_digest_116 rfl hl (by decide) rfl (fun ls hl => ?_)
        obtain ⟨v_117, e_117⟩ : ∃ y : Int32, y = z3 + 1 := ⟨_, rfl⟩
        refine lv_iinc (v := v_117) (lv' := [(3, .int v_117), (1, .long r_113), (0, .ref (za Z 0))]) hx hb dX6_digest_117 hl (k := 2) rfl (by rw [e_117]; rfl) (by decide) rfl (fun ls hl => ?_)
        have t_117 := ti_addk rfl tk_1 (by omega) (by omega) e_117
        refine lv_goto (tgt := 100) hx hb dX6_digest_120 (by decide) ?_
        exact ih100 h2 r_113 v_117 g1 gl1 _ _ hP hF hG hS (by omega) hh2 (by rw [show v_117.toInt.toNat = z3.toInt.toNat + 1 by omega, mxL, ← hC9, hr_113, e_112, e109]) (by omega) ls (lv_sub hl [2, 1, 0] rfl)
  have L67 : ∀ (n : Nat) (h2 : Int64) (z1 : Int64) (z3 : Int32) (g1 : Nat → Nat → Int32) (gl1 : Nat → Nat → Int64) (H : Heap) (locs : List Loc) (hP : va_P (zD Z) vwCl (xw Z g1 gl1 tf) H) (hF : Fr [] g g1) (hG : Gd Z tf) (hS : va_S (zA Z) s.heap H locs) (h3 : 0 ≤ z3.toInt ∧ z3.toInt ≤ (g 1 1).toInt) (hh2 : ((g 0 8 = 0 ∧ h2 = (mxT (fun t w => tvF (xr Z tf) (g 6) (g 10) (g 12) (g 13) (g 14) (g 11 4).toInt.toNat t w) 1361 (g 3 1).toInt.toNat)) ∨ (¬ g 0 8 = 0 ∧ ∃ b, isG (g 10) (prC (xr Z tf) (g 10)) 0 64 b ∧ h2 = mtF (g 10) (g 6) (csF (xr Z tf) (g 10)) b (mxT (fun t w => tvF (xr Z tf) (g 6) (g 10) (g 12) (g 13) (g 14) (g 11 4).toInt.toNat t w) 1361 (g 3 1).toInt.toNat)))) (hP9 : z1 = mxL (fun k => (g 2 k).toInt64) h2 z3.toInt.toNat) (hn : ((g 1 1).toInt - z3.toInt).toNat < n) (ls : Array Slot) (hl : lv_has ls 5 [(0, .ref (za Z 0)), (1, .long z1), (3, .int z3)]), W p l e ({ frames := 7, cells := 0, slots := 0, locals := 163 } : Room) s m ([.ref (za Z 0)] : List Value).toArray below meth c H locs 0 0 (MQ below (va_Ql (fun (r : Int64) (u : (Nat → Nat → Int32) × (Nat → Nat → Int64) × (Nat → Nat → Int32)) => Fr [] g u.1 ∧ Gd Z u.2.2 ∧ tf = u.2.2 ∧ (∃ h2, ((g 0 8 = 0 ∧ h2 = (mxT (fun t w => tvF (xr Z tf) (g 6) (g 10) (g 12) (g 13) (g 14) (g 11 4).toInt.toNat t w) 1361 (g 3 1).toInt.toNat)) ∨ (¬ g 0 8 = 0 ∧ ∃ b, isG (g 10) (prC (xr Z tf) (g 10)) 0 64 b ∧ h2 = mtF (g 10) (g 6) (csF (xr Z tf) (g 10)) b (mxT (fun t w => tvF (xr Z tf) (g 6) (g 10) (g 12) (g 13) (g 14) (g 11 4).toInt.toNat t w) 1361 (g 3 1).toInt.toNat))) ∧ r = (mxL (fun w => (cvX g w).toInt64) (mxL (fun k => (g 2 k).toInt64) h2 (g 1 1).toInt.toNat) 8))) (fun u t => va_P (zD Z) vwCl (xw Z u.1 u.2.1 u.2.2) t.heap) (zA Z)) ([.ref (za Z 0)] : List Value).toArray s 0 0 (zA Z)) (F0 m 67 ls []) := by
    intro n
    induction n with
    | zero => intro h2 z1 z3 g1 gl1 H locs hP hF hG hS h3 hh2 hP9 hn; exact absurd hn (Nat.not_lt_zero _)
    | succ n ih67 =>
      intro h2 z1 z3 g1 gl1 H locs hP hF hG hS h3 hh2 hP9 hn ls hl
      have eg : g1 = g := funext fun i => hF i (by simp)
      have ei1 := congrArg Int32.toInt (congrFun (congrFun eg 1) 1)
      refine lv_iload_n hx hb dX6_digest_67 rfl (lv_at hl 2 rfl) ?_
      refine lv_aload_n hx hb dX6_digest_68 rfl (lv_at hl 0 rfl) ?_
      refine va_get (D := zD Z) (ci := 6) (v := .ref (za Z 1)) (C := RX6) (T := TX6) (N := 11) hx hb hT inlX6 hown hK hP 0 xw_0 rfl 0 (by decide) (hT _ (tr_1 _ (List.mem_of_getElem? (i := 15) rfl))) (fun _ h9 => h9) rfl dX6_digest_69 ?_
      refine va_get (D := zD Z) (ci := 1) (v := .int (g1 1 1)) (C := RX1) (T := TX1) (N := 2) hx hb hT inlX1 hown hK hP 1 xw_1 rfl 1 (by decide) (hT _ (tr_5 _ (List.mem_of_getElem? (i := 13) rfl))) (fun _ h9 => h9) rfl dX6_digest_72 ?_
      refine lv_icmp_ge (tgt := 98) hx hb dX6_digest_75 (by decide) (fun c_75 => ?_) (fun c_75 => ?_)
      · skip
        have i_75 := ti_lek rfl rfl c_75
        refine lv_iconst (v := 0) hx hb dX6_digest_98 (by decide) ?_
        refine lv_istore_n (lv' := [(3, .int 0), (0, .ref (za Z 0)), (1, .long z1)]) hx hb dX6_digest_99 rfl hl (by decide) rfl (fun ls hl => ?_)
        exact L100 _ h2 z1 0 g1 gl1 _ _ hP hF hG hS (by decide) hh2 (by rw [hP9, show z3.toInt.toNat = (g 1 1).toInt.toNat by omega]; rfl) (Nat.lt_succ_self _) ls (lv_sub hl [1, 2, 0] rfl)
      · skip
        have i_75 := ti_nlek rfl rfl c_75
        refine lv_lload_n hx hb dX6_digest_78 rfl (lv_at hl 1 rfl) ?_
        refine lv_aload_n hx hb dX6_digest_79 rfl (lv_at hl 0 rfl) ?_
        refine va_get (D := zD Z) (ci := 6) (v := .ref (za Z 1)) (C := RX6) (T := TX6) (N := 11) hx hb hT inlX6 hown hK hP 0 xw_0 rfl 0 (by decide) (hT _ (tr_1 _ (List.mem_of_getElem? (i := 15) rfl))) (fun _ h9 => h9) rfl dX6_digest_80 ?_
        refine lv_iload_n hx hb dX6_digest_83 rfl (lv_at hl 2 rfl) ?_
        refine rd_ci (va_runV (As := [.int z3]) (rest := [.long z1]) ⟨hx, hb, hml, hown, hT⟩ (c_X1_letterAt l Z hZ g1 gl1 tf z3 (by rw [eg]; exact hp) hG) (cwV 1 hT (tb_V (fun _ h => h) (tr_38 _ (List.mem_of_getElem? (i := 9) rfl)) (tr_7 _ (List.mem_of_getElem? (i := 0) rfl)) (tr_7 _ (List.mem_of_getElem? (i := 1) rfl)) (tr_1 _ (List.mem_of_getElem? (i := 14) rfl)) (tr_7 _ (List.mem_of_getElem? (i := 2) rfl))) rfl rfl rfl (by decide +kernel) ⟨Nat.le_of_ble_eq_true rfl, Nat.le_of_ble_eq_true rfl⟩) ⟨fun a U f mk q => ⟨q.1, XI.blind f mk a q.2⟩, va_recv hK hP (ci := 1) (q0 := 1) rfl xw_1, fun U hU hW => ⟨rfl, hI.at hS hP hU hW⟩⟩ rfl rfl hl.1 rfl (lv_room (Nat.le_of_ble_eq_true rfl)) dX6_digest_84 ⟨Nat.zero_le _, Nat.zero_le _⟩) (fun r_84 hr_84 => ?_)
        rw [eg] at hr_84
        have e84 : r_84 = g 2 z3.toInt.toNat := hr_84.1 z3.toInt.toNat (by omega) (by omega)
        refine lv_i2l hx hb dX6_digest_87 rfl ?_
        refine lv_topl (fun v_87 e_87 => ?_)
        refine rd_cl (va_runS (As := [.long z1, .long v_87]) (rest := []) ⟨hx, hb, hml, hown, hT⟩ (c_X6_mixed l z1 v_87) (va_cwS 2 hT (tb_S (fun _ h => h) (tr_37 _ (List.mem_of_getElem? (i := 22) rfl)) (tr_37 _ (List.mem_of_getElem? (i := 23) rfl)) (tr_1 _ (List.mem_of_getElem? (i := 2) rfl)) (tr_38 _ (List.mem_of_getElem? (i := 0) rfl))) rfl rfl rfl (by decide +kernel) ⟨Nat.le_of_ble_eq_true rfl, Nat.le_of_ble_eq_true rfl⟩) ⟨fun _ _ _ _ q => q, fun U hU hW => ⟨rfl, trivial⟩⟩ rfl rfl hl.1 rfl (lv_room (Nat.le_of_ble_eq_true rfl)) dX6_digest_88 ⟨Nat.zero_le _, Nat.zero_le _⟩) (fun r_88 hr_88 => ?_)
        refine lv_lstore_n (lv' := [(1, .long r_88), (0, .ref (za Z 0)), (3, .int z3)]) hx hb dX6_digest_91 rfl hl (by decide) rfl (fun ls hl => ?_)
        obtain ⟨v_92, e_92⟩ : ∃ y : Int32, y = z3 + 1 := ⟨_, rfl⟩
        refine lv_iinc (v := v_92) (lv' := [(3, .int v_92), (1, .long r_88), (0, .ref (za Z 0))]) hx hb dX6_digest_92 hl (k := 2) rfl (by rw [e_92]; rfl) (by decide) rfl (fun ls hl => ?_)
        have t_92 := ti_addk rfl tk_1 (by omega) (by omega) e_92
        refine lv_goto (tgt := 67) hx hb dX6_digest_95 (by decide) ?_
        exact ih67 h2 r_88 v_92 g1 gl1 _ _ hP hF hG hS (by omega) hh2 (by rw [show v_92.toInt.toNat = z3.toInt.toNat + 1 by omega, mxL, ← hP9, hr_88, e_87, e84]) (by omega) ls (lv_sub hl [2, 1, 0] rfl)
  have L6 : ∀ (n : Nat) (z1 : Int64) (z3 : Int32) (g1 : Nat → Nat → Int32) (gl1 : Nat → Nat → Int64) (H : Heap) (locs : List Loc) (hP : va_P (zD Z) vwCl (xw Z g1 gl1 tf) H) (hF : Fr [] g g1) (hG : Gd Z tf) (hS : va_S (zA Z) s.heap H locs) (h3 : 0 ≤ z3.toInt ∧ z3.toInt ≤ (g 3 1).toInt) (hH : z1 = (mxT (fun t w => tvF (xr Z tf) (g 6) (g 10) (g 12) (g 13) (g 14) (g 11 4).toInt.toNat t w) 1361 z3.toInt.toNat)) (hn : ((g 3 1).toInt - z3.toInt).toNat < n) (ls : Array Slot) (hl : lv_has ls 5 [(0, .ref (za Z 0)), (1, .long z1), (3, .int z3)]), W p l e ({ frames := 7, cells := 0, slots := 0, locals := 163 } : Room) s m ([.ref (za Z 0)] : List Value).toArray below meth c H locs 0 0 (MQ below (va_Ql (fun (r : Int64) (u : (Nat → Nat → Int32) × (Nat → Nat → Int64) × (Nat → Nat → Int32)) => Fr [] g u.1 ∧ Gd Z u.2.2 ∧ tf = u.2.2 ∧ (∃ h2, ((g 0 8 = 0 ∧ h2 = (mxT (fun t w => tvF (xr Z tf) (g 6) (g 10) (g 12) (g 13) (g 14) (g 11 4).toInt.toNat t w) 1361 (g 3 1).toInt.toNat)) ∨ (¬ g 0 8 = 0 ∧ ∃ b, isG (g 10) (prC (xr Z tf) (g 10)) 0 64 b ∧ h2 = mtF (g 10) (g 6) (csF (xr Z tf) (g 10)) b (mxT (fun t w => tvF (xr Z tf) (g 6) (g 10) (g 12) (g 13) (g 14) (g 11 4).toInt.toNat t w) 1361 (g 3 1).toInt.toNat))) ∧ r = (mxL (fun w => (cvX g w).toInt64) (mxL (fun k => (g 2 k).toInt64) h2 (g 1 1).toInt.toNat) 8))) (fun u t => va_P (zD Z) vwCl (xw Z u.1 u.2.1 u.2.2) t.heap) (zA Z)) ([.ref (za Z 0)] : List Value).toArray s 0 0 (zA Z)) (F0 m 6 ls []) := by
    intro n
    induction n with
    | zero => intro z1 z3 g1 gl1 H locs hP hF hG hS h3 hH hn; exact absurd hn (Nat.not_lt_zero _)
    | succ n ih6 =>
      intro z1 z3 g1 gl1 H locs hP hF hG hS h3 hH hn ls hl
      have L20 : ∀ (n : Nat) (y1 : Int64) (z4 : Int32) (g1 : Nat → Nat → Int32) (gl1 : Nat → Nat → Int64) (H : Heap) (locs : List Loc) (hP : va_P (zD Z) vwCl (xw Z g1 gl1 tf) H) (hF : Fr [] g g1) (hG : Gd Z tf) (hS : va_S (zA Z) s.heap H locs) (h4 : 0 ≤ z4.toInt ∧ z4.toInt ≤ 7) (hz : 0 ≤ z3.toInt ∧ z3.toInt < (g 3 1).toInt) (hI9 : y1 = mxL (fun w => ((fun t w => tvF (xr Z tf) (g 6) (g 10) (g 12) (g 13) (g 14) (g 11 4).toInt.toNat t w) z3.toInt.toNat w).toInt64) (mxT (fun t w => tvF (xr Z tf) (g 6) (g 10) (g 12) (g 13) (g 14) (g 11 4).toInt.toNat t w) 1361 z3.toInt.toNat) z4.toInt.toNat) (hn : (7 - z4.toInt).toNat < n) (ls : Array Slot) (hl : lv_has ls 5 [(0, .ref (za Z 0)), (1, .long y1), (3, .int z3), (4, .int z4)]), W p l e ({ frames := 7, cells := 0, slots := 0, locals := 163 } : Room) s m ([.ref (za Z 0)] : List Value).toArray below meth c H locs 0 0 (MQ below (va_Ql (fun (r : Int64) (u : (Nat → Nat → Int32) × (Nat → Nat → Int64) × (Nat → Nat → Int32)) => Fr [] g u.1 ∧ Gd Z u.2.2 ∧ tf = u.2.2 ∧ (∃ h2, ((g 0 8 = 0 ∧ h2 = (mxT (fun t w => tvF (xr Z tf) (g 6) (g 10) (g 12) (g 13) (g 14) (g 11 4).toInt.toNat t w) 1361 (g 3 1).toInt.toNat)) ∨ (¬ g 0 8 = 0 ∧ ∃ b, isG (g 10) (prC (xr Z tf) (g 10)) 0 64 b ∧ h2 = mtF (g 10) (g 6) (csF (xr Z tf) (g 10)) b (mxT (fun t w => tvF (xr Z tf) (g 6) (g 10) (g 12) (g 13) (g 14) (g 11 4).toInt.toNat t w) 1361 (g 3 1).toInt.toNat))) ∧ r = (mxL (fun w => (cvX g w).toInt64) (mxL (fun k => (g 2 k).toInt64) h2 (g 1 1).toInt.toNat) 8))) (fun u t => va_P (zD Z) vwCl (xw Z u.1 u.2.1 u.2.2) t.heap) (zA Z)) ([.ref (za Z 0)] : List Value).toArray s 0 0 (zA Z)) (F0 m 20 ls []) := by
        intro n
        induction n with
        | zero => intro y1 z4 g1 gl1 H locs hP hF hG hS h4 hz hI9 hn; exact absurd hn (Nat.not_lt_zero _)
        | succ n ih20 =>
          intro y1 z4 g1 gl1 H locs hP hF hG hS h4 hz hI9 hn ls hl
          have eg : g1 = g := funext fun i => hF i (by simp)
          refine lv_iload hx hb dX6_digest_20 (lv_at hl 3 rfl) ?_
          refine lv_bipush (v := 6) hx hb dX6_digest_22 (by decide) ?_
          refine lv_icmp_gt (tgt := 46) hx hb dX6_digest_24 (by decide) (fun c_24 => ?_) (fun c_24 => ?_)
          · skip
            have i_24 := ti_ltk tk_6 rfl c_24
            obtain ⟨v_46, e_46⟩ : ∃ y : Int32, y = z3 + 1 := ⟨_, rfl⟩
            refine lv_iinc (v := v_46) (lv' := [(3, .int v_46), (0, .ref (za Z 0)), (1, .long y1), (4, .int z4)]) hx hb dX6_digest_46 hl (k := 2) rfl (by rw [e_46]; rfl) (by decide) rfl (fun ls hl => ?_)
            have t_46 := ti_addk rfl tk_1 (by omega) (by omega) e_46
            refine lv_goto (tgt := 6) hx hb dX6_digest_49 (by decide) ?_
            exact ih6 y1 v_46 g1 gl1 _ _ hP hF hG hS (by omega) (by rw [show v_46.toInt.toNat = z3.toInt.toNat + 1 by omega, mxT, hI9, show z4.toInt.toNat = 7 by omega]) (by omega) ls (lv_sub hl [1, 2, 0] rfl)
          · skip
            have i_24 := ti_nltk tk_6 rfl c_24
            refine lv_lload_n hx hb dX6_digest_27 rfl (lv_at hl 1 rfl) ?_
            refine lv_aload_n hx hb dX6_digest_28 rfl (lv_at hl 0 rfl) ?_
            refine lv_iload_n hx hb dX6_digest_29 rfl (lv_at hl 2 rfl) ?_
            refine lv_iload hx hb dX6_digest_30 (lv_at hl 3 rfl) ?_
            refine va_calli (va_runV (As := [.int z3, .int z4]) (rest := [.long y1]) ⟨hx, hb, hml, hown, hT⟩ (c_X6_tariff l Z hZ g1 gl1 tf z3 z4 (by rw [eg]; omega) (by rw [eg]; exact hsz) (by rw [eg]; exact hsq) hG) (cwV 2 hT (tb_V (fun _ h => h) (tr_37 _ (List.mem_of_getElem? (i := 21) rfl)) (tr_19 _ (List.mem_of_getElem? (i := 20) rfl)) (tr_19 _ (List.mem_of_getElem? (i := 21) rfl)) (tr_1 _ (List.mem_of_getElem? (i := 2) rfl)) (tr_19 _ (List.mem_of_getElem? (i := 22) rfl))) rfl rfl rfl (by decide +kernel) ⟨Nat.le_of_ble_eq_true rfl, Nat.le_of_ble_eq_true rfl⟩) ⟨fun a U f mk q => ⟨q.1, XI.blind f mk a q.2⟩, va_recv hK hP (ci := 6) (q0 := 0) rfl xw_0, fun U hU hW => ⟨rfl, hI.at hS hP hU hW⟩⟩ rfl rfl hl.1 rfl (lv_room (Nat.le_of_ble_eq_true rfl)) dX6_digest_32 ⟨Nat.zero_le _, Nat.zero_le _⟩) hS (fun q _ h => h) (fun q h => h) (fun r_32 u_32 t_32 H locs ht_32 _ hw_32 hB_32 _ _ hS => ?_)
            obtain ⟨g_32, gl_32, tf_32⟩ := u_32
            have hP : va_P (zD Z) vwCl (xw Z g_32 gl_32 tf_32) H := ht_32 ▸ hB_32
            obtain ⟨hf_32, hG, et_32, hr_32⟩ := hw_32
            have hF := hF.tr hf_32 (by decide)
            (try dsimp only at hf_32 hG hF et_32 hr_32)
            subst et_32
            rw [eg] at hr_32
            have e32 : r_32 = (fun t w => tvF (xr Z tf) (g 6) (g 10) (g 12) (g 13) (g 14) (g 11 4).toInt.toNat t w) z3.toInt.toNat z4.toInt.toNat := by rcases hr_32 with y | y | y; (exact absurd (by omega) y.1); (exact absurd (by omega) y.2.1); exact y.2.2
            refine lv_i2l hx hb dX6_digest_35 rfl ?_
            refine lv_topl (fun v_35 e_35 => ?_)
            refine rd_cl (va_runS (As := [.long y1, .long v_35]) (rest := []) ⟨hx, hb, hml, hown, hT⟩ (c_X6_mixed l y1 v_35) (va_cwS 2 hT (tb_S (fun _ h => h) (tr_37 _ (List.mem_of_getElem? (i := 22) rfl)) (tr_37 _ (List.mem_of_getElem? (i := 23) rfl)) (tr_1 _ (List.mem_of_getElem? (i := 2) rfl)) (tr_38 _ (List.mem_of_getElem? (i := 0) rfl))) rfl rfl rfl (by decide +kernel) ⟨Nat.le_of_ble_eq_true rfl, Nat.le_of_ble_eq_true rfl⟩) ⟨fun _ _ _ _ q => q, fun U hU hW => ⟨rfl, trivial⟩⟩ rfl rfl hl.1 rfl (lv_room (Nat.le_of_ble_eq_true rfl)) dX6_digest_36 ⟨Nat.zero_le _, Nat.zero_le _⟩) (fun r_36 hr_36 => ?_)
            refine lv_lstore_n (lv' := [(1, .long r_36), (0, .ref (za Z 0)), (3, .int z3), (4, .int z4)]) hx hb dX6_digest_39 rfl hl (by decide) rfl (fun ls hl => ?_)
            obtain ⟨v_40, e_40⟩ : ∃ y : Int32, y = z4 + 1 := ⟨_, rfl⟩
            refine lv_iinc (v := v_40) (lv' := [(4, .int v_40), (1, .long r_36), (0, .ref (za Z 0)), (3, .int z3)]) hx hb dX6_digest_40 hl (k := 3) rfl (by rw [e_40]; rfl) (by decide) rfl (fun ls hl => ?_)
            have t_40 := ti_addk rfl tk_1 (by omega) (by omega) e_40
            refine lv_goto (tgt := 20) hx hb dX6_digest_43 (by decide) ?_
            exact ih20 r_36 v_40 g_32 gl_32 _ _ hP hF hG hS (by omega) (by first | assumption | omega | decide) (by rw [show v_40.toInt.toNat = z4.toInt.toNat + 1 by omega, mxL, ← hI9, hr_36, e_35, e32]) (by omega) ls (lv_sub hl [2, 1, 3, 0] rfl)
      have eg : g1 = g := funext fun i => hF i (by simp)
      have ei := congrArg Int32.toInt (congrFun (congrFun eg 3) 1)
      refine lv_iload_n hx hb dX6_digest_6 rfl (lv_at hl 2 rfl) ?_
      refine lv_aload_n hx hb dX6_digest_7 rfl (lv_at hl 0 rfl) ?_
      refine va_get (D := zD Z) (ci := 6) (v := .ref (za Z 3)) (C := RX6) (T := TX6) (N := 11) hx hb hT inlX6 hown hK hP 0 xw_0 rfl 1 (by decide) (hT _ (tr_1 _ (List.mem_of_getElem? (i := 19) rfl))) (fun _ h9 => h9) rfl dX6_digest_8 ?_
      refine va_get (D := zD Z) (ci := 4) (v := .int (g1 3 1)) (C := RX4) (T := TX4) (N := 2) hx hb hT inlX4 hown hK hP 3 xw_3 rfl 1 (by decide) (hT _ (tr_12 _ (List.mem_of_getElem? (i := 21) rfl))) (fun _ h9 => h9) rfl dX6_digest_11 ?_
      refine lv_icmp_ge (tgt := 52) hx hb dX6_digest_14 (by decide) (fun c_14 => ?_) (fun c_14 => ?_)
      · skip
        have i_14 := ti_lek rfl rfl c_14
        refine lv_aload_n hx hb dX6_digest_52 rfl (lv_at hl 0 rfl) ?_
        refine va_get (D := zD Z) (ci := 6) (v := .int (g1 0 8)) (C := RX6) (T := TX6) (N := 11) hx hb hT inlX6 hown hK hP 0 xw_0 rfl 8 (by decide) (hT _ (tr_12 _ (List.mem_of_getElem? (i := 19) rfl))) (fun _ h9 => h9) rfl dX6_digest_53 ?_
        refine lv_if_eq (tgt := 65) hx hb dX6_digest_56 (by decide) (fun c_56 => ?_) (fun c_56 => ?_)
        · skip
          have i_56 := ti_eqk rfl tk_0 c_56
          refine lv_iconst (v := 0) hx hb dX6_digest_65 (by decide) ?_
          refine lv_istore_n (lv' := [(3, .int 0), (0, .ref (za Z 0)), (1, .long z1)]) hx hb dX6_digest_66 rfl hl (by decide) rfl (fun ls hl => ?_)
          exact L67 _ z1 z1 0 g1 gl1 _ _ hP hF hG hS (by rw [tk_0]; omega) (Or.inl ⟨by rw [eg] at c_56; exact c_56, by rw [hH, show z3.toInt.toNat = (g 3 1).toInt.toNat by omega]⟩) rfl (Nat.lt_succ_self _) ls (lv_sub hl [1, 2, 0] rfl)
        · skip
          have i_56 := ti_nek rfl tk_0 c_56
          refine lv_aload_n hx hb dX6_digest_59 rfl (lv_at hl 0 rfl) ?_
          refine lv_lload_n hx hb dX6_digest_60 rfl (lv_at hl 1 rfl) ?_
          refine rd_cl (va_runV (As := [.long z1]) (rest := []) ⟨hx, hb, hml, hown, hT⟩ (c_X6_mixedWithTree l Z hZ g1 gl1 tf z1 (by rw [eg]; exact hn4) (by rw [eg]; exact hTx) c_56 hG) (cwV 1 hT (tb_V (fun _ h => h) (tr_38 _ (List.mem_of_getElem? (i := 2) rfl)) (tr_38 _ (List.mem_of_getElem? (i := 3) rfl)) (tr_38 _ (List.mem_of_getElem? (i := 4) rfl)) (tr_1 _ (List.mem_of_getElem? (i := 2) rfl)) (tr_38 _ (List.mem_of_getElem? (i := 5) rfl))) rfl rfl rfl (by decide +kernel) ⟨Nat.le_of_ble_eq_true rfl, Nat.le_of_ble_eq_true rfl⟩) ⟨fun a U f mk q => ⟨q.1, XI.blind f mk a q.2⟩, va_recv hK hP (ci := 6) (q0 := 0) rfl xw_0, fun U hU hW => ⟨rfl, hI.at hS hP hU hW⟩⟩ rfl rfl hl.1 rfl (lv_room (Nat.le_of_ble_eq_true rfl)) dX6_digest_61 ⟨Nat.zero_le _, Nat.zero_le _⟩) (fun r_61 hr_61 => ?_)
          refine lv_lstore_n (lv' := [(1, .long r_61), (0, .ref (za Z 0)), (3, .int z3)]) hx hb dX6_digest_64 rfl hl (by decide) rfl (fun ls hl => ?_)
          refine lv_iconst (v := 0) hx hb dX6_digest_65 (by decide) ?_
          refine lv_istore_n (lv' := [(3, .int 0), (1, .long r_61), (0, .ref (za Z 0))]) hx hb dX6_digest_66 rfl hl (by decide) rfl (fun ls hl => ?_)
          exact L67 _ r_61 r_61 0 g1 gl1 _ _ hP hF hG hS (by rw [tk_0]; omega) (by rw [eg] at hr_61 c_56; obtain ⟨b, b1, b2⟩ := hr_61; exact Or.inr ⟨c_56, b, b1, by rw [b2, hH, show z3.toInt.toNat = (g 3 1).toInt.toNat by omega]⟩) rfl (Nat.lt_succ_self _) ls (lv_sub hl [2, 1, 0] rfl)
      · skip
        have i_14 := ti_nlek rfl rfl c_14
        refine lv_iconst (v := 0) hx hb dX6_digest_17 (by decide) ?_
        refine lv_istore (lv' := [(4, .int 0), (0, .ref (za Z 0)), (1, .long z1), (3, .int z3)]) hx hb dX6_digest_18 hl (by decide) rfl (fun ls hl => ?_)
        exact L20 _ z1 0 g1 gl1 _ _ hP hF hG hS (by decide) (by first | assumption | omega | decide) hH (Nat.lt_succ_self _) ls (lv_sub hl [1, 2, 3, 0] rfl)
  refine lv_ldc2 (v := 1361) hx hb hown (hT _ (tr_37 _ (List.mem_of_getElem? (i := 20) rfl))) dX6_digest_0 ?_
  refine lv_lstore_n (lv' := [(1, .long 1361), (0, .ref (za Z 0))]) hx hb dX6_digest_3 rfl hl (by decide) rfl (fun ls hl => ?_)
  refine lv_iconst (v := 0) hx hb dX6_digest_4 (by decide) ?_
  refine lv_istore_n (lv' := [(3, .int 0), (1, .long 1361), (0, .ref (za Z 0))]) hx hb dX6_digest_5 rfl hl (by decide) rfl (fun ls hl => ?_)
  exact L6 _ 1361 0 g gl _ _ hP hF hG hS (by rw [tk_0]; omega) rfl (Nat.lt_succ_self _) ls (lv_sub hl [2, 1, 0] rfl)
