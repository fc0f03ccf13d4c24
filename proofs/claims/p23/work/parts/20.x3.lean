theorem fd_sgn {x v : Int32} (hv : v = x ^^^ 2) : v.toInt < 0 ↔ x.toInt < 0 := by
  have e1 : v.toBitVec = x.toBitVec ^^^ 2#32 := by rw [hv]; rfl
  have e2 : v.toBitVec.msb = x.toBitVec.msb := by
    rw [e1, BitVec.msb_xor, show (2#32 : BitVec 32).msb = false by decide, Bool.xor_false]
  have a1 := BitVec.msb_eq_toInt (x := v.toBitVec)
  have a2 := BitVec.msb_eq_toInt (x := x.toBitVec)
  rw [e2, a2] at a1
  have h1 : v.toBitVec.toInt = v.toInt := rfl
  have h2 : x.toBitVec.toInt = x.toInt := rfl
  rw [h1, h2] at a1
  exact ⟨fun h => of_decide_eq_true (a1.trans (decide_eq_true h)), fun h => of_decide_eq_true (a1.symm.trans (decide_eq_true h))⟩
theorem fd_half (x : Int32) : (x >>> ((1 : Int32) &&& 31)).toInt = x.toInt / 2 := by
  rw [pk_shr x _ 1 (by decide), Int.shiftRight_eq_div_pow]; rfl
theorem fd_div (x : Int32) : (x / 2).toInt = x.toInt.tdiv 2 := by
  rw [Int32.toInt_div_of_ne_right _ _ (by decide)]; rfl
theorem fd_a {x q v : Int32} (hq : q = x / 2) (hv : v = x ^^^ 2) (h : 0 ≤ v.toInt) : q = x >>> ((1 : Int32) &&& 31) := by
  apply Int32.toInt_inj.mp
  have h1 := fd_sgn hv
  rw [hq, fd_half, fd_div, Int.tdiv_eq_ediv_of_nonneg (by omega)]
theorem td2 (x : Int) : (0 ≤ x → x.tdiv 2 = x / 2) ∧ (x < 0 → (x % 2 = 0 → x.tdiv 2 = x / 2) ∧ (x % 2 = 1 → x.tdiv 2 = x / 2 + 1)) := by
  have q := Int.tdiv_eq_ediv (a := x) (b := 2)
  rw [show (2 : Int).sign = 1 from rfl] at q
  refine ⟨fun h => by rw [q, if_pos (Or.inl h)]; omega, fun h => ⟨fun h2 => by rw [q, if_pos (Or.inr (Int.dvd_of_emod_eq_zero h2))]; omega, fun h2 => by rw [q, if_neg (fun z => z.elim (fun y => by omega) (fun y => by have y2 := Int.emod_eq_zero_of_dvd y; omega))]⟩⟩
theorem fd_m {x q w : Int32} (hq : q = x / 2) (hw : w = q * 2) : w.toInt = 2 * x.toInt.tdiv 2 := by
  have r := ti_rng x
  have e := fd_div x
  have t := td2 x.toInt
  have hqi : q.toInt = x.toInt.tdiv 2 := by rw [hq]; exact e
  have m := ti_mulk hqi (show (2 : Int32).toInt = 2 by decide) (by omega) (by omega) hw
  omega
theorem fd_b {x q w : Int32} (hq : q = x / 2) (hw : w = q * 2) (h : w = x) : q = x >>> ((1 : Int32) &&& 31) := by
  apply Int32.toInt_inj.mp
  have m := fd_m hq hw
  rw [h] at m
  rw [hq, fd_half, fd_div]; omega
theorem fd_c {x q w v r : Int32} (hq : q = x / 2) (hv : v = x ^^^ 2) (h : v.toInt < 0) (hw : w = q * 2) (hn : ¬ w = x) (hr : r = q - 1) : r = x >>> ((1 : Int32) &&& 31) := by
  apply Int32.toInt_inj.mp
  have h1 := (fd_sgn hv).mp h
  have m := fd_m hq hw
  have hn2 : ¬ w.toInt = x.toInt := fun z => hn (Int32.toInt_inj.mp z)
  have e := td2 x.toInt
  have r0 := ti_rng x
  have hqi : q.toInt = x.toInt.tdiv 2 := by rw [hq]; exact fd_div x
  have s := ti_subk hqi (show (1 : Int32).toInt = 1 by decide) (by omega) (by omega) hr
  rw [fd_half, s]
  omega
theorem sub64 {x f : Int32} (h1 : 0 ≤ x.toInt ∧ x.toInt ≤ 63) (h2 : 0 ≤ f.toInt ∧ f.toInt ≤ 63) : (x - f).toInt64 = x.toInt64 - f.toInt64 := by
  apply Int64.toInt_inj.mp
  rw [Int32.toInt_toInt64, ti_sub (by omega) (by omega), Int64.toInt_sub, Int32.toInt_toInt64, Int32.toInt_toInt64, Int.bmod_eq_of_le (by omega) (by omega)]
/-- the class's tariffs, as the reference's rows -/
def xr (Z : ZT) (tf : Nat → Nat → Int32) : Nat → Nat → Int32 := fun i j => tf (ro Z j) (i - 1)
theorem xr_p {Z : ZT} {tf : Nat → Nat → Int32} {t : Nat} {q : Int32} : mpr (xr Z tf) t q = mpF (tf (ro Z t) 0) (tf (ro Z t) 1) (tf (ro Z t) 2) (tf (ro Z t) 3) q := rfl
set_option maxHeartbeats 4000000 in
set_option maxRecDepth 100000 in
theorem c_J9_floorDiv_7cf53 (l : Launch) (x1 : Int32) (x2 : Int32) (hd : ¬ x2 = 0) : Met l yJ9_floorDiv_7cf53 (Cond.code yJ9_floorDiv_7cf53 cJ9_floorDiv_7cf53 3 (some .int) :: wsL_law) ({ frames := 0, cells := 0, slots := 0, locals := 0 } : Room) (va_Pc [.int x1, .int x2] (fun _ => True)) (rd_Qi (fun r => (x2 = 2 → r = x1 >>> ((1 : Int32) &&& 31)))) 0 0 (fun _ => False) := by
  refine va_MetF (cc := cJ9_floorDiv_7cf53) (maxL := 3) (ret := (some .int)) (by decide +kernel) rfl ?_
  intro p e s m args below meth c s₁ B hml hv
  obtain ⟨rfl, hI⟩ := hv
  have hx := B.exec
  have hb := B.bytes
  have hr := B.returns
  have hT : ∀ w ∈ wsL_law, w.before ([.int x1, .int x2] : List Value).toArray s = true := fun w h => atoms_spec (ws := (Cond.code yJ9_floorDiv_7cf53 cJ9_floorDiv_7cf53 3 (some .int) :: wsL_law)) B.pre w (List.mem_cons_of_mem _ h)
  have hown : s.vm.findClass RJ9 = some m.cls := findClass_of_methodNamed B.named
  have hlocks := B.notSynchronized
  have hl := lv_entry ([.int x1, .int x2]) (n := 3) (Nat.le_of_ble_eq_true rfl)
  rw [lg_entry_eq]
  generalize (lg_sl ([.int x1, .int x2]) ++ List.replicate (3 - (lg_sl ([.int x1, .int x2])).length) Slot.unset).toArray = ls at hl ⊢
  have hl : lv_has ls 3 [(0, .int x1), (1, .int x2)] := hl
  refine lv_iload_n hx hb dJ9_floorDiv_7cf53_0 rfl (lv_at hl 0 rfl) ?_
  refine lv_iload_n hx hb dJ9_floorDiv_7cf53_1 rfl (lv_at hl 1 rfl) ?_
  refine lv_idiv hx hb dJ9_floorDiv_7cf53_2 hd ?_
  refine lv_topi (fun v_2 e_2 => ?_)
  refine lv_istore_n (lv' := [(2, .int v_2), (0, .int x1), (1, .int x2)]) hx hb dJ9_floorDiv_7cf53_3 rfl hl (by decide) rfl (fun ls hl => ?_)
  refine lv_iload_n hx hb dJ9_floorDiv_7cf53_4 rfl (lv_at hl 1 rfl) ?_
  refine lv_iload_n hx hb dJ9_floorDiv_7cf53_5 rfl (lv_at hl 2 rfl) ?_
  refine lv_ixor hx hb dJ9_floorDiv_7cf53_6 ?_
  refine lv_topi (fun v_6 e_6 => ?_)
  refine lv_if_ge (tgt := 21) hx hb dJ9_floorDiv_7cf53_7 (by decide) (fun c_7 => ?_) (fun c_7 => ?_)
  · skip
    have i_7 := ti_lek tk_0 rfl c_7
    refine lv_iload_n hx hb dJ9_floorDiv_7cf53_21 rfl (lv_at hl 0 rfl) ?_
    exact W.iret (v := v_2) hx hb hr (fun t ht hW => ⟨v_2, rfl, (fun h => by subst h; first | exact fd_b e_2 e_12 c_14 | exact fd_a e_2 e_6 i_7), ht⟩) (fun q hq => by cases hq) dJ9_floorDiv_7cf53_22
  · skip
    have i_7 := ti_nlek tk_0 rfl c_7
    refine lv_iload_n hx hb dJ9_floorDiv_7cf53_10 rfl (lv_at hl 0 rfl) ?_
    refine lv_iload_n hx hb dJ9_floorDiv_7cf53_11 rfl (lv_at hl 2 rfl) ?_
    refine lv_imul hx hb dJ9_floorDiv_7cf53_12 ?_
    refine lv_topi (fun v_12 e_12 => ?_)
    refine lv_iload_n hx hb dJ9_floorDiv_7cf53_13 rfl (lv_at hl 1 rfl) ?_
    refine lv_icmp_eq (tgt := 21) hx hb dJ9_floorDiv_7cf53_14 (by decide) (fun c_14 => ?_) (fun c_14 => ?_)
    · skip
      have i_14 := ti_eqk rfl rfl c_14
      refine lv_iload_n hx hb dJ9_floorDiv_7cf53_21 rfl (lv_at hl 0 rfl) ?_
      exact W.iret (v := v_2) hx hb hr (fun t ht hW => ⟨v_2, rfl, (fun h => by subst h; first | exact fd_b e_2 e_12 c_14 | exact fd_a e_2 e_6 i_7), ht⟩) (fun q hq => by cases hq) dJ9_floorDiv_7cf53_22
    · skip
      have i_14 := ti_nek rfl rfl c_14
      refine lv_iload_n hx hb dJ9_floorDiv_7cf53_17 rfl (lv_at hl 0 rfl) ?_
      refine lv_iconst (v := 1) hx hb dJ9_floorDiv_7cf53_18 (by decide) ?_
      refine lv_isub hx hb dJ9_floorDiv_7cf53_19 ?_
      refine lv_topi (fun v_19 e_19 => ?_)
      exact W.iret (v := v_19) hx hb hr (fun t ht hW => ⟨v_19, rfl, (fun h => by subst h; exact fd_c e_2 e_6 i_7 e_12 c_14 e_19), ht⟩) (fun q hq => by cases hq) dJ9_floorDiv_7cf53_20
set_option maxHeartbeats 4000000 in
set_option maxRecDepth 100000 in
theorem c_J7_fill_53178_6 (l : Launch) (Z : ZT) (hZ : XG Z) (g : Nat → Nat → Int32) (gl : Nat → Nat → Int64) (tf : Nat → Nat → Int32) (x1 : Int32) (hG : Gd Z tf) : Met l yJ7_fill_53178 (Cond.code yJ7_fill_53178 cJ7_fill_53178 4 none :: wsL_law) ({ frames := 0, cells := 0, slots := 0, locals := 0 } : Room) (va_Pc [.ref (za Z 6), .int x1] (XI Z g gl tf)) (va_Qv (fun (u : (Nat → Nat → Int32) × (Nat → Nat → Int64) × (Nat → Nat → Int32)) => Fr [6] g u.1 ∧ Gd Z u.2.2 ∧ tf = u.2.2 ∧ (∀ j : Nat, j < 128 → u.1 6 j = x1)) (fun u t => va_P (zD Z) vwCl (xw Z u.1 u.2.1 u.2.2) t.heap) (zA Z)) 0 0 (zA Z) := by
  refine Met.ofW (cc := cJ7_fill_53178) (maxL := 4) (ret := none) (by decide) rfl ?_
  intro p e s m args below meth c s₁ B hml hv
  obtain ⟨rfl, hI⟩ := hv
  have hx := B.exec
  have hb := B.bytes
  have hr := B.returns
  have hT : ∀ w ∈ wsL_law, w.before ([.ref (za Z 6), .int x1] : List Value).toArray s = true := fun w h => atoms_spec (ws := (Cond.code yJ7_fill_53178 cJ7_fill_53178 4 none :: wsL_law)) B.pre w (List.mem_cons_of_mem _ h)
  have hown : s.vm.findClass RJ7 = some m.cls := findClass_of_methodNamed B.named
  have hlocks := B.notSynchronized
  have hK := hI.2.1
  have hP := hI.1
  have hS : va_S (zA Z) s.heap s.heap [] := va_S.rf
  have hF : Fr [6] g g := Fr.rf
  have hl := lv_entry ([.ref (za Z 6), .int x1]) (n := 4) (Nat.le_of_ble_eq_true rfl)
  rw [lg_entry_eq]
  generalize (lg_sl ([.ref (za Z 6), .int x1]) ++ List.replicate (4 - (lg_sl ([.ref (za Z 6), .int x1])).length) Slot.unset).toArray = ls at hl ⊢
  have hl : lv_has ls 4 [(0, .ref (za Z 6)), (1, .int x1)] := hl
  have L5 : ∀ (n : Nat) (z2 : Int32) (g1 : Nat → Nat → Int32) (gl1 : Nat → Nat → Int64) (H : Heap) (locs : List Loc) (hP : va_P (zD Z) vwCl (xw Z g1 gl1 tf) H) (hF : Fr [6] g g1) (hG : Gd Z tf) (hS : va_S (zA Z) s.heap H locs) (h2 : 0 ≤ z2.toInt) (hA : ∀ j : Nat, (j : Int) < z2.toInt → g1 6 j = x1) (hn : (128 - z2.toInt).toNat < n) (ls : Array Slot) (hl : lv_has ls 4 [(0, .ref (za Z 6)), (1, .int x1), (2, .int z2), (3, .int 128)]), W p l e ({ frames := 0, cells := 0, slots := 0, locals := 0 } : Room) s m ([.ref (za Z 6), .int x1] : List Value).toArray below meth c H locs 0 0 (MQ below (va_Qv (fun (u : (Nat → Nat → Int32) × (Nat → Nat → Int64) × (Nat → Nat → Int32)) => Fr [6] g u.1 ∧ Gd Z u.2.2 ∧ tf = u.2.2 ∧ (∀ j : Nat, j < 128 → u.1 6 j = x1)) (fun u t => va_P (zD Z) vwCl (xw Z u.1 u.2.1 u.2.2) t.heap) (zA Z)) ([.ref (za Z 6), .int x1] : List Value).toArray s 0 0 (zA Z)) (F0 m 5 ls []) := by
    intro n
    induction n with
    | zero => intro z2 g1 gl1 H locs hP hF hG hS h2 hA hn; exact absurd hn (Nat.not_lt_zero _)
    | succ n ih5 =>
      intro z2 g1 gl1 H locs hP hF hG hS h2 hA hn ls hl
      refine lv_iload_n hx hb dJ7_fill_53178_5 rfl (lv_at hl 2 rfl) ?_
      refine lv_iload_n hx hb dJ7_fill_53178_6 rfl (lv_at hl 3 rfl) ?_
      refine lv_icmp_ge (tgt := 20) hx hb dJ7_fill_53178_7 (by decide) (fun c_7 => ?_) (fun c_7 => ?_)
      · skip
        have i_7 := ti_lek tk_128 rfl c_7
        exact W.vret hx hb hr (fun t ht hW => ⟨⟨(g1, gl1, tf), rfl, ⟨hF, hG, rfl, (by (try dsimp only); first | done | exact (fun j hj => hA j (by omega)))⟩, by show va_P (zD Z) vwCl (xw Z g1 gl1 tf) t.heap; rw [ht]; exact hP⟩, hS.F ht⟩) hS.2.2 dJ7_fill_53178_20
      · skip
        have i_7 := ti_nlek tk_128 rfl c_7
        refine lv_aload_n hx hb dJ7_fill_53178_10 rfl (lv_at hl 0 rfl) ?_
        refine lv_iload_n hx hb dJ7_fill_53178_11 rfl (lv_at hl 2 rfl) ?_
        refine lv_iload_n hx hb dJ7_fill_53178_12 rfl (lv_at hl 1 rfl) ?_
        have h_13 : vp_in z2 128 := (ti_vp (by omega) (by omega))
        refine va_iast hx hb hK hP hZ.D hS 6 1 xw_6 rfl h_13 dJ7_fill_53178_13 (fun H locs hP _ hS => ?_)
        replace hP := xs_6 hP
        have hF := hF.uR (i := 6) (r := upd (g1 6) z2.toNatClampNeg x1) (by decide)
        obtain ⟨v_14, e_14⟩ : ∃ y : Int32, y = z2 + 1 := ⟨_, rfl⟩
        refine lv_iinc (v := v_14) (lv' := [(2, .int v_14), (0, .ref (za Z 6)), (1, .int x1), (3, .int 128)]) hx hb dJ7_fill_53178_14 hl (k := 2) rfl (by rw [e_14]; rfl) (by decide) rfl (fun ls hl => ?_)
        have t_14 := ti_addk rfl tk_1 (by omega) (by omega) e_14
        refine lv_goto (tgt := 5) hx hb dJ7_fill_53178_17 (by decide) ?_
        exact ih5 v_14 (upR g1 6 (upd (g1 6) z2.toNatClampNeg x1)) gl1 _ _ hP hF hG hS (by first | assumption | omega | decide) (fun j hj => by show upd (g1 6) z2.toNatClampNeg x1 j = x1; by_cases e : j = z2.toNatClampNeg; (subst e; exact pk_us); rw [pk_un e]; exact hA j (by have q : ¬ (j : Int) = z2.toInt := (fun z => e (ti_clamp z.symm).symm); omega)) (by omega) ls (lv_sub hl [1, 2, 0, 3] rfl)
  refine lv_iconst (v := 0) hx hb dJ7_fill_53178_0 (by decide) ?_
  refine lv_istore_n (lv' := [(2, .int 0), (0, .ref (za Z 6)), (1, .int x1)]) hx hb dJ7_fill_53178_1 rfl hl (by decide) rfl (fun ls hl => ?_)
  refine lv_aload_n hx hb dJ7_fill_53178_2 rfl (lv_at hl 1 rfl) ?_
  refine va_alen hx hb hK hP 6 1 xw_6 rfl (v := 128) rfl dJ7_fill_53178_3 ?_
  refine lv_istore_n (lv' := [(3, .int 128), (2, .int 0), (0, .ref (za Z 6)), (1, .int x1)]) hx hb dJ7_fill_53178_4 rfl hl (by decide) rfl (fun ls hl => ?_)
  exact L5 _ 0 g gl _ _ hP hF hG hS (by first | assumption | omega | decide) (fun j hj => by rw [tk_0] at hj; omega) (Nat.lt_succ_self _) ls (lv_sub hl [2, 3, 1, 0] rfl)
set_option maxHeartbeats 4000000 in
set_option maxRecDepth 100000 in
theorem c_J7_fill_53178_10 (l : Launch) (Z : ZT) (hZ : XG Z) (g : Nat → Nat → Int32) (gl : Nat → Nat → Int64) (tf : Nat → Nat → Int32) (x1 : Int32) (hG : Gd Z tf) : Met l yJ7_fill_53178 (Cond.code yJ7_fill_53178 cJ7_fill_53178 4 none :: wsL_law) ({ frames := 0, cells := 0, slots := 0, locals := 0 } : Room) (va_Pc [.ref (za Z 10), .int x1] (XI Z g gl tf)) (va_Qv (fun (u : (Nat → Nat → Int32) × (Nat → Nat → Int64) × (Nat → Nat → Int32)) => Fr [10] g u.1 ∧ Gd Z u.2.2 ∧ tf = u.2.2 ∧ (∀ j : Nat, j < 64 → u.1 10 j = x1)) (fun u t => va_P (zD Z) vwCl (xw Z u.1 u.2.1 u.2.2) t.heap) (zA Z)) 0 0 (zA Z) := by
  refine Met.ofW (cc := cJ7_fill_53178) (maxL := 4) (ret := none) (by decide) rfl ?_
  intro p e s m args below meth c s₁ B hml hv
  obtain ⟨rfl, hI⟩ := hv
  have hx := B.exec
  have hb := B.bytes
  have hr := B.returns
  have hT : ∀ w ∈ wsL_law, w.before ([.ref (za Z 10), .int x1] : List Value).toArray s = true := fun w h => atoms_spec (ws := (Cond.code yJ7_fill_53178 cJ7_fill_53178 4 none :: wsL_law)) B.pre w (List.mem_cons_of_mem _ h)
  have hown : s.vm.findClass RJ7 = some m.cls := findClass_of_methodNamed B.named
  have hlocks := B.notSynchronized
  have hK := hI.2.1
  have hP := hI.1
  have hS : va_S (zA Z) s.heap s.heap [] := va_S.rf
  have hF : Fr [10] g g := Fr.rf
  have hl := lv_entry ([.ref (za Z 10), .int x1]) (n := 4) (Nat.le_of_ble_eq_true rfl)
  rw [lg_entry_eq]
  generalize (lg_sl ([.ref (za Z 10), .int x1]) ++ List.replicate (4 - (lg_sl ([.ref (za Z 10), .int x1])).length) Slot.unset).toArray = ls at hl ⊢
  have hl : lv_has ls 4 [(0, .ref (za Z 10)), (1, .int x1)] := hl
  have L5 : ∀ (n : Nat) (z2 : Int32) (g1 : Nat → Nat → Int32) (gl1 : Nat → Nat → Int64) (H : Heap) (locs : List Loc) (hP : va_P (zD Z) vwCl (xw Z g1 gl1 tf) H) (hF : Fr [10] g g1) (hG : Gd Z tf) (hS : va_S (zA Z) s.heap H locs) (h2 : 0 ≤ z2.toInt) (hA : ∀ j : Nat, (j : Int) < z2.toInt → g1 10 j = x1) (hn : (64 - z2.toInt).toNat < n) (ls : Array Slot) (hl : lv_has ls 4 [(0, .ref (za Z 10)), (1, .int x1), (2, .int z2), (3, .int 64)]), W p l e ({ frames := 0, cells := 0, slots := 0, locals := 0 } : Room) s m ([.ref (za Z 10), .int x1] : List Value).toArray below meth c H locs 0 0 (MQ below (va_Qv (fun (u : (Nat → Nat → Int32) × (Nat → Nat → Int64) × (Nat → Nat → Int32)) => Fr [10] g u.1 ∧ Gd Z u.2.2 ∧ tf = u.2.2 ∧ (∀ j : Nat, j < 64 → u.1 10 j = x1)) (fun u t => va_P (zD Z) vwCl (xw Z u.1 u.2.1 u.2.2) t.heap) (zA Z)) ([.ref (za Z 10), .int x1] : List Value).toArray s 0 0 (zA Z)) (F0 m 5 ls []) := by
    intro n
    induction n with
    | zero => intro z2 g1 gl1 H locs hP hF hG hS h2 hA hn; exact absurd hn (Nat.not_lt_zero _)
    | succ n ih5 =>
      intro z2 g1 gl1 H locs hP hF hG hS h2 hA hn ls hl
      refine lv_iload_n hx hb dJ7_fill_53178_5 rfl (lv_at hl 2 rfl) ?_
      refine lv_iload_n hx hb dJ7_fill_53178_6 rfl (lv_at hl 3 rfl) ?_
      refine lv_icmp_ge (tgt := 20) hx hb dJ7_fill_53178_7 (by decide) (fun c_7 => ?_) (fun c_7 => ?_)
      · skip
        have i_7 := ti_lek tk_64 rfl c_7
        exact W.vret hx hb hr (fun t ht hW => ⟨⟨(g1, gl1, tf), rfl, ⟨hF, hG, rfl, (by (try dsimp only); first | done | exact (fun j hj => hA j (by omega)))⟩, by show va_P (zD Z) vwCl (xw Z g1 gl1 tf) t.heap; rw [ht]; exact hP⟩, hS.F ht⟩) hS.2.2 dJ7_fill_53178_20
      · skip
        have i_7 := ti_nlek tk_64 rfl c_7
        refine lv_aload_n hx hb dJ7_fill_53178_10 rfl (lv_at hl 0 rfl) ?_
        refine lv_iload_n hx hb dJ7_fill_53178_11 rfl (lv_at hl 2 rfl) ?_
        refine lv_iload_n hx hb dJ7_fill_53178_12 rfl (lv_at hl 1 rfl) ?_
        have h_13 : vp_in z2 64 := (ti_vp (by omega) (by omega))
        refine va_iast hx hb hK hP hZ.D hS 10 1 xw_10 rfl h_13 dJ7_fill_53178_13 (fun H locs hP _ hS => ?_)
        replace hP := xs_10 hP
        have hF := hF.uR (i := 10) (r := upd (g1 10) z2.toNatClampNeg x1) (by decide)
        obtain ⟨v_14, e_14⟩ : ∃ y : Int32, y = z2 + 1 := ⟨_, rfl⟩
        refine lv_iinc (v := v_14) (lv' := [(2, .int v_14), (0, .ref (za Z 10)), (1, .int x1), (3, .int 64)]) hx hb dJ7_fill_53178_14 hl (k := 2) rfl (by rw [e_14]; rfl) (by decide) rfl (fun ls hl => ?_)
        have t_14 := ti_addk rfl tk_1 (by omega) (by omega) e_14
        refine lv_goto (tgt := 5) hx hb dJ7_fill_53178_17 (by decide) ?_
        exact ih5 v_14 (upR g1 10 (upd (g1 10) z2.toNatClampNeg x1)) gl1 _ _ hP hF hG hS (by first | assumption | omega | decide) (fun j hj => by show upd (g1 10) z2.toNatClampNeg x1 j = x1; by_cases e : j = z2.toNatClampNeg; (subst e; exact pk_us); rw [pk_un e]; exact hA j (by have q : ¬ (j : Int) = z2.toInt := (fun z => e (ti_clamp z.symm).symm); omega)) (by omega) ls (lv_sub hl [1, 2, 0, 3] rfl)
  refine lv_iconst (v := 0) hx hb dJ7_fill_53178_0 (by decide) ?_
  refine lv_istore_n (lv' := [(2, .int 0), (0, .ref (za Z 10)), (1, .int x1)]) hx hb dJ7_fill_53178_1 rfl hl (by decide) rfl (fun ls hl => ?_)
  refine lv_aload_n hx hb dJ7_fill_53178_2 rfl (lv_at hl 1 rfl) ?_
  refine va_alen hx hb hK hP 10 1 xw_10 rfl (v := 64) rfl dJ7_fill_53178_3 ?_
  refine lv_istore_n (lv' := [(3, .int 64), (2, .int 0), (0, .ref (za Z 10)), (1, .int x1)]) hx hb dJ7_fill_53178_4 rfl hl (by decide) rfl (fun ls hl => ?_)
  exact L5 _ 0 g gl _ _ hP hF hG hS (by first | assumption | omega | decide) (fun j hj => by rw [tk_0] at hj; omega) (Nat.lt_succ_self _) ls (lv_sub hl [2, 3, 1, 0] rfl)
set_option maxHeartbeats 4000000 in
set_option maxRecDepth 100000 in
theorem c_X3_write (l : Launch) (Z : ZT) (hZ : XG Z) (g : Nat → Nat → Int32) (gl : Nat → Nat → Int64) (tf : Nat → Nat → Int32) (a : Nat) (ha : a ∈ zL Z) (x1 : Int32) (x2 : Int32) (x3 : Int32) (x4 : Int32) (x5 : Int32) (h4 : 0 ≤ x4.toInt ∧ x4.toInt ≤ 63) (h5 : 0 ≤ x5.toInt ∧ x5.toInt ≤ 63) (hG : Gd Z tf) : Met l yX3_write (Cond.code yX3_write cX3_write 6 none :: wsL_law) ({ frames := 0, cells := 0, slots := 0, locals := 0 } : Room) (va_Pc [.ref a, .int x1, .int x2, .int x3, .int x4, .int x5] (XI Z g gl tf)) (va_Qv (fun (u : (Nat → Nat → Int32) × (Nat → Nat → Int64) × (Nat → Nat → Int32)) => Fr [] g u.1 ∧ Gd Z u.2.2 ∧ (wrT tf a x1 x2 x3 x4 x5) = u.2.2 ∧ g = u.1) (fun u t => va_P (zD Z) vwCl (xw Z u.1 u.2.1 u.2.2) t.heap) (zA Z)) 0 0 (zA Z) := by
  refine Met.ofW (cc := cX3_write) (maxL := 6) (ret := none) (by decide) rfl ?_
  intro p e s m args below meth c s₁ B hml hv
  obtain ⟨rfl, hI⟩ := hv
  have hx := B.exec
  have hb := B.bytes
  have hr := B.returns
  have hT : ∀ w ∈ wsL_law, w.before ([.ref a, .int x1, .int x2, .int x3, .int x4, .int x5] : List Value).toArray s = true := fun w h => atoms_spec (ws := (Cond.code yX3_write cX3_write 6 none :: wsL_law)) B.pre w (List.mem_cons_of_mem _ h)
  have hown : s.vm.findClass RX3 = some m.cls := findClass_of_methodNamed B.named
  have hlocks := B.notSynchronized
  have hK := hI.2.1
  have hP := hI.1
  have hS : va_S (zA Z) s.heap s.heap [] := va_S.rf
  have hF : Fr [] g g := Fr.rf
  have hl := lv_entry ([.ref a, .int x1, .int x2, .int x3, .int x4, .int x5]) (n := 6) (Nat.le_of_ble_eq_true rfl)
  rw [lg_entry_eq]
  generalize (lg_sl ([.ref a, .int x1, .int x2, .int x3, .int x4, .int x5]) ++ List.replicate (6 - (lg_sl ([.ref a, .int x1, .int x2, .int x3, .int x4, .int x5])).length) Slot.unset).toArray = ls at hl ⊢
  have hl : lv_has ls 6 [(0, .ref a), (1, .int x1), (2, .int x2), (3, .int x3), (4, .int x4), (5, .int x5)] := hl
  refine lv_aload_n hx hb dX3_write_0 rfl (lv_at hl 0 rfl) ?_
  refine lv_iload_n hx hb dX3_write_1 rfl (lv_at hl 1 rfl) ?_
  obtain ⟨k_2, hk_2⟩ := xt_at (g := g) (gl := gl) (tf := tf) ha
  refine va_put (D := zD Z) (ci := 3) (v := .int x1) (ty := .int) (C := RX3) (T := TX3) (N := 5) hx hb hT inlX3 tyX3 tyX3_ok nmX3 hown hK hP hZ.D hS k_2 hk_2 rfl 0 (by decide) (hT _ (tr_13 _ (List.mem_of_getElem? (i := 21) rfl))) (fun _ h9 => h9) rfl (by decide +kernel) rfl rfl (Nat.le_of_ble_eq_true rfl) dX3_write_2 (fun H locs hP _ hS => ?_)
  replace hP := xt_set (j := 0) (v := x1) hZ.D ha hk_2 xt_0 hP
  have hG := hG.u (a := a) (v := x1) (show 0 ≠ 3 by decide) (show 0 ≠ 4 by decide)
  refine lv_aload_n hx hb dX3_write_5 rfl (lv_at hl 0 rfl) ?_
  refine lv_iload_n hx hb dX3_write_6 rfl (lv_at hl 2 rfl) ?_
  obtain ⟨k_7, hk_7⟩ := xt_at (g := g) (gl := gl) (tf := (up2 tf a 0 x1)) ha
  refine va_put (D := zD Z) (ci := 3) (v := .int x2) (ty := .int) (C := RX3) (T := TX3) (N := 5) hx hb hT inlX3 tyX3 tyX3_ok nmX3 hown hK hP hZ.D hS k_7 hk_7 rfl 1 (by decide) (hT _ (tr_13 _ (List.mem_of_getElem? (i := 22) rfl))) (fun _ h9 => h9) rfl (by decide +kernel) rfl rfl (Nat.le_of_ble_eq_true rfl) dX3_write_7 (fun H locs hP _ hS => ?_)
  replace hP := xt_set (j := 1) (v := x2) hZ.D ha hk_7 xt_1 hP
  have hG := hG.u (a := a) (v := x2) (show 1 ≠ 3 by decide) (show 1 ≠ 4 by decide)
  refine lv_aload_n hx hb dX3_write_10 rfl (lv_at hl 0 rfl) ?_
  refine lv_iload_n hx hb dX3_write_11 rfl (lv_at hl 3 rfl) ?_
  obtain ⟨k_12, hk_12⟩ := xt_at (g := g) (gl := gl) (tf := (up2 (up2 tf a 0 x1) a 1 x2)) ha
  refine va_put (D := zD Z) (ci := 3) (v := .int x3) (ty := .int) (C := RX3) (T := TX3) (N := 5) hx hb hT inlX3 tyX3 tyX3_ok nmX3 hown hK hP hZ.D hS k_12 hk_12 rfl 2 (by decide) (hT _ (tr_13 _ (List.mem_of_getElem? (i := 23) rfl))) (fun _ h9 => h9) rfl (by decide +kernel) rfl rfl (Nat.le_of_ble_eq_true rfl) dX3_write_12 (fun H locs hP _ hS => ?_)
  replace hP := xt_set (j := 2) (v := x3) hZ.D ha hk_12 xt_2 hP
  have hG := hG.u (a := a) (v := x3) (show 2 ≠ 3 by decide) (show 2 ≠ 4 by decide)
  refine lv_aload_n hx hb dX3_write_15 rfl (lv_at hl 0 rfl) ?_
  refine lv_iload hx hb dX3_write_16 (lv_at hl 4 rfl) ?_
  obtain ⟨k_18, hk_18⟩ := xt_at (g := g) (gl := gl) (tf := (up2 (up2 (up2 tf a 0 x1) a 1 x2) a 2 x3)) ha
  refine va_put (D := zD Z) (ci := 3) (v := .int x4) (ty := .int) (C := RX3) (T := TX3) (N := 5) hx hb hT inlX3 tyX3 tyX3_ok nmX3 hown hK hP hZ.D hS k_18 hk_18 rfl 3 (by decide) (hT _ (tr_14 _ (List.mem_of_getElem? (i := 0) rfl))) (fun _ h9 => h9) rfl (by decide +kernel) rfl rfl (Nat.le_of_ble_eq_true rfl) dX3_write_18 (fun H locs hP _ hS => ?_)
  replace hP := xt_set (j := 3) (v := x4) hZ.D ha hk_18 xt_3 hP
  have hG := hG.u3 (a := a) (v := x4) h4
  refine lv_aload_n hx hb dX3_write_21 rfl (lv_at hl 0 rfl) ?_
  refine lv_iload hx hb dX3_write_22 (lv_at hl 5 rfl) ?_
  obtain ⟨k_24, hk_24⟩ := xt_at (g := g) (gl := gl) (tf := (up2 (up2 (up2 (up2 tf a 0 x1) a 1 x2) a 2 x3) a 3 x4)) ha
  refine va_put (D := zD Z) (ci := 3) (v := .int x5) (ty := .int) (C := RX3) (T := TX3) (N := 5) hx hb hT inlX3 tyX3 tyX3_ok nmX3 hown hK hP hZ.D hS k_24 hk_24 rfl 4 (by decide) (hT _ (tr_14 _ (List.mem_of_getElem? (i := 1) rfl))) (fun _ h9 => h9) rfl (by decide +kernel) rfl rfl (Nat.le_of_ble_eq_true rfl) dX3_write_24 (fun H locs hP _ hS => ?_)
  replace hP := xt_set (j := 4) (v := x5) hZ.D ha hk_24 xt_4 hP
  have hG := hG.u4 (a := a) (v := x5) h5
  exact W.vret hx hb hr (fun t ht hW => ⟨⟨(g, gl, (up2 (up2 (up2 (up2 (up2 tf a 0 x1) a 1 x2) a 2 x3) a 3 x4) a 4 x5)), rfl, ⟨hF, hG, rfl, rfl⟩, by show va_P (zD Z) vwCl (xw Z g gl (up2 (up2 (up2 (up2 (up2 tf a 0 x1) a 1 x2) a 2 x3) a 3 x4) a 4 x5)) t.heap; rw [ht]; exact hP⟩, hS.F ht⟩) hS.2.2 dX3_write_27
set_option maxHeartbeats 4000000 in
set_option maxRecDepth 100000 in
theorem c_X3_copyFrom (l : Launch) (Z : ZT) (hZ : XG Z) (g : Nat → Nat → Int32) (gl : Nat → Nat → Int64) (tf : Nat → Nat → Int32) (a : Nat) (ha : a ∈ zL Z) (a2 : Nat) (ha2 : a2 ∈ zL Z) (hG : Gd Z tf) : Met l yX3_copyFrom (Cond.code yX3_copyFrom cX3_copyFrom 2 none :: wsL_law) ({ frames := 1, cells := 0, slots := 0, locals := 25 } : Room) (va_Pc [.ref a, .ref a2] (XI Z g gl tf)) (va_Qv (fun (u : (Nat → Nat → Int32) × (Nat → Nat → Int64) × (Nat → Nat → Int32)) => Fr [] g u.1 ∧ Gd Z u.2.2 ∧ (wrT tf a (tf a2 0) (tf a2 1) (tf a2 2) (tf a2 3) (tf a2 4)) = u.2.2 ∧ g = u.1) (fun u t => va_P (zD Z) vwCl (xw Z u.1 u.2.1 u.2.2) t.heap) (zA Z)) 0 0 (zA Z) := by
  refine Met.ofW (cc := cX3_copyFrom) (maxL := 2) (ret := none) (by decide) rfl ?_
  intro p e s m args below meth c s₁ B hml hv
  obtain ⟨rfl, hI⟩ := hv
  have hx := B.exec
  have hb := B.bytes
  have hr := B.returns
  have hT : ∀ w ∈ wsL_law, w.before ([.ref a, .ref a2] : List Value).toArray s = true := fun w h => atoms_spec (ws := (Cond.code yX3_copyFrom cX3_copyFrom 2 none :: wsL_law)) B.pre w (List.mem_cons_of_mem _ h)
  have hown : s.vm.findClass RX3 = some m.cls := findClass_of_methodNamed B.named
  have hlocks := B.notSynchronized
  have hK := hI.2.1
  have hP := hI.1
  have hS : va_S (zA Z) s.heap s.heap [] := va_S.rf
  have hF : Fr [] g g := Fr.rf
  have hl := lv_entry ([.ref a, .ref a2]) (n := 2) (Nat.le_of_ble_eq_true rfl)
  rw [lg_entry_eq]
  generalize (lg_sl ([.ref a, .ref a2]) ++ List.replicate (2 - (lg_sl ([.ref a, .ref a2])).length) Slot.unset).toArray = ls at hl ⊢
  have hl : lv_has ls 2 [(0, .ref a), (1, .ref a2)] := hl
  refine lv_aload_n hx hb dX3_copyFrom_0 rfl (lv_at hl 0 rfl) ?_
  refine lv_aload_n hx hb dX3_copyFrom_1 rfl (lv_at hl 1 rfl) ?_
  obtain ⟨k_2, hk_2⟩ := xt_at (g := g) (gl := gl) (tf := tf) ha2
  refine va_get (D := zD Z) (ci := 3) (v := .int (tf a2 0)) (C := RX3) (T := TX3) (N := 5) hx hb hT inlX3 hown hK hP k_2 hk_2 rfl 0 (by decide) (hT _ (tr_13 _ (List.mem_of_getElem? (i := 21) rfl))) (fun _ h9 => h9) rfl dX3_copyFrom_2 ?_
  refine lv_aload_n hx hb dX3_copyFrom_5 rfl (lv_at hl 1 rfl) ?_
  obtain ⟨k_6, hk_6⟩ := xt_at (g := g) (gl := gl) (tf := tf) ha2
  refine va_get (D := zD Z) (ci := 3) (v := .int (tf a2 1)) (C := RX3) (T := TX3) (N := 5) hx hb hT inlX3 hown hK hP k_6 hk_6 rfl 1 (by decide) (hT _ (tr_13 _ (List.mem_of_getElem? (i := 22) rfl))) (fun _ h9 => h9) rfl dX3_copyFrom_6 ?_
  refine lv_aload_n hx hb dX3_copyFrom_9 rfl (lv_at hl 1 rfl) ?_
  obtain ⟨k_10, hk_10⟩ := xt_at (g := g) (gl := gl) (tf := tf) ha2
  refine va_get (D := zD Z) (ci := 3) (v := .int (tf a2 2)) (C := RX3) (T := TX3) (N := 5) hx hb hT inlX3 hown hK hP k_10 hk_10 rfl 2 (by decide) (hT _ (tr_13 _ (List.mem_of_getElem? (i := 23) rfl))) (fun _ h9 => h9) rfl dX3_copyFrom_10 ?_
  refine lv_aload_n hx hb dX3_copyFrom_13 rfl (lv_at hl 1 rfl) ?_
  obtain ⟨k_14, hk_14⟩ := xt_at (g := g) (gl := gl) (tf := tf) ha2
  refine va_get (D := zD Z) (ci := 3) (v := .int (tf a2 3)) (C := RX3) (T := TX3) (N := 5) hx hb hT inlX3 hown hK hP k_14 hk_14 rfl 3 (by decide) (hT _ (tr_14 _ (List.mem_of_getElem? (i := 0) rfl))) (fun _ h9 => h9) rfl dX3_copyFrom_14 ?_
  refine lv_aload_n hx hb dX3_copyFrom_17 rfl (lv_at hl 1 rfl) ?_
  obtain ⟨k_18, hk_18⟩ := xt_at (g := g) (gl := gl) (tf := tf) ha2
  refine va_get (D := zD Z) (ci := 3) (v := .int (tf a2 4)) (C := RX3) (T := TX3) (N := 5) hx hb hT inlX3 hown hK hP k_18 hk_18 rfl 4 (by decide) (hT _ (tr_14 _ (List.mem_of_getElem? (i := 1) rfl))) (fun _ h9 => h9) rfl dX3_copyFrom_18 ?_
  obtain ⟨k_21, hk_21⟩ := xt_at (g := g) (gl := gl) (tf := tf) ha
  refine va_callv (va_runV (As := [.int (tf a2 0), .int (tf a2 1), .int (tf a2 2), .int (tf a2 3), .int (tf a2 4)]) (rest := []) ⟨hx, hb, hml, hown, hT⟩ (c_X3_write l Z hZ g gl tf a ha (tf a2 0) (tf a2 1) (tf a2 2) (tf a2 3) (tf a2 4) (hG a2 ha2).1 (hG a2 ha2).2 hG) (cwV 5 hT (tb_V (fun _ h => h) (tr_14 _ (List.mem_of_getElem? (i := 21) rfl)) (tr_13 _ (List.mem_of_getElem? (i := 18) rfl)) (tr_13 _ (List.mem_of_getElem? (i := 19) rfl)) (tr_2 _ (List.mem_of_getElem? (i := 10) rfl)) (tr_13 _ (List.mem_of_getElem? (i := 20) rfl))) rfl rfl rfl (by decide +kernel) ⟨Nat.le_of_ble_eq_true rfl, Nat.le_of_ble_eq_true rfl⟩) ⟨fun a U f mk q => ⟨q.1, XI.blind f mk a q.2⟩, va_recv hK hP (ci := 3) (q0 := k_21) rfl hk_21, fun U hU hW => ⟨rfl, hI.at hS hP hU hW⟩⟩ rfl rfl hl.1 rfl (lv_room (Nat.le_of_ble_eq_true rfl)) dX3_copyFrom_21 ⟨Nat.zero_le _, Nat.zero_le _⟩) hS (fun q _ h => h) (fun q h => h) (fun u_21 t_21 H locs ht_21 _ hw_21 hB_21 _ _ hS => ?_)
  obtain ⟨g_21, gl_21, tf_21⟩ := u_21
  have hP : va_P (zD Z) vwCl (xw Z g_21 gl_21 tf_21) H := ht_21 ▸ hB_21
  obtain ⟨hf_21, hG, et_21, eg_21⟩ := hw_21
  have hF := hF.tr hf_21 (by decide)
  dsimp only at hf_21 hG hF et_21 eg_21
  subst et_21
  subst eg_21
  exact W.vret hx hb hr (fun t ht hW => ⟨⟨(g, gl_21, (wrT tf a (tf a2 0) (tf a2 1) (tf a2 2) (tf a2 3) (tf a2 4))), rfl, ⟨hF, hG, rfl, rfl⟩, by show va_P (zD Z) vwCl (xw Z g gl_21 (wrT tf a (tf a2 0) (tf a2 1) (tf a2 2) (tf a2 3) (tf a2 4))) t.heap; rw [ht]; exact hP⟩, hS.F ht⟩) hS.2.2 dX3_copyFrom_24
set_option maxHeartbeats 4000000 in
set_option maxRecDepth 100000 in
theorem c_X3_spans (l : Launch) (Z : ZT) (hZ : XG Z) (g : Nat → Nat → Int32) (gl : Nat → Nat → Int64) (tf : Nat → Nat → Int32) (a : Nat) (ha : a ∈ zL Z) (x1 : Int32) (hG : Gd Z tf) : Met l yX3_spans (Cond.code yX3_spans cX3_spans 2 (some .boolean) :: wsL_law) ({ frames := 0, cells := 0, slots := 0, locals := 0 } : Room) (va_Pc [.ref a, .int x1] (XI Z g gl tf)) (rd_Qi (fun r => (r = 1 ∧ ((tf a 3).toInt ≤ x1.toInt ∧ x1.toInt ≤ (tf a 4).toInt)) ∨ (r = 0 ∧ ¬ ((tf a 3).toInt ≤ x1.toInt ∧ x1.toInt ≤ (tf a 4).toInt)))) 0 0 (fun _ => False) := by
  refine Met.ofW (cc := cX3_spans) (maxL := 2) (ret := (some .boolean)) (by decide) rfl ?_
  intro p e s m args below meth c s₁ B hml hv
  obtain ⟨rfl, hI⟩ := hv
  have hx := B.exec
  have hb := B.bytes
  have hr := B.returns
  have hT : ∀ w ∈ wsL_law, w.before ([.ref a, .int x1] : List Value).toArray s = true := fun w h => atoms_spec (ws := (Cond.code yX3_spans cX3_spans 2 (some .boolean) :: wsL_law)) B.pre w (List.mem_cons_of_mem _ h)
  have hown : s.vm.findClass RX3 = some m.cls := findClass_of_methodNamed B.named
  have hlocks := B.notSynchronized
  have hK := hI.2.1
  have hP := hI.1
  have hS : va_S (zA Z) s.heap s.heap [] := va_S.rf
  have hl := lv_entry ([.ref a, .int x1]) (n := 2) (Nat.le_of_ble_eq_true rfl)
  rw [lg_entry_eq]
  generalize (lg_sl ([.ref a, .int x1]) ++ List.replicate (2 - (lg_sl ([.ref a, .int x1])).length) Slot.unset).toArray = ls at hl ⊢
  have hl : lv_has ls 2 [(0, .ref a), (1, .int x1)] := hl
  refine lv_aload_n hx hb dX3_spans_0 rfl (lv_at hl 0 rfl) ?_
  obtain ⟨k_1, hk_1⟩ := xt_at (g := g) (gl := gl) (tf := tf) ha
  refine va_get (D := zD Z) (ci := 3) (v := .int (tf a 3)) (C := RX3) (T := TX3) (N := 5) hx hb hT inlX3 hown hK hP k_1 hk_1 rfl 3 (by decide) (hT _ (tr_14 _ (List.mem_of_getElem? (i := 0) rfl))) (fun _ h9 => h9) rfl dX3_spans_1 ?_
  refine lv_iload_n hx hb dX3_spans_4 rfl (lv_at hl 1 rfl) ?_
  refine lv_icmp_gt (tgt := 20) hx hb dX3_spans_5 (by decide) (fun c_5 => ?_) (fun c_5 => ?_)
  · skip
    have i_5 := ti_ltk rfl rfl c_5
    refine lv_iconst (v := 0) hx hb dX3_spans_20 (by decide) ?_
    exact W.zret (v := 0) (ty := .boolean) hx hb hr rfl (fun t ht hW => ⟨0, rfl, Or.inr ⟨rfl, (by first | assumption | omega | decide)⟩, ht⟩) (fun q hq => by cases hq) dX3_spans_21
  · skip
    have i_5 := ti_nltk rfl rfl c_5
    refine lv_iload_n hx hb dX3_spans_8 rfl (lv_at hl 1 rfl) ?_
    refine lv_aload_n hx hb dX3_spans_9 rfl (lv_at hl 0 rfl) ?_
    obtain ⟨k_10, hk_10⟩ := xt_at (g := g) (gl := gl) (tf := tf) ha
    refine va_get (D := zD Z) (ci := 3) (v := .int (tf a 4)) (C := RX3) (T := TX3) (N := 5) hx hb hT inlX3 hown hK hP k_10 hk_10 rfl 4 (by decide) (hT _ (tr_14 _ (List.mem_of_getElem? (i := 1) rfl))) (fun _ h9 => h9) rfl dX3_spans_10 ?_
    refine lv_icmp_gt (tgt := 20) hx hb dX3_spans_13 (by decide) (fun c_13 => ?_) (fun c_13 => ?_)
    · skip
      have i_13 := ti_ltk rfl rfl c_13
      refine lv_iconst (v := 0) hx hb dX3_spans_20 (by decide) ?_
      exact W.zret (v := 0) (ty := .boolean) hx hb hr rfl (fun t ht hW => ⟨0, rfl, Or.inr ⟨rfl, (by first | assumption | omega | decide)⟩, ht⟩) (fun q hq => by cases hq) dX3_spans_21
    · skip
      have i_13 := ti_nltk rfl rfl c_13
      refine lv_iconst (v := 1) hx hb dX3_spans_16 (by decide) ?_
      refine lv_goto (tgt := 21) hx hb dX3_spans_17 (by decide) ?_
      exact W.zret (v := 1) (ty := .boolean) hx hb hr rfl (fun t ht hW => ⟨1, rfl, Or.inl ⟨rfl, (by first | assumption | omega | decide)⟩, ht⟩) (fun q hq => by cases hq) dX3_spans_21
set_option maxHeartbeats 4000000 in
set_option maxRecDepth 100000 in
theorem c_X3_isOf (l : Launch) (Z : ZT) (hZ : XG Z) (g : Nat → Nat → Int32) (gl : Nat → Nat → Int64) (tf : Nat → Nat → Int32) (a : Nat) (ha : a ∈ zL Z) (x1 : Int32) (hG : Gd Z tf) : Met l yX3_isOf (Cond.code yX3_isOf cX3_isOf 2 (some .boolean) :: wsL_law) ({ frames := 0, cells := 0, slots := 0, locals := 0 } : Room) (va_Pc [.ref a, .int x1] (XI Z g gl tf)) (rd_Qi (fun r => (r = 1 ∧ (x1.toInt = 0 ∨ x1.toInt = (tf a 0).toInt ∨ (x1.toInt = 3 ∧ (tf a 0).toInt = 4))) ∨ (r = 0 ∧ ¬ (x1.toInt = 0 ∨ x1.toInt = (tf a 0).toInt ∨ (x1.toInt = 3 ∧ (tf a 0).toInt = 4))))) 0 0 (fun _ => False) := by
  refine Met.ofW (cc := cX3_isOf) (maxL := 2) (ret := (some .boolean)) (by decide) rfl ?_
  intro p e s m args below meth c s₁ B hml hv
  obtain ⟨rfl, hI⟩ := hv
  have hx := B.exec
  have hb := B.bytes
  have hr := B.returns
  have hT : ∀ w ∈ wsL_law, w.before ([.ref a, .int x1] : List Value).toArray s = true := fun w h => atoms_spec (ws := (Cond.code yX3_isOf cX3_isOf 2 (some .boolean) :: wsL_law)) B.pre w (List.mem_cons_of_mem _ h)
  have hown : s.vm.findClass RX3 = some m.cls := findClass_of_methodNamed B.named
  have hlocks := B.notSynchronized
  have hK := hI.2.1
  have hP := hI.1
  have hS : va_S (zA Z) s.heap s.heap [] := va_S.rf
  have hl := lv_entry ([.ref a, .int x1]) (n := 2) (Nat.le_of_ble_eq_true rfl)
  rw [lg_entry_eq]
  generalize (lg_sl ([.ref a, .int x1]) ++ List.replicate (2 - (lg_sl ([.ref a, .int x1])).length) Slot.unset).toArray = ls at hl ⊢
  have hl : lv_has ls 2 [(0, .ref a), (1, .int x1)] := hl
  refine lv_iload_n hx hb dX3_isOf_0 rfl (lv_at hl 1 rfl) ?_
  refine lv_if_eq (tgt := 25) hx hb dX3_isOf_1 (by decide) (fun c_1 => ?_) (fun c_1 => ?_)
  · skip
    have i_1 := ti_eqk rfl tk_0 c_1
    refine lv_iconst (v := 1) hx hb dX3_isOf_25 (by decide) ?_
    refine lv_goto (tgt := 30) hx hb dX3_isOf_26 (by decide) ?_
    exact W.zret (v := 1) (ty := .boolean) hx hb hr rfl (fun t ht hW => ⟨1, rfl, Or.inl ⟨rfl, (by first | assumption | omega | decide)⟩, ht⟩) (fun q hq => by cases hq) dX3_isOf_30
  · skip
    have i_1 := ti_nek rfl tk_0 c_1
    refine lv_iload_n hx hb dX3_isOf_4 rfl (lv_at hl 1 rfl) ?_
    refine lv_aload_n hx hb dX3_isOf_5 rfl (lv_at hl 0 rfl) ?_
    obtain ⟨k_6, hk_6⟩ := xt_at (g := g) (gl := gl) (tf := tf) ha
    refine va_get (D := zD Z) (ci := 3) (v := .int (tf a 0)) (C := RX3) (T := TX3) (N := 5) hx hb hT inlX3 hown hK hP k_6 hk_6 rfl 0 (by decide) (hT _ (tr_13 _ (List.mem_of_getElem? (i := 21) rfl))) (fun _ h9 => h9) rfl dX3_isOf_6 ?_
    refine lv_icmp_eq (tgt := 25) hx hb dX3_isOf_9 (by decide) (fun c_9 => ?_) (fun c_9 => ?_)
    · skip
      have i_9 := ti_eqk rfl rfl c_9
      refine lv_iconst (v := 1) hx hb dX3_isOf_25 (by decide) ?_
      refine lv_goto (tgt := 30) hx hb dX3_isOf_26 (by decide) ?_
      exact W.zret (v := 1) (ty := .boolean) hx hb hr rfl (fun t ht hW => ⟨1, rfl, Or.inl ⟨rfl, (by first | assumption | omega | decide)⟩, ht⟩) (fun q hq => by cases hq) dX3_isOf_30
    · skip
      have i_9 := ti_nek rfl rfl c_9
      refine lv_iload_n hx hb dX3_isOf_12 rfl (lv_at hl 1 rfl) ?_
      refine lv_iconst (v := 3) hx hb dX3_isOf_13 (by decide) ?_
      refine lv_icmp_ne (tgt := 29) hx hb dX3_isOf_14 (by decide) (fun c_14 => ?_) (fun c_14 => ?_)
      · skip
        have i_14 := ti_nek rfl tk_3 c_14
        refine lv_iconst (v := 0) hx hb dX3_isOf_29 (by decide) ?_
        exact W.zret (v := 0) (ty := .boolean) hx hb hr rfl (fun t ht hW => ⟨0, rfl, Or.inr ⟨rfl, (by first | assumption | omega | decide)⟩, ht⟩) (fun q hq => by cases hq) dX3_isOf_30
      · skip
        have i_14 := ti_eqk rfl tk_3 c_14
        refine lv_aload_n hx hb dX3_isOf_17 rfl (lv_at hl 0 rfl) ?_
        obtain ⟨k_18, hk_18⟩ := xt_at (g := g) (gl := gl) (tf := tf) ha
        refine va_get (D := zD Z) (ci := 3) (v := .int (tf a 0)) (C := RX3) (T := TX3) (N := 5) hx hb hT inlX3 hown hK hP k_18 hk_18 rfl 0 (by decide) (hT _ (tr_13 _ (List.mem_of_getElem? (i := 21) rfl))) (fun _ h9 => h9) rfl dX3_isOf_18 ?_
        refine lv_iconst (v := 4) hx hb dX3_isOf_21 (by decide) ?_
        refine lv_icmp_ne (tgt := 29) hx hb dX3_isOf_22 (by decide) (fun c_22 => ?_) (fun c_22 => ?_)
        · skip
          have i_22 := ti_nek rfl tk_4 c_22
          refine lv_iconst (v := 0) hx hb dX3_isOf_29 (by decide) ?_
          exact W.zret (v := 0) (ty := .boolean) hx hb hr rfl (fun t ht hW => ⟨0, rfl, Or.inr ⟨rfl, (by first | assumption | omega | decide)⟩, ht⟩) (fun q hq => by cases hq) dX3_isOf_30
        · skip
          have i_22 := ti_eqk rfl tk_4 c_22
          refine lv_iconst (v := 1) hx hb dX3_isOf_25 (by decide) ?_
          refine lv_goto (tgt := 30) hx hb dX3_isOf_26 (by decide) ?_
          exact W.zret (v := 1) (ty := .boolean) hx hb hr rfl (fun t ht hW => ⟨1, rfl, Or.inl ⟨rfl, (by first | assumption | omega | decide)⟩, ht⟩) (fun q hq => by cases hq) dX3_isOf_30
set_option maxHeartbeats 4000000 in
set_option maxRecDepth 100000 in
theorem c_X3_byBase (l : Launch) (Z : ZT) (hZ : XG Z) (g : Nat → Nat → Int32) (gl : Nat → Nat → Int64) (tf : Nat → Nat → Int32) (a : Nat) (ha : a ∈ zL Z) (x1 : Int32) (hG : Gd Z tf) : Met l yX3_byBase (Cond.code yX3_byBase cX3_byBase 2 (some .int) :: wsL_law) ({ frames := 1, cells := 0, slots := 0, locals := 22 } : Room) (va_Pc [.ref a, .int x1] (XI Z g gl tf)) (rd_Qi (fun r => r.toInt64 = abF x1 (tf a 2))) 0 0 (fun _ => False) := by
  refine Met.ofW (cc := cX3_byBase) (maxL := 2) (ret := (some .int)) (by decide) rfl ?_
  intro p e s m args below meth c s₁ B hml hv
  obtain ⟨rfl, hI⟩ := hv
  have hx := B.exec
  have hb := B.bytes
  have hr := B.returns
  have hT : ∀ w ∈ wsL_law, w.before ([.ref a, .int x1] : List Value).toArray s = true := fun w h => atoms_spec (ws := (Cond.code yX3_byBase cX3_byBase 2 (some .int) :: wsL_law)) B.pre w (List.mem_cons_of_mem _ h)
  have hown : s.vm.findClass RX3 = some m.cls := findClass_of_methodNamed B.named
  have hlocks := B.notSynchronized
  have hK := hI.2.1
  have hP := hI.1
  have hS : va_S (zA Z) s.heap s.heap [] := va_S.rf
  have hl := lv_entry ([.ref a, .int x1]) (n := 2) (Nat.le_of_ble_eq_true rfl)
  rw [lg_entry_eq]
  generalize (lg_sl ([.ref a, .int x1]) ++ List.replicate (2 - (lg_sl ([.ref a, .int x1])).length) Slot.unset).toArray = ls at hl ⊢
  have hl : lv_has ls 2 [(0, .ref a), (1, .int x1)] := hl
  refine lv_iload_n hx hb dX3_byBase_0 rfl (lv_at hl 1 rfl) ?_
  refine lv_iconst (v := 4) hx hb dX3_byBase_1 (by decide) ?_
  refine lv_icmp_ne (tgt := 16) hx hb dX3_byBase_2 (by decide) (fun c_2 => ?_) (fun c_2 => ?_)
  · skip
    have i_2 := ti_nek rfl tk_4 c_2
    refine lv_aload_n hx hb dX3_byBase_16 rfl (lv_at hl 0 rfl) ?_
    obtain ⟨k_17, hk_17⟩ := xt_at (g := g) (gl := gl) (tf := tf) ha
    refine va_get (D := zD Z) (ci := 3) (v := .int (tf a 2)) (C := RX3) (T := TX3) (N := 5) hx hb hT inlX3 hown hK hP k_17 hk_17 rfl 2 (by decide) (hT _ (tr_13 _ (List.mem_of_getElem? (i := 23) rfl))) (fun _ h9 => h9) rfl dX3_byBase_17 ?_
    exact W.iret (v := (tf a 2)) hx hb hr (fun t ht hW => ⟨(tf a 2), rfl, (by (try dsimp only); unfold abF; rw [if_neg c_2]), ht⟩) (fun q hq => by cases hq) dX3_byBase_20
  · skip
    have i_2 := ti_eqk rfl tk_4 c_2
    refine lv_aload_n hx hb dX3_byBase_5 rfl (lv_at hl 0 rfl) ?_
    obtain ⟨k_6, hk_6⟩ := xt_at (g := g) (gl := gl) (tf := tf) ha
    refine va_get (D := zD Z) (ci := 3) (v := .int (tf a 2)) (C := RX3) (T := TX3) (N := 5) hx hb hT inlX3 hown hK hP k_6 hk_6 rfl 2 (by decide) (hT _ (tr_13 _ (List.mem_of_getElem? (i := 23) rfl))) (fun _ h9 => h9) rfl dX3_byBase_6 ?_
    refine lv_iconst (v := 2) hx hb dX3_byBase_9 (by decide) ?_
    refine rd_ci (va_runS (As := [.int (tf a 2), .int 2]) (rest := []) ⟨hx, hb, hml, hown, hT⟩ (c_J9_floorDiv_7cf53 l (tf a 2) 2 (by first | assumption | omega | decide)) (va_cwS 2 hT (tb_S (fun _ h => h) (tr_16 _ (List.mem_of_getElem? (i := 18) rfl)) (tr_16 _ (List.mem_of_getElem? (i := 19) rfl)) (tr_16 _ (List.mem_of_getElem? (i := 20) rfl)) (tr_16 _ (List.mem_of_getElem? (i := 21) rfl))) rfl rfl rfl (by decide +kernel) ⟨Nat.le_of_ble_eq_true rfl, Nat.le_of_ble_eq_true rfl⟩) ⟨fun _ _ _ _ q => q, fun U hU hW => ⟨rfl, trivial⟩⟩ rfl rfl hl.1 rfl (lv_room (Nat.le_of_ble_eq_true rfl)) dX3_byBase_10 ⟨Nat.zero_le _, Nat.zero_le _⟩) (fun r_10 hr_10 => ?_)
    (try simp only [tk_2] at hr_10)
    refine lv_goto (tgt := 20) hx hb dX3_byBase_13 (by decide) ?_
    exact W.iret (v := r_10) hx hb hr (fun t ht hW => ⟨r_10, rfl, (by (try dsimp only); unfold abF; rw [if_pos c_2, hr_10 (by first | rfl | trivial)]), ht⟩) (fun q hq => by cases hq) dX3_byBase_20
set_option maxHeartbeats 4000000 in
set_option maxRecDepth 100000 in
theorem c_X3_byRate (l : Launch) (Z : ZT) (hZ : XG Z) (g : Nat → Nat → Int32) (gl : Nat → Nat → Int64) (tf : Nat → Nat → Int32) (a : Nat) (ha : a ∈ zL Z) (x1 : Int32) (x2 : Int32) (hG : Gd Z tf) : Met l yX3_byRate (Cond.code yX3_byRate cX3_byRate 3 (some .long) :: wsL_law) ({ frames := 0, cells := 0, slots := 0, locals := 0 } : Room) (va_Pc [.ref a, .int x1, .int x2] (XI Z g gl tf)) (rd_Ql (fun r => ((0 ≤ x2.toInt ∧ x2.toInt ≤ 63) → r = oftF x1 (tf a 3) x2 * (tf a 1).toInt64))) 0 0 (fun _ => False) := by
  refine Met.ofW (cc := cX3_byRate) (maxL := 3) (ret := (some .long)) (by decide) rfl ?_
  intro p e s m args below meth c s₁ B hml hv
  obtain ⟨rfl, hI⟩ := hv
  have hx := B.exec
  have hb := B.bytes
  have hr := B.returns
  have hT : ∀ w ∈ wsL_law, w.before ([.ref a, .int x1, .int x2] : List Value).toArray s = true := fun w h => atoms_spec (ws := (Cond.code yX3_byRate cX3_byRate 3 (some .long) :: wsL_law)) B.pre w (List.mem_cons_of_mem _ h)
  have hown : s.vm.findClass RX3 = some m.cls := findClass_of_methodNamed B.named
  have hlocks := B.notSynchronized
  have hK := hI.2.1
  have hP := hI.1
  have hS : va_S (zA Z) s.heap s.heap [] := va_S.rf
  have hl := lv_entry ([.ref a, .int x1, .int x2]) (n := 3) (Nat.le_of_ble_eq_true rfl)
  rw [lg_entry_eq]
  generalize (lg_sl ([.ref a, .int x1, .int x2]) ++ List.replicate (3 - (lg_sl ([.ref a, .int x1, .int x2])).length) Slot.unset).toArray = ls at hl ⊢
  have hl : lv_has ls 3 [(0, .ref a), (1, .int x1), (2, .int x2)] := hl
  refine lv_iload_n hx hb dX3_byRate_0 rfl (lv_at hl 1 rfl) ?_
  by_cases w_1_1 : x1 = 1
  · skip
    refine lv_tableIn (tgt := 32) (off := 31) hx hb dX3_byRate_1 (by rw [w_1_1]; decide) (by rw [w_1_1]; decide) (by rw [w_1_1]; decide) (by decide) ?_
    refine lv_lconst (v := 0) hx hb dX3_byRate_32 (by decide) ?_
    exact W.lret (v := 0) hx hb hr (fun t ht hW => ⟨0, rfl, (fun _ => by unfold oftF; rw [if_pos w_1_1, Int64.zero_mul]), ht⟩) (fun q hq => by cases hq) dX3_byRate_33
  by_cases w_1_2 : x1 = 2
  · skip
    refine lv_tableIn (tgt := 34) (off := 33) hx hb dX3_byRate_1 (by rw [w_1_2]; decide) (by rw [w_1_2]; decide) (by rw [w_1_2]; decide) (by decide) ?_
    refine lv_ldc2 (v := 2) hx hb hown (hT _ (tr_16 _ (List.mem_of_getElem? (i := 13) rfl))) dX3_byRate_34 ?_
    refine lv_aload_n hx hb dX3_byRate_37 rfl (lv_at hl 0 rfl) ?_
    obtain ⟨k_38, hk_38⟩ := xt_at (g := g) (gl := gl) (tf := tf) ha
    refine va_get (D := zD Z) (ci := 3) (v := .int (tf a 1)) (C := RX3) (T := TX3) (N := 5) hx hb hT inlX3 hown hK hP k_38 hk_38 rfl 1 (by decide) (hT _ (tr_13 _ (List.mem_of_getElem? (i := 22) rfl))) (fun _ h9 => h9) rfl dX3_byRate_38 ?_
    refine lv_i2l hx hb dX3_byRate_41 rfl ?_
    refine lv_topl (fun v_41 e_41 => ?_)
    refine lv_lmul hx hb dX3_byRate_42 ?_
    refine lv_topl (fun v_42 e_42 => ?_)
    refine lv_iload_n hx hb dX3_byRate_43 rfl (lv_at hl 2 rfl) ?_
    refine lv_i2l hx hb dX3_byRate_44 rfl ?_
    refine lv_topl (fun v_44 e_44 => ?_)
    refine lv_lmul hx hb dX3_byRate_45 ?_
    refine lv_topl (fun v_45 e_45 => ?_)
    exact W.lret (v := v_45) hx hb hr (fun t ht hW => ⟨v_45, rfl, (fun _ => by unfold oftF; rw [if_neg w_1_1, if_pos w_1_2, e_45, e_42, e_41, e_44, Int64.mul_assoc, Int64.mul_comm (tf a 1).toInt64, ← Int64.mul_assoc]), ht⟩) (fun q hq => by cases hq) dX3_byRate_46
  by_cases w_1_3 : x1 = 3
  · skip
    refine lv_tableIn (tgt := 47) (off := 46) hx hb dX3_byRate_1 (by rw [w_1_3]; decide) (by rw [w_1_3]; decide) (by rw [w_1_3]; decide) (by decide) ?_
    refine lv_aload_n hx hb dX3_byRate_47 rfl (lv_at hl 0 rfl) ?_
    obtain ⟨k_48, hk_48⟩ := xt_at (g := g) (gl := gl) (tf := tf) ha
    refine va_get (D := zD Z) (ci := 3) (v := .int (tf a 1)) (C := RX3) (T := TX3) (N := 5) hx hb hT inlX3 hown hK hP k_48 hk_48 rfl 1 (by decide) (hT _ (tr_13 _ (List.mem_of_getElem? (i := 22) rfl))) (fun _ h9 => h9) rfl dX3_byRate_48 ?_
    refine lv_i2l hx hb dX3_byRate_51 rfl ?_
    refine lv_topl (fun v_51 e_51 => ?_)
    refine lv_iload_n hx hb dX3_byRate_52 rfl (lv_at hl 2 rfl) ?_
    refine lv_aload_n hx hb dX3_byRate_53 rfl (lv_at hl 0 rfl) ?_
    obtain ⟨k_54, hk_54⟩ := xt_at (g := g) (gl := gl) (tf := tf) ha
    refine va_get (D := zD Z) (ci := 3) (v := .int (tf a 3)) (C := RX3) (T := TX3) (N := 5) hx hb hT inlX3 hown hK hP k_54 hk_54 rfl 3 (by decide) (hT _ (tr_14 _ (List.mem_of_getElem? (i := 0) rfl))) (fun _ h9 => h9) rfl dX3_byRate_54 ?_
    refine lv_isub hx hb dX3_byRate_57 ?_
    refine lv_topi (fun v_57 e_57 => ?_)
    refine lv_i2l hx hb dX3_byRate_58 rfl ?_
    refine lv_topl (fun v_58 e_58 => ?_)
    refine lv_lmul hx hb dX3_byRate_59 ?_
    refine lv_topl (fun v_59 e_59 => ?_)
    exact W.lret (v := v_59) hx hb hr (fun t ht hW => ⟨v_59, rfl, (fun h => by unfold oftF; rw [if_neg w_1_1, if_neg w_1_2, if_pos (by first | exact Or.inl w_1_3 | exact Or.inr w_1_4), e_59, e_51, e_58, e_57, sub64 h (hG a ha).1, Int64.mul_comm]), ht⟩) (fun q hq => by cases hq) dX3_byRate_60
  by_cases w_1_4 : x1 = 4
  · skip
    refine lv_tableIn (tgt := 47) (off := 46) hx hb dX3_byRate_1 (by rw [w_1_4]; decide) (by rw [w_1_4]; decide) (by rw [w_1_4]; decide) (by decide) ?_
    refine lv_aload_n hx hb dX3_byRate_47 rfl (lv_at hl 0 rfl) ?_
    obtain ⟨k_48, hk_48⟩ := xt_at (g := g) (gl := gl) (tf := tf) ha
    refine va_get (D := zD Z) (ci := 3) (v := .int (tf a 1)) (C := RX3) (T := TX3) (N := 5) hx hb hT inlX3 hown hK hP k_48 hk_48 rfl 1 (by decide) (hT _ (tr_13 _ (List.mem_of_getElem? (i := 22) rfl))) (fun _ h9 => h9) rfl dX3_byRate_48 ?_
    refine lv_i2l hx hb dX3_byRate_51 rfl ?_
    refine lv_topl (fun v_51 e_51 => ?_)
    refine lv_iload_n hx hb dX3_byRate_52 rfl (lv_at hl 2 rfl) ?_
    refine lv_aload_n hx hb dX3_byRate_53 rfl (lv_at hl 0 rfl) ?_
    obtain ⟨k_54, hk_54⟩ := xt_at (g := g) (gl := gl) (tf := tf) ha
    refine va_get (D := zD Z) (ci := 3) (v := .int (tf a 3)) (C := RX3) (T := TX3) (N := 5) hx hb hT inlX3 hown hK hP k_54 hk_54 rfl 3 (by decide) (hT _ (tr_14 _ (List.mem_of_getElem? (i := 0) rfl))) (fun _ h9 => h9) rfl dX3_byRate_54 ?_
    refine lv_isub hx hb dX3_byRate_57 ?_
    refine lv_topi (fun v_57 e_57 => ?_)
    refine lv_i2l hx hb dX3_byRate_58 rfl ?_
    refine lv_topl (fun v_58 e_58 => ?_)
    refine lv_lmul hx hb dX3_byRate_59 ?_
    refine lv_topl (fun v_59 e_59 => ?_)
    exact W.lret (v := v_59) hx hb hr (fun t ht hW => ⟨v_59, rfl, (fun h => by unfold oftF; rw [if_neg w_1_1, if_neg w_1_2, if_pos (by first | exact Or.inl w_1_3 | exact Or.inr w_1_4), e_59, e_51, e_58, e_57, sub64 h (hG a ha).1, Int64.mul_comm]), ht⟩) (fun q hq => by cases hq) dX3_byRate_60
  have n_1_1 := ti_nek rfl tk_1 w_1_1
  have n_1_2 := ti_nek rfl tk_2 w_1_2
  have n_1_3 := ti_nek rfl tk_3 w_1_3
  have n_1_4 := ti_nek rfl tk_4 w_1_4
  refine lv_tableOut (tgt := 61) hx hb dX3_byRate_1 (by omega) (by decide) ?_
  refine lv_aload_n hx hb dX3_byRate_61 rfl (lv_at hl 0 rfl) ?_
  obtain ⟨k_62, hk_62⟩ := xt_at (g := g) (gl := gl) (tf := tf) ha
  refine va_get (D := zD Z) (ci := 3) (v := .int (tf a 1)) (C := RX3) (T := TX3) (N := 5) hx hb hT inlX3 hown hK hP k_62 hk_62 rfl 1 (by decide) (hT _ (tr_13 _ (List.mem_of_getElem? (i := 22) rfl))) (fun _ h9 => h9) rfl dX3_byRate_62 ?_
  refine lv_i2l hx hb dX3_byRate_65 rfl ?_
  refine lv_topl (fun v_65 e_65 => ?_)
  refine lv_iload_n hx hb dX3_byRate_66 rfl (lv_at hl 2 rfl) ?_
  refine lv_i2l hx hb dX3_byRate_67 rfl ?_
  refine lv_topl (fun v_67 e_67 => ?_)
  refine lv_lmul hx hb dX3_byRate_68 ?_
  refine lv_topl (fun v_68 e_68 => ?_)
  exact W.lret (v := v_68) hx hb hr (fun t ht hW => ⟨v_68, rfl, (fun h => by unfold oftF; rw [if_neg w_1_1, if_neg w_1_2, if_neg (fun h => h.elim w_1_3 w_1_4), e_68, e_65, e_67, Int64.mul_comm]), ht⟩) (fun q hq => by cases hq) dX3_byRate_69
set_option maxHeartbeats 4000000 in
set_option maxRecDepth 100000 in
theorem c_X3_priceFor (l : Launch) (Z : ZT) (hZ : XG Z) (g : Nat → Nat → Int32) (gl : Nat → Nat → Int64) (tf : Nat → Nat → Int32) (a : Nat) (ha : a ∈ zL Z) (x1 : Int32) (hG : Gd Z tf) : Met l yX3_priceFor (Cond.code yX3_priceFor cX3_priceFor 2 (some .long) :: wsL_law) ({ frames := 2, cells := 0, slots := 0, locals := 43 } : Room) (va_Pc [.ref a, .int x1] (XI Z g gl tf)) (rd_Ql (fun r => ((0 ≤ x1.toInt ∧ x1.toInt ≤ 63) → r = mpF (tf a 0) (tf a 1) (tf a 2) (tf a 3) x1))) 0 0 (fun _ => False) := by
  refine Met.ofW (cc := cX3_priceFor) (maxL := 2) (ret := (some .long)) (by decide) rfl ?_
  intro p e s m args below meth c s₁ B hml hv
  obtain ⟨rfl, hI⟩ := hv
  have hx := B.exec
  have hb := B.bytes
  have hr := B.returns
  have hT : ∀ w ∈ wsL_law, w.before ([.ref a, .int x1] : List Value).toArray s = true := fun w h => atoms_spec (ws := (Cond.code yX3_priceFor cX3_priceFor 2 (some .long) :: wsL_law)) B.pre w (List.mem_cons_of_mem _ h)
  have hown : s.vm.findClass RX3 = some m.cls := findClass_of_methodNamed B.named
  have hlocks := B.notSynchronized
  have hK := hI.2.1
  have hP := hI.1
  have hS : va_S (zA Z) s.heap s.heap [] := va_S.rf
  have hl := lv_entry ([.ref a, .int x1]) (n := 2) (Nat.le_of_ble_eq_true rfl)
  rw [lg_entry_eq]
  generalize (lg_sl ([.ref a, .int x1]) ++ List.replicate (2 - (lg_sl ([.ref a, .int x1])).length) Slot.unset).toArray = ls at hl ⊢
  have hl : lv_has ls 2 [(0, .ref a), (1, .int x1)] := hl
  refine lv_aload_n hx hb dX3_priceFor_0 rfl (lv_at hl 0 rfl) ?_
  refine lv_aload_n hx hb dX3_priceFor_1 rfl (lv_at hl 0 rfl) ?_
  obtain ⟨k_2, hk_2⟩ := xt_at (g := g) (gl := gl) (tf := tf) ha
  refine va_get (D := zD Z) (ci := 3) (v := .int (tf a 0)) (C := RX3) (T := TX3) (N := 5) hx hb hT inlX3 hown hK hP k_2 hk_2 rfl 0 (by decide) (hT _ (tr_13 _ (List.mem_of_getElem? (i := 21) rfl))) (fun _ h9 => h9) rfl dX3_priceFor_2 ?_
  refine lv_iload_n hx hb dX3_priceFor_5 rfl (lv_at hl 1 rfl) ?_
  obtain ⟨k_6, hk_6⟩ := xt_at (g := g) (gl := gl) (tf := tf) ha
  refine rd_cl (va_runV (As := [.int (tf a 0), .int x1]) (rest := []) ⟨hx, hb, hml, hown, hT⟩ (c_X3_byRate l Z hZ g gl tf a ha (tf a 0) x1 hG) (cwV 2 hT (tb_V (fun _ h => h) (tr_16 _ (List.mem_of_getElem? (i := 9) rfl)) (tr_16 _ (List.mem_of_getElem? (i := 10) rfl)) (tr_16 _ (List.mem_of_getElem? (i := 11) rfl)) (tr_2 _ (List.mem_of_getElem? (i := 10) rfl)) (tr_16 _ (List.mem_of_getElem? (i := 12) rfl))) rfl rfl rfl (by decide +kernel) ⟨Nat.le_of_ble_eq_true rfl, Nat.le_of_ble_eq_true rfl⟩) ⟨fun a U f mk q => ⟨q.1, XI.blind f mk a q.2⟩, va_recv hK hP (ci := 3) (q0 := k_6) rfl hk_6, fun U hU hW => ⟨rfl, hI.at hS hP hU hW⟩⟩ rfl rfl hl.1 rfl (lv_room (Nat.le_of_ble_eq_true rfl)) dX3_priceFor_6 ⟨Nat.zero_le _, Nat.zero_le _⟩) (fun r_6 hr_6 => ?_)
  refine lv_aload_n hx hb dX3_priceFor_9 rfl (lv_at hl 0 rfl) ?_
  refine lv_aload_n hx hb dX3_priceFor_10 rfl (lv_at hl 0 rfl) ?_
  obtain ⟨k_11, hk_11⟩ := xt_at (g := g) (gl := gl) (tf := tf) ha
  refine va_get (D := zD Z) (ci := 3) (v := .int (tf a 0)) (C := RX3) (T := TX3) (N := 5) hx hb hT inlX3 hown hK hP k_11 hk_11 rfl 0 (by decide) (hT _ (tr_13 _ (List.mem_of_getElem? (i := 21) rfl))) (fun _ h9 => h9) rfl dX3_priceFor_11 ?_
  obtain ⟨k_14, hk_14⟩ := xt_at (g := g) (gl := gl) (tf := tf) ha
  refine rd_ci (va_runV (As := [.int (tf a 0)]) (rest := [.long r_6]) ⟨hx, hb, hml, hown, hT⟩ (c_X3_byBase l Z hZ g gl tf a ha (tf a 0) hG) (cwV 1 hT (tb_V (fun _ h => h) (tr_16 _ (List.mem_of_getElem? (i := 14) rfl)) (tr_16 _ (List.mem_of_getElem? (i := 15) rfl)) (tr_16 _ (List.mem_of_getElem? (i := 16) rfl)) (tr_2 _ (List.mem_of_getElem? (i := 10) rfl)) (tr_16 _ (List.mem_of_getElem? (i := 17) rfl))) rfl rfl rfl (by decide +kernel) ⟨Nat.le_of_ble_eq_true rfl, Nat.le_of_ble_eq_true rfl⟩) ⟨fun a U f mk q => ⟨q.1, XI.blind f mk a q.2⟩, va_recv hK hP (ci := 3) (q0 := k_14) rfl hk_14, fun U hU hW => ⟨rfl, hI.at hS hP hU hW⟩⟩ rfl rfl hl.1 rfl (lv_room (Nat.le_of_ble_eq_true rfl)) dX3_priceFor_14 ⟨Nat.zero_le _, Nat.zero_le _⟩) (fun r_14 hr_14 => ?_)
  refine lv_i2l hx hb dX3_priceFor_17 rfl ?_
  refine lv_topl (fun v_17 e_17 => ?_)
  refine lv_ladd hx hb dX3_priceFor_18 ?_
  refine lv_topl (fun v_18 e_18 => ?_)
  exact W.lret (v := v_18) hx hb hr (fun t ht hW => ⟨v_18, rfl, (fun h => by unfold mpF; rw [e_18, hr_6 h, e_17, hr_14]), ht⟩) (fun q hq => by cases hq) dX3_priceFor_19
set_option maxHeartbeats 4000000 in
set_option maxRecDepth 100000 in
theorem c_X3_priceAs (l : Launch) (Z : ZT) (hZ : XG Z) (g : Nat → Nat → Int32) (gl : Nat → Nat → Int64) (tf : Nat → Nat → Int32) (a : Nat) (ha : a ∈ zL Z) (x1 : Int32) (x2 : Int32) (hG : Gd Z tf) : Met l yX3_priceAs (Cond.code yX3_priceAs cX3_priceAs 3 (some .long) :: wsL_law) ({ frames := 2, cells := 0, slots := 0, locals := 43 } : Room) (va_Pc [.ref a, .int x1, .int x2] (XI Z g gl tf)) (rd_Ql (fun r => ((0 ≤ x2.toInt ∧ x2.toInt ≤ 63) → r = mpF x1 (tf a 1) (tf a 2) (tf a 3) x2))) 0 0 (fun _ => False) := by
  refine Met.ofW (cc := cX3_priceAs) (maxL := 3) (ret := (some .long)) (by decide) rfl ?_
  intro p e s m args below meth c s₁ B hml hv
  obtain ⟨rfl, hI⟩ := hv
  have hx := B.exec
  have hb := B.bytes
  have hr := B.returns
  have hT : ∀ w ∈ wsL_law, w.before ([.ref a, .int x1, .int x2] : List Value).toArray s = true := fun w h => atoms_spec (ws := (Cond.code yX3_priceAs cX3_priceAs 3 (some .long) :: wsL_law)) B.pre w (List.mem_cons_of_mem _ h)
  have hown : s.vm.findClass RX3 = some m.cls := findClass_of_methodNamed B.named
  have hlocks := B.notSynchronized
  have hK := hI.2.1
  have hP := hI.1
  have hS : va_S (zA Z) s.heap s.heap [] := va_S.rf
  have hl := lv_entry ([.ref a, .int x1, .int x2]) (n := 3) (Nat.le_of_ble_eq_true rfl)
  rw [lg_entry_eq]
  generalize (lg_sl ([.ref a, .int x1, .int x2]) ++ List.replicate (3 - (lg_sl ([.ref a, .int x1, .int x2])).length) Slot.unset).toArray = ls at hl ⊢
  have hl : lv_has ls 3 [(0, .ref a), (1, .int x1), (2, .int x2)] := hl
  refine lv_aload_n hx hb dX3_priceAs_0 rfl (lv_at hl 0 rfl) ?_
  refine lv_iload_n hx hb dX3_priceAs_1 rfl (lv_at hl 1 rfl) ?_
  refine lv_iload_n hx hb dX3_priceAs_2 rfl (lv_at hl 2 rfl) ?_
  obtain ⟨k_3, hk_3⟩ := xt_at (g := g) (gl := gl) (tf := tf) ha
  refine rd_cl (va_runV (As := [.int x1, .int x2]) (rest := []) ⟨hx, hb, hml, hown, hT⟩ (c_X3_byRate l Z hZ g gl tf a ha x1 x2 hG) (cwV 2 hT (tb_V (fun _ h => h) (tr_16 _ (List.mem_of_getElem? (i := 9) rfl)) (tr_16 _ (List.mem_of_getElem? (i := 10) rfl)) (tr_16 _ (List.mem_of_getElem? (i := 11) rfl)) (tr_2 _ (List.mem_of_getElem? (i := 10) rfl)) (tr_16 _ (List.mem_of_getElem? (i := 12) rfl))) rfl rfl rfl (by decide +kernel) ⟨Nat.le_of_ble_eq_true rfl, Nat.le_of_ble_eq_true rfl⟩) ⟨fun a U f mk q => ⟨q.1, XI.blind f mk a q.2⟩, va_recv hK hP (ci := 3) (q0 := k_3) rfl hk_3, fun U hU hW => ⟨rfl, hI.at hS hP hU hW⟩⟩ rfl rfl hl.1 rfl (lv_room (Nat.le_of_ble_eq_true rfl)) dX3_priceAs_3 ⟨Nat.zero_le _, Nat.zero_le _⟩) (fun r_3 hr_3 => ?_)
  refine lv_aload_n hx hb dX3_priceAs_6 rfl (lv_at hl 0 rfl) ?_
  refine lv_iload_n hx hb dX3_priceAs_7 rfl (lv_at hl 1 rfl) ?_
  obtain ⟨k_8, hk_8⟩ := xt_at (g := g) (gl := gl) (tf := tf) ha
  refine rd_ci (va_runV (As := [.int x1]) (rest := [.long r_3]) ⟨hx, hb, hml, hown, hT⟩ (c_X3_byBase l Z hZ g gl tf a ha x1 hG) (cwV 1 hT (tb_V (fun _ h => h) (tr_16 _ (List.mem_of_getElem? (i := 14) rfl)) (tr_16 _ (List.mem_of_getElem? (i := 15) rfl)) (tr_16 _ (List.mem_of_getElem? (i := 16) rfl)) (tr_2 _ (List.mem_of_getElem? (i := 10) rfl)) (tr_16 _ (List.mem_of_getElem? (i := 17) rfl))) rfl rfl rfl (by decide +kernel) ⟨Nat.le_of_ble_eq_true rfl, Nat.le_of_ble_eq_true rfl⟩) ⟨fun a U f mk q => ⟨q.1, XI.blind f mk a q.2⟩, va_recv hK hP (ci := 3) (q0 := k_8) rfl hk_8, fun U hU hW => ⟨rfl, hI.at hS hP hU hW⟩⟩ rfl rfl hl.1 rfl (lv_room (Nat.le_of_ble_eq_true rfl)) dX3_priceAs_8 ⟨Nat.zero_le _, Nat.zero_le _⟩) (fun r_8 hr_8 => ?_)
  refine lv_i2l hx hb dX3_priceAs_11 rfl ?_
  refine lv_topl (fun v_11 e_11 => ?_)
  refine lv_ladd hx hb dX3_priceAs_12 ?_
  refine lv_topl (fun v_12 e_12 => ?_)
  exact W.lret (v := v_12) hx hb hr (fun t ht hW => ⟨v_12, rfl, (fun h => by unfold mpF; rw [e_12, hr_3 h, e_11, hr_8]), ht⟩) (fun q hq => by cases hq) dX3_priceAs_13
set_option maxHeartbeats 4000000 in
set_option maxRecDepth 100000 in
theorem c_X3_fits (l : Launch) (x1 : Int64) : Met l yX3_fits (Cond.code yX3_fits cX3_fits 2 (some .boolean) :: wsL_law) ({ frames := 0, cells := 0, slots := 0, locals := 0 } : Room) (va_Pc [.long x1] (fun _ => True)) (rd_Qi (fun r => (r = 1 ∧ ¬ grL x1) ∨ (r = 0 ∧ grL x1))) 0 0 (fun _ => False) := by
  refine Met.ofW (cc := cX3_fits) (maxL := 2) (ret := (some .boolean)) (by decide) rfl ?_
  intro p e s m args below meth c s₁ B hml hv
  obtain ⟨rfl, hI⟩ := hv
  have hx := B.exec
  have hb := B.bytes
  have hr := B.returns
  have hT : ∀ w ∈ wsL_law, w.before ([.long x1] : List Value).toArray s = true := fun w h => atoms_spec (ws := (Cond.code yX3_fits cX3_fits 2 (some .boolean) :: wsL_law)) B.pre w (List.mem_cons_of_mem _ h)
  have hown : s.vm.findClass RX3 = some m.cls := findClass_of_methodNamed B.named
  have hlocks := B.notSynchronized
  have hl := lv_entry ([.long x1]) (n := 2) (Nat.le_of_ble_eq_true rfl)
  rw [lg_entry_eq]
  generalize (lg_sl ([.long x1]) ++ List.replicate (2 - (lg_sl ([.long x1])).length) Slot.unset).toArray = ls at hl ⊢
  have hl : lv_has ls 2 [(0, .long x1)] := hl
  refine lv_lload_n hx hb dX3_fits_0 rfl (lv_at hl 0 rfl) ?_
  refine lv_ldc2 (v := (-2147483648)) hx hb hown (hT _ (tr_26 _ (List.mem_of_getElem? (i := 20) rfl))) dX3_fits_1 ?_
  refine W.lcmp hx hb dX3_fits_4 ?_
  refine lv_topi (fun v_4 e_4 => ?_)
  refine lv_if_lt (tgt := 20) hx hb dX3_fits_5 (by decide) (fun c_5 => ?_) (fun c_5 => ?_)
  · skip
    have i_5 := ti_ltk rfl tk_0 c_5
    refine lv_iconst (v := 0) hx hb dX3_fits_20 (by decide) ?_
    exact W.zret (v := 0) (ty := .boolean) hx hb hr rfl (fun t ht hW => ⟨0, rfl, Or.inr ⟨rfl, (by (try dsimp only); first | (rw [e_12] at c_13; have q := (lg_cmp_gt x1 2147483647).mp c_13; rw [Int64.lt_iff_toInt_lt, show (2147483647 : Int64).toInt = 2147483647 by decide] at q; exact Or.inr q) | (rw [e_4] at c_5; have q := (lg_cmp_lt x1 (-2147483648)).mp c_5; rw [Int64.lt_iff_toInt_lt, show (-2147483648 : Int64).toInt = -2147483648 by decide] at q; exact Or.inl q))⟩, ht⟩) (fun q hq => by cases hq) dX3_fits_21
  · skip
    have i_5 := ti_nltk rfl tk_0 c_5
    refine lv_lload_n hx hb dX3_fits_8 rfl (lv_at hl 0 rfl) ?_
    refine lv_ldc2 (v := 2147483647) hx hb hown (hT _ (tr_26 _ (List.mem_of_getElem? (i := 21) rfl))) dX3_fits_9 ?_
    refine W.lcmp hx hb dX3_fits_12 ?_
    refine lv_topi (fun v_12 e_12 => ?_)
    refine lv_if_gt (tgt := 20) hx hb dX3_fits_13 (by decide) (fun c_13 => ?_) (fun c_13 => ?_)
    · skip
      have i_13 := ti_ltk tk_0 rfl c_13
      refine lv_iconst (v := 0) hx hb dX3_fits_20 (by decide) ?_
      exact W.zret (v := 0) (ty := .boolean) hx hb hr rfl (fun t ht hW => ⟨0, rfl, Or.inr ⟨rfl, (by (try dsimp only); first | (rw [e_12] at c_13; have q := (lg_cmp_gt x1 2147483647).mp c_13; rw [Int64.lt_iff_toInt_lt, show (2147483647 : Int64).toInt = 2147483647 by decide] at q; exact Or.inr q) | (rw [e_4] at c_5; have q := (lg_cmp_lt x1 (-2147483648)).mp c_5; rw [Int64.lt_iff_toInt_lt, show (-2147483648 : Int64).toInt = -2147483648 by decide] at q; exact Or.inl q))⟩, ht⟩) (fun q hq => by cases hq) dX3_fits_21
    · skip
      have i_13 := ti_nltk tk_0 rfl c_13
      refine lv_iconst (v := 1) hx hb dX3_fits_16 (by decide) ?_
      refine lv_goto (tgt := 21) hx hb dX3_fits_17 (by decide) ?_
      exact W.zret (v := 1) (ty := .boolean) hx hb hr rfl (fun t ht hW => ⟨1, rfl, Or.inl ⟨rfl, (fun h => by unfold grL at h; rw [e_4] at c_5; rw [e_12] at c_13; have q1 : ¬ x1 < -2147483648 := fun z => c_5 ((lg_cmp_lt x1 (-2147483648)).mpr z); have q2 : ¬ 2147483647 < x1 := fun z => c_13 ((lg_cmp_gt x1 2147483647).mpr z); rw [Int64.lt_iff_toInt_lt] at q1; rw [Int64.lt_iff_toInt_lt] at q2; rw [show (-2147483648 : Int64).toInt = -2147483648 by decide] at q1; rw [show (2147483647 : Int64).toInt = 2147483647 by decide] at q2; omega)⟩, ht⟩) (fun q hq => by cases hq) dX3_fits_21
set_option maxHeartbeats 4000000 in
set_option maxRecDepth 100000 in
theorem c_X3_fitsFor (l : Launch) (Z : ZT) (hZ : XG Z) (g : Nat → Nat → Int32) (gl : Nat → Nat → Int64) (tf : Nat → Nat → Int32) (a : Nat) (ha : a ∈ zL Z) (x1 : Int32) (hq : (0 ≤ x1.toInt ∧ x1.toInt ≤ 63)) (hG : Gd Z tf) : Met l yX3_fitsFor (Cond.code yX3_fitsFor cX3_fitsFor 2 (some .boolean) :: wsL_law) ({ frames := 3, cells := 0, slots := 0, locals := 64 } : Room) (va_Pc [.ref a, .int x1] (XI Z g gl tf)) (rd_Qi (fun r => (r = 1 ∧ ¬ (grL (oftF (tf a 0) (tf a 3) x1 * (tf a 1).toInt64) ∨ grL (mpF (tf a 0) (tf a 1) (tf a 2) (tf a 3) x1))) ∨ (r = 0 ∧ (grL (oftF (tf a 0) (tf a 3) x1 * (tf a 1).toInt64) ∨ grL (mpF (tf a 0) (tf a 1) (tf a 2) (tf a 3) x1))))) 0 0 (fun _ => False) := by
  refine Met.ofW (cc := cX3_fitsFor) (maxL := 2) (ret := (some .boolean)) (by decide) rfl ?_
  intro p e s m args below meth c s₁ B hml hv
  obtain ⟨rfl, hI⟩ := hv
  have hx := B.exec
  have hb := B.bytes
  have hr := B.returns
  have hT : ∀ w ∈ wsL_law, w.before ([.ref a, .int x1] : List Value).toArray s = true := fun w h => atoms_spec (ws := (Cond.code yX3_fitsFor cX3_fitsFor 2 (some .boolean) :: wsL_law)) B.pre w (List.mem_cons_of_mem _ h)
  have hown : s.vm.findClass RX3 = some m.cls := findClass_of_methodNamed B.named
  have hlocks := B.notSynchronized
  have hK := hI.2.1
  have hP := hI.1
  have hS : va_S (zA Z) s.heap s.heap [] := va_S.rf
  have hl := lv_entry ([.ref a, .int x1]) (n := 2) (Nat.le_of_ble_eq_true rfl)
  rw [lg_entry_eq]
  generalize (lg_sl ([.ref a, .int x1]) ++ List.replicate (2 - (lg_sl ([.ref a, .int x1])).length) Slot.unset).toArray = ls at hl ⊢
  have hl : lv_has ls 2 [(0, .ref a), (1, .int x1)] := hl
  refine lv_aload_n hx hb dX3_fitsFor_0 rfl (lv_at hl 0 rfl) ?_
  refine lv_aload_n hx hb dX3_fitsFor_1 rfl (lv_at hl 0 rfl) ?_
  obtain ⟨k_2, hk_2⟩ := xt_at (g := g) (gl := gl) (tf := tf) ha
  refine va_get (D := zD Z) (ci := 3) (v := .int (tf a 0)) (C := RX3) (T := TX3) (N := 5) hx hb hT inlX3 hown hK hP k_2 hk_2 rfl 0 (by decide) (hT _ (tr_13 _ (List.mem_of_getElem? (i := 21) rfl))) (fun _ h9 => h9) rfl dX3_fitsFor_2 ?_
  refine lv_iload_n hx hb dX3_fitsFor_5 rfl (lv_at hl 1 rfl) ?_
  obtain ⟨k_6, hk_6⟩ := xt_at (g := g) (gl := gl) (tf := tf) ha
  refine rd_cl (va_runV (As := [.int (tf a 0), .int x1]) (rest := []) ⟨hx, hb, hml, hown, hT⟩ (c_X3_byRate l Z hZ g gl tf a ha (tf a 0) x1 hG) (cwV 2 hT (tb_V (fun _ h => h) (tr_16 _ (List.mem_of_getElem? (i := 9) rfl)) (tr_16 _ (List.mem_of_getElem? (i := 10) rfl)) (tr_16 _ (List.mem_of_getElem? (i := 11) rfl)) (tr_2 _ (List.mem_of_getElem? (i := 10) rfl)) (tr_16 _ (List.mem_of_getElem? (i := 12) rfl))) rfl rfl rfl (by decide +kernel) ⟨Nat.le_of_ble_eq_true rfl, Nat.le_of_ble_eq_true rfl⟩) ⟨fun a U f mk q => ⟨q.1, XI.blind f mk a q.2⟩, va_recv hK hP (ci := 3) (q0 := k_6) rfl hk_6, fun U hU hW => ⟨rfl, hI.at hS hP hU hW⟩⟩ rfl rfl hl.1 rfl (lv_room (Nat.le_of_ble_eq_true rfl)) dX3_fitsFor_6 ⟨Nat.zero_le _, Nat.zero_le _⟩) (fun r_6 hr_6 => ?_)
  refine rd_ci (va_runS (As := [.long r_6]) (rest := []) ⟨hx, hb, hml, hown, hT⟩ (c_X3_fits l r_6) (va_cwS 1 hT (tb_S (fun _ h => h) (tr_26 _ (List.mem_of_getElem? (i := 17) rfl)) (tr_26 _ (List.mem_of_getElem? (i := 18) rfl)) (tr_2 _ (List.mem_of_getElem? (i := 10) rfl)) (tr_26 _ (List.mem_of_getElem? (i := 19) rfl))) rfl rfl rfl (by decide +kernel) ⟨Nat.le_of_ble_eq_true rfl, Nat.le_of_ble_eq_true rfl⟩) ⟨fun _ _ _ _ q => q, fun U hU hW => ⟨rfl, trivial⟩⟩ rfl rfl hl.1 rfl (lv_room (Nat.le_of_ble_eq_true rfl)) dX3_fitsFor_9 ⟨Nat.zero_le _, Nat.zero_le _⟩) (fun r_9 hr_9 => ?_)
  rcases hr_9 with ⟨rfl, b_9⟩ | ⟨rfl, b_9⟩
  · skip
    refine lv_if_eq (tgt := 30) hx hb dX3_fitsFor_12 (by decide) (fun c_12 => absurd c_12 (by decide)) (fun c_12 => ?_)
    refine lv_aload_n hx hb dX3_fitsFor_15 rfl (lv_at hl 0 rfl) ?_
    refine lv_iload_n hx hb dX3_fitsFor_16 rfl (lv_at hl 1 rfl) ?_
    obtain ⟨k_17, hk_17⟩ := xt_at (g := g) (gl := gl) (tf := tf) ha
    refine rd_cl (va_runV (As := [.int x1]) (rest := []) ⟨hx, hb, hml, hown, hT⟩ (c_X3_priceFor l Z hZ g gl tf a ha x1 hG) (cwV 1 hT (tb_V (fun _ h => h) (tr_27 _ (List.mem_of_getElem? (i := 2) rfl)) (tr_16 _ (List.mem_of_getElem? (i := 6) rfl)) (tr_16 _ (List.mem_of_getElem? (i := 7) rfl)) (tr_2 _ (List.mem_of_getElem? (i := 10) rfl)) (tr_16 _ (List.mem_of_getElem? (i := 8) rfl))) rfl rfl rfl (by decide +kernel) ⟨Nat.le_of_ble_eq_true rfl, Nat.le_of_ble_eq_true rfl⟩) ⟨fun a U f mk q => ⟨q.1, XI.blind f mk a q.2⟩, va_recv hK hP (ci := 3) (q0 := k_17) rfl hk_17, fun U hU hW => ⟨rfl, hI.at hS hP hU hW⟩⟩ rfl rfl hl.1 rfl (lv_room (Nat.le_of_ble_eq_true rfl)) dX3_fitsFor_17 ⟨Nat.zero_le _, Nat.zero_le _⟩) (fun r_17 hr_17 => ?_)
    refine rd_ci (va_runS (As := [.long r_17]) (rest := []) ⟨hx, hb, hml, hown, hT⟩ (c_X3_fits l r_17) (va_cwS 1 hT (tb_S (fun _ h => h) (tr_26 _ (List.mem_of_getElem? (i := 17) rfl)) (tr_26 _ (List.mem_of_getElem? (i := 18) rfl)) (tr_2 _ (List.mem_of_getElem? (i := 10) rfl)) (tr_26 _ (List.mem_of_getElem? (i := 19) rfl))) rfl rfl rfl (by decide +kernel) ⟨Nat.le_of_ble_eq_true rfl, Nat.le_of_ble_eq_true rfl⟩) ⟨fun _ _ _ _ q => q, fun U hU hW => ⟨rfl, trivial⟩⟩ rfl rfl hl.1 rfl (lv_room (Nat.le_of_ble_eq_true rfl)) dX3_fitsFor_20 ⟨Nat.zero_le _, Nat.zero_le _⟩) (fun r_20 hr_20 => ?_)
    rcases hr_20 with ⟨rfl, b_20⟩ | ⟨rfl, b_20⟩
    · skip
      refine lv_if_eq (tgt := 30) hx hb dX3_fitsFor_23 (by decide) (fun c_23 => absurd c_23 (by decide)) (fun c_23 => ?_)
      refine lv_iconst (v := 1) hx hb dX3_fitsFor_26 (by decide) ?_
      refine lv_goto (tgt := 31) hx hb dX3_fitsFor_27 (by decide) ?_
      exact W.zret (v := 1) (ty := .boolean) hx hb hr rfl (fun t ht hW => ⟨1, rfl, Or.inl ⟨rfl, (fun h => by rw [hr_6 hq] at b_9; rw [hr_17 hq] at b_20; exact h.elim b_9 b_20)⟩, ht⟩) (fun q hq => by cases hq) dX3_fitsFor_31
    · skip
      refine lv_if_eq (tgt := 30) hx hb dX3_fitsFor_23 (by decide) (fun c_23 => ?_) (fun c_23 => absurd c_23 (by decide))
      refine lv_iconst (v := 0) hx hb dX3_fitsFor_30 (by decide) ?_
      exact W.zret (v := 0) (ty := .boolean) hx hb hr rfl (fun t ht hW => ⟨0, rfl, Or.inr ⟨rfl, (by (try dsimp only); first | (rw [hr_17 hq] at b_20; exact Or.inr b_20) | (rw [hr_6 hq] at b_9; exact Or.inl b_9))⟩, ht⟩) (fun q hq => by cases hq) dX3_fitsFor_31
  · skip
    refine lv_if_eq (tgt := 30) hx hb dX3_fitsFor_12 (by decide) (fun c_12 => ?_) (fun c_12 => absurd c_12 (by decide))
    refine lv_iconst (v := 0) hx hb dX3_fitsFor_30 (by decide) ?_
    exact W.zret (v := 0) (ty := .boolean) hx hb hr rfl (fun t ht hW => ⟨0, rfl, Or.inr ⟨rfl, (by (try dsimp only); first | (rw [hr_17 hq] at b_20; exact Or.inr b_20) | (rw [hr_6 hq] at b_9; exact Or.inl b_9))⟩, ht⟩) (fun q hq => by cases hq) dX3_fitsFor_31
set_option maxHeartbeats 4000000 in
set_option maxRecDepth 100000 in
theorem c_X3_isTooGreat (l : Launch) (Z : ZT) (hZ : XG Z) (g : Nat → Nat → Int32) (gl : Nat → Nat → Int64) (tf : Nat → Nat → Int32) (a : Nat) (ha : a ∈ zL Z) (hG : Gd Z tf) : Met l yX3_isTooGreat (Cond.code yX3_isTooGreat cX3_isTooGreat 2 (some .boolean) :: wsL_law) ({ frames := 4, cells := 0, slots := 0, locals := 85 } : Room) (va_Pc [.ref a] (XI Z g gl tf)) (rd_Qi (fun r => (r = 1 ∧ tgF (tf a 0) (tf a 1) (tf a 2) (tf a 3) (tf a 4)) ∨ (r = 0 ∧ ¬ tgF (tf a 0) (tf a 1) (tf a 2) (tf a 3) (tf a 4)))) 0 0 (fun _ => False) := by
  refine Met.ofW (cc := cX3_isTooGreat) (maxL := 2) (ret := (some .boolean)) (by decide) rfl ?_
  intro p e s m args below meth c s₁ B hml hv
  obtain ⟨rfl, hI⟩ := hv
  have hx := B.exec
  have hb := B.bytes
  have hr := B.returns
  have hT : ∀ w ∈ wsL_law, w.before ([.ref a] : List Value).toArray s = true := fun w h => atoms_spec (ws := (Cond.code yX3_isTooGreat cX3_isTooGreat 2 (some .boolean) :: wsL_law)) B.pre w (List.mem_cons_of_mem _ h)
  have hown : s.vm.findClass RX3 = some m.cls := findClass_of_methodNamed B.named
  have hlocks := B.notSynchronized
  have hK := hI.2.1
  have hP := hI.1
  have hS : va_S (zA Z) s.heap s.heap [] := va_S.rf
  have hl := lv_entry ([.ref a]) (n := 2) (Nat.le_of_ble_eq_true rfl)
  rw [lg_entry_eq]
  generalize (lg_sl ([.ref a]) ++ List.replicate (2 - (lg_sl ([.ref a])).length) Slot.unset).toArray = ls at hl ⊢
  have hl : lv_has ls 2 [(0, .ref a)] := hl
  refine lv_aload_n hx hb dX3_isTooGreat_0 rfl (lv_at hl 0 rfl) ?_
  obtain ⟨k_1, hk_1⟩ := xt_at (g := g) (gl := gl) (tf := tf) ha
  refine va_get (D := zD Z) (ci := 3) (v := .int (tf a 0)) (C := RX3) (T := TX3) (N := 5) hx hb hT inlX3 hown hK hP k_1 hk_1 rfl 0 (by decide) (hT _ (tr_13 _ (List.mem_of_getElem? (i := 21) rfl))) (fun _ h9 => h9) rfl dX3_isTooGreat_1 ?_
  refine lv_iconst (v := 2) hx hb dX3_isTooGreat_4 (by decide) ?_
  refine lv_icmp_ne (tgt := 23) hx hb dX3_isTooGreat_5 (by decide) (fun c_5 => ?_) (fun c_5 => ?_)
  · skip
    have i_5 := ti_nek rfl tk_2 c_5
    refine lv_iconst (v := 1) hx hb dX3_isTooGreat_23 (by decide) ?_
    refine lv_goto (tgt := 28) hx hb dX3_isTooGreat_24 (by decide) ?_
    refine lv_istore_n (lv' := [(1, .int 1), (0, .ref a)]) hx hb dX3_isTooGreat_28 rfl hl (by decide) rfl (fun ls hl => ?_)
    refine lv_iload_n hx hb dX3_isTooGreat_29 rfl (lv_at hl 0 rfl) ?_
    refine lv_if_eq (tgt := 55) hx hb dX3_isTooGreat_30 (by decide) (fun c_30 => absurd c_30 (by decide)) (fun c_30 => ?_)
    refine lv_aload_n hx hb dX3_isTooGreat_33 rfl (lv_at hl 1 rfl) ?_
    refine lv_aload_n hx hb dX3_isTooGreat_34 rfl (lv_at hl 1 rfl) ?_
    obtain ⟨k_35, hk_35⟩ := xt_at (g := g) (gl := gl) (tf := tf) ha
    refine va_get (D := zD Z) (ci := 3) (v := .int (tf a 3)) (C := RX3) (T := TX3) (N := 5) hx hb hT inlX3 hown hK hP k_35 hk_35 rfl 3 (by decide) (hT _ (tr_14 _ (List.mem_of_getElem? (i := 0) rfl))) (fun _ h9 => h9) rfl dX3_isTooGreat_35 ?_
    obtain ⟨k_38, hk_38⟩ := xt_at (g := g) (gl := gl) (tf := tf) ha
    refine rd_ci (va_runV (As := [.int (tf a 3)]) (rest := []) ⟨hx, hb, hml, hown, hT⟩ (c_X3_fitsFor l Z hZ g gl tf a ha (tf a 3) (hG a ha).1 hG) (cwV 1 hT (tb_V (fun _ h => h) (tr_26 _ (List.mem_of_getElem? (i := 22) rfl)) (tr_26 _ (List.mem_of_getElem? (i := 23) rfl)) (tr_27 _ (List.mem_of_getElem? (i := 0) rfl)) (tr_2 _ (List.mem_of_getElem? (i := 10) rfl)) (tr_27 _ (List.mem_of_getElem? (i := 1) rfl))) rfl rfl rfl (by decide +kernel) ⟨Nat.le_of_ble_eq_true rfl, Nat.le_of_ble_eq_true rfl⟩) ⟨fun a U f mk q => ⟨q.1, XI.blind f mk a q.2⟩, va_recv hK hP (ci := 3) (q0 := k_38) rfl hk_38, fun U hU hW => ⟨rfl, hI.at hS hP hU hW⟩⟩ rfl rfl hl.1 rfl (lv_room (Nat.le_of_ble_eq_true rfl)) dX3_isTooGreat_38 ⟨Nat.zero_le _, Nat.zero_le _⟩) (fun r_38 hr_38 => ?_)
    rcases hr_38 with ⟨rfl, b_38⟩ | ⟨rfl, b_38⟩
    · skip
      refine lv_if_eq (tgt := 55) hx hb dX3_isTooGreat_41 (by decide) (fun c_41 => absurd c_41 (by decide)) (fun c_41 => ?_)
      refine lv_aload_n hx hb dX3_isTooGreat_44 rfl (lv_at hl 1 rfl) ?_
      refine lv_aload_n hx hb dX3_isTooGreat_45 rfl (lv_at hl 1 rfl) ?_
      obtain ⟨k_46, hk_46⟩ := xt_at (g := g) (gl := gl) (tf := tf) ha
      refine va_get (D := zD Z) (ci := 3) (v := .int (tf a 4)) (C := RX3) (T := TX3) (N := 5) hx hb hT inlX3 hown hK hP k_46 hk_46 rfl 4 (by decide) (hT _ (tr_14 _ (List.mem_of_getElem? (i := 1) rfl))) (fun _ h9 => h9) rfl dX3_isTooGreat_46 ?_
      obtain ⟨k_49, hk_49⟩ := xt_at (g := g) (gl := gl) (tf := tf) ha
      refine rd_ci (va_runV (As := [.int (tf a 4)]) (rest := []) ⟨hx, hb, hml, hown, hT⟩ (c_X3_fitsFor l Z hZ g gl tf a ha (tf a 4) (hG a ha).2 hG) (cwV 1 hT (tb_V (fun _ h => h) (tr_26 _ (List.mem_of_getElem? (i := 22) rfl)) (tr_26 _ (List.mem_of_getElem? (i := 23) rfl)) (tr_27 _ (List.mem_of_getElem? (i := 0) rfl)) (tr_2 _ (List.mem_of_getElem? (i := 10) rfl)) (tr_27 _ (List.mem_of_getElem? (i := 1) rfl))) rfl rfl rfl (by decide +kernel) ⟨Nat.le_of_ble_eq_true rfl, Nat.le_of_ble_eq_true rfl⟩) ⟨fun a U f mk q => ⟨q.1, XI.blind f mk a q.2⟩, va_recv hK hP (ci := 3) (q0 := k_49) rfl hk_49, fun U hU hW => ⟨rfl, hI.at hS hP hU hW⟩⟩ rfl rfl hl.1 rfl (lv_room (Nat.le_of_ble_eq_true rfl)) dX3_isTooGreat_49 ⟨Nat.zero_le _, Nat.zero_le _⟩) (fun r_49 hr_49 => ?_)
      rcases hr_49 with ⟨rfl, b_49⟩ | ⟨rfl, b_49⟩
      · skip
        refine lv_if_ne (tgt := 59) hx hb dX3_isTooGreat_52 (by decide) (fun c_52 => ?_) (fun c_52 => absurd c_52 (by decide))
        refine lv_iconst (v := 0) hx hb dX3_isTooGreat_59 (by decide) ?_
        exact W.zret (v := 0) (ty := .boolean) hx hb hr rfl (fun t ht hW => ⟨0, rfl, Or.inr ⟨rfl, (fun h => by rcases h with h | h | h | h | h; exact c_5 h.1; exact b_38 (Or.inl h); exact b_49 (Or.inl h); exact b_38 (Or.inr h); exact b_49 (Or.inr h))⟩, ht⟩) (fun q hq => by cases hq) dX3_isTooGreat_60
      · skip
        refine lv_if_ne (tgt := 59) hx hb dX3_isTooGreat_52 (by decide) (fun c_52 => absurd c_52 (by decide)) (fun c_52 => ?_)
        refine lv_iconst (v := 1) hx hb dX3_isTooGreat_55 (by decide) ?_
        refine lv_goto (tgt := 60) hx hb dX3_isTooGreat_56 (by decide) ?_
        exact W.zret (v := 1) (ty := .boolean) hx hb hr rfl (fun t ht hW => ⟨1, rfl, Or.inl ⟨rfl, (by (try dsimp only); rcases b_49 with h | h; exact Or.inr (Or.inr (Or.inl h)); exact Or.inr (Or.inr (Or.inr (Or.inr h))))⟩, ht⟩) (fun q hq => by cases hq) dX3_isTooGreat_60
    · skip
      refine lv_if_eq (tgt := 55) hx hb dX3_isTooGreat_41 (by decide) (fun c_41 => ?_) (fun c_41 => absurd c_41 (by decide))
      refine lv_iconst (v := 1) hx hb dX3_isTooGreat_55 (by decide) ?_
      refine lv_goto (tgt := 60) hx hb dX3_isTooGreat_56 (by decide) ?_
      exact W.zret (v := 1) (ty := .boolean) hx hb hr rfl (fun t ht hW => ⟨1, rfl, Or.inl ⟨rfl, (by (try dsimp only); rcases b_38 with h | h; exact Or.inr (Or.inl h); exact Or.inr (Or.inr (Or.inr (Or.inl h))))⟩, ht⟩) (fun q hq => by cases hq) dX3_isTooGreat_60
  · skip
    have i_5 := ti_eqk rfl tk_2 c_5
    refine lv_ldc2 (v := 2) hx hb hown (hT _ (tr_16 _ (List.mem_of_getElem? (i := 13) rfl))) dX3_isTooGreat_8 ?_
    refine lv_aload_n hx hb dX3_isTooGreat_11 rfl (lv_at hl 0 rfl) ?_
    obtain ⟨k_12, hk_12⟩ := xt_at (g := g) (gl := gl) (tf := tf) ha
    refine va_get (D := zD Z) (ci := 3) (v := .int (tf a 1)) (C := RX3) (T := TX3) (N := 5) hx hb hT inlX3 hown hK hP k_12 hk_12 rfl 1 (by decide) (hT _ (tr_13 _ (List.mem_of_getElem? (i := 22) rfl))) (fun _ h9 => h9) rfl dX3_isTooGreat_12 ?_
    refine lv_i2l hx hb dX3_isTooGreat_15 rfl ?_
    refine lv_topl (fun v_15 e_15 => ?_)
    refine lv_lmul hx hb dX3_isTooGreat_16 ?_
    refine lv_topl (fun v_16 e_16 => ?_)
    refine rd_ci (va_runS (As := [.long v_16]) (rest := []) ⟨hx, hb, hml, hown, hT⟩ (c_X3_fits l v_16) (va_cwS 1 hT (tb_S (fun _ h => h) (tr_26 _ (List.mem_of_getElem? (i := 17) rfl)) (tr_26 _ (List.mem_of_getElem? (i := 18) rfl)) (tr_2 _ (List.mem_of_getElem? (i := 10) rfl)) (tr_26 _ (List.mem_of_getElem? (i := 19) rfl))) rfl rfl rfl (by decide +kernel) ⟨Nat.le_of_ble_eq_true rfl, Nat.le_of_ble_eq_true rfl⟩) ⟨fun _ _ _ _ q => q, fun U hU hW => ⟨rfl, trivial⟩⟩ rfl rfl hl.1 rfl (lv_room (Nat.le_of_ble_eq_true rfl)) dX3_isTooGreat_17 ⟨Nat.zero_le _, Nat.zero_le _⟩) (fun r_17 hr_17 => ?_)
    rcases hr_17 with ⟨rfl, b_17⟩ | ⟨rfl, b_17⟩
    · skip
      refine lv_if_eq (tgt := 27) hx hb dX3_isTooGreat_20 (by decide) (fun c_20 => absurd c_20 (by decide)) (fun c_20 => ?_)
      refine lv_iconst (v := 1) hx hb dX3_isTooGreat_23 (by decide) ?_
      refine lv_goto (tgt := 28) hx hb dX3_isTooGreat_24 (by decide) ?_
      refine lv_istore_n (lv' := [(1, .int 1), (0, .ref a)]) hx hb dX3_isTooGreat_28 rfl hl (by decide) rfl (fun ls hl => ?_)
      refine lv_iload_n hx hb dX3_isTooGreat_29 rfl (lv_at hl 0 rfl) ?_
      refine lv_if_eq (tgt := 55) hx hb dX3_isTooGreat_30 (by decide) (fun c_30 => absurd c_30 (by decide)) (fun c_30 => ?_)
      refine lv_aload_n hx hb dX3_isTooGreat_33 rfl (lv_at hl 1 rfl) ?_
      refine lv_aload_n hx hb dX3_isTooGreat_34 rfl (lv_at hl 1 rfl) ?_
      obtain ⟨k_35, hk_35⟩ := xt_at (g := g) (gl := gl) (tf := tf) ha
      refine va_get (D := zD Z) (ci := 3) (v := .int (tf a 3)) (C := RX3) (T := TX3) (N := 5) hx hb hT inlX3 hown hK hP k_35 hk_35 rfl 3 (by decide) (hT _ (tr_14 _ (List.mem_of_getElem? (i := 0) rfl))) (fun _ h9 => h9) rfl dX3_isTooGreat_35 ?_
      obtain ⟨k_38, hk_38⟩ := xt_at (g := g) (gl := gl) (tf := tf) ha
      refine rd_ci (va_runV (As := [.int (tf a 3)]) (rest := []) ⟨hx, hb, hml, hown, hT⟩ (c_X3_fitsFor l Z hZ g gl tf a ha (tf a 3) (hG a ha).1 hG) (cwV 1 hT (tb_V (fun _ h => h) (tr_26 _ (List.mem_of_getElem? (i := 22) rfl)) (tr_26 _ (List.mem_of_getElem? (i := 23) rfl)) (tr_27 _ (List.mem_of_getElem? (i := 0) rfl)) (tr_2 _ (List.mem_of_getElem? (i := 10) rfl)) (tr_27 _ (List.mem_of_getElem? (i := 1) rfl))) rfl rfl rfl (by decide +kernel) ⟨Nat.le_of_ble_eq_true rfl, Nat.le_of_ble_eq_true rfl⟩) ⟨fun a U f mk q => ⟨q.1, XI.blind f mk a q.2⟩, va_recv hK hP (ci := 3) (q0 := k_38) rfl hk_38, fun U hU hW => ⟨rfl, hI.at hS hP hU hW⟩⟩ rfl rfl hl.1 rfl (lv_room (Nat.le_of_ble_eq_true rfl)) dX3_isTooGreat_38 ⟨Nat.zero_le _, Nat.zero_le _⟩) (fun r_38 hr_38 => ?_)
      rcases hr_38 with ⟨rfl, b_38⟩ | ⟨rfl, b_38⟩
      · skip
        refine lv_if_eq (tgt := 55) hx hb dX3_isTooGreat_41 (by decide) (fun c_41 => absurd c_41 (by decide)) (fun c_41 => ?_)
        refine lv_aload_n hx hb dX3_isTooGreat_44 rfl (lv_at hl 1 rfl) ?_
        refine lv_aload_n hx hb dX3_isTooGreat_45 rfl (lv_at hl 1 rfl) ?_
        obtain ⟨k_46, hk_46⟩ := xt_at (g := g) (gl := gl) (tf := tf) ha
        refine va_get (D := zD Z) (ci := 3) (v := .int (tf a 4)) (C := RX3) (T := TX3) (N := 5) hx hb hT inlX3 hown hK hP k_46 hk_46 rfl 4 (by decide) (hT _ (tr_14 _ (List.mem_of_getElem? (i := 1) rfl))) (fun _ h9 => h9) rfl dX3_isTooGreat_46 ?_
        obtain ⟨k_49, hk_49⟩ := xt_at (g := g) (gl := gl) (tf := tf) ha
        refine rd_ci (va_runV (As := [.int (tf a 4)]) (rest := []) ⟨hx, hb, hml, hown, hT⟩ (c_X3_fitsFor l Z hZ g gl tf a ha (tf a 4) (hG a ha).2 hG) (cwV 1 hT (tb_V (fun _ h => h) (tr_26 _ (List.mem_of_getElem? (i := 22) rfl)) (tr_26 _ (List.mem_of_getElem? (i := 23) rfl)) (tr_27 _ (List.mem_of_getElem? (i := 0) rfl)) (tr_2 _ (List.mem_of_getElem? (i := 10) rfl)) (tr_27 _ (List.mem_of_getElem? (i := 1) rfl))) rfl rfl rfl (by decide +kernel) ⟨Nat.le_of_ble_eq_true rfl, Nat.le_of_ble_eq_true rfl⟩) ⟨fun a U f mk q => ⟨q.1, XI.blind f mk a q.2⟩, va_recv hK hP (ci := 3) (q0 := k_49) rfl hk_49, fun U hU hW => ⟨rfl, hI.at hS hP hU hW⟩⟩ rfl rfl hl.1 rfl (lv_room (Nat.le_of_ble_eq_true rfl)) dX3_isTooGreat_49 ⟨Nat.zero_le _, Nat.zero_le _⟩) (fun r_49 hr_49 => ?_)
        rcases hr_49 with ⟨rfl, b_49⟩ | ⟨rfl, b_49⟩
        · skip
          refine lv_if_ne (tgt := 59) hx hb dX3_isTooGreat_52 (by decide) (fun c_52 => ?_) (fun c_52 => absurd c_52 (by decide))
          refine lv_iconst (v := 0) hx hb dX3_isTooGreat_59 (by decide) ?_
          exact W.zret (v := 0) (ty := .boolean) hx hb hr rfl (fun t ht hW => ⟨0, rfl, Or.inr ⟨rfl, (fun h => by rcases h with h | h | h | h | h; (rw [e_16, e_15] at b_17; exact b_17 h.2); exact b_38 (Or.inl h); exact b_49 (Or.inl h); exact b_38 (Or.inr h); exact b_49 (Or.inr h))⟩, ht⟩) (fun q hq => by cases hq) dX3_isTooGreat_60
        · skip
          refine lv_if_ne (tgt := 59) hx hb dX3_isTooGreat_52 (by decide) (fun c_52 => absurd c_52 (by decide)) (fun c_52 => ?_)
          refine lv_iconst (v := 1) hx hb dX3_isTooGreat_55 (by decide) ?_
          refine lv_goto (tgt := 60) hx hb dX3_isTooGreat_56 (by decide) ?_
          exact W.zret (v := 1) (ty := .boolean) hx hb hr rfl (fun t ht hW => ⟨1, rfl, Or.inl ⟨rfl, (by (try dsimp only); rcases b_49 with h | h; exact Or.inr (Or.inr (Or.inl h)); exact Or.inr (Or.inr (Or.inr (Or.inr h))))⟩, ht⟩) (fun q hq => by cases hq) dX3_isTooGreat_60
      · skip
        refine lv_if_eq (tgt := 55) hx hb dX3_isTooGreat_41 (by decide) (fun c_41 => ?_) (fun c_41 => absurd c_41 (by decide))
        refine lv_iconst (v := 1) hx hb dX3_isTooGreat_55 (by decide) ?_
        refine lv_goto (tgt := 60) hx hb dX3_isTooGreat_56 (by decide) ?_
        exact W.zret (v := 1) (ty := .boolean) hx hb hr rfl (fun t ht hW => ⟨1, rfl, Or.inl ⟨rfl, (by (try dsimp only); rcases b_38 with h | h; exact Or.inr (Or.inl h); exact Or.inr (Or.inr (Or.inr (Or.inl h))))⟩, ht⟩) (fun q hq => by cases hq) dX3_isTooGreat_60
    · skip
      refine lv_if_eq (tgt := 27) hx hb dX3_isTooGreat_20 (by decide) (fun c_20 => ?_) (fun c_20 => absurd c_20 (by decide))
      refine lv_iconst (v := 0) hx hb dX3_isTooGreat_27 (by decide) ?_
      refine lv_istore_n (lv' := [(1, .int 0), (0, .ref a)]) hx hb dX3_isTooGreat_28 rfl hl (by decide) rfl (fun ls hl => ?_)
      refine lv_iload_n hx hb dX3_isTooGreat_29 rfl (lv_at hl 0 rfl) ?_
      refine lv_if_eq (tgt := 55) hx hb dX3_isTooGreat_30 (by decide) (fun c_30 => ?_) (fun c_30 => absurd c_30 (by decide))
      refine lv_iconst (v := 1) hx hb dX3_isTooGreat_55 (by decide) ?_
      refine lv_goto (tgt := 60) hx hb dX3_isTooGreat_56 (by decide) ?_
      exact W.zret (v := 1) (ty := .boolean) hx hb hr rfl (fun t ht hW => ⟨1, rfl, Or.inl ⟨rfl, (Or.inl ⟨c_5, by rw [e_16, e_15] at b_17; exact b_17⟩)⟩, ht⟩) (fun q hq => by cases hq) dX3_isTooGreat_60
