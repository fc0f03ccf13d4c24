/-! the tree of nodes: quantities below 64, nodes 1 to 127, as whole numbers -/
def fiN (v : Nat) : Nat := if 64 ≤ v then v - 64 else if 32 ≤ v then 2 * v - 64 else if 16 ≤ v then 4 * v - 64 else if 8 ≤ v then 8 * v - 64 else if 4 ≤ v then 16 * v - 64 else if 2 ≤ v then 32 * v - 64 else 0
def laN (v : Nat) : Nat := if 64 ≤ v then v - 64 else if 32 ≤ v then 2 * v - 63 else if 16 ≤ v then 4 * v - 61 else if 8 ≤ v then 8 * v - 57 else if 4 ≤ v then 16 * v - 49 else if 2 ≤ v then 32 * v - 33 else 63
def miN (v : Nat) : Nat := if 64 ≤ v then v - 64 else if 32 ≤ v then 2 * v - 64 else if 16 ≤ v then 4 * v - 63 else if 8 ≤ v then 8 * v - 61 else if 4 ≤ v then 16 * v - 57 else if 2 ≤ v then 32 * v - 49 else 31
theorem nd_cases {v : Nat} (h : 1 ≤ v) : 64 ≤ v ∨ (32 ≤ v ∧ v < 64) ∨ (16 ≤ v ∧ v < 32) ∨ (8 ≤ v ∧ v < 16) ∨ (4 ≤ v ∧ v < 8) ∨ (2 ≤ v ∧ v < 4) ∨ v = 1 := by omega
theorem nd_v {v : Nat} (h : 1 ≤ v) : (64 ≤ v ∧ fiN v = v - 64 ∧ laN v = v - 64 ∧ miN v = v - 64) ∨ (32 ≤ v ∧ v < 64 ∧ fiN v = 2 * v - 64 ∧ laN v = 2 * v - 63 ∧ miN v = 2 * v - 64) ∨ (16 ≤ v ∧ v < 32 ∧ fiN v = 4 * v - 64 ∧ laN v = 4 * v - 61 ∧ miN v = 4 * v - 63) ∨ (8 ≤ v ∧ v < 16 ∧ fiN v = 8 * v - 64 ∧ laN v = 8 * v - 57 ∧ miN v = 8 * v - 61) ∨ (4 ≤ v ∧ v < 8 ∧ fiN v = 16 * v - 64 ∧ laN v = 16 * v - 49 ∧ miN v = 16 * v - 57) ∨ (2 ≤ v ∧ v < 4 ∧ fiN v = 32 * v - 64 ∧ laN v = 32 * v - 33 ∧ miN v = 32 * v - 49) ∨ (v = 1 ∧ fiN v = 0 ∧ laN v = 63 ∧ miN v = 31) := by
  rcases nd_cases h with z | z | z | z | z | z | z
  · exact Or.inl ⟨z, by unfold fiN; rw [if_pos (by omega)], by unfold laN; rw [if_pos (by omega)], by unfold miN; rw [if_pos (by omega)]⟩
  · exact Or.inr (Or.inl ⟨z.1, z.2, by unfold fiN; rw [if_neg (by omega), if_pos (by omega)], by unfold laN; rw [if_neg (by omega), if_pos (by omega)], by unfold miN; rw [if_neg (by omega), if_pos (by omega)]⟩)
  · exact Or.inr (Or.inr (Or.inl ⟨z.1, z.2, by unfold fiN; rw [if_neg (by omega), if_neg (by omega), if_pos (by omega)], by unfold laN; rw [if_neg (by omega), if_neg (by omega), if_pos (by omega)], by unfold miN; rw [if_neg (by omega), if_neg (by omega), if_pos (by omega)]⟩))
  · exact Or.inr (Or.inr (Or.inr (Or.inl ⟨z.1, z.2, by unfold fiN; rw [if_neg (by omega), if_neg (by omega), if_neg (by omega), if_pos (by omega)], by unfold laN; rw [if_neg (by omega), if_neg (by omega), if_neg (by omega), if_pos (by omega)], by unfold miN; rw [if_neg (by omega), if_neg (by omega), if_neg (by omega), if_pos (by omega)]⟩)))
  · exact Or.inr (Or.inr (Or.inr (Or.inr (Or.inl ⟨z.1, z.2, by unfold fiN; rw [if_neg (by omega), if_neg (by omega), if_neg (by omega), if_neg (by omega), if_pos (by omega)], by unfold laN; rw [if_neg (by omega), if_neg (by omega), if_neg (by omega), if_neg (by omega), if_pos (by omega)], by unfold miN; rw [if_neg (by omega), if_neg (by omega), if_neg (by omega), if_neg (by omega), if_pos (by omega)]⟩))))
  · exact Or.inr (Or.inr (Or.inr (Or.inr (Or.inr (Or.inl ⟨z.1, z.2, by unfold fiN; rw [if_neg (by omega), if_neg (by omega), if_neg (by omega), if_neg (by omega), if_neg (by omega), if_pos (by omega)], by unfold laN; rw [if_neg (by omega), if_neg (by omega), if_neg (by omega), if_neg (by omega), if_neg (by omega), if_pos (by omega)], by unfold miN; rw [if_neg (by omega), if_neg (by omega), if_neg (by omega), if_neg (by omega), if_neg (by omega), if_pos (by omega)]⟩)))))
  · exact Or.inr (Or.inr (Or.inr (Or.inr (Or.inr (Or.inr (⟨z, by unfold fiN; rw [if_neg (by omega), if_neg (by omega), if_neg (by omega), if_neg (by omega), if_neg (by omega), if_neg (by omega)], by unfold laN; rw [if_neg (by omega), if_neg (by omega), if_neg (by omega), if_neg (by omega), if_neg (by omega), if_neg (by omega)], by unfold miN; rw [if_neg (by omega), if_neg (by omega), if_neg (by omega), if_neg (by omega), if_neg (by omega), if_neg (by omega)]⟩))))))
theorem nd_le {v : Nat} (h : 1 ≤ v) (h2 : v ≤ 127) : fiN v ≤ miN v ∧ miN v ≤ laN v ∧ laN v ≤ 63 := by
  have q := nd_v h; omega
theorem nd_l {v : Nat} (h : 1 ≤ v) (h2 : v ≤ 63) : fiN (2 * v) = fiN v ∧ laN (2 * v) = miN v ∧ miN v < laN v := by
  have q := nd_v h; have q2 := nd_v (v := 2 * v) (by omega); omega
theorem nd_r {v : Nat} (h : 1 ≤ v) (h2 : v ≤ 63) : fiN (2 * v + 1) = miN v + 1 ∧ laN (2 * v + 1) = laN v := by
  have q := nd_v h; have q2 := nd_v (v := 2 * v + 1) (by omega); omega
theorem nd_leaf {v : Nat} (h : 64 ≤ v) : fiN v = miN v ∧ laN v = miN v ∧ miN v = v - 64 := by
  have q := nd_v (v := v) (by omega); omega
theorem firP_N {v : Nat} (h : 1 ≤ v) (h2 : v ≤ 127) : firP (v : Int) = (fiN v : Int) := by
  have q := nd_v h; unfold firP; omega
theorem lasP_N {v : Nat} (h : 1 ≤ v) (h2 : v ≤ 127) : lasP (v : Int) = (laN v : Int) := by
  have q := nd_v h; unfold lasP firP lenP; omega
/-- whole numbers of prices -/
theorem l_mul {o c : Int64} {r : Int32} (ho : -128 ≤ o.toInt ∧ o.toInt ≤ 128) (hc : -2147483648 ≤ c.toInt ∧ c.toInt ≤ 2147483647) : (o * r.toInt64 + c).toInt = o.toInt * r.toInt + c.toInt := by
  have rg := ti_rng r
  have m1 : (o.toInt * r.toInt).natAbs ≤ 128 * 2147483648 := by
    rw [Int.natAbs_mul]; exact Nat.mul_le_mul (by omega) (by omega)
  have m2 : (o * r.toInt64).toInt = o.toInt * r.toInt := by
    rw [Int64.toInt_mul, Int32.toInt_toInt64]
    generalize o.toInt * r.toInt = z at m1
    exact Int.bmod_eq_of_le (by omega) (by omega)
  rw [Int64.toInt_add, m2]
  generalize o.toInt * r.toInt = z at m1
  exact Int.bmod_eq_of_le (by omega) (by omega)
theorem q_l {q : Nat} (h : q < 64) : (nI q).toInt64.toInt = q := by rw [Int32.toInt_toInt64, nI_toInt (by omega)]
theorem ab_rng (k b : Int32) : -2147483648 ≤ (abF k b).toInt ∧ (abF k b).toInt ≤ 2147483647 := by
  unfold abF
  split
  · rw [Int32.toInt_toInt64]; have z := ti_rng (b >>> (1 &&& 31)); omega
  · rw [Int32.toInt_toInt64]; have z := ti_rng b; omega
theorem oft_lin {k f : Int32} (hf : 0 ≤ f.toInt ∧ f.toInt ≤ 63) : ∃ A B : Int, ∀ q : Nat, q < 64 → (oftF k f (nI q)).toInt = A * q + B ∧ (-128 ≤ (oftF k f (nI q)).toInt ∧ (oftF k f (nI q)).toInt ≤ 128) := by
  by_cases k1 : k = 1
  · refine ⟨0, 0, fun q hq => ?_⟩
    unfold oftF; rw [if_pos k1, show (0 : Int64).toInt = 0 by decide]; omega
  by_cases k2 : k = 2
  · refine ⟨2, 0, fun q hq => ?_⟩
    unfold oftF; rw [if_neg k1, if_pos k2, Int64.toInt_mul, q_l hq, show (2 : Int64).toInt = 2 by decide, Int.bmod_eq_of_le (by omega) (by omega)]; omega
  by_cases k3 : k = 3 ∨ k = 4
  · refine ⟨1, - f.toInt, fun q hq => ?_⟩
    unfold oftF; rw [if_neg k1, if_neg k2, if_pos k3, Int64.toInt_sub, q_l hq, Int32.toInt_toInt64, Int.bmod_eq_of_le (by omega) (by omega)]; omega
  · refine ⟨1, 0, fun q hq => ?_⟩
    unfold oftF; rw [if_neg k1, if_neg k2, if_neg k3, q_l hq]; omega
theorem mp_lin {k r b f : Int32} (hf : 0 ≤ f.toInt ∧ f.toInt ≤ 63) : ∃ A B : Int, ∀ q : Nat, q < 64 → (mpF k r b f (nI q)).toInt = A * q + B := by
  obtain ⟨A, B, h⟩ := oft_lin (k := k) hf
  refine ⟨A * r.toInt, B * r.toInt + (abF k b).toInt, fun q hq => ?_⟩
  obtain ⟨h1, h2⟩ := h q hq
  unfold mpF
  rw [l_mul h2 (ab_rng k b), h1, Int.add_mul, Int.mul_assoc, Int.mul_comm (q : Int) r.toInt, ← Int.mul_assoc, Int.add_assoc]
theorem lin_nn {E F x y z c : Int} (h1 : c ≤ E * x + F) (h2 : c ≤ E * z + F) (xy : x ≤ y) (yz : y ≤ z) : c ≤ E * y + F := by
  rcases Int.lt_or_le E 0 with e | e
  · have q := Int.mul_le_mul_of_nonneg_left yz (show 0 ≤ - E by omega); rw [Int.neg_mul, Int.neg_mul] at q; omega
  · have q := Int.mul_le_mul_of_nonneg_left xy e; omega
section BT
variable {R : Nat → Nat → Int32} {a b c : Int32}
theorem mbt_iff {q : Int32} : mbt R a b q = true ↔ ((mpr R a.toNatClampNeg q).toInt < (mpr R b.toNatClampNeg q).toInt ∨ ((mpr R a.toNatClampNeg q).toInt = (mpr R b.toNatClampNeg q).toInt ∧ a.toInt < b.toInt)) := by
  simp only [mbt, Bool.or_eq_true, Bool.and_eq_true, decide_eq_true_eq, Int64.lt_iff_toInt_lt, Int32.lt_iff_toInt_lt, Int64.toInt_inj]
/-- a is better than b for q -/
def bt (R : Nat → Nat → Int32) (a b : Int32) (q : Nat) : Prop := mbt R a b (nI q) = true
theorem bt_tr {q : Nat} (h : bt R a b q) (h2 : bt R b c q) : bt R a c q := by
  unfold bt at h h2 ⊢; rw [mbt_iff] at h h2 ⊢; omega
theorem bt_as {q : Nat} (h : bt R a b q) : ¬ bt R b a q := by
  unfold bt at h ⊢; rw [mbt_iff] at h ⊢; omega
theorem bt_ir {q : Nat} : ¬ bt R a a q := fun h => bt_as h h
theorem bt_to {q : Nat} (n : ¬ a = b) (h : ¬ bt R a b q) : bt R b a q := by
  have n2 : ¬ a.toInt = b.toInt := fun z => n (Int32.toInt_inj.mp z)
  unfold bt at h ⊢; rw [mbt_iff] at h ⊢; omega
theorem bt_or {q : Nat} (h : ¬ bt R a b q) : b = a ∨ bt R b a q := by
  by_cases n : a = b
  · exact Or.inl n.symm
  · exact Or.inr (bt_to n h)
/-- tariffs are straight -/
theorem bt_cv (hR : ∀ t, 0 ≤ (R 4 t).toInt ∧ (R 4 t).toInt ≤ 63) {x y z : Nat} (xy : x ≤ y) (yz : y ≤ z) (hz : z < 64) (h1 : ¬ bt R a b x) (h2 : ¬ bt R a b z) : ¬ bt R a b y := by
  obtain ⟨A, B, ha⟩ := mp_lin (k := R 1 a.toNatClampNeg) (r := R 2 a.toNatClampNeg) (b := R 3 a.toNatClampNeg) (hR a.toNatClampNeg)
  obtain ⟨C, D, hb⟩ := mp_lin (k := R 1 b.toNatClampNeg) (r := R 2 b.toNatClampNeg) (b := R 3 b.toNatClampNeg) (hR b.toNatClampNeg)
  have e : ∀ q : Nat, q < 64 → ((¬ bt R a b q) ↔ ((if a.toInt < b.toInt then 1 else 0) ≤ (A - C) * (q : Int) + (B - D))) := fun q hq => by
    unfold bt
    rw [mbt_iff]
    unfold mpr
    rw [ha q hq, hb q hq, Int.sub_mul]
    generalize A * (q : Int) = u
    generalize C * (q : Int) = w
    split <;> omega
  rw [e x (by omega)] at h1
  rw [e z hz] at h2
  rw [e y (by omega)]
  exact lin_nn h1 h2 (by omega) (by omega)
theorem bt_cw (hR : ∀ t, 0 ≤ (R 4 t).toInt ∧ (R 4 t).toInt ≤ 63) {x y z : Nat} (xy : x ≤ y) (yz : y ≤ z) (hz : z < 64) (h1 : bt R a b x) (h2 : bt R a b z) : bt R a b y := by
  have n : ¬ b = a := fun e => by subst e; exact bt_ir h1
  exact bt_to n (bt_cv hR xy yz hz (bt_as h1) (bt_as h2))
end BT
/-- where the one that lost goes on -/
def hlf (R : Nat → Nat → Int32) (a b : Int32) (v : Nat) : Nat := if mbt R a b (nI (fiN v)) = true then 2 * v else if mbt R a b (nI (laN v)) = true then 2 * v + 1 else 0
/-- t is pushed into node v -/
def psh (R : Nat → Nat → Int32) : Nat → (Nat → Int32) → Nat → Int32 → Nat → Int32
  | 0, S, _, _ => S
  | f + 1, S, v, t => if v = 0 ∨ 127 < v then S else if S v = -1 then upd S v t else if mbt R t (S v) (nI (miN v)) = true then psh R f (upd S v t) (hlf R (S v) t v) (S v) else psh R f S (hlf R t (S v) v) t
/-- at how many nodes another one stands then -/
def pcn (R : Nat → Nat → Int32) : Nat → (Nat → Int32) → Nat → Int32 → Nat
  | 0, _, _, _ => 0
  | f + 1, S, v, t => if v = 0 ∨ 127 < v then 0 else if S v = -1 then 1 else if mbt R t (S v) (nI (miN v)) = true then pcn R f (upd S v t) (hlf R (S v) t v) (S v) + 1 else pcn R f S (hlf R t (S v) v) t
section PS
variable {R : Nat → Nat → Int32} {S : Nat → Int32} {f v : Nat} {t : Int32}
theorem psh_o (h : v = 0 ∨ 127 < v) : psh R f S v t = S := by
  cases f with
  | zero => rfl
  | succ f => rw [psh, if_pos h]
theorem psh_e (h : 1 ≤ v ∧ v ≤ 127) (e : S v = -1) : psh R (f + 1) S v t = upd S v t := by
  rw [psh, if_neg (by omega), if_pos e]
theorem psh_y (h : 1 ≤ v ∧ v ≤ 127) (e : ¬ S v = -1) (m : mbt R t (S v) (nI (miN v)) = true) : psh R (f + 1) S v t = psh R f (upd S v t) (hlf R (S v) t v) (S v) := by
  rw [psh, if_neg (by omega), if_neg e, if_pos m]
theorem psh_n (h : 1 ≤ v ∧ v ≤ 127) (e : ¬ S v = -1) (m : ¬ mbt R t (S v) (nI (miN v)) = true) : psh R (f + 1) S v t = psh R f S (hlf R t (S v) v) t := by
  rw [psh, if_neg (by omega), if_neg e, if_neg m]
theorem pcn_o (h : v = 0 ∨ 127 < v) : pcn R f S v t = 0 := by
  cases f with
  | zero => rfl
  | succ f => rw [pcn, if_pos h]
theorem pcn_e (h : 1 ≤ v ∧ v ≤ 127) (e : S v = -1) : pcn R (f + 1) S v t = 1 := by
  rw [pcn, if_neg (by omega), if_pos e]
theorem pcn_y (h : 1 ≤ v ∧ v ≤ 127) (e : ¬ S v = -1) (m : mbt R t (S v) (nI (miN v)) = true) : pcn R (f + 1) S v t = pcn R f (upd S v t) (hlf R (S v) t v) (S v) + 1 := by
  rw [pcn, if_neg (by omega), if_neg e, if_pos m]
theorem pcn_n (h : 1 ≤ v ∧ v ≤ 127) (e : ¬ S v = -1) (m : ¬ mbt R t (S v) (nI (miN v)) = true) : pcn R (f + 1) S v t = pcn R f S (hlf R t (S v) v) t := by
  rw [pcn, if_neg (by omega), if_neg e, if_neg m]
end PS
theorem hlf_c (R : Nat → Nat → Int32) (a b : Int32) (v : Nat) : hlf R a b v = 0 ∨ hlf R a b v = 2 * v ∨ hlf R a b v = 2 * v + 1 := by
  unfold hlf; split
  · exact Or.inr (Or.inl rfl)
  · split
    · exact Or.inr (Or.inr rfl)
    · exact Or.inl rfl
/-- a push changes nodes below its own alone -/
theorem psh_fr (R : Nat → Nat → Int32) (w : Nat) : ∀ (f : Nat) (S : Nat → Int32) (v : Nat) (t : Int32), ¬ psh R f S v t w = S w → (1 ≤ w ∧ w ≤ 127) ∧ (1 ≤ v ∧ v ≤ 127) ∧ fiN v ≤ fiN w ∧ laN w ≤ laN v := by
  intro f
  induction f with
  | zero => intro S v t h; exact absurd rfl h
  | succ f ih =>
    intro S v t h
    by_cases hv : v = 0 ∨ 127 < v
    · rw [psh_o hv] at h; exact absurd rfl h
    have hv : 1 ≤ v ∧ v ≤ 127 := by omega
    by_cases e : S v = -1
    · rw [psh_e hv e] at h
      by_cases hw : w = v
      · subst hw; exact ⟨hv, hv, Nat.le_refl _, Nat.le_refl _⟩
      · rw [pk_un hw] at h; exact absurd rfl h
    have key : ∀ (S1 : Nat → Int32) (a b : Int32), ¬ psh R f S1 (hlf R a b v) a w = S1 w → (1 ≤ w ∧ w ≤ 127) ∧ (1 ≤ v ∧ v ≤ 127) ∧ fiN v ≤ fiN w ∧ laN w ≤ laN v := by
      intro S1 a b h1
      obtain ⟨k1, k2, k3, k4⟩ := ih S1 _ a h1
      have q := nd_le hv.1 hv.2
      rcases hlf_c R a b v with z | z | z
      · rw [z] at k2; omega
      · rw [z] at k2 k3 k4; have q2 := nd_l (v := v) hv.1 (by omega); exact ⟨k1, hv, by omega, by omega⟩
      · rw [z] at k2 k3 k4; have q2 := nd_r (v := v) hv.1 (by omega); exact ⟨k1, hv, by omega, by omega⟩
    by_cases m : mbt R t (S v) (nI (miN v)) = true
    · rw [psh_y hv e m] at h
      by_cases hw : w = v
      · subst hw; exact ⟨hv, hv, Nat.le_refl _, Nat.le_refl _⟩
      · refine key (upd S v t) (S v) t (fun z => h ?_)
        rw [z, pk_un hw]
    · rw [psh_n hv e m] at h
      exact key S t (S v) h
/-- what stands at a node isn't changed by a push below it -/
theorem psh_top {R : Nat → Nat → Int32} {f v : Nat} {S : Nat → Int32} {a b x : Int32} (hv : 1 ≤ v ∧ v ≤ 127) : psh R f S (hlf R a b v) x v = S v := by
  refine Classical.byContradiction (fun h => ?_)
  obtain ⟨k1, k2, k3, k4⟩ := psh_fr R v f S _ x h
  rcases hlf_c R a b v with z | z | z
  · rw [z] at k2; omega
  · rw [z] at k2 k3 k4; have q2 := nd_l (v := v) hv.1 (by omega); omega
  · rw [z] at k2 k3 k4; have q2 := nd_r (v := v) hv.1 (by omega); have q := nd_le hv.1 hv.2; omega
/-- how many differ -/
def dfc (S S2 : Nat → Int32) : Nat → Nat
  | 0 => 0
  | n + 1 => dfc S S2 n + (if S n = S2 n then 0 else 1)
theorem dfc_rf (S : Nat → Int32) : ∀ n, dfc S S n = 0
  | 0 => rfl
  | n + 1 => by rw [dfc, dfc_rf S n, if_pos rfl]
theorem dfc_add {S S1 S2 : Nat → Int32} (h : ∀ w, ¬ S1 w = S w → S2 w = S1 w) : ∀ n, dfc S S2 n = dfc S S1 n + dfc S1 S2 n
  | 0 => rfl
  | n + 1 => by
    rw [dfc, dfc, dfc, dfc_add h n]
    by_cases q : S1 n = S n
    · rw [q, if_pos rfl]; omega
    · rw [h n q, if_pos rfl]; omega
theorem dfc_up {S : Nat → Int32} {v : Nat} {x : Int32} (h : ¬ S v = x) : ∀ n, dfc S (upd S v x) n = if v < n then 1 else 0
  | 0 => rfl
  | n + 1 => by
    rw [dfc, dfc_up h n]
    by_cases q : n = v
    · subst q; rw [pk_us, if_neg h, if_neg (by omega), if_pos (by omega)]
    · rw [pk_un q, if_pos rfl]; split <;> split <;> omega
theorem pcn_ct (R : Nat → Nat → Int32) : ∀ (f : Nat) (S : Nat → Int32) (v : Nat) (t : Int32), ¬ t = -1 → dfc S (psh R f S v t) 128 = pcn R f S v t := by
  intro f
  induction f with
  | zero => intro S v t _; exact dfc_rf S 128
  | succ f ih =>
    intro S v t ht
    by_cases hv : v = 0 ∨ 127 < v
    · rw [psh_o hv, pcn_o hv]; exact dfc_rf S 128
    have hv : 1 ≤ v ∧ v ≤ 127 := by omega
    by_cases e : S v = -1
    · rw [psh_e hv e, pcn_e hv e, dfc_up (S := S) (v := v) (x := t) (fun z => ht (z.symm.trans e)), if_pos (by omega)]
    by_cases m : mbt R t (S v) (nI (miN v)) = true
    · rw [psh_y hv e m, pcn_y hv e m]
      have ne : ¬ S v = t := fun z => by rw [z] at m; exact bt_ir (R := R) (a := t) (q := miN v) m
      rw [dfc_add (S1 := upd S v t) (fun w hw => ?_), ih _ _ _ e, dfc_up ne, if_pos (by omega), Nat.add_comm]
      have hwv : w = v := Classical.byContradiction (fun z => hw (pk_un z))
      subst hwv
      exact psh_top hv
    · rw [psh_n hv e m, pcn_n hv e m]; exact ih _ _ _ ht
/-- how many nodes a push can change -/
def hgN (v : Nat) : Nat := if v = 0 then 0 else if 128 ≤ v then 0 else if 64 ≤ v then 1 else if 32 ≤ v then 2 else if 16 ≤ v then 3 else if 8 ≤ v then 4 else if 4 ≤ v then 5 else if 2 ≤ v then 6 else 7
theorem hg_v {v : Nat} (h : 1 ≤ v) : (128 ≤ v ∧ hgN v = 0) ∨ (64 ≤ v ∧ v < 128 ∧ hgN v = 1) ∨ (32 ≤ v ∧ v < 64 ∧ hgN v = 2) ∨ (16 ≤ v ∧ v < 32 ∧ hgN v = 3) ∨ (8 ≤ v ∧ v < 16 ∧ hgN v = 4) ∨ (4 ≤ v ∧ v < 8 ∧ hgN v = 5) ∨ (2 ≤ v ∧ v < 4 ∧ hgN v = 6) ∨ (v = 1 ∧ hgN v = 7) := by
  unfold hgN
  rw [if_neg (by omega)]
  rcases (show 128 ≤ v ∨ (64 ≤ v ∧ v < 128) ∨ (32 ≤ v ∧ v < 64) ∨ (16 ≤ v ∧ v < 32) ∨ (8 ≤ v ∧ v < 16) ∨ (4 ≤ v ∧ v < 8) ∨ (2 ≤ v ∧ v < 4) ∨ v = 1 by omega) with z | z | z | z | z | z | z | z
  · exact Or.inl ⟨z, by rw [if_pos (by omega)]⟩
  · exact Or.inr (Or.inl ⟨z.1, z.2, by rw [if_neg (by omega), if_pos (by omega)]⟩)
  · exact Or.inr (Or.inr (Or.inl ⟨z.1, z.2, by rw [if_neg (by omega), if_neg (by omega), if_pos (by omega)]⟩))
  · exact Or.inr (Or.inr (Or.inr (Or.inl ⟨z.1, z.2, by rw [if_neg (by omega), if_neg (by omega), if_neg (by omega), if_pos (by omega)]⟩)))
  · exact Or.inr (Or.inr (Or.inr (Or.inr (Or.inl ⟨z.1, z.2, by rw [if_neg (by omega), if_neg (by omega), if_neg (by omega), if_neg (by omega), if_pos (by omega)]⟩))))
  · exact Or.inr (Or.inr (Or.inr (Or.inr (Or.inr (Or.inl ⟨z.1, z.2, by rw [if_neg (by omega), if_neg (by omega), if_neg (by omega), if_neg (by omega), if_neg (by omega), if_pos (by omega)]⟩)))))
  · exact Or.inr (Or.inr (Or.inr (Or.inr (Or.inr (Or.inr (Or.inl ⟨z.1, z.2, by rw [if_neg (by omega), if_neg (by omega), if_neg (by omega), if_neg (by omega), if_neg (by omega), if_neg (by omega), if_pos (by omega)]⟩))))))
  · exact Or.inr (Or.inr (Or.inr (Or.inr (Or.inr (Or.inr (Or.inr (⟨z, by rw [if_neg (by omega), if_neg (by omega), if_neg (by omega), if_neg (by omega), if_neg (by omega), if_neg (by omega), if_neg (by omega)]⟩)))))))
theorem hg_c {v : Nat} (h : 1 ≤ v ∧ v ≤ 127) : hgN (2 * v) + 1 = hgN v ∧ hgN (2 * v + 1) + 1 = hgN v ∧ 1 ≤ hgN v ∧ hgN v ≤ 7 := by
  have q := hg_v h.1; have q2 := hg_v (v := 2 * v) (by omega); have q3 := hg_v (v := 2 * v + 1) (by omega); omega
theorem hg_h {R : Nat → Nat → Int32} {a b : Int32} {v : Nat} (h : 1 ≤ v ∧ v ≤ 127) : hgN (hlf R a b v) + 1 ≤ hgN v := by
  have q := hg_c h
  rcases hlf_c R a b v with z | z | z
  · rw [z, show hgN 0 = 0 from rfl]; omega
  · rw [z]; omega
  · rw [z]; omega
theorem pcn_hg (R : Nat → Nat → Int32) : ∀ (f : Nat) (S : Nat → Int32) (v : Nat) (t : Int32), pcn R f S v t ≤ hgN v := by
  intro f
  induction f with
  | zero => intro S v t; exact Nat.zero_le _
  | succ f ih =>
    intro S v t
    by_cases hv : v = 0 ∨ 127 < v
    · rw [pcn_o hv]; exact Nat.zero_le _
    have hv : 1 ≤ v ∧ v ≤ 127 := by omega
    by_cases e : S v = -1
    · rw [pcn_e hv e]; exact (hg_c hv).2.2.1
    by_cases m : mbt R t (S v) (nI (miN v)) = true
    · rw [pcn_y hv e m]
      have q := ih (upd S v t) (hlf R (S v) t v) (S v); have q2 := hg_h (R := R) (a := S v) (b := t) hv; omega
    · rw [pcn_n hv e m]
      have q := ih S (hlf R t (S v) v) t; have q2 := hg_h (R := R) (a := t) (b := S v) hv; omega
