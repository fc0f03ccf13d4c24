/-- the span of tariff t has q -/
def hs (R : Nat → Nat → Int32) (t q : Nat) : Prop := (R 4 t).toInt ≤ (q : Int) ∧ (q : Int) ≤ (R 5 t).toInt
/-- r is the cheapest of the first n for q -/
def isB (R : Nat → Nat → Int32) (n q : Nat) (r : Int32) : Prop := (r = -1 ∧ ∀ t : Nat, t < n → ¬ hs R t q) ∨ (∃ t : Nat, t < n ∧ r = nI t ∧ hs R t q ∧ ∀ t2 : Nat, t2 < n → hs R t2 q → t2 = t ∨ bt R (nI t) (nI t2) q)
theorem isB_one {R : Nat → Nat → Int32} {n q : Nat} {r r2 : Int32} (h : isB R n q r) (h2 : isB R n q r2) : r = r2 := by
  rcases h with ⟨a, b⟩ | ⟨t, a, b, c, d⟩ <;> rcases h2 with ⟨a2, b2⟩ | ⟨t2, a2, b2, c2, d2⟩
  · rw [a, a2]
  · exact absurd c2 (b t2 a2)
  · exact absurd c (b2 t a)
  · rcases d t2 a2 c2 with z | z
    · rw [b, b2, z]
    · rcases d2 t a c with y | y
      · rw [b, b2, y]
      · exact absurd y (bt_as z)
theorem nI_inj {i j : Nat} (hi : i < 2 ^ 31) (hj : j < 2 ^ 31) (e : nI i = nI j) : i = j := by
  have q := congrArg Int32.toInt e
  rw [nI_toInt hi, nI_toInt hj] at q; omega
theorem nI_ne {i : Nat} (hi : i < 2 ^ 31) : ¬ nI i = -1 := fun e => by
  have q := congrArg Int32.toInt e
  rw [nI_toInt hi, show ((-1 : Int32)).toInt = -1 by decide] at q; omega
theorem nI_cl {x : Int32} (h : 0 ≤ x.toInt) : nI x.toNatClampNeg = x := by
  apply Int32.toInt_inj.mp
  have r := ti_rng x
  rw [nI_toInt (by show x.toInt.toNat < _; omega)]; show ((x.toInt.toNat : Nat) : Int) = _; omega
theorem cl_nI {i : Nat} (hi : i < 2 ^ 31) : (nI i).toNatClampNeg = i := by
  show (nI i).toInt.toNat = i; rw [nI_toInt hi]; rfl
/-- the cheapest of the first n for q, by one offer behind the other -/
noncomputable def bst (R : Nat → Nat → Int32) : Nat → Nat → Int32
  | 0, _ => -1
  | n + 1, q => by
    classical
    exact if hs R n q ∧ (bst R n q = -1 ∨ bt R (nI n) (bst R n q) q) then nI n else bst R n q
theorem bst_y {R : Nat → Nat → Int32} {n q : Nat} (h : hs R n q) (h2 : bst R n q = -1 ∨ bt R (nI n) (bst R n q) q) : bst R (n + 1) q = nI n := by
  rw [bst]; exact if_pos ⟨h, h2⟩
theorem bst_n {R : Nat → Nat → Int32} {n q : Nat} (h : ¬ (hs R n q ∧ (bst R n q = -1 ∨ bt R (nI n) (bst R n q) q))) : bst R (n + 1) q = bst R n q := by
  rw [bst]; exact if_neg h
theorem bst_isB {R : Nat → Nat → Int32} {q : Nat} : ∀ n, n ≤ 100 → isB R n q (bst R n q)
  | 0, _ => Or.inl ⟨rfl, fun t ht => absurd ht (Nat.not_lt_zero _)⟩
  | n + 1, hn => by
    have ih := bst_isB (R := R) (q := q) n (by omega)
    by_cases c : hs R n q ∧ (bst R n q = -1 ∨ bt R (nI n) (bst R n q) q)
    · rw [bst_y c.1 c.2]
      refine Or.inr ⟨n, by omega, rfl, c.1, fun t2 h2 hs2 => ?_⟩
      rcases (show t2 = n ∨ t2 < n by omega) with z | z
      · exact Or.inl z
      · right
        rcases ih with ⟨a, b⟩ | ⟨t, a, b, c3, d⟩
        · exact absurd hs2 (b t2 z)
        · rcases c.2 with y | y
          · rw [b] at y; exact absurd y (nI_ne (by omega))
          · rw [b] at y
            rcases d t2 z hs2 with x | x
            · rw [x]; exact y
            · exact bt_tr y x
    · rw [bst_n c]
      rcases ih with ⟨a, b⟩ | ⟨t, a, b, c3, d⟩
      · refine Or.inl ⟨a, fun t ht => ?_⟩
        rcases (show t = n ∨ t < n by omega) with z | z
        · subst z; exact fun y => c ⟨y, Or.inl a⟩
        · exact b t z
      · refine Or.inr ⟨t, by omega, b, c3, fun t2 h2 hs2 => ?_⟩
        rcases (show t2 = n ∨ t2 < n by omega) with z | z
        · subst z
          right
          have nb : ¬ bt R (nI t2) (nI t) q := fun y => c ⟨hs2, Or.inr (by rw [b]; exact y)⟩
          exact bt_to (fun e => by have y := nI_inj (by omega) (by omega) e; omega) nb
        · exact d t2 z hs2
theorem pth_to {v q : Nat} (h : 1 ≤ v ∧ v ≤ 127) (h1 : fiN v ≤ q) (h2 : q ≤ laN v) : ∃ j, (64 + q) / 2 ^ j = v := by
  have nv := nd_v h.1
  rcases nd_cases h.1 with z | z | z | z | z | z | z
  · exact ⟨0, by rw [show 2 ^ 0 = 1 from rfl]; omega⟩
  · exact ⟨1, by rw [show 2 ^ 1 = 2 from rfl]; omega⟩
  · exact ⟨2, by rw [show 2 ^ 2 = 4 from rfl]; omega⟩
  · exact ⟨3, by rw [show 2 ^ 3 = 8 from rfl]; omega⟩
  · exact ⟨4, by rw [show 2 ^ 4 = 16 from rfl]; omega⟩
  · exact ⟨5, by rw [show 2 ^ 5 = 32 from rfl]; omega⟩
  · exact ⟨6, by rw [show 2 ^ 6 = 64 from rfl]; omega⟩
theorem pth_of {q j : Nat} (hq : q < 64) (h : ¬ (64 + q) / 2 ^ j = 0) : (1 ≤ (64 + q) / 2 ^ j ∧ (64 + q) / 2 ^ j ≤ 127) ∧ fiN ((64 + q) / 2 ^ j) ≤ q ∧ q ≤ laN ((64 + q) / 2 ^ j) := by
  rcases (show j = 0 ∨ j = 1 ∨ j = 2 ∨ j = 3 ∨ j = 4 ∨ j = 5 ∨ j = 6 ∨ 7 ≤ j by omega) with z | z | z | z | z | z | z | z
  · subst z; rw [show 2 ^ 0 = 1 from rfl]; have nv := nd_v (v := (64 + q) / 1) (by omega); omega
  · subst z; rw [show 2 ^ 1 = 2 from rfl]; have nv := nd_v (v := (64 + q) / 2) (by omega); omega
  · subst z; rw [show 2 ^ 2 = 4 from rfl]; have nv := nd_v (v := (64 + q) / 4) (by omega); omega
  · subst z; rw [show 2 ^ 3 = 8 from rfl]; have nv := nd_v (v := (64 + q) / 8) (by omega); omega
  · subst z; rw [show 2 ^ 4 = 16 from rfl]; have nv := nd_v (v := (64 + q) / 16) (by omega); omega
  · subst z; rw [show 2 ^ 5 = 32 from rfl]; have nv := nd_v (v := (64 + q) / 32) (by omega); omega
  · subst z; rw [show 2 ^ 6 = 64 from rfl]; have nv := nd_v (v := (64 + q) / 64) (by omega); omega
  · exfalso
    have p : 2 ^ 7 ≤ 2 ^ j := Nat.pow_le_pow_right (by decide) z
    exact h (Nat.div_eq_of_lt (by omega))
theorem mchL_sp {R : Nat → Nat → Int32} {S : Nat → Int32} {q : Nat} : ∀ (f n : Nat) (b r : Int32), n < 2 ^ f → mchL R S (nI q) f n b = r →
    (r = b ∨ ∃ j, ¬ n / 2 ^ j = 0 ∧ ¬ S (n / 2 ^ j) = -1 ∧ r = S (n / 2 ^ j)) ∧ (¬ b = -1 → ¬ r = -1 ∧ (r = b ∨ bt R r b q)) ∧ (∀ j, ¬ n / 2 ^ j = 0 → ¬ S (n / 2 ^ j) = -1 → ¬ r = -1 ∧ (r = S (n / 2 ^ j) ∨ bt R r (S (n / 2 ^ j)) q)) := by
  intro f
  induction f with
  | zero =>
    intro n b r hn h
    have h0 : n = 0 := by rw [Nat.pow_zero] at hn; omega
    have e : r = b := h.symm
    subst e; subst h0
    exact ⟨Or.inl rfl, fun z => ⟨z, Or.inl rfl⟩, fun j h1 => absurd (Nat.zero_div _) h1⟩
  | succ f ih =>
    intro n b r hn h
    by_cases h0 : n = 0
    · subst h0
      rw [mchL, if_pos rfl] at h
      subst h
      exact ⟨Or.inl rfl, fun z => ⟨z, Or.inl rfl⟩, fun j h1 => absurd (Nat.zero_div _) h1⟩
    rw [mchL, if_neg h0] at h
    obtain ⟨k1, k2, k3⟩ := ih (n / 2) (mstep R S (nI q) n b) r (by rw [Nat.pow_succ] at hn; omega) h
    have dj : ∀ j, n / 2 / 2 ^ j = n / 2 ^ (j + 1) := fun j => by rw [Nat.div_div_eq_div_mul, Nat.pow_succ, Nat.mul_comm]
    have d0 : n / 2 ^ 0 = n := by rw [Nat.pow_zero, Nat.div_one]
    have c1 : mstep R S (nI q) n b = b ∨ (¬ S n = -1 ∧ mstep R S (nI q) n b = S n) := by
      unfold mstep; split
      · rename_i z; exact Or.inr ⟨z.1, rfl⟩
      · exact Or.inl rfl
    have c2 : ¬ b = -1 → ¬ mstep R S (nI q) n b = -1 ∧ (mstep R S (nI q) n b = b ∨ bt R (mstep R S (nI q) n b) b q) := fun hb => by
      unfold mstep; split
      · rename_i z; exact ⟨z.1, z.2.elim (fun y => absurd y hb) (fun y => Or.inr y)⟩
      · exact ⟨hb, Or.inl rfl⟩
    have c3 : ¬ S n = -1 → ¬ mstep R S (nI q) n b = -1 ∧ (mstep R S (nI q) n b = S n ∨ bt R (mstep R S (nI q) n b) (S n) q) := fun hs => by
      unfold mstep; split
      · exact ⟨hs, Or.inl rfl⟩
      · rename_i z
        have nb : ¬ b = -1 := fun y => z ⟨hs, Or.inl y⟩
        have nt : ¬ bt R (S n) b q := fun y => z ⟨hs, Or.inr y⟩
        exact ⟨nb, bt_or nt⟩
    refine ⟨?_, ?_, ?_⟩
    · rcases k1 with z | ⟨j, z1, z2, z3⟩
      · rcases c1 with y | ⟨y1, y2⟩
        · exact Or.inl (z.trans y)
        · exact Or.inr ⟨0, by rw [d0]; exact h0, by rw [d0]; exact y1, by rw [d0]; exact z.trans y2⟩
      · rw [dj] at z1 z2 z3
        exact Or.inr ⟨j + 1, z1, z2, z3⟩
    · intro hb
      obtain ⟨y1, y2⟩ := c2 hb
      obtain ⟨x1, x2⟩ := k2 y1
      refine ⟨x1, ?_⟩
      rcases x2 with x2 | x2
      · rw [x2]; exact y2
      · rcases y2 with y2 | y2
        · rw [y2] at x2; exact Or.inr x2
        · exact Or.inr (bt_tr x2 y2)
    · intro j h1 h2
      cases j with
      | zero =>
        rw [d0] at h1 h2 ⊢
        obtain ⟨y1, y2⟩ := c3 h2
        obtain ⟨x1, x2⟩ := k2 y1
        refine ⟨x1, ?_⟩
        rcases x2 with x2 | x2
        · rw [x2]; exact y2
        · rcases y2 with y2 | y2
          · rw [y2] at x2; exact Or.inr x2
          · exact Or.inr (bt_tr x2 y2)
      | succ j => rw [← dj] at h1 h2 ⊢; exact k3 j h1 h2
/-- the tree holds what it should of the first n tariffs -/
def TT (R : Nat → Nat → Int32) (n : Nat) (S : Nat → Int32) : Prop := stI R n S ∧ ∀ q, q < 64 → ∀ t : Nat, t < n → hs R t q → dm R S q (nI t)
theorem mcS_isB {R : Nat → Nat → Int32} {S : Nat → Int32} {n q : Nat} (hn : n ≤ 100) (h : TT R n S) (hq : q < 64) : isB R n q (mcS R S (nI q)) := by
  obtain ⟨k1, -, k3⟩ := mchL_sp (R := R) (S := S) (q := q) 8 (64 + q) (-1) (mcS R S (nI q)) (by omega) (by unfold mcS; rw [cl_nI (by omega)])
  have dmr : ∀ t : Nat, t < n → hs R t q → ¬ mcS R S (nI q) = -1 ∧ (mcS R S (nI q) = nI t ∨ bt R (mcS R S (nI q)) (nI t) q) := fun t ht hst => by
    obtain ⟨w, w1, w2, w3, w4⟩ := h.2 q hq t ht hst
    obtain ⟨j, hj⟩ := pth_to w1 w2.1 w2.2
    obtain ⟨y1, y2⟩ := k3 j (by rw [hj]; omega) (by rw [hj]; exact w3)
    rw [hj] at y2
    refine ⟨y1, ?_⟩
    rcases y2 with y2 | y2
    · rw [y2]; exact w4
    · rcases w4 with w4 | w4
      · rw [w4] at y2; exact Or.inr y2
      · exact Or.inr (bt_tr y2 w4)
  rcases k1 with z | ⟨j, z1, z2, z3⟩
  · exact Or.inl ⟨z, fun t ht hst => (dmr t ht hst).1 z⟩
  · obtain ⟨p1, p2, p3⟩ := pth_of hq z1
    obtain ⟨f1, f2, f3⟩ := h.1 _ p1.1 p1.2 z2
    rw [← z3] at f1 f2 f3
    have ec := nI_cl f1.1
    have en : (mcS R S (nI q)).toNatClampNeg < n := by show (mcS R S (nI q)).toInt.toNat < n; omega
    refine Or.inr ⟨(mcS R S (nI q)).toNatClampNeg, en, ec.symm, ⟨by omega, by omega⟩, fun t2 h2 hs2 => ?_⟩
    rw [ec]
    rcases (dmr t2 h2 hs2).2 with y | y
    · left; rw [y, cl_nI (by omega)]
    · exact Or.inr y
/-- the nodes into which a tariff is pushed; the tree of the first n tariffs -/
def cns (R : Nat → Nat → Int32) (n : Nat) : List Nat := if (R 5 n).toInt < (R 4 n).toInt then [] else cnl 64 (R 4 n).toInt.toNat (R 5 n).toInt.toNat
def TR (R : Nat → Nat → Int32) : Nat → Nat → Int32
  | 0 => fun _ => -1
  | n + 1 => ofr R (TR R n) (cns R n) (nI n)
theorem cns_c {R : Nat → Nat → Int32} (hR : ∀ t, 0 ≤ (R 4 t).toInt ∧ (R 4 t).toInt ≤ 63) (hR5 : ∀ t, (R 5 t).toInt ≤ 63) (n : Nat) : (cns R n = [] ∧ (R 5 n).toInt < (R 4 n).toInt) ∨ (chn (R 4 n).toInt.toNat (R 5 n).toInt.toNat (cns R n) ∧ (R 4 n).toInt ≤ (R 5 n).toInt ∧ cns R n = cnm 64 (R 4 n).toInt.toNat (R 4 n).toInt.toNat (R 5 n).toInt.toNat ∧ hgs (cns R n) ≤ 30) := by
  have a := hR n
  have b := hR5 n
  by_cases h : (R 5 n).toInt < (R 4 n).toInt
  · exact Or.inl ⟨if_pos h, h⟩
  · have e : cns R n = cnl 64 (R 4 n).toInt.toNat (R 5 n).toInt.toNat := if_neg h
    obtain ⟨c1, c2, c3⟩ := cn_all (f := (R 4 n).toInt.toNat) (l := (R 5 n).toInt.toNat) (by omega) (by omega)
    exact Or.inr ⟨by rw [e]; exact c2, by omega, by rw [e, c1], by rw [e]; exact c3⟩
theorem hg_30 {R : Nat → Nat → Int32} (hR : ∀ t, 0 ≤ (R 4 t).toInt ∧ (R 4 t).toInt ≤ 63) (hR5 : ∀ t, (R 5 t).toInt ≤ 63) (n : Nat) : hgs (cns R n) ≤ 30 := by
  rcases cns_c hR hR5 n with ⟨z, -⟩ | ⟨-, -, -, z⟩
  · rw [z]; decide
  · exact z
theorem TT_s {R : Nat → Nat → Int32} (hR : ∀ t, 0 ≤ (R 4 t).toInt ∧ (R 4 t).toInt ≤ 63) (hR5 : ∀ t, (R 5 t).toInt ≤ 63) {S : Nat → Int32} {n : Nat} (hn : n < 100) (h : TT R n S) : TT R (n + 1) (ofr R S (cns R n) (nI n)) := by
  have h1 : stI R ((n + 1 : Nat) : Int) S := fun v a b c => by
    obtain ⟨f1, f2, f3⟩ := h.1 v a b c
    exact ⟨⟨f1.1, by omega⟩, f2, f3⟩
  have t0 : (nI n).toInt = n := nI_toInt (by omega)
  have tc : (nI n).toNatClampNeg = n := cl_nI (by omega)
  rcases cns_c hR hR5 n with ⟨z1, z2⟩ | ⟨z1, z2, z3, z4⟩
  · rw [z1]
    refine ⟨h1, fun q hq t ht hst => ?_⟩
    rcases (show t = n ∨ t < n by omega) with y | y
    · subst y; have a := hst.1; have b := hst.2; omega
    · exact h.2 q hq t y hst
  · have a := hR n
    obtain ⟨k1, k2, k3⟩ := ofr_ok hR (n := ((n + 1 : Nat) : Int)) (l := (R 5 n).toInt.toNat) (t := nI n) (by omega) (by rw [tc]; omega) (cns R n) (R 4 n).toInt.toNat S z1 (by rw [tc]; omega) h1
    refine ⟨k1, fun q hq t ht hst => ?_⟩
    rcases (show t = n ∨ t < n by omega) with y | y
    · subst y; have a := hst.1; have b := hst.2; exact k2 q (by omega) (by omega)
    · exact k3 q _ (h.2 q hq t y hst)
theorem TR_ok {R : Nat → Nat → Int32} (hR : ∀ t, 0 ≤ (R 4 t).toInt ∧ (R 4 t).toInt ≤ 63) (hR5 : ∀ t, (R 5 t).toInt ≤ 63) : ∀ n, n ≤ 100 → TT R n (TR R n)
  | 0, _ => ⟨fun v _ _ h => absurd rfl h, fun q _ t ht => absurd ht (Nat.not_lt_zero _)⟩
  | n + 1, hn => TT_s hR hR5 (by omega) (TR_ok hR hR5 n (by omega))
theorem TR_bst {R : Nat → Nat → Int32} (hR : ∀ t, 0 ≤ (R 4 t).toInt ∧ (R 4 t).toInt ≤ 63) (hR5 : ∀ t, (R 5 t).toInt ≤ 63) {n q : Nat} (hn : n ≤ 100) (hq : q < 64) : mcS R (TR R n) (nI q) = bst R n q := isB_one (mcS_isB hn (TR_ok hR hR5 n hn) hq) (bst_isB n hn)
/-- alike at the nodes -/
def Eq1 (S S2 : Nat → Int32) : Prop := ∀ w, 1 ≤ w → w ≤ 127 → S w = S2 w
theorem Eq1.rf {S : Nat → Int32} : Eq1 S S := fun _ _ _ => rfl
theorem Eq1.sy {S S2 : Nat → Int32} (h : Eq1 S S2) : Eq1 S2 S := fun w a b => (h w a b).symm
theorem Eq1.tr {S S2 S3 : Nat → Int32} (h : Eq1 S S2) (h2 : Eq1 S2 S3) : Eq1 S S3 := fun w a b => (h w a b).trans (h2 w a b)
theorem Eq1.up {S S2 : Nat → Int32} (h : Eq1 S S2) (v : Nat) (x : Int32) : Eq1 (upd S v x) (upd S2 v x) := fun w a b => by
  by_cases e : w = v
  · subst e; rw [pk_us, pk_us]
  · rw [pk_un e, pk_un e]; exact h w a b
theorem psh_cs (R : Nat → Nat → Int32) : ∀ (f : Nat) (S S2 : Nat → Int32) (v : Nat) (t : Int32), Eq1 S S2 → Eq1 (psh R f S v t) (psh R f S2 v t) ∧ pcn R f S v t = pcn R f S2 v t := by
  intro f
  induction f with
  | zero => intro S S2 v t h; exact ⟨h, rfl⟩
  | succ f ih =>
    intro S S2 v t h
    by_cases hv : v = 0 ∨ 127 < v
    · rw [psh_o hv, psh_o hv, pcn_o hv, pcn_o hv]; exact ⟨h, rfl⟩
    have hv : 1 ≤ v ∧ v ≤ 127 := by omega
    have ev := h v hv.1 hv.2
    by_cases e : S v = -1
    · rw [psh_e hv e, psh_e hv (ev ▸ e), pcn_e hv e, pcn_e hv (ev ▸ e)]; exact ⟨h.up v t, rfl⟩
    have e2 : ¬ S2 v = -1 := fun z => e (ev.trans z)
    by_cases m : mbt R t (S v) (nI (miN v)) = true
    · have m2 : mbt R t (S2 v) (nI (miN v)) = true := ev ▸ m
      rw [psh_y hv e m, psh_y hv e2 m2, pcn_y hv e m, pcn_y hv e2 m2, ← ev]
      have k := ih (upd S v t) (upd S2 v t) (hlf R (S v) t v) (S v) (h.up v t)
      exact ⟨k.1, by rw [k.2]⟩
    · have m2 : ¬ mbt R t (S2 v) (nI (miN v)) = true := ev ▸ m
      rw [psh_n hv e m, psh_n hv e2 m2, pcn_n hv e m, pcn_n hv e2 m2, ← ev]
      exact ih S S2 _ t h
theorem ofr_cs (R : Nat → Nat → Int32) : ∀ (vs : List Nat) (S S2 : Nat → Int32) (t : Int32), Eq1 S S2 → Eq1 (ofr R S vs t) (ofr R S2 vs t) ∧ ofc R S vs t = ofc R S2 vs t := by
  intro vs
  induction vs with
  | nil => intro S S2 t h; exact ⟨h, rfl⟩
  | cons v vs ih =>
    intro S S2 t h
    obtain ⟨a, b⟩ := psh_cs R 7 S S2 v t h
    obtain ⟨c, d⟩ := ih _ _ t a
    rw [ofr, ofr, ofc, ofc, b, d]; exact ⟨c, rfl⟩
theorem mchL_cs {R : Nat → Nat → Int32} {S S2 : Nat → Int32} {q : Int32} (h : Eq1 S S2) : ∀ (f n : Nat) (b : Int32), n ≤ 127 → mchL R S q f n b = mchL R S2 q f n b := by
  intro f
  induction f with
  | zero => intro n b _; rfl
  | succ f ih =>
    intro n b hn
    by_cases h0 : n = 0
    · subst h0; rw [mchL_0, mchL_0]
    · rw [mchL, mchL, if_neg h0, if_neg h0, show mstep R S q n b = mstep R S2 q n b by unfold mstep; rw [h n (by omega) hn]]
      exact ih _ _ (by omega)
theorem mcS_cs {R : Nat → Nat → Int32} {S S2 : Nat → Int32} {q : Int32} (h : Eq1 S S2) (hq : 0 ≤ q.toInt ∧ q.toInt ≤ 63) : mcS R S q = mcS R S2 q := mchL_cs h _ _ _ (by show 64 + q.toInt.toNat ≤ 127; omega)
/-- the first n rows are alike -/
def Rw (R R2 : Nat → Nat → Int32) (n : Int) : Prop := ∀ t : Nat, (t : Int) < n → ∀ k, k < 5 → R (k + 1) t = R2 (k + 1) t
theorem Rw.mp {R R2 : Nat → Nat → Int32} {n : Int} (h : Rw R R2 n) {t : Nat} (ht : (t : Int) < n) (q : Int32) : mpr R t q = mpr R2 t q := by
  unfold mpr
  rw [show R 1 t = R2 1 t from h t ht 0 (by decide), show R 2 t = R2 2 t from h t ht 1 (by decide), show R 3 t = R2 3 t from h t ht 2 (by decide), show R 4 t = R2 4 t from h t ht 3 (by decide)]
theorem Rw.mb {R R2 : Nat → Nat → Int32} {n : Int} (h : Rw R R2 n) {a b q : Int32} (ha : 0 ≤ a.toInt ∧ a.toInt < n) (hb : 0 ≤ b.toInt ∧ b.toInt < n) : mbt R a b q = mbt R2 a b q := by
  unfold mbt
  rw [h.mp (t := a.toNatClampNeg) (by show ((a.toInt.toNat : Nat) : Int) < _; omega), h.mp (t := b.toNatClampNeg) (by show ((b.toInt.toNat : Nat) : Int) < _; omega)]
theorem Rw.le {R R2 : Nat → Nat → Int32} {n m : Int} (h : Rw R R2 n) (q : m ≤ n) : Rw R R2 m := fun t ht => h t (by omega)
theorem Rw.sy {R R2 : Nat → Nat → Int32} {n : Int} (h : Rw R R2 n) : Rw R2 R n := fun t ht k hk => (h t ht k hk).symm
/-- what stands is one of the first n -/
def bdS (n : Int) (S : Nat → Int32) : Prop := ∀ v, 1 ≤ v → v ≤ 127 → ¬ S v = -1 → 0 ≤ (S v).toInt ∧ (S v).toInt < n
theorem bdS.up {n : Int} {S : Nat → Int32} (h : bdS n S) {v : Nat} {t : Int32} (ht : 0 ≤ t.toInt ∧ t.toInt < n) : bdS n (upd S v t) := fun w h1 h2 hn => by
  by_cases e : w = v
  · subst e; rw [pk_us]; exact ht
  · rw [pk_un e] at hn ⊢; exact h w h1 h2 hn
theorem psh_bd {R : Nat → Nat → Int32} {n : Int} : ∀ (f : Nat) (S : Nat → Int32) (v : Nat) (t : Int32), bdS n S → (0 ≤ t.toInt ∧ t.toInt < n) → bdS n (psh R f S v t) := by
  intro f
  induction f with
  | zero => intro S v t h _; exact h
  | succ f ih =>
    intro S v t h ht
    by_cases hv : v = 0 ∨ 127 < v
    · rw [psh_o hv]; exact h
    have hv : 1 ≤ v ∧ v ≤ 127 := by omega
    by_cases e : S v = -1
    · rw [psh_e hv e]; exact h.up ht
    by_cases m : mbt R t (S v) (nI (miN v)) = true
    · rw [psh_y hv e m]; exact ih _ _ _ (h.up ht) (h v hv.1 hv.2 e)
    · rw [psh_n hv e m]; exact ih _ _ _ h ht
theorem ofr_bd {R : Nat → Nat → Int32} {n : Int} : ∀ (vs : List Nat) (S : Nat → Int32) (t : Int32), bdS n S → (0 ≤ t.toInt ∧ t.toInt < n) → bdS n (ofr R S vs t) := by
  intro vs
  induction vs with
  | nil => intro S t h _; exact h
  | cons v vs ih => intro S t h ht; rw [ofr]; exact ih _ t (psh_bd 7 S v t h ht) ht
theorem psh_cr {R R2 : Nat → Nat → Int32} {n : Int} (hr : Rw R R2 n) : ∀ (f : Nat) (S : Nat → Int32) (v : Nat) (t : Int32), bdS n S → (0 ≤ t.toInt ∧ t.toInt < n) → psh R f S v t = psh R2 f S v t ∧ pcn R f S v t = pcn R2 f S v t := by
  intro f
  induction f with
  | zero => intro S v t _ _; exact ⟨rfl, rfl⟩
  | succ f ih =>
    intro S v t h ht
    by_cases hv : v = 0 ∨ 127 < v
    · rw [psh_o hv, psh_o hv, pcn_o hv, pcn_o hv]; exact ⟨rfl, rfl⟩
    have hv : 1 ≤ v ∧ v ≤ 127 := by omega
    by_cases e : S v = -1
    · rw [psh_e hv e, psh_e hv e, pcn_e hv e, pcn_e hv e]; exact ⟨rfl, rfl⟩
    have hb := h v hv.1 hv.2 e
    have hh : ∀ a b : Int32, (0 ≤ a.toInt ∧ a.toInt < n) → (0 ≤ b.toInt ∧ b.toInt < n) → hlf R a b v = hlf R2 a b v := fun a b x y => by
      unfold hlf; rw [hr.mb x y, hr.mb x y]
    by_cases m : mbt R t (S v) (nI (miN v)) = true
    · have m2 : mbt R2 t (S v) (nI (miN v)) = true := hr.mb ht hb ▸ m
      rw [psh_y hv e m, psh_y hv e m2, pcn_y hv e m, pcn_y hv e m2, ← hh _ _ hb ht]
      have k := ih (upd S v t) (hlf R (S v) t v) (S v) (h.up ht) hb
      exact ⟨k.1, by rw [k.2]⟩
    · have m2 : ¬ mbt R2 t (S v) (nI (miN v)) = true := hr.mb ht hb ▸ m
      rw [psh_n hv e m, psh_n hv e m2, pcn_n hv e m, pcn_n hv e m2, ← hh _ _ ht hb]
      exact ih S _ t h ht
theorem ofr_cr {R R2 : Nat → Nat → Int32} {n : Int} (hr : Rw R R2 n) : ∀ (vs : List Nat) (S : Nat → Int32) (t : Int32), bdS n S → (0 ≤ t.toInt ∧ t.toInt < n) → ofr R S vs t = ofr R2 S vs t ∧ ofc R S vs t = ofc R2 S vs t := by
  intro vs
  induction vs with
  | nil => intro S t _ _; exact ⟨rfl, rfl⟩
  | cons v vs ih =>
    intro S t h ht
    obtain ⟨a, b⟩ := psh_cr hr 7 S v t h ht
    have k := ih (psh R 7 S v t) t (psh_bd 7 S v t h ht) ht
    rw [ofr, ofr, ofc, ofc, ← a, b, k.2]; exact ⟨k.1, rfl⟩
theorem TR_bd {R : Nat → Nat → Int32} : ∀ n : Nat, n ≤ 100 → bdS n (TR R n)
  | 0, _ => fun v _ _ h => absurd rfl h
  | n + 1, hn => ofr_bd _ _ _ (fun v a b c => by have q := TR_bd (R := R) n (by omega) v a b c; omega) (by rw [nI_toInt (by omega)]; omega)
theorem cns_cr {R R2 : Nat → Nat → Int32} {n : Nat} {m : Int} (hr : Rw R R2 m) (h : (n : Int) < m) : cns R n = cns R2 n := by
  unfold cns
  rw [show R 4 n = R2 4 n from hr n h 3 (by decide), show R 5 n = R2 5 n from hr n h 4 (by decide)]
theorem TR_cr {R R2 : Nat → Nat → Int32} : ∀ n : Nat, n ≤ 100 → Rw R R2 n → TR R n = TR R2 n
  | 0, _, _ => rfl
  | n + 1, hn, hr => by
    rw [TR, TR, cns_cr hr (by omega), TR_cr n (by omega) (hr.le (by omega))]
    exact (ofr_cr hr _ _ _ (fun v a b c => by have q := TR_bd (R := R2) n (by omega) v a b c; omega) (by rw [nI_toInt (by omega)]; omega)).1
theorem bst_cr {R R2 : Nat → Nat → Int32} {q : Nat} : ∀ n : Nat, n ≤ 100 → Rw R R2 n → bst R n q = bst R2 n q
  | 0, _, _ => rfl
  | n + 1, hn, hr => by
    have ih := bst_cr (q := q) n (by omega) (hr.le (by omega))
    have hh : hs R n q ↔ hs R2 n q := by
      unfold hs
      rw [show R 4 n = R2 4 n from hr n (by omega) 3 (by decide), show R 5 n = R2 5 n from hr n (by omega) 4 (by decide)]
    have hb : (bst R n q = -1 ∨ bt R (nI n) (bst R n q) q) ↔ (bst R2 n q = -1 ∨ bt R2 (nI n) (bst R2 n q) q) := by
      rw [← ih]
      rcases bst_isB (R := R) (q := q) n (by omega) with ⟨z, -⟩ | ⟨t, z1, z2, -⟩
      · rw [z]; exact ⟨fun _ => Or.inl rfl, fun _ => Or.inl rfl⟩
      · rw [z2]
        have e := hr.mb (a := nI n) (b := nI t) (q := nI q) (by rw [nI_toInt (by omega)]; omega) (by rw [nI_toInt (by omega)]; omega)
        unfold bt
        rw [e]
    by_cases c : hs R n q ∧ (bst R n q = -1 ∨ bt R (nI n) (bst R n q) q)
    · rw [bst_y c.1 c.2, bst_y (hh.mp c.1) (hb.mp c.2)]
    · rw [bst_n c, bst_n (fun z => c ⟨hh.mpr z.1, hb.mpr z.2⟩), ih]
