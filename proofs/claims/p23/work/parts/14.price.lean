/-- a letter of the page by its place, 0 behind its end -/
def atp (f : Nat → Int32) (n : Int) (k : Nat) : Int := if (k : Int) < n then (f k).toInt else 0
theorem atp_in {f : Nat → Int32} {n : Int} {k : Nat} (h : (k : Int) < n) : atp f n k = (f k).toInt := if_pos h
theorem atp_out {f : Nat → Int32} {n : Int} {k : Nat} (h : ¬ (k : Int) < n) : atp f n k = 0 := if_neg h
def lenQ (n len : Int) : Int := if 64 ≤ n then len / 64 else if 32 ≤ n then len / 32 else if 16 ≤ n then len / 16 else if 8 ≤ n then len / 8 else if 4 ≤ n then len / 4 else if 2 ≤ n then len / 2 else len
def lenP (n : Int) : Int := if 64 ≤ n then 1 else if 32 ≤ n then 2 else if 16 ≤ n then 4 else if 8 ≤ n then 8 else if 4 ≤ n then 16 else if 2 ≤ n then 32 else 64
def firP (n : Int) : Int := if 64 ≤ n then n - 64 else if 32 ≤ n then 2 * n - 64 else if 16 ≤ n then 4 * n - 64 else if 8 ≤ n then 8 * n - 64 else if 4 ≤ n then 16 * n - 64 else if 2 ≤ n then 32 * n - 64 else 64 * n - 64
def lasP (n : Int) : Int := firP n + lenP n - 1
theorem lenQ_step {n len : Int} (h : 1 < n) (h2 : n ≤ 127) (h3 : 0 ≤ len) : lenQ (n / 2) (len / 2) = lenQ n len := by
  unfold lenQ; repeat' split <;> omega
theorem lenQ_1 {n len : Int} (h : n ≤ 1) : lenQ n len = len := by
  unfold lenQ; repeat' split <;> omega
theorem lenQ_64 (n : Int) : lenQ n 64 = lenP n := by
  unfold lenQ lenP; repeat' split <;> omega
theorem lenP_rng (n : Int) : 1 ≤ lenP n ∧ lenP n ≤ 64 := by
  unfold lenP; repeat' split <;> omega
theorem lenP_mul {n : Int} (h : 1 ≤ n) (h2 : n ≤ 127) : n * lenP n = firP n + 64 ∧ 0 ≤ firP n ∧ firP n ≤ 63 := by
  rcases (show 64 ≤ n ∨ (32 ≤ n ∧ n < 64) ∨ (16 ≤ n ∧ n < 32) ∨ (8 ≤ n ∧ n < 16) ∨ (4 ≤ n ∧ n < 8) ∨ (2 ≤ n ∧ n < 4) ∨ n = 1 by omega) with q | q | q | q | q | q | q
  · rw [show lenP n = 1 by unfold lenP; omega, show firP n = n - 64 by unfold firP; omega]; omega
  · rw [show lenP n = 2 by unfold lenP; omega, show firP n = 2 * n - 64 by unfold firP; omega]; omega
  · rw [show lenP n = 4 by unfold lenP; omega, show firP n = 4 * n - 64 by unfold firP; omega]; omega
  · rw [show lenP n = 8 by unfold lenP; omega, show firP n = 8 * n - 64 by unfold firP; omega]; omega
  · rw [show lenP n = 16 by unfold lenP; omega, show firP n = 16 * n - 64 by unfold firP; omega]; omega
  · rw [show lenP n = 32 by unfold lenP; omega, show firP n = 32 * n - 64 by unfold firP; omega]; omega
  · subst q; decide
theorem lasP_rng {n : Int} (h : 1 ≤ n) (h2 : n ≤ 127) : firP n ≤ lasP n ∧ lasP n ≤ 63 := by
  unfold lasP lenP firP; repeat' split <;> omega
theorem lenP_leaf {n : Int} (h : 64 ≤ n) : lenP n = 1 ∧ lasP n = firP n ∧ firP n = n - 64 := by
  unfold lasP lenP firP; repeat' split <;> omega
theorem up_has {n : Int} (h : 2 ≤ n) (h2 : n ≤ 127) : firP (n / 2) ≤ firP n ∧ lasP n ≤ lasP (n / 2) := by
  unfold lasP lenP firP; repeat' split <;> omega
def oftF (k f q : Int32) : Int64 := if k = 1 then 0 else if k = 2 then 2 * q.toInt64 else if k = 3 ∨ k = 4 then q.toInt64 - f.toInt64 else q.toInt64
def abF (k b : Int32) : Int64 := if k = 4 then (b >>> (1 &&& 31)).toInt64 else b.toInt64
def mpF (k r b f q : Int32) : Int64 := oftF k f q * r.toInt64 + abF k b
/-- a number that no int holds -/
def grL (v : Int64) : Prop := v.toInt < -2147483648 ∨ 2147483647 < v.toInt
/-- a tariff whose prices are too great -/
def tgF (k r b f l : Int32) : Prop := (k = 2 ∧ grL (2 * r.toInt64)) ∨ grL (oftF k f f * r.toInt64) ∨ grL (oftF k f l * r.toInt64) ∨ grL (mpF k r b f f) ∨ grL (mpF k r b f l)
/-- a tariff that may be offered -/
def vld (k r b s : Int32) : Prop := (0 ≤ k.toInt ∧ k.toInt ≤ 4) ∧ 0 ≤ s.toInt ∧ (s / 100).toInt ≤ 63 ∧ (s - s / 100 * 100).toInt ≤ 63 ∧ (s / 100).toInt ≤ (s - s / 100 * 100).toInt ∧ ¬ tgF k r b (s / 100) (s - s / 100 * 100)
/-- why an offer is refused (d: the desks; n: how many there are), or 0 -/
def rjF (d n k r b s c : Int32) : Prop := (¬ vld k r b s ∧ c = -102) ∨ (vld k r b s ∧ d = 0 ∧ c = -103) ∨ (vld k r b s ∧ ¬ d = 0 ∧ 40 ≤ n.toInt ∧ c = -104) ∨ (vld k r b s ∧ ¬ d = 0 ∧ n.toInt < 40 ∧ c = 0)
theorem rjF_0 {d n k r b s c : Int32} (h : rjF d n k r b s c) (h0 : c = 0) : vld k r b s ∧ ¬ d = 0 ∧ n.toInt < 40 := by
  rcases h with h | h | h | h
  · rw [h.2] at h0; exact absurd h0 (by decide)
  · rw [h.2.2] at h0; exact absurd h0 (by decide)
  · rw [h.2.2.2] at h0; exact absurd h0 (by decide)
  · exact ⟨h.1, h.2.1, h.2.2.1⟩
theorem rjF_one {d d2 n n2 k r b s c c2 : Int32} (h : rjF d n k r b s c) (h2 : rjF d2 n2 k r b s c2) (hd : d = 0 ↔ d2 = 0) (hn : n.toInt = n2.toInt) : c = c2 := by
  rcases h with h | h | h | h <;> rcases h2 with g | g | g | g
  · rw [h.2, g.2]
  · exact absurd g.1 h.1
  · exact absurd g.1 h.1
  · exact absurd g.1 h.1
  · exact absurd h.1 g.1
  · rw [h.2.2, g.2.2]
  · exact absurd (hd.mp h.2.1) g.2.1
  · exact absurd (hd.mp h.2.1) g.2.1
  · exact absurd h.1 g.1
  · exact absurd (hd.mpr g.2.1) h.2.1
  · rw [h.2.2.2, g.2.2.2]
  · exfalso; have a := h.2.2.1; have b := g.2.2.1; omega
  · exact absurd h.1 g.1
  · exact absurd (hd.mpr g.2.1) h.2.1
  · exfalso; have a := h.2.2.1; have b := g.2.2.1; omega
  · rw [h.2.2.2, g.2.2.2]
theorem rjF_neg {d n k r b s c : Int32} (h : rjF d n k r b s c) (h0 : ¬ c = 0) : c.toInt < 0 := by
  rcases h with h | h | h | h
  · rw [h.2]; decide
  · rw [h.2.2]; decide
  · rw [h.2.2.2]; decide
  · exact absurd h.2.2.2 h0
theorem dv100 {s : Int32} (h : 0 ≤ s.toInt) : 0 ≤ (s / 100).toInt ∧ 0 ≤ (s - s / 100 * 100).toInt := by
  have a := ti_divk (x := s) (y := 100) rfl (show (100 : Int32).toInt = 100 by decide) h (by decide) rfl
  have b := ti_remk (x := s) (y := 100) rfl (show (100 : Int32).toInt = 100 by decide) h (by decide) rfl
  omega
/-- one tariff more, its numbers laid at the end -/
def tkR (g g' : Nat → Nat → Int32) (x1 x2 x3 x4 x5 : Int32) : Prop := g' 31 0 = g 31 0 + 1 ∧ g' 1 = upd (g 1) (g 31 0).toNatClampNeg x1 ∧ g' 2 = upd (g 2) (g 31 0).toNatClampNeg x2 ∧ g' 3 = upd (g 3) (g 31 0).toNatClampNeg x3 ∧ g' 4 = upd (g 4) (g 31 0).toNatClampNeg x4 ∧ g' 5 = upd (g 5) (g 31 0).toNatClampNeg x5
theorem tkR.of {g0 g g' : Nat → Nat → Int32} {x1 x2 x3 x4 x5 : Int32} (h : tkR g0 g' x1 x2 x3 x4 x5) (e : ∀ i, i ∈ [1, 2, 3, 4, 5, 31] → g0 i = g i) : tkR g g' x1 x2 x3 x4 x5 := by
  unfold tkR at h ⊢
  rw [e 31 (by decide), e 1 (by decide), e 2 (by decide), e 3 (by decide), e 4 (by decide), e 5 (by decide)] at h
  exact h
theorem tkR.to {g g' g2 : Nat → Nat → Int32} {x1 x2 x3 x4 x5 : Int32} (h : tkR g g' x1 x2 x3 x4 x5) (e : ∀ i, i ∈ [1, 2, 3, 4, 5, 31] → g2 i = g' i) : tkR g g2 x1 x2 x3 x4 x5 := by
  unfold tkR at h ⊢
  rw [e 31 (by decide), e 1 (by decide), e 2 (by decide), e 3 (by decide), e 4 (by decide), e 5 (by decide)]
  exact h
/-- the first n tariffs are the same -/
def rwL (g g' : Nat → Nat → Int32) (n : Int) : Prop := ∀ t : Nat, (t : Int) < n → ∀ k, k < 5 → g' (k + 1) t = g (k + 1) t
theorem rwL.rf {g : Nat → Nat → Int32} {n : Int} : rwL g g n := fun _ _ _ _ => rfl
theorem rwL.tr {g g' g2 : Nat → Nat → Int32} {n m : Int} (h : rwL g g' n) (h2 : rwL g' g2 m) (hm : n ≤ m) : rwL g g2 n := fun t ht k hk => (h2 t (by omega) k hk).trans (h t ht k hk)
theorem rwL.fr {g g' : Nat → Nat → Int32} {n : Int} {S : List Nat} (h : Fr S g g') (hS : ∀ i, i ∈ [1, 2, 3, 4, 5] → i ∉ S) : rwL g g' n := fun t _ k hk => by
  rw [h (k + 1) (hS _ (by simp; omega))]
theorem tkR.rows {g g' : Nat → Nat → Int32} {x1 x2 x3 x4 x5 : Int32} (h : tkR g g' x1 x2 x3 x4 x5) (h0 : 0 ≤ (g 31 0).toInt) : rwL g g' (g 31 0).toInt := fun t ht k hk => by
  have hn : t ≠ (g 31 0).toNatClampNeg := fun e => by have q : (g 31 0).toNatClampNeg = (g 31 0).toInt.toNat := rfl; omega
  obtain ⟨-, h1, h2, h3, h4, h5⟩ := h
  match k, hk with
  | 0, _ => rw [h1, pk_un hn]
  | 1, _ => rw [h2, pk_un hn]
  | 2, _ => rw [h3, pk_un hn]
  | 3, _ => rw [h4, pk_un hn]
  | 4, _ => rw [h5, pk_un hn]
/-- the price of tariff t for q -/
def mpr (g : Nat → Nat → Int32) (t : Nat) (q : Int32) : Int64 := mpF (g 1 t) (g 2 t) (g 3 t) (g 4 t) q
/-- a is better than b for q -/
def mbt (g : Nat → Nat → Int32) (a b q : Int32) : Bool := decide (mpr g a.toNatClampNeg q < mpr g b.toNatClampNeg q) || (decide (mpr g a.toNatClampNeg q = mpr g b.toNatClampNeg q) && decide (a < b))
section MB
variable {g : Nat → Nat → Int32} {a b q : Int32}
theorem mbt_1 (h : mpr g a.toNatClampNeg q < mpr g b.toNatClampNeg q) : mbt g a b q = true := by simp [mbt, h]
theorem mbt_2 (h : mpr g a.toNatClampNeg q = mpr g b.toNatClampNeg q) (h2 : a < b) : mbt g a b q = true := by simp [mbt, h, h2]
theorem mbt_3 (h : ¬ mpr g a.toNatClampNeg q < mpr g b.toNatClampNeg q) (h2 : ¬ mpr g a.toNatClampNeg q = mpr g b.toNatClampNeg q) : mbt g a b q = false := by simp [mbt, h, h2]
theorem mbt_4 (h : ¬ mpr g a.toNatClampNeg q < mpr g b.toNatClampNeg q) (h2 : ¬ a < b) : mbt g a b q = false := by simp [mbt, h, h2]
theorem mbt_asym (h : mbt g a b q = true) : mbt g b a q = false := by
  simp only [mbt, Bool.or_eq_true, Bool.and_eq_true, decide_eq_true_eq] at h
  rcases h with h | ⟨h1, h2⟩
  · refine mbt_3 (fun z => ?_) (fun z => ?_)
    · rw [Int64.lt_iff_toInt_lt] at h z; omega
    · rw [z, Int64.lt_iff_toInt_lt] at h; omega
  · refine mbt_4 (fun z => ?_) (fun z => ?_)
    · rw [h1, Int64.lt_iff_toInt_lt] at z; omega
    · rw [Int32.lt_iff_toInt_lt] at h2 z; omega
end MB
/-- one node more on the way up -/
def mstep (R : Nat → Nat → Int32) (S : Nat → Int32) (q : Int32) (n : Nat) (b : Int32) : Int32 := if ¬ S n = -1 ∧ (b = -1 ∨ mbt R (S n) b q = true) then S n else b
def mchL (R : Nat → Nat → Int32) (S : Nat → Int32) (q : Int32) : Nat → Nat → Int32 → Int32
  | 0, _, b => b
  | f + 1, n, b => if n = 0 then b else mchL R S q f (n / 2) (mstep R S q n b)
/-- which tariff is cheapest for q, by what stands at the nodes -/
def mcS (R : Nat → Nat → Int32) (S : Nat → Int32) (q : Int32) : Int32 := mchL R S q 8 (64 + q.toNatClampNeg) (-1)
def mch (g : Nat → Nat → Int32) (q : Int32) : Int32 := mcS g (g 6) q
section MC
variable {R : Nat → Nat → Int32} {S : Nat → Int32} {q b t : Int32} {n : Nat}
theorem mstep_y (e : t = S n) (h : ¬ t = -1) (h2 : b = -1 ∨ mbt R t b q = true) : mstep R S q n b = t := by subst e; exact if_pos ⟨h, h2⟩
theorem mstep_n (e : t = S n) (h : t = -1) : mstep R S q n b = b := by subst e; exact if_neg (fun z => z.1 h)
theorem mstep_m (e : t = S n) (h : ¬ b = -1) (h2 : mbt R t b q = false) : mstep R S q n b = b := by subst e; exact if_neg (fun z => z.2.elim h (fun y => by rw [h2] at y; cases y))
theorem mchL_0 {f : Nat} : mchL R S q f 0 b = b := by cases f <;> rfl
theorem mchL_s {c r : Int32} {f n2 : Nat} (h : mchL R S q (f + 1) n b = r) (hn : ¬ n = 0) (h2 : n2 = n / 2) (hs : mstep R S q n b = c) : mchL R S q f n2 c = r := by
  rw [mchL, if_neg hn, hs] at h; rw [h2]; exact h
end MC
