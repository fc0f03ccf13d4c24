/-- some desk has the letter that f has at place i, all ahead of it being right -/
def okp (f : Nat → Int32) (i : Nat) : Prop := i < 47 ∧ (i % 12 = 0 → ((f i).toInt = 116 ∨ (f i).toInt = 102 ∨ (f i).toInt = 115 ∨ (f i).toInt = 98 ∨ (f i).toInt = 111)) ∧ (i % 12 = 1 ∨ i % 12 = 3 → ((f i).toInt = 43 ∨ (f i).toInt = 45)) ∧ (i % 12 = 2 ∨ i % 12 = 4 ∨ i % 12 = 5 → (48 ≤ (f i).toInt ∧ (f i).toInt ≤ 57)) ∧ (i % 12 = 6 → (f i).toInt = 64) ∧ (i % 12 = 7 → (48 ≤ (f i).toInt ∧ (f i).toInt ≤ 54)) ∧ (i % 12 = 8 → (48 ≤ (f i).toInt ∧ (f i).toInt ≤ 57 ∧ 10 * ((f (i - 1)).toInt - 48) + ((f i).toInt - 48) ≤ 63)) ∧ (i % 12 = 9 → (48 ≤ (f i).toInt ∧ (f i).toInt ≤ 54 ∧ (f (i - 2)).toInt ≤ (f i).toInt)) ∧ (i % 12 = 10 → (48 ≤ (f i).toInt ∧ (f i).toInt ≤ 57 ∧ 10 * ((f (i - 1)).toInt - 48) + ((f i).toInt - 48) ≤ 63 ∧ 10 * ((f (i - 3)).toInt - 48) + ((f (i - 2)).toInt - 48) ≤ 10 * ((f (i - 1)).toInt - 48) + ((f i).toInt - 48))) ∧ (i % 12 = 11 → (f i).toInt = 44)
/-- k is the first place of the n letters that is wrong, or n -/
def fwp (f : Nat → Int32) (n : Int) (k : Nat) : Prop := (k : Int) ≤ n ∧ (∀ j, j < k → okp f j) ∧ ((k : Int) < n → ¬ okp f k)
theorem fwp_one {f : Nat → Int32} {n : Int} {k k2 : Nat} (h : fwp f n k) (h2 : fwp f n k2) : k = k2 := by
  rcases Nat.lt_trichotomy k k2 with q | q | q
  · have := h2.1; exact absurd (h2.2.1 k q) (h.2.2 (by omega))
  · exact q
  · have := h.1; exact absurd (h.2.1 k2 q) (h2.2.2 (by omega))
/-- the letters are a desk -/
def whp (f : Nat → Int32) (n : Int) : Prop := n % 12 = 11 ∧ fwp f n n.toNat
theorem ok0 {f : Nat → Int32} {i : Nat} (h : i % 12 = 0) : okp f i ↔ (i < 47 ∧ ((f i).toInt = 116 ∨ (f i).toInt = 102 ∨ (f i).toInt = 115 ∨ (f i).toInt = 98 ∨ (f i).toInt = 111)) := by
  refine ⟨fun q => ⟨q.1, q.2.1 h⟩, fun q => ⟨q.1, fun z => q.2, fun z => absurd z (by omega), fun z => absurd z (by omega), fun z => absurd z (by omega), fun z => absurd z (by omega), fun z => absurd z (by omega), fun z => absurd z (by omega), fun z => absurd z (by omega), fun z => absurd z (by omega)⟩⟩
theorem ok1 {f : Nat → Int32} {i : Nat} (h : i % 12 = 1 ∨ i % 12 = 3) : okp f i ↔ (i < 47 ∧ ((f i).toInt = 43 ∨ (f i).toInt = 45)) := by
  refine ⟨fun q => ⟨q.1, q.2.2.1 h⟩, fun q => ⟨q.1, fun z => absurd z (by omega), fun z => q.2, fun z => absurd z (by omega), fun z => absurd z (by omega), fun z => absurd z (by omega), fun z => absurd z (by omega), fun z => absurd z (by omega), fun z => absurd z (by omega), fun z => absurd z (by omega)⟩⟩
theorem ok2 {f : Nat → Int32} {i : Nat} (h : i % 12 = 2 ∨ i % 12 = 4 ∨ i % 12 = 5) : okp f i ↔ (i < 47 ∧ (48 ≤ (f i).toInt ∧ (f i).toInt ≤ 57)) := by
  refine ⟨fun q => ⟨q.1, q.2.2.2.1 h⟩, fun q => ⟨q.1, fun z => absurd z (by omega), fun z => absurd z (by omega), fun z => q.2, fun z => absurd z (by omega), fun z => absurd z (by omega), fun z => absurd z (by omega), fun z => absurd z (by omega), fun z => absurd z (by omega), fun z => absurd z (by omega)⟩⟩
theorem ok6 {f : Nat → Int32} {i : Nat} (h : i % 12 = 6) : okp f i ↔ (i < 47 ∧ (f i).toInt = 64) := by
  refine ⟨fun q => ⟨q.1, q.2.2.2.2.1 h⟩, fun q => ⟨q.1, fun z => absurd z (by omega), fun z => absurd z (by omega), fun z => absurd z (by omega), fun z => q.2, fun z => absurd z (by omega), fun z => absurd z (by omega), fun z => absurd z (by omega), fun z => absurd z (by omega), fun z => absurd z (by omega)⟩⟩
theorem ok7 {f : Nat → Int32} {i : Nat} (h : i % 12 = 7) : okp f i ↔ (i < 47 ∧ (48 ≤ (f i).toInt ∧ (f i).toInt ≤ 54)) := by
  refine ⟨fun q => ⟨q.1, q.2.2.2.2.2.1 h⟩, fun q => ⟨q.1, fun z => absurd z (by omega), fun z => absurd z (by omega), fun z => absurd z (by omega), fun z => absurd z (by omega), fun z => q.2, fun z => absurd z (by omega), fun z => absurd z (by omega), fun z => absurd z (by omega), fun z => absurd z (by omega)⟩⟩
theorem ok8 {f : Nat → Int32} {i : Nat} (h : i % 12 = 8) : okp f i ↔ (i < 47 ∧ (48 ≤ (f i).toInt ∧ (f i).toInt ≤ 57 ∧ 10 * ((f (i - 1)).toInt - 48) + ((f i).toInt - 48) ≤ 63)) := by
  refine ⟨fun q => ⟨q.1, q.2.2.2.2.2.2.1 h⟩, fun q => ⟨q.1, fun z => absurd z (by omega), fun z => absurd z (by omega), fun z => absurd z (by omega), fun z => absurd z (by omega), fun z => absurd z (by omega), fun z => q.2, fun z => absurd z (by omega), fun z => absurd z (by omega), fun z => absurd z (by omega)⟩⟩
theorem ok9 {f : Nat → Int32} {i : Nat} (h : i % 12 = 9) : okp f i ↔ (i < 47 ∧ (48 ≤ (f i).toInt ∧ (f i).toInt ≤ 54 ∧ (f (i - 2)).toInt ≤ (f i).toInt)) := by
  refine ⟨fun q => ⟨q.1, q.2.2.2.2.2.2.2.1 h⟩, fun q => ⟨q.1, fun z => absurd z (by omega), fun z => absurd z (by omega), fun z => absurd z (by omega), fun z => absurd z (by omega), fun z => absurd z (by omega), fun z => absurd z (by omega), fun z => q.2, fun z => absurd z (by omega), fun z => absurd z (by omega)⟩⟩
theorem ok10 {f : Nat → Int32} {i : Nat} (h : i % 12 = 10) : okp f i ↔ (i < 47 ∧ (48 ≤ (f i).toInt ∧ (f i).toInt ≤ 57 ∧ 10 * ((f (i - 1)).toInt - 48) + ((f i).toInt - 48) ≤ 63 ∧ 10 * ((f (i - 3)).toInt - 48) + ((f (i - 2)).toInt - 48) ≤ 10 * ((f (i - 1)).toInt - 48) + ((f i).toInt - 48))) := by
  refine ⟨fun q => ⟨q.1, q.2.2.2.2.2.2.2.2.1 h⟩, fun q => ⟨q.1, fun z => absurd z (by omega), fun z => absurd z (by omega), fun z => absurd z (by omega), fun z => absurd z (by omega), fun z => absurd z (by omega), fun z => absurd z (by omega), fun z => absurd z (by omega), fun z => q.2, fun z => absurd z (by omega)⟩⟩
theorem ok11 {f : Nat → Int32} {i : Nat} (h : i % 12 = 11) : okp f i ↔ (i < 47 ∧ (f i).toInt = 44) := by
  refine ⟨fun q => ⟨q.1, q.2.2.2.2.2.2.2.2.2 h⟩, fun q => ⟨q.1, fun z => absurd z (by omega), fun z => absurd z (by omega), fun z => absurd z (by omega), fun z => absurd z (by omega), fun z => absurd z (by omega), fun z => absurd z (by omega), fun z => absurd z (by omega), fun z => absurd z (by omega), fun z => q.2⟩⟩
