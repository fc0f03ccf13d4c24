/-! a tariff out of its letters -/
abbrev kLs : List Int32 := [116, 102, 115, 98, 111]
def kdF (c : Int32) : Int32 := if c = 116 then 0 else if c = 102 then 1 else if c = 115 then 2 else if c = 98 then 3 else if c = 111 then 4 else -1
def sgF (c : Int32) : Int32 := if c = 45 then -1 else 1
def rdT (f : Nat → Int32) (s : Nat) : Nat → Int32
  | 0 => kdF (f s)
  | 1 => sgF (f (s + 1)) * (f (s + 2) - 48)
  | 2 => sgF (f (s + 3)) * (10 * (f (s + 4) - 48) + (f (s + 4 + 1) - 48))
  | 3 => 10 * (f (s + 7) - 48) + (f (s + 7 + 1) - 48)
  | _ => 10 * (f (s + 9) - 48) + (f (s + 9 + 1) - 48)
theorem jk_at {x : Int32} {j : Nat} (hj : j < 5) (h : (kLs.getD j 0).toInt = x.toInt) : kdF x = nI j := by
  have e : kLs.getD j 0 = x := Int32.toInt_inj.mp h
  subst e
  match j, hj with
  | 0, _ => decide
  | 1, _ => decide
  | 2, _ => decide
  | 3, _ => decide
  | 4, _ => decide
theorem jk_out {x : Int32} (h : ∀ j : Nat, j < 5 → ¬ (kLs.getD j 0).toInt = x.toInt) : kdF x = -1 := by
  have n : ∀ j : Nat, j < 5 → ¬ x = kLs.getD j 0 := fun j hj e => h j hj (by rw [e])
  unfold kdF
  rw [if_neg (show ¬ x = 116 from n 0 (by decide)), if_neg (show ¬ x = 102 from n 1 (by decide)), if_neg (show ¬ x = 115 from n 2 (by decide)), if_neg (show ¬ x = 98 from n 3 (by decide)), if_neg (show ¬ x = 111 from n 4 (by decide))]
theorem kd_iff (x : Int32) : 0 ≤ (kdF x).toInt ↔ (x.toInt = 116 ∨ x.toInt = 102 ∨ x.toInt = 115 ∨ x.toInt = 98 ∨ x.toInt = 111) := by
  unfold kdF
  repeat' split
  all_goals first | (rename_i h; rw [h]; decide) | skip
  rename_i h1 h2 h3 h4 h5
  have q1 : ¬ x.toInt = 116 := fun z => h1 (Int32.toInt_inj.mp z)
  have q2 : ¬ x.toInt = 102 := fun z => h2 (Int32.toInt_inj.mp z)
  have q3 : ¬ x.toInt = 115 := fun z => h3 (Int32.toInt_inj.mp z)
  have q4 : ¬ x.toInt = 98 := fun z => h4 (Int32.toInt_inj.mp z)
  have q5 : ¬ x.toInt = 111 := fun z => h5 (Int32.toInt_inj.mp z)
  rw [show ((-1 : Int32)).toInt = -1 by decide]; omega
theorem kd_m1 (x : Int32) : -1 ≤ (kdF x).toInt ∧ (kdF x).toInt ≤ 4 := by
  unfold kdF
  repeat' split
  all_goals decide
/-- figures from behind place k, as a number -/
def vF (f : Nat → Int32) (k : Nat) : Nat → Int32
  | 0 => 0
  | n + 1 => 10 * vF f k n + (f (k + 1 + n) - 48)
theorem sg_m {c v : Int32} : sgF c * v = if c = 45 then -v else v := by
  unfold sgF
  split
  · rw [Int32.neg_mul, Int32.one_mul]
  · rw [Int32.one_mul]
theorem vF_1 {f : Nat → Int32} {k : Nat} : vF f k 1 = f (k + 1) - 48 := by
  show 10 * (0 : Int32) + (f (k + 1 + 0) - 48) = _
  rw [Int32.mul_zero, Int32.zero_add]
theorem vF_2 {f : Nat → Int32} {k : Nat} : vF f k 2 = 10 * (f (k + 1) - 48) + (f (k + 1 + 1) - 48) := by
  show 10 * vF f k 1 + (f (k + 1 + 1) - 48) = _
  rw [vF_1]
