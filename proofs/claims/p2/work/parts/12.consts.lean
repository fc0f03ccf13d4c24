theorem ti_half {x v : Int32} (h : 0 ≤ x.toInt) (e : v = x / 2) : v.toInt = x.toInt / 2 := by
  obtain ⟨j, hj, rfl⟩ := nI_of (x := x) (by rw [Int32.lt_iff_toInt_lt]; show ¬ x.toInt < 0; omega)
  rw [e, show (2 : Int32) = nI 2 from rfl, pk_div hj (by decide) (by decide), nI_toInt (by omega), nI_toInt hj]; omega
theorem ti_ltk {x y : Int32} {a b : Int} (hx : x.toInt = a) (hy : y.toInt = b) (h : x < y) : a < b := by rw [← hx, ← hy]; exact ti_lt h
theorem ti_nltk {x y : Int32} {a b : Int} (hx : x.toInt = a) (hy : y.toInt = b) (h : ¬ x < y) : b ≤ a := by rw [← hx, ← hy]; exact ti_nlt h
theorem ti_lek {x y : Int32} {a b : Int} (hx : x.toInt = a) (hy : y.toInt = b) (h : x ≤ y) : a ≤ b := by rw [← hx, ← hy]; exact ti_le h
theorem ti_nlek {x y : Int32} {a b : Int} (hx : x.toInt = a) (hy : y.toInt = b) (h : ¬ x ≤ y) : b < a := by rw [← hx, ← hy]; exact ti_nle h
theorem ti_eqk {x y : Int32} {a b : Int} (hx : x.toInt = a) (hy : y.toInt = b) (h : x = y) : a = b := by rw [← hx, ← hy]; exact ti_eq h
theorem ti_nek {x y : Int32} {a b : Int} (hx : x.toInt = a) (hy : y.toInt = b) (h : ¬ x = y) : ¬ a = b := by rw [← hx, ← hy]; exact ti_ne h
theorem ti_addk {x y v : Int32} {a b : Int} (hx : x.toInt = a) (hy : y.toInt = b) (h1 : -2147483648 ≤ a + b) (h2 : a + b ≤ 2147483647) (e : v = x + y) : v.toInt = a + b := by subst hx; subst hy; rw [e]; exact ti_add h1 h2
theorem ti_subk {x y v : Int32} {a b : Int} (hx : x.toInt = a) (hy : y.toInt = b) (h1 : -2147483648 ≤ a - b) (h2 : a - b ≤ 2147483647) (e : v = x - y) : v.toInt = a - b := by subst hx; subst hy; rw [e]; exact ti_sub h1 h2
theorem ti_mulk {x y v : Int32} {a b : Int} (hx : x.toInt = a) (hy : y.toInt = b) (h1 : -2147483648 ≤ a * b) (h2 : a * b ≤ 2147483647) (e : v = x * y) : v.toInt = a * b := by subst hx; subst hy; rw [e]; exact ti_mul h1 h2
theorem tk_m1 : ((-1) : Int32).toInt = (-1) := by decide +kernel
theorem tk_0 : (0 : Int32).toInt = 0 := by decide +kernel
theorem tk_1 : (1 : Int32).toInt = 1 := by decide +kernel
theorem tk_2 : (2 : Int32).toInt = 2 := by decide +kernel
theorem tk_3 : (3 : Int32).toInt = 3 := by decide +kernel
theorem tk_4 : (4 : Int32).toInt = 4 := by decide +kernel
theorem tk_5 : (5 : Int32).toInt = 5 := by decide +kernel
theorem tk_6 : (6 : Int32).toInt = 6 := by decide +kernel
theorem tk_7 : (7 : Int32).toInt = 7 := by decide +kernel
theorem tk_9 : (9 : Int32).toInt = 9 := by decide +kernel
theorem tk_19 : (19 : Int32).toInt = 19 := by decide +kernel
theorem tk_40 : (40 : Int32).toInt = 40 := by decide +kernel
theorem tk_64 : (64 : Int32).toInt = 64 := by decide +kernel
theorem tk_70 : (70 : Int32).toInt = 70 := by decide +kernel
theorem tk_99 : (99 : Int32).toInt = 99 := by decide +kernel
theorem tk_127 : (127 : Int32).toInt = 127 := by decide +kernel
theorem tk_128 : (128 : Int32).toInt = 128 := by decide +kernel
theorem tk_199 : (199 : Int32).toInt = 199 := by decide +kernel
theorem tk_2100 : (2100 : Int32).toInt = 2100 := by decide +kernel
theorem tk_12345 : (12345 : Int32).toInt = 12345 := by decide +kernel
theorem tk_65536 : (65536 : Int32).toInt = 65536 := by decide +kernel
theorem tk_1103515245 : (1103515245 : Int32).toInt = 1103515245 := by decide +kernel
theorem tk_2147483647 : (2147483647 : Int32).toInt = 2147483647 := by decide +kernel
