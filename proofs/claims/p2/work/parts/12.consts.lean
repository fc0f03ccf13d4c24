theorem ti_remk {x y v : Int32} {a b : Int} (hx : x.toInt = a) (hy : y.toInt = b) (h1 : 0 ≤ a) (h2 : 0 < b) (e : v = x - x / y * y) : v.toInt = a % b := by
  subst hx; subst hy
  obtain ⟨j, hj, rfl⟩ := nI_of (x := x) (by rw [Int32.lt_iff_toInt_lt]; show ¬ x.toInt < 0; omega)
  obtain ⟨i, hi, rfl⟩ := nI_of (x := y) (by rw [Int32.lt_iff_toInt_lt]; show ¬ y.toInt < 0; omega)
  rw [nI_toInt hi] at h2
  have hm := Nat.mod_lt j (show 0 < i by omega)
  rw [e, pk_rem hj (by omega) hi, nI_toInt (by omega), nI_toInt hj, nI_toInt hi]; omega
theorem ti_divk {x y v : Int32} {a b : Int} (hx : x.toInt = a) (hy : y.toInt = b) (h1 : 0 ≤ a) (h2 : 0 < b) (e : v = x / y) : v.toInt = a / b := by
  subst hx; subst hy
  obtain ⟨j, hj, rfl⟩ := nI_of (x := x) (by rw [Int32.lt_iff_toInt_lt]; show ¬ x.toInt < 0; omega)
  obtain ⟨i, hi, rfl⟩ := nI_of (x := y) (by rw [Int32.lt_iff_toInt_lt]; show ¬ y.toInt < 0; omega)
  rw [nI_toInt hi] at h2
  have hm := Nat.div_le_self j i
  rw [e, pk_div hj (by omega) hi, nI_toInt (by omega), nI_toInt hj, nI_toInt hi]; omega
theorem ti_clamp {x : Int32} {k : Nat} (h : x.toInt = k) : x.toNatClampNeg = k := by
  show x.toInt.toNat = k; omega
theorem ti_byte {x : Int32} (h1 : -128 ≤ x.toInt) (h2 : x.toInt < 128) : x.toInt8.toInt32 = x := by
  apply Int32.toInt_inj.1
  rw [Int8.toInt_toInt32, Int32.toInt_toInt8, Int.bmod_eq_of_le (by omega) (by omega)]
theorem ti_char {x : Int32} (h1 : 0 ≤ x.toInt) (h2 : x.toInt < 128) : (x.toUInt32 % 65536).toInt32 = x := by
  obtain ⟨j, hj, rfl⟩ := nI_of (x := x) (by rw [Int32.lt_iff_toInt_lt]; show ¬ x.toInt < 0; omega)
  rw [nI_toInt hj] at h2
  rw [pk_char, pk_tn (by omega), Nat.mod_eq_of_lt (by omega)]
theorem ti_half {x v : Int32} (h : 0 ≤ x.toInt) (e : v = x / 2) : v.toInt = x.toInt / 2 := by
  obtain ⟨j, hj, rfl⟩ := nI_of (x := x) (by rw [Int32.lt_iff_toInt_lt]; show ¬ x.toInt < 0; omega)
  rw [e, show (2 : Int32) = nI 2 from rfl, pk_div hj (by decide) (by decide), nI_toInt (by omega), nI_toInt hj]; omega
theorem ti_ltk {x y : Int32} {a b : Int} (hx : x.toInt = a) (hy : y.toInt = b) (h : x < y) : a < b := by rw [← hx, ← hy]; exact ti_lt h
theorem ti_nltk {x y : Int32} {a b : Int} (hx : x.toInt = a) (hy : y.toInt = b) (h : ¬ x < y) : b ≤ a := by rw [← hx, ← hy]; exact ti_nlt h
theorem ti_lek {x y : Int32} {a b : Int} (hx : x.toInt = a) (hy : y.toInt = b) (h : x ≤ y) : a ≤ b := by rw [← hx, ← hy]; exact ti_le h
theorem ti_nlek {x y : Int32} {a b : Int} (hx : x.toInt = a) (hy : y.toInt = b) (h : ¬ x ≤ y) : b < a := by rw [← hx, ← hy]; exact ti_nle h
theorem ti_eqk {x y : Int32} {a b : Int} (hx : x.toInt = a) (hy : y.toInt = b) (h : x = y) : a = b := by rw [← hx, ← hy]; exact ti_eq h
theorem ti_nek {x y : Int32} {a b : Int} (hx : x.toInt = a) (hy : y.toInt = b) (h : ¬ x = y) : ¬ a = b := by rw [← hx, ← hy]; exact ti_ne h
theorem ti_addk {x y v : Int32} {a b : Int} (hx : x.toInt = a) (hy : y.toInt = b) (h1 : -2147483648 ≤ a + b) (h2 : a + b ≤ 2147483647) (e : v = x + y) : v.toInt = a + b := by subst hx; subst hy; rw [e]; exact ti_add h1 h2
theorem ti_subk {x y v : Int32} {a b : Int} (hx : x.toInt = a) (hy : y.toInt = b) (h1 : -2147483648 ≤ a - b) (h2 : a - b ≤ 2147483647) (e : v = x - y) : v.toInt = a - b := by subst hx; subst hy; rw [e]; exact ti_sub h1 h2
theorem ti_mulk {x y v : Int32} {a b : Int} (hx : x.toInt = a) (hy : y.toInt = b) (h1 : -2147483648 ≤ a * b) (h2 : a * b ≤ 2147483647) (e : v = x * y) : v.toInt = a * b := by subst hx; subst hy; rw [e]; exact ti_mul h1 h2
theorem tk_m104 : ((-104) : Int32).toInt = (-104) := by decide +kernel
theorem tk_m103 : ((-103) : Int32).toInt = (-103) := by decide +kernel
theorem tk_m102 : ((-102) : Int32).toInt = (-102) := by decide +kernel
theorem tk_m101 : ((-101) : Int32).toInt = (-101) := by decide +kernel
theorem tk_m1 : ((-1) : Int32).toInt = (-1) := by decide +kernel
theorem tk_0 : (0 : Int32).toInt = 0 := by decide +kernel
theorem tk_1 : (1 : Int32).toInt = 1 := by decide +kernel
theorem tk_2 : (2 : Int32).toInt = 2 := by decide +kernel
theorem tk_3 : (3 : Int32).toInt = 3 := by decide +kernel
theorem tk_4 : (4 : Int32).toInt = 4 := by decide +kernel
theorem tk_5 : (5 : Int32).toInt = 5 := by decide +kernel
theorem tk_6 : (6 : Int32).toInt = 6 := by decide +kernel
theorem tk_7 : (7 : Int32).toInt = 7 := by decide +kernel
theorem tk_8 : (8 : Int32).toInt = 8 := by decide +kernel
theorem tk_9 : (9 : Int32).toInt = 9 := by decide +kernel
theorem tk_10 : (10 : Int32).toInt = 10 := by decide +kernel
theorem tk_11 : (11 : Int32).toInt = 11 := by decide +kernel
theorem tk_12 : (12 : Int32).toInt = 12 := by decide +kernel
theorem tk_19 : (19 : Int32).toInt = 19 := by decide +kernel
theorem tk_30 : (30 : Int32).toInt = 30 := by decide +kernel
theorem tk_32 : (32 : Int32).toInt = 32 := by decide +kernel
theorem tk_40 : (40 : Int32).toInt = 40 := by decide +kernel
theorem tk_43 : (43 : Int32).toInt = 43 := by decide +kernel
theorem tk_44 : (44 : Int32).toInt = 44 := by decide +kernel
theorem tk_45 : (45 : Int32).toInt = 45 := by decide +kernel
theorem tk_47 : (47 : Int32).toInt = 47 := by decide +kernel
theorem tk_48 : (48 : Int32).toInt = 48 := by decide +kernel
theorem tk_50 : (50 : Int32).toInt = 50 := by decide +kernel
theorem tk_57 : (57 : Int32).toInt = 57 := by decide +kernel
theorem tk_63 : (63 : Int32).toInt = 63 := by decide +kernel
theorem tk_64 : (64 : Int32).toInt = 64 := by decide +kernel
theorem tk_70 : (70 : Int32).toInt = 70 := by decide +kernel
theorem tk_98 : (98 : Int32).toInt = 98 := by decide +kernel
theorem tk_99 : (99 : Int32).toInt = 99 := by decide +kernel
theorem tk_100 : (100 : Int32).toInt = 100 := by decide +kernel
theorem tk_102 : (102 : Int32).toInt = 102 := by decide +kernel
theorem tk_111 : (111 : Int32).toInt = 111 := by decide +kernel
theorem tk_115 : (115 : Int32).toInt = 115 := by decide +kernel
theorem tk_116 : (116 : Int32).toInt = 116 := by decide +kernel
theorem tk_126 : (126 : Int32).toInt = 126 := by decide +kernel
theorem tk_127 : (127 : Int32).toInt = 127 := by decide +kernel
theorem tk_128 : (128 : Int32).toInt = 128 := by decide +kernel
theorem tk_199 : (199 : Int32).toInt = 199 := by decide +kernel
theorem tk_255 : (255 : Int32).toInt = 255 := by decide +kernel
theorem tk_2100 : (2100 : Int32).toInt = 2100 := by decide +kernel
theorem tk_12345 : (12345 : Int32).toInt = 12345 := by decide +kernel
theorem tk_65536 : (65536 : Int32).toInt = 65536 := by decide +kernel
theorem tk_268435456 : (268435456 : Int32).toInt = 268435456 := by decide +kernel
theorem tk_1103515245 : (1103515245 : Int32).toInt = 1103515245 := by decide +kernel
theorem tk_2147483647 : (2147483647 : Int32).toInt = 2147483647 := by decide +kernel
