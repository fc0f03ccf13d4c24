theorem ti_remk {x y v : Int32} {a b : Int} (hx : x.toInt = a) (hy : y.toInt = b) (h1 : 0 ≤ a) (h2 : 0 < b) (e : v = x - x / y * y) : v.toInt = a % b := by
  subst hx; subst hy
  obtain ⟨j, hj, rfl⟩ := nI_of (x := x) (by rw [Int32.lt_iff_toInt_lt]; show ¬ x.toInt < 0; omega)
  obtain ⟨i, hi, rfl⟩ := nI_of (x := y) (by rw [Int32.lt_iff_toInt_lt]; show ¬ y.toInt < 0; omega)
  rw [nI_toInt hi] at h2
  have hm := Nat.mod_lt j (show 0 < i by omega)
  rw [e, pk_rem hj (by omega) hi, nI_toInt (by omega), nI_toInt hj, nI_toInt hi]; omega
theorem ti_divk {x y v : Int32} {a b : Int} (hx : x.toInt = a) (hy : y.toInt = b) (h1 : 0 ≤ a) (h2 : 0 < b) (e : v = x / y) : v.toInt = a / b := by
  subst hx; subst hy
  obtain ⟨j, hj, rfl⟩ := nI_of (x := x) (by rw [Int32.lt_iff_toInt_lt]; show ¬ x.toInt < 0; omega)
  obtain ⟨i, hi, rfl⟩ := nI_of (x := y) (by rw [Int32.lt_iff_toInt_lt]; show ¬ y.toInt < 0; omega)
  rw [nI_toInt hi] at h2
  have hm := Nat.div_le_self j i
  rw [e, pk_div hj (by omega) hi, nI_toInt (by omega), nI_toInt hj, nI_toInt hi]; omega
theorem ti_clamp {x : Int32} {k : Nat} (h : x.toInt = k) : x.toNatClampNeg = k := by
  show x.toInt.toNat = k; omega
theorem ti_byte {x : Int32} (h1 : -128 ≤ x.toInt) (h2 : x.toInt < 128) : x.toInt8.toInt32 = x := by
  apply Int32.toInt_inj.1
  rw [Int8.toInt_toInt32, Int32.toInt_toInt8, Int.bmod_eq_of_le (by omega) (by omega)]
theorem ti_char {x : Int32} (h1 : 0 ≤ x.toInt) (h2 : x.toInt < 128) : (x.toUInt32 % 65536).toInt32 = x := by
  obtain ⟨j, hj, rfl⟩ := nI_of (x := x) (by rw [Int32.lt_iff_toInt_lt]; show ¬ x.toInt < 0; omega)
  rw [nI_toInt hj] at h2
  rw [pk_char, pk_tn (by omega), Nat.mod_eq_of_lt (by omega)]
theorem ti_half {x v : Int32} (h : 0 ≤ x.toInt) (e : v = x / 2) : v.toInt = x.toInt / 2 := by
  obtain ⟨j, hj, rfl⟩ := nI_of (x := x) (by rw [Int32.lt_iff_toInt_lt]; show ¬ x.toInt < 0; omega)
  rw [e, show (2 : Int32) = nI 2 from rfl, pk_div hj (by decide) (by decide), nI_toInt (by omega), nI_toInt hj]; omega
theorem ti_ltk {x y : Int32} {a b : Int} (hx : x.toInt = a) (hy : y.toInt = b) (h : x < y) : a < b := by rw [← hx, ← hy]; exact ti_lt h
theorem ti_nltk {x y : Int32} {a b : Int} (hx : x.toInt = a) (hy : y.toInt = b) (h : ¬ x < y) : b ≤ a := by rw [← hx, ← hy]; exact ti_nlt h
theorem ti_lek {x y : Int32} {a b : Int} (hx : x.toInt = a) (hy : y.toInt = b) (h : x ≤ y) : a ≤ b := by rw [← hx, ← hy]; exact ti_le h
theorem ti_nlek {x y : Int32} {a b : Int} (hx : x.toInt = a) (hy : y.toInt = b) (h : ¬ x ≤ y) : b < a := by rw [← hx, ← hy]; exact ti_nle h
theorem ti_eqk {x y : Int32} {a b : Int} (hx : x.toInt = a) (hy : y.toInt = b) (h : x = y) : a = b := by rw [← hx, ← hy]; exact ti_eq h
theorem ti_nek {x y : Int32} {a b : Int} (hx : x.toInt = a) (hy : y.toInt = b) (h : ¬ x = y) : ¬ a = b := by rw [← hx, ← hy]; exact ti_ne h
theorem ti_addk {x y v : Int32} {a b : Int} (hx : x.toInt = a) (hy : y.toInt = b) (h1 : -2147483648 ≤ a + b) (h2 : a + b ≤ 2147483647) (e : v = x + y) : v.toInt = a + b := by subst hx; subst hy; rw [e]; exact ti_add h1 h2
theorem ti_subk {x y v : Int32} {a b : Int} (hx : x.toInt = a) (hy : y.toInt = b) (h1 : -2147483648 ≤ a - b) (h2 : a - b ≤ 2147483647) (e : v = x - y) : v.toInt = a - b := by subst hx; subst hy; rw [e]; exact ti_sub h1 h2
theorem ti_mulk {x y v : Int32} {a b : Int} (hx : x.toInt = a) (hy : y.toInt = b) (h1 : -2147483648 ≤ a * b) (h2 : a * b ≤ 2147483647) (e : v = x * y) : v.toInt = a * b := by subst hx; subst hy; rw [e]; exact ti_mul h1 h2
theorem tk_m104 : ((-104) : Int32).toInt = (-104) := by decide +kernel
theorem tk_m103 : ((-103) : Int32).toInt = (-103) := by decide +kernel
theorem tk_m102 : ((-102) : Int32).toInt = (-102) := by decide +kernel
theorem tk_m101 : ((-101) : Int32).toInt = (-101) := by decide +kernel
theorem tk_m1 : ((-1) : Int32).toInt = (-1) := by decide +kernel
theorem tk_0 : (0 : Int32).toInt = 0 := by decide +kernel
theorem tk_1 : (1 : Int32).toInt = 1 := by decide +kernel
theorem tk_2 : (2 : Int32).toInt = 2 := by decide +kernel
theorem tk_3 : (3 : Int32).toInt = 3 := by decide +kernel
theorem tk_4 : (4 : Int32).toInt = 4 := by decide +kernel
theorem tk_5 : (5 : Int32).toInt = 5 := by decide +kernel
theorem tk_6 : (6 : Int32).toInt = 6 := by decide +kernel
theorem tk_7 : (7 : Int32).toInt = 7 := by decide +kernel
theorem tk_8 : (8 : Int32).toInt = 8 := by decide +kernel
theorem tk_9 : (9 : Int32).toInt = 9 := by decide +kernel
theorem tk_10 : (10 : Int32).toInt = 10 := by decide +kernel
theorem tk_11 : (11 : Int32).toInt = 11 := by decide +kernel
theorem tk_12 : (12 : Int32).toInt = 12 := by decide +kernel
theorem tk_13 : (13 : Int32).toInt = 13 := by decide +kernel
theorem tk_14 : (14 : Int32).toInt = 14 := by decide +kernel
theorem tk_15 : (15 : Int32).toInt = 15 := by decide +kernel
theorem tk_16 : (16 : Int32).toInt = 16 := by decide +kernel
theorem tk_17 : (17 : Int32).toInt = 17 := by decide +kernel
theorem tk_18 : (18 : Int32).toInt = 18 := by decide +kernel
theorem tk_19 : (19 : Int32).toInt = 19 := by decide +kernel
theorem tk_20 : (20 : Int32).toInt = 20 := by decide +kernel
theorem tk_21 : (21 : Int32).toInt = 21 := by decide +kernel
theorem tk_22 : (22 : Int32).toInt = 22 := by decide +kernel
theorem tk_23 : (23 : Int32).toInt = 23 := by decide +kernel
theorem tk_24 : (24 : Int32).toInt = 24 := by decide +kernel
theorem tk_25 : (25 : Int32).toInt = 25 := by decide +kernel
theorem tk_26 : (26 : Int32).toInt = 26 := by decide +kernel
theorem tk_27 : (27 : Int32).toInt = 27 := by decide +kernel
theorem tk_28 : (28 : Int32).toInt = 28 := by decide +kernel
theorem tk_29 : (29 : Int32).toInt = 29 := by decide +kernel
theorem tk_30 : (30 : Int32).toInt = 30 := by decide +kernel
theorem tk_31 : (31 : Int32).toInt = 31 := by decide +kernel
theorem tk_32 : (32 : Int32).toInt = 32 := by decide +kernel
theorem tk_33 : (33 : Int32).toInt = 33 := by decide +kernel
theorem tk_34 : (34 : Int32).toInt = 34 := by decide +kernel
theorem tk_35 : (35 : Int32).toInt = 35 := by decide +kernel
theorem tk_36 : (36 : Int32).toInt = 36 := by decide +kernel
theorem tk_37 : (37 : Int32).toInt = 37 := by decide +kernel
theorem tk_38 : (38 : Int32).toInt = 38 := by decide +kernel
theorem tk_39 : (39 : Int32).toInt = 39 := by decide +kernel
theorem tk_40 : (40 : Int32).toInt = 40 := by decide +kernel
theorem tk_41 : (41 : Int32).toInt = 41 := by decide +kernel
theorem tk_42 : (42 : Int32).toInt = 42 := by decide +kernel
theorem tk_43 : (43 : Int32).toInt = 43 := by decide +kernel
theorem tk_44 : (44 : Int32).toInt = 44 := by decide +kernel
theorem tk_45 : (45 : Int32).toInt = 45 := by decide +kernel
theorem tk_46 : (46 : Int32).toInt = 46 := by decide +kernel
theorem tk_47 : (47 : Int32).toInt = 47 := by decide +kernel
theorem tk_48 : (48 : Int32).toInt = 48 := by decide +kernel
theorem tk_49 : (49 : Int32).toInt = 49 := by decide +kernel
theorem tk_50 : (50 : Int32).toInt = 50 := by decide +kernel
theorem tk_51 : (51 : Int32).toInt = 51 := by decide +kernel
theorem tk_52 : (52 : Int32).toInt = 52 := by decide +kernel
theorem tk_53 : (53 : Int32).toInt = 53 := by decide +kernel
theorem tk_54 : (54 : Int32).toInt = 54 := by decide +kernel
theorem tk_55 : (55 : Int32).toInt = 55 := by decide +kernel
theorem tk_56 : (56 : Int32).toInt = 56 := by decide +kernel
theorem tk_57 : (57 : Int32).toInt = 57 := by decide +kernel
theorem tk_58 : (58 : Int32).toInt = 58 := by decide +kernel
theorem tk_59 : (59 : Int32).toInt = 59 := by decide +kernel
theorem tk_60 : (60 : Int32).toInt = 60 := by decide +kernel
theorem tk_61 : (61 : Int32).toInt = 61 := by decide +kernel
theorem tk_62 : (62 : Int32).toInt = 62 := by decide +kernel
theorem tk_63 : (63 : Int32).toInt = 63 := by decide +kernel
theorem tk_64 : (64 : Int32).toInt = 64 := by decide +kernel
theorem tk_65 : (65 : Int32).toInt = 65 := by decide +kernel
theorem tk_66 : (66 : Int32).toInt = 66 := by decide +kernel
theorem tk_67 : (67 : Int32).toInt = 67 := by decide +kernel
theorem tk_68 : (68 : Int32).toInt = 68 := by decide +kernel
theorem tk_69 : (69 : Int32).toInt = 69 := by decide +kernel
theorem tk_70 : (70 : Int32).toInt = 70 := by decide +kernel
theorem tk_71 : (71 : Int32).toInt = 71 := by decide +kernel
theorem tk_72 : (72 : Int32).toInt = 72 := by decide +kernel
theorem tk_73 : (73 : Int32).toInt = 73 := by decide +kernel
theorem tk_74 : (74 : Int32).toInt = 74 := by decide +kernel
theorem tk_75 : (75 : Int32).toInt = 75 := by decide +kernel
theorem tk_76 : (76 : Int32).toInt = 76 := by decide +kernel
theorem tk_77 : (77 : Int32).toInt = 77 := by decide +kernel
theorem tk_78 : (78 : Int32).toInt = 78 := by decide +kernel
theorem tk_79 : (79 : Int32).toInt = 79 := by decide +kernel
theorem tk_80 : (80 : Int32).toInt = 80 := by decide +kernel
theorem tk_81 : (81 : Int32).toInt = 81 := by decide +kernel
theorem tk_82 : (82 : Int32).toInt = 82 := by decide +kernel
theorem tk_83 : (83 : Int32).toInt = 83 := by decide +kernel
theorem tk_84 : (84 : Int32).toInt = 84 := by decide +kernel
theorem tk_85 : (85 : Int32).toInt = 85 := by decide +kernel
theorem tk_86 : (86 : Int32).toInt = 86 := by decide +kernel
theorem tk_87 : (87 : Int32).toInt = 87 := by decide +kernel
theorem tk_88 : (88 : Int32).toInt = 88 := by decide +kernel
theorem tk_89 : (89 : Int32).toInt = 89 := by decide +kernel
theorem tk_90 : (90 : Int32).toInt = 90 := by decide +kernel
theorem tk_91 : (91 : Int32).toInt = 91 := by decide +kernel
theorem tk_92 : (92 : Int32).toInt = 92 := by decide +kernel
theorem tk_93 : (93 : Int32).toInt = 93 := by decide +kernel
theorem tk_94 : (94 : Int32).toInt = 94 := by decide +kernel
theorem tk_95 : (95 : Int32).toInt = 95 := by decide +kernel
theorem tk_96 : (96 : Int32).toInt = 96 := by decide +kernel
theorem tk_97 : (97 : Int32).toInt = 97 := by decide +kernel
theorem tk_98 : (98 : Int32).toInt = 98 := by decide +kernel
theorem tk_99 : (99 : Int32).toInt = 99 := by decide +kernel
theorem tk_100 : (100 : Int32).toInt = 100 := by decide +kernel
theorem tk_101 : (101 : Int32).toInt = 101 := by decide +kernel
theorem tk_102 : (102 : Int32).toInt = 102 := by decide +kernel
theorem tk_103 : (103 : Int32).toInt = 103 := by decide +kernel
theorem tk_104 : (104 : Int32).toInt = 104 := by decide +kernel
theorem tk_105 : (105 : Int32).toInt = 105 := by decide +kernel
theorem tk_106 : (106 : Int32).toInt = 106 := by decide +kernel
theorem tk_107 : (107 : Int32).toInt = 107 := by decide +kernel
theorem tk_108 : (108 : Int32).toInt = 108 := by decide +kernel
theorem tk_109 : (109 : Int32).toInt = 109 := by decide +kernel
theorem tk_110 : (110 : Int32).toInt = 110 := by decide +kernel
theorem tk_111 : (111 : Int32).toInt = 111 := by decide +kernel
theorem tk_112 : (112 : Int32).toInt = 112 := by decide +kernel
theorem tk_113 : (113 : Int32).toInt = 113 := by decide +kernel
theorem tk_114 : (114 : Int32).toInt = 114 := by decide +kernel
theorem tk_115 : (115 : Int32).toInt = 115 := by decide +kernel
theorem tk_116 : (116 : Int32).toInt = 116 := by decide +kernel
theorem tk_117 : (117 : Int32).toInt = 117 := by decide +kernel
theorem tk_118 : (118 : Int32).toInt = 118 := by decide +kernel
theorem tk_119 : (119 : Int32).toInt = 119 := by decide +kernel
theorem tk_120 : (120 : Int32).toInt = 120 := by decide +kernel
theorem tk_121 : (121 : Int32).toInt = 121 := by decide +kernel
theorem tk_122 : (122 : Int32).toInt = 122 := by decide +kernel
theorem tk_123 : (123 : Int32).toInt = 123 := by decide +kernel
theorem tk_124 : (124 : Int32).toInt = 124 := by decide +kernel
theorem tk_125 : (125 : Int32).toInt = 125 := by decide +kernel
theorem tk_126 : (126 : Int32).toInt = 126 := by decide +kernel
theorem tk_127 : (127 : Int32).toInt = 127 := by decide +kernel
theorem tk_128 : (128 : Int32).toInt = 128 := by decide +kernel
theorem tk_199 : (199 : Int32).toInt = 199 := by decide +kernel
theorem tk_255 : (255 : Int32).toInt = 255 := by decide +kernel
theorem tk_2100 : (2100 : Int32).toInt = 2100 := by decide +kernel
theorem tk_12345 : (12345 : Int32).toInt = 12345 := by decide +kernel
theorem tk_65536 : (65536 : Int32).toInt = 65536 := by decide +kernel
theorem tk_268435456 : (268435456 : Int32).toInt = 268435456 := by decide +kernel
theorem tk_1103515245 : (1103515245 : Int32).toInt = 1103515245 := by decide +kernel
theorem tk_2147483647 : (2147483647 : Int32).toInt = 2147483647 := by decide +kernel
