theorem upd_at {f : Nat → Int32} {k j : Nat} {v : Int32} (e : j = k) : upd f k v j = v := by subst e; exact pk_us
/-- the page -/
def Rpg (g h : Nat → Nat → Int32) : Prop := g 2 = h 10 ∧ g 1 1 = h 42 0
/-- the tariffs -/
def Rtr (Z : ZT) (g tf h : Nat → Nat → Int32) : Prop := g 3 1 = h 31 0 ∧ (∀ t : Nat, (t : Int) < (h 31 0).toInt → ∀ k, k < 5 → tf (ro Z t) k = h (k + 1) t)
/-- what is seen -/
def Rsn (g h : Nat → Nat → Int32) : Prop := g 11 4 = h 38 0 ∧ (∀ i : Nat, (i : Int) < (h 38 0).toInt → g 12 i = h 7 i ∧ g 13 i = h 8 i ∧ g 14 i = h 9 i)
/-- the desks that were read -/
def Rdk (g h : Nat → Nat → Int32) (c : Nat) : Prop := g 0 10 = h 30 0 ∧ (g 0 8 = 0 ↔ h 30 0 = 0) ∧ 0 ≤ (h 30 0).toInt ∧ (h 30 0).toInt ≤ c
/-- the image -/
def Rkp (Z : ZT) (g tf h : Nat → Nat → Int32) : Prop := (0 ≤ (g 17 1).toInt ∧ (g 17 1).toInt ≤ 40) ∧ (0 ≤ (g 19 4).toInt ∧ (g 19 4).toInt ≤ 6) ∧ (h 49 0).toInt ≤ (h 30 0).toInt ∧ (g 0 9 = 0 ↔ ¬ (¬ h 48 0 = 0 ∧ h 49 0 = h 30 0)) ∧ (¬ g 0 9 = 0 → g 17 1 = h 50 0 ∧ g 19 4 = h 51 0 ∧ (∀ t : Nat, (t : Int) < (h 50 0).toInt → ∀ k, k < 5 → tf (ko Z t) k = h (k + 12) t) ∧ (∀ i : Nat, (i : Int) < (h 51 0).toInt → g 20 i = h 17 i ∧ g 21 i = h 18 i ∧ g 22 i = h 19 i))
section RE
variable {Z : ZT} {g g1 tf tf1 h h1 : Nat → Nat → Int32} {S S2 : List Nat}
theorem Rpg.fr (r : Rpg g h) (f : Fr S g g1) (f2 : Fr S2 h h1) (a : ∀ i, i ∈ [1, 2] → i ∉ S) (b : ∀ i, i ∈ [10, 42] → i ∉ S2) : Rpg g1 h1 :=
  ⟨(f 2 (a 2 (by decide))).trans (r.1.trans (f2 10 (b 10 (by decide))).symm), by rw [f 1 (a 1 (by decide)), f2 42 (b 42 (by decide))]; exact r.2⟩
theorem Rtr.fr (r : Rtr Z g tf h) (f : Fr S g g1) (f2 : Fr S2 h h1) (a : ∀ i, i ∈ [3] → i ∉ S) (b : ∀ i, i ∈ [1, 2, 3, 4, 5, 31] → i ∉ S2) (t1 : ∀ t : Nat, (t : Int) < (h 31 0).toInt → tf1 (ro Z t) = tf (ro Z t)) : Rtr Z g1 tf1 h1 := by
  refine ⟨by rw [f 3 (a 3 (by decide)), f2 31 (b 31 (by decide))]; exact r.1, fun t ht k hk => ?_⟩
  rw [f2 31 (b 31 (by decide))] at ht
  rw [t1 t ht, f2 (k + 1) (b (k + 1) (by simp; omega))]
  exact r.2 t ht k hk
theorem Rtr.rw (r : Rtr Z g tf h) (q : h1 31 0 = h 31 0 ∧ rwL h h1 (h 31 0).toInt) (t1 : ∀ t : Nat, (t : Int) < (h 31 0).toInt → tf1 (ro Z t) = tf (ro Z t)) : Rtr Z g tf1 h1 := by
  refine ⟨by rw [q.1]; exact r.1, fun t ht k hk => ?_⟩
  rw [q.1] at ht
  rw [t1 t ht, q.2 t ht k hk]
  exact r.2 t ht k hk
theorem Rtr.rw2 (r : Rtr Z g tf h) (q1 : g1 3 1 = g 3 1) (q : h1 31 0 = h 31 0 ∧ rwL h h1 (h 31 0).toInt) (t1 : ∀ t : Nat, (t : Int) < (h 31 0).toInt → tf1 (ro Z t) = tf (ro Z t)) : Rtr Z g1 tf1 h1 :=
  ⟨q1.trans (r.rw q t1).1, (r.rw q t1).2⟩
theorem Rsn.fr (r : Rsn g h) (f : Fr S g g1) (f2 : Fr S2 h h1) (a : ∀ i, i ∈ [11, 12, 13, 14] → i ∉ S) (b : ∀ i, i ∈ [7, 8, 9, 38] → i ∉ S2) : Rsn g1 h1 := by
  unfold Rsn
  rw [f 11 (a 11 (by decide)), f 12 (a 12 (by decide)), f 13 (a 13 (by decide)), f 14 (a 14 (by decide)), f2 7 (b 7 (by decide)), f2 8 (b 8 (by decide)), f2 9 (b 9 (by decide)), f2 38 (b 38 (by decide))]
  exact r
theorem Rdk.fr {c : Nat} (r : Rdk g h c) (f : Fr S g g1) (f2 : Fr S2 h h1) (a : ∀ i, i ∈ [0] → i ∉ S) (b : ∀ i, i ∈ [30] → i ∉ S2) : Rdk g1 h1 c := by
  unfold Rdk
  rw [f 0 (a 0 (by decide)), f2 30 (b 30 (by decide))]
  exact r
theorem Rdk.le {c c2 : Nat} (r : Rdk g h c) (q : c ≤ c2) : Rdk g h c2 := ⟨r.1, r.2.1, r.2.2.1, by have z := r.2.2.2; omega⟩
theorem Rkp.fr (r : Rkp Z g tf h) (f : Fr S g g1) (f2 : Fr S2 h h1) (a : ∀ i, i ∈ [0, 17, 19, 20, 21, 22] → i ∉ S) (b : ∀ i, i ∈ [12, 13, 14, 15, 16, 17, 18, 19, 30, 48, 49, 50, 51] → i ∉ S2) (t1 : ∀ t : Nat, t < 40 → tf1 (ko Z t) = tf (ko Z t)) : Rkp Z g1 tf1 h1 := by
  unfold Rkp
  rw [f 0 (a 0 (by decide)), f 17 (a 17 (by decide)), f 19 (a 19 (by decide)), f 20 (a 20 (by decide)), f 21 (a 21 (by decide)), f 22 (a 22 (by decide)), f2 17 (b 17 (by decide)), f2 18 (b 18 (by decide)), f2 19 (b 19 (by decide)), f2 30 (b 30 (by decide)), f2 48 (b 48 (by decide)), f2 49 (b 49 (by decide)), f2 50 (b 50 (by decide)), f2 51 (b 51 (by decide))]
  refine ⟨r.1, r.2.1, r.2.2.1, r.2.2.2.1, fun q => ?_⟩
  obtain ⟨k1, k2, k3, k4⟩ := r.2.2.2.2 q
  refine ⟨k1, k2, fun t ht k hk => ?_, k4⟩
  have hb := r.1
  rw [k1] at hb
  rw [t1 t (by omega), f2 (k + 12) (b (k + 12) (by simp; omega))]
  exact k3 t ht k hk
theorem case_letter {x1 r r2 : Int32} (R : Rpg g h) (p1 : ((¬ (32 ≤ x1.toInt ∧ x1.toInt ≤ 126) ∧ r = -102 ∧ g1 = g) ∨ ((32 ≤ x1.toInt ∧ x1.toInt ≤ 126) ∧ (g 1 1).toInt = 50 ∧ r = -104 ∧ g1 = g) ∨ ((32 ≤ x1.toInt ∧ x1.toInt ≤ 126) ∧ (g 1 1).toInt < 50 ∧ r = g 1 1 + 1 ∧ g1 = up2 (upR g 2 (upd (g 2) (g 1 1).toNatClampNeg x1)) 1 1 (g 1 1 + 1)))) (p2 : ((¬ (32 ≤ x1.toInt ∧ x1.toInt ≤ 126) ∧ r2 = -102 ∧ h1 = h) ∨ ((32 ≤ x1.toInt ∧ x1.toInt ≤ 126) ∧ (h 42 0).toInt = 50 ∧ r2 = -104 ∧ h1 = h) ∨ ((32 ≤ x1.toInt ∧ x1.toInt ≤ 126) ∧ (h 42 0).toInt < 50 ∧ r2 = h 42 0 + 1 ∧ h1 = up2 (upR h 10 (upd (h 10) (h 42 0).toNatClampNeg x1)) 42 0 (h 42 0 + 1)))) : Rpg g1 h1 ∧ r = r2 := by
  obtain ⟨hE, hE2⟩ := R
  have en : (g 1 1).toInt = (h 42 0).toInt := by rw [hE2]
  rcases p1 with ⟨a1, r1, u1⟩ | ⟨a1, b1, r1, u1⟩ | ⟨a1, b1, r1, u1⟩ <;> rcases p2 with ⟨a2, r2, u2⟩ | ⟨a2, b2, r2, u2⟩ | ⟨a2, b2, r2, u2⟩
  · exact ⟨⟨by rw [u1, u2]; exact hE, by rw [u1, u2]; exact hE2⟩, r1.trans r2.symm⟩
  · exfalso; omega
  · exfalso; omega
  · exfalso; omega
  · exact ⟨⟨by rw [u1, u2]; exact hE, by rw [u1, u2]; exact hE2⟩, r1.trans r2.symm⟩
  · exfalso; omega
  · exfalso; omega
  · exfalso; omega
  · exact ⟨⟨by rw [u1, u2]; show upd (g 2) (g 1 1).toNatClampNeg x1 = upd (h 10) (h 42 0).toNatClampNeg x1; rw [hE, hE2], by rw [u1, u2]; show g 1 1 + 1 = h 42 0 + 1; rw [hE2]⟩, by rw [r1, r2, hE2]⟩
theorem case_desk {c : Nat} {r r2 : Int32} (hZ : XG Z) (hc : c ≤ 2560) (Rp : Rpg g h) (Rt : Rtr Z g tf h) (Rs : Rsn g h) (Rd : Rdk g h c) (Rk : Rkp Z g tf h) (f : Fr [0, 1, 11, 3, 5, 6, 7, 8, 9, 10] g g1) (f2 : Fr [1, 2, 3, 4, 5, 6, 30, 31, 38, 42, 44, 45] h h1) (p1 : ((¬ whp (g 2) (g 1 1).toInt ∧ r = -103 ∧ g1 = g ∧ tf1 = tf) ∨ (whp (g 2) (g 1 1).toInt ∧ g1 1 1 = 0 ∧ 12 * r.toInt = (g 1 1).toInt + 1 ∧ g1 3 1 = r ∧ g1 11 4 = 0 ∧ g1 0 8 = 1 ∧ g1 0 9 = 0 ∧ g1 0 10 = g 0 10 + 1 ∧ (∀ t : Nat, 12 * (t : Int) < (g 1 1).toInt → ∀ k, k < 5 → tf1 (ro Z t) k = rdT (g 2) (12 * t) k) ∧ (∀ b, b ≠ za Z 24 → (∀ t, t < 70 → b ≠ ro Z t) → tf1 b = tf b)))) (p2 : ((¬ whp (h 10) (h 42 0).toInt ∧ r2 = -103 ∧ (∀ i, i ≠ 44 → i ≠ 45 → h1 i = h i)) ∨ (whp (h 10) (h 42 0).toInt ∧ 12 * r2.toInt = (h 42 0).toInt + 1 ∧ h1 31 0 = r2 ∧ h1 42 0 = 0 ∧ h1 38 0 = 0 ∧ h1 30 0 = h 30 0 + 1 ∧ (∀ t : Nat, 12 * (t : Int) < (h 42 0).toInt → ∀ k, k < 5 → h1 (k + 1) t = rdT (h 10) (12 * t) k)))) : Rpg g1 h1 ∧ Rtr Z g1 tf1 h1 ∧ Rsn g1 h1 ∧ Rdk g1 h1 (c + 1) ∧ Rkp Z g1 tf1 h1 ∧ r = r2 := by
  have hq : whp (g 2) (g 1 1).toInt ↔ whp (h 10) (h 42 0).toInt := by rw [Rp.1, Rp.2]
  rcases p1 with ⟨a1, r1, u1, v1⟩ | ⟨a1, b1, b2, b3, b4, b5, b6, b7, bA, bB⟩ <;> rcases p2 with ⟨a2, s1, u2⟩ | ⟨a2, d2, d3, d4, d5, d6, dA⟩
  · subst u1; subst v1
    have f3 : Fr [44, 45] h h1 := fun i hi => u2 i (fun e => hi (by rw [e]; decide)) (fun e => hi (by rw [e]; decide))
    exact ⟨Rp.fr (Fr.rf (S := [])) f3 (by decide) (by decide), Rt.fr (Fr.rf (S := [])) f3 (by decide) (by decide) (fun _ _ => rfl), Rs.fr (Fr.rf (S := [])) f3 (by decide) (by decide), (Rd.fr (Fr.rf (S := [])) f3 (by decide) (by decide)).le (by omega), Rk.fr (Fr.rf (S := [])) f3 (by decide) (by decide) (fun _ _ => rfl), r1.trans s1.symm⟩
  · exact absurd (hq.mpr a2) a1
  · exact absurd (hq.mp a1) a2
  · have e1 : r = r2 := Int32.toInt_inj.mp (by rw [Rp.2] at b2; omega)
    subst e1
    have w1 := a1.1
    have c1 : (h1 30 0).toInt = (h 30 0).toInt + 1 := by
      have z1 := Rd.2.2.1; have z2 := Rd.2.2.2
      rw [d6]; exact ti_addk rfl tk_1 (by omega) (by omega) rfl
    refine ⟨⟨(f 2 (by decide)).trans (Rp.1.trans (f2 10 (by decide)).symm), b1.trans d4.symm⟩, ⟨b3.trans d3.symm, fun t ht k hk => ?_⟩, ⟨b4.trans d5.symm, fun i hi => ?_⟩, ⟨by rw [b7, d6, Rd.1], ⟨fun z => ?_, fun z => ?_⟩, by have z1 := Rd.2.2.1; omega, by have z1 := Rd.2.2.2; omega⟩, ⟨?_, ?_, ?_, ?_, fun z => absurd b6 z⟩, rfl⟩
    · rw [d3] at ht
      rw [bA t (by omega) k hk, dA t (by rw [← Rp.2]; omega) k hk, Rp.1]
    · rw [d5, tk_0] at hi; omega
    · rw [b5] at z; exact absurd z (by decide)
    · rw [z, tk_0] at c1; have z1 := Rd.2.2.1; omega
    · rw [f 17 (by decide)]; exact Rk.1
    · rw [f 19 (by decide)]; exact Rk.2.1
    · rw [f2 49 (by decide), c1]; have z1 := Rk.2.2.1; omega
    · refine ⟨fun _ z => ?_, fun _ => b6⟩
      have z1 := Rk.2.2.1
      have z2 := congrArg Int32.toInt z.2
      rw [f2 49 (by decide)] at z2; omega
theorem case_as {x1 x2 r r2 : Int32} (Rt : Rtr Z g tf h) (hJ : MJ h) (p1 : ((¬ (0 ≤ x1.toInt ∧ x1.toInt < (g 3 1).toInt) ∧ r = -101) ∨ ((0 ≤ x1.toInt ∧ x1.toInt < (g 3 1).toInt) ∧ ¬ (0 ≤ x2.toInt ∧ x2.toInt ≤ 4) ∧ r = -102) ∨ ((0 ≤ x1.toInt ∧ x1.toInt < (g 3 1).toInt) ∧ (0 ≤ x2.toInt ∧ x2.toInt ≤ 4) ∧ (x2.toInt = 0 ∨ x2.toInt = (tf (ro Z x1.toInt.toNat) 0).toInt ∨ (x2.toInt = 3 ∧ (tf (ro Z x1.toInt.toNat) 0).toInt = 4)) ∧ r = x1) ∨ ((0 ≤ x1.toInt ∧ x1.toInt < (g 3 1).toInt) ∧ (0 ≤ x2.toInt ∧ x2.toInt ≤ 4) ∧ ¬ (x2.toInt = 0 ∨ x2.toInt = (tf (ro Z x1.toInt.toNat) 0).toInt ∨ (x2.toInt = 3 ∧ (tf (ro Z x1.toInt.toNat) 0).toInt = 4)) ∧ r = -1))) (p2 : ((¬ (0 ≤ x1.toInt ∧ x1.toInt < (h 31 0).toInt) ∧ r2 = -101) ∨ ((0 ≤ x1.toInt ∧ x1.toInt < (h 31 0).toInt) ∧ ¬ (0 ≤ x2.toInt ∧ x2.toInt ≤ 4) ∧ r2 = -102) ∨ ((0 ≤ x1.toInt ∧ x1.toInt < (h 31 0).toInt) ∧ (0 ≤ x2.toInt ∧ x2.toInt ≤ 4) ∧ (x2.toInt = 0 ∨ x2.toInt = (h 1 x1.toInt.toNat).toInt ∨ (x2.toInt = 3 ∧ (h 1 x1.toInt.toNat).toInt = 4)) ∧ r2 = x1) ∨ ((0 ≤ x1.toInt ∧ x1.toInt < (h 31 0).toInt) ∧ (0 ≤ x2.toInt ∧ x2.toInt ≤ 4) ∧ ¬ (x2.toInt = 0 ∨ x2.toInt = (h 1 x1.toInt.toNat).toInt ∨ (x2.toInt = 3 ∧ (h 1 x1.toInt.toNat).toInt = 4)) ∧ r2 = -1))) : r = r2 := by
  have j31 := hJ.j31
  have e1 : (g 3 1).toInt = (h 31 0).toInt := by rw [Rt.1]
  rcases p1 with ⟨a1, r1⟩ | ⟨a1, b1, r1⟩ | ⟨a1, b1, c1, r1⟩ | ⟨a1, b1, c1, r1⟩ <;> rcases p2 with ⟨a2, r2⟩ | ⟨a2, b2, r2⟩ | ⟨a2, b2, c2, r2⟩ | ⟨a2, b2, c2, r2⟩
  all_goals first
    | exact r1.trans r2.symm
    | (exfalso; have q := Rt.2 x1.toInt.toNat (by omega) 0 (by decide); have q2 : (tf (ro Z x1.toInt.toNat) 0).toInt = (h 1 x1.toInt.toNat).toInt := congrArg Int32.toInt q; omega)
    | (exfalso; omega)
theorem mpr_of (Rt : Rtr Z g tf h) {t : Nat} (ht : (t : Int) < (h 31 0).toInt) (q : Int32) : mpr (xr Z tf) t q = mpr h t q := by
  rw [xr_p, Rt.2 t ht 0 (by decide), Rt.2 t ht 1 (by decide), Rt.2 t ht 2 (by decide), Rt.2 t ht 3 (by decide)]; rfl
theorem mbt_of (Rt : Rtr Z g tf h) {a b q : Int32} (ha : 0 ≤ a.toInt ∧ a.toInt < (h 31 0).toInt) (hb : 0 ≤ b.toInt ∧ b.toInt < (h 31 0).toInt) : mbt (xr Z tf) a b q = mbt h a b q := by
  unfold mbt
  rw [mpr_of Rt (t := a.toNatClampNeg) (by show ((a.toInt.toNat : Nat) : Int) < _; omega), mpr_of Rt (t := b.toNatClampNeg) (by show ((b.toInt.toNat : Nat) : Int) < _; omega)]
theorem case_price {x1 x2 : Int32} {r r2 : Int64} (Rt : Rtr Z g tf h) (hJ : MJ h) (p1 : ((¬ ((0 ≤ x1.toInt ∧ x1.toInt < (g 3 1).toInt) ∧ (0 ≤ x2.toInt ∧ x2.toInt ≤ 63)) ∧ r = -101) ∨ (((0 ≤ x1.toInt ∧ x1.toInt < (g 3 1).toInt) ∧ (0 ≤ x2.toInt ∧ x2.toInt ≤ 63)) ∧ ¬ ((tf (ro Z x1.toInt.toNat) 3).toInt ≤ x2.toInt ∧ x2.toInt ≤ (tf (ro Z x1.toInt.toNat) 4).toInt) ∧ r = -102) ∨ (((0 ≤ x1.toInt ∧ x1.toInt < (g 3 1).toInt) ∧ (0 ≤ x2.toInt ∧ x2.toInt ≤ 63)) ∧ ((tf (ro Z x1.toInt.toNat) 3).toInt ≤ x2.toInt ∧ x2.toInt ≤ (tf (ro Z x1.toInt.toNat) 4).toInt) ∧ r = 3000000000 + mpr (xr Z tf) x1.toInt.toNat x2))) (p2 : ((¬ ((0 ≤ x1.toInt ∧ x1.toInt < (h 31 0).toInt) ∧ (0 ≤ x2.toInt ∧ x2.toInt ≤ 63)) ∧ r2 = -101) ∨ (((0 ≤ x1.toInt ∧ x1.toInt < (h 31 0).toInt) ∧ (0 ≤ x2.toInt ∧ x2.toInt ≤ 63)) ∧ ¬ ((h 4 x1.toInt.toNat).toInt ≤ x2.toInt ∧ x2.toInt ≤ (h 5 x1.toInt.toNat).toInt) ∧ r2 = -102) ∨ (((0 ≤ x1.toInt ∧ x1.toInt < (h 31 0).toInt) ∧ (0 ≤ x2.toInt ∧ x2.toInt ≤ 63)) ∧ ((h 4 x1.toInt.toNat).toInt ≤ x2.toInt ∧ x2.toInt ≤ (h 5 x1.toInt.toNat).toInt) ∧ r2 = 3000000000 + mpr h x1.toInt.toNat x2))) : r = r2 := by
  have e1 : (g 3 1).toInt = (h 31 0).toInt := by rw [Rt.1]
  have sp : (0 ≤ x1.toInt ∧ x1.toInt < (h 31 0).toInt) → (tf (ro Z x1.toInt.toNat) 3).toInt = (h 4 x1.toInt.toNat).toInt ∧ (tf (ro Z x1.toInt.toNat) 4).toInt = (h 5 x1.toInt.toNat).toInt := fun z => ⟨congrArg Int32.toInt (Rt.2 x1.toInt.toNat (by omega) 3 (by decide)), congrArg Int32.toInt (Rt.2 x1.toInt.toNat (by omega) 4 (by decide))⟩
  rcases p1 with ⟨a1, r1⟩ | ⟨a1, b1, r1⟩ | ⟨a1, b1, r1⟩ <;> rcases p2 with ⟨a2, r2⟩ | ⟨a2, b2, r2⟩ | ⟨a2, b2, r2⟩
  · exact r1.trans r2.symm
  · exfalso; omega
  · exfalso; omega
  · exfalso; omega
  · exact r1.trans r2.symm
  · exfalso; have z := sp (by omega); omega
  · exfalso; omega
  · exfalso; have z := sp (by omega); omega
  · rw [r1, r2, mpr_of Rt (by omega)]
theorem case_offer {c : Nat} {x1 x2 x3 x4 r r2 : Int32} (hZ : XG Z) (Rt : Rtr Z g tf h) (Rd : Rdk g h c) (hn : 0 ≤ (h 31 0).toInt ∧ (h 31 0).toInt ≤ 40) (p1 : ((∃ c, rjF (g 0 8) (g 3 1) x1 x2 x3 x4 c ∧ ((¬ c = 0 ∧ r = c ∧ g1 = g) ∨ (c = 0 ∧ g1 3 1 = g 3 1 + 1 ∧ tf1 (ro Z (g 3 1).toInt.toNat) 0 = x1 ∧ tf1 (ro Z (g 3 1).toInt.toNat) 1 = x2 ∧ tf1 (ro Z (g 3 1).toInt.toNat) 2 = x3 ∧ tf1 (ro Z (g 3 1).toInt.toNat) 3 = x4 / 100 ∧ tf1 (ro Z (g 3 1).toInt.toNat) 4 = x4 - x4 / 100 * 100))) ∧ (∀ b, b ≠ za Z 24 → b ≠ (ro Z (g 3 1).toInt.toNat) → tf1 b = tf b))) (p2 : (∃ c, rjF (h 30 0) (h 31 0) x1 x2 x3 x4 c ∧ ((¬ c = 0 ∧ r2 = c ∧ h1 = h) ∨ (c = 0 ∧ tkR h h1 x1 x2 x3 (x4 / 100) (x4 - x4 / 100 * 100))))) : Rtr Z g1 tf1 h1 ∧ (¬ rjF (h 30 0) (h 31 0) x1 x2 x3 x4 0 → r = r2) := by
  obtain ⟨⟨c1, q1, p1⟩, tt⟩ := p1
  obtain ⟨c2, q2, p2⟩ := p2
  have e1 : (g 3 1).toInt = (h 31 0).toInt := by rw [Rt.1]
  have ec := rjF_one q1 q2 Rd.2.1 e1
  subst ec
  rcases p1 with ⟨a1, b1, u1⟩ | ⟨a1, b1, v0, v1, v2, v3, v4⟩ <;> rcases p2 with ⟨a2, b2, u2⟩ | ⟨a2, tk⟩
  · subst u1; subst u2
    have z := rjF_0 q1
    refine ⟨⟨Rt.1, fun t ht k hk => ?_⟩, fun _ => b1.trans b2.symm⟩
    by_cases y : tf1 (ro Z t) = tf (ro Z t)
    · rw [y]; exact Rt.2 t ht k hk
    · exfalso; exact y (tt _ (hZ.ra (by omega)) (by rw [Rt.1]; exact hZ.ri (by omega) (by omega) (by omega)))
  · exact absurd a2 a1
  · exact absurd a1 a2
  · have n0 := (rjF_0 q2 a2).2.2
    have en : (h1 31 0).toInt = (h 31 0).toInt + 1 := by rw [tk.1]; exact ti_addk rfl tk_1 (by omega) (by omega) rfl
    refine ⟨⟨by rw [b1, tk.1, Rt.1], fun t ht k hk => ?_⟩, fun z => absurd (a2 ▸ q2) z⟩
    rcases Int.lt_or_le (t : Int) (h 31 0).toInt with y | y
    · rw [tt _ (hZ.ra (by omega)) (by rw [Rt.1]; exact hZ.ri (by omega) (by omega) (by omega)), tk.rows hn.1 t y k hk]
      exact Rt.2 t y k hk
    · have et : t = (g 3 1).toInt.toNat := by omega
      have eh : t = (h 31 0).toNatClampNeg := by show t = (h 31 0).toInt.toNat; omega
      obtain ⟨-, k1, k2, k3, k4, k5⟩ := tk
      match k, hk with
      | 0, _ => rw [et, v0, ← et, k1, upd_at eh]
      | 1, _ => rw [et, v1, ← et, k2, upd_at eh]
      | 2, _ => rw [et, v2, ← et, k3, upd_at eh]
      | 3, _ => rw [et, v3, ← et, k4, upd_at eh]
      | 4, _ => rw [et, v4, ← et, k5, upd_at eh]
theorem case_undo {r r2 : Int32} (Rt : Rtr Z g tf h) (j31 : 0 ≤ (h 31 0).toInt ∧ (h 31 0).toInt ≤ 70) (f2 : Fr [6, 31] h h1) (p1 : ((g 3 1 = 0 ∧ r = -103 ∧ g1 = g) ∨ (¬ g 3 1 = 0 ∧ g1 3 1 = g 3 1 - 1 ∧ r = g 3 1 - 1))) (p2 : ((h 31 0 = 0 ∧ r2 = -103 ∧ h1 = h) ∨ (¬ h 31 0 = 0 ∧ h1 31 0 = h 31 0 - 1 ∧ r2 = h 31 0 - 1))) : Rtr Z g1 tf h1 ∧ r = r2 := by
  rcases p1 with ⟨a1, r1, u1⟩ | ⟨a1, u1, r1⟩ <;> rcases p2 with ⟨a2, r2, u2⟩ | ⟨a2, u2, r2⟩
  · subst u1; subst u2; exact ⟨Rt, r1.trans r2.symm⟩
  · exact absurd (Rt.1.symm.trans a1) a2
  · exact absurd (Rt.1.trans a2) a1
  · have y : ¬ (h 31 0).toInt = 0 := fun z => a2 (Int32.toInt_inj.mp (by rw [tk_0]; exact z))
    have q : (h1 31 0).toInt = (h 31 0).toInt - 1 := by rw [u2]; exact ti_subk rfl tk_1 (by omega) (by omega) rfl
    refine ⟨⟨by rw [u1, u2, Rt.1], fun t ht k hk => ?_⟩, by rw [r1, r2, Rt.1]⟩
    rw [f2 (k + 1) (by simp; omega)]
    exact Rt.2 t (by omega) k hk
theorem case_cross {x1 x2 r r2 : Int32} (Rt : Rtr Z g tf h) (hJ : MJ h) (h40 : (h 31 0).toInt ≤ 40) (p1 : ((¬ ((0 ≤ x1.toInt ∧ x1.toInt < (g 3 1).toInt) ∧ (0 ≤ x2.toInt ∧ x2.toInt < (g 3 1).toInt) ∧ ¬ x1 = x2) ∧ r = -101) ∨ (((0 ≤ x1.toInt ∧ x1.toInt < (g 3 1).toInt) ∧ (0 ≤ x2.toInt ∧ x2.toInt < (g 3 1).toInt) ∧ ¬ x1 = x2) ∧ ∃ q : Nat, q < 64 ∧ r.toInt = q ∧ ((tf (ro Z x1.toInt.toNat) 3).toInt ≤ (q : Int) ∧ (q : Int) ≤ (tf (ro Z x1.toInt.toNat) 4).toInt ∧ (tf (ro Z x2.toInt.toNat) 3).toInt ≤ (q : Int) ∧ (q : Int) ≤ (tf (ro Z x2.toInt.toNat) 4).toInt ∧ mbt (xr Z tf) x2 x1 (nI q) = true) ∧ (∀ j : Nat, j < q → ¬ ((tf (ro Z x1.toInt.toNat) 3).toInt ≤ (j : Int) ∧ (j : Int) ≤ (tf (ro Z x1.toInt.toNat) 4).toInt ∧ (tf (ro Z x2.toInt.toNat) 3).toInt ≤ (j : Int) ∧ (j : Int) ≤ (tf (ro Z x2.toInt.toNat) 4).toInt ∧ mbt (xr Z tf) x2 x1 (nI j) = true))) ∨ (((0 ≤ x1.toInt ∧ x1.toInt < (g 3 1).toInt) ∧ (0 ≤ x2.toInt ∧ x2.toInt < (g 3 1).toInt) ∧ ¬ x1 = x2) ∧ r = -1 ∧ (∀ j : Nat, j < 64 → ¬ ((tf (ro Z x1.toInt.toNat) 3).toInt ≤ (j : Int) ∧ (j : Int) ≤ (tf (ro Z x1.toInt.toNat) 4).toInt ∧ (tf (ro Z x2.toInt.toNat) 3).toInt ≤ (j : Int) ∧ (j : Int) ≤ (tf (ro Z x2.toInt.toNat) 4).toInt ∧ mbt (xr Z tf) x2 x1 (nI j) = true))))) (p2 : ((¬ ((0 ≤ x1.toInt ∧ x1.toInt < (h 31 0).toInt) ∧ (0 ≤ x2.toInt ∧ x2.toInt < (h 31 0).toInt) ∧ ¬ x1 = x2) ∧ r2 = -101) ∨ (((0 ≤ x1.toInt ∧ x1.toInt < (h 31 0).toInt) ∧ (0 ≤ x2.toInt ∧ x2.toInt < (h 31 0).toInt) ∧ ¬ x1 = x2) ∧ ((∃ q : Nat, q < 64 ∧ r2.toInt = q ∧ ((h 4 x1.toInt.toNat).toInt ≤ (q : Int) ∧ (q : Int) ≤ (h 5 x1.toInt.toNat).toInt ∧ (h 4 x2.toInt.toNat).toInt ≤ (q : Int) ∧ (q : Int) ≤ (h 5 x2.toInt.toNat).toInt ∧ mbt h x2 x1 (nI q) = true) ∧ (∀ j : Nat, j < q → ¬ ((h 4 x1.toInt.toNat).toInt ≤ (j : Int) ∧ (j : Int) ≤ (h 5 x1.toInt.toNat).toInt ∧ (h 4 x2.toInt.toNat).toInt ≤ (j : Int) ∧ (j : Int) ≤ (h 5 x2.toInt.toNat).toInt ∧ mbt h x2 x1 (nI j) = true))) ∨ (r2 = -1 ∧ (∀ j : Nat, j < 64 → ¬ ((h 4 x1.toInt.toNat).toInt ≤ (j : Int) ∧ (j : Int) ≤ (h 5 x1.toInt.toNat).toInt ∧ (h 4 x2.toInt.toNat).toInt ≤ (j : Int) ∧ (j : Int) ≤ (h 5 x2.toInt.toNat).toInt ∧ mbt h x2 x1 (nI j) = true))))))) : r = r2 := by
  have e1 : (g 3 1).toInt = (h 31 0).toInt := by rw [Rt.1]
  by_cases w : ((0 ≤ x1.toInt ∧ x1.toInt < (h 31 0).toInt) ∧ (0 ≤ x2.toInt ∧ x2.toInt < (h 31 0).toInt) ∧ ¬ x1 = x2)
  · have q3 := congrArg Int32.toInt (Rt.2 x1.toInt.toNat (by omega) 3 (by decide))
    have q4 := congrArg Int32.toInt (Rt.2 x1.toInt.toNat (by omega) 4 (by decide))
    have s3 := congrArg Int32.toInt (Rt.2 x2.toInt.toNat (by omega) 3 (by decide))
    have s4 := congrArg Int32.toInt (Rt.2 x2.toInt.toNat (by omega) 4 (by decide))
    have qq : ∀ j : Nat, (((tf (ro Z x1.toInt.toNat) 3).toInt ≤ (j : Int) ∧ (j : Int) ≤ (tf (ro Z x1.toInt.toNat) 4).toInt ∧ (tf (ro Z x2.toInt.toNat) 3).toInt ≤ (j : Int) ∧ (j : Int) ≤ (tf (ro Z x2.toInt.toNat) 4).toInt ∧ mbt (xr Z tf) x2 x1 (nI j) = true) ↔ ((h 4 x1.toInt.toNat).toInt ≤ (j : Int) ∧ (j : Int) ≤ (h 5 x1.toInt.toNat).toInt ∧ (h 4 x2.toInt.toNat).toInt ≤ (j : Int) ∧ (j : Int) ≤ (h 5 x2.toInt.toNat).toInt ∧ mbt h x2 x1 (nI j) = true)) := fun j => by
      rw [q3, q4, s3, s4, mbt_of Rt w.2.1 w.1]
    rcases p1 with ⟨a1, r1⟩ | ⟨a1, j, c1, c2, c3, c4⟩ | ⟨a1, r1, c4⟩
    · exact absurd ⟨by omega, by omega, w.2.2⟩ a1
    · rcases p2 with ⟨a2, r2⟩ | ⟨a2, ⟨j2, d1, d2, d3, d4⟩ | ⟨r2, d4⟩⟩
      · exact absurd w a2
      · rcases (show j < j2 ∨ j2 < j ∨ j = j2 by omega) with y | y | y
        · exact absurd ((qq j).mp c3) (d4 j y)
        · exact absurd ((qq j2).mpr d3) (c4 j2 y)
        · exact Int32.toInt_inj.mp (by omega)
      · exact absurd ((qq j).mp c3) (d4 j c1)
    · rcases p2 with ⟨a2, r2⟩ | ⟨a2, ⟨j2, d1, d2, d3, d4⟩ | ⟨r2, d4⟩⟩
      · exact absurd w a2
      · exact absurd ((qq j2).mpr d3) (c4 j2 d1)
      · exact r1.trans r2.symm
  · rcases p1 with ⟨a1, r1⟩ | ⟨a1, -⟩ | ⟨a1, -⟩
    · rcases p2 with ⟨a2, r2⟩ | ⟨a2, -⟩
      · exact r1.trans r2.symm
      · exact absurd a2 w
    · exact absurd ⟨by omega, by omega, a1.2.2⟩ w
    · exact absurd ⟨by omega, by omega, a1.2.2⟩ w
theorem case_see {x1 x2 x3 r r2 : Int32} (Rt : Rtr Z g tf h) (Rs : Rsn g h) (j38 : 0 ≤ (h 38 0).toInt ∧ (h 38 0).toInt ≤ 6) (p1 : ((¬ (0 ≤ x1.toInt ∧ x1.toInt < (g 3 1).toInt ∧ 0 ≤ x2.toInt ∧ x2.toInt ≤ 63) ∧ r = -101 ∧ g1 = g) ∨ ((0 ≤ x1.toInt ∧ x1.toInt < (g 3 1).toInt ∧ 0 ≤ x2.toInt ∧ x2.toInt ≤ 63) ∧ ¬ (0 ≤ (g 11 4).toInt ∧ (g 11 4).toInt < 6) ∧ r = -104 ∧ g1 = g) ∨ ((0 ≤ x1.toInt ∧ x1.toInt < (g 3 1).toInt ∧ 0 ≤ x2.toInt ∧ x2.toInt ≤ 63) ∧ (0 ≤ (g 11 4).toInt ∧ (g 11 4).toInt < 6) ∧ r = g 11 4 + 1 ∧ g1 = up2 (upR (upR (upR g 12 (upd (g 12) (g 11 4).toNatClampNeg x1)) 13 (upd (g 13) (g 11 4).toNatClampNeg x2)) 14 (upd (g 14) (g 11 4).toNatClampNeg x3)) 11 4 (g 11 4 + 1)))) (p2 : ((¬ (0 ≤ x1.toInt ∧ x1.toInt < (h 31 0).toInt ∧ 0 ≤ x2.toInt ∧ x2.toInt ≤ 63) ∧ r2 = -101 ∧ h1 = h) ∨ ((0 ≤ x1.toInt ∧ x1.toInt < (h 31 0).toInt ∧ 0 ≤ x2.toInt ∧ x2.toInt ≤ 63) ∧ (h 38 0).toInt = 6 ∧ r2 = -104 ∧ h1 = h) ∨ ((0 ≤ x1.toInt ∧ x1.toInt < (h 31 0).toInt ∧ 0 ≤ x2.toInt ∧ x2.toInt ≤ 63) ∧ (h 38 0).toInt < 6 ∧ r2 = h 38 0 + 1 ∧ h1 = up2 (upR (upR (upR h 7 (upd (h 7) (h 38 0).toNatClampNeg x1)) 8 (upd (h 8) (h 38 0).toNatClampNeg x2)) 9 (upd (h 9) (h 38 0).toNatClampNeg x3)) 38 0 (h 38 0 + 1)))) : Rsn g1 h1 ∧ r = r2 := by
  have e1 : (g 3 1).toInt = (h 31 0).toInt := by rw [Rt.1]
  have e2 : (g 11 4).toInt = (h 38 0).toInt := by rw [Rs.1]
  rcases p1 with ⟨a1, r1, u1⟩ | ⟨a1, b1, r1, u1⟩ | ⟨a1, b1, r1, u1⟩ <;> rcases p2 with ⟨a2, r2, u2⟩ | ⟨a2, b2, r2, u2⟩ | ⟨a2, b2, r2, u2⟩
  · subst u1; subst u2; exact ⟨Rs, r1.trans r2.symm⟩
  · exfalso; omega
  · exfalso; omega
  · exfalso; omega
  · subst u1; subst u2; exact ⟨Rs, r1.trans r2.symm⟩
  · exfalso; omega
  · exfalso; omega
  · exfalso; omega
  · subst u1; subst u2
    refine ⟨⟨by show g 11 4 + 1 = h 38 0 + 1; rw [Rs.1], fun i hi => ?_⟩, by rw [r1, r2, Rs.1]⟩
    have hi : (i : Int) < (h 38 0 + 1).toInt := hi
    rw [ti_addk (x := h 38 0) rfl tk_1 (by omega) (by omega) rfl] at hi
    show upd (g 12) (g 11 4).toNatClampNeg x1 i = upd (h 7) (h 38 0).toNatClampNeg x1 i ∧ upd (g 13) (g 11 4).toNatClampNeg x2 i = upd (h 8) (h 38 0).toNatClampNeg x2 i ∧ upd (g 14) (g 11 4).toNatClampNeg x3 i = upd (h 9) (h 38 0).toNatClampNeg x3 i
    rw [Rs.1]
    by_cases y : i = (h 38 0).toNatClampNeg
    · rw [upd_at y, upd_at y, upd_at y, upd_at y, upd_at y, upd_at y]; exact ⟨rfl, rfl, rfl⟩
    · rw [pk_un y, pk_un y, pk_un y, pk_un y, pk_un y, pk_un y]
      have y2 : ¬ (i : Int) = (h 38 0).toInt := fun y3 => y (ti_clamp y3.symm).symm
      exact Rs.2 i (by omega)
theorem case_image {c : Nat} {r r2 : Int32} (hZ : XG Z) (Rt : Rtr Z g tf h) (Rs : Rsn g h) (Rd : Rdk g h c) (Rk : Rkp Z g tf h) (hJ : MJ h) (h40 : (h 31 0).toInt ≤ 40) (f : Fr [0, 17, 19, 20, 21, 22] g g1) (f2 : Fr [12, 13, 14, 15, 16, 17, 18, 19, 48, 49, 50, 51] h h1) (p1 : ((g 0 8 = 0 ∧ r = -103 ∧ g1 = g ∧ tf1 = tf) ∨ (¬ g 0 8 = 0 ∧ r = g 3 1 ∧ g1 0 8 = g 0 8 ∧ g1 0 9 = 1 ∧ g1 0 10 = g 0 10 ∧ g1 17 1 = g 3 1 ∧ g1 19 4 = g 11 4 ∧ ((∀ i : Nat, (i : Int) < (g 11 4).toInt → g1 20 i = g 12 i) ∧ (∀ i : Nat, (i : Int) < (g 11 4).toInt → g1 21 i = g 13 i) ∧ (∀ i : Nat, (i : Int) < (g 11 4).toInt → g1 22 i = g 14 i)) ∧ ((∀ t : Nat, (t : Int) < (g 3 1).toInt → ∀ k, k < 5 → tf1 (ko Z t) k = tf (ro Z t) k) ∧ (∀ b, (∀ t, t < 40 → b ≠ ko Z t) → tf1 b = tf b))))) (p2 : ((h 30 0 = 0 ∧ r2 = -103 ∧ h1 = h) ∨ (¬ h 30 0 = 0 ∧ r2 = h 31 0 ∧ (h1 48 0 = 1 ∧ h1 49 0 = h 30 0 ∧ h1 50 0 = h 31 0 ∧ h1 51 0 = h 38 0) ∧ (∀ t : Nat, (t : Int) < 40 → ∀ k, k < 5 → h1 (k + 12) t = h (k + 1) t) ∧ (∀ t : Nat, (t : Int) < 6 → ∀ k, k < 3 → h1 (k + 17) t = h (k + 7) t)))) : Rtr Z g1 tf1 h1 ∧ Rdk g1 h1 c ∧ Rkp Z g1 tf1 h1 ∧ r = r2 := by
  have j31 := hJ.j31
  have j38 := hJ.j38
  have e1 : (g 3 1).toInt = (h 31 0).toInt := by rw [Rt.1]
  have e2 : (g 11 4).toInt = (h 38 0).toInt := by rw [Rs.1]
  rcases p1 with ⟨a1, r1, u1, v1⟩ | ⟨a1, r1, b1, b2, b3, b4, b5, ⟨bs1, bs2, bs3⟩, ⟨bk, bb⟩⟩ <;> rcases p2 with ⟨a2, r2, u2⟩ | ⟨a2, r2, ⟨d1, d2, d3, d4⟩, dA, dB⟩
  · subst u1; subst u2; subst v1; exact ⟨Rt, Rd, Rk, r1.trans r2.symm⟩
  · exact absurd (Rd.2.1.mp a1) a2
  · exact absurd (Rd.2.1.mpr a2) a1
  · have m31 : h1 31 = h 31 := f2 31 (by decide)
    have m30 : h1 30 = h 30 := f2 30 (by decide)
    refine ⟨Rt.fr f f2 (by decide) (by decide) (fun t ht => bb _ (fun t2 h2 => hZ.rk (by omega) h2)), ?_, ⟨by rw [b4, e1]; exact ⟨j31.1, h40⟩, by rw [b5, e2]; exact j38, by rw [d2, m30]; exact Int.le_refl _, ⟨fun z => absurd z (by rw [b2]; decide), fun z => absurd ⟨by rw [d1]; decide, by rw [d2, m30]⟩ z⟩, fun _ => ⟨by rw [b4, d3, Rt.1], by rw [b5, d4, Rs.1], fun t ht k hk => ?_, fun i hi => ?_⟩⟩, by rw [r1, r2, Rt.1]⟩
    · unfold Rdk; rw [b3, b1, m30]; exact Rd
    · rw [d3] at ht
      rw [bk t (by omega) k hk, Rt.2 t ht k hk, dA t (by omega) k hk]
    · rw [d4] at hi
      have z := Rs.2 i hi
      have q0 := dB i (by omega) 0 (by decide); have q1 := dB i (by omega) 1 (by decide); have q2 := dB i (by omega) 2 (by decide)
      rw [bs1 i (by omega), bs2 i (by omega), bs3 i (by omega), z.1, z.2.1, z.2.2]
      exact ⟨q0.symm, q1.symm, q2.symm⟩
theorem case_restore {c : Nat} {r r2 : Int32} (hZ : XG Z) (Rt : Rtr Z g tf h) (Rs : Rsn g h) (Rd : Rdk g h c) (Rk : Rkp Z g tf h) (hJ : MJ h) (f : Fr [3, 5, 6, 7, 8, 9, 10, 11, 12, 13, 14] g g1) (f2 : Fr [1, 2, 3, 4, 5, 6, 7, 8, 9, 31, 38] h h1) (p1 : ((g 0 9 = 0 ∧ r = -103 ∧ g1 = g ∧ tf1 = tf) ∨ (¬ g 0 9 = 0 ∧ r = g 17 1 ∧ g1 3 1 = g 17 1 ∧ g1 11 4 = g 19 4 ∧ ((∀ i : Nat, (i : Int) < (g 19 4).toInt → g1 12 i = g 20 i) ∧ (∀ i : Nat, (i : Int) < (g 19 4).toInt → g1 13 i = g 21 i) ∧ (∀ i : Nat, (i : Int) < (g 19 4).toInt → g1 14 i = g 22 i)) ∧ (∀ t : Nat, (t : Int) < (g 17 1).toInt → ∀ k, k < 5 → tf1 (ro Z t) k = tf (ko Z t) k) ∧ (∀ b, (∀ t, t < 70 → b ≠ ro Z t) → tf1 b = tf b)))) (p2 : ((¬ (¬ h 48 0 = 0 ∧ h 49 0 = h 30 0) ∧ r2 = -103 ∧ h1 = h) ∨ ((¬ h 48 0 = 0 ∧ h 49 0 = h 30 0) ∧ r2 = h 50 0 ∧ h1 31 0 = h 50 0 ∧ h1 38 0 = h 51 0 ∧ (∀ t : Nat, (t : Int) < 40 → ∀ k, k < 5 → h1 (k + 1) t = h (k + 12) t) ∧ (∀ t : Nat, (t : Int) < 6 → ∀ k, k < 3 → h1 (k + 7) t = h (k + 17) t)))) : Rtr Z g1 tf1 h1 ∧ Rsn g1 h1 ∧ Rkp Z g1 tf1 h1 ∧ r = r2 := by
  have j50 := hJ.j50
  have j51 := hJ.j51
  rcases p1 with ⟨a1, r1, u1, v1⟩ | ⟨a1, r1, b1, b2, ⟨bs1, bs2, bs3⟩, bA, bB⟩ <;> rcases p2 with ⟨a2, r2, u2⟩ | ⟨a2, r2, d1, d2, dA, dB⟩
  · subst u1; subst u2; subst v1; exact ⟨Rt, Rs, Rk, r1.trans r2.symm⟩
  · exact absurd a2 (Rk.2.2.2.1.mp a1)
  · exact absurd (Rk.2.2.2.1.mpr a2) a1
  · obtain ⟨k1, k2, k3, k4⟩ := Rk.2.2.2.2 a1
    have e1 : (g 17 1).toInt = (h 50 0).toInt := by rw [k1]
    have e2 : (g 19 4).toInt = (h 51 0).toInt := by rw [k2]
    refine ⟨⟨by rw [b1, d1, k1], fun t ht k hk => ?_⟩, ⟨by rw [b2, d2, k2], fun i hi => ?_⟩, Rk.fr f f2 (by decide) (by decide) (fun t ht => bB _ (fun t2 h2 => (hZ.rk h2 ht).symm)), by rw [r1, r2, k1]⟩
    · rw [d1] at ht
      rw [bA t (by omega) k hk, k3 t ht k hk, dA t (by omega) k hk]
    · rw [d2] at hi
      have z := k4 i hi
      have q0 := dB i (by omega) 0 (by decide); have q1 := dB i (by omega) 1 (by decide); have q2 := dB i (by omega) 2 (by decide)
      rw [bs1 i (by omega), bs2 i (by omega), bs3 i (by omega), z.1, z.2.1, z.2.2]
      exact ⟨q0.symm, q1.symm, q2.symm⟩
end RE
theorem R_0 {Z : ZT} {g : Nat → Nat → Int32} (w : ∀ i, i ≠ 6 → i ≠ 10 → g i = fun _ => 0) : Rpg g (fun _ _ => 0) ∧ Rtr Z g (fun _ _ => 0) (fun _ _ => 0) ∧ Rsn g (fun _ _ => 0) ∧ Rdk g (fun _ _ => 0) 0 ∧ Rkp Z g (fun _ _ => 0) (fun _ _ => 0) := by
  refine ⟨⟨w 2 (by decide) (by decide), congrFun (w 1 (by decide) (by decide)) 1⟩, ⟨congrFun (w 3 (by decide) (by decide)) 1, fun _ _ _ _ => rfl⟩, ⟨congrFun (w 11 (by decide) (by decide)) 4, fun i _ => ⟨congrFun (w 12 (by decide) (by decide)) i, congrFun (w 13 (by decide) (by decide)) i, congrFun (w 14 (by decide) (by decide)) i⟩⟩, ⟨congrFun (w 0 (by decide) (by decide)) 10, ⟨fun _ => rfl, fun _ => congrFun (w 0 (by decide) (by decide)) 8⟩, (by decide), (by decide)⟩, ⟨by rw [w 17 (by decide) (by decide)]; decide, by rw [w 19 (by decide) (by decide)]; decide, by decide, ⟨fun _ z => z.1 rfl, fun _ => congrFun (w 0 (by decide) (by decide)) 9⟩, fun z => absurd (congrFun (w 0 (by decide) (by decide)) 9) z⟩⟩
