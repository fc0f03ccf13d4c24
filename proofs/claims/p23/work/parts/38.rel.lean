
/-- the page -/
def Rpg (g h : Nat → Nat → Int32) : Prop := g 2 = h 10 ∧ g 1 1 = h 42 0
/-- the tariffs -/
def Rtr (Z : ZT) (g tf h : Nat → Nat → Int32) : Prop := g 3 1 = h 31 0 ∧ (∀ t : Nat, (t : Int) < (h 31 0).toInt → ∀ k, k < 5 → tf (ro Z t) k = h (k + 1) t)
/-- what is seen -/
def Rsn (g h : Nat → Nat → Int32) : Prop := g 11 4 = h 38 0 ∧ (∀ i : Nat, (i : Int) < (h 38 0).toInt → g 12 i = h 7 i ∧ g 13 i = h 8 i ∧ g 14 i = h 9 i)
/-- the desks that were read -/
def Rdk (g h : Nat → Nat → Int32) (c : Nat) : Prop := g 0 10 = h 30 0 ∧ (g 0 8 = 0 ↔ h 30 0 = 0) ∧ 0 ≤ (h 30 0).toInt ∧ (h 30 0).toInt ≤ c
/-- the image -/
def Rkp (Z : ZT) (g tf h : Nat → Nat → Int32) : Prop := (0 ≤ (g 17 1).toInt ∧ (g 17 1).toInt ≤ 40) ∧ (0 ≤ (g 19 4).toInt ∧ (g 19 4).toInt ≤ 6) ∧ (h 49 0).toInt ≤ (h 30 0).toInt ∧ (g 0 9 = 0 ↔ ¬ (¬ h 48 0 = 0 ∧ h 49 0 = h 30 0)) ∧ (¬ g 0 9 = 0 → g 17 1 = h 50 0 ∧ g 19 4 = h 51 0 ∧ (∀ t : Nat, (t : Int) < (h 50 0).toInt → ∀ k, k < 5 → tf (ko Z t) k = h (k + 12) t) ∧ (∀ i : Nat, (i : Int) < (h 51 0).toInt → g 20 i = h 17 i ∧ g 21 i = h 18 i ∧ g 22 i = h 19 i))
/-- the tree -/
def Rtx (Z : ZT) (g tf h : Nat → Nat → Int32) : Prop := TX (xr Z tf) (g 3 1).toInt.toNat g ∧ (h 30 0 = 0 → h 31 0 = 0) ∧ (¬ h 30 0 = 0 → Eq1 (h 6) (TR h (h 31 0).toInt.toNat))
/-- quantities that are seen, also those of the image -/
def Rsq (g h : Nat → Nat → Int32) : Prop := (∀ i : Nat, (i : Int) < (h 38 0).toInt → 0 ≤ (h 8 i).toInt ∧ (h 8 i).toInt ≤ 63) ∧ (¬ g 0 9 = 0 → ¬ h 30 0 = 0 ∧ ∀ i : Nat, (i : Int) < (h 51 0).toInt → 0 ≤ (h 18 i).toInt ∧ (h 18 i).toInt ≤ 63)
section RE
variable {Z : ZT} {g g1 tf tf1 h h1 : Nat → Nat → Int32} {S S2 : List Nat}
theorem Rtx.fr (r : Rtx Z g tf h) (hZ : XG Z) (hn : 0 ≤ (h 31 0).toInt ∧ (h 31 0).toInt ≤ 40) (e : g 3 1 = h 31 0) (f : Fr S g g1) (f2 : Fr S2 h h1) (a : ∀ i, i ∈ [3, 5, 6, 7, 8, 9, 10] → i ∉ S) (b : ∀ i, i ∈ [1, 2, 3, 4, 5, 6, 30, 31] → i ∉ S2) (t1 : ∀ t : Nat, (t : Int) < (h 31 0).toInt → tf1 (ro Z t) = tf (ro Z t)) : Rtx Z g1 tf1 h1 := by
  obtain ⟨r1, r2, r3⟩ := r
  have eg : g1 3 1 = g 3 1 := by rw [f 3 (a 3 (by decide))]
  refine ⟨?_, ?_, ?_⟩
  · rw [eg]
    exact TX_cr (by rw [e]; omega) (xr_Rw hZ (fun t ht => t1 t (by rw [e] at ht; omega))) (TX_ch r1 f (fun i hi => a i (by simp at hi ⊢; omega)))
  · rw [f2 30 (b 30 (by decide)), f2 31 (b 31 (by decide))]; exact r2
  · rw [f2 30 (b 30 (by decide)), f2 31 (b 31 (by decide)), f2 6 (b 6 (by decide))]
    intro z
    rw [← TR_cr (R := h) (R2 := h1) (h 31 0).toInt.toNat (by omega) (fun t _ k hk => by rw [f2 (k + 1) (b (k + 1) (by simp; omega))])]
    exact r3 z
theorem Rsq.fr (r : Rsq g h) (f : Fr S g g1) (f2 : Fr S2 h h1) (a : ∀ i, i ∈ [0] → i ∉ S) (b : ∀ i, i ∈ [8, 18, 30, 38, 51] → i ∉ S2) : Rsq g1 h1 := by
  unfold Rsq
  rw [f 0 (a 0 (by decide)), f2 8 (b 8 (by decide)), f2 18 (b 18 (by decide)), f2 30 (b 30 (by decide)), f2 38 (b 38 (by decide)), f2 51 (b 51 (by decide))]
  exact r
theorem Rpg.fr (r : Rpg g h) (f : Fr S g g1) (f2 : Fr S2 h h1) (a : ∀ i, i ∈ [1, 2] → i ∉ S) (b : ∀ i, i ∈ [10, 42] → i ∉ S2) : Rpg g1 h1 :=
  ⟨(f 2 (a 2 (by decide))).trans (r.1.trans (f2 10 (b 10 (by decide))).symm), by rw [f 1 (a 1 (by decide)), f2 42 (b 42 (by decide))]; exact r.2⟩
theorem Rtr.fr (r : Rtr Z g tf h) (f : Fr S g g1) (f2 : Fr S2 h h1) (a : ∀ i, i ∈ [3] → i ∉ S) (b : ∀ i, i ∈ [1, 2, 3, 4, 5, 31] → i ∉ S2) (t1 : ∀ t : Nat, (t : Int) < (h 31 0).toInt → tf1 (ro Z t) = tf (ro Z t)) : Rtr Z g1 tf1 h1 := by
  refine ⟨by rw [f 3 (a 3 (by decide)), f2 31 (b 31 (by decide))]; exact r.1, fun t ht k hk => ?_⟩
  rw [f2 31 (b 31 (by decide))] at ht
  rw [t1 t ht, f2 (k + 1) (b (k + 1) (by simp; omega))]
  exact r.2 t ht k hk
theorem Rtr.rw (r : Rtr Z g tf h) (q : h1 31 0 = h 31 0 ∧ rwL h h1 (h 31 0).toInt) (t1 : ∀ t : Nat, (t : Int) < (h 31 0).toInt → tf1 (ro Z t) = tf (ro Z t)) : Rtr Z g tf1 h1 := by
  refine ⟨by rw [q.1]; exact r.1, fun t ht k hk => ?_⟩
  rw [q.1] at ht
  rw [t1 t ht, q.2 t ht k hk]
  exact r.2 t ht k hk
theorem Rtr.rw2 (r : Rtr Z g tf h) (q1 : g1 3 1 = g 3 1) (q : h1 31 0 = h 31 0 ∧ rwL h h1 (h 31 0).toInt) (t1 : ∀ t : Nat, (t : Int) < (h 31 0).toInt → tf1 (ro Z t) = tf (ro Z t)) : Rtr Z g1 tf1 h1 :=
  ⟨q1.trans (r.rw q t1).1, (r.rw q t1).2⟩
theorem Rsn.fr (r : Rsn g h) (f : Fr S g g1) (f2 : Fr S2 h h1) (a : ∀ i, i ∈ [11, 12, 13, 14] → i ∉ S) (b : ∀ i, i ∈ [7, 8, 9, 38] → i ∉ S2) : Rsn g1 h1 := by
  unfold Rsn
  rw [f 11 (a 11 (by decide)), f 12 (a 12 (by decide)), f 13 (a 13 (by decide)), f 14 (a 14 (by decide)), f2 7 (b 7 (by decide)), f2 8 (b 8 (by decide)), f2 9 (b 9 (by decide)), f2 38 (b 38 (by decide))]
  exact r
theorem Rdk.fr {c : Nat} (r : Rdk g h c) (f : Fr S g g1) (f2 : Fr S2 h h1) (a : ∀ i, i ∈ [0] → i ∉ S) (b : ∀ i, i ∈ [30] → i ∉ S2) : Rdk g1 h1 c := by
  unfold Rdk
  rw [f 0 (a 0 (by decide)), f2 30 (b 30 (by decide))]
  exact r
theorem Rdk.le {c c2 : Nat} (r : Rdk g h c) (q : c ≤ c2) : Rdk g h c2 := ⟨r.1, r.2.1, r.2.2.1, by have z := r.2.2.2; omega⟩
theorem Rkp.fr (r : Rkp Z g tf h) (f : Fr S g g1) (f2 : Fr S2 h h1) (a : ∀ i, i ∈ [0, 17, 19, 20, 21, 22] → i ∉ S) (b : ∀ i, i ∈ [12, 13, 14, 15, 16, 17, 18, 19, 30, 48, 49, 50, 51] → i ∉ S2) (t1 : ∀ t : Nat, t < 40 → tf1 (ko Z t) = tf (ko Z t)) : Rkp Z g1 tf1 h1 := by
  unfold Rkp
  rw [f 0 (a 0 (by decide)), f 17 (a 17 (by decide)), f 19 (a 19 (by decide)), f 20 (a 20 (by decide)), f 21 (a 21 (by decide)), f 22 (a 22 (by decide)), f2 17 (b 17 (by decide)), f2 18 (b 18 (by decide)), f2 19 (b 19 (by decide)), f2 30 (b 30 (by decide)), f2 48 (b 48 (by decide)), f2 49 (b 49 (by decide)), f2 50 (b 50 (by decide)), f2 51 (b 51 (by decide))]
  refine ⟨r.1, r.2.1, r.2.2.1, r.2.2.2.1, fun q => ?_⟩
  obtain ⟨k1, k2, k3, k4⟩ := r.2.2.2.2 q
  refine ⟨k1, k2, fun t ht k hk => ?_, k4⟩
  have hb := r.1
  rw [k1] at hb
  rw [t1 t (by omega), f2 (k + 12) (b (k + 12) (by simp; omega))]
  exact k3 t ht k hk
theorem case_letter {x1 r r2 : Int32} (R : Rpg g h) (p1 : ((¬ (32 ≤ x1.toInt ∧ x1.toInt ≤ 126) ∧ r = -102 ∧ g1 = g) ∨ ((32 ≤ x1.toInt ∧ x1.toInt ≤ 126) ∧ (g 1 1).toInt = 50 ∧ r = -104 ∧ g1 = g) ∨ ((32 ≤ x1.toInt ∧ x1.toInt ≤ 126) ∧ (g 1 1).toInt < 50 ∧ r = g 1 1 + 1 ∧ g1 = up2 (upR g 2 (upd (g 2) (g 1 1).toNatClampNeg x1)) 1 1 (g 1 1 + 1)))) (p2 : ((¬ (32 ≤ x1.toInt ∧ x1.toInt ≤ 126) ∧ r2 = -102 ∧ h1 = h) ∨ ((32 ≤ x1.toInt ∧ x1.toInt ≤ 126) ∧ (h 42 0).toInt = 50 ∧ r2 = -104 ∧ h1 = h) ∨ ((32 ≤ x1.toInt ∧ x1.toInt ≤ 126) ∧ (h 42 0).toInt < 50 ∧ r2 = h 42 0 + 1 ∧ h1 = up2 (upR h 10 (upd (h 10) (h 42 0).toNatClampNeg x1)) 42 0 (h 42 0 + 1)))) : Rpg g1 h1 ∧ r = r2 := by
  obtain ⟨hE, hE2⟩ := R
  have en : (g 1 1).toInt = (h 42 0).toInt := by rw [hE2]
  rcases p1 with ⟨a1, r1, u1⟩ | ⟨a1, b1, r1, u1⟩ | ⟨a1, b1, r1, u1⟩ <;> rcases p2 with ⟨a2, r2, u2⟩ | ⟨a2, b2, r2, u2⟩ | ⟨a2, b2, r2, u2⟩
  · exact ⟨⟨by rw [u1, u2]; exact hE, by rw [u1, u2]; exact hE2⟩, r1.trans r2.symm⟩
  · exfalso; omega
  · exfalso; omega
  · exfalso; omega
  · exact ⟨⟨by rw [u1, u2]; exact hE, by rw [u1, u2]; exact hE2⟩, r1.trans r2.symm⟩
  · exfalso; omega
  · exfalso; omega
  · exfalso; omega
  · exact ⟨⟨by rw [u1, u2]; show upd (g 2) (g 1 1).toNatClampNeg x1 = upd (h 10) (h 42 0).toNatClampNeg x1; rw [hE, hE2], by rw [u1, u2]; show g 1 1 + 1 = h 42 0 + 1; rw [hE2]⟩, by rw [r1, r2, hE2]⟩
theorem case_desk {c : Nat} {r r2 : Int32} (hZ : XG Z) (hc : c ≤ 2560) (Rp : Rpg g h) (Rt : Rtr Z g tf h) (Rs : Rsn g h) (Rd : Rdk g h c) (Rk : Rkp Z g tf h) (hn : 0 ≤ (h 31 0).toInt ∧ (h 31 0).toInt ≤ 40) (Rx : Rtx Z g tf h) (Rq : Rsq g h) (f : Fr [0, 1, 11, 3, 5, 6, 7, 8, 9, 10] g g1) (f2 : Fr [1, 2, 3, 4, 5, 6, 30, 31, 38, 42, 44, 45] h h1) (p1 : ((¬ whp (g 2) (g 1 1).toInt ∧ r = -103 ∧ g1 = g ∧ tf1 = tf) ∨ (whp (g 2) (g 1 1).toInt ∧ g1 1 1 = 0 ∧ 12 * r.toInt = (g 1 1).toInt + 1 ∧ g1 3 1 = r ∧ g1 11 4 = 0 ∧ g1 0 8 = 1 ∧ g1 0 9 = 0 ∧ g1 0 10 = g 0 10 + 1 ∧ (∀ t : Nat, 12 * (t : Int) < (g 1 1).toInt → ∀ k, k < 5 → tf1 (ro Z t) k = rdT (g 2) (12 * t) k) ∧ (∀ b, b ≠ za Z 24 → (∀ t, t < 70 → b ≠ ro Z t) → tf1 b = tf b) ∧ TX (xr Z tf1) (g1 3 1).toInt.toNat g1))) (p2 : ((¬ whp (h 10) (h 42 0).toInt ∧ r2 = -103 ∧ (∀ i, i ≠ 44 → i ≠ 45 → h1 i = h i)) ∨ (whp (h 10) (h 42 0).toInt ∧ 12 * r2.toInt = (h 42 0).toInt + 1 ∧ h1 31 0 = r2 ∧ h1 42 0 = 0 ∧ h1 38 0 = 0 ∧ h1 30 0 = h 30 0 + 1 ∧ (∀ t : Nat, 12 * (t : Int) < (h 42 0).toInt → ∀ k, k < 5 → h1 (k + 1) t = rdT (h 10) (12 * t) k) ∧ Eq1 (h1 6) (TR h1 (h1 31 0).toInt.toNat)))) : Rpg g1 h1 ∧ Rtr Z g1 tf1 h1 ∧ Rsn g1 h1 ∧ Rdk g1 h1 (c + 1) ∧ Rkp Z g1 tf1 h1 ∧ Rtx Z g1 tf1 h1 ∧ Rsq g1 h1 ∧ r = r2 := by
  have hq : whp (g 2) (g 1 1).toInt ↔ whp (h 10) (h 42 0).toInt := by rw [Rp.1, Rp.2]
  rcases p1 with ⟨a1, r1, u1, v1⟩ | ⟨a1, b1, b2, b3, b4, b5, b6, b7, bA, bB, bT⟩ <;> rcases p2 with ⟨a2, s1, u2⟩ | ⟨a2, d2, d3, d4, d5, d6, dA, dE⟩
  · subst u1; subst v1
    have f3 : Fr [44, 45] h h1 := fun i hi => u2 i (fun e => hi (by rw [e]; decide)) (fun e => hi (by rw [e]; decide))
    exact ⟨Rp.fr (Fr.rf (S := [])) f3 (by decide) (by decide), Rt.fr (Fr.rf (S := [])) f3 (by decide) (by decide) (fun _ _ => rfl), Rs.fr (Fr.rf (S := [])) f3 (by decide) (by decide), (Rd.fr (Fr.rf (S := [])) f3 (by decide) (by decide)).le (by omega), Rk.fr (Fr.rf (S := [])) f3 (by decide) (by decide) (fun _ _ => rfl), Rx.fr hZ hn Rt.1 (Fr.rf (S := [])) f3 (by decide) (by decide) (fun _ _ => rfl), Rq.fr (Fr.rf (S := [])) f3 (by decide) (by decide), r1.trans s1.symm⟩
  · exact absurd (hq.mpr a2) a1
  · exact absurd (hq.mp a1) a2
  · have e1 : r = r2 := Int32.toInt_inj.mp (by rw [Rp.2] at b2; omega)
    subst e1
    have w1 := a1.1
    have c1 : (h1 30 0).toInt = (h 30 0).toInt + 1 := by
      have z1 := Rd.2.2.1; have z2 := Rd.2.2.2
      rw [d6]; exact ti_addk rfl tk_1 (by omega) (by omega) rfl
    refine ⟨⟨(f 2 (by decide)).trans (Rp.1.trans (f2 10 (by decide)).symm), b1.trans d4.symm⟩, ⟨b3.trans d3.symm, fun t ht k hk => ?_⟩, ⟨b4.trans d5.symm, fun i hi => ?_⟩, ⟨by rw [b7, d6, Rd.1], ⟨fun z => ?_, fun z => ?_⟩, by have z1 := Rd.2.2.1; omega, by have z1 := Rd.2.2.2; omega⟩, ⟨?_, ?_, ?_, ?_, fun z => absurd b6 z⟩, ⟨bT, fun z => ?_, fun _ => dE⟩, ⟨fun i hi => ?_, fun z => absurd b6 z⟩, rfl⟩
    · rw [d3] at ht
      rw [bA t (by omega) k hk, dA t (by rw [← Rp.2]; omega) k hk, Rp.1]
    · rw [d5, tk_0] at hi; omega
    · rw [b5] at z; exact absurd z (by decide)
    · rw [z, tk_0] at c1; have z1 := Rd.2.2.1; omega
    · rw [f 17 (by decide)]; exact Rk.1
    · rw [f 19 (by decide)]; exact Rk.2.1
    · rw [f2 49 (by decide), c1]; have z1 := Rk.2.2.1; omega
    · refine ⟨fun _ z => ?_, fun _ => b6⟩
      have z1 := Rk.2.2.1
      have z2 := congrArg Int32.toInt z.2
      rw [f2 49 (by decide)] at z2; omega
    · exfalso; rw [z, tk_0] at c1; have z1 := Rd.2.2.1; omega
    · rw [d5, tk_0] at hi; omega
theorem case_as {x1 x2 r r2 : Int32} (Rt : Rtr Z g tf h) (hJ : MJ h) (p1 : ((¬ (0 ≤ x1.toInt ∧ x1.toInt < (g 3 1).toInt) ∧ r = -101) ∨ ((0 ≤ x1.toInt ∧ x1.toInt < (g 3 1).toInt) ∧ ¬ (0 ≤ x2.toInt ∧ x2.toInt ≤ 4) ∧ r = -102) ∨ ((0 ≤ x1.toInt ∧ x1.toInt < (g 3 1).toInt) ∧ (0 ≤ x2.toInt ∧ x2.toInt ≤ 4) ∧ (x2.toInt = 0 ∨ x2.toInt = (tf (ro Z x1.toInt.toNat) 0).toInt ∨ (x2.toInt = 3 ∧ (tf (ro Z x1.toInt.toNat) 0).toInt = 4)) ∧ r = x1) ∨ ((0 ≤ x1.toInt ∧ x1.toInt < (g 3 1).toInt) ∧ (0 ≤ x2.toInt ∧ x2.toInt ≤ 4) ∧ ¬ (x2.toInt = 0 ∨ x2.toInt = (tf (ro Z x1.toInt.toNat) 0).toInt ∨ (x2.toInt = 3 ∧ (tf (ro Z x1.toInt.toNat) 0).toInt = 4)) ∧ r = -1))) (p2 : ((¬ (0 ≤ x1.toInt ∧ x1.toInt < (h 31 0).toInt) ∧ r2 = -101) ∨ ((0 ≤ x1.toInt ∧ x1.toInt < (h 31 0).toInt) ∧ ¬ (0 ≤ x2.toInt ∧ x2.toInt ≤ 4) ∧ r2 = -102) ∨ ((0 ≤ x1.toInt ∧ x1.toInt < (h 31 0).toInt) ∧ (0 ≤ x2.toInt ∧ x2.toInt ≤ 4) ∧ (x2.toInt = 0 ∨ x2.toInt = (h 1 x1.toInt.toNat).toInt ∨ (x2.toInt = 3 ∧ (h 1 x1.toInt.toNat).toInt = 4)) ∧ r2 = x1) ∨ ((0 ≤ x1.toInt ∧ x1.toInt < (h 31 0).toInt) ∧ (0 ≤ x2.toInt ∧ x2.toInt ≤ 4) ∧ ¬ (x2.toInt = 0 ∨ x2.toInt = (h 1 x1.toInt.toNat).toInt ∨ (x2.toInt = 3 ∧ (h 1 x1.toInt.toNat).toInt = 4)) ∧ r2 = -1))) : r = r2 := by
  have j31 := hJ.j31
  have e1 : (g 3 1).toInt = (h 31 0).toInt := by rw [Rt.1]
  rcases p1 with ⟨a1, r1⟩ | ⟨a1, b1, r1⟩ | ⟨a1, b1, c1, r1⟩ | ⟨a1, b1, c1, r1⟩ <;> rcases p2 with ⟨a2, r2⟩ | ⟨a2, b2, r2⟩ | ⟨a2, b2, c2, r2⟩ | ⟨a2, b2, c2, r2⟩
  all_goals first
    | exact r1.trans r2.symm
    | (exfalso; have q := Rt.2 x1.toInt.toNat (by omega) 0 (by decide); have q2 : (tf (ro Z x1.toInt.toNat) 0).toInt = (h 1 x1.toInt.toNat).toInt := congrArg Int32.toInt q; omega)
    | (exfalso; omega)
theorem mpr_of (Rt : Rtr Z g tf h) {t : Nat} (ht : (t : Int) < (h 31 0).toInt) (q : Int32) : mpr (xr Z tf) t q = mpr h t q := by
  rw [xr_p, Rt.2 t ht 0 (by decide), Rt.2 t ht 1 (by decide), Rt.2 t ht 2 (by decide), Rt.2 t ht 3 (by decide)]; rfl
theorem mbt_of (Rt : Rtr Z g tf h) {a b q : Int32} (ha : 0 ≤ a.toInt ∧ a.toInt < (h 31 0).toInt) (hb : 0 ≤ b.toInt ∧ b.toInt < (h 31 0).toInt) : mbt (xr Z tf) a b q = mbt h a b q := by
  unfold mbt
  rw [mpr_of Rt (t := a.toNatClampNeg) (by show ((a.toInt.toNat : Nat) : Int) < _; omega), mpr_of Rt (t := b.toNatClampNeg) (by show ((b.toInt.toNat : Nat) : Int) < _; omega)]
theorem case_price {x1 x2 : Int32} {r r2 : Int64} (Rt : Rtr Z g tf h) (hJ : MJ h) (p1 : ((¬ ((0 ≤ x1.toInt ∧ x1.toInt < (g 3 1).toInt) ∧ (0 ≤ x2.toInt ∧ x2.toInt ≤ 63)) ∧ r = -101) ∨ (((0 ≤ x1.toInt ∧ x1.toInt < (g 3 1).toInt) ∧ (0 ≤ x2.toInt ∧ x2.toInt ≤ 63)) ∧ ¬ ((tf (ro Z x1.toInt.toNat) 3).toInt ≤ x2.toInt ∧ x2.toInt ≤ (tf (ro Z x1.toInt.toNat) 4).toInt) ∧ r = -102) ∨ (((0 ≤ x1.toInt ∧ x1.toInt < (g 3 1).toInt) ∧ (0 ≤ x2.toInt ∧ x2.toInt ≤ 63)) ∧ ((tf (ro Z x1.toInt.toNat) 3).toInt ≤ x2.toInt ∧ x2.toInt ≤ (tf (ro Z x1.toInt.toNat) 4).toInt) ∧ r = 3000000000 + mpr (xr Z tf) x1.toInt.toNat x2))) (p2 : ((¬ ((0 ≤ x1.toInt ∧ x1.toInt < (h 31 0).toInt) ∧ (0 ≤ x2.toInt ∧ x2.toInt ≤ 63)) ∧ r2 = -101) ∨ (((0 ≤ x1.toInt ∧ x1.toInt < (h 31 0).toInt) ∧ (0 ≤ x2.toInt ∧ x2.toInt ≤ 63)) ∧ ¬ ((h 4 x1.toInt.toNat).toInt ≤ x2.toInt ∧ x2.toInt ≤ (h 5 x1.toInt.toNat).toInt) ∧ r2 = -102) ∨ (((0 ≤ x1.toInt ∧ x1.toInt < (h 31 0).toInt) ∧ (0 ≤ x2.toInt ∧ x2.toInt ≤ 63)) ∧ ((h 4 x1.toInt.toNat).toInt ≤ x2.toInt ∧ x2.toInt ≤ (h 5 x1.toInt.toNat).toInt) ∧ r2 = 3000000000 + mpr h x1.toInt.toNat x2))) : r = r2 := by
  have e1 : (g 3 1).toInt = (h 31 0).toInt := by rw [Rt.1]
  have sp : (0 ≤ x1.toInt ∧ x1.toInt < (h 31 0).toInt) → (tf (ro Z x1.toInt.toNat) 3).toInt = (h 4 x1.toInt.toNat).toInt ∧ (tf (ro Z x1.toInt.toNat) 4).toInt = (h 5 x1.toInt.toNat).toInt := fun z => ⟨congrArg Int32.toInt (Rt.2 x1.toInt.toNat (by omega) 3 (by decide)), congrArg Int32.toInt (Rt.2 x1.toInt.toNat (by omega) 4 (by decide))⟩
  rcases p1 with ⟨a1, r1⟩ | ⟨a1, b1, r1⟩ | ⟨a1, b1, r1⟩ <;> rcases p2 with ⟨a2, r2⟩ | ⟨a2, b2, r2⟩ | ⟨a2, b2, r2⟩
  · exact r1.trans r2.symm
  · exfalso; omega
  · exfalso; omega
  · exfalso; omega
  · exact r1.trans r2.symm
  · exfalso; have z := sp (by omega); omega
  · exfalso; omega
  · exfalso; have z := sp (by omega); omega
  · rw [r1, r2, mpr_of Rt (by omega)]
theorem rw_of (Rt : Rtr Z g tf h) : Rw (xr Z tf) h (h 31 0).toInt := fun t ht k hk => Rt.2 t ht k hk
/-- at how many nodes another one stands: counted by the class, compared by the reference -/
theorem ofc_eq {R h1 : Nat → Nat → Int32} {S S2 : Nat → Int32} {n : Nat} (hn : n < 70) (j4 : ∀ t, 0 ≤ (h1 4 t).toInt ∧ (h1 4 t).toInt ≤ 63) (j5 : ∀ t, (h1 5 t).toInt ≤ 63) (hr : Rw R h1 ((n + 1 : Nat) : Int)) (hE : Eq1 S (TR h1 n)) (h6 : S2 = ofr h1 S (cns h1 n) (nI n)) : dfc S S2 128 = ofc R (TR R n) (cns R n) (nI n) := by
  subst h6
  have e1 : dfc S (ofr h1 S (cns h1 n) (nI n)) 128 = ofc h1 S (cns h1 n) (nI n) := by
    rcases cns_c j4 j5 n with ⟨a, -⟩ | ⟨a, -, -, -⟩
    · rw [a]; exact dfc_rf S 128
    · exact ofc_ct h1 _ _ _ S (nI n) (nI_ne (by omega)) a
  have hr0 : Rw R h1 (n : Int) := hr.le (by omega)
  rw [e1, (ofr_cs h1 _ _ _ _ hE).2, ← TR_cr (R := R) n (by omega) hr0, ← cns_cr hr (by omega)]
  exact ((ofr_cr hr (cns R n) (TR R n) (nI n) (fun v a b c => by have q := TR_bd (R := R) n (by omega) v a b c; omega) (by rw [nI_toInt (by omega)]; omega)).2).symm
theorem mC_bst {M : Nat → Nat → Int32} {n : Nat} (hn : n ≤ 100) (hJ : MJ M) (hE : Eq1 (M 6) (TR M n)) {q : Nat} (hq : q < 64) : mC M q = bst M n q := by
  unfold mC mch
  rw [mcS_cs hE (by rw [nI_toInt (by omega)]; omega)]
  exact TR_bst hJ.j4 hJ.j5 hn hq
theorem nd_cg {S S2 : Nat → Int32} (e : Eq1 S S2) {a b : Int} : cB (ndB S a b) 128 = cB (ndB S2 a b) 128 := cB_cg 128 (fun i hi => by
  unfold ndB
  by_cases y : 1 ≤ i
  · rw [e i y (by omega)]
  · rw [decide_eq_false (fun z => y z.1), decide_eq_false (fun z => y z.1)])
theorem qn_cg {C C2 : Nat → Int32} (e : ∀ q, q < 64 → C q = C2 q) {a b : Int} : cB (qnB C a b) 64 = cB (qnB C2 a b) 64 := cB_cg 64 (fun i hi => by unfold qnB; rw [e i hi])
theorem id_cg {C C2 : Nat → Int32} (e : ∀ q, q < 64 → C q = C2 q) {t : Nat} : idB C t = idB C2 t := by unfold idB; rw [qn_cg e]
theorem fp_64 {C C2 : Nat → Int32} (e : ∀ q, q < 64 → C q = C2 q) : cB (fpB C) 64 = cB (fpB C2) 64 := cB_cg 64 (fun i hi => fp_cg e hi)
theorem sr_cg {R R2 : Nat → Nat → Int32} {sn sq sp sn2 sq2 sp2 : Nat → Int32} {m t : Nat} (hr : ∀ k, k < 5 → R (k + 1) t = R2 (k + 1) t) (e : ∀ i, i < m → sn i = sn2 i ∧ sq i = sq2 i ∧ sp i = sp2 i) : srF R sn sq sp m t = srF R2 sn2 sq2 sp2 m t := by
  have h2 : R 2 t = R2 2 t := hr 1 (by decide)
  have h3 : R 3 t = R2 3 t := hr 2 (by decide)
  have h4 : R 4 t = R2 4 t := hr 3 (by decide)
  unfold srF
  exact sbF_cg 5 (fun k hk => okK_cg m (fun i hi => by
    unfold snB
    rw [(e i hi).1, (e i hi).2.1, (e i hi).2.2, h2, h3, h4]))
theorem as_cg {R R2 : Nat → Nat → Int32} {b : Int32} {t : Nat} (hr : ∀ k, k < 5 → R (k + 1) t = R2 (k + 1) t) : asF R b t = asF R2 b t := by
  have h2 : R 2 t = R2 2 t := hr 1 (by decide)
  have h3 : R 3 t = R2 3 t := hr 2 (by decide)
  have h4 : R 4 t = R2 4 t := hr 3 (by decide)
  have h5 : R 5 t = R2 5 t := hr 4 (by decide)
  have e : ∀ q, pkF R t q = pkF R2 t q := fun q => funext (fun k => by unfold pkF; rw [h2, h3, h4])
  have e2 : (fun q => lwF b (pkF R t q) 5) = (fun q => lwF b (pkF R2 t q) 5) := funext (fun q => by rw [e q])
  unfold asF
  rw [e2, h4, h5]
theorem tv_cg {R R2 : Nat → Nat → Int32} {S S2 C C2 sn sq sp sn2 sq2 sp2 : Nat → Int32} {m t w : Nat} (hr : ∀ k, k < 5 → R (k + 1) t = R2 (k + 1) t) (eS : Eq1 S S2) (eC : ∀ q, q < 64 → C q = C2 q) (e : ∀ i, i < m → sn i = sn2 i ∧ sq i = sq2 i ∧ sp i = sp2 i) : tvF R S C sn sq sp m t w = tvF R2 S2 C2 sn2 sq2 sp2 m t w := by
  have h1 : R 1 t = R2 1 t := hr 0 (by decide)
  have h4 : R 4 t = R2 4 t := hr 3 (by decide)
  have h5 : R 5 t = R2 5 t := hr 4 (by decide)
  unfold tvF
  rw [h1, h4, h5, nd_cg eS, qn_cg eC, sr_cg hr e, as_cg hr]
theorem mt_cg {C C2 S S2 : Nat → Int32} {cs cs2 : Nat → Int64} {b : Int32} {x : Int64} (eC : ∀ q, q < 64 → C q = C2 q) (eS : Eq1 S S2) (ec : ∀ q, q < 64 → cs q = cs2 q) : mtF C S cs b x = mtF C2 S2 cs2 b x := by
  unfold mtF
  rw [mxL_cg (f2 := fun v => (S2 (v + 1)).toInt64) 127 (fun i hi => by show (S (i + 1)).toInt64 = (S2 (i + 1)).toInt64; rw [eS (i + 1) (by omega) (by omega)]), mx2_cg (e1 := fun q => (C2 q).toInt64) (e2 := cs2) 64 (fun i hi => ⟨by show (C i).toInt64 = (C2 i).toInt64; rw [eC i hi], ec i hi⟩)]
theorem cv_cg {v v2 : Nat → Int32} {x : Int32} (e : ∀ k, k ≤ 7 → v k = v2 k) : cvF v x = cvF v2 x := by
  unfold cvF
  by_cases z : 0 ≤ x.toInt ∧ x.toInt ≤ 7
  · rw [if_pos z, if_pos z]; exact e _ (by omega)
  · rw [if_neg z, if_neg z]
theorem cc_C (Rt : Rtr Z g tf h) (Rx : Rtx Z g tf h) (hJ : MJ h) (h40 : (h 31 0).toInt ≤ 40) (hd : ¬ h 30 0 = 0) : ∀ q, q < 64 → g 10 q = mC h q := fun q hq => by
  have j31 := hJ.j31
  rw [Rx.1.2.1 q hq, Rt.1, bst_cr (R2 := h) (h 31 0).toInt.toNat (by omega) ((rw_of Rt).le (by omega))]
  exact (mC_bst (by omega) hJ (Rx.2.2 hd) hq).symm
theorem cc_E (Rt : Rtr Z g tf h) (Rx : Rtx Z g tf h) (hJ : MJ h) (h40 : (h 31 0).toInt ≤ 40) (hd : ¬ h 30 0 = 0) : Eq1 (g 6) (h 6) := by
  have j31 := hJ.j31
  have e := Rx.1.1
  rw [Rt.1, TR_cr (R2 := h) (h 31 0).toInt.toNat (by omega) ((rw_of Rt).le (by omega))] at e
  exact e.tr (Rx.2.2 hd).sy
theorem cc_0 (Rt : Rtr Z g tf h) (Rx : Rtx Z g tf h) (hd : h 30 0 = 0) : (∀ q, q < 64 → g 10 q = -1) ∧ g 3 1 = 0 := by
  have e : g 3 1 = 0 := Rt.1.trans (Rx.2.1 hd)
  refine ⟨fun q hq => ?_, e⟩
  rw [Rx.1.2.1 q hq, e, show (0 : Int32).toInt.toNat = 0 from rfl]; rfl
theorem cc_rg (Rt : Rtr Z g tf h) (Rx : Rtx Z g tf h) (hJ : MJ h) (h40 : (h 31 0).toInt ≤ 40) {q : Nat} (hq : q < 64) (hc : ¬ g 10 q = -1) : 0 ≤ (g 10 q).toInt ∧ (g 10 q).toInt < (h 31 0).toInt := by
  have j31 := hJ.j31
  have e := Rx.1.2.1 q hq
  rcases bst_rg (R := xr Z tf) (n := (g 3 1).toInt.toNat) (q := q) (by rw [Rt.1]; omega) with y | y
  · exact absurd (e.trans y) hc
  · rw [← e, Rt.1] at y; omega
theorem cc_m (Rt : Rtr Z g tf h) (Rx : Rtx Z g tf h) (hJ : MJ h) (h40 : (h 31 0).toInt ≤ 40) {q : Nat} (hq : q < 64) (hc : ¬ g 10 q = -1) : mpr (xr Z tf) (g 10 q).toNatClampNeg (nI q) = mpr h (g 10 q).toNatClampNeg (nI q) := by
  have y := cc_rg Rt Rx hJ h40 hq hc
  exact mpr_of Rt (by show (((g 10 q).toInt.toNat : Nat) : Int) < _; omega) _
theorem cc_pr (Rt : Rtr Z g tf h) (Rx : Rtx Z g tf h) (hJ : MJ h) (h40 : (h 31 0).toInt ≤ 40) (hd : ¬ h 30 0 = 0) : ∀ q, q < 64 → ¬ g 10 q = -1 → prC (xr Z tf) (g 10) q = prC h (mC h) q := fun q hq hc => by
  unfold prC; rw [cc_m Rt Rx hJ h40 hq hc, cc_C Rt Rx hJ h40 hd q hq]
theorem cc_cs (Rt : Rtr Z g tf h) (Rx : Rtx Z g tf h) (hJ : MJ h) (h40 : (h 31 0).toInt ≤ 40) (hd : ¬ h 30 0 = 0) : ∀ q, q < 64 → csF (xr Z tf) (g 10) q = csF h (mC h) q := fun q hq => by
  have e := cc_C Rt Rx hJ h40 hd q hq
  unfold csF
  by_cases hc : g 10 q = -1
  · rw [if_pos hc, if_pos (by rw [← e]; exact hc)]
  · rw [if_neg hc, if_neg (by rw [← e]; exact hc), cc_m Rt Rx hJ h40 hq hc, e]
theorem dk_of {c : Nat} (Rd : Rdk g h c) : (¬ g 0 8 = 0 ↔ 0 < (h 30 0).toInt) ∧ (¬ h 30 0 = 0 ↔ 0 < (h 30 0).toInt) := by
  have z := Rd.2.2.1
  have e : h 30 0 = 0 ↔ (h 30 0).toInt = 0 := ⟨fun y => by rw [y, tk_0], fun y => Int32.toInt_inj.mp (by rw [tk_0]; exact y)⟩
  constructor
  · rw [Rd.2.1, e]; omega
  · rw [e]; omega
theorem cv_of {c : Nat} (Rp : Rpg g h) (Rt : Rtr Z g tf h) (Rs : Rsn g h) (Rd : Rdk g h c) (Rx : Rtx Z g tf h) (hJ : MJ h) (h40 : (h 31 0).toInt ≤ 40) : ∀ k, k ≤ 7 → cvX g k = cvM h k := fun k hk => by
  have j31 := hJ.j31
  have dk := dk_of Rd
  have hk : k < 8 := by omega
  match k, hk with
  | 0, _ => exact Rt.1
  | 1, _ =>
    show nI (cB (ndB (g 6) 0 ((g 3 1).toInt - 1)) 128) = (if h 30 0 = 0 then 0 else nI (127 - cB (ndB (h 6) (-1) (-1)) 128))
    by_cases hd : h 30 0 = 0
    · rw [if_pos hd, (cc_0 Rt Rx hd).2, cB_z 128 (fun i _ z => by have y := (of_decide_eq_true z).2; rw [tk_0] at y; omega)]; rfl
    · rw [if_neg hd, nd_cg (cc_E Rt Rx hJ h40 hd), Rt.1]
      have bd : ∀ i, 1 ≤ i → i ≤ 127 → (h 6 i).toInt = -1 ∨ (0 ≤ (h 6 i).toInt ∧ (h 6 i).toInt < (h 31 0).toInt) := fun i a b => by
        have e := Rx.2.2 hd i a b
        by_cases y : h 6 i = -1
        · left; rw [y]; decide
        · right
          rw [e] at y ⊢
          have q := TR_bd (R := h) (h 31 0).toInt.toNat (by omega) i a b y
          omega
      have q := cB_not (p := ndB (h 6) 0 ((h 31 0).toInt - 1)) (p2 := ndB (h 6) (-1) (-1)) (n := 1) 127 (fun i a b => by
        have y := bd i a (by omega)
        unfold ndB
        rw [decide_eq_true_eq, decide_eq_true_eq]
        omega) (by rw [cB_z 1 (fun i hi z => by have y := (of_decide_eq_true z).1; omega), cB_z 1 (fun i hi z => by have y := (of_decide_eq_true z).1; omega)])
      rw [show 1 + 127 = 128 from rfl] at q
      rw [show cB (ndB (h 6) 0 ((h 31 0).toInt - 1)) 128 = 127 - cB (ndB (h 6) (-1) (-1)) 128 by omega]
  | 2, _ =>
    show nI (cB (fpB (g 10)) 64) = (if 0 < (h 30 0).toInt then nI (cB (fpB (mC h)) 64) else 0)
    by_cases hd : 0 < (h 30 0).toInt
    · rw [if_pos hd, fp_64 (cc_C Rt Rx hJ h40 (dk.2.mpr hd))]
    · rw [if_neg hd, cB_z 64 (fun i hi z => (of_decide_eq_true z).1 ((cc_0 Rt Rx (Classical.byContradiction (fun y => hd (dk.2.mp y)))).1 i hi))]; rfl
  | 3, _ =>
    show (if g 0 8 = 0 then 0 else nI (cB (qnB (g 10) (-1) (-1)) 64)) = (if 0 < (h 30 0).toInt then nI (cB (qnB (mC h) (-1) (-1)) 64) else 0)
    by_cases hd : 0 < (h 30 0).toInt
    · rw [if_pos hd, if_neg (dk.1.mpr hd), qn_cg (cc_C Rt Rx hJ h40 (dk.2.mpr hd))]
    · rw [if_neg hd, if_pos (Classical.byContradiction (fun y => hd (dk.1.mp y)))]
  | 4, _ =>
    show nI (cB (idB (g 10)) (g 3 1).toInt.toNat) = nI (cB (idB (mC h)) (h 31 0).toInt.toNat)
    rw [Rt.1]
    by_cases hd : h 30 0 = 0
    · rw [Rx.2.1 hd, show (0 : Int32).toInt.toNat = 0 from rfl, show cB (idB (g 10)) 0 = 0 from rfl, show cB (idB (mC h)) 0 = 0 from rfl]
    · rw [cB_cg _ (fun i _ => id_cg (cc_C Rt Rx hJ h40 hd))]
  | 5, _ => exact Rs.1
  | 6, _ => exact Rp.2
  | 7, _ => exact Rd.1

theorem case_offer {c : Nat} {x1 x2 x3 x4 r r2 : Int32} (hZ : XG Z) (Rt : Rtr Z g tf h) (Rd : Rdk g h c) (hn : 0 ≤ (h 31 0).toInt ∧ (h 31 0).toInt ≤ 40) (hG1 : Gd Z tf1) (hJ1 : MJ h1) (Rx : Rtx Z g tf h) (f2 : Fr [1, 2, 3, 4, 5, 6, 11, 31] h h1) (p1 : ((∃ c, rjF (g 0 8) (g 3 1) x1 x2 x3 x4 c ∧ ((¬ c = 0 ∧ r = c ∧ g1 = g) ∨ (c = 0 ∧ (g1 3 1 = g 3 1 + 1 ∧ TX (xr Z tf1) ((g 3 1).toInt.toNat + 1) g1 ∧ r.toInt = (ofc (xr Z tf1) (TR (xr Z tf1) (g 3 1).toInt.toNat) (cns (xr Z tf1) (g 3 1).toInt.toNat) (g 3 1) : Int)) ∧ tf1 (ro Z (g 3 1).toInt.toNat) 0 = x1 ∧ tf1 (ro Z (g 3 1).toInt.toNat) 1 = x2 ∧ tf1 (ro Z (g 3 1).toInt.toNat) 2 = x3 ∧ tf1 (ro Z (g 3 1).toInt.toNat) 3 = x4 / 100 ∧ tf1 (ro Z (g 3 1).toInt.toNat) 4 = x4 - x4 / 100 * 100))) ∧ (∀ b, b ≠ za Z 24 → b ≠ (ro Z (g 3 1).toInt.toNat) → tf1 b = tf b))) (p2 : (∃ c, rjF (h 30 0) (h 31 0) x1 x2 x3 x4 c ∧ ((¬ c = 0 ∧ r2 = c ∧ h1 = h) ∨ (c = 0 ∧ tkR h h1 x1 x2 x3 (x4 / 100) (x4 - x4 / 100 * 100) ∧ h1 6 = ofr h1 (h 6) (cns h1 (h 31 0).toInt.toNat) (h 31 0) ∧ r2.toInt = (dfc (h 6) (h1 6) 128 : Int))))) : Rtr Z g1 tf1 h1 ∧ Rtx Z g1 tf1 h1 ∧ r = r2 := by
  obtain ⟨⟨c1, q1, p1⟩, tt⟩ := p1
  obtain ⟨c2, q2, p2⟩ := p2
  have e1 : (g 3 1).toInt = (h 31 0).toInt := by rw [Rt.1]
  have ec := rjF_one q1 q2 Rd.2.1 e1
  subst ec
  rcases p1 with ⟨a1, b1, u1⟩ | ⟨a1, ⟨b1, bT, bR⟩, v0, v1, v2, v3, v4⟩ <;> rcases p2 with ⟨a2, b2, u2⟩ | ⟨a2, tk, k6, kR⟩
  · subst u1; subst u2
    have y : ∀ t : Nat, (t : Int) < (h1 31 0).toInt → tf1 (ro Z t) = tf (ro Z t) := fun t ht => tt _ (hZ.ra (by omega)) (by rw [Rt.1]; exact hZ.ri (by omega) (by omega) (by omega))
    exact ⟨Rt.fr (Fr.rf (S := [])) (Fr.rf (S := [])) (by decide) (by decide) y, Rx.fr hZ hn Rt.1 (Fr.rf (S := [])) (Fr.rf (S := [])) (by decide) (by decide) y, b1.trans b2.symm⟩
  · exact absurd a2 a1
  · exact absurd a1 a2
  · have n0 := (rjF_0 q2 a2).2.2
    have en : (h1 31 0).toInt = (h 31 0).toInt + 1 := by rw [tk.1]; exact ti_addk rfl tk_1 (by omega) (by omega) rfl
    have hT1 : Rtr Z g1 tf1 h1 := by
     refine ⟨by rw [b1, tk.1, Rt.1], fun t ht k hk => ?_⟩
     rcases Int.lt_or_le (t : Int) (h 31 0).toInt with y | y
     · rw [tt _ (hZ.ra (by omega)) (by rw [Rt.1]; exact hZ.ri (by omega) (by omega) (by omega)), tk.rows hn.1 t y k hk]
       exact Rt.2 t y k hk
     · have et : t = (g 3 1).toInt.toNat := by omega
       have eh : t = (h 31 0).toNatClampNeg := by show t = (h 31 0).toInt.toNat; omega
       obtain ⟨-, k1, k2, k3, k4, k5⟩ := tk
       match k, hk with
       | 0, _ => rw [et, v0, ← et, k1, upd_at eh]
       | 1, _ => rw [et, v1, ← et, k2, upd_at eh]
       | 2, _ => rw [et, v2, ← et, k3, upd_at eh]
       | 3, _ => rw [et, v3, ← et, k4, upd_at eh]
       | 4, _ => rw [et, v4, ← et, k5, upd_at eh]
    have n0g := (rjF_0 q2 a2).2.1
    have en1 : (g1 3 1).toInt.toNat = (g 3 1).toInt.toNat + 1 := by rw [hT1.1]; omega
    have rw1 : Rw (xr Z tf1) h1 (((h 31 0).toInt.toNat + 1 : Nat) : Int) := (rw_of hT1).le (by omega)
    have hE : Eq1 (h 6) (TR h1 (h 31 0).toInt.toNat) := by
      have q := Rx.2.2 n0g
      rw [TR_cr (R2 := h1) (h 31 0).toInt.toNat (by omega) (fun t ht k hk => (tk.rows hn.1 t (by omega) k hk).symm)] at q
      exact q
    refine ⟨hT1, ⟨by rw [en1]; exact bT, fun z => absurd (by rw [← z, f2 30 (by decide)]) n0g, fun _ => ?_⟩, ?_⟩
    · exact TR_take (g := h) (x := h 31 0) (n := (h 31 0).toInt.toNat) (by omega) (Or.inl trivial) (by omega) (nI_ek (by omega)) (fun t ht k hk => (tk.rows hn.1 t (by omega) k hk).symm) k6 (Rx.2.2 n0g)
    · have q := ofc_eq (R := xr Z tf1) (h1 := h1) (S := h 6) (S2 := h1 6) (n := (h 31 0).toInt.toNat) (by omega) hJ1.j4 hJ1.j5 rw1 hE (by rw [← show h 31 0 = nI (h 31 0).toInt.toNat from nI_ek (by omega)]; exact k6)
      rw [Rt.1] at bR
      rw [← show h 31 0 = nI (h 31 0).toInt.toNat from nI_ek (by omega)] at q
      exact Int32.toInt_inj.mp (by rw [bR, kR, q])
theorem case_undo {r r2 : Int32} (Rt : Rtr Z g tf h) (j31 : 0 ≤ (h 31 0).toInt ∧ (h 31 0).toInt ≤ 70) (Rx : Rtx Z g tf h) (f2 : Fr [6, 31] h h1) (p1 : ((g 3 1 = 0 ∧ r = -103 ∧ g1 = g) ∨ (¬ g 3 1 = 0 ∧ g1 3 1 = g 3 1 - 1 ∧ r = g 3 1 - 1 ∧ TX (xr Z tf) ((g 3 1).toInt.toNat - 1) g1))) (p2 : ((h 31 0 = 0 ∧ r2 = -103 ∧ h1 = h) ∨ (¬ h 31 0 = 0 ∧ h1 31 0 = h 31 0 - 1 ∧ r2 = h 31 0 - 1 ∧ Eq1 (h1 6) (TR h ((h 31 0).toInt.toNat - 1))))) : Rtr Z g1 tf h1 ∧ Rtx Z g1 tf h1 ∧ r = r2 := by
  rcases p1 with ⟨a1, r1, u1⟩ | ⟨a1, u1, r1, bT⟩ <;> rcases p2 with ⟨a2, r2, u2⟩ | ⟨a2, u2, r2, dE⟩
  · subst u1; subst u2; exact ⟨Rt, Rx, r1.trans r2.symm⟩
  · exact absurd (Rt.1.symm.trans a1) a2
  · exact absurd (Rt.1.trans a2) a1
  · have y : ¬ (h 31 0).toInt = 0 := fun z => a2 (Int32.toInt_inj.mp (by rw [tk_0]; exact z))
    have q : (h1 31 0).toInt = (h 31 0).toInt - 1 := by rw [u2]; exact ti_subk rfl tk_1 (by omega) (by omega) rfl
    have n1 : (g1 3 1).toInt.toNat = (g 3 1).toInt.toNat - 1 := by rw [u1, Rt.1, ← u2]; omega
    refine ⟨⟨by rw [u1, u2, Rt.1], fun t ht k hk => ?_⟩, ⟨by rw [n1]; exact bT, fun z => absurd (Rx.2.1 (by rw [← z, f2 30 (by decide)])) a2, fun _ => ?_⟩, by rw [r1, r2, Rt.1]⟩
    · rw [f2 (k + 1) (by simp; omega)]
      exact Rt.2 t (by omega) k hk
    · rw [show (h1 31 0).toInt.toNat = (h 31 0).toInt.toNat - 1 by omega, ← TR_cr (R := h) (R2 := h1) ((h 31 0).toInt.toNat - 1) (by omega) (fun t _ k hk => by rw [f2 (k + 1) (by simp; omega)])]
      exact dE
theorem case_cross {x1 x2 r r2 : Int32} (Rt : Rtr Z g tf h) (hJ : MJ h) (h40 : (h 31 0).toInt ≤ 40) (p1 : ((¬ ((0 ≤ x1.toInt ∧ x1.toInt < (g 3 1).toInt) ∧ (0 ≤ x2.toInt ∧ x2.toInt < (g 3 1).toInt) ∧ ¬ x1 = x2) ∧ r = -101) ∨ (((0 ≤ x1.toInt ∧ x1.toInt < (g 3 1).toInt) ∧ (0 ≤ x2.toInt ∧ x2.toInt < (g 3 1).toInt) ∧ ¬ x1 = x2) ∧ ∃ q : Nat, q < 64 ∧ r.toInt = q ∧ ((tf (ro Z x1.toInt.toNat) 3).toInt ≤ (q : Int) ∧ (q : Int) ≤ (tf (ro Z x1.toInt.toNat) 4).toInt ∧ (tf (ro Z x2.toInt.toNat) 3).toInt ≤ (q : Int) ∧ (q : Int) ≤ (tf (ro Z x2.toInt.toNat) 4).toInt ∧ mbt (xr Z tf) x2 x1 (nI q) = true) ∧ (∀ j : Nat, j < q → ¬ ((tf (ro Z x1.toInt.toNat) 3).toInt ≤ (j : Int) ∧ (j : Int) ≤ (tf (ro Z x1.toInt.toNat) 4).toInt ∧ (tf (ro Z x2.toInt.toNat) 3).toInt ≤ (j : Int) ∧ (j : Int) ≤ (tf (ro Z x2.toInt.toNat) 4).toInt ∧ mbt (xr Z tf) x2 x1 (nI j) = true))) ∨ (((0 ≤ x1.toInt ∧ x1.toInt < (g 3 1).toInt) ∧ (0 ≤ x2.toInt ∧ x2.toInt < (g 3 1).toInt) ∧ ¬ x1 = x2) ∧ r = -1 ∧ (∀ j : Nat, j < 64 → ¬ ((tf (ro Z x1.toInt.toNat) 3).toInt ≤ (j : Int) ∧ (j : Int) ≤ (tf (ro Z x1.toInt.toNat) 4).toInt ∧ (tf (ro Z x2.toInt.toNat) 3).toInt ≤ (j : Int) ∧ (j : Int) ≤ (tf (ro Z x2.toInt.toNat) 4).toInt ∧ mbt (xr Z tf) x2 x1 (nI j) = true))))) (p2 : ((¬ ((0 ≤ x1.toInt ∧ x1.toInt < (h 31 0).toInt) ∧ (0 ≤ x2.toInt ∧ x2.toInt < (h 31 0).toInt) ∧ ¬ x1 = x2) ∧ r2 = -101) ∨ (((0 ≤ x1.toInt ∧ x1.toInt < (h 31 0).toInt) ∧ (0 ≤ x2.toInt ∧ x2.toInt < (h 31 0).toInt) ∧ ¬ x1 = x2) ∧ ((∃ q : Nat, q < 64 ∧ r2.toInt = q ∧ ((h 4 x1.toInt.toNat).toInt ≤ (q : Int) ∧ (q : Int) ≤ (h 5 x1.toInt.toNat).toInt ∧ (h 4 x2.toInt.toNat).toInt ≤ (q : Int) ∧ (q : Int) ≤ (h 5 x2.toInt.toNat).toInt ∧ mbt h x2 x1 (nI q) = true) ∧ (∀ j : Nat, j < q → ¬ ((h 4 x1.toInt.toNat).toInt ≤ (j : Int) ∧ (j : Int) ≤ (h 5 x1.toInt.toNat).toInt ∧ (h 4 x2.toInt.toNat).toInt ≤ (j : Int) ∧ (j : Int) ≤ (h 5 x2.toInt.toNat).toInt ∧ mbt h x2 x1 (nI j) = true))) ∨ (r2 = -1 ∧ (∀ j : Nat, j < 64 → ¬ ((h 4 x1.toInt.toNat).toInt ≤ (j : Int) ∧ (j : Int) ≤ (h 5 x1.toInt.toNat).toInt ∧ (h 4 x2.toInt.toNat).toInt ≤ (j : Int) ∧ (j : Int) ≤ (h 5 x2.toInt.toNat).toInt ∧ mbt h x2 x1 (nI j) = true))))))) : r = r2 := by
  have e1 : (g 3 1).toInt = (h 31 0).toInt := by rw [Rt.1]
  by_cases w : ((0 ≤ x1.toInt ∧ x1.toInt < (h 31 0).toInt) ∧ (0 ≤ x2.toInt ∧ x2.toInt < (h 31 0).toInt) ∧ ¬ x1 = x2)
  · have q3 := congrArg Int32.toInt (Rt.2 x1.toInt.toNat (by omega) 3 (by decide))
    have q4 := congrArg Int32.toInt (Rt.2 x1.toInt.toNat (by omega) 4 (by decide))
    have s3 := congrArg Int32.toInt (Rt.2 x2.toInt.toNat (by omega) 3 (by decide))
    have s4 := congrArg Int32.toInt (Rt.2 x2.toInt.toNat (by omega) 4 (by decide))
    have qq : ∀ j : Nat, (((tf (ro Z x1.toInt.toNat) 3).toInt ≤ (j : Int) ∧ (j : Int) ≤ (tf (ro Z x1.toInt.toNat) 4).toInt ∧ (tf (ro Z x2.toInt.toNat) 3).toInt ≤ (j : Int) ∧ (j : Int) ≤ (tf (ro Z x2.toInt.toNat) 4).toInt ∧ mbt (xr Z tf) x2 x1 (nI j) = true) ↔ ((h 4 x1.toInt.toNat).toInt ≤ (j : Int) ∧ (j : Int) ≤ (h 5 x1.toInt.toNat).toInt ∧ (h 4 x2.toInt.toNat).toInt ≤ (j : Int) ∧ (j : Int) ≤ (h 5 x2.toInt.toNat).toInt ∧ mbt h x2 x1 (nI j) = true)) := fun j => by
      rw [q3, q4, s3, s4, mbt_of Rt w.2.1 w.1]
    rcases p1 with ⟨a1, r1⟩ | ⟨a1, j, c1, c2, c3, c4⟩ | ⟨a1, r1, c4⟩
    · exact absurd ⟨by omega, by omega, w.2.2⟩ a1
    · rcases p2 with ⟨a2, r2⟩ | ⟨a2, ⟨j2, d1, d2, d3, d4⟩ | ⟨r2, d4⟩⟩
      · exact absurd w a2
      · rcases (show j < j2 ∨ j2 < j ∨ j = j2 by omega) with y | y | y
        · exact absurd ((qq j).mp c3) (d4 j y)
        · exact absurd ((qq j2).mpr d3) (c4 j2 y)
        · exact Int32.toInt_inj.mp (by omega)
      · exact absurd ((qq j).mp c3) (d4 j c1)
    · rcases p2 with ⟨a2, r2⟩ | ⟨a2, ⟨j2, d1, d2, d3, d4⟩ | ⟨r2, d4⟩⟩
      · exact absurd w a2
      · exact absurd ((qq j2).mpr d3) (c4 j2 d1)
      · exact r1.trans r2.symm
  · rcases p1 with ⟨a1, r1⟩ | ⟨a1, -⟩ | ⟨a1, -⟩
    · rcases p2 with ⟨a2, r2⟩ | ⟨a2, -⟩
      · exact r1.trans r2.symm
      · exact absurd a2 w
    · exact absurd ⟨by omega, by omega, a1.2.2⟩ w
    · exact absurd ⟨by omega, by omega, a1.2.2⟩ w
theorem case_see {x1 x2 x3 r r2 : Int32} (Rt : Rtr Z g tf h) (Rs : Rsn g h) (j38 : 0 ≤ (h 38 0).toInt ∧ (h 38 0).toInt ≤ 6) (Rq : Rsq g h) (p1 : ((¬ (0 ≤ x1.toInt ∧ x1.toInt < (g 3 1).toInt ∧ 0 ≤ x2.toInt ∧ x2.toInt ≤ 63) ∧ r = -101 ∧ g1 = g) ∨ ((0 ≤ x1.toInt ∧ x1.toInt < (g 3 1).toInt ∧ 0 ≤ x2.toInt ∧ x2.toInt ≤ 63) ∧ ¬ (0 ≤ (g 11 4).toInt ∧ (g 11 4).toInt < 6) ∧ r = -104 ∧ g1 = g) ∨ ((0 ≤ x1.toInt ∧ x1.toInt < (g 3 1).toInt ∧ 0 ≤ x2.toInt ∧ x2.toInt ≤ 63) ∧ (0 ≤ (g 11 4).toInt ∧ (g 11 4).toInt < 6) ∧ r = g 11 4 + 1 ∧ g1 = up2 (upR (upR (upR g 12 (upd (g 12) (g 11 4).toNatClampNeg x1)) 13 (upd (g 13) (g 11 4).toNatClampNeg x2)) 14 (upd (g 14) (g 11 4).toNatClampNeg x3)) 11 4 (g 11 4 + 1)))) (p2 : ((¬ (0 ≤ x1.toInt ∧ x1.toInt < (h 31 0).toInt ∧ 0 ≤ x2.toInt ∧ x2.toInt ≤ 63) ∧ r2 = -101 ∧ h1 = h) ∨ ((0 ≤ x1.toInt ∧ x1.toInt < (h 31 0).toInt ∧ 0 ≤ x2.toInt ∧ x2.toInt ≤ 63) ∧ (h 38 0).toInt = 6 ∧ r2 = -104 ∧ h1 = h) ∨ ((0 ≤ x1.toInt ∧ x1.toInt < (h 31 0).toInt ∧ 0 ≤ x2.toInt ∧ x2.toInt ≤ 63) ∧ (h 38 0).toInt < 6 ∧ r2 = h 38 0 + 1 ∧ h1 = up2 (upR (upR (upR h 7 (upd (h 7) (h 38 0).toNatClampNeg x1)) 8 (upd (h 8) (h 38 0).toNatClampNeg x2)) 9 (upd (h 9) (h 38 0).toNatClampNeg x3)) 38 0 (h 38 0 + 1)))) : Rsn g1 h1 ∧ Rsq g1 h1 ∧ r = r2 := by
  have e1 : (g 3 1).toInt = (h 31 0).toInt := by rw [Rt.1]
  have e2 : (g 11 4).toInt = (h 38 0).toInt := by rw [Rs.1]
  rcases p1 with ⟨a1, r1, u1⟩ | ⟨a1, b1, r1, u1⟩ | ⟨a1, b1, r1, u1⟩ <;> rcases p2 with ⟨a2, r2, u2⟩ | ⟨a2, b2, r2, u2⟩ | ⟨a2, b2, r2, u2⟩
  · subst u1; subst u2; exact ⟨Rs, Rq, r1.trans r2.symm⟩
  · exfalso; omega
  · exfalso; omega
  · exfalso; omega
  · subst u1; subst u2; exact ⟨Rs, Rq, r1.trans r2.symm⟩
  · exfalso; omega
  · exfalso; omega
  · exfalso; omega
  · subst u1; subst u2
    refine ⟨⟨by show g 11 4 + 1 = h 38 0 + 1; rw [Rs.1], fun i hi => ?_⟩, ⟨fun i hi => ?_, Rq.2⟩, by rw [r1, r2, Rs.1]⟩
    all_goals
     have hi : (i : Int) < (h 38 0 + 1).toInt := hi
     rw [ti_addk (x := h 38 0) rfl tk_1 (by omega) (by omega) rfl] at hi
    rotate_left
    · show 0 ≤ (upd (h 8) (h 38 0).toNatClampNeg x2 i).toInt ∧ (upd (h 8) (h 38 0).toNatClampNeg x2 i).toInt ≤ 63
      by_cases y : i = (h 38 0).toNatClampNeg
      · rw [upd_at y]; omega
      · rw [pk_un y]
        have y2 : ¬ (i : Int) = (h 38 0).toInt := fun y3 => y (ti_clamp y3.symm).symm
        exact Rq.1 i (by omega)
    show upd (g 12) (g 11 4).toNatClampNeg x1 i = upd (h 7) (h 38 0).toNatClampNeg x1 i ∧ upd (g 13) (g 11 4).toNatClampNeg x2 i = upd (h 8) (h 38 0).toNatClampNeg x2 i ∧ upd (g 14) (g 11 4).toNatClampNeg x3 i = upd (h 9) (h 38 0).toNatClampNeg x3 i
    rw [Rs.1]
    by_cases y : i = (h 38 0).toNatClampNeg
    · rw [upd_at y, upd_at y, upd_at y, upd_at y, upd_at y, upd_at y]; exact ⟨rfl, rfl, rfl⟩
    · rw [pk_un y, pk_un y, pk_un y, pk_un y, pk_un y, pk_un y]
      have y2 : ¬ (i : Int) = (h 38 0).toInt := fun y3 => y (ti_clamp y3.symm).symm
      exact Rs.2 i (by omega)
theorem case_image {c : Nat} {r r2 : Int32} (hZ : XG Z) (Rt : Rtr Z g tf h) (Rs : Rsn g h) (Rd : Rdk g h c) (Rk : Rkp Z g tf h) (hJ : MJ h) (h40 : (h 31 0).toInt ≤ 40) (Rx : Rtx Z g tf h) (Rq : Rsq g h) (f : Fr [0, 17, 19, 20, 21, 22] g g1) (f2 : Fr [12, 13, 14, 15, 16, 17, 18, 19, 48, 49, 50, 51] h h1) (p1 : ((g 0 8 = 0 ∧ r = -103 ∧ g1 = g ∧ tf1 = tf) ∨ (¬ g 0 8 = 0 ∧ r = g 3 1 ∧ g1 0 8 = g 0 8 ∧ g1 0 9 = 1 ∧ g1 0 10 = g 0 10 ∧ g1 17 1 = g 3 1 ∧ g1 19 4 = g 11 4 ∧ ((∀ i : Nat, (i : Int) < (g 11 4).toInt → g1 20 i = g 12 i) ∧ (∀ i : Nat, (i : Int) < (g 11 4).toInt → g1 21 i = g 13 i) ∧ (∀ i : Nat, (i : Int) < (g 11 4).toInt → g1 22 i = g 14 i)) ∧ ((∀ t : Nat, (t : Int) < (g 3 1).toInt → ∀ k, k < 5 → tf1 (ko Z t) k = tf (ro Z t) k) ∧ (∀ b, (∀ t, t < 40 → b ≠ ko Z t) → tf1 b = tf b))))) (p2 : ((h 30 0 = 0 ∧ r2 = -103 ∧ h1 = h) ∨ (¬ h 30 0 = 0 ∧ r2 = h 31 0 ∧ (h1 48 0 = 1 ∧ h1 49 0 = h 30 0 ∧ h1 50 0 = h 31 0 ∧ h1 51 0 = h 38 0) ∧ (∀ t : Nat, (t : Int) < 40 → ∀ k, k < 5 → h1 (k + 12) t = h (k + 1) t) ∧ (∀ t : Nat, (t : Int) < 6 → ∀ k, k < 3 → h1 (k + 17) t = h (k + 7) t)))) : Rtr Z g1 tf1 h1 ∧ Rdk g1 h1 c ∧ Rkp Z g1 tf1 h1 ∧ Rtx Z g1 tf1 h1 ∧ Rsq g1 h1 ∧ r = r2 := by
  have j31 := hJ.j31
  have j38 := hJ.j38
  have e1 : (g 3 1).toInt = (h 31 0).toInt := by rw [Rt.1]
  have e2 : (g 11 4).toInt = (h 38 0).toInt := by rw [Rs.1]
  rcases p1 with ⟨a1, r1, u1, v1⟩ | ⟨a1, r1, b1, b2, b3, b4, b5, ⟨bs1, bs2, bs3⟩, ⟨bk, bb⟩⟩ <;> rcases p2 with ⟨a2, r2, u2⟩ | ⟨a2, r2, ⟨d1, d2, d3, d4⟩, dA, dB⟩
  · subst u1; subst u2; subst v1; exact ⟨Rt, Rd, Rk, Rx, Rq, r1.trans r2.symm⟩
  · exact absurd (Rd.2.1.mp a1) a2
  · exact absurd (Rd.2.1.mpr a2) a1
  · have m31 : h1 31 = h 31 := f2 31 (by decide)
    have m30 : h1 30 = h 30 := f2 30 (by decide)
    refine ⟨Rt.fr f f2 (by decide) (by decide) (fun t ht => bb _ (fun t2 h2 => hZ.rk (by omega) h2)), ?_, ⟨by rw [b4, e1]; exact ⟨j31.1, h40⟩, by rw [b5, e2]; exact j38, by rw [d2, m30]; exact Int.le_refl _, ⟨fun z => absurd z (by rw [b2]; decide), fun z => absurd ⟨by rw [d1]; decide, by rw [d2, m30]⟩ z⟩, fun _ => ⟨by rw [b4, d3, Rt.1], by rw [b5, d4, Rs.1], fun t ht k hk => ?_, fun i hi => ?_⟩⟩, Rx.fr hZ ⟨j31.1, h40⟩ Rt.1 f f2 (by decide) (by decide) (fun t ht => bb _ (fun t2 h2 => hZ.rk (by omega) h2)), ⟨fun i hi => ?_, fun _ => ⟨by rw [m30]; exact a2, fun i hi => ?_⟩⟩, by rw [r1, r2, Rt.1]⟩
    · unfold Rdk; rw [b3, b1, m30]; exact Rd
    · rw [d3] at ht
      rw [bk t (by omega) k hk, Rt.2 t ht k hk, dA t (by omega) k hk]
    · rw [d4] at hi
      have z := Rs.2 i hi
      have q0 := dB i (by omega) 0 (by decide); have q1 := dB i (by omega) 1 (by decide); have q2 := dB i (by omega) 2 (by decide)
      rw [bs1 i (by omega), bs2 i (by omega), bs3 i (by omega), z.1, z.2.1, z.2.2]
      exact ⟨q0.symm, q1.symm, q2.symm⟩
    · rw [f2 38 (by decide)] at hi; rw [f2 8 (by decide)]; exact Rq.1 i hi
    · rw [d4] at hi
      have q1 : h1 18 i = h 8 i := dB i (by omega) 1 (by decide)
      rw [q1]; exact Rq.1 i hi
theorem case_restore {c : Nat} {r r2 : Int32} (hZ : XG Z) (Rt : Rtr Z g tf h) (Rs : Rsn g h) (Rd : Rdk g h c) (Rk : Rkp Z g tf h) (hJ : MJ h) (Rx : Rtx Z g tf h) (Rq : Rsq g h) (f : Fr [3, 5, 6, 7, 8, 9, 10, 11, 12, 13, 14] g g1) (f2 : Fr [1, 2, 3, 4, 5, 6, 7, 8, 9, 31, 38] h h1) (p1 : ((g 0 9 = 0 ∧ r = -103 ∧ g1 = g ∧ tf1 = tf) ∨ (¬ g 0 9 = 0 ∧ r = g 17 1 ∧ g1 3 1 = g 17 1 ∧ g1 11 4 = g 19 4 ∧ ((∀ i : Nat, (i : Int) < (g 19 4).toInt → g1 12 i = g 20 i) ∧ (∀ i : Nat, (i : Int) < (g 19 4).toInt → g1 13 i = g 21 i) ∧ (∀ i : Nat, (i : Int) < (g 19 4).toInt → g1 14 i = g 22 i)) ∧ (∀ t : Nat, (t : Int) < (g 17 1).toInt → ∀ k, k < 5 → tf1 (ro Z t) k = tf (ko Z t) k) ∧ (∀ b, (∀ t, t < 70 → b ≠ ro Z t) → tf1 b = tf b) ∧ TX (xr Z tf1) (g 17 1).toInt.toNat g1))) (p2 : ((¬ (¬ h 48 0 = 0 ∧ h 49 0 = h 30 0) ∧ r2 = -103 ∧ h1 = h) ∨ ((¬ h 48 0 = 0 ∧ h 49 0 = h 30 0) ∧ r2 = h 50 0 ∧ h1 31 0 = h 50 0 ∧ h1 38 0 = h 51 0 ∧ (∀ t : Nat, (t : Int) < 40 → ∀ k, k < 5 → h1 (k + 1) t = h (k + 12) t) ∧ (∀ t : Nat, (t : Int) < 6 → ∀ k, k < 3 → h1 (k + 7) t = h (k + 17) t) ∧ Eq1 (h1 6) (TR h1 (h 50 0).toInt.toNat)))) : Rtr Z g1 tf1 h1 ∧ Rsn g1 h1 ∧ Rkp Z g1 tf1 h1 ∧ Rtx Z g1 tf1 h1 ∧ Rsq g1 h1 ∧ r = r2 := by
  have j50 := hJ.j50
  have j51 := hJ.j51
  rcases p1 with ⟨a1, r1, u1, v1⟩ | ⟨a1, r1, b1, b2, ⟨bs1, bs2, bs3⟩, bA, bB, bT⟩ <;> rcases p2 with ⟨a2, r2, u2⟩ | ⟨a2, r2, d1, d2, dA, dB, dE⟩
  · subst u1; subst u2; subst v1; exact ⟨Rt, Rs, Rk, Rx, Rq, r1.trans r2.symm⟩
  · exact absurd a2 (Rk.2.2.2.1.mp a1)
  · exact absurd (Rk.2.2.2.1.mpr a2) a1
  · obtain ⟨k1, k2, k3, k4⟩ := Rk.2.2.2.2 a1
    have e1 : (g 17 1).toInt = (h 50 0).toInt := by rw [k1]
    have e2 : (g 19 4).toInt = (h 51 0).toInt := by rw [k2]
    refine ⟨⟨by rw [b1, d1, k1], fun t ht k hk => ?_⟩, ⟨by rw [b2, d2, k2], fun i hi => ?_⟩, Rk.fr f f2 (by decide) (by decide) (fun t ht => bB _ (fun t2 h2 => (hZ.rk h2 ht).symm)), ⟨by rw [b1]; exact bT, fun z => absurd (by rw [← z, f2 30 (by decide)]) (Rq.2 a1).1, fun _ => by rw [d1]; exact dE⟩, ⟨fun i hi => ?_, fun z => ?_⟩, by rw [r1, r2, k1]⟩
    · rw [d1] at ht
      rw [bA t (by omega) k hk, k3 t ht k hk, dA t (by omega) k hk]
    · rw [d2] at hi
      have z := k4 i hi
      have q0 := dB i (by omega) 0 (by decide); have q1 := dB i (by omega) 1 (by decide); have q2 := dB i (by omega) 2 (by decide)
      rw [bs1 i (by omega), bs2 i (by omega), bs3 i (by omega), z.1, z.2.1, z.2.2]
      exact ⟨q0.symm, q1.symm, q2.symm⟩
    · rw [d2] at hi
      have q1 : h1 8 i = h 18 i := dB i (by omega) 1 (by decide)
      rw [q1]; exact (Rq.2 a1).2 i hi
    · have q := Rq.2 a1
      rw [f2 30 (by decide), f2 51 (by decide), f2 18 (by decide)]; exact q

theorem case_tariff {x1 x2 r r2 : Int32} (Rt : Rtr Z g tf h) (Rs : Rsn g h) (Rx : Rtx Z g tf h) (hJ : MJ h) (h40 : (h 31 0).toInt ≤ 40) (p1 : ((¬ (0 ≤ x1.toInt ∧ x1.toInt < (g 3 1).toInt) ∧ r = -101) ∨ ((0 ≤ x1.toInt ∧ x1.toInt < (g 3 1).toInt) ∧ ¬ (0 ≤ x2.toInt ∧ x2.toInt ≤ 6) ∧ r = -102) ∨ ((0 ≤ x1.toInt ∧ x1.toInt < (g 3 1).toInt) ∧ (0 ≤ x2.toInt ∧ x2.toInt ≤ 6) ∧ r = tvF (xr Z tf) (g 6) (g 10) (g 12) (g 13) (g 14) (g 11 4).toInt.toNat x1.toInt.toNat x2.toInt.toNat))) (p2 : ((¬ (0 ≤ x1.toInt ∧ x1.toInt < (h 31 0).toInt) ∧ r2 = -101) ∨ ((0 ≤ x1.toInt ∧ x1.toInt < (h 31 0).toInt) ∧ ¬ (0 ≤ x2.toInt ∧ x2.toInt ≤ 6) ∧ r2 = -102) ∨ ((0 ≤ x1.toInt ∧ x1.toInt < (h 31 0).toInt) ∧ (0 ≤ x2.toInt ∧ x2.toInt ≤ 6) ∧ r2 = tvF h (h 6) (mC h) (h 7) (h 8) (h 9) (h 38 0).toInt.toNat x1.toInt.toNat x2.toInt.toNat))) : r = r2 := by
  have j31 := hJ.j31
  have j38 := hJ.j38
  have e1 : (g 3 1).toInt = (h 31 0).toInt := by rw [Rt.1]
  rcases p1 with ⟨a1, r1⟩ | ⟨a1, b1, r1⟩ | ⟨a1, b1, r1⟩ <;> rcases p2 with ⟨a2, r2⟩ | ⟨a2, b2, r2⟩ | ⟨a2, b2, r2⟩
  · exact r1.trans r2.symm
  · exfalso; omega
  · exfalso; omega
  · exfalso; omega
  · exact r1.trans r2.symm
  · exfalso; omega
  · exfalso; omega
  · exfalso; omega
  · have hd : ¬ h 30 0 = 0 := fun z => by have y := congrArg Int32.toInt (Rx.2.1 z); rw [tk_0] at y; omega
    have e2 : (g 11 4).toInt.toNat = (h 38 0).toInt.toNat := by rw [Rs.1]
    rw [r1, r2, e2]
    exact tv_cg (fun k hk => Rt.2 x1.toInt.toNat (by omega) k hk) (cc_E Rt Rx hJ h40 hd) (cc_C Rt Rx hJ h40 hd) (fun i hi => Rs.2 i (by omega))
theorem case_cheapest {c : Nat} {x1 r r2 : Int32} (Rt : Rtr Z g tf h) (Rd : Rdk g h c) (Rx : Rtx Z g tf h) (hJ : MJ h) (h40 : (h 31 0).toInt ≤ 40) (p1 : ((¬ ((0 ≤ x1.toInt ∧ x1.toInt ≤ 63) ∧ ¬ g 0 8 = 0) ∧ r = -101) ∨ (((0 ≤ x1.toInt ∧ x1.toInt ≤ 63) ∧ ¬ g 0 8 = 0) ∧ r = g 10 x1.toInt.toNat))) (p2 : ((¬ (0 < (h 30 0).toInt ∧ (0 ≤ x1.toInt ∧ x1.toInt ≤ 63)) ∧ r2 = -101) ∨ ((0 < (h 30 0).toInt ∧ (0 ≤ x1.toInt ∧ x1.toInt ≤ 63)) ∧ r2 = mC h x1.toInt.toNat))) : r = r2 := by
  have dk := dk_of Rd
  rcases p1 with ⟨a1, r1⟩ | ⟨a1, r1⟩ <;> rcases p2 with ⟨a2, r2⟩ | ⟨a2, r2⟩
  · exact r1.trans r2.symm
  · exact absurd ⟨a2.2, dk.1.mpr a2.1⟩ a1
  · exact absurd ⟨dk.1.mp a1.2, a1.1⟩ a2
  · rw [r1, r2]; exact cc_C Rt Rx hJ h40 (dk.2.mpr a2.1) x1.toInt.toNat (by have y := a1.1; omega)
theorem case_cost {c : Nat} {x1 : Int32} {r r2 : Int64} (Rt : Rtr Z g tf h) (Rd : Rdk g h c) (Rx : Rtx Z g tf h) (hJ : MJ h) (h40 : (h 31 0).toInt ≤ 40) (p1 : ((¬ ((0 ≤ x1.toInt ∧ x1.toInt ≤ 63) ∧ ¬ g 0 8 = 0) ∧ r = -101) ∨ (((0 ≤ x1.toInt ∧ x1.toInt ≤ 63) ∧ ¬ g 0 8 = 0) ∧ r = csF (xr Z tf) (g 10) x1.toInt.toNat))) (p2 : ((¬ (0 < (h 30 0).toInt ∧ (0 ≤ x1.toInt ∧ x1.toInt ≤ 63)) ∧ r2 = -101) ∨ ((0 < (h 30 0).toInt ∧ (0 ≤ x1.toInt ∧ x1.toInt ≤ 63)) ∧ r2 = csF h (mC h) x1.toInt.toNat))) : r = r2 := by
  have dk := dk_of Rd
  rcases p1 with ⟨a1, r1⟩ | ⟨a1, r1⟩ <;> rcases p2 with ⟨a2, r2⟩ | ⟨a2, r2⟩
  · exact r1.trans r2.symm
  · exact absurd ⟨a2.2, dk.1.mpr a2.1⟩ a1
  · exact absurd ⟨dk.1.mp a1.2, a1.1⟩ a2
  · rw [r1, r2]; exact cc_cs Rt Rx hJ h40 (dk.2.mpr a2.1) x1.toInt.toNat (by have y := a1.1; omega)
theorem case_piece {c : Nat} {x1 x2 r r2 : Int32} (Rt : Rtr Z g tf h) (Rd : Rdk g h c) (Rx : Rtx Z g tf h) (hJ : MJ h) (h40 : (h 31 0).toInt ≤ 40) (p1 : ((¬ (0 ≤ x1.toInt ∧ x1.toInt < (cB (fpB (g 10)) 64 : Int)) ∧ r = -101) ∨ (∃ q, pcP (g 10) x1.toInt.toNat q ∧ 0 ≤ x1.toInt ∧ ((x2.toInt = 0 ∧ r = g 10 q) ∨ (x2.toInt = 1 ∧ r.toInt = (q : Int)) ∨ (x2.toInt = 2 ∧ ∃ l, laP (g 10) q l ∧ r.toInt = (l : Int)) ∨ (¬ (0 ≤ x2.toInt ∧ x2.toInt ≤ 2) ∧ r = -102))))) (p2 : ((¬ (0 < (h 30 0).toInt ∧ 0 ≤ x1.toInt ∧ x1.toInt < (cB (fpB (mC h)) 64 : Int)) ∧ r2 = -101) ∨ ((0 < (h 30 0).toInt ∧ 0 ≤ x1.toInt ∧ x1.toInt < (cB (fpB (mC h)) 64 : Int)) ∧ ¬ (0 ≤ x2.toInt ∧ x2.toInt ≤ 2) ∧ r2 = -102) ∨ ((0 < (h 30 0).toInt ∧ 0 ≤ x1.toInt ∧ x1.toInt < (cB (fpB (mC h)) 64 : Int)) ∧ (0 ≤ x2.toInt ∧ x2.toInt ≤ 2) ∧ ∃ q, pcP (mC h) x1.toInt.toNat q ∧ ((x2.toInt = 0 ∧ r2 = mC h q) ∨ (x2.toInt = 1 ∧ r2.toInt = (q : Int)) ∨ ((¬ x2.toInt = 0 ∧ ¬ x2.toInt = 1) ∧ ∃ l, laP (mC h) q l ∧ r2.toInt = (l : Int)))))) : r = r2 := by
  have dk := dk_of Rd
  by_cases hd : 0 < (h 30 0).toInt
  · have C := cc_C Rt Rx hJ h40 (dk.2.mpr hd)
    have e := fp_64 C
    rcases p1 with ⟨a1, r1⟩ | ⟨q, b1, b2, b3⟩
    · rcases p2 with ⟨a2, r2⟩ | ⟨a2, -, -⟩ | ⟨a2, -, -⟩
      · exact r1.trans r2.symm
      · exact absurd ⟨a2.2.1, by rw [e]; exact a2.2.2⟩ a1
      · exact absurd ⟨a2.2.1, by rw [e]; exact a2.2.2⟩ a1
    · have l := cB_lt b1.1 b1.2.1
      have k1 := b1.2.2
      rcases p2 with ⟨a2, r2⟩ | ⟨a2, w, r2⟩ | ⟨a2, w, q2, c1, c2⟩
      · exact absurd ⟨hd, b2, by rw [← e]; omega⟩ a2
      · rcases b3 with ⟨y, -⟩ | ⟨y, -⟩ | ⟨y, -⟩ | ⟨y, r1⟩
        · exfalso; omega
        · exfalso; omega
        · exfalso; omega
        · exact r1.trans r2.symm
      · have eq : q = q2 := pcP_one (pcP_cg C b1) c1
        subst eq
        rcases b3 with ⟨y, r1⟩ | ⟨y, r1⟩ | ⟨y, l1, la, r1⟩ | ⟨y, r1⟩
        · rcases c2 with ⟨z, r2⟩ | ⟨z, r2⟩ | ⟨z, l2, lb, r2⟩
          · rw [r1, r2]; exact C q b1.1
          · exfalso; omega
          · exfalso; omega
        · rcases c2 with ⟨z, r2⟩ | ⟨z, r2⟩ | ⟨z, l2, lb, r2⟩
          · exfalso; omega
          · exact Int32.toInt_inj.mp (r1.trans r2.symm)
          · exfalso; omega
        · rcases c2 with ⟨z, r2⟩ | ⟨z, r2⟩ | ⟨z, l2, lb, r2⟩
          · exfalso; omega
          · exfalso; omega
          · have y2 := laP_one (laP_cg C la) lb
            subst y2
            exact Int32.toInt_inj.mp (r1.trans r2.symm)
        · exact absurd w y
  · have h0 := cc_0 Rt Rx (Classical.byContradiction (fun y => hd (dk.2.mp y)))
    rcases p1 with ⟨a1, r1⟩ | ⟨q, b1, b2, b3⟩
    · rcases p2 with ⟨a2, r2⟩ | ⟨a2, -, -⟩ | ⟨a2, -, -⟩
      · exact r1.trans r2.symm
      · exact absurd a2.1 hd
      · exact absurd a2.1 hd
    · exact absurd (h0.1 q b1.1) (of_decide_eq_true b1.2.1).1
theorem case_bargain {c : Nat} {x1 x2 r r2 : Int32} (Rt : Rtr Z g tf h) (Rd : Rdk g h c) (Rx : Rtx Z g tf h) (hJ : MJ h) (h40 : (h 31 0).toInt ≤ 40) (p1 : ((¬ (0 ≤ x1.toInt ∧ x1.toInt ≤ x2.toInt ∧ x2.toInt ≤ 63) ∧ r = -102) ∨ ((0 ≤ x1.toInt ∧ x1.toInt ≤ x2.toInt ∧ x2.toInt ≤ 63) ∧ g 0 8 = 0 ∧ r = -103) ∨ ((0 ≤ x1.toInt ∧ x1.toInt ≤ x2.toInt ∧ x2.toInt ≤ 63) ∧ ¬ g 0 8 = 0 ∧ isG (g 10) (prC (xr Z tf) (g 10)) x1.toInt.toNat (x2.toInt.toNat + 1) r))) (p2 : ((¬ (0 ≤ x1.toInt ∧ x1.toInt ≤ x2.toInt ∧ x2.toInt ≤ 63) ∧ r2 = -102) ∨ ((0 ≤ x1.toInt ∧ x1.toInt ≤ x2.toInt ∧ x2.toInt ≤ 63) ∧ h 30 0 = 0 ∧ r2 = -103) ∨ ((0 ≤ x1.toInt ∧ x1.toInt ≤ x2.toInt ∧ x2.toInt ≤ 63) ∧ ¬ h 30 0 = 0 ∧ isG (mC h) (prC h (mC h)) x1.toInt.toNat (x2.toInt.toNat + 1) r2))) : r = r2 := by
  rcases p1 with ⟨a1, r1⟩ | ⟨a1, b1, r1⟩ | ⟨a1, b1, r1⟩ <;> rcases p2 with ⟨a2, r2⟩ | ⟨a2, b2, r2⟩ | ⟨a2, b2, r2⟩
  · exact r1.trans r2.symm
  · exact absurd a2 a1
  · exact absurd a2 a1
  · exact absurd a1 a2
  · exact r1.trans r2.symm
  · exact absurd (Rd.2.1.mp b1) b2
  · exact absurd a1 a2
  · exact absurd (Rd.2.1.mpr b2) b1
  · exact isG_one (isG_cg (by omega) (cc_C Rt Rx hJ h40 b2) (cc_pr Rt Rx hJ h40 b2) r1) r2
theorem case_count {c : Nat} {x1 r r2 : Int32} (Rp : Rpg g h) (Rt : Rtr Z g tf h) (Rs : Rsn g h) (Rd : Rdk g h c) (Rx : Rtx Z g tf h) (hJ : MJ h) (h40 : (h 31 0).toInt ≤ 40) (p1 : r = cvF (cvX g) x1) (p2 : r2 = cvF (cvM h) x1) : r = r2 := p1.trans ((cv_cg (cv_of Rp Rt Rs Rd Rx hJ h40)).trans p2.symm)
theorem case_digest {c : Nat} {r r2 : Int64} (Rp : Rpg g h) (Rt : Rtr Z g tf h) (Rs : Rsn g h) (Rd : Rdk g h c) (Rx : Rtx Z g tf h) (hJ : MJ h) (h40 : (h 31 0).toInt ≤ 40) (p1 : (∃ h2, ((g 0 8 = 0 ∧ h2 = (mxT (fun t w => tvF (xr Z tf) (g 6) (g 10) (g 12) (g 13) (g 14) (g 11 4).toInt.toNat t w) 1361 (g 3 1).toInt.toNat)) ∨ (¬ g 0 8 = 0 ∧ ∃ b, isG (g 10) (prC (xr Z tf) (g 10)) 0 64 b ∧ h2 = mtF (g 10) (g 6) (csF (xr Z tf) (g 10)) b (mxT (fun t w => tvF (xr Z tf) (g 6) (g 10) (g 12) (g 13) (g 14) (g 11 4).toInt.toNat t w) 1361 (g 3 1).toInt.toNat))) ∧ r = (mxL (fun w => (cvX g w).toInt64) (mxL (fun k => (g 2 k).toInt64) h2 (g 1 1).toInt.toNat) 8))) (p2 : (∃ h2, ((¬ 0 < (h 30 0).toInt ∧ h2 = (mxT (fun t w => tvF h (h 6) (mC h) (h 7) (h 8) (h 9) (h 38 0).toInt.toNat t w) 1361 (h 31 0).toInt.toNat)) ∨ (0 < (h 30 0).toInt ∧ ∃ b, isG (mC h) (prC h (mC h)) 0 64 b ∧ h2 = mtF (mC h) (h 6) (csF h (mC h)) b (mxT (fun t w => tvF h (h 6) (mC h) (h 7) (h 8) (h 9) (h 38 0).toInt.toNat t w) 1361 (h 31 0).toInt.toNat))) ∧ r2 = (mxL (fun w => (cvM h w).toInt64) (mxL (fun k => (h 10 k).toInt64) h2 (h 42 0).toInt.toNat) 8))) : r = r2 := by
  have j31 := hJ.j31
  have j38 := hJ.j38
  have dk := dk_of Rd
  obtain ⟨a, a1, a2⟩ := p1
  obtain ⟨b, b1, b2⟩ := p2
  have e2 : (g 11 4).toInt.toNat = (h 38 0).toInt.toNat := by rw [Rs.1]
  have et : (mxT (fun t w => tvF (xr Z tf) (g 6) (g 10) (g 12) (g 13) (g 14) (g 11 4).toInt.toNat t w) 1361 (g 3 1).toInt.toNat) = (mxT (fun t w => tvF h (h 6) (mC h) (h 7) (h 8) (h 9) (h 38 0).toInt.toNat t w) 1361 (h 31 0).toInt.toNat) := by
    rw [Rt.1, e2]
    refine mxT_cg _ (fun t ht w hw => ?_)
    have hd : ¬ h 30 0 = 0 := fun z => by have y := congrArg Int32.toInt (Rx.2.1 z); rw [tk_0] at y; omega
    exact tv_cg (fun k hk => Rt.2 t (by omega) k hk) (cc_E Rt Rx hJ h40 hd) (cc_C Rt Rx hJ h40 hd) (fun i hi => Rs.2 i (by omega))
  have ab : a = b := by
    rcases a1 with ⟨d1, f1⟩ | ⟨d1, bb, k1, f1⟩ <;> rcases b1 with ⟨d2, f2⟩ | ⟨d2, bb2, k2, f2⟩
    · exact f1.trans (et.trans f2.symm)
    · exact absurd d1 (dk.1.mpr d2)
    · exact absurd (dk.1.mp d1) d2
    · have hd := dk.2.mpr d2
      have eb : bb = bb2 := isG_one (isG_cg (by omega) (cc_C Rt Rx hJ h40 hd) (cc_pr Rt Rx hJ h40 hd) k1) k2
      subst eb
      rw [f1, f2, et]
      exact mt_cg (cc_C Rt Rx hJ h40 hd) (cc_E Rt Rx hJ h40 hd) (cc_cs Rt Rx hJ h40 hd)
  rw [a2, b2, ab, Rp.1, Rp.2]
  exact mxL_cg 8 (fun i hi => by show (cvX g i).toInt64 = (cvM h i).toInt64; rw [cv_of Rp Rt Rs Rd Rx hJ h40 i (by omega)])
/-- for how many quantities a new one would be cheapest -/
theorem wd_eq {R R2 : Nat → Nat → Int32} {C : Nat → Int32} {n : Nat} {k r b f l : Int32} (hn : n < 70) (hJ : MJ R2) (hr : Rw R R2 n) (a1 : R2 1 n = k) (a2 : R2 2 n = r) (a3 : R2 3 n = b) (a4 : R2 4 n = f) (a5 : R2 5 n = l) (hC : ∀ q, q < 64 → C q = bst R n q) (hE : Eq1 (R2 6) (TR R2 (n + 1))) : cB (wdB R C k r b f l) 64 = cB (qnB (mC R2) (n : Int) (n : Int)) 64 := cB_cg 64 (fun q hq => by
  have e1 : mC R2 q = bst R2 (n + 1) q := mC_bst (by omega) hJ hE hq
  have e2 : C q = bst R2 n q := by rw [hC q hq, bst_cr n (by omega) hr]
  have hpn : mpr R2 (nI n).toNatClampNeg (nI q) = mpF k r b f (nI q) := by rw [cl_nI (by omega)]; unfold mpr; rw [a1, a2, a3, a4]
  have rg := bst_rg (R := R2) (n := n) (q := q) (by omega)
  unfold wdB qnB
  rw [e1]
  apply decide_eq_decide.mpr
  by_cases z : hs R2 n q ∧ (bst R2 n q = -1 ∨ bt R2 (nI n) (bst R2 n q) q)
  · rw [bst_y z.1 z.2, nI_toInt (by omega)]
    refine ⟨fun _ => ⟨Int.le_refl _, Int.le_refl _⟩, fun _ => ⟨by have y := z.1; unfold hs at y; rw [a4, a5] at y; exact y, ?_⟩⟩
    by_cases cm : C q = -1
    · exact Or.inl cm
    · right
      have y := z.2.resolve_left (fun w => cm (e2.trans w))
      have rg2 := rg.resolve_left (fun w => cm (e2.trans w))
      have y2 := mbt_iff.mp y
      rw [hpn, nI_toInt (by omega)] at y2
      unfold prC
      rw [hr.mp (t := (C q).toNatClampNeg) (by rw [e2]; show (((bst R2 n q).toInt.toNat : Nat) : Int) < _; omega), e2]
      omega
  · rw [bst_n z]
    constructor
    · intro w
      exfalso
      apply z
      refine ⟨by have y := w.1; unfold hs; rw [a4, a5]; exact y, ?_⟩
      rcases w.2 with y | y
      · exact Or.inl (e2.symm.trans y)
      · by_cases cm : C q = -1
        · exact Or.inl (e2.symm.trans cm)
        · right
          have rg2 := rg.resolve_left (fun w => cm (e2.trans w))
          unfold prC at y
          rw [hr.mp (t := (C q).toNatClampNeg) (by rw [e2]; show (((bst R2 n q).toInt.toNat : Nat) : Int) < _; omega), e2, ← hpn] at y
          exact mbt_iff.mpr (Or.inl y)
    · intro w
      exfalso
      rcases rg with y | y
      · rw [y] at w; rw [show ((-1 : Int32)).toInt = -1 by decide] at w; omega
      · omega)
theorem case_would {c : Nat} {x1 x2 x3 x4 r r2 : Int32} (hZ : XG Z) (Rt : Rtr Z g tf h) (Rd : Rdk g h c) (hn : 0 ≤ (h 31 0).toInt ∧ (h 31 0).toInt ≤ 40) (Rx : Rtx Z g tf h) (f2 : Fr [1, 2, 3, 4, 5, 6, 31] h h1) (p1 : ((∃ c, rjF (g 0 8) (g 3 1) x1 x2 x3 x4 c ∧ ((¬ c = 0 ∧ r = c) ∨ (c = 0 ∧ r.toInt = (cB (wdB (xr Z tf) (g 10) x1 x2 x3 (x4 / 100) (x4 - x4 / 100 * 100)) 64 : Int)))) ∧ (∀ b, b ≠ za Z 24 → tf1 b = tf b))) (p2 : ((∃ c, rjF (h 30 0) (h 31 0) x1 x2 x3 x4 c ∧ ((¬ c = 0 ∧ r2 = c ∧ h1 = h) ∨ (c = 0 ∧ ∃ R2, MJ R2 ∧ tkR h R2 x1 x2 x3 (x4 / 100) (x4 - x4 / 100 * 100) ∧ R2 6 = ofr R2 (h 6) (cns R2 (h 31 0).toInt.toNat) (h 31 0) ∧ r2.toInt = (cB (qnB (mC R2) (h 31 0).toInt (h 31 0).toInt) 64 : Int) ∧ Eq1 (h1 6) (TR h1 (h 31 0).toInt.toNat)))) ∧ (h1 31 0 = h 31 0 ∧ rwL h h1 (h 31 0).toInt))) : Rtr Z g tf1 h1 ∧ Rtx Z g tf1 h1 ∧ r = r2 := by
  obtain ⟨⟨c1, q1, p1⟩, tt⟩ := p1
  obtain ⟨⟨c2, q2, p2⟩, hrw⟩ := p2
  have e1 : (g 3 1).toInt = (h 31 0).toInt := by rw [Rt.1]
  have ec := rjF_one q1 q2 Rd.2.1 e1
  subst ec
  have y : ∀ t : Nat, (t : Int) < (h 31 0).toInt → tf1 (ro Z t) = tf (ro Z t) := fun t ht => tt _ (hZ.ra (by omega))
  have hT1 := Rt.rw hrw y
  have hX1 : TX (xr Z tf1) (g 3 1).toInt.toNat g := TX_cr (by omega) (xr_Rw hZ (fun t ht => y t (by omega))) Rx.1
  have h30 : h1 30 0 = h 30 0 := by rw [f2 30 (by decide)]
  rcases p1 with ⟨a1, b1⟩ | ⟨a1, b1⟩ <;> rcases p2 with ⟨a2, b2, u2⟩ | ⟨a2, R2, m0, m1, m2, m3, m4⟩
  · subst u2
    exact ⟨hT1, ⟨hX1, Rx.2.1, Rx.2.2⟩, b1.trans b2.symm⟩
  · exact absurd a2 a1
  · exact absurd a1 a2
  · have nd := (rjF_0 q2 a2).2.1
    have n40 := (rjF_0 q2 a2).2.2
    have nx : h 31 0 = nI (h 31 0).toInt.toNat := nI_ek (by omega)
    refine ⟨hT1, ⟨hX1, fun z => absurd (h30.symm.trans z) nd, fun _ => by rw [hrw.1]; exact m4⟩, Int32.toInt_inj.mp ?_⟩
    have hE : Eq1 (R2 6) (TR R2 ((h 31 0).toInt.toNat + 1)) := TR_take (g := h) (x := h 31 0) (n := (h 31 0).toInt.toNat) (by omega) (Or.inl trivial) rfl nx (fun t ht k hk => (m1.rows hn.1 t (by omega) k hk).symm) m2 (Rx.2.2 nd)
    have hR : Rw (xr Z tf) R2 (((h 31 0).toInt.toNat : Nat) : Int) := fun t ht k hk => ((rw_of Rt) t (by omega) k hk).trans (m1.rows hn.1 t (by omega) k hk).symm
    have trw := tk_row (F := fun k => match k with | 0 => x1 | 1 => x2 | 2 => x3 | 3 => x4 / 100 | _ => x4 - x4 / 100 * 100) m1 (show (h 31 0).toNatClampNeg = (h 31 0).toInt.toNat from rfl) rfl rfl rfl rfl rfl
    have w := wd_eq (R := xr Z tf) (R2 := R2) (C := g 10) (n := (h 31 0).toInt.toNat) (k := x1) (r := x2) (b := x3) (f := x4 / 100) (l := x4 - x4 / 100 * 100) (by omega) m0 hR (trw 0 (by decide)) (trw 1 (by decide)) (trw 2 (by decide)) (trw 3 (by decide)) (trw 4 (by decide)) (fun q hq => by rw [Rx.1.2.1 q hq, Rt.1]) hE
    rw [show (((h 31 0).toInt.toNat : Nat) : Int) = (h 31 0).toInt by omega] at w
    rw [b1, m3, w]
theorem case_drawn {c : Nat} {x1 x2 x3 r r2 : Int32} (hZ : XG Z) (Rt : Rtr Z g tf h) (Rd : Rdk g h c) (hn : 0 ≤ (h 31 0).toInt ∧ (h 31 0).toInt ≤ 40) (Rx : Rtx Z g tf h) (f2 : Fr [1, 2, 3, 4, 5, 6, 31] h h1) (p1 : ((¬ ((1 ≤ x1.toInt ∧ x1.toInt ≤ 30) ∧ 0 ≤ x2.toInt ∧ 0 ≤ x3.toInt ∧ x3.toInt ≤ 2) ∧ r = -102 ∧ g1 = g ∧ tf1 = tf) ∨ (((1 ≤ x1.toInt ∧ x1.toInt ≤ 30) ∧ 0 ≤ x2.toInt ∧ 0 ≤ x3.toInt ∧ x3.toInt ≤ 2) ∧ g 0 8 = 0 ∧ r = -103 ∧ g1 = g ∧ tf1 = tf) ∨ (((1 ≤ x1.toInt ∧ x1.toInt ≤ 30) ∧ 0 ≤ x2.toInt ∧ 0 ≤ x3.toInt ∧ x3.toInt ≤ 2) ∧ ¬ g 0 8 = 0 ∧ g1 3 1 = g 3 1 ∧ TX (xr Z tf1) (g 3 1).toInt.toNat g1 ∧ (∃ R2 : Nat → Nat → Int32, Rw (xr Z tf) R2 (g 3 1).toInt ∧ (∀ i, i < x1.toInt.toNat → ∀ k, k < 5 → R2 (k + 1) ((g 3 1).toInt.toNat + i) = dwF (sdN x2.toInt.toNat i) k) ∧ ((x3.toInt = 0 ∧ r.toInt = (cB (qnB (bst R2 ((g 3 1).toInt.toNat + x1.toInt.toNat)) (g 3 1).toInt ((g 3 1).toInt + x1.toInt - 1)) 64 : Int)) ∨ (x3.toInt = 1 ∧ r.toInt = (cB (ndB (TR R2 ((g 3 1).toInt.toNat + x1.toInt.toNat)) (g 3 1).toInt ((g 3 1).toInt + x1.toInt - 1)) 128 : Int)) ∨ (x3.toInt = 2 ∧ r = nI (sdN x2.toInt.toNat x1.toInt.toNat)))) ∧ (∀ b, b ≠ za Z 24 → (∀ t : Nat, t < 70 → (g 3 1).toInt ≤ (t : Int) → b ≠ ro Z t) → tf1 b = tf b)))) (p2 : ((¬ ((1 ≤ x1.toInt ∧ x1.toInt ≤ 30) ∧ 0 ≤ x2.toInt ∧ 0 ≤ x3.toInt ∧ x3.toInt ≤ 2) ∧ r2 = -102 ∧ h1 = h) ∨ (((1 ≤ x1.toInt ∧ x1.toInt ≤ 30) ∧ 0 ≤ x2.toInt ∧ 0 ≤ x3.toInt ∧ x3.toInt ≤ 2) ∧ h 30 0 = 0 ∧ r2 = -103 ∧ h1 = h) ∨ (((1 ≤ x1.toInt ∧ x1.toInt ≤ 30) ∧ 0 ≤ x2.toInt ∧ 0 ≤ x3.toInt ∧ x3.toInt ≤ 2) ∧ ¬ h 30 0 = 0 ∧ ((∃ R2, MJ R2 ∧ rwL h R2 (h 31 0).toInt ∧ dwD R2 (h 31 0).toInt.toNat x1.toInt.toNat x2.toInt.toNat ∧ ((x3.toInt = 0 ∧ r2.toInt = (cB (qnB (mC R2) (h 31 0).toInt 69) 64 : Int)) ∨ (x3.toInt = 1 ∧ r2.toInt = (cB (ndB (R2 6) (h 31 0).toInt 69) 128 : Int)) ∨ ((¬ x3.toInt = 0 ∧ ¬ x3.toInt = 1) ∧ r2 = nI (sdN x2.toInt.toNat x1.toInt.toNat)))) ∧ h1 31 0 = h 31 0 ∧ rwL h h1 (h 31 0).toInt ∧ Eq1 (h1 6) (TR h1 (h 31 0).toInt.toNat))))) : Rtr Z g1 tf1 h1 ∧ Rtx Z g1 tf1 h1 ∧ (∀ t : Nat, t < 40 → tf1 (ko Z t) = tf (ko Z t)) ∧ r = r2 := by
  have e1 : (g 3 1).toInt = (h 31 0).toInt := by rw [Rt.1]
  rcases p1 with ⟨a1, r1, u1, v1⟩ | ⟨a1, b1, r1, u1, v1⟩ | ⟨a1, b1, u3, bT, ⟨R2, q1, q2, q3⟩, bB⟩ <;> rcases p2 with ⟨a2, r2, u2⟩ | ⟨a2, b2, r2, u2⟩ | ⟨a2, b2, ⟨M2, m0, m1, ⟨m2, m3⟩, m4⟩, m5, m6, m7⟩
  · subst u1; subst u2; subst v1; exact ⟨Rt, Rx, fun _ _ => rfl, r1.trans r2.symm⟩
  · exact absurd a2 a1
  · exact absurd a2 a1
  · exact absurd a1 a2
  · subst u1; subst u2; subst v1; exact ⟨Rt, Rx, fun _ _ => rfl, r1.trans r2.symm⟩
  · exact absurd (Rd.2.1.mp b1) b2
  · exact absurd a1 a2
  · exact absurd (Rd.2.1.mpr b2) b1
  · have h30 : h1 30 0 = h 30 0 := by rw [f2 30 (by decide)]
    have hT1 : Rtr Z g1 tf1 h1 := Rt.rw2 u3 ⟨m5, m6⟩ (fun t ht => bB _ (hZ.ra (by omega)) (fun t2 h2 h3 => hZ.ri (by omega) h2 (by omega)))
    refine ⟨hT1, ⟨by rw [u3]; exact bT, fun z => absurd (h30.symm.trans z) b2, fun _ => by rw [m5]; exact m7⟩, fun t ht => bB _ (hZ.ka ht) (fun t2 h2 h3 => (hZ.rk h2 ht).symm), ?_⟩
    have hR : Rw R2 M2 (((h 31 0).toInt.toNat + x1.toInt.toNat : Nat) : Int) := fun t ht k hk => by
      rcases Int.lt_or_le (t : Int) (h 31 0).toInt with y | y
      · rw [← q1 t (by omega) k hk, (rw_of Rt) t y k hk, m1 t y k hk]
      · have et : t = (h 31 0).toInt.toNat + (t - (h 31 0).toInt.toNat) := by omega
        have z1 := q2 (t - (h 31 0).toInt.toNat) (by omega) k hk
        have z2 := m2 (t - (h 31 0).toInt.toNat) (by omega) k hk
        rw [Rt.1, ← et] at z1
        rw [← et] at z2
        rw [z1, z2]
    have n70 : (h 31 0).toInt.toNat + x1.toInt.toNat ≤ 70 := by omega
    rw [Rt.1] at q3
    rcases q3 with ⟨y, z1⟩ | ⟨y, z1⟩ | ⟨y, z1⟩ <;> rcases m4 with ⟨w, z2⟩ | ⟨w, z2⟩ | ⟨w, z2⟩
    · refine Int32.toInt_inj.mp (z1.trans (Eq.trans ?_ z2.symm))
      rw [cB_cg (p2 := qnB (mC M2) (h 31 0).toInt 69) 64 (fun q hq => by
        have e2 := mC_bst (M := M2) (n := (h 31 0).toInt.toNat + x1.toInt.toNat) (by omega) m0 m3 hq
        have e3 := bst_cr (R := R2) (R2 := M2) (q := q) ((h 31 0).toInt.toNat + x1.toInt.toNat) (by omega) hR
        have rg := bst_rg (R := M2) (n := (h 31 0).toInt.toNat + x1.toInt.toNat) (q := q) n70
        unfold qnB
        rw [e2, e3]
        apply decide_eq_decide.mpr
        rcases rg with w | w
        · rw [w, show ((-1 : Int32)).toInt = -1 by decide]; omega
        · omega)]
    · exfalso; omega
    · exfalso; omega
    · exfalso; omega
    · refine Int32.toInt_inj.mp (z1.trans (Eq.trans ?_ z2.symm))
      rw [cB_cg (p2 := ndB (M2 6) (h 31 0).toInt 69) 128 (fun i hi => by
        unfold ndB
        apply decide_eq_decide.mpr
        by_cases v : 1 ≤ i
        · have e3 := m3 i v (by omega)
          rw [← TR_cr (R := R2) ((h 31 0).toInt.toNat + x1.toInt.toNat) (by omega) hR] at e3
          rw [e3]
          have bd := TR_bd (R := R2) ((h 31 0).toInt.toNat + x1.toInt.toNat) (by omega) i v (by omega)
          by_cases w : TR R2 ((h 31 0).toInt.toNat + x1.toInt.toNat) i = -1
          · rw [w, show ((-1 : Int32)).toInt = -1 by decide]; omega
          · have bd := bd w; omega
        · exact ⟨fun z => absurd z.1 v, fun z => absurd z.1 v⟩)]
    · exfalso; omega
    · exfalso; omega
    · exfalso; omega
    · exact z1.trans z2.symm

end RE
theorem R_0x {Z : ZT} {g : Nat → Nat → Int32} (w : ∀ i, i ≠ 6 → i ≠ 10 → g i = fun _ => 0) (h6 : ∀ j, j < 128 → g 6 j = -1) (h10 : ∀ j, j < 64 → g 10 j = -1) : Rtx Z g (fun _ _ => 0) (fun _ _ => 0) ∧ Rsq g (fun _ _ => 0) := by
  have e3 : (g 3 1).toInt.toNat = 0 := by rw [w 3 (by decide) (by decide)]; rfl
  refine ⟨⟨by rw [e3]; exact TX_0 h6 h10 (congrFun (w 5 (by decide) (by decide)) 5), fun _ => rfl, fun z => absurd rfl z⟩, ⟨fun i hi => ?_, fun z => absurd (congrFun (w 0 (by decide) (by decide)) 9) z⟩⟩
  have hi : (i : Int) < (0 : Int32).toInt := hi
  rw [tk_0] at hi; omega
theorem R_0 {Z : ZT} {g : Nat → Nat → Int32} (w : ∀ i, i ≠ 6 → i ≠ 10 → g i = fun _ => 0) : Rpg g (fun _ _ => 0) ∧ Rtr Z g (fun _ _ => 0) (fun _ _ => 0) ∧ Rsn g (fun _ _ => 0) ∧ Rdk g (fun _ _ => 0) 0 ∧ Rkp Z g (fun _ _ => 0) (fun _ _ => 0) := by
  refine ⟨⟨w 2 (by decide) (by decide), congrFun (w 1 (by decide) (by decide)) 1⟩, ⟨congrFun (w 3 (by decide) (by decide)) 1, fun _ _ _ _ => rfl⟩, ⟨congrFun (w 11 (by decide) (by decide)) 4, fun i _ => ⟨congrFun (w 12 (by decide) (by decide)) i, congrFun (w 13 (by decide) (by decide)) i, congrFun (w 14 (by decide) (by decide)) i⟩⟩, ⟨congrFun (w 0 (by decide) (by decide)) 10, ⟨fun _ => rfl, fun _ => congrFun (w 0 (by decide) (by decide)) 8⟩, (by decide), (by decide)⟩, ⟨by rw [w 17 (by decide) (by decide)]; decide, by rw [w 19 (by decide) (by decide)]; decide, by decide, ⟨fun _ z => z.1 rfl, fun _ => congrFun (w 0 (by decide) (by decide)) 9⟩, fun z => absurd (congrFun (w 0 (by decide) (by decide)) 9) z⟩⟩
