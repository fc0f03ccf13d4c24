/-! the class's world: cells by their numbers (za Z i: the address of cell i); g i: what the int fields, or the int array, of cell i hold; gl i: long arrays; tf a: the fields of the Tariff at a -/
abbrev ZT : Type := va_G × (Nat → ClassId) × (Nat → Nat) × (Nat → Nat → Option Nat) × List Nat × (Nat → Prop) × Nat × Nat
def zD (Z : ZT) : va_G := Z.1
def zc (Z : ZT) : Nat → ClassId := Z.2.1
def za (Z : ZT) : Nat → Nat := Z.2.2.1
def zr (Z : ZT) : Nat → Nat → Option Nat := Z.2.2.2.1
def zL (Z : ZT) : List Nat := Z.2.2.2.2.1
def zA (Z : ZT) : Nat → Prop := Z.2.2.2.2.2.1
def zK (Z : ZT) : Nat := Z.2.2.2.2.2.2.1
def zV (Z : ZT) : Nat := Z.2.2.2.2.2.2.2
abbrev zty (Z : ZT) : List (ClassId × FieldType) := [(zc Z 0, .byte), (zc Z 1, .int), (zc Z 2, .long), (zc Z 3, .object RX3)]
def up2 (g : Nat → Nat → Int32) (i k : Nat) (v : Int32) : Nat → Nat → Int32 := fun i' => if i' = i then (fun k' => if k' = k then v else g i k') else g i'
def upR (g : Nat → Nat → Int32) (i : Nat) (r : Nat → Int32) : Nat → Nat → Int32 := fun i' => if i' = i then r else g i'
def upL (g : Nat → Nat → Int64) (i : Nat) (r : Nat → Int64) : Nat → Nat → Int64 := fun i' => if i' = i then r else g i'
def tfF (tf : Nat → Nat → Int32) : Nat → va_E := fun a => .inr (3, [.int (tf a 0), .int (tf a 1), .int (tf a 2), .int (tf a 3), .int (tf a 4)])
def xw0 (Z : ZT) (g : Nat → Nat → Int32) (gl : Nat → Nat → Int64) : va_W := [(za Z 0, .inr (6, [.ref (za Z 1), .ref (za Z 3), .ref (za Z 5), .ref (za Z 11), .ref (za Z 16), .ref (za Z 24), .ref (za Z 17), .ref (za Z 19), .int (g 0 8), .int (g 0 9), .int (g 0 10)])), (za Z 1, .inr (1, [.ref (za Z 2), .int (g 1 1)])), (za Z 2, .inl (zc Z 1, 50, .inl (g 2))), (za Z 3, .inr (4, [.ref (za Z 4), .int (g 3 1)])), (za Z 4, .inl (zc Z 3, 70, .inr (.inr (.inr (.inr (zr Z 4)))))), (za Z 5, .inr (5, [.ref (za Z 3), .ref (za Z 6), .ref (za Z 7), .ref (za Z 8), .ref (za Z 9), .int (g 5 5), .ref (za Z 10)])), (za Z 6, .inl (zc Z 1, 128, .inl (g 6))), (za Z 7, .inl (zc Z 1, 2100, .inl (g 7))), (za Z 8, .inl (zc Z 1, 2100, .inl (g 8))), (za Z 9, .inl (zc Z 1, 70, .inl (g 9))), (za Z 10, .inl (zc Z 1, 64, .inl (g 10))), (za Z 11, .inr (2, [.ref (za Z 12), .ref (za Z 13), .ref (za Z 14), .ref (za Z 15), .int (g 11 4)])), (za Z 12, .inl (zc Z 1, 6, .inl (g 12))), (za Z 13, .inl (zc Z 1, 6, .inl (g 13))), (za Z 14, .inl (zc Z 1, 6, .inl (g 14))), (za Z 15, .inl (zc Z 2, 5, .inr (.inl (gl 15)))), (za Z 16, .inr (0, [.int (g 16 0)])), (za Z 17, .inr (4, [.ref (za Z 18), .int (g 17 1)])), (za Z 18, .inl (zc Z 3, 40, .inr (.inr (.inr (.inr (zr Z 18)))))), (za Z 19, .inr (2, [.ref (za Z 20), .ref (za Z 21), .ref (za Z 22), .ref (za Z 23), .int (g 19 4)])), (za Z 20, .inl (zc Z 1, 6, .inl (g 20))), (za Z 21, .inl (zc Z 1, 6, .inl (g 21))), (za Z 22, .inl (zc Z 1, 6, .inl (g 22))), (za Z 23, .inl (zc Z 2, 5, .inr (.inl (gl 23))))]
def xw (Z : ZT) (g : Nat → Nat → Int32) (gl : Nat → Nat → Int64) (tf : Nat → Nat → Int32) : va_W := xw0 Z g gl ++ va_pl (zL Z) (tfF tf)
section XW
variable {Z : ZT} {g : Nat → Nat → Int32} {gl : Nat → Nat → Int64} {tf : Nat → Nat → Int32} {H : Heap} {A : Nat → Prop}
theorem xw_0 : (xw Z g gl tf)[0]? = some (za Z 0, .inr (6, [.ref (za Z 1), .ref (za Z 3), .ref (za Z 5), .ref (za Z 11), .ref (za Z 16), .ref (za Z 24), .ref (za Z 17), .ref (za Z 19), .int (g 0 8), .int (g 0 9), .int (g 0 10)])) := rfl
theorem xf_0_8 {v : Int32} (h : va_P (zD Z) vwCl ((xw Z g gl tf).set 0 (za Z 0, .inr (6, ([.ref (za Z 1), .ref (za Z 3), .ref (za Z 5), .ref (za Z 11), .ref (za Z 16), .ref (za Z 24), .ref (za Z 17), .ref (za Z 19), .int (g 0 8), .int (g 0 9), .int (g 0 10)] : List Value).set 8 (.int v)))) H) : va_P (zD Z) vwCl (xw Z (up2 g 0 8 v) gl tf) H := h
theorem xf_0_9 {v : Int32} (h : va_P (zD Z) vwCl ((xw Z g gl tf).set 0 (za Z 0, .inr (6, ([.ref (za Z 1), .ref (za Z 3), .ref (za Z 5), .ref (za Z 11), .ref (za Z 16), .ref (za Z 24), .ref (za Z 17), .ref (za Z 19), .int (g 0 8), .int (g 0 9), .int (g 0 10)] : List Value).set 9 (.int v)))) H) : va_P (zD Z) vwCl (xw Z (up2 g 0 9 v) gl tf) H := h
theorem xf_0_10 {v : Int32} (h : va_P (zD Z) vwCl ((xw Z g gl tf).set 0 (za Z 0, .inr (6, ([.ref (za Z 1), .ref (za Z 3), .ref (za Z 5), .ref (za Z 11), .ref (za Z 16), .ref (za Z 24), .ref (za Z 17), .ref (za Z 19), .int (g 0 8), .int (g 0 9), .int (g 0 10)] : List Value).set 10 (.int v)))) H) : va_P (zD Z) vwCl (xw Z (up2 g 0 10 v) gl tf) H := h
theorem xw_1 : (xw Z g gl tf)[1]? = some (za Z 1, .inr (1, [.ref (za Z 2), .int (g 1 1)])) := rfl
theorem xf_1_1 {v : Int32} (h : va_P (zD Z) vwCl ((xw Z g gl tf).set 1 (za Z 1, .inr (1, ([.ref (za Z 2), .int (g 1 1)] : List Value).set 1 (.int v)))) H) : va_P (zD Z) vwCl (xw Z (up2 g 1 1 v) gl tf) H := h
theorem xw_2 : (xw Z g gl tf)[2]? = some (za Z 2, .inl (zc Z 1, 50, .inl (g 2))) := rfl
theorem xs_2 {r : Nat → Int32} (h : va_P (zD Z) vwCl ((xw Z g gl tf).set 2 (za Z 2, .inl (zc Z 1, 50, .inl (r)))) H) : va_P (zD Z) vwCl (xw Z (upR g 2 r) gl tf) H := h
theorem xw_3 : (xw Z g gl tf)[3]? = some (za Z 3, .inr (4, [.ref (za Z 4), .int (g 3 1)])) := rfl
theorem xf_3_1 {v : Int32} (h : va_P (zD Z) vwCl ((xw Z g gl tf).set 3 (za Z 3, .inr (4, ([.ref (za Z 4), .int (g 3 1)] : List Value).set 1 (.int v)))) H) : va_P (zD Z) vwCl (xw Z (up2 g 3 1 v) gl tf) H := h
theorem xw_4 : (xw Z g gl tf)[4]? = some (za Z 4, .inl (zc Z 3, 70, .inr (.inr (.inr (.inr (zr Z 4)))))) := rfl
theorem xw_5 : (xw Z g gl tf)[5]? = some (za Z 5, .inr (5, [.ref (za Z 3), .ref (za Z 6), .ref (za Z 7), .ref (za Z 8), .ref (za Z 9), .int (g 5 5), .ref (za Z 10)])) := rfl
theorem xf_5_5 {v : Int32} (h : va_P (zD Z) vwCl ((xw Z g gl tf).set 5 (za Z 5, .inr (5, ([.ref (za Z 3), .ref (za Z 6), .ref (za Z 7), .ref (za Z 8), .ref (za Z 9), .int (g 5 5), .ref (za Z 10)] : List Value).set 5 (.int v)))) H) : va_P (zD Z) vwCl (xw Z (up2 g 5 5 v) gl tf) H := h
theorem xw_6 : (xw Z g gl tf)[6]? = some (za Z 6, .inl (zc Z 1, 128, .inl (g 6))) := rfl
theorem xs_6 {r : Nat → Int32} (h : va_P (zD Z) vwCl ((xw Z g gl tf).set 6 (za Z 6, .inl (zc Z 1, 128, .inl (r)))) H) : va_P (zD Z) vwCl (xw Z (upR g 6 r) gl tf) H := h
theorem xw_7 : (xw Z g gl tf)[7]? = some (za Z 7, .inl (zc Z 1, 2100, .inl (g 7))) := rfl
theorem xs_7 {r : Nat → Int32} (h : va_P (zD Z) vwCl ((xw Z g gl tf).set 7 (za Z 7, .inl (zc Z 1, 2100, .inl (r)))) H) : va_P (zD Z) vwCl (xw Z (upR g 7 r) gl tf) H := h
theorem xw_8 : (xw Z g gl tf)[8]? = some (za Z 8, .inl (zc Z 1, 2100, .inl (g 8))) := rfl
theorem xs_8 {r : Nat → Int32} (h : va_P (zD Z) vwCl ((xw Z g gl tf).set 8 (za Z 8, .inl (zc Z 1, 2100, .inl (r)))) H) : va_P (zD Z) vwCl (xw Z (upR g 8 r) gl tf) H := h
theorem xw_9 : (xw Z g gl tf)[9]? = some (za Z 9, .inl (zc Z 1, 70, .inl (g 9))) := rfl
theorem xs_9 {r : Nat → Int32} (h : va_P (zD Z) vwCl ((xw Z g gl tf).set 9 (za Z 9, .inl (zc Z 1, 70, .inl (r)))) H) : va_P (zD Z) vwCl (xw Z (upR g 9 r) gl tf) H := h
theorem xw_10 : (xw Z g gl tf)[10]? = some (za Z 10, .inl (zc Z 1, 64, .inl (g 10))) := rfl
theorem xs_10 {r : Nat → Int32} (h : va_P (zD Z) vwCl ((xw Z g gl tf).set 10 (za Z 10, .inl (zc Z 1, 64, .inl (r)))) H) : va_P (zD Z) vwCl (xw Z (upR g 10 r) gl tf) H := h
theorem xw_11 : (xw Z g gl tf)[11]? = some (za Z 11, .inr (2, [.ref (za Z 12), .ref (za Z 13), .ref (za Z 14), .ref (za Z 15), .int (g 11 4)])) := rfl
theorem xf_11_4 {v : Int32} (h : va_P (zD Z) vwCl ((xw Z g gl tf).set 11 (za Z 11, .inr (2, ([.ref (za Z 12), .ref (za Z 13), .ref (za Z 14), .ref (za Z 15), .int (g 11 4)] : List Value).set 4 (.int v)))) H) : va_P (zD Z) vwCl (xw Z (up2 g 11 4 v) gl tf) H := h
theorem xw_12 : (xw Z g gl tf)[12]? = some (za Z 12, .inl (zc Z 1, 6, .inl (g 12))) := rfl
theorem xs_12 {r : Nat → Int32} (h : va_P (zD Z) vwCl ((xw Z g gl tf).set 12 (za Z 12, .inl (zc Z 1, 6, .inl (r)))) H) : va_P (zD Z) vwCl (xw Z (upR g 12 r) gl tf) H := h
theorem xw_13 : (xw Z g gl tf)[13]? = some (za Z 13, .inl (zc Z 1, 6, .inl (g 13))) := rfl
theorem xs_13 {r : Nat → Int32} (h : va_P (zD Z) vwCl ((xw Z g gl tf).set 13 (za Z 13, .inl (zc Z 1, 6, .inl (r)))) H) : va_P (zD Z) vwCl (xw Z (upR g 13 r) gl tf) H := h
theorem xw_14 : (xw Z g gl tf)[14]? = some (za Z 14, .inl (zc Z 1, 6, .inl (g 14))) := rfl
theorem xs_14 {r : Nat → Int32} (h : va_P (zD Z) vwCl ((xw Z g gl tf).set 14 (za Z 14, .inl (zc Z 1, 6, .inl (r)))) H) : va_P (zD Z) vwCl (xw Z (upR g 14 r) gl tf) H := h
theorem xw_15 : (xw Z g gl tf)[15]? = some (za Z 15, .inl (zc Z 2, 5, .inr (.inl (gl 15)))) := rfl
theorem xs_15 {r : Nat → Int64} (h : va_P (zD Z) vwCl ((xw Z g gl tf).set 15 (za Z 15, .inl (zc Z 2, 5, .inr (.inl (r))))) H) : va_P (zD Z) vwCl (xw Z g (upL gl 15 r) tf) H := h
theorem xw_16 : (xw Z g gl tf)[16]? = some (za Z 16, .inr (0, [.int (g 16 0)])) := rfl
theorem xf_16_0 {v : Int32} (h : va_P (zD Z) vwCl ((xw Z g gl tf).set 16 (za Z 16, .inr (0, ([.int (g 16 0)] : List Value).set 0 (.int v)))) H) : va_P (zD Z) vwCl (xw Z (up2 g 16 0 v) gl tf) H := h
theorem xw_17 : (xw Z g gl tf)[17]? = some (za Z 17, .inr (4, [.ref (za Z 18), .int (g 17 1)])) := rfl
theorem xf_17_1 {v : Int32} (h : va_P (zD Z) vwCl ((xw Z g gl tf).set 17 (za Z 17, .inr (4, ([.ref (za Z 18), .int (g 17 1)] : List Value).set 1 (.int v)))) H) : va_P (zD Z) vwCl (xw Z (up2 g 17 1 v) gl tf) H := h
theorem xw_18 : (xw Z g gl tf)[18]? = some (za Z 18, .inl (zc Z 3, 40, .inr (.inr (.inr (.inr (zr Z 18)))))) := rfl
theorem xw_19 : (xw Z g gl tf)[19]? = some (za Z 19, .inr (2, [.ref (za Z 20), .ref (za Z 21), .ref (za Z 22), .ref (za Z 23), .int (g 19 4)])) := rfl
theorem xf_19_4 {v : Int32} (h : va_P (zD Z) vwCl ((xw Z g gl tf).set 19 (za Z 19, .inr (2, ([.ref (za Z 20), .ref (za Z 21), .ref (za Z 22), .ref (za Z 23), .int (g 19 4)] : List Value).set 4 (.int v)))) H) : va_P (zD Z) vwCl (xw Z (up2 g 19 4 v) gl tf) H := h
theorem xw_20 : (xw Z g gl tf)[20]? = some (za Z 20, .inl (zc Z 1, 6, .inl (g 20))) := rfl
theorem xs_20 {r : Nat → Int32} (h : va_P (zD Z) vwCl ((xw Z g gl tf).set 20 (za Z 20, .inl (zc Z 1, 6, .inl (r)))) H) : va_P (zD Z) vwCl (xw Z (upR g 20 r) gl tf) H := h
theorem xw_21 : (xw Z g gl tf)[21]? = some (za Z 21, .inl (zc Z 1, 6, .inl (g 21))) := rfl
theorem xs_21 {r : Nat → Int32} (h : va_P (zD Z) vwCl ((xw Z g gl tf).set 21 (za Z 21, .inl (zc Z 1, 6, .inl (r)))) H) : va_P (zD Z) vwCl (xw Z (upR g 21 r) gl tf) H := h
theorem xw_22 : (xw Z g gl tf)[22]? = some (za Z 22, .inl (zc Z 1, 6, .inl (g 22))) := rfl
theorem xs_22 {r : Nat → Int32} (h : va_P (zD Z) vwCl ((xw Z g gl tf).set 22 (za Z 22, .inl (zc Z 1, 6, .inl (r)))) H) : va_P (zD Z) vwCl (xw Z (upR g 22 r) gl tf) H := h
theorem xw_23 : (xw Z g gl tf)[23]? = some (za Z 23, .inl (zc Z 2, 5, .inr (.inl (gl 23)))) := rfl
theorem xs_23 {r : Nat → Int64} (h : va_P (zD Z) vwCl ((xw Z g gl tf).set 23 (za Z 23, .inl (zc Z 2, 5, .inr (.inl (r))))) H) : va_P (zD Z) vwCl (xw Z g (upL gl 23 r) tf) H := h
theorem xt_at {a : Nat} (ha : a ∈ zL Z) : ∃ k : Nat, (xw Z g gl tf)[k]? = some (a, .inr (3, [.int (tf a 0), .int (tf a 1), .int (tf a 2), .int (tf a 3), .int (tf a 4)])) := va_pl_get (X := xw0 Z g gl) (f := tfF tf) ha
theorem xt_set {a k j : Nat} {v : Int32} {e : va_E} (hD : va_D A (xw Z g gl tf)) (ha : a ∈ zL Z) (hk : (xw Z g gl tf)[k]? = some (a, .inr (3, [.int (tf a 0), .int (tf a 1), .int (tf a 2), .int (tf a 3), .int (tf a 4)]))) (he : e = tfF (up2 tf a j v) a) (h : va_P (zD Z) vwCl ((xw Z g gl tf).set k (a, e)) H) : va_P (zD Z) vwCl (xw Z g gl (up2 tf a j v)) H := by
  have h1 : (xw Z g gl tf).set k (a, e) = xw0 Z g gl ++ va_pl (zL Z) (va_up (tfF tf) a e) := va_pl_set (X := xw0 Z g gl) hD ha hk
  rw [h1] at h
  have h2 : va_pl (zL Z) (va_up (tfF tf) a e) = va_pl (zL Z) (tfF (up2 tf a j v)) := by
    refine va_pl_congr (fun b => ?_)
    by_cases hb : b = a
    · subst hb; rw [va_up_self, he]
    · rw [va_up_ne _ _ hb]; simp [tfF, up2, hb]
  rw [h2] at h
  exact h
theorem xt_0 {a : Nat} {v : Int32} : (.inr (3, ([.int (tf a 0), .int (tf a 1), .int (tf a 2), .int (tf a 3), .int (tf a 4)] : List Value).set 0 (.int v)) : va_E) = tfF (up2 tf a 0 v) a := by simp [tfF, up2]
theorem xt_1 {a : Nat} {v : Int32} : (.inr (3, ([.int (tf a 0), .int (tf a 1), .int (tf a 2), .int (tf a 3), .int (tf a 4)] : List Value).set 1 (.int v)) : va_E) = tfF (up2 tf a 1 v) a := by simp [tfF, up2]
theorem xt_2 {a : Nat} {v : Int32} : (.inr (3, ([.int (tf a 0), .int (tf a 1), .int (tf a 2), .int (tf a 3), .int (tf a 4)] : List Value).set 2 (.int v)) : va_E) = tfF (up2 tf a 2 v) a := by simp [tfF, up2]
theorem xt_3 {a : Nat} {v : Int32} : (.inr (3, ([.int (tf a 0), .int (tf a 1), .int (tf a 2), .int (tf a 3), .int (tf a 4)] : List Value).set 3 (.int v)) : va_E) = tfF (up2 tf a 3 v) a := by simp [tfF, up2]
theorem xt_4 {a : Nat} {v : Int32} : (.inr (3, ([.int (tf a 0), .int (tf a 1), .int (tf a 2), .int (tf a 3), .int (tf a 4)] : List Value).set 4 (.int v)) : va_E) = tfF (up2 tf a 4 v) a := by simp [tfF, up2]
end XW
/-- the addresses alone decide that cells are apart -/
theorem xD_map {A : Nat → Prop} {w w' : va_W} (h : w.map Prod.fst = w'.map Prod.fst) (hD : va_D A w) : va_D A w' := by
  have key : ∀ (k : Nat) (q : Nat × va_E), w'[k]? = some q → ∃ q0, w[k]? = some q0 ∧ q0.1 = q.1 := by
    intro k q hk
    have h1 : (w'.map Prod.fst)[k]? = some q.1 := by rw [List.getElem?_map, hk]; rfl
    rw [← h, List.getElem?_map] at h1
    cases hw : w[k]? with
    | none => rw [hw] at h1; cases h1
    | some q0 => rw [hw] at h1; exact ⟨q0, rfl, Option.some.inj h1⟩
  refine ⟨fun i j x y hi hj hxy => ?_, fun k q hk => ?_⟩
  · obtain ⟨x0, h1, h2⟩ := key i x hi
    obtain ⟨y0, h3, h4⟩ := key j y hj
    exact hD.1 i j x0 y0 h1 h3 (h2.trans (hxy.trans h4.symm))
  · obtain ⟨q0, h1, h2⟩ := key k q hk
    rw [← h2]
    exact hD.2 k q0 h1
theorem xw_fst {Z : ZT} {g g' : Nat → Nat → Int32} {gl gl' : Nat → Nat → Int64} {tf tf' : Nat → Nat → Int32} : (xw Z g gl tf).map Prod.fst = (xw Z g' gl' tf').map Prod.fst := by
  simp [xw, xw0, va_pl]
/-- the rows of the two tables of tariffs, by their numbers -/
def ro (Z : ZT) (j : Nat) : Nat := (zL Z).getD (1 + j) (za Z 24)
def ko (Z : ZT) (j : Nat) : Nat := (zL Z).getD (71 + j) (za Z 24)
/-- what never changes of the class's world: the cells are apart; the pool of tariffs is the one that is asked for, the rows of the first table, the rows of the second -/
def XG (Z : ZT) : Prop := va_D (zA Z) (xw Z (fun _ _ => 0) (fun _ _ => 0) (fun _ _ => 0)) ∧ (∀ j, j < 70 → zr Z 4 j = (zL Z)[1 + j]?) ∧ (∀ j, j < 40 → zr Z 18 j = (zL Z)[71 + j]?) ∧ (zL Z)[0]? = some (za Z 24) ∧ (zL Z).length = 111
theorem XG.D {Z : ZT} (h : XG Z) {g : Nat → Nat → Int32} {gl : Nat → Nat → Int64} {tf : Nat → Nat → Int32} : va_D (zA Z) (xw Z g gl tf) := xD_map xw_fst h.1
theorem XG.at {Z : ZT} (h : XG Z) {k : Nat} (hk : k < 111) : (zL Z)[k]? = some ((zL Z).getD k (za Z 24)) := by
  have h2 : k < (zL Z).length := by rw [h.2.2.2.2]; exact hk
  rw [List.getElem?_eq_getElem h2, List.getD_eq_getElem?_getD, List.getElem?_eq_getElem h2]; rfl
theorem XG.mem {Z : ZT} (h : XG Z) {k : Nat} (hk : k < 111) : (zL Z).getD k (za Z 24) ∈ zL Z := List.mem_of_getElem? (h.at hk)
theorem XG.inj {Z : ZT} (h : XG Z) {i j : Nat} (hi : i < 111) (hj : j < 111) (e : (zL Z).getD i (za Z 24) = (zL Z).getD j (za Z 24)) : i = j := by
  have key : ∀ k, k < 111 → (xw Z (fun _ _ => 0) (fun _ _ => 0) (fun _ _ => 0))[24 + k]? = some ((zL Z).getD k (za Z 24), tfF (fun _ _ => 0) ((zL Z).getD k (za Z 24))) := fun k hk => by
    have q : (va_pl (zL Z) (tfF (fun _ _ => 0)))[k]? = some ((zL Z).getD k (za Z 24), tfF (fun _ _ => 0) ((zL Z).getD k (za Z 24))) := by
      unfold va_pl; rw [List.getElem?_map, h.at hk]; rfl
    unfold xw
    rw [List.getElem?_append_right (by show 24 ≤ 24 + k; omega)]
    show (va_pl (zL Z) (tfF (fun _ _ => 0)))[24 + k - 24]? = _
    rw [show 24 + k - 24 = k by omega]; exact q
  have z := h.1.1 (24 + i) (24 + j) _ _ (key i hi) (key j hj) e
  omega
theorem XG.rin {Z : ZT} (h : XG Z) (t : Nat) : ro Z t ∈ zL Z := by
  unfold ro
  by_cases q : 1 + t < 111
  · exact h.mem q
  · rw [List.getD_eq_getElem?_getD, List.getElem?_eq_none (by rw [h.2.2.2.2]; omega)]; exact List.mem_of_getElem? h.2.2.2.1
theorem XG.ask {Z : ZT} (h : XG Z) : za Z 24 ∈ zL Z := List.mem_of_getElem? h.2.2.2.1
theorem XG.ask0 {Z : ZT} (h : XG Z) : (zL Z).getD 0 (za Z 24) = za Z 24 := by
  have q := h.at (k := 0) (by decide)
  rw [h.2.2.2.1] at q; exact (Option.some.inj q).symm
theorem XG.ri {Z : ZT} (h : XG Z) {i j : Nat} (hi : i < 70) (hj : j < 70) (n : i ≠ j) : ro Z i ≠ ro Z j := fun e => by have q := h.inj (by omega) (by omega) e; omega
theorem XG.ki {Z : ZT} (h : XG Z) {i j : Nat} (hi : i < 40) (hj : j < 40) (n : i ≠ j) : ko Z i ≠ ko Z j := fun e => by have q := h.inj (by omega) (by omega) e; omega
theorem XG.rk {Z : ZT} (h : XG Z) {i j : Nat} (hi : i < 70) (hj : j < 40) : ro Z i ≠ ko Z j := fun e => by have q := h.inj (by omega) (by omega) e; omega
theorem XG.ra {Z : ZT} (h : XG Z) {i : Nat} (hi : i < 70) : ro Z i ≠ za Z 24 := fun e => by rw [← h.ask0] at e; have q := h.inj (by omega) (by omega) e; omega
theorem XG.ka {Z : ZT} (h : XG Z) {i : Nat} (hi : i < 40) : ko Z i ≠ za Z 24 := fun e => by rw [← h.ask0] at e; have q := h.inj (by omega) (by omega) e; omega
theorem XG.r4 {Z : ZT} (h : XG Z) {x : Int32} (hx : vp_in x 70) : ro Z x.toNatClampNeg ∈ zL Z ∧ zr Z 4 x.toNatClampNeg = some (ro Z x.toNatClampNeg) := by
  have hn : x.toNatClampNeg < 70 := Nat.not_le.mp fun q => hx (Or.inr q)
  exact ⟨h.mem (by omega), (h.2.1 _ hn).trans (h.at (by omega))⟩
theorem XG.r18 {Z : ZT} (h : XG Z) {x : Int32} (hx : vp_in x 40) : ko Z x.toNatClampNeg ∈ zL Z ∧ zr Z 18 x.toNatClampNeg = some (ko Z x.toNatClampNeg) := by
  have hn : x.toNatClampNeg < 40 := Nat.not_le.mp fun q => hx (Or.inr q)
  exact ⟨h.mem (by omega), (h.2.2.1 _ hn).trans (h.at (by omega))⟩
/-- the state of the class at a state of the machine -/
def XI (Z : ZT) (g : Nat → Nat → Int32) (gl : Nat → Nat → Int64) (tf : Nat → Nat → Int32) (U : State) : Prop :=
  va_P (zD Z) vwCl (xw Z g gl tf) U.heap ∧ va_K (zD Z) vwCl (zty Z) U ∧ va_Nw (.methodLinkNest RX5 81 yX6_isQuantity RX6) U ∧ vk_R RX1 31 "tfsbo" (zK Z) U ∧ vk_S 1 [5] [[116, 102, 115, 98, 111]] (fun _ => zK Z) (fun _ => zV Z) (zA Z) U U.heap ∧ va_Z "java/lang/String" "COMPACT_STRINGS" "Z" (.int 1) (zA Z) U U.heap
theorem XI.at {Z : ZT} {g0 g : Nat → Nat → Int32} {gl0 gl : Nat → Nat → Int64} {tf0 tf : Nat → Nat → Int32} {s U : State} {H : Heap} {locs : List Loc} (h : XI Z g0 gl0 tf0 s) (hS : va_S (zA Z) s.heap H locs) (hP : va_P (zD Z) vwCl (xw Z g gl tf) H) (hU : U.heap = H) (hW : s.WarmedH U.vm) : XI Z g gl tf U := by
  refine ⟨by rw [hU]; exact hP, va_K.moved hW.alike h.2.1, va_Nw.warmM hW h.2.2.1, vk_R.warm hW h.2.2.2.1, ?_, ?_⟩
  · rw [hU]
    exact vk_S.moved hW.alike (vk_S.kept h.2.2.2.2.1 (fun a ha hn => hS.2.1 a ha hn))
  · rw [hU]
    exact va_Z.moved hW.alike (va_Z.kept h.2.2.2.2.2 (fun a ha hn => hS.2.1 a ha hn))
theorem XI.blind {Z : ZT} {g : Nat → Nat → Int32} {gl : Nat → Nat → Int64} {tf : Nat → Nat → Int32} {U : State} (f : JFrame) (mk : MethodId) (a : Array Value) (h : XI Z g gl tf U) : XI Z g gl tf (U.calling f mk a) :=
  ⟨h.1, va_K.moved (u := U) (U := U.calling f mk a) (Vm.Alike.refl U.vm) h.2.1, va_Nw.same rfl (u := U) rfl h.2.2.1, vk_R.same (u := U) rfl h.2.2.2.1, vk_S.moved (u := U) (U := U.calling f mk a) (Vm.Alike.refl U.vm) h.2.2.2.2.1, va_Z.moved (u := U) (U := U.calling f mk a) (Vm.Alike.refl U.vm) h.2.2.2.2.2⟩
/-- which rows may have changed -/
def Fr (S : List Nat) (g g' : Nat → Nat → Int32) : Prop := ∀ i, i ∉ S → g' i = g i
theorem Fr.rf {S : List Nat} {g : Nat → Nat → Int32} : Fr S g g := fun _ _ => rfl
theorem Fr.u2 {S : List Nat} {g0 g : Nat → Nat → Int32} {i k : Nat} {v : Int32} (h : Fr S g0 g) (hi : i ∈ S) : Fr S g0 (up2 g i k v) := fun j hj => by
  have : j ≠ i := fun e => hj (e ▸ hi)
  simp only [up2, if_neg this]; exact h j hj
theorem Fr.uR {S : List Nat} {g0 g : Nat → Nat → Int32} {i : Nat} {r : Nat → Int32} (h : Fr S g0 g) (hi : i ∈ S) : Fr S g0 (upR g i r) := fun j hj => by
  have : j ≠ i := fun e => hj (e ▸ hi)
  simp only [upR, if_neg this]; exact h j hj
theorem Fr.tr {S S' : List Nat} {g0 g g' : Nat → Nat → Int32} (h : Fr S g0 g) (h' : Fr S' g g') (hs : ∀ i ∈ S', i ∈ S) : Fr S g0 g' := fun j hj => (h' j (fun q => hj (hs j q))).trans (h j hj)
theorem up2_s {g : Nat → Nat → Int32} {i k : Nat} {v : Int32} : up2 g i k v i k = v := by simp [up2]
theorem up2_n {g : Nat → Nat → Int32} {i k j : Nat} {v : Int32} (h : j ≠ k) : up2 g i k v i j = g i j := by simp [up2, h]
/-- of every tariff FIRST and LAST are quantities -/
def Gd (Z : ZT) (tf : Nat → Nat → Int32) : Prop := ∀ a, a ∈ zL Z → (0 ≤ (tf a 3).toInt ∧ (tf a 3).toInt ≤ 63) ∧ (0 ≤ (tf a 4).toInt ∧ (tf a 4).toInt ≤ 63)
theorem Gd.u {Z : ZT} {tf : Nat → Nat → Int32} {a k : Nat} {v : Int32} (h : Gd Z tf) (hk3 : k ≠ 3) (hk : k ≠ 4) : Gd Z (up2 tf a k v) := fun b hb => by
  by_cases e : b = a
  · subst e; simp only [up2, if_true, if_neg (Ne.symm hk), if_neg (Ne.symm hk3)]; exact h b hb
  · simp only [up2, if_neg e]; exact h b hb
theorem Gd.u3 {Z : ZT} {tf : Nat → Nat → Int32} {a : Nat} {v : Int32} (h : Gd Z tf) (hv : 0 ≤ v.toInt ∧ v.toInt ≤ 63) : Gd Z (up2 tf a 3 v) := fun b hb => by
  by_cases e : b = a
  · subst e; rw [up2_s, up2_n (by decide)]; exact ⟨hv, (h b hb).2⟩
  · simp only [up2, if_neg e]; exact h b hb
theorem Gd.u4 {Z : ZT} {tf : Nat → Nat → Int32} {a : Nat} {v : Int32} (h : Gd Z tf) (hv : 0 ≤ v.toInt ∧ v.toInt ≤ 63) : Gd Z (up2 tf a 4 v) := fun b hb => by
  by_cases e : b = a
  · subst e; rw [up2_s, up2_n (by decide)]; exact ⟨(h b hb).1, hv⟩
  · simp only [up2, if_neg e]; exact h b hb
/-- a tariff written anew -/
def wrT (tf : Nat → Nat → Int32) (a : Nat) (x1 x2 x3 x4 x5 : Int32) : Nat → Nat → Int32 := up2 (up2 (up2 (up2 (up2 tf a 0 x1) a 1 x2) a 2 x3) a 3 x4) a 4 x5
theorem wrT_ne {tf : Nat → Nat → Int32} {a b : Nat} {x1 x2 x3 x4 x5 : Int32} (h : b ≠ a) : wrT tf a x1 x2 x3 x4 x5 b = tf b := by
  simp only [wrT, up2, if_neg h]
theorem wrT_0 {tf : Nat → Nat → Int32} {a : Nat} {x1 x2 x3 x4 x5 : Int32} : wrT tf a x1 x2 x3 x4 x5 a 0 = x1 := by simp [wrT, up2]
theorem wrT_1 {tf : Nat → Nat → Int32} {a : Nat} {x1 x2 x3 x4 x5 : Int32} : wrT tf a x1 x2 x3 x4 x5 a 1 = x2 := by simp [wrT, up2]
theorem wrT_2 {tf : Nat → Nat → Int32} {a : Nat} {x1 x2 x3 x4 x5 : Int32} : wrT tf a x1 x2 x3 x4 x5 a 2 = x3 := by simp [wrT, up2]
theorem wrT_3 {tf : Nat → Nat → Int32} {a : Nat} {x1 x2 x3 x4 x5 : Int32} : wrT tf a x1 x2 x3 x4 x5 a 3 = x4 := by simp [wrT, up2]
theorem wrT_4 {tf : Nat → Nat → Int32} {a : Nat} {x1 x2 x3 x4 x5 : Int32} : wrT tf a x1 x2 x3 x4 x5 a 4 = x5 := by simp [wrT, up2]
theorem wrT_k {tf tf' : Nat → Nat → Int32} {a b : Nat} : ∀ k, k < 5 → wrT tf a (tf' b 0) (tf' b 1) (tf' b 2) (tf' b 3) (tf' b 4) a k = tf' b k := fun k hk => by
  match k, hk with
  | 0, _ => exact wrT_0
  | 1, _ => exact wrT_1
  | 2, _ => exact wrT_2
  | 3, _ => exact wrT_3
  | 4, _ => exact wrT_4

