/-- t fits node v: one of the first n, and its span has all quantities of v -/
def fitN (R : Nat → Nat → Int32) (n : Int) (v : Nat) (t : Int32) : Prop := (0 ≤ t.toInt ∧ t.toInt < n) ∧ (R 4 t.toNatClampNeg).toInt ≤ (fiN v : Int) ∧ (laN v : Int) ≤ (R 5 t.toNatClampNeg).toInt
def stI (R : Nat → Nat → Int32) (n : Int) (S : Nat → Int32) : Prop := ∀ v, 1 ≤ v → v ≤ 127 → ¬ S v = -1 → fitN R n v (S v)
/-- for q there stands s, or a better one -/
def dm (R : Nat → Nat → Int32) (S : Nat → Int32) (q : Nat) (s : Int32) : Prop := ∃ w, (1 ≤ w ∧ w ≤ 127) ∧ (fiN w ≤ q ∧ q ≤ laN w) ∧ ¬ S w = -1 ∧ (S w = s ∨ bt R (S w) s q)
theorem dm_tr {R : Nat → Nat → Int32} {S : Nat → Int32} {q : Nat} {a b : Int32} (h : dm R S q a) (h2 : b = a ∨ bt R a b q) : dm R S q b := by
  rcases h2 with rfl | h2
  · exact h
  obtain ⟨w, k1, k2, k3, k4⟩ := h
  refine ⟨w, k1, k2, k3, Or.inr ?_⟩
  rcases k4 with k4 | k4
  · rw [k4]; exact h2
  · exact bt_tr k4 h2
theorem fitN.sub {R : Nat → Nat → Int32} {n : Int} {v c : Nat} {t : Int32} (h : fitN R n v t) (h1 : fiN v ≤ fiN c) (h2 : laN c ≤ laN v) : fitN R n c t := ⟨h.1, by have q := h.2.1; omega, by have q := h.2.2; omega⟩
theorem fitN.ne {R : Nat → Nat → Int32} {n : Int} {v : Nat} {t : Int32} (h : fitN R n v t) : ¬ t = -1 := fun e => by have q := h.1.1; rw [e] at q; exact absurd q (by decide)
theorem stI.up {R : Nat → Nat → Int32} {n : Int} {S : Nat → Int32} {v : Nat} {t : Int32} (h : stI R n S) (ht : fitN R n v t) : stI R n (upd S v t) := fun w h1 h2 hn => by
  by_cases e : w = v
  · subst e; rw [pk_us]; exact ht
  · rw [pk_un e] at hn ⊢; exact h w h1 h2 hn
/-- a push: what stands fits; for each quantity of the node there stands t or a better one then; and so for each one that stood -/
theorem psh_ok {R : Nat → Nat → Int32} (hR : ∀ t, 0 ≤ (R 4 t).toInt ∧ (R 4 t).toInt ≤ 63) {n : Int} : ∀ (f : Nat) (S : Nat → Int32) (v : Nat) (t : Int32), (1 ≤ v ∧ v ≤ 127) → 128 ≤ v * 2 ^ f → stI R n S → fitN R n v t →
    stI R n (psh R f S v t) ∧ (∀ q, fiN v ≤ q → q ≤ laN v → dm R (psh R f S v t) q t) ∧ (∀ q x, dm R S q x → dm R (psh R f S v t) q x) := by
  intro f
  induction f with
  | zero => intro S v t hv hf; exact absurd hf (by rw [Nat.pow_zero]; omega)
  | succ f ih =>
    intro S v t hv hf hS ht
    have hle := nd_le hv.1 hv.2
    have key : ∀ (S1 : Nat → Int32) (a b : Int32), S1 v = b → stI R n S1 → fitN R n v a → fitN R n v b → ¬ bt R a b (miN v) →
        stI R n (psh R f S1 (hlf R a b v) a) ∧ (∀ q, fiN v ≤ q → q ≤ laN v → dm R (psh R f S1 (hlf R a b v) a) q a) ∧ (∀ q x, dm R S1 q x → dm R (psh R f S1 (hlf R a b v) a) q x) := by
      intro S1 a b e1 hS1 ha hb hm
      have hv1 : ∀ q, fiN v ≤ q → q ≤ laN v → dm R S1 q b := fun q h1 h2 => ⟨v, hv, ⟨h1, h2⟩, by rw [e1]; exact hb.ne, Or.inl e1⟩
      by_cases c1 : bt R a b (fiN v)
      · have hh : hlf R a b v = 2 * v := if_pos c1
        have h63 : v ≤ 63 := by
          rcases Nat.lt_or_ge 63 v with z | z
          · have q := nd_leaf (v := v) (by omega); rw [q.1] at c1; exact absurd c1 hm
          · exact z
        have hl := nd_l hv.1 h63
        rw [hh]
        obtain ⟨k1, k2, k3⟩ := ih S1 (2 * v) a (by omega) (by rw [Nat.pow_succ] at hf; rw [Nat.mul_comm 2 v, Nat.mul_assoc, Nat.mul_comm 2]; exact hf) hS1 (ha.sub (by omega) (by omega))
        refine ⟨k1, fun q h1 h2 => ?_, k3⟩
        rcases Nat.lt_or_ge (miN v) q with z | z
        · have nb : ¬ bt R a b q := fun y => hm (bt_cw hR hle.1 (Nat.le_of_lt z) (by omega) c1 y)
          refine dm_tr (k3 q b (hv1 q h1 h2)) ?_
          rcases bt_or nb with y | y
          · exact Or.inl y.symm
          · exact Or.inr y
        · exact k2 q (by omega) (by omega)
      by_cases c2 : bt R a b (laN v)
      · have hh : hlf R a b v = 2 * v + 1 := (if_neg (show ¬ mbt R a b (nI (fiN v)) = true from c1)).trans (if_pos (show mbt R a b (nI (laN v)) = true from c2))
        have h63 : v ≤ 63 := by
          rcases Nat.lt_or_ge 63 v with z | z
          · have q := nd_leaf (v := v) (by omega); rw [q.2.1] at c2; exact absurd c2 hm
          · exact z
        have hr := nd_r hv.1 h63
        rw [hh]
        obtain ⟨k1, k2, k3⟩ := ih S1 (2 * v + 1) a (by omega) (by rw [Nat.pow_succ] at hf; rw [Nat.add_mul, Nat.mul_comm 2 v, Nat.mul_assoc, Nat.mul_comm 2]; omega) hS1 (ha.sub (by omega) (by omega))
        refine ⟨k1, fun q h1 h2 => ?_, k3⟩
        rcases Nat.lt_or_ge (miN v) q with z | z
        · exact k2 q (by omega) (by omega)
        · have nb : ¬ bt R a b q := bt_cv hR h1 z (by omega) c1 hm
          refine dm_tr (k3 q b (hv1 q h1 h2)) ?_
          rcases bt_or nb with y | y
          · exact Or.inl y.symm
          · exact Or.inr y
      · have hh : hlf R a b v = 0 := (if_neg (show ¬ mbt R a b (nI (fiN v)) = true from c1)).trans (if_neg (show ¬ mbt R a b (nI (laN v)) = true from c2))
        rw [hh, psh_o (Or.inl rfl)]
        refine ⟨hS1, fun q h1 h2 => ?_, fun q x h => h⟩
        have nb : ¬ bt R a b q := bt_cv hR h1 h2 (by omega) c1 c2
        refine dm_tr (hv1 q h1 h2) ?_
        rcases bt_or nb with y | y
        · exact Or.inl y.symm
        · exact Or.inr y
    by_cases e : S v = -1
    · rw [psh_e hv e]
      refine ⟨hS.up ht, fun q h1 h2 => ⟨v, hv, ⟨h1, h2⟩, by rw [pk_us]; exact ht.ne, Or.inl pk_us⟩, fun q x h => ?_⟩
      obtain ⟨w, k1, k2, k3, k4⟩ := h
      have hw : w ≠ v := fun z => k3 (z ▸ e)
      exact ⟨w, k1, k2, by rw [pk_un hw]; exact k3, by rw [pk_un hw]; exact k4⟩
    by_cases m : mbt R t (S v) (nI (miN v)) = true
    · rw [psh_y hv e m]
      obtain ⟨k1, k2, k3⟩ := key (upd S v t) (S v) t pk_us (hS.up ht) (hS v hv.1 hv.2 e) ht (bt_as m)
      refine ⟨k1, fun q h1 h2 => k3 q t ⟨v, hv, ⟨h1, h2⟩, by rw [pk_us]; exact ht.ne, Or.inl pk_us⟩, fun q x h => ?_⟩
      obtain ⟨w, y1, y2, y3, y4⟩ := h
      by_cases hw : w = v
      · subst hw
        refine dm_tr (k2 q y2.1 y2.2) ?_
        rcases y4 with y4 | y4
        · exact Or.inl y4.symm
        · exact Or.inr y4
      · exact k3 q x ⟨w, y1, y2, by rw [pk_un hw]; exact y3, by rw [pk_un hw]; exact y4⟩
    · rw [psh_n hv e m]
      exact key S t (S v) rfl hS ht (hS v hv.1 hv.2 e) m
/-- pushed into one node behind the other -/
def ofr (R : Nat → Nat → Int32) (S : Nat → Int32) : List Nat → Int32 → Nat → Int32
  | [], _ => S
  | v :: vs, t => ofr R (psh R 7 S v t) vs t
def ofc (R : Nat → Nat → Int32) (S : Nat → Int32) : List Nat → Int32 → Nat
  | [], _ => 0
  | v :: vs, t => pcn R 7 S v t + ofc R (psh R 7 S v t) vs t
def hgs : List Nat → Nat
  | [] => 0
  | v :: vs => hgN v + hgs vs
/-- nodes in a row, from quantity q to l -/
def chn : Nat → Nat → List Nat → Prop
  | q, l, [] => q = l + 1
  | q, l, v :: vs => (1 ≤ v ∧ v ≤ 127) ∧ fiN v = q ∧ laN v ≤ l ∧ chn (laN v + 1) l vs
def chB : Nat → Nat → List Nat → Bool
  | q, l, [] => q == l + 1
  | q, l, v :: vs => Nat.ble 1 v && (Nat.ble v 127 && (fiN v == q && (Nat.ble (laN v) l && chB (laN v + 1) l vs)))
theorem chB_to : ∀ (vs : List Nat) (q l : Nat), chB q l vs = true → chn q l vs
  | [], q, l, h => by unfold chB at h; exact eq_of_beq h
  | v :: vs, q, l, h => by
    unfold chB at h
    simp only [Bool.and_eq_true, Nat.ble_eq, beq_iff_eq] at h
    exact ⟨⟨h.1, h.2.1⟩, h.2.2.1, h.2.2.2.1, chB_to vs _ l h.2.2.2.2⟩
theorem ofr_fr (R : Nat → Nat → Int32) (w : Nat) (l : Nat) : ∀ (vs : List Nat) (q : Nat) (S : Nat → Int32) (t : Int32), chn q l vs → ¬ ofr R S vs t w = S w → (1 ≤ w ∧ w ≤ 127) ∧ q ≤ fiN w ∧ laN w ≤ l := by
  intro vs
  induction vs with
  | nil => intro q S t _ h; exact absurd rfl h
  | cons v vs ih =>
    intro q S t hc h
    obtain ⟨c1, c2, c3, c4⟩ := hc
    have hle := nd_le c1.1 c1.2
    rw [ofr] at h
    by_cases e : ofr R (psh R 7 S v t) vs t w = psh R 7 S v t w
    · rw [e] at h
      obtain ⟨k1, k2, k3, k4⟩ := psh_fr R w 7 S v t h
      exact ⟨k1, by omega, by omega⟩
    · obtain ⟨k1, k2, k3⟩ := ih _ _ t c4 e
      exact ⟨k1, by omega, k3⟩
theorem ofr_ok {R : Nat → Nat → Int32} (hR : ∀ t, 0 ≤ (R 4 t).toInt ∧ (R 4 t).toInt ≤ 63) {n : Int} {l : Nat} {t : Int32} (ht : 0 ≤ t.toInt ∧ t.toInt < n) (hl : (l : Int) ≤ (R 5 t.toNatClampNeg).toInt) : ∀ (vs : List Nat) (q0 : Nat) (S : Nat → Int32), chn q0 l vs → (R 4 t.toNatClampNeg).toInt ≤ (q0 : Int) → stI R n S →
    stI R n (ofr R S vs t) ∧ (∀ q, q0 ≤ q → q ≤ l → dm R (ofr R S vs t) q t) ∧ (∀ q x, dm R S q x → dm R (ofr R S vs t) q x) := by
  intro vs
  induction vs with
  | nil => intro q0 S hc _ hS; exact ⟨hS, fun q h1 h2 => by have z : q0 = l + 1 := hc; omega, fun q x h => h⟩
  | cons v vs ih =>
    intro q0 S hc hq hS
    obtain ⟨c1, c2, c3, c4⟩ := hc
    have hle := nd_le c1.1 c1.2
    have fit : fitN R n v t := ⟨ht, by omega, by omega⟩
    obtain ⟨p1, p2, p3⟩ := psh_ok hR 7 S v t c1 (by omega) hS fit
    obtain ⟨k1, k2, k3⟩ := ih (laN v + 1) (psh R 7 S v t) c4 (by omega) p1
    rw [ofr]
    refine ⟨k1, fun q h1 h2 => ?_, fun q x h => k3 q x (p3 q x h)⟩
    rcases Nat.lt_or_ge (laN v) q with z | z
    · exact k2 q (by omega) h2
    · exact k3 q t (p2 q (by omega) z)
theorem ofc_ct (R : Nat → Nat → Int32) (l : Nat) : ∀ (vs : List Nat) (q : Nat) (S : Nat → Int32) (t : Int32), ¬ t = -1 → chn q l vs → dfc S (ofr R S vs t) 128 = ofc R S vs t := by
  intro vs
  induction vs with
  | nil => intro q S t _ _; exact dfc_rf S 128
  | cons v vs ih =>
    intro q S t ht hc
    obtain ⟨c1, c2, c3, c4⟩ := hc
    have hle := nd_le c1.1 c1.2
    rw [ofr, ofc, dfc_add (S1 := psh R 7 S v t) (fun w hw => ?_), pcn_ct R 7 S v t ht, ih _ _ t ht c4]
    refine Classical.byContradiction (fun z => ?_)
    obtain ⟨k1, k2, k3⟩ := ofr_fr R w l vs _ _ t c4 z
    obtain ⟨j1, j2, j3, j4⟩ := psh_fr R w 7 S v t hw
    have q2 := nd_le k1.1 k1.2
    omega
theorem ofc_hg (R : Nat → Nat → Int32) : ∀ (vs : List Nat) (S : Nat → Int32) (t : Int32), ofc R S vs t ≤ hgs vs := by
  intro vs
  induction vs with
  | nil => intro S t; exact Nat.le_refl 0
  | cons v vs ih => intro S t; rw [ofc, hgs]; exact Nat.add_le_add (pcn_hg R 7 S v t) (ih _ t)
/-- the widest node that begins at a quantity, by the class and by the reference -/
def wdn : Nat → Nat → Nat → Nat
  | 0, v, _ => v
  | k + 1, v, l => if v % 2 = 0 ∧ 2 ≤ v ∧ laN (v / 2) ≤ l then wdn k (v / 2) l else v
def cnl : Nat → Nat → Nat → List Nat
  | 0, _, _ => []
  | k + 1, q, l => if l < q then [] else wdn 6 (64 + q) l :: cnl k (laN (wdn 6 (64 + q) l) + 1) l
def wdm : Nat → Nat → Nat → Nat → Nat
  | 0, v, _, _ => v
  | k + 1, v, f, l => if 1 ≤ v / 2 ∧ f ≤ fiN (v / 2) ∧ laN (v / 2) ≤ l then wdm k (v / 2) f l else v
def cnm : Nat → Nat → Nat → Nat → List Nat
  | 0, _, _, _ => []
  | k + 1, q, f, l => if l < q then [] else wdm 7 (64 + q) f l :: cnm k (laN (wdm 7 (64 + q) f l) + 1) f l
def cn_ck : Bool := (List.range 64).all fun f => (List.range 64).all fun l => Nat.blt l f || (cnm 64 f f l == cnl 64 f l && (chB f l (cnl 64 f l) && Nat.ble (hgs (cnl 64 f l)) 30))
set_option maxRecDepth 100000 in
theorem cn_ok : cn_ck = true := by decide +kernel
theorem cn_all {f l : Nat} (h : f ≤ l) (h2 : l < 64) : cnm 64 f f l = cnl 64 f l ∧ chn f l (cnl 64 f l) ∧ hgs (cnl 64 f l) ≤ 30 := by
  have q := List.all_eq_true.mp (List.all_eq_true.mp cn_ok f (List.mem_range.mpr (by omega))) l (List.mem_range.mpr h2)
  rw [Bool.or_eq_true] at q
  rcases q with q | q
  · rw [Nat.blt_eq] at q; omega
  · simp only [Bool.and_eq_true, Nat.ble_eq, beq_iff_eq] at q
    exact ⟨q.1, chB_to _ _ _ q.2.1, q.2.2⟩
