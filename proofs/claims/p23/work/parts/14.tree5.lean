/-- where the changes of offer j begin in the log of n offers -/
def cbx (g : Nat → Nat → Int32) (n j : Nat) : Int := if j < n then (g 9 j).toInt else (g 5 5).toInt
/-- the log of n offers: taking back the changes of offer j makes of the tree of j + 1 that of j -/
def LG (R g : Nat → Nat → Int32) (n : Nat) : Prop := cbx g n 0 = 0 ∧ ∀ j, j < n → cbx g n j ≤ cbx g n (j + 1) ∧ cbx g n (j + 1) ≤ cbx g n j + 30 ∧ Eq1 (und (g 7) (g 8) (cbx g n j).toNat (cbx g n (j + 1) - cbx g n j).toNat (TR R (j + 1))) (TR R j)
theorem LG.le {R g : Nat → Nat → Int32} {n : Nat} (h : LG R g n) : ∀ j, j ≤ n → 0 ≤ cbx g n j ∧ cbx g n j ≤ 30 * (j : Int)
  | 0, _ => by rw [h.1]; omega
  | j + 1, hj => by
    have a := h.le j (by omega)
    have b := h.2 j (by omega)
    omega
theorem cbx_n {g : Nat → Nat → Int32} {n : Nat} : cbx g n n = (g 5 5).toInt := if_neg (Nat.lt_irrefl _)
theorem LG.mono {R g : Nat → Nat → Int32} {n : Nat} (h : LG R g n) {i : Nat} : ∀ k, i + k ≤ n → cbx g n i ≤ cbx g n (i + k)
  | 0, _ => Int.le_refl _
  | k + 1, hk => by
    have a := h.mono (i := i) k (by omega)
    have b := (h.2 (i + k) (by omega)).1
    rw [← Nat.add_assoc]; omega
/-- the class's tree: what stands, which is lowest, the log -/
def TX (R : Nat → Nat → Int32) (n : Nat) (g : Nat → Nat → Int32) : Prop := Eq1 (g 6) (TR R n) ∧ (∀ q, q < 64 → g 10 q = bst R n q) ∧ LG R g n
theorem TX.c0 {R g : Nat → Nat → Int32} {n : Nat} (h : TX R n g) : 0 ≤ (g 5 5).toInt ∧ (g 5 5).toInt ≤ 30 * (n : Int) := by
  have q := h.2.2.le n (Nat.le_refl _); rw [cbx_n] at q; exact q
theorem TX.bd {R g : Nat → Nat → Int32} {n : Nat} (h : TX R n g) (hn : n ≤ 70) : bdS 70 (g 6) := fun v a b c => by
  have e := h.1 v a b
  rw [e] at c ⊢
  have q := TR_bd (R := R) n (by omega) v a b c
  omega
theorem TX_cr {R R2 g : Nat → Nat → Int32} {n : Nat} (hn : n ≤ 70) (hr : Rw R R2 n) (h : TX R n g) : TX R2 n g := by
  obtain ⟨h1, h2, h3, h4⟩ := h
  refine ⟨by rw [← TR_cr n (by omega) hr]; exact h1, fun q hq => by rw [← bst_cr n (by omega) hr]; exact h2 q hq, h3, fun j hj => ?_⟩
  rw [← TR_cr (j + 1) (by omega) (hr.le (by omega)), ← TR_cr j (by omega) (hr.le (by omega))]
  exact h4 j hj
theorem TX_take {R g g1 u : Nat → Nat → Int32} {n : Nat} {x : Int32} (hR : ∀ t, 0 ≤ (R 4 t).toInt ∧ (R 4 t).toInt ≤ 63) (hR5 : ∀ t, (R 5 t).toInt ≤ 63) (hn : n < 70) (hx : x = nI n) (h : TX R n g) (o : OE R g g1 (cns R n) x) (e5 : u 5 5 = g1 5 5) (e6 : u 6 = g1 6) (e7 : u 7 = g1 7) (e8 : u 8 = g1 8) (e9 : u 9 = upd (g 9) n (g 5 5)) (el : ∀ q, q < 64 → u 10 q = bst R (n + 1) q) : TX R (n + 1) u := by
  subst hx
  obtain ⟨h1, h2, h3, h4⟩ := h
  have hL : LG R g n := ⟨h3, h4⟩
  obtain ⟨o1, o2, o3, o4⟩ := o
  have c0 := hL.le n (Nat.le_refl _)
  rw [cbx_n] at c0
  have t1 : Eq1 (g1 6) (TR R (n + 1)) := by rw [o1, TR]; exact (ofr_cs R _ _ _ _ h1).1
  have oc : ofc R (g 6) (cns R n) (nI n) ≤ 30 := Nat.le_trans (ofc_hg R _ _ _) (hg_30 hR hR5 n)
  have cb : ∀ j, j ≤ n → cbx u (n + 1) j = cbx g n j := fun j hj => by
    unfold cbx
    rw [if_pos (by omega), e9]
    by_cases q : j = n
    · subst q; rw [pk_us, if_neg (Nat.lt_irrefl _)]
    · rw [pk_un q, if_pos (by omega)]
  have cn1 : cbx u (n + 1) (n + 1) = (g1 5 5).toInt := by rw [cbx_n, e5]
  have hL1 : LG R u (n + 1) := by
    refine ⟨by rw [cb 0 (by omega)]; exact h3, fun j hj => ?_⟩
    rcases (show j < n ∨ j = n by omega) with q | q
    · rw [cb j (by omega), cb (j + 1) (by omega), e7, e8]
      obtain ⟨k1, k2, k3⟩ := h4 j q
      have m := hL.mono (i := j + 1) (n - (j + 1)) (by omega)
      rw [show j + 1 + (n - (j + 1)) = n by omega, cbx_n] at m
      have l := hL.le j (by omega)
      refine ⟨k1, k2, ?_⟩
      rw [und_cg (cn := g 7) (sb := g 8) _ _ (fun i hi => o4 i (by omega))]
      exact k3
    · subst q
      rw [cb j (Nat.le_refl _), cn1, cbx_n, e7, e8]
      refine ⟨by omega, by omega, ?_⟩
      rw [show ((g1 5 5).toInt - (g 5 5).toInt).toNat = ofc R (g 6) (cns R j) (nI j) by omega]
      have k := und_cs (cn := g1 7) (sb := g1 8) (lo := (g 5 5).toInt.toNat) (ofc R (g 6) (cns R j) (nI j)) _ _ t1.sy
      rw [o3] at k
      exact k.tr h1
  exact ⟨by rw [e6]; exact t1, el, hL1⟩
theorem TX_back {R g u : Nat → Nat → Int32} {n : Nat} (hn : n < 70) (h : TX R (n + 1) g) (e6 : Eq1 (u 6) (und (g 7) (g 8) (g 9 n).toInt.toNat ((g 5 5).toInt - (g 9 n).toInt).toNat (g 6))) (e5 : u 5 5 = g 9 n) (e7 : u 7 = g 7) (e8 : u 8 = g 8) (e9 : u 9 = g 9) (el : ∀ q, q < 64 → u 10 q = bst R n q) : TX R n u := by
  obtain ⟨h1, h2, h3, h4⟩ := h
  have c9 : cbx g (n + 1) n = (g 9 n).toInt := if_pos (by omega)
  have k := (h4 n (by omega)).2.2
  rw [c9, cbx_n] at k
  have cb : ∀ j, j ≤ n → cbx u n j = cbx g (n + 1) j := fun j hj => by
    unfold cbx
    rw [if_pos (show j < n + 1 by omega), e9, e5]
    by_cases q : j = n
    · subst q; rw [if_neg (Nat.lt_irrefl _)]
    · rw [if_pos (by omega)]
  refine ⟨e6.tr ((und_cs _ _ _ h1).tr k), el, by rw [cb 0 (by omega)]; exact h3, fun j hj => ?_⟩
  rw [cb j (by omega), cb (j + 1) (by omega), e7, e8]
  exact h4 j (by omega)
theorem TX_0 {R g : Nat → Nat → Int32} (h6 : ∀ j, j < 128 → g 6 j = -1) (h10 : ∀ j, j < 64 → g 10 j = -1) (h5 : g 5 5 = 0) : TX R 0 g := ⟨fun w a b => h6 w (by omega), fun q hq => h10 q hq, by rw [cbx_n, h5]; decide, fun j hj => absurd hj (Nat.not_lt_zero _)⟩
/-- counting -/
def cB (p : Nat → Bool) : Nat → Nat
  | 0 => 0
  | n + 1 => cB p n + (if p n = true then 1 else 0)
theorem cB_y {p : Nat → Bool} {n : Nat} (h : p n = true) : cB p (n + 1) = cB p n + 1 := by rw [cB, if_pos h]
theorem cB_n {p : Nat → Bool} {n : Nat} (h : ¬ p n = true) : cB p (n + 1) = cB p n := by rw [cB, if_neg h]; rfl
theorem cB_le (p : Nat → Bool) : ∀ n, cB p n ≤ n
  | 0 => Nat.le_refl 0
  | n + 1 => by have h := cB_le p n; rw [cB]; split <;> omega
theorem cB_cg {p p2 : Nat → Bool} : ∀ n, (∀ i, i < n → p i = p2 i) → cB p n = cB p2 n
  | 0, _ => rfl
  | n + 1, h => by rw [cB, cB, h n (by omega), cB_cg n (fun i hi => h i (by omega))]
theorem nI_ek {x : Int32} {k : Nat} (h : x.toInt = k) : x = nI k := by
  apply Int32.toInt_inj.mp
  have r := ti_rng x
  rw [nI_toInt (by omega)]; exact h
/-- nodes, or quantities, where one of a to b is -/
def ndB (S : Nat → Int32) (a b : Int) (v : Nat) : Bool := decide (1 ≤ v ∧ a ≤ (S v).toInt ∧ (S v).toInt ≤ b)
def qnB (S : Nat → Int32) (a b : Int) (v : Nat) : Bool := decide (a ≤ (S v).toInt ∧ (S v).toInt ≤ b)
theorem midP {n : Int} (h : 1 ≤ n ∧ n ≤ 127) : firP n + (lenP n - 1) / 2 = (miN n.toNat : Int) := by
  have q := nd_v (v := n.toNat) (by omega)
  unfold firP lenP; omega
theorem wdn_s {f v l : Nat} (h : ¬ (v % 2 = 0 ∧ 2 ≤ v ∧ laN (v / 2) ≤ l)) : wdn f v l = v := by
  cases f with
  | zero => rfl
  | succ f => rw [wdn, if_neg h]
theorem wdn_y {f v l : Nat} (h : v % 2 = 0 ∧ 2 ≤ v ∧ laN (v / 2) ≤ l) : wdn (f + 1) v l = wdn f (v / 2) l := by rw [wdn, if_pos h]
theorem wdm_s {f v a l : Nat} (h : ¬ (1 ≤ v / 2 ∧ a ≤ fiN (v / 2) ∧ laN (v / 2) ≤ l)) : wdm f v a l = v := by
  cases f with
  | zero => rfl
  | succ f => rw [wdm, if_neg h]
theorem wdm_y {f v a l : Nat} (h : 1 ≤ v / 2 ∧ a ≤ fiN (v / 2) ∧ laN (v / 2) ≤ l) : wdm (f + 1) v a l = wdm f (v / 2) a l := by rw [wdm, if_pos h]
theorem cnl_e {k q l : Nat} (h : k = 0 ∨ l < q) : cnl k q l = [] := by
  cases k with
  | zero => rfl
  | succ k => rw [cnl, if_pos (by omega)]
theorem cnl_c {k q l : Nat} (h : ¬ l < q) : cnl (k + 1) q l = wdn 6 (64 + q) l :: cnl k (laN (wdn 6 (64 + q) l) + 1) l := by rw [cnl, if_neg h]
theorem cnm_e {k q f l : Nat} (h : k = 0 ∨ l < q) : cnm k q f l = [] := by
  cases k with
  | zero => rfl
  | succ k => rw [cnm, if_pos (by omega)]
theorem cnm_c {k q f l : Nat} (h : ¬ l < q) : cnm (k + 1) q f l = wdm 7 (64 + q) f l :: cnm k (laN (wdm 7 (64 + q) f l) + 1) f l := by rw [cnm, if_neg h]
theorem cns_nn {R : Nat → Nat → Int32} {n : Nat} (h4 : 0 ≤ (R 4 n).toInt) (h5 : 0 ≤ (R 5 n).toInt) : cns R n = cnl 64 (R 4 n).toInt.toNat (R 5 n).toInt.toNat := by
  unfold cns
  split
  · rw [cnl_e (Or.inr (by omega))]
  · rfl
theorem pbk_y {g : Nat → Nat → Int32} {k : Nat} (h : 1 ≤ (g 7 k).toInt ∧ (g 7 k).toInt ≤ 127) : upR g 6 (pbk (g 6) (g 7 k) (g 8 k)) = upR g 6 (upd (g 6) (g 7 k).toNatClampNeg (g 8 k)) := by
  unfold pbk; rw [if_pos h]
theorem upR_id {g : Nat → Nat → Int32} {i : Nat} : upR g i (g i) = g := by
  funext j
  by_cases e : j = i
  · subst e; simp [upR]
  · simp [upR, e]
theorem pbk_n {g : Nat → Nat → Int32} {k : Nat} (h : ¬ (1 ≤ (g 7 k).toInt ∧ (g 7 k).toInt ≤ 127)) : upR g 6 (pbk (g 6) (g 7 k) (g 8 k)) = g := by
  unfold pbk; rw [if_neg h]; exact upR_id
theorem upd_at {f : Nat → Int32} {k j : Nat} {v : Int32} (e : j = k) : upd f k v j = v := by subst e; exact pk_us
theorem midP2 {n : Int} (h : 1 ≤ n ∧ n ≤ 127) (h2 : ¬ lenP n = 1) : firP n + lenP n / 2 - 1 = (miN n.toNat : Int) := by
  have q := nd_v (v := n.toNat) (by omega)
  unfold firP lenP at *; omega
theorem mbt_fr {S : List Nat} {g g1 : Nat → Nat → Int32} (h : Fr S g g1) (hs : ∀ i, i ∈ [1, 2, 3, 4] → i ∉ S) {a b q : Int32} : mbt g1 a b q = mbt g a b q := by
  unfold mbt mpr
  rw [h 1 (hs 1 (by decide)), h 2 (hs 2 (by decide)), h 3 (hs 3 (by decide)), h 4 (hs 4 (by decide))]
theorem cns_fr {S : List Nat} {g g1 : Nat → Nat → Int32} (h : Fr S g g1) (hs : ∀ i, i ∈ [4, 5] → i ∉ S) {n : Nat} : cns g1 n = cns g n := by
  unfold cns
  rw [h 4 (hs 4 (by decide)), h 5 (hs 5 (by decide))]
theorem psh_ce {R R2 : Nat → Nat → Int32} (h : ∀ a b q, mbt R a b q = mbt R2 a b q) : ∀ {f : Nat} {S : Nat → Int32} {v : Nat} {t : Int32}, psh R f S v t = psh R2 f S v t := by
  intro f
  induction f with
  | zero => intro S v t; rfl
  | succ f ih =>
    intro S v t
    rw [psh, psh, h]
    have e : ∀ a b, hlf R a b v = hlf R2 a b v := fun a b => by unfold hlf; rw [h, h]
    rw [e, e, ih, ih]
theorem ofr_ce {R R2 : Nat → Nat → Int32} (h : ∀ a b q, mbt R a b q = mbt R2 a b q) : ∀ {vs : List Nat} {S : Nat → Int32} {t : Int32}, ofr R S vs t = ofr R2 S vs t := by
  intro vs
  induction vs with
  | nil => intro S t; rfl
  | cons v vs ih => intro S t; rw [ofr, ofr, psh_ce h, ih]
section PM
variable {R : Nat → Nat → Int32} {S : Nat → Int32} {f v : Nat} {t w : Int32}
theorem upd_id {S : Nat → Int32} {v : Nat} {w : Int32} (e : w = S v) : upd S v w = S := by
  subst e
  funext j
  by_cases q : j = v
  · subst q; exact pk_us
  · exact pk_un q
theorem hlf_l {a b : Int32} (h : mbt R a b (nI (fiN v)) = true) : hlf R a b v = 2 * v := if_pos h
theorem hlf_h {a b : Int32} (h : mbt R a b (nI (fiN v)) = false) (h2 : mbt R a b (nI (laN v)) = true) : hlf R a b v = 2 * v + 1 := (if_neg (by rw [h]; decide)).trans (if_pos h2)
theorem hlf_0 {a b : Int32} (h : mbt R a b (nI (fiN v)) = false) (h2 : mbt R a b (nI (laN v)) = false) : hlf R a b v = 0 := (if_neg (by rw [h]; decide)).trans (if_neg (by rw [h2]; decide))
theorem pM_yl (hv : 1 ≤ v ∧ v ≤ 127) (n : ¬ S v = -1) (e : w = S v) (m : mbt R t w (nI (miN v)) = true) (l : mbt R w t (nI (fiN v)) = true) : psh R (f + 1) S v t = psh R f (upd S v t) (2 * v) w := by
  subst e; rw [psh_y hv n m, hlf_l l]
theorem pM_yh (hv : 1 ≤ v ∧ v ≤ 127) (n : ¬ S v = -1) (e : w = S v) (m : mbt R t w (nI (miN v)) = true) (l : mbt R w t (nI (fiN v)) = false) (h : mbt R w t (nI (laN v)) = true) : psh R (f + 1) S v t = psh R f (upd S v t) (2 * v + 1) w := by
  subst e; rw [psh_y hv n m, hlf_h l h]
theorem pM_y0 (hv : 1 ≤ v ∧ v ≤ 127) (n : ¬ S v = -1) (e : w = S v) (m : mbt R t w (nI (miN v)) = true) (l : mbt R w t (nI (fiN v)) = false) (h : mbt R w t (nI (laN v)) = false) : psh R (f + 1) S v t = upd S v t := by
  subst e; rw [psh_y hv n m, hlf_0 l h, psh_o (Or.inl rfl)]
theorem pM_nl (hv : 1 ≤ v ∧ v ≤ 127) (n : ¬ S v = -1) (e : w = S v) (m : mbt R t w (nI (miN v)) = false) (l : mbt R t w (nI (fiN v)) = true) : psh R (f + 1) S v t = psh R f (upd S v w) (2 * v) t := by
  rw [upd_id e]; subst e; rw [psh_n hv n (by rw [m]; decide), hlf_l l]
theorem pM_nh (hv : 1 ≤ v ∧ v ≤ 127) (n : ¬ S v = -1) (e : w = S v) (m : mbt R t w (nI (miN v)) = false) (l : mbt R t w (nI (fiN v)) = false) (h : mbt R t w (nI (laN v)) = true) : psh R (f + 1) S v t = psh R f (upd S v w) (2 * v + 1) t := by
  rw [upd_id e]; subst e; rw [psh_n hv n (by rw [m]; decide), hlf_h l h]
theorem pM_n0 (hv : 1 ≤ v ∧ v ≤ 127) (n : ¬ S v = -1) (e : w = S v) (m : mbt R t w (nI (miN v)) = false) (l : mbt R t w (nI (fiN v)) = false) (h : mbt R t w (nI (laN v)) = false) : psh R (f + 1) S v t = upd S v w := by
  rw [upd_id e]; subst e; rw [psh_n hv n (by rw [m]; decide), hlf_0 l h, psh_o (Or.inl rfl)]
end PM
/-- the nodes of a span, by the reference -/
def cmI (k : Nat) (q f l : Int) : List Nat := if l < q then [] else cnm k q.toNat f.toNat l.toNat
theorem cmI_e {k : Nat} {q f l : Int} (h : l < q) : cmI k q f l = [] := if_pos h
theorem cmI_c {k : Nat} {q f l : Int} (h : ¬ l < q) (h0 : 0 ≤ q) (h63 : l ≤ 63) : cmI (k + 1) q f l = wdm 7 (64 + q.toNat) f.toNat l.toNat :: cmI k ((laN (wdm 7 (64 + q.toNat) f.toNat l.toNat) + 1 : Nat) : Int) f l := by
  unfold cmI
  rw [if_neg h, cnm_c (by omega)]
  split
  · rw [cnm_e (Or.inr (by omega))]
  · rfl
theorem cns_cm {R : Nat → Nat → Int32} (hR : ∀ t, 0 ≤ (R 4 t).toInt ∧ (R 4 t).toInt ≤ 63) (hR5 : ∀ t, (R 5 t).toInt ≤ 63) {n : Nat} : cns R n = cmI 64 (R 4 n).toInt (R 4 n).toInt (R 5 n).toInt := by
  rcases cns_c hR hR5 n with ⟨a, b⟩ | ⟨a, b, c, d⟩
  · rw [a, cmI_e b]
  · rw [c]; unfold cmI; rw [if_neg (by omega)]
theorem nI_toN {x : Int32} (h : 0 ≤ x.toInt) : nI x.toInt.toNat = x := by
  apply Int32.toInt_inj.mp
  have r := ti_rng x
  rw [nI_toInt (by omega)]; omega
