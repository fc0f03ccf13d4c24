/-! what is told of the cheapest: C q is the cheapest one for q, or -1 -/
def mC (g : Nat → Nat → Int32) (q : Nat) : Int32 := mch g (nI q)
theorem cB_mo {p : Nat → Bool} {i : Nat} : ∀ k, cB p i ≤ cB p (i + k)
  | 0 => Nat.le_refl _
  | k + 1 => by
    have h := cB_mo (p := p) (i := i) k
    rw [← Nat.add_assoc, cB]; omega
theorem cB_lt {p : Nat → Bool} {i j : Nat} (h : i < j) (hp : p i = true) : cB p i < cB p j := by
  have q := cB_mo (p := p) (i := i + 1) (j - (i + 1))
  rw [show i + 1 + (j - (i + 1)) = j by omega, cB_y hp] at q
  omega
theorem cB_iv {p : Nat → Bool} : ∀ n k, k < cB p n → ∃ q, q < n ∧ p q = true ∧ cB p q = k
  | 0, k, h => absurd h (Nat.not_lt_zero _)
  | n + 1, k, h => by
    by_cases c : p n = true
    · rw [cB_y c] at h
      rcases (show k < cB p n ∨ cB p n = k by omega) with z | z
      · obtain ⟨q, a, b, d⟩ := cB_iv n k z
        exact ⟨q, by omega, b, d⟩
      · exact ⟨n, by omega, c, z⟩
    · rw [cB_n c] at h
      obtain ⟨q, a, b, d⟩ := cB_iv n k h
      exact ⟨q, by omega, b, d⟩
theorem cB_z {p : Nat → Bool} : ∀ n, (∀ i, i < n → ¬ p i = true) → cB p n = 0
  | 0, _ => rfl
  | n + 1, h => by rw [cB_n (h n (by omega))]; exact cB_z n (fun i hi => h i (by omega))
theorem cB_t {p : Nat → Bool} {i : Nat} : ∀ k, (∀ j, i ≤ j → j < i + k → ¬ p j = true) → cB p (i + k) = cB p i
  | 0, _ => rfl
  | k + 1, h => by
    rw [← Nat.add_assoc, cB_n (h (i + k) (by omega) (by omega))]
    exact cB_t k (fun j a b => h j a (by omega))
theorem cB_all {p : Nat → Bool} : ∀ n, (∀ i, i < n → p i = true) → cB p n = n
  | 0, _ => rfl
  | n + 1, h => by rw [cB_y (h n (by omega)), cB_all n (fun i hi => h i (by omega))]
theorem cB_not {p p2 : Nat → Bool} {n : Nat} : ∀ k, (∀ i, n ≤ i → i < n + k → (p i = true ↔ ¬ p2 i = true)) → cB p n + cB p2 n = 0 → cB p (n + k) + cB p2 (n + k) = k
  | 0, _, h0 => h0
  | k + 1, h, h0 => by
    have ih := cB_not k (fun i a b => h i a (by omega)) h0
    rw [← Nat.add_assoc]
    by_cases c : p (n + k) = true
    · rw [cB_y c, cB_n ((h (n + k) (by omega) (by omega)).mp c)]; omega
    · have c2 : p2 (n + k) = true := Classical.byContradiction (fun z => c ((h (n + k) (by omega) (by omega)).mpr z))
      rw [cB_n c, cB_y c2]; omega
/-- a piece begins at q -/
def fpB (C : Nat → Int32) (q : Nat) : Bool := decide (¬ C q = -1 ∧ (q = 0 ∨ ¬ C (q - 1) = C q))
theorem fp_y {C : Nat → Int32} {q : Nat} (h : ¬ C q = -1) (h2 : q = 0 ∨ ¬ C (q - 1) = C q) : fpB C q = true := decide_eq_true ⟨h, h2⟩
theorem fp_n {C : Nat → Int32} {q : Nat} (h : C q = -1 ∨ (¬ q = 0 ∧ C (q - 1) = C q)) : fpB C q = false := decide_eq_false (fun z => by
  rcases h with h | h
  · exact z.1 h
  · rcases z.2 with y | y
    · exact h.1 y
    · exact y h.2)
theorem fp_cg {C C2 : Nat → Int32} (h : ∀ q, q < 64 → C q = C2 q) {q : Nat} (hq : q < 64) : fpB C q = fpB C2 q := by
  unfold fpB; rw [h q hq, h (q - 1) (by omega)]
/-- the first one of piece k -/
def pcP (C : Nat → Int32) (k q : Nat) : Prop := q < 64 ∧ fpB C q = true ∧ cB (fpB C) q = k
theorem pcP_one {C : Nat → Int32} {k q q2 : Nat} (h : pcP C k q) (h2 : pcP C k q2) : q = q2 := by
  obtain ⟨a, b, c⟩ := h
  obtain ⟨a2, b2, c2⟩ := h2
  rcases (show q < q2 ∨ q2 < q ∨ q = q2 by omega) with z | z | z
  · have y := cB_lt z b; omega
  · have y := cB_lt z b2; omega
  · exact z
theorem pcP_cg {C C2 : Nat → Int32} (h : ∀ q, q < 64 → C q = C2 q) {k q : Nat} (p : pcP C k q) : pcP C2 k q := by
  obtain ⟨a, b, c⟩ := p
  exact ⟨a, by rw [← fp_cg h a]; exact b, by rw [← cB_cg q (fun i hi => fp_cg h (by omega))]; exact c⟩
/-- the last one of the piece that begins at q -/
def laP (C : Nat → Int32) (q r : Nat) : Prop := q ≤ r ∧ r ≤ 63 ∧ (∀ j, q ≤ j → j ≤ r → C j = C q) ∧ (r = 63 ∨ ¬ C (r + 1) = C q)
theorem laP_one {C : Nat → Int32} {q r r2 : Nat} (h : laP C q r) (h2 : laP C q r2) : r = r2 := by
  obtain ⟨a, b, c, d⟩ := h
  obtain ⟨a2, b2, c2, d2⟩ := h2
  rcases (show r < r2 ∨ r2 < r ∨ r = r2 by omega) with z | z | z
  · rcases d with y | y
    · omega
    · exact absurd (c2 (r + 1) (by omega) (by omega)) y
  · rcases d2 with y | y
    · omega
    · exact absurd (c (r2 + 1) (by omega) (by omega)) y
  · exact z
theorem laP_cg {C C2 : Nat → Int32} (h : ∀ q, q < 64 → C q = C2 q) {q r : Nat} (p : laP C q r) : laP C2 q r := by
  obtain ⟨a, b, c, d⟩ := p
  refine ⟨a, b, fun j h1 h2 => by rw [← h j (by omega), ← h q (by omega)]; exact c j h1 h2, ?_⟩
  rcases (show r = 63 ∨ r < 63 by omega) with z | z
  · exact Or.inl z
  · rcases d with y | y
    · exact Or.inl y
    · right; rw [← h (r + 1) (by omega), ← h q (by omega)]; exact y
/-- the least of the lowest prices P from lo up to hi -/
def isG (C : Nat → Int32) (P : Nat → Int) (lo hi : Nat) (r : Int32) : Prop := (r = -1 ∧ ∀ q, lo ≤ q → q < hi → C q = -1) ∨ (∃ b, (lo ≤ b ∧ b < hi) ∧ r = nI b ∧ ¬ C b = -1 ∧ ∀ q, lo ≤ q → q < hi → ¬ C q = -1 → P b < P q ∨ (P b = P q ∧ b ≤ q))
theorem isG_one {C : Nat → Int32} {P : Nat → Int} {lo hi : Nat} {r r2 : Int32} (h : isG C P lo hi r) (h2 : isG C P lo hi r2) : r = r2 := by
  rcases h with ⟨a, b⟩ | ⟨x, a, b, c, d⟩ <;> rcases h2 with ⟨a2, b2⟩ | ⟨x2, a2, b2, c2, d2⟩
  · rw [a, a2]
  · exact absurd (b x2 a2.1 a2.2) c2
  · exact absurd (b2 x a.1 a.2) c
  · have y := d x2 a2.1 a2.2 c2
    have z := d2 x a.1 a.2 c
    rw [b, b2, show x = x2 by omega]
theorem isG_cg {C C2 : Nat → Int32} {P P2 : Nat → Int} {lo hi : Nat} {r : Int32} (hh : hi ≤ 64) (h : ∀ q, q < 64 → C q = C2 q) (hP : ∀ q, q < 64 → ¬ C q = -1 → P q = P2 q) (g : isG C P lo hi r) : isG C2 P2 lo hi r := by
  rcases g with ⟨a, b⟩ | ⟨x, a, b, c, d⟩
  · exact Or.inl ⟨a, fun q h1 h2 => by rw [← h q (by omega)]; exact b q h1 h2⟩
  · refine Or.inr ⟨x, a, b, by rw [← h x (by omega)]; exact c, fun q h1 h2 h3 => ?_⟩
    rw [← h q (by omega)] at h3
    have y := d q h1 h2 h3
    rw [hP x (by omega) c, hP q (by omega) h3] at y
    exact y
section GS
variable {C : Nat → Int32} {P : Nat → Int} {lo hi : Nat} {r : Int32}
theorem isG_0 : isG C P lo lo (-1) := Or.inl ⟨rfl, fun q a b => by omega⟩
/-- one more at the end -/
theorem isG_n (g : isG C P lo hi r) (h : C hi = -1) : isG C P lo (hi + 1) r := by
  rcases g with ⟨a, b⟩ | ⟨x, a, b, c, d⟩
  · refine Or.inl ⟨a, fun q h1 h2 => ?_⟩
    rcases (show q < hi ∨ q = hi by omega) with z | z
    · exact b q h1 z
    · rw [z]; exact h
  · refine Or.inr ⟨x, ⟨a.1, by omega⟩, b, c, fun q h1 h2 h3 => ?_⟩
    rcases (show q < hi ∨ q = hi by omega) with z | z
    · exact d q h1 z h3
    · rw [z] at h3; exact absurd h h3
theorem isG_y (g : isG C P lo hi r) (hl : lo ≤ hi) (h : ¬ C hi = -1) (h2 : r = -1 ∨ ∃ b, r = nI b ∧ b < 2 ^ 31 ∧ P hi < P b) (hh : hi < 2 ^ 31) : isG C P lo (hi + 1) (nI hi) := by
  refine Or.inr ⟨hi, ⟨hl, by omega⟩, rfl, h, fun q h1 h3 h4 => ?_⟩
  rcases (show q < hi ∨ q = hi by omega) with z | z
  · rcases g with ⟨a, b⟩ | ⟨x, a, b, c, d⟩
    · exact absurd (b q h1 z) h4
    · rcases h2 with y | ⟨y, y1, y3, y2⟩
      · rw [b] at y; exact absurd y (nI_ne (by omega))
      · rw [b] at y1
        have e := nI_inj (by omega) y3 y1
        subst e
        have w := d q h1 z h4; omega
  · subst z; omega
theorem isG_k {b : Nat} (g : isG C P lo hi r) (hr : r = nI b) (hb : b < 2 ^ 31) (h2 : ¬ P hi < P b) (hh : hi < 2 ^ 31) : isG C P lo (hi + 1) r := by
  rcases g with ⟨a, q⟩ | ⟨x, a, q, c, d⟩
  · rw [hr] at a; exact absurd a (nI_ne hb)
  · rw [hr] at q
    have e := nI_inj hb (by omega) q
    subst e
    refine Or.inr ⟨b, ⟨a.1, by omega⟩, hr, c, fun q h1 h3 h4 => ?_⟩
    rcases (show q < hi ∨ q = hi by omega) with z | z
    · exact d q h1 z h4
    · subst z; omega
/-- one more at the beginning -/
theorem isG_dn (g : isG C P (lo + 1) hi r) (h : C lo = -1) : isG C P lo hi r := by
  rcases g with ⟨a, b⟩ | ⟨x, a, b, c, d⟩
  · refine Or.inl ⟨a, fun q h1 h2 => ?_⟩
    rcases (show lo + 1 ≤ q ∨ q = lo by omega) with z | z
    · exact b q z h2
    · rw [z]; exact h
  · refine Or.inr ⟨x, ⟨by omega, a.2⟩, b, c, fun q h1 h2 h3 => ?_⟩
    rcases (show lo + 1 ≤ q ∨ q = lo by omega) with z | z
    · exact d q z h2 h3
    · rw [z] at h3; exact absurd h h3
theorem isG_dy (g : isG C P (lo + 1) hi r) (hl : lo < hi) (h : ¬ C lo = -1) (h2 : r = -1 ∨ ∃ b, r = nI b ∧ b < 2 ^ 31 ∧ P lo ≤ P b) (hh : hi < 2 ^ 31) : isG C P lo hi (nI lo) := by
  refine Or.inr ⟨lo, ⟨by omega, hl⟩, rfl, h, fun q h1 h3 h4 => ?_⟩
  rcases (show lo + 1 ≤ q ∨ q = lo by omega) with z | z
  · rcases g with ⟨a, b⟩ | ⟨x, a, b, c, d⟩
    · exact absurd (b q z h3) h4
    · rcases h2 with y | ⟨y, y1, y3, y2⟩
      · rw [b] at y; exact absurd y (nI_ne (by omega))
      · rw [b] at y1
        have e := nI_inj (by omega) y3 y1
        subst e
        have w := d q z h3 h4; omega
  · subst z; omega
theorem isG_dk {b : Nat} (g : isG C P (lo + 1) hi r) (hr : r = nI b) (hb : b < 2 ^ 31) (h2 : ¬ P lo ≤ P b) (hh : hi < 2 ^ 31) : isG C P lo hi r := by
  rcases g with ⟨a, q⟩ | ⟨x, a, q, c, d⟩
  · rw [hr] at a; exact absurd a (nI_ne hb)
  · rw [hr] at q
    have e := nI_inj hb (by omega) q
    subst e
    refine Or.inr ⟨b, ⟨by omega, a.2⟩, hr, c, fun q h1 h3 h4 => ?_⟩
    rcases (show lo + 1 ≤ q ∨ q = lo by omega) with z | z
    · exact d q z h3 h4
    · subst z; omega
end GS
/-- the price of the cheapest -/
def prC (R : Nat → Nat → Int32) (C : Nat → Int32) (q : Nat) : Int := (mpr R (C q).toNatClampNeg (nI q)).toInt
def csF (R : Nat → Nat → Int32) (C : Nat → Int32) (q : Nat) : Int64 := if C q = -1 then -1 else 3000000000 + mpr R (C q).toNatClampNeg (nI q)
theorem mp_rng {k r b f : Int32} (hf : 0 ≤ f.toInt ∧ f.toInt ≤ 63) {q : Nat} (hq : q < 64) : -1000000000000 ≤ (mpF k r b f (nI q)).toInt ∧ (mpF k r b f (nI q)).toInt ≤ 1000000000000 := by
  obtain ⟨A, B, h⟩ := oft_lin (k := k) hf
  obtain ⟨h1, h2⟩ := h q hq
  have ab := ab_rng k b
  have rg := ti_rng r
  unfold mpF
  rw [l_mul h2 ab]
  have m1 : ((oftF k f (nI q)).toInt * r.toInt).natAbs ≤ 128 * 2147483648 := by
    rw [Int.natAbs_mul]; exact Nat.mul_le_mul (by omega) (by omega)
  generalize (oftF k f (nI q)).toInt * r.toInt = z at m1
  omega
theorem cs_i {R : Nat → Nat → Int32} (hR : ∀ t, 0 ≤ (R 4 t).toInt ∧ (R 4 t).toInt ≤ 63) {C : Nat → Int32} {q : Nat} (hq : q < 64) (h : ¬ C q = -1) : (csF R C q).toInt = 3000000000 + prC R C q := by
  unfold csF prC
  rw [if_neg h, Int64.toInt_add, show (3000000000 : Int64).toInt = 3000000000 by decide]
  have r := mp_rng (k := R 1 (C q).toNatClampNeg) (r := R 2 (C q).toNatClampNeg) (b := R 3 (C q).toNatClampNeg) (hR (C q).toNatClampNeg) hq
  unfold mpr
  exact Int.bmod_eq_of_le (by omega) (by omega)
/-- all of the first n -/
def okK (f : Nat → Bool) : Nat → Bool
  | 0 => true
  | n + 1 => okK f n && f n
theorem okK_y {f : Nat → Bool} {n : Nat} (h : okK f n = true) (h2 : f n = true) : okK f (n + 1) = true := by rw [okK, h, h2]; rfl
theorem okK_f {f : Nat → Bool} {n : Nat} (h : okK f n = false) : okK f (n + 1) = false := by rw [okK, h]; rfl
theorem okK_n {f : Nat → Bool} {n : Nat} (h2 : f n = false) : okK f (n + 1) = false := by rw [okK, h2, Bool.and_false]
theorem okK_no {f : Nat → Bool} {i : Nat} (h : f i = false) : ∀ k, okK f (i + 1 + k) = false
  | 0 => okK_n h
  | k + 1 => okK_f (okK_no h k)
theorem okK_cg {f f2 : Nat → Bool} : ∀ n, (∀ i, i < n → f i = f2 i) → okK f n = okK f2 n
  | 0, _ => rfl
  | n + 1, h => by rw [okK, okK, h n (by omega), okK_cg n (fun i hi => h i (by omega))]
/-- what is seen of t at i is so, if t is of kind k -/
def snB (R : Nat → Nat → Int32) (sn sq sp : Nat → Int32) (t : Nat) (k : Int32) (i : Nat) : Bool := !(decide (sn i = nI t)) || decide (mpF k (R 2 t) (R 3 t) (R 4 t) (sq i) = (sp i).toInt64)
def sbF (p : Nat → Bool) : Nat → Int32
  | 0 => 0
  | k + 1 => if p k = true then sbF p k ||| ((1 : Int32) <<< (nI k &&& 31)) else sbF p k
theorem sbF_y {p : Nat → Bool} {k : Nat} (h : p k = true) : sbF p (k + 1) = sbF p k ||| ((1 : Int32) <<< (nI k &&& 31)) := by rw [sbF, if_pos h]
theorem sbF_n {p : Nat → Bool} {k : Nat} (h : p k = false) : sbF p (k + 1) = sbF p k := by rw [sbF, if_neg (by rw [h]; decide)]
theorem sbF_cg {p p2 : Nat → Bool} : ∀ n, (∀ i, i < n → p i = p2 i) → sbF p n = sbF p2 n
  | 0, _ => rfl
  | n + 1, h => by rw [sbF, sbF, h n (by omega), sbF_cg n (fun i hi => h i (by omega))]
/-- SORTS of t -/
def srF (R : Nat → Nat → Int32) (sn sq sp : Nat → Int32) (m t : Nat) : Int32 := sbF (fun k => okK (snB R sn sq sp t (nI k)) m) 5
def inB (b : Int32) (k : Nat) : Bool := decide ((b >>> (nI k &&& 31)) &&& 1 = 1)
/-- of the sorts b, those that cost the same as kind k, up to n -/
def alB (b : Int32) (w : Nat → Int64) (k e : Nat) : Bool := inB b e && decide (w e = w k)
def lwF (b : Int32) (w : Nat → Int64) : Nat → Nat
  | 0 => 0
  | k + 1 => if inB b k = true then max (lwF b w k) (cB (alB b w k) (k + 1)) else lwF b w k
def wsF (b : Int32) (w : Nat → Int64) : Nat → Nat
  | 0 => 0
  | k + 1 => max (wsF b w k) (if inB b k = true then cB (alB b w k) 5 else 0)
theorem lw_le {b : Int32} {w : Nat → Int64} : ∀ k, k ≤ 5 → lwF b w k ≤ wsF b w k
  | 0, _ => Nat.le_refl 0
  | k + 1, hk => by
    have ih := lw_le (b := b) (w := w) k (by omega)
    rw [lwF, wsF]
    by_cases c : inB b k = true
    · rw [if_pos c, if_pos c]
      have q := cB_mo (p := alB b w k) (i := k + 1) (5 - (k + 1))
      rw [show k + 1 + (5 - (k + 1)) = 5 by omega] at q
      omega
    · rw [if_neg c, if_neg c]; omega
theorem lw_mo {b : Int32} {w : Nat → Int64} {i : Nat} : ∀ k, lwF b w i ≤ lwF b w (i + k)
  | 0 => Nat.le_refl _
  | k + 1 => by
    have ih := lw_mo (b := b) (w := w) (i := i) k
    rw [← Nat.add_assoc, lwF]; split <;> omega
theorem last_of {p : Nat → Bool} {n k : Nat} (hk : k < n) (h : p k = true) : ∃ j, j < n ∧ p j = true ∧ ∀ i, j < i → i < n → ¬ p i = true := by
  induction n with
  | zero => exact absurd hk (Nat.not_lt_zero _)
  | succ n ih =>
    by_cases c : p n = true
    · exact ⟨n, by omega, c, fun i a b => by omega⟩
    · have hk2 : k < n := by
        rcases (show k < n ∨ k = n by omega) with z | z
        · exact z
        · subst z; exact absurd h c
      obtain ⟨j, a, d, e⟩ := ih hk2
      refine ⟨j, by omega, d, fun i h1 h2 => ?_⟩
      rcases (show i < n ∨ i = n by omega) with z | z
      · exact e i h1 z
      · rw [z]; exact c
theorem ws_le {b : Int32} {w : Nat → Int64} : ∀ k, k ≤ 5 → wsF b w k ≤ lwF b w 5
  | 0, _ => Nat.zero_le _
  | k + 1, hk => by
    have ih := ws_le (b := b) (w := w) k (by omega)
    rw [wsF]
    by_cases c : inB b k = true
    · rw [if_pos c]
      have hp : alB b w k k = true := by unfold alB; rw [c, decide_eq_true rfl]; rfl
      obtain ⟨j, j1, j2, j3⟩ := last_of (n := 5) (by omega) hp
      have jb : inB b j = true ∧ w j = w k := by
        unfold alB at j2; rw [Bool.and_eq_true, decide_eq_true_eq] at j2; exact j2
      have e1 : cB (alB b w k) 5 = cB (alB b w k) (j + 1) := by
        have q := cB_t (p := alB b w k) (i := j + 1) (5 - (j + 1)) (fun i a d => j3 i (by omega) (by omega))
        rw [show j + 1 + (5 - (j + 1)) = 5 by omega] at q; exact q
      have e2 : alB b w k = alB b w j := by funext e; unfold alB; rw [jb.2]
      have m := lw_mo (b := b) (w := w) (i := j + 1) (5 - (j + 1))
      rw [show j + 1 + (5 - (j + 1)) = 5 by omega, lwF, if_pos jb.1] at m
      rw [e1, e2]; omega
    · rw [if_neg c]; omega
theorem lw_ws {b : Int32} {w : Nat → Int64} : lwF b w 5 = wsF b w 5 := Nat.le_antisymm (lw_le 5 (by omega)) (ws_le 5 (by omega))
theorem lw_5 {b : Int32} {w : Nat → Int64} : ∀ k, k ≤ 5 → lwF b w k ≤ k
  | 0, _ => Nat.le_refl 0
  | k + 1, hk => by
    have ih := lw_5 (b := b) (w := w) k (by omega)
    have q := cB_le (alB b w k) (k + 1)
    rw [lwF]; split <;> omega
/-- what is asked next: the best one so far, and what it leaves -/
def akL (W : Nat → Nat) (f i0 : Nat) : Nat → Int32 × Nat
  | 0 => (-1, i0)
  | n + 1 => if W (f + n) < (akL W f i0 n).2 then (nI (f + n), W (f + n)) else akL W f i0 n
theorem ak_y {W : Nat → Nat} {f i0 n : Nat} (h : W (f + n) < (akL W f i0 n).2) : akL W f i0 (n + 1) = (nI (f + n), W (f + n)) := by rw [akL, if_pos h]
theorem ak_n {W : Nat → Nat} {f i0 n : Nat} (h : ¬ W (f + n) < (akL W f i0 n).2) : akL W f i0 (n + 1) = akL W f i0 n := by rw [akL, if_neg h]
theorem ak_le {W : Nat → Nat} {f i0 : Nat} : ∀ n, (akL W f i0 n).2 ≤ i0
  | 0 => Nat.le_refl _
  | n + 1 => by
    have ih := ak_le (W := W) (f := f) (i0 := i0) n
    by_cases c : W (f + n) < (akL W f i0 n).2
    · rw [ak_y c]; show W (f + n) ≤ i0; omega
    · rw [ak_n c]; exact ih
theorem ak_eq {W : Nat → Nat} {f a b : Nat} (hW : ∀ q, W q < a ∧ W q < b) : ∀ n, akL W f a (n + 1) = akL W f b (n + 1)
  | 0 => by rw [ak_y (show W (f + 0) < (akL W f a 0).2 from (hW _).1), ak_y (show W (f + 0) < (akL W f b 0).2 from (hW _).2)]
  | n + 1 => by
    have ih := ak_eq (f := f) hW n
    by_cases c : W (f + (n + 1)) < (akL W f a (n + 1)).2
    · rw [ak_y c, ak_y (n := n + 1) (i0 := b) (by rw [← ih]; exact c)]
    · rw [ak_n c, ak_n (n := n + 1) (i0 := b) (by rw [← ih]; exact c), ih]
theorem ak_1 {W : Nat → Nat} {f a b : Nat} (hW : ∀ q, W q < a ∧ W q < b) (n : Nat) : (akL W f a n).1 = (akL W f b n).1 := by
  cases n with
  | zero => rfl
  | succ n => rw [ak_eq hW n]
theorem ak_cg {W W2 : Nat → Nat} {f i0 : Nat} : ∀ n, (∀ i, i < n → W (f + i) = W2 (f + i)) → akL W f i0 n = akL W2 f i0 n
  | 0, _ => rfl
  | n + 1, h => by rw [akL, akL, h n (by omega), ak_cg n (fun i hi => h i (by omega))]
/-- prices of t by kinds, for q -/
def pkF (R : Nat → Nat → Int32) (t q : Nat) (k : Nat) : Int64 := mpF (nI k) (R 2 t) (R 3 t) (R 4 t) (nI q)
/-- ASK for t, b its sorts -/
def asF (R : Nat → Nat → Int32) (b : Int32) (t : Nat) : Int32 := if b = 0 then -1 else (akL (fun q => lwF b (pkF R t q) 5) (R 4 t).toInt.toNat 6 ((R 5 t).toInt + 1 - (R 4 t).toInt).toNat).1
/-- the next seed; a draw -/
def nxS (s : Nat) : Nat := (1103515245 * s + 12345) % 2147483648
def dvN (s d : Nat) : Nat := nxS s / 65536 % d
def nx2 (s : Nat) : Nat := nxS (nxS s)
def nx3 (s : Nat) : Nat := nxS (nx2 s)
def nx4 (s : Nat) : Nat := nxS (nx3 s)
def nx5 (s : Nat) : Nat := nxS (nx4 s)
theorem nxS_lt (s : Nat) : nxS s < 2147483648 := Nat.mod_lt _ (by decide)
/-- a tariff by its seed -/
def dwF (s : Nat) : Nat → Int32
  | 0 => nI (dvN s 5)
  | 1 => nI (dvN (nxS s) 19) - 9
  | 2 => nI (dvN (nx2 s) 199) - 99
  | 3 => nI (dvN (nx3 s) 64)
  | _ => nI (dvN (nx3 s) 64) + nI (dvN (nx4 s) (64 - dvN (nx3 s) 64))
def sdN (s : Nat) : Nat → Nat
  | 0 => s
  | k + 1 => nx5 (sdN s k)
theorem sdN_lt {s : Nat} (h : s < 2147483648) : ∀ k, sdN s k < 2147483648
  | 0 => h
  | k + 1 => nxS_lt _
/-- numbers mixed into h -/
def mxL (f : Nat → Int64) (h : Int64) : Nat → Int64
  | 0 => h
  | n + 1 => 31 * mxL f h n + f n
theorem mxL_cg {f f2 : Nat → Int64} {h : Int64} : ∀ n, (∀ i, i < n → f i = f2 i) → mxL f h n = mxL f2 h n
  | 0, _ => rfl
  | n + 1, e => by rw [mxL, mxL, e n (by omega), mxL_cg n (fun i hi => e i (by omega))]
/-- what tariff() tells of t -/
def tvF (R : Nat → Nat → Int32) (S C sn sq sp : Nat → Int32) (m t w : Nat) : Int32 := if w = 0 then R 1 t else if w = 1 then R 4 t else if w = 2 then R 5 t else if w = 3 then nI (cB (ndB S t t) 128) else if w = 4 then nI (cB (qnB C t t) 64) else if w = 5 then srF R sn sq sp m t else asF R (srF R sn sq sp m t) t
section TV
variable {R : Nat → Nat → Int32} {S C sn sq sp : Nat → Int32} {m t : Nat}
theorem tv_0 : tvF R S C sn sq sp m t 0 = R 1 t := rfl
theorem tv_1 : tvF R S C sn sq sp m t 1 = R 4 t := rfl
theorem tv_2 : tvF R S C sn sq sp m t 2 = R 5 t := rfl
theorem tv_3 : tvF R S C sn sq sp m t 3 = nI (cB (ndB S t t) 128) := rfl
theorem tv_4 : tvF R S C sn sq sp m t 4 = nI (cB (qnB C t t) 64) := rfl
theorem tv_5 : tvF R S C sn sq sp m t 5 = srF R sn sq sp m t := by unfold tvF; rw [if_neg (by decide), if_neg (by decide), if_neg (by decide), if_neg (by decide), if_neg (by decide), if_pos (by decide)]
theorem tv_6 : tvF R S C sn sq sp m t 6 = asF R (srF R sn sq sp m t) t := rfl
end TV
theorem TX.lo {R g : Nat → Nat → Int32} {n : Nat} (h : TX R n g) (hn : n ≤ 70) : ∀ q : Nat, q < 64 → g 10 q = -1 ∨ (0 ≤ (g 10 q).toInt ∧ (g 10 q).toInt < 70) := fun q hq => by
  rw [h.2.1 q hq]
  rcases bst_isB (R := R) (q := q) n (by omega) with ⟨z, -⟩ | ⟨t, z1, z2, -⟩
  · exact Or.inl z
  · right; rw [z2, nI_toInt (by omega)]; omega
/-- tariffs that are cheapest for none -/
def idB (C : Nat → Int32) (t : Nat) : Bool := decide (cB (qnB C t t) 64 = 0)
/-- for q a new one of kind k would be cheapest -/
def wdB (R : Nat → Nat → Int32) (C : Nat → Int32) (k r b f l : Int32) (q : Nat) : Bool := decide ((f.toInt ≤ (q : Int) ∧ (q : Int) ≤ l.toInt) ∧ (C q = -1 ∨ (mpF k r b f (nI q)).toInt < prC R C q))
/-- two numbers a step -/
def mx2 (f1 f2 : Nat → Int64) (h : Int64) : Nat → Int64
  | 0 => h
  | n + 1 => 31 * (31 * mx2 f1 f2 h n + f1 n) + f2 n
theorem mx2_cg {f1 f2 e1 e2 : Nat → Int64} {h : Int64} : ∀ n, (∀ i, i < n → f1 i = e1 i ∧ f2 i = e2 i) → mx2 f1 f2 h n = mx2 e1 e2 h n
  | 0, _ => rfl
  | n + 1, e => by rw [mx2, mx2, (e n (by omega)).1, (e n (by omega)).2, mx2_cg n (fun i hi => e i (by omega))]
def mxT (tv : Nat → Nat → Int32) (h : Int64) : Nat → Int64
  | 0 => h
  | t + 1 => mxL (fun w => (tv t w).toInt64) (mxT tv h t) 7
theorem mxT_cg {tv tv2 : Nat → Nat → Int32} {h : Int64} : ∀ n, (∀ t, t < n → ∀ w, w < 7 → tv t w = tv2 t w) → mxT tv h n = mxT tv2 h n
  | 0, _ => rfl
  | n + 1, e => by
    rw [mxT, mxT, mxT_cg n (fun t ht => e t (by omega))]
    exact mxL_cg 7 (fun w hw => by show (tv n w).toInt64 = (tv2 n w).toInt64; rw [e n (by omega) w hw])
/-- the numbers of a desk: of each quantity the cheapest and its cost, of each node what stands, the bargain -/
def mtF (C S : Nat → Int32) (cs : Nat → Int64) (b : Int32) (h : Int64) : Int64 := 31 * mxL (fun v => (S (v + 1)).toInt64) (mx2 (fun q => (C q).toInt64) cs h 64) 127 + b.toInt64
/-- what count() tells, by its eight numbers -/
def cvF (v : Nat → Int32) (x : Int32) : Int32 := if 0 ≤ x.toInt ∧ x.toInt ≤ 7 then v x.toInt.toNat else -102
theorem cv_y {v : Nat → Int32} {x : Int32} {k : Nat} (h : x = nI k) (hk : k ≤ 7) : cvF v x = v k := by
  unfold cvF; rw [h, nI_toInt (by omega), if_pos (by omega)]; rfl
theorem cv_n {v : Nat → Int32} {x : Int32} (h : ¬ (0 ≤ x.toInt ∧ x.toInt ≤ 7)) : cvF v x = -102 := if_neg h
def cvX (g : Nat → Nat → Int32) : Nat → Int32
  | 0 => g 3 1
  | 1 => nI (cB (ndB (g 6) 0 ((g 3 1).toInt - 1)) 128)
  | 2 => nI (cB (fpB (g 10)) 64)
  | 3 => if g 0 8 = 0 then 0 else nI (cB (qnB (g 10) (-1) (-1)) 64)
  | 4 => nI (cB (idB (g 10)) (g 3 1).toInt.toNat)
  | 5 => g 11 4
  | 6 => g 1 1
  | _ => g 0 10
def cvM (g : Nat → Nat → Int32) : Nat → Int32
  | 0 => g 31 0
  | 1 => if g 30 0 = 0 then 0 else nI (127 - cB (ndB (g 6) (-1) (-1)) 128)
  | 2 => if 0 < (g 30 0).toInt then nI (cB (fpB (mC g)) 64) else 0
  | 3 => if 0 < (g 30 0).toInt then nI (cB (qnB (mC g) (-1) (-1)) 64) else 0
  | 4 => nI (cB (idB (mC g)) (g 31 0).toInt.toNat)
  | 5 => g 38 0
  | 6 => g 42 0
  | _ => g 30 0
/-- rows that the tree doesn't read may change -/
theorem TX_ch {R g g1 : Nat → Nat → Int32} {n : Nat} {S : List Nat} (h : TX R n g) (f : Fr S g g1) (hs : ∀ i, i ∈ [5, 6, 7, 8, 9, 10] → i ∉ S) : TX R n g1 := by
  unfold TX LG cbx
  rw [f 5 (hs 5 (by decide)), f 6 (hs 6 (by decide)), f 7 (hs 7 (by decide)), f 8 (hs 8 (by decide)), f 9 (hs 9 (by decide)), f 10 (hs 10 (by decide))]
  exact h
theorem TR_rows {g g1 : Nat → Nat → Int32} {n m : Nat} (h : Eq1 (g 6) (TR g n)) (e : m = n) (hn : n ≤ 70) (hr : ∀ t : Nat, (t : Int) < n → ∀ k, k < 5 → g (k + 1) t = g1 (k + 1) t) : Eq1 (g 6) (TR g1 m) := by
  subst e
  rw [← TR_cr m (by omega) hr]; exact h
/-- one tariff more -/
theorem TR_take {g u : Nat → Nat → Int32} {n m : Nat} {x : Int32} (hn : n < 70) (h0 : True ∨ n = n) (e : m = n + 1) (hx : x = nI n) (hr : Rw g u n) (h6 : u 6 = ofr u (g 6) (cns u n) x) (h : Eq1 (g 6) (TR g n)) : Eq1 (u 6) (TR u m) := by
  subst e; subst hx
  rw [h6, TR, ← TR_cr n (by omega) hr]
  exact (ofr_cs u _ _ _ _ h).1
theorem ofr_z {R : Nat → Nat → Int32} {t : Int32} : ∀ (vs : List Nat) (S : Nat → Int32), ofr R S vs t 0 = S 0
  | [], _ => rfl
  | v :: vs, S => by
    rw [ofr, ofr_z vs]
    exact Classical.byContradiction (fun h => by have q := (psh_fr R 0 7 S v t h).1; omega)
