/-! the log of changes -/
def pbk (S : Nat → Int32) (c b : Int32) : Nat → Int32 := if 1 ≤ c.toInt ∧ c.toInt ≤ 127 then upd S c.toNatClampNeg b else S
def und (cn sb : Nat → Int32) (lo : Nat) : Nat → (Nat → Int32) → Nat → Int32
  | 0, S => S
  | k + 1, S => und cn sb lo k (pbk S (cn (lo + k)) (sb (lo + k)))
theorem und_cg {cn sb cn2 sb2 : Nat → Int32} {lo : Nat} : ∀ (k : Nat) (S : Nat → Int32), (∀ i, i < lo + k → cn2 i = cn i ∧ sb2 i = sb i) → und cn2 sb2 lo k S = und cn sb lo k S
  | 0, _, _ => rfl
  | k + 1, S, h => by
    rw [und, und, (h (lo + k) (by omega)).1, (h (lo + k) (by omega)).2]
    exact und_cg k _ (fun i hi => h i (by omega))
theorem pbk_cs {S S2 : Nat → Int32} {c b : Int32} (h : Eq1 S S2) : Eq1 (pbk S c b) (pbk S2 c b) := by
  unfold pbk; split
  · exact h.up _ _
  · exact h
theorem und_cs {cn sb : Nat → Int32} {lo : Nat} : ∀ (k : Nat) (S S2 : Nat → Int32), Eq1 S S2 → Eq1 (und cn sb lo k S) (und cn sb lo k S2)
  | 0, _, _, h => h
  | k + 1, S, S2, h => by
    rw [und, und]; exact und_cs k _ _ (pbk_cs h)
theorem upd_back {S : Nat → Int32} {v : Nat} {t : Int32} : upd (upd S v t) v (S v) = S := by
  funext w
  by_cases e : w = v
  · subst e; rw [pk_us]
  · rw [pk_un e, pk_un e]
theorem und_put {cn sb S S0 : Nat → Int32} {lo k v : Nat} {t x : Int32} (hv : 1 ≤ v ∧ v ≤ 127) (hx : x.toInt = v) (h : und cn sb lo k S = S0) : und (upd cn (lo + k) x) (upd sb (lo + k) (S v)) lo (k + 1) (upd S v t) = S0 := by
  rw [und, pk_us, pk_us]
  have e : pbk (upd S v t) x (S v) = S := by
    unfold pbk; rw [if_pos (by omega), ti_clamp hx]; exact upd_back
  rw [e, und_cg (cn := cn) (sb := sb) k S (fun i hi => ⟨pk_un (by omega), pk_un (by omega)⟩)]
  exact h
/-- put: at node x1 stands x2 then; what was changed is laid into the log -/
def putG (g : Nat → Nat → Int32) (x1 x2 : Int32) : Nat → Nat → Int32 := upR (up2 (upR (upR g 7 (upd (g 7) (g 5 5).toNatClampNeg x1)) 8 (upd (g 8) (g 5 5).toNatClampNeg (g 6 x1.toNatClampNeg))) 5 5 (g 5 5 + 1)) 6 (upd (g 6) x1.toNatClampNeg x2)
section PG
variable {g : Nat → Nat → Int32} {x1 x2 : Int32}
theorem putG_6 : putG g x1 x2 6 = upd (g 6) x1.toNatClampNeg x2 := rfl
theorem putG_7 : putG g x1 x2 7 = upd (g 7) (g 5 5).toNatClampNeg x1 := rfl
theorem putG_8 : putG g x1 x2 8 = upd (g 8) (g 5 5).toNatClampNeg (g 6 x1.toNatClampNeg) := rfl
theorem putG_5 : putG g x1 x2 5 5 = g 5 5 + 1 := rfl
end PG
/-- what holds while a tariff is pushed: v: the node, t: the one that moves, f: the levels that are left -/
def PI (R g g1 : Nat → Nat → Int32) (top : Nat) (t0 : Int32) (f v : Nat) (t : Int32) : Prop :=
  psh R f (g1 6) v t = psh R 7 (g 6) top t0 ∧ (g1 5 5).toInt + pcn R f (g1 6) v t = (g 5 5).toInt + pcn R 7 (g 6) top t0 ∧
  und (g1 7) (g1 8) (g 5 5).toInt.toNat ((g1 5 5).toInt - (g 5 5).toInt).toNat (g1 6) = g 6 ∧ (∀ i, i < (g 5 5).toInt.toNat → g1 7 i = g 7 i ∧ g1 8 i = g 8 i) ∧
  (0 ≤ (g 5 5).toInt ∧ (g 5 5).toInt ≤ (g1 5 5).toInt ∧ (g1 5 5).toInt + hgN v ≤ 2100) ∧ bdS 70 (g1 6) ∧ (0 ≤ t.toInt ∧ t.toInt < 70)
/-- a push, as its log shows it -/
def PE (R g g1 : Nat → Nat → Int32) (top : Nat) (t0 : Int32) : Prop :=
  g1 6 = psh R 7 (g 6) top t0 ∧ (g1 5 5).toInt = (g 5 5).toInt + pcn R 7 (g 6) top t0 ∧
  und (g1 7) (g1 8) (g 5 5).toInt.toNat (pcn R 7 (g 6) top t0) (g1 6) = g 6 ∧ (∀ i, i < (g 5 5).toInt.toNat → g1 7 i = g 7 i ∧ g1 8 i = g 8 i)
section PIS
variable {R g g1 : Nat → Nat → Int32} {top f v : Nat} {t0 t x : Int32}
theorem PI.rf (hc : 0 ≤ (g 5 5).toInt ∧ (g 5 5).toInt + hgN top ≤ 2100) (hb : bdS 70 (g 6)) (ht : 0 ≤ t0.toInt ∧ t0.toInt < 70) : PI R g g top t0 7 top t0 :=
  ⟨rfl, rfl, by rw [show ((g 5 5).toInt - (g 5 5).toInt).toNat = 0 by omega]; rfl, fun _ _ => ⟨rfl, rfl⟩, ⟨hc.1, Int.le_refl _, hc.2⟩, hb, ht⟩
theorem PI.out (h : PI R g g1 top t0 f v t) (ho : f = 0 ∨ v = 0 ∨ 127 < v) : PE R g g1 top t0 := by
  obtain ⟨h1, h2, h3, h4, h5, -⟩ := h
  have e1 : psh R f (g1 6) v t = g1 6 := by
    rcases ho with ho | ho
    · subst ho; rfl
    · exact psh_o ho
  have e2 : pcn R f (g1 6) v t = 0 := by
    rcases ho with ho | ho
    · subst ho; rfl
    · exact pcn_o ho
  rw [e1] at h1; rw [e2] at h2
  exact ⟨h1, by omega, by rw [show pcn R 7 (g 6) top t0 = ((g1 5 5).toInt - (g 5 5).toInt).toNat by omega]; exact h3, h4⟩
/-- one more put -/
theorem PI.put {f2 v2 : Nat} {t2 : Int32} (h : PI R g g1 top t0 f v t) (hv : 1 ≤ v ∧ v ≤ 127) (hx : x.toInt = v) (e1 : psh R f2 (upd (g1 6) v t) v2 t2 = psh R f (g1 6) v t) (e2 : pcn R f2 (upd (g1 6) v t) v2 t2 + 1 = pcn R f (g1 6) v t) (hh : hgN v2 + 1 ≤ hgN v) (ht2 : 0 ≤ t2.toInt ∧ t2.toInt < 70) : PI R g (putG g1 x t) top t0 f2 v2 t2 := by
  obtain ⟨h1, h2, h3, h4, h5, h6, h7⟩ := h
  have cx : x.toNatClampNeg = v := ti_clamp hx
  have hg := (hg_c hv).2.2
  have n5 : (putG g1 x t 5 5).toInt = (g1 5 5).toInt + 1 := by rw [putG_5]; exact ti_addk rfl (show (1 : Int32).toInt = 1 by decide) (by omega) (by omega) rfl
  have e6 : putG g1 x t 6 = upd (g1 6) v t := by rw [putG_6, cx]
  have ec : (g1 5 5).toNatClampNeg = (g 5 5).toInt.toNat + ((g1 5 5).toInt - (g 5 5).toInt).toNat := by show (g1 5 5).toInt.toNat = _; omega
  refine ⟨by rw [e6, e1]; exact h1, by rw [e6, n5]; omega, ?_, fun i hi => ?_, ⟨h5.1, by omega, by omega⟩, by rw [e6]; exact h6.up h7, ht2⟩
  · rw [e6, putG_7, putG_8, n5, cx, ec, show ((g1 5 5).toInt + 1 - (g 5 5).toInt).toNat = ((g1 5 5).toInt - (g 5 5).toInt).toNat + 1 by omega]
    exact und_put hv hx h3
  · rw [putG_7, putG_8, pk_un (by omega), pk_un (by omega)]; exact h4 i hi
/-- put into an empty node: that's the end -/
theorem PI.e (h : PI R g g1 top t0 (f + 1) v t) (hv : 1 ≤ v ∧ v ≤ 127) (hx : x.toInt = v) (e : g1 6 v = -1) : PE R g (putG g1 x t) top t0 := by
  have z : PI R g (putG g1 x t) top t0 0 0 t := h.put hv hx (by rw [psh_e hv e]; rfl) (by rw [pcn_e hv e]; rfl) (by have q := (hg_c hv).2.2.1; rw [show hgN 0 = 0 from rfl]; omega) h.2.2.2.2.2.2
  exact z.out (Or.inl rfl)
theorem PI.y (h : PI R g g1 top t0 (f + 1) v t) (hv : 1 ≤ v ∧ v ≤ 127) (hx : x.toInt = v) (e : ¬ g1 6 v = -1) (m : mbt R t (g1 6 v) (nI (miN v)) = true) : PI R g (putG g1 x t) top t0 f (hlf R (g1 6 v) t v) (g1 6 v) :=
  h.put hv hx (psh_y hv e m).symm (pcn_y hv e m).symm (hg_h hv) (h.2.2.2.2.2.1 v hv.1 hv.2 e)
theorem PI.n (h : PI R g g1 top t0 (f + 1) v t) (hv : 1 ≤ v ∧ v ≤ 127) (e : ¬ g1 6 v = -1) (m : ¬ mbt R t (g1 6 v) (nI (miN v)) = true) : PI R g g1 top t0 f (hlf R t (g1 6 v) v) t := by
  obtain ⟨h1, h2, h3, h4, h5, h6, h7⟩ := h
  have q := hg_h (R := R) (a := t) (b := g1 6 v) hv
  exact ⟨by rw [← psh_n hv e m]; exact h1, by rw [← pcn_n hv e m]; exact h2, h3, h4, ⟨h5.1, h5.2.1, by omega⟩, h6, h7⟩
end PIS
/-- a tariff is offered, as the log shows it -/
def OE (R g g1 : Nat → Nat → Int32) (vs : List Nat) (t : Int32) : Prop :=
  g1 6 = ofr R (g 6) vs t ∧ (g1 5 5).toInt = (g 5 5).toInt + ofc R (g 6) vs t ∧
  und (g1 7) (g1 8) (g 5 5).toInt.toNat (ofc R (g 6) vs t) (g1 6) = g 6 ∧ (∀ i, i < (g 5 5).toInt.toNat → g1 7 i = g 7 i ∧ g1 8 i = g 8 i)
theorem und_add {cn sb : Nat → Int32} {lo : Nat} (k : Nat) : ∀ (m : Nat) (S : Nat → Int32), und cn sb lo (k + m) S = und cn sb lo k (und cn sb (lo + k) m S)
  | 0, _ => rfl
  | m + 1, S => by
    rw [show k + (m + 1) = (k + m) + 1 from rfl, und, und, und_add k m, Nat.add_assoc]
theorem OE.rf {R g : Nat → Nat → Int32} {t : Int32} : OE R g g [] t := ⟨rfl, by show _ = (g 5 5).toInt + ((0 : Nat) : Int); omega, rfl, fun _ _ => ⟨rfl, rfl⟩⟩
/-- one node more -/
theorem OE.cons {R g g1 g2 : Nat → Nat → Int32} {vs : List Nat} {v : Nat} {t : Int32} (h0 : 0 ≤ (g 5 5).toInt) (p : PE R g g1 v t) (h : OE R g1 g2 vs t) : OE R g g2 (v :: vs) t := by
  obtain ⟨p1, p2, p3, p4⟩ := p
  obtain ⟨o1, o2, o3, o4⟩ := h
  refine ⟨by rw [ofr, o1, p1], by rw [ofc, ← p1]; omega, ?_, fun i hi => ?_⟩
  · rw [ofc, ← p1, und_add, show (g 5 5).toInt.toNat + pcn R 7 (g 6) v t = (g1 5 5).toInt.toNat by omega, o3, und_cg (cn := g1 7) (sb := g1 8) _ _ (fun i hi => o4 i (by omega))]
    exact p3
  · have a := o4 i (by omega)
    have b := p4 i hi
    exact ⟨a.1.trans b.1, a.2.trans b.2⟩
