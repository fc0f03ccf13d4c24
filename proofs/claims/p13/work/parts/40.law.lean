/-! the law: its context, what holds at its loop's head, its cases -/
def LX (s : State) (Z : ZT) (Y : YT) : Prop := XG Z ∧ MG Y ∧ (∀ q, zA Z q → ¬ yA Y q) ∧ (∀ q, zA Z q → s.heap.size ≤ q) ∧ (∀ q, yA Y q → s.heap.size ≤ q) ∧ va_K (zD Z) vwCl (zty Z) s ∧ va_K (yD Y) vwCl (yty Y) s ∧ va_Nw (.methodLinkNest RX5 81 yX6_isQuantity RX6) s ∧ vk_R RX1 31 "tfsbo" (zK Z) s ∧ vk_S 1 [5] [[116, 102, 115, 98, 111]] (fun _ => zK Z) (fun _ => zV Z) (fun q => s.heap.size ≤ q) s s.heap ∧ va_Z "java/lang/String" "COMPACT_STRINGS" "Z" (.int 1) (fun q => s.heap.size ≤ q) s s.heap
theorem LX.xi {s U : State} {Z : ZT} {Y : YT} (h : LX s Z Y) {g : Nat → Nat → Int32} {gl : Nat → Nat → Int64} {tf : Nat → Nat → Int32} {H : Heap} {locs : List Loc} (hS : va_S (fun q => s.heap.size ≤ q) s.heap H locs) (hP : va_P (zD Z) vwCl (xw Z g gl tf) H) (hU : U.heap = H) (hW : s.WarmedH U.vm) : XI Z g gl tf U := by
  obtain ⟨_, _, _, h3, _, h5, _, h7, h8, h9, h10⟩ := h
  refine ⟨by rw [hU]; exact hP, va_K.moved hW.alike h5, va_Nw.warmM hW h7, vk_R.warm hW h8, ?_, ?_⟩
  · rw [hU]
    exact vk_S.narrow (vk_S.moved hW.alike (vk_S.kept h9 (fun a ha hn => hS.2.1 a ha hn))) h3
  · rw [hU]
    exact va_Z.narrow (va_Z.moved hW.alike (va_Z.kept h10 (fun a ha hn => hS.2.1 a ha hn))) h3
theorem LX.mi {s U : State} {Z : ZT} {Y : YT} (h : LX s Z Y) {g : Nat → Nat → Int32} {gl : Nat → Nat → Int64} {H : Heap} (hP : va_P (yD Y) vwCl (mw Y g gl) H) (hU : U.heap = H) (hW : s.WarmedH U.vm) : MI Y g gl U := ⟨by rw [hU]; exact hP, va_K.moved hW.alike h.2.2.2.2.2.2.1⟩
theorem LX.ky {s : State} {Z : ZT} {Y : YT} (h : LX s Z Y) {g : Nat → Nat → Int32} {gl : Nat → Nat → Int64} {H H1 : Heap} (hP : va_P (yD Y) vwCl (mw Y g gl) H) (hk : ∀ q : Nat, q < H.size → ¬ zA Z q → H1[q]? = H[q]?) : va_P (yD Y) vwCl (mw Y g gl) H1 := hP.kept (fun k q hq => hk q.1 (hP k q hq).lt (fun z => h.2.2.1 q.1 z ((h.2.1.D (g := g) (gl := gl)).2 k q hq)))
theorem LX.kx {s : State} {Z : ZT} {Y : YT} (h : LX s Z Y) {g : Nat → Nat → Int32} {gl : Nat → Nat → Int64} {tf : Nat → Nat → Int32} {H H1 : Heap} (hP : va_P (zD Z) vwCl (xw Z g gl tf) H) (hk : ∀ q : Nat, q < H.size → ¬ yA Y q → H1[q]? = H[q]?) : va_P (zD Z) vwCl (xw Z g gl tf) H1 := hP.kept (fun k q hq => hk q.1 (hP k q hq).lt (fun z => h.2.2.1 q.1 ((h.1.D (g := g) (gl := gl) (tf := tf)).2 k q hq) z))
set_option maxHeartbeats 4000000 in
set_option maxRecDepth 100000 in
theorem law_0 {p : Program} {l : Launch} {e : Env} {s : State} {m : MethodId} {below : List Frame} {meth : Method} {c : Code} {b L : Nat} {xs : Nat → Int32} (hL : L ≤ 2560) (C0 : lw_At p s m meth c b L xs) (hTl : ∀ w ∈ wsL_law, w.before #[Value.ref b] s = true) {Z : ZT} {Y : YT} (hX : LX s Z Y) {Q : State → Prop} (i : Nat) (hi : i + 5 ≤ L) (g : Nat → Nat → Int32) (gl : Nat → Nat → Int64) (tf : Nat → Nat → Int32) (h : Nat → Nat → Int32) (hl : Nat → Nat → Int64) (H : Heap) (locs : List Loc) (hPx : va_P (zD Z) vwCl (xw Z g gl tf) H) (hPy : va_P (yD Y) vwCl (mw Y h hl) H) (hS : va_S (fun q => s.heap.size ≤ q) s.heap H locs) (hRp : Rpg g h) (hRt : Rtr Z g tf h) (hRs : Rsn g h) (hRd : Rdk g h i) (hRk : Rkp Z g tf h) (hRx : Rtx Z g tf h) (hRq : Rsq g h) (hJ : MJ h) (h40 : (h 31 0).toInt ≤ 40) (hG : Gd Z tf) (ls : Array Slot) (hlv : lv_has ls 4 [(3, .int (nI i)), (2, .ref (ya Y 0)), (1, .ref (za Z 0)), (0, .ref b)]) (kk : ∀ (g : Nat → Nat → Int32) (gl : Nat → Nat → Int64) (tf : Nat → Nat → Int32) (h : Nat → Nat → Int32) (hl : Nat → Nat → Int64) (H : Heap) (locs : List Loc), (va_P (zD Z) vwCl (xw Z g gl tf) H) → (va_P (yD Y) vwCl (mw Y h hl) H) → (va_S (fun q => s.heap.size ≤ q) s.heap H locs) → (Rpg g h) → (Rtr Z g tf h) → (Rsn g h) → (Rdk g h (i + 5)) → (Rkp Z g tf h) → (Rtx Z g tf h) → (Rsq g h) → (MJ h) → ((h 31 0).toInt ≤ 40) → (Gd Z tf) → W p l e room_1 s m #[Value.ref b] below meth c H locs 155 6181 Q (F0 m 760 ls [])) : W p l e room_1 s m #[Value.ref b] below meth c H locs 155 6181 Q (F0 m 140 ls []) := by
  obtain ⟨hx, hb, hr, hml, hown, hts, hXs, hbl, hlocks, hgv⟩ := C0
  have hT := hTl
  have hbA : ¬ (fun q : Nat => s.heap.size ≤ q) b := Nat.not_le.mpr hbl
  have hsx := hX.2.2.2.1
  have hsy := hX.2.2.2.2.1
  have hKx := hX.2.2.2.2.2.1
  have hKy := hX.2.2.2.2.2.2.1
  refine lv_aload_n hx hb dL_law_140 rfl (lv_at hlv 2 rfl) ?_
  refine lv_aload_n hx hb dL_law_141 rfl (lv_at hlv 3 rfl) ?_
  refine lv_iload_n hx hb dL_law_142 rfl (lv_at hlv 0 rfl) ?_
  refine lv_iconst (v := 1) hx hb dL_law_143 (by decide) ?_
  refine lv_iadd hx hb dL_law_144 ?_
  refine lv_topi (fun v_144 e_144 => ?_)
  have t_144 : v_144 = nI (i + 1) := by rw [e_144]; exact nI_add i 1
  have h_145 : vp_in v_144 L := by rw [t_144]; exact vp_in_nI (by omega) (by omega)
  refine va_sld hx hb hXs hbl hbA hS h_145 dL_law_145 ?_
  refine lv_topi (fun a_145 ea_145 => ?_)
  refine va_calli (va_runV (As := [.int a_145]) (rest := []) ⟨hx, hb, hml, hown, hT⟩ (c_X6_letter l Z hX.1 g gl tf a_145 (by rw [hRp.2]; exact hJ.j42) hG) (cwV 1 hT (tb_V (fun _ h => h) (tr_5 _ (List.mem_of_getElem? (i := 9) rfl)) (tr_5 _ (List.mem_of_getElem? (i := 10) rfl)) (tr_5 _ (List.mem_of_getElem? (i := 11) rfl)) (tr_1 _ (List.mem_of_getElem? (i := 2) rfl)) (tr_5 _ (List.mem_of_getElem? (i := 12) rfl))) rfl rfl rfl (by decide +kernel) ⟨Nat.le_of_ble_eq_true rfl, Nat.le_of_ble_eq_true rfl⟩) ⟨fun a U f mk q => ⟨q.1, XI.blind f mk a q.2⟩, va_recv hKx hPx (ci := 6) (q0 := 0) rfl xw_0, fun U hU hW => ⟨rfl, hX.xi hS hPx hU hW⟩⟩ rfl rfl hlv.1 rfl (lv_room (Nat.le_of_ble_eq_true rfl)) dL_law_146 ⟨Nat.le_of_ble_eq_true rfl, Nat.le_of_ble_eq_true rfl⟩) hS (fun q _ h => hsx q h) hsx (fun r_146 u_146 t_146 H1 locs ht_146 _ hw_146 hB_146 _ hk_146 hS => ?_)
  obtain ⟨g1, gl1, tf1⟩ := u_146
  have hPy := hX.ky hPy hk_146
  have hPx : va_P (zD Z) vwCl (xw Z g1 gl1 tf1) H1 := ht_146 ▸ hB_146
  obtain ⟨hf, hG, et, hp1⟩ := hw_146
  dsimp only at hf hG et hp1
  subst et
  generalize H1 = H at hPx hPy hS ⊢
  refine lv_pop hx hb dL_law_149 rfl ?_
  refine lv_aload_n hx hb dL_law_150 rfl (lv_at hlv 1 rfl) ?_
  refine lv_aload_n hx hb dL_law_151 rfl (lv_at hlv 3 rfl) ?_
  refine lv_iload_n hx hb dL_law_152 rfl (lv_at hlv 0 rfl) ?_
  refine lv_iconst (v := 1) hx hb dL_law_153 (by decide) ?_
  refine lv_iadd hx hb dL_law_154 ?_
  refine lv_topi (fun v_154 e_154 => ?_)
  have t_154 : v_154 = nI (i + 1) := by rw [e_154]; exact nI_add i 1
  have h_155 : vp_in v_154 L := by rw [t_154]; exact vp_in_nI (by omega) (by omega)
  refine va_sld hx hb hXs hbl hbA hS h_155 dL_law_155 ?_
  refine lv_topi (fun a_155 ea_155 => ?_)
  refine va_calli (va_runV (As := [.int a_155]) (rest := []) ⟨hx, hb, hml, hown, hT⟩ (c_X7_letter l Y hX.2.1 h hl a_155 hJ) (cwV 1 hT (tb_V (fun _ h => h) (tr_5 _ (List.mem_of_getElem? (i := 19) rfl)) (tr_5 _ (List.mem_of_getElem? (i := 20) rfl)) (tr_5 _ (List.mem_of_getElem? (i := 21) rfl)) (tr_1 _ (List.mem_of_getElem? (i := 5) rfl)) (tr_5 _ (List.mem_of_getElem? (i := 22) rfl))) rfl rfl rfl (by decide +kernel) ⟨Nat.le_of_ble_eq_true rfl, Nat.le_of_ble_eq_true rfl⟩) ⟨fun a U f mk q => ⟨q.1, MI.blind f mk a q.2⟩, va_recv hKy hPy (ci := 7) (q0 := 0) rfl mw_0, fun U hU hW => ⟨rfl, hX.mi hPy hU hW⟩⟩ rfl rfl hlv.1 rfl (lv_room (Nat.le_of_ble_eq_true rfl)) dL_law_156 ⟨Nat.le_of_ble_eq_true rfl, Nat.le_of_ble_eq_true rfl⟩) hS (fun q _ h => hsy q h) hsy (fun r_156 u_156 t_156 H1 locs ht_156 _ hw_156 hB_156 _ hk_156 hS => ?_)
  obtain ⟨h1, hl1⟩ := u_156
  have hPx := hX.kx hPx hk_156
  have hPy : va_P (yD Y) vwCl (mw Y h1 hl1) H1 := ht_156 ▸ hB_156
  obtain ⟨hf2, hJ1, el2, hp2⟩ := hw_156
  dsimp only at hf2 hJ1 el2 hp2
  subst el2
  generalize H1 = H at hPx hPy hS ⊢
  refine lv_pop hx hb dL_law_159 rfl ?_
  refine lv_goto (tgt := 760) hx hb dL_law_160 (by decide) ?_
  have exy0 : a_155 = a_145 := by rw [ea_155, ea_145, t_154, t_144]
  subst exy0
  obtain ⟨hRp, res⟩ := case_letter hRp hp1 hp2
  exact kk g1 gl1 tf h1 hl _ _ hPx hPy hS hRp (hRt.fr hf hf2 (by decide) (by decide) (fun _ _ => rfl)) (hRs.fr hf hf2 (by decide) (by decide)) ((hRd.fr hf hf2 (by decide) (by decide)).le (by omega)) (hRk.fr hf hf2 (by decide) (by decide) (fun _ _ => rfl)) (hRx.fr hX.1 ⟨hJ.j31.1, h40⟩ hRt.1 hf hf2 (by decide) (by decide) (fun _ _ => rfl)) (hRq.fr hf hf2 (by decide) (by decide)) hJ1 (by rw [congrFun (hf2 31 (by decide)) 0]; exact h40) hG
set_option maxHeartbeats 4000000 in
set_option maxRecDepth 100000 in
theorem law_1 {p : Program} {l : Launch} {e : Env} {s : State} {m : MethodId} {below : List Frame} {meth : Method} {c : Code} {b L : Nat} {xs : Nat → Int32} (hL : L ≤ 2560) (C0 : lw_At p s m meth c b L xs) (hTl : ∀ w ∈ wsL_law, w.before #[Value.ref b] s = true) {Z : ZT} {Y : YT} (hX : LX s Z Y) {Q : State → Prop} (i : Nat) (hi : i + 5 ≤ L) (g : Nat → Nat → Int32) (gl : Nat → Nat → Int64) (tf : Nat → Nat → Int32) (h : Nat → Nat → Int32) (hl : Nat → Nat → Int64) (H : Heap) (locs : List Loc) (hPx : va_P (zD Z) vwCl (xw Z g gl tf) H) (hPy : va_P (yD Y) vwCl (mw Y h hl) H) (hS : va_S (fun q => s.heap.size ≤ q) s.heap H locs) (hRp : Rpg g h) (hRt : Rtr Z g tf h) (hRs : Rsn g h) (hRd : Rdk g h i) (hRk : Rkp Z g tf h) (hRx : Rtx Z g tf h) (hRq : Rsq g h) (hJ : MJ h) (h40 : (h 31 0).toInt ≤ 40) (hG : Gd Z tf) (ls : Array Slot) (hlv : lv_has ls 4 [(3, .int (nI i)), (2, .ref (ya Y 0)), (1, .ref (za Z 0)), (0, .ref b)]) (kk : ∀ (g : Nat → Nat → Int32) (gl : Nat → Nat → Int64) (tf : Nat → Nat → Int32) (h : Nat → Nat → Int32) (hl : Nat → Nat → Int64) (H : Heap) (locs : List Loc), (va_P (zD Z) vwCl (xw Z g gl tf) H) → (va_P (yD Y) vwCl (mw Y h hl) H) → (va_S (fun q => s.heap.size ≤ q) s.heap H locs) → (Rpg g h) → (Rtr Z g tf h) → (Rsn g h) → (Rdk g h (i + 5)) → (Rkp Z g tf h) → (Rtx Z g tf h) → (Rsq g h) → (MJ h) → ((h 31 0).toInt ≤ 40) → (Gd Z tf) → W p l e room_1 s m #[Value.ref b] below meth c H locs 155 6181 Q (F0 m 760 ls [])) : W p l e room_1 s m #[Value.ref b] below meth c H locs 155 6181 Q (F0 m 163 ls []) := by
  obtain ⟨hx, hb, hr, hml, hown, hts, hXs, hbl, hlocks, hgv⟩ := C0
  have hT := hTl
  have hbA : ¬ (fun q : Nat => s.heap.size ≤ q) b := Nat.not_le.mpr hbl
  have hsx := hX.2.2.2.1
  have hsy := hX.2.2.2.2.1
  have hKx := hX.2.2.2.2.2.1
  have hKy := hX.2.2.2.2.2.2.1
  refine lv_aload_n hx hb dL_law_163 rfl (lv_at hlv 2 rfl) ?_
  refine va_calli (va_runV (As := []) (rest := []) ⟨hx, hb, hml, hown, hT⟩ (c_X6_blank l Z hX.1 g gl tf hG) (cwV 0 hT (tb_V (fun _ h => h) (tr_6 _ (List.mem_of_getElem? (i := 3) rfl)) (tr_6 _ (List.mem_of_getElem? (i := 4) rfl)) (tr_6 _ (List.mem_of_getElem? (i := 5) rfl)) (tr_1 _ (List.mem_of_getElem? (i := 2) rfl)) (tr_6 _ (List.mem_of_getElem? (i := 6) rfl))) rfl rfl rfl (by decide +kernel) ⟨Nat.le_of_ble_eq_true rfl, Nat.le_of_ble_eq_true rfl⟩) ⟨fun a U f mk q => ⟨q.1, XI.blind f mk a q.2⟩, va_recv hKx hPx (ci := 6) (q0 := 0) rfl xw_0, fun U hU hW => ⟨rfl, hX.xi hS hPx hU hW⟩⟩ rfl rfl hlv.1 rfl (lv_room (Nat.le_of_ble_eq_true rfl)) dL_law_164 ⟨Nat.le_of_ble_eq_true rfl, Nat.le_of_ble_eq_true rfl⟩) hS (fun q _ h => hsx q h) hsx (fun r_164 u_164 t_164 H1 locs ht_164 _ hw_164 hB_164 _ hk_164 hS => ?_)
  obtain ⟨g1, gl1, tf1⟩ := u_164
  have hPy := hX.ky hPy hk_164
  have hPx : va_P (zD Z) vwCl (xw Z g1 gl1 tf1) H1 := ht_164 ▸ hB_164
  obtain ⟨hf, hG, et, hp1⟩ := hw_164
  dsimp only at hf hG et hp1
  subst et
  generalize H1 = H at hPx hPy hS ⊢
  refine lv_pop hx hb dL_law_167 rfl ?_
  refine lv_aload_n hx hb dL_law_168 rfl (lv_at hlv 1 rfl) ?_
  refine va_calli (va_runV (As := []) (rest := []) ⟨hx, hb, hml, hown, hT⟩ (c_X7_blank l Y hX.2.1 h hl hJ) (cwV 0 hT (tb_V (fun _ h => h) (tr_6 _ (List.mem_of_getElem? (i := 7) rfl)) (tr_6 _ (List.mem_of_getElem? (i := 8) rfl)) (tr_6 _ (List.mem_of_getElem? (i := 9) rfl)) (tr_1 _ (List.mem_of_getElem? (i := 5) rfl)) (tr_6 _ (List.mem_of_getElem? (i := 10) rfl))) rfl rfl rfl (by decide +kernel) ⟨Nat.le_of_ble_eq_true rfl, Nat.le_of_ble_eq_true rfl⟩) ⟨fun a U f mk q => ⟨q.1, MI.blind f mk a q.2⟩, va_recv hKy hPy (ci := 7) (q0 := 0) rfl mw_0, fun U hU hW => ⟨rfl, hX.mi hPy hU hW⟩⟩ rfl rfl hlv.1 rfl (lv_room (Nat.le_of_ble_eq_true rfl)) dL_law_169 ⟨Nat.le_of_ble_eq_true rfl, Nat.le_of_ble_eq_true rfl⟩) hS (fun q _ h => hsy q h) hsy (fun r_169 u_169 t_169 H1 locs ht_169 _ hw_169 hB_169 _ hk_169 hS => ?_)
  obtain ⟨h1, hl1⟩ := u_169
  have hPx := hX.kx hPx hk_169
  have hPy : va_P (yD Y) vwCl (mw Y h1 hl1) H1 := ht_169 ▸ hB_169
  obtain ⟨hf2, hJ1, el2, hp2⟩ := hw_169
  dsimp only at hf2 hJ1 el2 hp2
  subst el2
  generalize H1 = H at hPx hPy hS ⊢
  refine lv_pop hx hb dL_law_172 rfl ?_
  refine lv_goto (tgt := 760) hx hb dL_law_173 (by decide) ?_
  exact kk g1 gl1 tf h1 hl _ _ hPx hPy hS ⟨(hf 2 (by decide)).trans (hRp.1.trans (hf2 10 (by decide)).symm), hp1.2.trans hp2.2.symm⟩ (hRt.fr hf hf2 (by decide) (by decide) (fun _ _ => rfl)) (hRs.fr hf hf2 (by decide) (by decide)) ((hRd.fr hf hf2 (by decide) (by decide)).le (by omega)) (hRk.fr hf hf2 (by decide) (by decide) (fun _ _ => rfl)) (hRx.fr hX.1 ⟨hJ.j31.1, h40⟩ hRt.1 hf hf2 (by decide) (by decide) (fun _ _ => rfl)) (hRq.fr hf hf2 (by decide) (by decide)) hJ1 (by rw [congrFun (hf2 31 (by decide)) 0]; exact h40) hG
set_option maxHeartbeats 4000000 in
set_option maxRecDepth 100000 in
theorem law_2 {p : Program} {l : Launch} {e : Env} {s : State} {m : MethodId} {below : List Frame} {meth : Method} {c : Code} {b L : Nat} {xs : Nat → Int32} (hL : L ≤ 2560) (C0 : lw_At p s m meth c b L xs) (hTl : ∀ w ∈ wsL_law, w.before #[Value.ref b] s = true) {Z : ZT} {Y : YT} (hX : LX s Z Y) {Q : State → Prop} (i : Nat) (hi : i + 5 ≤ L) (g : Nat → Nat → Int32) (gl : Nat → Nat → Int64) (tf : Nat → Nat → Int32) (h : Nat → Nat → Int32) (hl : Nat → Nat → Int64) (H : Heap) (locs : List Loc) (hPx : va_P (zD Z) vwCl (xw Z g gl tf) H) (hPy : va_P (yD Y) vwCl (mw Y h hl) H) (hS : va_S (fun q => s.heap.size ≤ q) s.heap H locs) (hRp : Rpg g h) (hRt : Rtr Z g tf h) (hRs : Rsn g h) (hRd : Rdk g h i) (hRk : Rkp Z g tf h) (hRx : Rtx Z g tf h) (hRq : Rsq g h) (hJ : MJ h) (h40 : (h 31 0).toInt ≤ 40) (hG : Gd Z tf) (ls : Array Slot) (hlv : lv_has ls 4 [(3, .int (nI i)), (2, .ref (ya Y 0)), (1, .ref (za Z 0)), (0, .ref b)]) (kk : ∀ (g : Nat → Nat → Int32) (gl : Nat → Nat → Int64) (tf : Nat → Nat → Int32) (h : Nat → Nat → Int32) (hl : Nat → Nat → Int64) (H : Heap) (locs : List Loc), (va_P (zD Z) vwCl (xw Z g gl tf) H) → (va_P (yD Y) vwCl (mw Y h hl) H) → (va_S (fun q => s.heap.size ≤ q) s.heap H locs) → (Rpg g h) → (Rtr Z g tf h) → (Rsn g h) → (Rdk g h (i + 5)) → (Rkp Z g tf h) → (Rtx Z g tf h) → (Rsq g h) → (MJ h) → ((h 31 0).toInt ≤ 40) → (Gd Z tf) → W p l e room_1 s m #[Value.ref b] below meth c H locs 155 6181 Q (F0 m 760 ls [])) : W p l e room_1 s m #[Value.ref b] below meth c H locs 155 6181 Q (F0 m 176 ls []) := by
  obtain ⟨hx, hb, hr, hml, hown, hts, hXs, hbl, hlocks, hgv⟩ := C0
  have hT := hTl
  have hbA : ¬ (fun q : Nat => s.heap.size ≤ q) b := Nat.not_le.mpr hbl
  have hsx := hX.2.2.2.1
  have hsy := hX.2.2.2.2.1
  have hKx := hX.2.2.2.2.2.1
  have hKy := hX.2.2.2.2.2.2.1
  refine lv_aload_n hx hb dL_law_176 rfl (lv_at hlv 2 rfl) ?_
  refine rd_ci (va_runV (As := []) (rest := []) ⟨hx, hb, hml, hown, hT⟩ (c_X6_fault l Z hX.1 g gl tf (by rw [hRp.1]; exact hJ.j10) (by rw [hRp.2]; exact hJ.j42) hG) (cwV 0 hT (tb_V (fun _ h => h) (tr_6 _ (List.mem_of_getElem? (i := 11) rfl)) (tr_6 _ (List.mem_of_getElem? (i := 12) rfl)) (tr_6 _ (List.mem_of_getElem? (i := 13) rfl)) (tr_1 _ (List.mem_of_getElem? (i := 2) rfl)) (tr_6 _ (List.mem_of_getElem? (i := 14) rfl))) rfl rfl rfl (by decide +kernel) ⟨Nat.le_of_ble_eq_true rfl, Nat.le_of_ble_eq_true rfl⟩) ⟨fun a U f mk q => ⟨q.1, XI.blind f mk a q.2⟩, va_recv hKx hPx (ci := 6) (q0 := 0) rfl xw_0, fun U hU hW => ⟨rfl, hX.xi hS hPx hU hW⟩⟩ rfl rfl hlv.1 rfl (lv_room (Nat.le_of_ble_eq_true rfl)) dL_law_177 ⟨Nat.le_of_ble_eq_true rfl, Nat.le_of_ble_eq_true rfl⟩) (fun r_177 hr_177 => ?_)
  refine lv_pop hx hb dL_law_180 rfl ?_
  refine lv_aload_n hx hb dL_law_181 rfl (lv_at hlv 1 rfl) ?_
  refine va_calli (va_runV (As := []) (rest := []) ⟨hx, hb, hml, hown, hT⟩ (c_X7_fault l Y hX.2.1 h hl hJ) (cwV 0 hT (tb_V (fun _ h => h) (tr_11 _ (List.mem_of_getElem? (i := 4) rfl)) (tr_11 _ (List.mem_of_getElem? (i := 5) rfl)) (tr_11 _ (List.mem_of_getElem? (i := 6) rfl)) (tr_1 _ (List.mem_of_getElem? (i := 5) rfl)) (tr_11 _ (List.mem_of_getElem? (i := 7) rfl))) rfl rfl rfl (by decide +kernel) ⟨Nat.le_of_ble_eq_true rfl, Nat.le_of_ble_eq_true rfl⟩) ⟨fun a U f mk q => ⟨q.1, MI.blind f mk a q.2⟩, va_recv hKy hPy (ci := 7) (q0 := 0) rfl mw_0, fun U hU hW => ⟨rfl, hX.mi hPy hU hW⟩⟩ rfl rfl hlv.1 rfl (lv_room (Nat.le_of_ble_eq_true rfl)) dL_law_182 ⟨Nat.le_of_ble_eq_true rfl, Nat.le_of_ble_eq_true rfl⟩) hS (fun q _ h => hsy q h) hsy (fun r_182 u_182 t_182 H1 locs ht_182 _ hw_182 hB_182 _ hk_182 hS => ?_)
  obtain ⟨h1, hl1⟩ := u_182
  have hPx := hX.kx hPx hk_182
  have hPy : va_P (yD Y) vwCl (mw Y h1 hl1) H1 := ht_182 ▸ hB_182
  obtain ⟨hf2, hJ1, el2, hp2⟩ := hw_182
  dsimp only at hf2 hJ1 el2 hp2
  subst el2
  generalize H1 = H at hPx hPy hS ⊢
  refine lv_pop hx hb dL_law_185 rfl ?_
  refine lv_goto (tgt := 760) hx hb dL_law_186 (by decide) ?_
  have hres : r_177 = r_182 := by
    obtain ⟨k1, q1, q2⟩ := hr_177
    obtain ⟨k2, q3, q4⟩ := hp2
    rw [← hRp.1, ← hRp.2] at q4
    have q := fwp_one q2 q4
    exact Int32.toInt_inj.mp (by omega)
  exact kk g gl tf h1 hl _ _ hPx hPy hS (hRp.fr (Fr.rf (S := [])) hf2 (by decide) (by decide)) (hRt.fr (Fr.rf (S := [])) hf2 (by decide) (by decide) (fun _ _ => rfl)) (hRs.fr (Fr.rf (S := [])) hf2 (by decide) (by decide)) ((hRd.fr (Fr.rf (S := [])) hf2 (by decide) (by decide)).le (by omega)) (hRk.fr (Fr.rf (S := [])) hf2 (by decide) (by decide) (fun _ _ => rfl)) (hRx.fr hX.1 ⟨hJ.j31.1, h40⟩ hRt.1 (Fr.rf (S := [])) hf2 (by decide) (by decide) (fun _ _ => rfl)) (hRq.fr (Fr.rf (S := [])) hf2 (by decide) (by decide)) hJ1 (by rw [congrFun (hf2 31 (by decide)) 0]; exact h40) hG
set_option maxHeartbeats 4000000 in
set_option maxRecDepth 100000 in
theorem law_3 {p : Program} {l : Launch} {e : Env} {s : State} {m : MethodId} {below : List Frame} {meth : Method} {c : Code} {b L : Nat} {xs : Nat → Int32} (hL : L ≤ 2560) (C0 : lw_At p s m meth c b L xs) (hTl : ∀ w ∈ wsL_law, w.before #[Value.ref b] s = true) {Z : ZT} {Y : YT} (hX : LX s Z Y) {Q : State → Prop} (i : Nat) (hi : i + 5 ≤ L) (g : Nat → Nat → Int32) (gl : Nat → Nat → Int64) (tf : Nat → Nat → Int32) (h : Nat → Nat → Int32) (hl : Nat → Nat → Int64) (H : Heap) (locs : List Loc) (hPx : va_P (zD Z) vwCl (xw Z g gl tf) H) (hPy : va_P (yD Y) vwCl (mw Y h hl) H) (hS : va_S (fun q => s.heap.size ≤ q) s.heap H locs) (hRp : Rpg g h) (hRt : Rtr Z g tf h) (hRs : Rsn g h) (hRd : Rdk g h i) (hRk : Rkp Z g tf h) (hRx : Rtx Z g tf h) (hRq : Rsq g h) (hJ : MJ h) (h40 : (h 31 0).toInt ≤ 40) (hG : Gd Z tf) (ls : Array Slot) (hlv : lv_has ls 4 [(3, .int (nI i)), (2, .ref (ya Y 0)), (1, .ref (za Z 0)), (0, .ref b)]) (kk : ∀ (g : Nat → Nat → Int32) (gl : Nat → Nat → Int64) (tf : Nat → Nat → Int32) (h : Nat → Nat → Int32) (hl : Nat → Nat → Int64) (H : Heap) (locs : List Loc), (va_P (zD Z) vwCl (xw Z g gl tf) H) → (va_P (yD Y) vwCl (mw Y h hl) H) → (va_S (fun q => s.heap.size ≤ q) s.heap H locs) → (Rpg g h) → (Rtr Z g tf h) → (Rsn g h) → (Rdk g h (i + 5)) → (Rkp Z g tf h) → (Rtx Z g tf h) → (Rsq g h) → (MJ h) → ((h 31 0).toInt ≤ 40) → (Gd Z tf) → W p l e room_1 s m #[Value.ref b] below meth c H locs 155 6181 Q (F0 m 760 ls [])) : W p l e room_1 s m #[Value.ref b] below meth c H locs 155 6181 Q (F0 m 189 ls []) := by
  obtain ⟨hx, hb, hr, hml, hown, hts, hXs, hbl, hlocks, hgv⟩ := C0
  have hT := hTl
  have hbA : ¬ (fun q : Nat => s.heap.size ≤ q) b := Nat.not_le.mpr hbl
  have hsx := hX.2.2.2.1
  have hsy := hX.2.2.2.2.1
  have hKx := hX.2.2.2.2.2.1
  have hKy := hX.2.2.2.2.2.2.1
  refine lv_aload_n hx hb dL_law_189 rfl (lv_at hlv 2 rfl) ?_
  refine va_calli (va_runV (As := []) (rest := []) ⟨hx, hb, hml, hown, hT⟩ (c_X6_desk l Z hX.1 g gl tf (by rw [hRp.1]; exact hJ.j10) (by rw [hRp.2]; exact hJ.j42) hG) (cwV 0 hT (tb_V (fun _ h => h) (tr_12 _ (List.mem_of_getElem? (i := 13) rfl)) (tr_12 _ (List.mem_of_getElem? (i := 14) rfl)) (tr_12 _ (List.mem_of_getElem? (i := 15) rfl)) (tr_1 _ (List.mem_of_getElem? (i := 2) rfl)) (tr_12 _ (List.mem_of_getElem? (i := 16) rfl))) rfl rfl rfl (by decide +kernel) ⟨Nat.le_of_ble_eq_true rfl, Nat.le_of_ble_eq_true rfl⟩) ⟨fun a U f mk q => ⟨q.1, XI.blind f mk a q.2⟩, va_recv hKx hPx (ci := 6) (q0 := 0) rfl xw_0, fun U hU hW => ⟨rfl, hX.xi hS hPx hU hW⟩⟩ rfl rfl hlv.1 rfl (lv_room (Nat.le_of_ble_eq_true rfl)) dL_law_190 ⟨Nat.le_of_ble_eq_true rfl, Nat.le_of_ble_eq_true rfl⟩) hS (fun q _ h => hsx q h) hsx (fun r_190 u_190 t_190 H1 locs ht_190 _ hw_190 hB_190 _ hk_190 hS => ?_)
  obtain ⟨g1, gl1, tf1⟩ := u_190
  have hPy := hX.ky hPy hk_190
  have hPx : va_P (zD Z) vwCl (xw Z g1 gl1 tf1) H1 := ht_190 ▸ hB_190
  obtain ⟨hf, hG, hp1⟩ := hw_190
  dsimp only at hf hG hp1
  generalize H1 = H at hPx hPy hS ⊢
  refine lv_pop hx hb dL_law_193 rfl ?_
  refine lv_aload_n hx hb dL_law_194 rfl (lv_at hlv 1 rfl) ?_
  refine va_calli (va_runV (As := []) (rest := []) ⟨hx, hb, hml, hown, hT⟩ (c_X7_desk l Y hX.2.1 h hl h40 hJ) (cwV 0 hT (tb_V (fun _ h => h) (tr_17 _ (List.mem_of_getElem? (i := 10) rfl)) (tr_17 _ (List.mem_of_getElem? (i := 11) rfl)) (tr_17 _ (List.mem_of_getElem? (i := 12) rfl)) (tr_1 _ (List.mem_of_getElem? (i := 5) rfl)) (tr_17 _ (List.mem_of_getElem? (i := 13) rfl))) rfl rfl rfl (by decide +kernel) ⟨Nat.le_of_ble_eq_true rfl, Nat.le_of_ble_eq_true rfl⟩) ⟨fun a U f mk q => ⟨q.1, MI.blind f mk a q.2⟩, va_recv hKy hPy (ci := 7) (q0 := 0) rfl mw_0, fun U hU hW => ⟨rfl, hX.mi hPy hU hW⟩⟩ rfl rfl hlv.1 rfl (lv_room (Nat.le_of_ble_eq_true rfl)) dL_law_195 ⟨Nat.le_of_ble_eq_true rfl, Nat.le_of_ble_eq_true rfl⟩) hS (fun q _ h => hsy q h) hsy (fun r_195 u_195 t_195 H1 locs ht_195 _ hw_195 hB_195 _ hk_195 hS => ?_)
  obtain ⟨h1, hl1⟩ := u_195
  have hPx := hX.kx hPx hk_195
  have hPy : va_P (yD Y) vwCl (mw Y h1 hl1) H1 := ht_195 ▸ hB_195
  obtain ⟨hf2, hJ1, el2, hp2⟩ := hw_195
  dsimp only at hf2 hJ1 el2 hp2
  subst el2
  generalize H1 = H at hPx hPy hS ⊢
  refine lv_pop hx hb dL_law_198 rfl ?_
  refine lv_goto (tgt := 760) hx hb dL_law_199 (by decide) ?_
  obtain ⟨hRp1, hRt1, hRs1, hRd1, hRk1, hRx1, hRq1, res⟩ := case_desk hX.1 (by omega) hRp hRt hRs hRd hRk ⟨hJ.j31.1, h40⟩ hRx hRq hf hf2 hp1 hp2.1
  exact kk g1 gl1 tf1 h1 hl _ _ hPx hPy hS hRp1 hRt1 hRs1 (hRd1.le (by omega)) hRk1 hRx1 hRq1 hJ1 hp2.2 hG
set_option maxHeartbeats 4000000 in
set_option maxRecDepth 100000 in
theorem law_4 {p : Program} {l : Launch} {e : Env} {s : State} {m : MethodId} {below : List Frame} {meth : Method} {c : Code} {b L : Nat} {xs : Nat → Int32} (hL : L ≤ 2560) (C0 : lw_At p s m meth c b L xs) (hTl : ∀ w ∈ wsL_law, w.before #[Value.ref b] s = true) {Z : ZT} {Y : YT} (hX : LX s Z Y) {Q : State → Prop} (i : Nat) (hi : i + 5 ≤ L) (g : Nat → Nat → Int32) (gl : Nat → Nat → Int64) (tf : Nat → Nat → Int32) (h : Nat → Nat → Int32) (hl : Nat → Nat → Int64) (H : Heap) (locs : List Loc) (hPx : va_P (zD Z) vwCl (xw Z g gl tf) H) (hPy : va_P (yD Y) vwCl (mw Y h hl) H) (hS : va_S (fun q => s.heap.size ≤ q) s.heap H locs) (hRp : Rpg g h) (hRt : Rtr Z g tf h) (hRs : Rsn g h) (hRd : Rdk g h i) (hRk : Rkp Z g tf h) (hRx : Rtx Z g tf h) (hRq : Rsq g h) (hJ : MJ h) (h40 : (h 31 0).toInt ≤ 40) (hG : Gd Z tf) (ls : Array Slot) (hlv : lv_has ls 4 [(3, .int (nI i)), (2, .ref (ya Y 0)), (1, .ref (za Z 0)), (0, .ref b)]) (kk : ∀ (g : Nat → Nat → Int32) (gl : Nat → Nat → Int64) (tf : Nat → Nat → Int32) (h : Nat → Nat → Int32) (hl : Nat → Nat → Int64) (H : Heap) (locs : List Loc), (va_P (zD Z) vwCl (xw Z g gl tf) H) → (va_P (yD Y) vwCl (mw Y h hl) H) → (va_S (fun q => s.heap.size ≤ q) s.heap H locs) → (Rpg g h) → (Rtr Z g tf h) → (Rsn g h) → (Rdk g h (i + 5)) → (Rkp Z g tf h) → (Rtx Z g tf h) → (Rsq g h) → (MJ h) → ((h 31 0).toInt ≤ 40) → (Gd Z tf) → W p l e room_1 s m #[Value.ref b] below meth c H locs 155 6181 Q (F0 m 760 ls [])) : W p l e room_1 s m #[Value.ref b] below meth c H locs 155 6181 Q (F0 m 202 ls []) := by
  obtain ⟨hx, hb, hr, hml, hown, hts, hXs, hbl, hlocks, hgv⟩ := C0
  have hT := hTl
  have hbA : ¬ (fun q : Nat => s.heap.size ≤ q) b := Nat.not_le.mpr hbl
  have hsx := hX.2.2.2.1
  have hsy := hX.2.2.2.2.1
  have hKx := hX.2.2.2.2.2.1
  have hKy := hX.2.2.2.2.2.2.1
  refine lv_aload_n hx hb dL_law_202 rfl (lv_at hlv 2 rfl) ?_
  refine lv_aload_n hx hb dL_law_203 rfl (lv_at hlv 3 rfl) ?_
  refine lv_iload_n hx hb dL_law_204 rfl (lv_at hlv 0 rfl) ?_
  refine lv_iconst (v := 1) hx hb dL_law_205 (by decide) ?_
  refine lv_iadd hx hb dL_law_206 ?_
  refine lv_topi (fun v_206 e_206 => ?_)
  have t_206 : v_206 = nI (i + 1) := by rw [e_206]; exact nI_add i 1
  have h_207 : vp_in v_206 L := by rw [t_206]; exact vp_in_nI (by omega) (by omega)
  refine va_sld hx hb hXs hbl hbA hS h_207 dL_law_207 ?_
  refine lv_topi (fun a_207 ea_207 => ?_)
  refine lv_aload_n hx hb dL_law_208 rfl (lv_at hlv 3 rfl) ?_
  refine lv_iload_n hx hb dL_law_209 rfl (lv_at hlv 0 rfl) ?_
  refine lv_iconst (v := 2) hx hb dL_law_210 (by decide) ?_
  refine lv_iadd hx hb dL_law_211 ?_
  refine lv_topi (fun v_211 e_211 => ?_)
  have t_211 : v_211 = nI (i + 2) := by rw [e_211]; exact nI_add i 2
  have h_212 : vp_in v_211 L := by rw [t_211]; exact vp_in_nI (by omega) (by omega)
  refine va_sld hx hb hXs hbl hbA hS h_212 dL_law_212 ?_
  refine lv_topi (fun a_212 ea_212 => ?_)
  refine va_calli (va_runV (As := [.int a_207, .int a_212]) (rest := []) ⟨hx, hb, hml, hown, hT⟩ (c_X6_tariff l Z hX.1 g gl tf a_207 a_212 (by rw [hRt.1]; have q := hJ.j31; omega) (by rw [hRs.1]; exact hJ.j38) (fun i hi => by rw [hRs.1] at hi; rw [(hRs.2 i hi).2.1]; exact hRq.1 i hi) hG) (cwV 2 hT (tb_V (fun _ h => h) (tr_19 _ (List.mem_of_getElem? (i := 19) rfl)) (tr_19 _ (List.mem_of_getElem? (i := 20) rfl)) (tr_19 _ (List.mem_of_getElem? (i := 21) rfl)) (tr_1 _ (List.mem_of_getElem? (i := 2) rfl)) (tr_19 _ (List.mem_of_getElem? (i := 22) rfl))) rfl rfl rfl (by decide +kernel) ⟨Nat.le_of_ble_eq_true rfl, Nat.le_of_ble_eq_true rfl⟩) ⟨fun a U f mk q => ⟨q.1, XI.blind f mk a q.2⟩, va_recv hKx hPx (ci := 6) (q0 := 0) rfl xw_0, fun U hU hW => ⟨rfl, hX.xi hS hPx hU hW⟩⟩ rfl rfl hlv.1 rfl (lv_room (Nat.le_of_ble_eq_true rfl)) dL_law_213 ⟨Nat.le_of_ble_eq_true rfl, Nat.le_of_ble_eq_true rfl⟩) hS (fun q _ h => hsx q h) hsx (fun r_213 u_213 t_213 H1 locs ht_213 _ hw_213 hB_213 _ hk_213 hS => ?_)
  obtain ⟨g1, gl1, tf1⟩ := u_213
  have hPy := hX.ky hPy hk_213
  have hPx : va_P (zD Z) vwCl (xw Z g1 gl1 tf1) H1 := ht_213 ▸ hB_213
  obtain ⟨hf, hG, et, hp1⟩ := hw_213
  dsimp only at hf hG et hp1
  subst et
  generalize H1 = H at hPx hPy hS ⊢
  refine lv_pop hx hb dL_law_216 rfl ?_
  refine lv_aload_n hx hb dL_law_217 rfl (lv_at hlv 1 rfl) ?_
  refine lv_aload_n hx hb dL_law_218 rfl (lv_at hlv 3 rfl) ?_
  refine lv_iload_n hx hb dL_law_219 rfl (lv_at hlv 0 rfl) ?_
  refine lv_iconst (v := 1) hx hb dL_law_220 (by decide) ?_
  refine lv_iadd hx hb dL_law_221 ?_
  refine lv_topi (fun v_221 e_221 => ?_)
  have t_221 : v_221 = nI (i + 1) := by rw [e_221]; exact nI_add i 1
  have h_222 : vp_in v_221 L := by rw [t_221]; exact vp_in_nI (by omega) (by omega)
  refine va_sld hx hb hXs hbl hbA hS h_222 dL_law_222 ?_
  refine lv_topi (fun a_222 ea_222 => ?_)
  refine lv_aload_n hx hb dL_law_223 rfl (lv_at hlv 3 rfl) ?_
  refine lv_iload_n hx hb dL_law_224 rfl (lv_at hlv 0 rfl) ?_
  refine lv_iconst (v := 2) hx hb dL_law_225 (by decide) ?_
  refine lv_iadd hx hb dL_law_226 ?_
  refine lv_topi (fun v_226 e_226 => ?_)
  have t_226 : v_226 = nI (i + 2) := by rw [e_226]; exact nI_add i 2
  have h_227 : vp_in v_226 L := by rw [t_226]; exact vp_in_nI (by omega) (by omega)
  refine va_sld hx hb hXs hbl hbA hS h_227 dL_law_227 ?_
  refine lv_topi (fun a_227 ea_227 => ?_)
  refine rd_ci (va_runV (As := [.int a_222, .int a_227]) (rest := []) ⟨hx, hb, hml, hown, hT⟩ (c_X7_tariff l Y hX.2.1 h hl a_222 a_227 hJ) (cwV 2 hT (tb_V (fun _ h => h) (tr_21 _ (List.mem_of_getElem? (i := 22) rfl)) (tr_21 _ (List.mem_of_getElem? (i := 23) rfl)) (tr_22 _ (List.mem_of_getElem? (i := 0) rfl)) (tr_1 _ (List.mem_of_getElem? (i := 5) rfl)) (tr_22 _ (List.mem_of_getElem? (i := 1) rfl))) rfl rfl rfl (by decide +kernel) ⟨Nat.le_of_ble_eq_true rfl, Nat.le_of_ble_eq_true rfl⟩) ⟨fun a U f mk q => ⟨q.1, MI.blind f mk a q.2⟩, va_recv hKy hPy (ci := 7) (q0 := 0) rfl mw_0, fun U hU hW => ⟨rfl, hX.mi hPy hU hW⟩⟩ rfl rfl hlv.1 rfl (lv_room (Nat.le_of_ble_eq_true rfl)) dL_law_228 ⟨Nat.le_of_ble_eq_true rfl, Nat.le_of_ble_eq_true rfl⟩) (fun r_228 hr_228 => ?_)
  refine lv_pop hx hb dL_law_231 rfl ?_
  refine lv_goto (tgt := 760) hx hb dL_law_232 (by decide) ?_
  have exy0 : a_222 = a_207 := by rw [ea_222, ea_207, t_221, t_206]
  subst exy0
  have exy1 : a_227 = a_212 := by rw [ea_227, ea_212, t_226, t_211]
  subst exy1
  have res := case_tariff hRt hRs hRx hJ h40 hp1 hr_228
  exact kk g1 gl1 tf h hl _ _ hPx hPy hS (hRp.fr hf (Fr.rf (S := [])) (by decide) (by decide)) (hRt.fr hf (Fr.rf (S := [])) (by decide) (by decide) (fun _ _ => rfl)) (hRs.fr hf (Fr.rf (S := [])) (by decide) (by decide)) ((hRd.fr hf (Fr.rf (S := [])) (by decide) (by decide)).le (by omega)) (hRk.fr hf (Fr.rf (S := [])) (by decide) (by decide) (fun _ _ => rfl)) (hRx.fr hX.1 ⟨hJ.j31.1, h40⟩ hRt.1 hf (Fr.rf (S := [])) (by decide) (by decide) (fun _ _ => rfl)) (hRq.fr hf (Fr.rf (S := [])) (by decide) (by decide)) hJ h40 hG
set_option maxHeartbeats 4000000 in
set_option maxRecDepth 100000 in
theorem law_5 {p : Program} {l : Launch} {e : Env} {s : State} {m : MethodId} {below : List Frame} {meth : Method} {c : Code} {b L : Nat} {xs : Nat → Int32} (hL : L ≤ 2560) (C0 : lw_At p s m meth c b L xs) (hTl : ∀ w ∈ wsL_law, w.before #[Value.ref b] s = true) {Z : ZT} {Y : YT} (hX : LX s Z Y) {Q : State → Prop} (i : Nat) (hi : i + 5 ≤ L) (g : Nat → Nat → Int32) (gl : Nat → Nat → Int64) (tf : Nat → Nat → Int32) (h : Nat → Nat → Int32) (hl : Nat → Nat → Int64) (H : Heap) (locs : List Loc) (hPx : va_P (zD Z) vwCl (xw Z g gl tf) H) (hPy : va_P (yD Y) vwCl (mw Y h hl) H) (hS : va_S (fun q => s.heap.size ≤ q) s.heap H locs) (hRp : Rpg g h) (hRt : Rtr Z g tf h) (hRs : Rsn g h) (hRd : Rdk g h i) (hRk : Rkp Z g tf h) (hRx : Rtx Z g tf h) (hRq : Rsq g h) (hJ : MJ h) (h40 : (h 31 0).toInt ≤ 40) (hG : Gd Z tf) (ls : Array Slot) (hlv : lv_has ls 4 [(3, .int (nI i)), (2, .ref (ya Y 0)), (1, .ref (za Z 0)), (0, .ref b)]) (kk : ∀ (g : Nat → Nat → Int32) (gl : Nat → Nat → Int64) (tf : Nat → Nat → Int32) (h : Nat → Nat → Int32) (hl : Nat → Nat → Int64) (H : Heap) (locs : List Loc), (va_P (zD Z) vwCl (xw Z g gl tf) H) → (va_P (yD Y) vwCl (mw Y h hl) H) → (va_S (fun q => s.heap.size ≤ q) s.heap H locs) → (Rpg g h) → (Rtr Z g tf h) → (Rsn g h) → (Rdk g h (i + 5)) → (Rkp Z g tf h) → (Rtx Z g tf h) → (Rsq g h) → (MJ h) → ((h 31 0).toInt ≤ 40) → (Gd Z tf) → W p l e room_1 s m #[Value.ref b] below meth c H locs 155 6181 Q (F0 m 760 ls [])) : W p l e room_1 s m #[Value.ref b] below meth c H locs 155 6181 Q (F0 m 235 ls []) := by
  obtain ⟨hx, hb, hr, hml, hown, hts, hXs, hbl, hlocks, hgv⟩ := C0
  have hT := hTl
  have hbA : ¬ (fun q : Nat => s.heap.size ≤ q) b := Nat.not_le.mpr hbl
  have hsx := hX.2.2.2.1
  have hsy := hX.2.2.2.2.1
  have hKx := hX.2.2.2.2.2.1
  have hKy := hX.2.2.2.2.2.2.1
  refine lv_aload_n hx hb dL_law_235 rfl (lv_at hlv 2 rfl) ?_
  refine lv_aload_n hx hb dL_law_236 rfl (lv_at hlv 3 rfl) ?_
  refine lv_iload_n hx hb dL_law_237 rfl (lv_at hlv 0 rfl) ?_
  refine lv_iconst (v := 1) hx hb dL_law_238 (by decide) ?_
  refine lv_iadd hx hb dL_law_239 ?_
  refine lv_topi (fun v_239 e_239 => ?_)
  have t_239 : v_239 = nI (i + 1) := by rw [e_239]; exact nI_add i 1
  have h_240 : vp_in v_239 L := by rw [t_239]; exact vp_in_nI (by omega) (by omega)
  refine va_sld hx hb hXs hbl hbA hS h_240 dL_law_240 ?_
  refine lv_topi (fun a_240 ea_240 => ?_)
  refine lv_aload_n hx hb dL_law_241 rfl (lv_at hlv 3 rfl) ?_
  refine lv_iload_n hx hb dL_law_242 rfl (lv_at hlv 0 rfl) ?_
  refine lv_iconst (v := 2) hx hb dL_law_243 (by decide) ?_
  refine lv_iadd hx hb dL_law_244 ?_
  refine lv_topi (fun v_244 e_244 => ?_)
  have t_244 : v_244 = nI (i + 2) := by rw [e_244]; exact nI_add i 2
  have h_245 : vp_in v_244 L := by rw [t_244]; exact vp_in_nI (by omega) (by omega)
  refine va_sld hx hb hXs hbl hbA hS h_245 dL_law_245 ?_
  refine lv_topi (fun a_245 ea_245 => ?_)
  refine rd_ci (va_runV (As := [.int a_240, .int a_245]) (rest := []) ⟨hx, hb, hml, hown, hT⟩ (c_X6_as l Z hX.1 g gl tf a_240 a_245 (by rw [hRt.1]; omega) hG) (cwV 2 hT (tb_V (fun _ h => h) (tr_23 _ (List.mem_of_getElem? (i := 18) rfl)) (tr_23 _ (List.mem_of_getElem? (i := 19) rfl)) (tr_23 _ (List.mem_of_getElem? (i := 20) rfl)) (tr_1 _ (List.mem_of_getElem? (i := 2) rfl)) (tr_23 _ (List.mem_of_getElem? (i := 21) rfl))) rfl rfl rfl (by decide +kernel) ⟨Nat.le_of_ble_eq_true rfl, Nat.le_of_ble_eq_true rfl⟩) ⟨fun a U f mk q => ⟨q.1, XI.blind f mk a q.2⟩, va_recv hKx hPx (ci := 6) (q0 := 0) rfl xw_0, fun U hU hW => ⟨rfl, hX.xi hS hPx hU hW⟩⟩ rfl rfl hlv.1 rfl (lv_room (Nat.le_of_ble_eq_true rfl)) dL_law_246 ⟨Nat.le_of_ble_eq_true rfl, Nat.le_of_ble_eq_true rfl⟩) (fun r_246 hr_246 => ?_)
  refine lv_pop hx hb dL_law_249 rfl ?_
  refine lv_aload_n hx hb dL_law_250 rfl (lv_at hlv 1 rfl) ?_
  refine lv_aload_n hx hb dL_law_251 rfl (lv_at hlv 3 rfl) ?_
  refine lv_iload_n hx hb dL_law_252 rfl (lv_at hlv 0 rfl) ?_
  refine lv_iconst (v := 1) hx hb dL_law_253 (by decide) ?_
  refine lv_iadd hx hb dL_law_254 ?_
  refine lv_topi (fun v_254 e_254 => ?_)
  have t_254 : v_254 = nI (i + 1) := by rw [e_254]; exact nI_add i 1
  have h_255 : vp_in v_254 L := by rw [t_254]; exact vp_in_nI (by omega) (by omega)
  refine va_sld hx hb hXs hbl hbA hS h_255 dL_law_255 ?_
  refine lv_topi (fun a_255 ea_255 => ?_)
  refine lv_aload_n hx hb dL_law_256 rfl (lv_at hlv 3 rfl) ?_
  refine lv_iload_n hx hb dL_law_257 rfl (lv_at hlv 0 rfl) ?_
  refine lv_iconst (v := 2) hx hb dL_law_258 (by decide) ?_
  refine lv_iadd hx hb dL_law_259 ?_
  refine lv_topi (fun v_259 e_259 => ?_)
  have t_259 : v_259 = nI (i + 2) := by rw [e_259]; exact nI_add i 2
  have h_260 : vp_in v_259 L := by rw [t_259]; exact vp_in_nI (by omega) (by omega)
  refine va_sld hx hb hXs hbl hbA hS h_260 dL_law_260 ?_
  refine lv_topi (fun a_260 ea_260 => ?_)
  refine rd_ci (va_runV (As := [.int a_255, .int a_260]) (rest := []) ⟨hx, hb, hml, hown, hT⟩ (c_X7_as l Y hX.2.1 h hl a_255 a_260 hJ) (cwV 2 hT (tb_V (fun _ h => h) (tr_24 _ (List.mem_of_getElem? (i := 5) rfl)) (tr_24 _ (List.mem_of_getElem? (i := 6) rfl)) (tr_24 _ (List.mem_of_getElem? (i := 7) rfl)) (tr_1 _ (List.mem_of_getElem? (i := 5) rfl)) (tr_24 _ (List.mem_of_getElem? (i := 8) rfl))) rfl rfl rfl (by decide +kernel) ⟨Nat.le_of_ble_eq_true rfl, Nat.le_of_ble_eq_true rfl⟩) ⟨fun a U f mk q => ⟨q.1, MI.blind f mk a q.2⟩, va_recv hKy hPy (ci := 7) (q0 := 0) rfl mw_0, fun U hU hW => ⟨rfl, hX.mi hPy hU hW⟩⟩ rfl rfl hlv.1 rfl (lv_room (Nat.le_of_ble_eq_true rfl)) dL_law_261 ⟨Nat.le_of_ble_eq_true rfl, Nat.le_of_ble_eq_true rfl⟩) (fun r_261 hr_261 => ?_)
  refine lv_pop hx hb dL_law_264 rfl ?_
  refine lv_goto (tgt := 760) hx hb dL_law_265 (by decide) ?_
  have exy0 : a_255 = a_240 := by rw [ea_255, ea_240, t_254, t_239]
  subst exy0
  have exy1 : a_260 = a_245 := by rw [ea_260, ea_245, t_259, t_244]
  subst exy1
  have res := case_as hRt hJ hr_246 hr_261
  exact kk g gl tf h hl _ _ hPx hPy hS (hRp.fr (Fr.rf (S := [])) (Fr.rf (S := [])) (by decide) (by decide)) (hRt.fr (Fr.rf (S := [])) (Fr.rf (S := [])) (by decide) (by decide) (fun _ _ => rfl)) (hRs.fr (Fr.rf (S := [])) (Fr.rf (S := [])) (by decide) (by decide)) ((hRd.fr (Fr.rf (S := [])) (Fr.rf (S := [])) (by decide) (by decide)).le (by omega)) (hRk.fr (Fr.rf (S := [])) (Fr.rf (S := [])) (by decide) (by decide) (fun _ _ => rfl)) (hRx.fr hX.1 ⟨hJ.j31.1, h40⟩ hRt.1 (Fr.rf (S := [])) (Fr.rf (S := [])) (by decide) (by decide) (fun _ _ => rfl)) (hRq.fr (Fr.rf (S := [])) (Fr.rf (S := [])) (by decide) (by decide)) hJ h40 hG
set_option maxHeartbeats 4000000 in
set_option maxRecDepth 100000 in
theorem law_6 {p : Program} {l : Launch} {e : Env} {s : State} {m : MethodId} {below : List Frame} {meth : Method} {c : Code} {b L : Nat} {xs : Nat → Int32} (hL : L ≤ 2560) (C0 : lw_At p s m meth c b L xs) (hTl : ∀ w ∈ wsL_law, w.before #[Value.ref b] s = true) {Z : ZT} {Y : YT} (hX : LX s Z Y) {Q : State → Prop} (i : Nat) (hi : i + 5 ≤ L) (g : Nat → Nat → Int32) (gl : Nat → Nat → Int64) (tf : Nat → Nat → Int32) (h : Nat → Nat → Int32) (hl : Nat → Nat → Int64) (H : Heap) (locs : List Loc) (hPx : va_P (zD Z) vwCl (xw Z g gl tf) H) (hPy : va_P (yD Y) vwCl (mw Y h hl) H) (hS : va_S (fun q => s.heap.size ≤ q) s.heap H locs) (hRp : Rpg g h) (hRt : Rtr Z g tf h) (hRs : Rsn g h) (hRd : Rdk g h i) (hRk : Rkp Z g tf h) (hRx : Rtx Z g tf h) (hRq : Rsq g h) (hJ : MJ h) (h40 : (h 31 0).toInt ≤ 40) (hG : Gd Z tf) (ls : Array Slot) (hlv : lv_has ls 4 [(3, .int (nI i)), (2, .ref (ya Y 0)), (1, .ref (za Z 0)), (0, .ref b)]) (kk : ∀ (g : Nat → Nat → Int32) (gl : Nat → Nat → Int64) (tf : Nat → Nat → Int32) (h : Nat → Nat → Int32) (hl : Nat → Nat → Int64) (H : Heap) (locs : List Loc), (va_P (zD Z) vwCl (xw Z g gl tf) H) → (va_P (yD Y) vwCl (mw Y h hl) H) → (va_S (fun q => s.heap.size ≤ q) s.heap H locs) → (Rpg g h) → (Rtr Z g tf h) → (Rsn g h) → (Rdk g h (i + 5)) → (Rkp Z g tf h) → (Rtx Z g tf h) → (Rsq g h) → (MJ h) → ((h 31 0).toInt ≤ 40) → (Gd Z tf) → W p l e room_1 s m #[Value.ref b] below meth c H locs 155 6181 Q (F0 m 760 ls [])) : W p l e room_1 s m #[Value.ref b] below meth c H locs 155 6181 Q (F0 m 268 ls []) := by
  obtain ⟨hx, hb, hr, hml, hown, hts, hXs, hbl, hlocks, hgv⟩ := C0
  have hT := hTl
  have hbA : ¬ (fun q : Nat => s.heap.size ≤ q) b := Nat.not_le.mpr hbl
  have hsx := hX.2.2.2.1
  have hsy := hX.2.2.2.2.1
  have hKx := hX.2.2.2.2.2.1
  have hKy := hX.2.2.2.2.2.2.1
  refine lv_aload_n hx hb dL_law_268 rfl (lv_at hlv 2 rfl) ?_
  refine lv_aload_n hx hb dL_law_269 rfl (lv_at hlv 3 rfl) ?_
  refine lv_iload_n hx hb dL_law_270 rfl (lv_at hlv 0 rfl) ?_
  refine lv_iconst (v := 1) hx hb dL_law_271 (by decide) ?_
  refine lv_iadd hx hb dL_law_272 ?_
  refine lv_topi (fun v_272 e_272 => ?_)
  have t_272 : v_272 = nI (i + 1) := by rw [e_272]; exact nI_add i 1
  have h_273 : vp_in v_272 L := by rw [t_272]; exact vp_in_nI (by omega) (by omega)
  refine va_sld hx hb hXs hbl hbA hS h_273 dL_law_273 ?_
  refine lv_topi (fun a_273 ea_273 => ?_)
  refine lv_aload_n hx hb dL_law_274 rfl (lv_at hlv 3 rfl) ?_
  refine lv_iload_n hx hb dL_law_275 rfl (lv_at hlv 0 rfl) ?_
  refine lv_iconst (v := 2) hx hb dL_law_276 (by decide) ?_
  refine lv_iadd hx hb dL_law_277 ?_
  refine lv_topi (fun v_277 e_277 => ?_)
  have t_277 : v_277 = nI (i + 2) := by rw [e_277]; exact nI_add i 2
  have h_278 : vp_in v_277 L := by rw [t_277]; exact vp_in_nI (by omega) (by omega)
  refine va_sld hx hb hXs hbl hbA hS h_278 dL_law_278 ?_
  refine lv_topi (fun a_278 ea_278 => ?_)
  refine rd_cl (va_runV (As := [.int a_273, .int a_278]) (rest := []) ⟨hx, hb, hml, hown, hT⟩ (c_X6_price l Z hX.1 g gl tf a_273 a_278 (by rw [hRt.1]; omega) hG) (cwV 2 hT (tb_V (fun _ h => h) (tr_24 _ (List.mem_of_getElem? (i := 9) rfl)) (tr_24 _ (List.mem_of_getElem? (i := 10) rfl)) (tr_24 _ (List.mem_of_getElem? (i := 11) rfl)) (tr_1 _ (List.mem_of_getElem? (i := 2) rfl)) (tr_24 _ (List.mem_of_getElem? (i := 12) rfl))) rfl rfl rfl (by decide +kernel) ⟨Nat.le_of_ble_eq_true rfl, Nat.le_of_ble_eq_true rfl⟩) ⟨fun a U f mk q => ⟨q.1, XI.blind f mk a q.2⟩, va_recv hKx hPx (ci := 6) (q0 := 0) rfl xw_0, fun U hU hW => ⟨rfl, hX.xi hS hPx hU hW⟩⟩ rfl rfl hlv.1 rfl (lv_room (Nat.le_of_ble_eq_true rfl)) dL_law_279 ⟨Nat.le_of_ble_eq_true rfl, Nat.le_of_ble_eq_true rfl⟩) (fun r_279 hr_279 => ?_)
  refine lv_pop2_2 hx hb dL_law_282 rfl ?_
  refine lv_aload_n hx hb dL_law_283 rfl (lv_at hlv 1 rfl) ?_
  refine lv_aload_n hx hb dL_law_284 rfl (lv_at hlv 3 rfl) ?_
  refine lv_iload_n hx hb dL_law_285 rfl (lv_at hlv 0 rfl) ?_
  refine lv_iconst (v := 1) hx hb dL_law_286 (by decide) ?_
  refine lv_iadd hx hb dL_law_287 ?_
  refine lv_topi (fun v_287 e_287 => ?_)
  have t_287 : v_287 = nI (i + 1) := by rw [e_287]; exact nI_add i 1
  have h_288 : vp_in v_287 L := by rw [t_287]; exact vp_in_nI (by omega) (by omega)
  refine va_sld hx hb hXs hbl hbA hS h_288 dL_law_288 ?_
  refine lv_topi (fun a_288 ea_288 => ?_)
  refine lv_aload_n hx hb dL_law_289 rfl (lv_at hlv 3 rfl) ?_
  refine lv_iload_n hx hb dL_law_290 rfl (lv_at hlv 0 rfl) ?_
  refine lv_iconst (v := 2) hx hb dL_law_291 (by decide) ?_
  refine lv_iadd hx hb dL_law_292 ?_
  refine lv_topi (fun v_292 e_292 => ?_)
  have t_292 : v_292 = nI (i + 2) := by rw [e_292]; exact nI_add i 2
  have h_293 : vp_in v_292 L := by rw [t_292]; exact vp_in_nI (by omega) (by omega)
  refine va_sld hx hb hXs hbl hbA hS h_293 dL_law_293 ?_
  refine lv_topi (fun a_293 ea_293 => ?_)
  refine rd_cl (va_runV (As := [.int a_288, .int a_293]) (rest := []) ⟨hx, hb, hml, hown, hT⟩ (c_X7_price l Y hX.2.1 h hl a_288 a_293 hJ) (cwV 2 hT (tb_V (fun _ h => h) (tr_24 _ (List.mem_of_getElem? (i := 19) rfl)) (tr_24 _ (List.mem_of_getElem? (i := 20) rfl)) (tr_24 _ (List.mem_of_getElem? (i := 21) rfl)) (tr_1 _ (List.mem_of_getElem? (i := 5) rfl)) (tr_24 _ (List.mem_of_getElem? (i := 22) rfl))) rfl rfl rfl (by decide +kernel) ⟨Nat.le_of_ble_eq_true rfl, Nat.le_of_ble_eq_true rfl⟩) ⟨fun a U f mk q => ⟨q.1, MI.blind f mk a q.2⟩, va_recv hKy hPy (ci := 7) (q0 := 0) rfl mw_0, fun U hU hW => ⟨rfl, hX.mi hPy hU hW⟩⟩ rfl rfl hlv.1 rfl (lv_room (Nat.le_of_ble_eq_true rfl)) dL_law_294 ⟨Nat.le_of_ble_eq_true rfl, Nat.le_of_ble_eq_true rfl⟩) (fun r_294 hr_294 => ?_)
  refine lv_pop2_2 hx hb dL_law_297 rfl ?_
  refine lv_goto (tgt := 760) hx hb dL_law_298 (by decide) ?_
  have exy0 : a_288 = a_273 := by rw [ea_288, ea_273, t_287, t_272]
  subst exy0
  have exy1 : a_293 = a_278 := by rw [ea_293, ea_278, t_292, t_277]
  subst exy1
  have res := case_price hRt hJ hr_279 hr_294
  exact kk g gl tf h hl _ _ hPx hPy hS (hRp.fr (Fr.rf (S := [])) (Fr.rf (S := [])) (by decide) (by decide)) (hRt.fr (Fr.rf (S := [])) (Fr.rf (S := [])) (by decide) (by decide) (fun _ _ => rfl)) (hRs.fr (Fr.rf (S := [])) (Fr.rf (S := [])) (by decide) (by decide)) ((hRd.fr (Fr.rf (S := [])) (Fr.rf (S := [])) (by decide) (by decide)).le (by omega)) (hRk.fr (Fr.rf (S := [])) (Fr.rf (S := [])) (by decide) (by decide) (fun _ _ => rfl)) (hRx.fr hX.1 ⟨hJ.j31.1, h40⟩ hRt.1 (Fr.rf (S := [])) (Fr.rf (S := [])) (by decide) (by decide) (fun _ _ => rfl)) (hRq.fr (Fr.rf (S := [])) (Fr.rf (S := [])) (by decide) (by decide)) hJ h40 hG
set_option maxHeartbeats 4000000 in
set_option maxRecDepth 100000 in
theorem law_7 {p : Program} {l : Launch} {e : Env} {s : State} {m : MethodId} {below : List Frame} {meth : Method} {c : Code} {b L : Nat} {xs : Nat → Int32} (hL : L ≤ 2560) (C0 : lw_At p s m meth c b L xs) (hTl : ∀ w ∈ wsL_law, w.before #[Value.ref b] s = true) {Z : ZT} {Y : YT} (hX : LX s Z Y) {Q : State → Prop} (i : Nat) (hi : i + 5 ≤ L) (g : Nat → Nat → Int32) (gl : Nat → Nat → Int64) (tf : Nat → Nat → Int32) (h : Nat → Nat → Int32) (hl : Nat → Nat → Int64) (H : Heap) (locs : List Loc) (hPx : va_P (zD Z) vwCl (xw Z g gl tf) H) (hPy : va_P (yD Y) vwCl (mw Y h hl) H) (hS : va_S (fun q => s.heap.size ≤ q) s.heap H locs) (hRp : Rpg g h) (hRt : Rtr Z g tf h) (hRs : Rsn g h) (hRd : Rdk g h i) (hRk : Rkp Z g tf h) (hRx : Rtx Z g tf h) (hRq : Rsq g h) (hJ : MJ h) (h40 : (h 31 0).toInt ≤ 40) (hG : Gd Z tf) (ls : Array Slot) (hlv : lv_has ls 4 [(3, .int (nI i)), (2, .ref (ya Y 0)), (1, .ref (za Z 0)), (0, .ref b)]) (kk : ∀ (g : Nat → Nat → Int32) (gl : Nat → Nat → Int64) (tf : Nat → Nat → Int32) (h : Nat → Nat → Int32) (hl : Nat → Nat → Int64) (H : Heap) (locs : List Loc), (va_P (zD Z) vwCl (xw Z g gl tf) H) → (va_P (yD Y) vwCl (mw Y h hl) H) → (va_S (fun q => s.heap.size ≤ q) s.heap H locs) → (Rpg g h) → (Rtr Z g tf h) → (Rsn g h) → (Rdk g h (i + 5)) → (Rkp Z g tf h) → (Rtx Z g tf h) → (Rsq g h) → (MJ h) → ((h 31 0).toInt ≤ 40) → (Gd Z tf) → W p l e room_1 s m #[Value.ref b] below meth c H locs 155 6181 Q (F0 m 760 ls [])) : W p l e room_1 s m #[Value.ref b] below meth c H locs 155 6181 Q (F0 m 301 ls []) := by
  obtain ⟨hx, hb, hr, hml, hown, hts, hXs, hbl, hlocks, hgv⟩ := C0
  have hT := hTl
  have hbA : ¬ (fun q : Nat => s.heap.size ≤ q) b := Nat.not_le.mpr hbl
  have hsx := hX.2.2.2.1
  have hsy := hX.2.2.2.2.1
  have hKx := hX.2.2.2.2.2.1
  have hKy := hX.2.2.2.2.2.2.1
  refine lv_aload_n hx hb dL_law_301 rfl (lv_at hlv 2 rfl) ?_
  refine lv_aload_n hx hb dL_law_302 rfl (lv_at hlv 3 rfl) ?_
  refine lv_iload_n hx hb dL_law_303 rfl (lv_at hlv 0 rfl) ?_
  refine lv_iconst (v := 1) hx hb dL_law_304 (by decide) ?_
  refine lv_iadd hx hb dL_law_305 ?_
  refine lv_topi (fun v_305 e_305 => ?_)
  have t_305 : v_305 = nI (i + 1) := by rw [e_305]; exact nI_add i 1
  have h_306 : vp_in v_305 L := by rw [t_305]; exact vp_in_nI (by omega) (by omega)
  refine va_sld hx hb hXs hbl hbA hS h_306 dL_law_306 ?_
  refine lv_topi (fun a_306 ea_306 => ?_)
  refine lv_aload_n hx hb dL_law_307 rfl (lv_at hlv 3 rfl) ?_
  refine lv_iload_n hx hb dL_law_308 rfl (lv_at hlv 0 rfl) ?_
  refine lv_iconst (v := 2) hx hb dL_law_309 (by decide) ?_
  refine lv_iadd hx hb dL_law_310 ?_
  refine lv_topi (fun v_310 e_310 => ?_)
  have t_310 : v_310 = nI (i + 2) := by rw [e_310]; exact nI_add i 2
  have h_311 : vp_in v_310 L := by rw [t_310]; exact vp_in_nI (by omega) (by omega)
  refine va_sld hx hb hXs hbl hbA hS h_311 dL_law_311 ?_
  refine lv_topi (fun a_311 ea_311 => ?_)
  refine rd_ci (va_runV (As := [.int a_306, .int a_311]) (rest := []) ⟨hx, hb, hml, hown, hT⟩ (c_X6_node l Z hX.1 g gl tf a_306 a_311 hG) (cwV 2 hT (tb_V (fun _ h => h) (tr_25 _ (List.mem_of_getElem? (i := 9) rfl)) (tr_25 _ (List.mem_of_getElem? (i := 10) rfl)) (tr_25 _ (List.mem_of_getElem? (i := 11) rfl)) (tr_1 _ (List.mem_of_getElem? (i := 2) rfl)) (tr_25 _ (List.mem_of_getElem? (i := 12) rfl))) rfl rfl rfl (by decide +kernel) ⟨Nat.le_of_ble_eq_true rfl, Nat.le_of_ble_eq_true rfl⟩) ⟨fun a U f mk q => ⟨q.1, XI.blind f mk a q.2⟩, va_recv hKx hPx (ci := 6) (q0 := 0) rfl xw_0, fun U hU hW => ⟨rfl, hX.xi hS hPx hU hW⟩⟩ rfl rfl hlv.1 rfl (lv_room (Nat.le_of_ble_eq_true rfl)) dL_law_312 ⟨Nat.le_of_ble_eq_true rfl, Nat.le_of_ble_eq_true rfl⟩) (fun r_312 hr_312 => ?_)
  refine lv_pop hx hb dL_law_315 rfl ?_
  refine lv_aload_n hx hb dL_law_316 rfl (lv_at hlv 1 rfl) ?_
  refine lv_aload_n hx hb dL_law_317 rfl (lv_at hlv 3 rfl) ?_
  refine lv_iload_n hx hb dL_law_318 rfl (lv_at hlv 0 rfl) ?_
  refine lv_iconst (v := 1) hx hb dL_law_319 (by decide) ?_
  refine lv_iadd hx hb dL_law_320 ?_
  refine lv_topi (fun v_320 e_320 => ?_)
  have t_320 : v_320 = nI (i + 1) := by rw [e_320]; exact nI_add i 1
  have h_321 : vp_in v_320 L := by rw [t_320]; exact vp_in_nI (by omega) (by omega)
  refine va_sld hx hb hXs hbl hbA hS h_321 dL_law_321 ?_
  refine lv_topi (fun a_321 ea_321 => ?_)
  refine lv_aload_n hx hb dL_law_322 rfl (lv_at hlv 3 rfl) ?_
  refine lv_iload_n hx hb dL_law_323 rfl (lv_at hlv 0 rfl) ?_
  refine lv_iconst (v := 2) hx hb dL_law_324 (by decide) ?_
  refine lv_iadd hx hb dL_law_325 ?_
  refine lv_topi (fun v_325 e_325 => ?_)
  have t_325 : v_325 = nI (i + 2) := by rw [e_325]; exact nI_add i 2
  have h_326 : vp_in v_325 L := by rw [t_325]; exact vp_in_nI (by omega) (by omega)
  refine va_sld hx hb hXs hbl hbA hS h_326 dL_law_326 ?_
  refine lv_topi (fun a_326 ea_326 => ?_)
  refine rd_ci (va_runV (As := [.int a_321, .int a_326]) (rest := []) ⟨hx, hb, hml, hown, hT⟩ (c_X7_node l Y hX.2.1 h hl a_321 a_326 hJ) (cwV 2 hT (tb_V (fun _ h => h) (tr_25 _ (List.mem_of_getElem? (i := 20) rfl)) (tr_25 _ (List.mem_of_getElem? (i := 21) rfl)) (tr_25 _ (List.mem_of_getElem? (i := 22) rfl)) (tr_1 _ (List.mem_of_getElem? (i := 5) rfl)) (tr_25 _ (List.mem_of_getElem? (i := 23) rfl))) rfl rfl rfl (by decide +kernel) ⟨Nat.le_of_ble_eq_true rfl, Nat.le_of_ble_eq_true rfl⟩) ⟨fun a U f mk q => ⟨q.1, MI.blind f mk a q.2⟩, va_recv hKy hPy (ci := 7) (q0 := 0) rfl mw_0, fun U hU hW => ⟨rfl, hX.mi hPy hU hW⟩⟩ rfl rfl hlv.1 rfl (lv_room (Nat.le_of_ble_eq_true rfl)) dL_law_327 ⟨Nat.le_of_ble_eq_true rfl, Nat.le_of_ble_eq_true rfl⟩) (fun r_327 hr_327 => ?_)
  refine lv_pop hx hb dL_law_330 rfl ?_
  refine lv_goto (tgt := 760) hx hb dL_law_331 (by decide) ?_
  have exy0 : a_321 = a_306 := by rw [ea_321, ea_306, t_320, t_305]
  subst exy0
  have exy1 : a_326 = a_311 := by rw [ea_326, ea_311, t_325, t_310]
  subst exy1
  exact kk g gl tf h hl _ _ hPx hPy hS (hRp.fr (Fr.rf (S := [])) (Fr.rf (S := [])) (by decide) (by decide)) (hRt.fr (Fr.rf (S := [])) (Fr.rf (S := [])) (by decide) (by decide) (fun _ _ => rfl)) (hRs.fr (Fr.rf (S := [])) (Fr.rf (S := [])) (by decide) (by decide)) ((hRd.fr (Fr.rf (S := [])) (Fr.rf (S := [])) (by decide) (by decide)).le (by omega)) (hRk.fr (Fr.rf (S := [])) (Fr.rf (S := [])) (by decide) (by decide) (fun _ _ => rfl)) (hRx.fr hX.1 ⟨hJ.j31.1, h40⟩ hRt.1 (Fr.rf (S := [])) (Fr.rf (S := [])) (by decide) (by decide) (fun _ _ => rfl)) (hRq.fr (Fr.rf (S := [])) (Fr.rf (S := [])) (by decide) (by decide)) hJ h40 hG
set_option maxHeartbeats 4000000 in
set_option maxRecDepth 100000 in
theorem law_8 {p : Program} {l : Launch} {e : Env} {s : State} {m : MethodId} {below : List Frame} {meth : Method} {c : Code} {b L : Nat} {xs : Nat → Int32} (hL : L ≤ 2560) (C0 : lw_At p s m meth c b L xs) (hTl : ∀ w ∈ wsL_law, w.before #[Value.ref b] s = true) {Z : ZT} {Y : YT} (hX : LX s Z Y) {Q : State → Prop} (i : Nat) (hi : i + 5 ≤ L) (g : Nat → Nat → Int32) (gl : Nat → Nat → Int64) (tf : Nat → Nat → Int32) (h : Nat → Nat → Int32) (hl : Nat → Nat → Int64) (H : Heap) (locs : List Loc) (hPx : va_P (zD Z) vwCl (xw Z g gl tf) H) (hPy : va_P (yD Y) vwCl (mw Y h hl) H) (hS : va_S (fun q => s.heap.size ≤ q) s.heap H locs) (hRp : Rpg g h) (hRt : Rtr Z g tf h) (hRs : Rsn g h) (hRd : Rdk g h i) (hRk : Rkp Z g tf h) (hRx : Rtx Z g tf h) (hRq : Rsq g h) (hJ : MJ h) (h40 : (h 31 0).toInt ≤ 40) (hG : Gd Z tf) (ls : Array Slot) (hlv : lv_has ls 4 [(3, .int (nI i)), (2, .ref (ya Y 0)), (1, .ref (za Z 0)), (0, .ref b)]) (kk : ∀ (g : Nat → Nat → Int32) (gl : Nat → Nat → Int64) (tf : Nat → Nat → Int32) (h : Nat → Nat → Int32) (hl : Nat → Nat → Int64) (H : Heap) (locs : List Loc), (va_P (zD Z) vwCl (xw Z g gl tf) H) → (va_P (yD Y) vwCl (mw Y h hl) H) → (va_S (fun q => s.heap.size ≤ q) s.heap H locs) → (Rpg g h) → (Rtr Z g tf h) → (Rsn g h) → (Rdk g h (i + 5)) → (Rkp Z g tf h) → (Rtx Z g tf h) → (Rsq g h) → (MJ h) → ((h 31 0).toInt ≤ 40) → (Gd Z tf) → W p l e room_1 s m #[Value.ref b] below meth c H locs 155 6181 Q (F0 m 760 ls [])) : W p l e room_1 s m #[Value.ref b] below meth c H locs 155 6181 Q (F0 m 334 ls []) := by
  obtain ⟨hx, hb, hr, hml, hown, hts, hXs, hbl, hlocks, hgv⟩ := C0
  have hT := hTl
  have hbA : ¬ (fun q : Nat => s.heap.size ≤ q) b := Nat.not_le.mpr hbl
  have hsx := hX.2.2.2.1
  have hsy := hX.2.2.2.2.1
  have hKx := hX.2.2.2.2.2.1
  have hKy := hX.2.2.2.2.2.2.1
  refine lv_aload_n hx hb dL_law_334 rfl (lv_at hlv 2 rfl) ?_
  refine lv_aload_n hx hb dL_law_335 rfl (lv_at hlv 3 rfl) ?_
  refine lv_iload_n hx hb dL_law_336 rfl (lv_at hlv 0 rfl) ?_
  refine lv_iconst (v := 1) hx hb dL_law_337 (by decide) ?_
  refine lv_iadd hx hb dL_law_338 ?_
  refine lv_topi (fun v_338 e_338 => ?_)
  have t_338 : v_338 = nI (i + 1) := by rw [e_338]; exact nI_add i 1
  have h_339 : vp_in v_338 L := by rw [t_338]; exact vp_in_nI (by omega) (by omega)
  refine va_sld hx hb hXs hbl hbA hS h_339 dL_law_339 ?_
  refine lv_topi (fun a_339 ea_339 => ?_)
  refine lv_aload_n hx hb dL_law_340 rfl (lv_at hlv 3 rfl) ?_
  refine lv_iload_n hx hb dL_law_341 rfl (lv_at hlv 0 rfl) ?_
  refine lv_iconst (v := 2) hx hb dL_law_342 (by decide) ?_
  refine lv_iadd hx hb dL_law_343 ?_
  refine lv_topi (fun v_343 e_343 => ?_)
  have t_343 : v_343 = nI (i + 2) := by rw [e_343]; exact nI_add i 2
  have h_344 : vp_in v_343 L := by rw [t_343]; exact vp_in_nI (by omega) (by omega)
  refine va_sld hx hb hXs hbl hbA hS h_344 dL_law_344 ?_
  refine lv_topi (fun a_344 ea_344 => ?_)
  refine lv_aload_n hx hb dL_law_345 rfl (lv_at hlv 3 rfl) ?_
  refine lv_iload_n hx hb dL_law_346 rfl (lv_at hlv 0 rfl) ?_
  refine lv_iconst (v := 3) hx hb dL_law_347 (by decide) ?_
  refine lv_iadd hx hb dL_law_348 ?_
  refine lv_topi (fun v_348 e_348 => ?_)
  have t_348 : v_348 = nI (i + 3) := by rw [e_348]; exact nI_add i 3
  have h_349 : vp_in v_348 L := by rw [t_348]; exact vp_in_nI (by omega) (by omega)
  refine va_sld hx hb hXs hbl hbA hS h_349 dL_law_349 ?_
  refine lv_topi (fun a_349 ea_349 => ?_)
  refine lv_aload_n hx hb dL_law_350 rfl (lv_at hlv 3 rfl) ?_
  refine lv_iload_n hx hb dL_law_351 rfl (lv_at hlv 0 rfl) ?_
  refine lv_iconst (v := 4) hx hb dL_law_352 (by decide) ?_
  refine lv_iadd hx hb dL_law_353 ?_
  refine lv_topi (fun v_353 e_353 => ?_)
  have t_353 : v_353 = nI (i + 4) := by rw [e_353]; exact nI_add i 4
  have h_354 : vp_in v_353 L := by rw [t_353]; exact vp_in_nI (by omega) (by omega)
  refine va_sld hx hb hXs hbl hbA hS h_354 dL_law_354 ?_
  refine lv_topi (fun a_354 ea_354 => ?_)
  refine va_calli (va_runV (As := [.int a_339, .int a_344, .int a_349, .int a_354]) (rest := []) ⟨hx, hb, hml, hown, hT⟩ (c_X6_offer l Z hX.1 g gl tf a_339 a_344 a_349 a_354 (by rw [hRt.1]; exact ⟨hJ.j31.1, h40⟩) hRx.1 hG) (cwV 4 hT (tb_V (fun _ h => h) (tr_26 _ (List.mem_of_getElem? (i := 4) rfl)) (tr_26 _ (List.mem_of_getElem? (i := 5) rfl)) (tr_26 _ (List.mem_of_getElem? (i := 6) rfl)) (tr_1 _ (List.mem_of_getElem? (i := 2) rfl)) (tr_26 _ (List.mem_of_getElem? (i := 7) rfl))) rfl rfl rfl (by decide +kernel) ⟨Nat.le_of_ble_eq_true rfl, Nat.le_of_ble_eq_true rfl⟩) ⟨fun a U f mk q => ⟨q.1, XI.blind f mk a q.2⟩, va_recv hKx hPx (ci := 6) (q0 := 0) rfl xw_0, fun U hU hW => ⟨rfl, hX.xi hS hPx hU hW⟩⟩ rfl rfl hlv.1 rfl (lv_room (Nat.le_of_ble_eq_true rfl)) dL_law_355 ⟨Nat.le_of_ble_eq_true rfl, Nat.le_of_ble_eq_true rfl⟩) hS (fun q _ h => hsx q h) hsx (fun r_355 u_355 t_355 H1 locs ht_355 _ hw_355 hB_355 _ hk_355 hS => ?_)
  obtain ⟨g1, gl1, tf1⟩ := u_355
  have hPy := hX.ky hPy hk_355
  have hPx : va_P (zD Z) vwCl (xw Z g1 gl1 tf1) H1 := ht_355 ▸ hB_355
  obtain ⟨hf, hG, hp1⟩ := hw_355
  dsimp only at hf hG hp1
  generalize H1 = H at hPx hPy hS ⊢
  refine lv_pop hx hb dL_law_358 rfl ?_
  refine lv_aload_n hx hb dL_law_359 rfl (lv_at hlv 1 rfl) ?_
  refine lv_aload_n hx hb dL_law_360 rfl (lv_at hlv 3 rfl) ?_
  refine lv_iload_n hx hb dL_law_361 rfl (lv_at hlv 0 rfl) ?_
  refine lv_iconst (v := 1) hx hb dL_law_362 (by decide) ?_
  refine lv_iadd hx hb dL_law_363 ?_
  refine lv_topi (fun v_363 e_363 => ?_)
  have t_363 : v_363 = nI (i + 1) := by rw [e_363]; exact nI_add i 1
  have h_364 : vp_in v_363 L := by rw [t_363]; exact vp_in_nI (by omega) (by omega)
  refine va_sld hx hb hXs hbl hbA hS h_364 dL_law_364 ?_
  refine lv_topi (fun a_364 ea_364 => ?_)
  refine lv_aload_n hx hb dL_law_365 rfl (lv_at hlv 3 rfl) ?_
  refine lv_iload_n hx hb dL_law_366 rfl (lv_at hlv 0 rfl) ?_
  refine lv_iconst (v := 2) hx hb dL_law_367 (by decide) ?_
  refine lv_iadd hx hb dL_law_368 ?_
  refine lv_topi (fun v_368 e_368 => ?_)
  have t_368 : v_368 = nI (i + 2) := by rw [e_368]; exact nI_add i 2
  have h_369 : vp_in v_368 L := by rw [t_368]; exact vp_in_nI (by omega) (by omega)
  refine va_sld hx hb hXs hbl hbA hS h_369 dL_law_369 ?_
  refine lv_topi (fun a_369 ea_369 => ?_)
  refine lv_aload_n hx hb dL_law_370 rfl (lv_at hlv 3 rfl) ?_
  refine lv_iload_n hx hb dL_law_371 rfl (lv_at hlv 0 rfl) ?_
  refine lv_iconst (v := 3) hx hb dL_law_372 (by decide) ?_
  refine lv_iadd hx hb dL_law_373 ?_
  refine lv_topi (fun v_373 e_373 => ?_)
  have t_373 : v_373 = nI (i + 3) := by rw [e_373]; exact nI_add i 3
  have h_374 : vp_in v_373 L := by rw [t_373]; exact vp_in_nI (by omega) (by omega)
  refine va_sld hx hb hXs hbl hbA hS h_374 dL_law_374 ?_
  refine lv_topi (fun a_374 ea_374 => ?_)
  refine lv_aload_n hx hb dL_law_375 rfl (lv_at hlv 3 rfl) ?_
  refine lv_iload_n hx hb dL_law_376 rfl (lv_at hlv 0 rfl) ?_
  refine lv_iconst (v := 4) hx hb dL_law_377 (by decide) ?_
  refine lv_iadd hx hb dL_law_378 ?_
  refine lv_topi (fun v_378 e_378 => ?_)
  have t_378 : v_378 = nI (i + 4) := by rw [e_378]; exact nI_add i 4
  have h_379 : vp_in v_378 L := by rw [t_378]; exact vp_in_nI (by omega) (by omega)
  refine va_sld hx hb hXs hbl hbA hS h_379 dL_law_379 ?_
  refine lv_topi (fun a_379 ea_379 => ?_)
  refine va_calli (va_runV (As := [.int a_364, .int a_369, .int a_374, .int a_379]) (rest := []) ⟨hx, hb, hml, hown, hT⟩ (c_X7_offer l Y hX.2.1 h hl a_364 a_369 a_374 a_379 h40 hJ) (cwV 4 hT (tb_V (fun _ h => h) (tr_27 _ (List.mem_of_getElem? (i := 3) rfl)) (tr_27 _ (List.mem_of_getElem? (i := 4) rfl)) (tr_27 _ (List.mem_of_getElem? (i := 5) rfl)) (tr_1 _ (List.mem_of_getElem? (i := 5) rfl)) (tr_27 _ (List.mem_of_getElem? (i := 6) rfl))) rfl rfl rfl (by decide +kernel) ⟨Nat.le_of_ble_eq_true rfl, Nat.le_of_ble_eq_true rfl⟩) ⟨fun a U f mk q => ⟨q.1, MI.blind f mk a q.2⟩, va_recv hKy hPy (ci := 7) (q0 := 0) rfl mw_0, fun U hU hW => ⟨rfl, hX.mi hPy hU hW⟩⟩ rfl rfl hlv.1 rfl (lv_room (Nat.le_of_ble_eq_true rfl)) dL_law_380 ⟨Nat.le_of_ble_eq_true rfl, Nat.le_of_ble_eq_true rfl⟩) hS (fun q _ h => hsy q h) hsy (fun r_380 u_380 t_380 H1 locs ht_380 _ hw_380 hB_380 _ hk_380 hS => ?_)
  obtain ⟨h1, hl1⟩ := u_380
  have hPx := hX.kx hPx hk_380
  have hPy : va_P (yD Y) vwCl (mw Y h1 hl1) H1 := ht_380 ▸ hB_380
  obtain ⟨hf2, hJ1, el2, hp2⟩ := hw_380
  dsimp only at hf2 hJ1 el2 hp2
  subst el2
  generalize H1 = H at hPx hPy hS ⊢
  refine lv_pop hx hb dL_law_383 rfl ?_
  refine lv_goto (tgt := 760) hx hb dL_law_384 (by decide) ?_
  have exy0 : a_364 = a_339 := by rw [ea_364, ea_339, t_363, t_338]
  subst exy0
  have exy1 : a_369 = a_344 := by rw [ea_369, ea_344, t_368, t_343]
  subst exy1
  have exy2 : a_374 = a_349 := by rw [ea_374, ea_349, t_373, t_348]
  subst exy2
  have exy3 : a_379 = a_354 := by rw [ea_379, ea_354, t_378, t_353]
  subst exy3
  obtain ⟨hRt1, hRx1, res⟩ := case_offer hX.1 hRt hRd ⟨hJ.j31.1, h40⟩ hG hJ1 hRx hf2 hp1 hp2.1
  exact kk g1 gl1 tf1 h1 hl _ _ hPx hPy hS (hRp.fr hf hf2 (by decide) (by decide)) hRt1 (hRs.fr hf hf2 (by decide) (by decide)) ((hRd.fr hf hf2 (by decide) (by decide)).le (by omega)) (hRk.fr hf hf2 (by decide) (by decide) (fun t ht => hp1.2 _ (hX.1.ka ht) (hX.1.rk (by have q := hJ.j31; rw [hRt.1]; omega) ht).symm)) hRx1 (hRq.fr hf hf2 (by decide) (by decide)) hJ1 hp2.2 hG
set_option maxHeartbeats 4000000 in
set_option maxRecDepth 100000 in
theorem law_9 {p : Program} {l : Launch} {e : Env} {s : State} {m : MethodId} {below : List Frame} {meth : Method} {c : Code} {b L : Nat} {xs : Nat → Int32} (hL : L ≤ 2560) (C0 : lw_At p s m meth c b L xs) (hTl : ∀ w ∈ wsL_law, w.before #[Value.ref b] s = true) {Z : ZT} {Y : YT} (hX : LX s Z Y) {Q : State → Prop} (i : Nat) (hi : i + 5 ≤ L) (g : Nat → Nat → Int32) (gl : Nat → Nat → Int64) (tf : Nat → Nat → Int32) (h : Nat → Nat → Int32) (hl : Nat → Nat → Int64) (H : Heap) (locs : List Loc) (hPx : va_P (zD Z) vwCl (xw Z g gl tf) H) (hPy : va_P (yD Y) vwCl (mw Y h hl) H) (hS : va_S (fun q => s.heap.size ≤ q) s.heap H locs) (hRp : Rpg g h) (hRt : Rtr Z g tf h) (hRs : Rsn g h) (hRd : Rdk g h i) (hRk : Rkp Z g tf h) (hRx : Rtx Z g tf h) (hRq : Rsq g h) (hJ : MJ h) (h40 : (h 31 0).toInt ≤ 40) (hG : Gd Z tf) (ls : Array Slot) (hlv : lv_has ls 4 [(3, .int (nI i)), (2, .ref (ya Y 0)), (1, .ref (za Z 0)), (0, .ref b)]) (kk : ∀ (g : Nat → Nat → Int32) (gl : Nat → Nat → Int64) (tf : Nat → Nat → Int32) (h : Nat → Nat → Int32) (hl : Nat → Nat → Int64) (H : Heap) (locs : List Loc), (va_P (zD Z) vwCl (xw Z g gl tf) H) → (va_P (yD Y) vwCl (mw Y h hl) H) → (va_S (fun q => s.heap.size ≤ q) s.heap H locs) → (Rpg g h) → (Rtr Z g tf h) → (Rsn g h) → (Rdk g h (i + 5)) → (Rkp Z g tf h) → (Rtx Z g tf h) → (Rsq g h) → (MJ h) → ((h 31 0).toInt ≤ 40) → (Gd Z tf) → W p l e room_1 s m #[Value.ref b] below meth c H locs 155 6181 Q (F0 m 760 ls [])) : W p l e room_1 s m #[Value.ref b] below meth c H locs 155 6181 Q (F0 m 387 ls []) := by
  obtain ⟨hx, hb, hr, hml, hown, hts, hXs, hbl, hlocks, hgv⟩ := C0
  have hT := hTl
  have hbA : ¬ (fun q : Nat => s.heap.size ≤ q) b := Nat.not_le.mpr hbl
  have hsx := hX.2.2.2.1
  have hsy := hX.2.2.2.2.1
  have hKx := hX.2.2.2.2.2.1
  have hKy := hX.2.2.2.2.2.2.1
  refine lv_aload_n hx hb dL_law_387 rfl (lv_at hlv 2 rfl) ?_
  refine va_calli (va_runV (As := []) (rest := []) ⟨hx, hb, hml, hown, hT⟩ (c_X6_undo l Z hX.1 g gl tf (by rw [hRt.1]; exact ⟨hJ.j31.1, h40⟩) hRx.1 hG) (cwV 0 hT (tb_V (fun _ h => h) (tr_28 _ (List.mem_of_getElem? (i := 2) rfl)) (tr_28 _ (List.mem_of_getElem? (i := 3) rfl)) (tr_28 _ (List.mem_of_getElem? (i := 4) rfl)) (tr_1 _ (List.mem_of_getElem? (i := 2) rfl)) (tr_28 _ (List.mem_of_getElem? (i := 5) rfl))) rfl rfl rfl (by decide +kernel) ⟨Nat.le_of_ble_eq_true rfl, Nat.le_of_ble_eq_true rfl⟩) ⟨fun a U f mk q => ⟨q.1, XI.blind f mk a q.2⟩, va_recv hKx hPx (ci := 6) (q0 := 0) rfl xw_0, fun U hU hW => ⟨rfl, hX.xi hS hPx hU hW⟩⟩ rfl rfl hlv.1 rfl (lv_room (Nat.le_of_ble_eq_true rfl)) dL_law_388 ⟨Nat.le_of_ble_eq_true rfl, Nat.le_of_ble_eq_true rfl⟩) hS (fun q _ h => hsx q h) hsx (fun r_388 u_388 t_388 H1 locs ht_388 _ hw_388 hB_388 _ hk_388 hS => ?_)
  obtain ⟨g1, gl1, tf1⟩ := u_388
  have hPy := hX.ky hPy hk_388
  have hPx : va_P (zD Z) vwCl (xw Z g1 gl1 tf1) H1 := ht_388 ▸ hB_388
  obtain ⟨hf, hG, et, hp1⟩ := hw_388
  dsimp only at hf hG et hp1
  subst et
  generalize H1 = H at hPx hPy hS ⊢
  refine lv_pop hx hb dL_law_391 rfl ?_
  refine lv_aload_n hx hb dL_law_392 rfl (lv_at hlv 1 rfl) ?_
  refine va_calli (va_runV (As := []) (rest := []) ⟨hx, hb, hml, hown, hT⟩ (c_X7_undo l Y hX.2.1 h hl h40 hJ) (cwV 0 hT (tb_V (fun _ h => h) (tr_28 _ (List.mem_of_getElem? (i := 19) rfl)) (tr_28 _ (List.mem_of_getElem? (i := 20) rfl)) (tr_28 _ (List.mem_of_getElem? (i := 21) rfl)) (tr_1 _ (List.mem_of_getElem? (i := 5) rfl)) (tr_28 _ (List.mem_of_getElem? (i := 22) rfl))) rfl rfl rfl (by decide +kernel) ⟨Nat.le_of_ble_eq_true rfl, Nat.le_of_ble_eq_true rfl⟩) ⟨fun a U f mk q => ⟨q.1, MI.blind f mk a q.2⟩, va_recv hKy hPy (ci := 7) (q0 := 0) rfl mw_0, fun U hU hW => ⟨rfl, hX.mi hPy hU hW⟩⟩ rfl rfl hlv.1 rfl (lv_room (Nat.le_of_ble_eq_true rfl)) dL_law_393 ⟨Nat.le_of_ble_eq_true rfl, Nat.le_of_ble_eq_true rfl⟩) hS (fun q _ h => hsy q h) hsy (fun r_393 u_393 t_393 H1 locs ht_393 _ hw_393 hB_393 _ hk_393 hS => ?_)
  obtain ⟨h1, hl1⟩ := u_393
  have hPx := hX.kx hPx hk_393
  have hPy : va_P (yD Y) vwCl (mw Y h1 hl1) H1 := ht_393 ▸ hB_393
  obtain ⟨hf2, hJ1, el2, hp2⟩ := hw_393
  dsimp only at hf2 hJ1 el2 hp2
  subst el2
  generalize H1 = H at hPx hPy hS ⊢
  refine lv_pop hx hb dL_law_396 rfl ?_
  refine lv_goto (tgt := 760) hx hb dL_law_397 (by decide) ?_
  obtain ⟨hRt1, hRx1, res⟩ := case_undo hRt hJ.j31 hRx hf2 hp1 hp2.1
  exact kk g1 gl1 tf h1 hl _ _ hPx hPy hS (hRp.fr hf hf2 (by decide) (by decide)) hRt1 (hRs.fr hf hf2 (by decide) (by decide)) ((hRd.fr hf hf2 (by decide) (by decide)).le (by omega)) (hRk.fr hf hf2 (by decide) (by decide) (fun _ _ => rfl)) hRx1 (hRq.fr hf hf2 (by decide) (by decide)) hJ1 hp2.2 hG
set_option maxHeartbeats 4000000 in
set_option maxRecDepth 100000 in
theorem law_10 {p : Program} {l : Launch} {e : Env} {s : State} {m : MethodId} {below : List Frame} {meth : Method} {c : Code} {b L : Nat} {xs : Nat → Int32} (hL : L ≤ 2560) (C0 : lw_At p s m meth c b L xs) (hTl : ∀ w ∈ wsL_law, w.before #[Value.ref b] s = true) {Z : ZT} {Y : YT} (hX : LX s Z Y) {Q : State → Prop} (i : Nat) (hi : i + 5 ≤ L) (g : Nat → Nat → Int32) (gl : Nat → Nat → Int64) (tf : Nat → Nat → Int32) (h : Nat → Nat → Int32) (hl : Nat → Nat → Int64) (H : Heap) (locs : List Loc) (hPx : va_P (zD Z) vwCl (xw Z g gl tf) H) (hPy : va_P (yD Y) vwCl (mw Y h hl) H) (hS : va_S (fun q => s.heap.size ≤ q) s.heap H locs) (hRp : Rpg g h) (hRt : Rtr Z g tf h) (hRs : Rsn g h) (hRd : Rdk g h i) (hRk : Rkp Z g tf h) (hRx : Rtx Z g tf h) (hRq : Rsq g h) (hJ : MJ h) (h40 : (h 31 0).toInt ≤ 40) (hG : Gd Z tf) (ls : Array Slot) (hlv : lv_has ls 4 [(3, .int (nI i)), (2, .ref (ya Y 0)), (1, .ref (za Z 0)), (0, .ref b)]) (kk : ∀ (g : Nat → Nat → Int32) (gl : Nat → Nat → Int64) (tf : Nat → Nat → Int32) (h : Nat → Nat → Int32) (hl : Nat → Nat → Int64) (H : Heap) (locs : List Loc), (va_P (zD Z) vwCl (xw Z g gl tf) H) → (va_P (yD Y) vwCl (mw Y h hl) H) → (va_S (fun q => s.heap.size ≤ q) s.heap H locs) → (Rpg g h) → (Rtr Z g tf h) → (Rsn g h) → (Rdk g h (i + 5)) → (Rkp Z g tf h) → (Rtx Z g tf h) → (Rsq g h) → (MJ h) → ((h 31 0).toInt ≤ 40) → (Gd Z tf) → W p l e room_1 s m #[Value.ref b] below meth c H locs 155 6181 Q (F0 m 760 ls [])) : W p l e room_1 s m #[Value.ref b] below meth c H locs 155 6181 Q (F0 m 400 ls []) := by
  obtain ⟨hx, hb, hr, hml, hown, hts, hXs, hbl, hlocks, hgv⟩ := C0
  have hT := hTl
  have hbA : ¬ (fun q : Nat => s.heap.size ≤ q) b := Nat.not_le.mpr hbl
  have hsx := hX.2.2.2.1
  have hsy := hX.2.2.2.2.1
  have hKx := hX.2.2.2.2.2.1
  have hKy := hX.2.2.2.2.2.2.1
  refine lv_aload_n hx hb dL_law_400 rfl (lv_at hlv 2 rfl) ?_
  refine lv_aload_n hx hb dL_law_401 rfl (lv_at hlv 3 rfl) ?_
  refine lv_iload_n hx hb dL_law_402 rfl (lv_at hlv 0 rfl) ?_
  refine lv_iconst (v := 1) hx hb dL_law_403 (by decide) ?_
  refine lv_iadd hx hb dL_law_404 ?_
  refine lv_topi (fun v_404 e_404 => ?_)
  have t_404 : v_404 = nI (i + 1) := by rw [e_404]; exact nI_add i 1
  have h_405 : vp_in v_404 L := by rw [t_404]; exact vp_in_nI (by omega) (by omega)
  refine va_sld hx hb hXs hbl hbA hS h_405 dL_law_405 ?_
  refine lv_topi (fun a_405 ea_405 => ?_)
  refine rd_ci (va_runV (As := [.int a_405]) (rest := []) ⟨hx, hb, hml, hown, hT⟩ (c_X6_cheapest l Z hX.1 g gl tf a_405 hG) (cwV 1 hT (tb_V (fun _ h => h) (tr_29 _ (List.mem_of_getElem? (i := 3) rfl)) (tr_29 _ (List.mem_of_getElem? (i := 4) rfl)) (tr_29 _ (List.mem_of_getElem? (i := 5) rfl)) (tr_1 _ (List.mem_of_getElem? (i := 2) rfl)) (tr_29 _ (List.mem_of_getElem? (i := 6) rfl))) rfl rfl rfl (by decide +kernel) ⟨Nat.le_of_ble_eq_true rfl, Nat.le_of_ble_eq_true rfl⟩) ⟨fun a U f mk q => ⟨q.1, XI.blind f mk a q.2⟩, va_recv hKx hPx (ci := 6) (q0 := 0) rfl xw_0, fun U hU hW => ⟨rfl, hX.xi hS hPx hU hW⟩⟩ rfl rfl hlv.1 rfl (lv_room (Nat.le_of_ble_eq_true rfl)) dL_law_406 ⟨Nat.le_of_ble_eq_true rfl, Nat.le_of_ble_eq_true rfl⟩) (fun r_406 hr_406 => ?_)
  refine lv_pop hx hb dL_law_409 rfl ?_
  refine lv_aload_n hx hb dL_law_410 rfl (lv_at hlv 1 rfl) ?_
  refine lv_aload_n hx hb dL_law_411 rfl (lv_at hlv 3 rfl) ?_
  refine lv_iload_n hx hb dL_law_412 rfl (lv_at hlv 0 rfl) ?_
  refine lv_iconst (v := 1) hx hb dL_law_413 (by decide) ?_
  refine lv_iadd hx hb dL_law_414 ?_
  refine lv_topi (fun v_414 e_414 => ?_)
  have t_414 : v_414 = nI (i + 1) := by rw [e_414]; exact nI_add i 1
  have h_415 : vp_in v_414 L := by rw [t_414]; exact vp_in_nI (by omega) (by omega)
  refine va_sld hx hb hXs hbl hbA hS h_415 dL_law_415 ?_
  refine lv_topi (fun a_415 ea_415 => ?_)
  refine rd_ci (va_runV (As := [.int a_415]) (rest := []) ⟨hx, hb, hml, hown, hT⟩ (c_X7_cheapest l Y hX.2.1 h hl a_415 hJ) (cwV 1 hT (tb_V (fun _ h => h) (tr_29 _ (List.mem_of_getElem? (i := 7) rfl)) (tr_29 _ (List.mem_of_getElem? (i := 8) rfl)) (tr_29 _ (List.mem_of_getElem? (i := 9) rfl)) (tr_1 _ (List.mem_of_getElem? (i := 5) rfl)) (tr_29 _ (List.mem_of_getElem? (i := 10) rfl))) rfl rfl rfl (by decide +kernel) ⟨Nat.le_of_ble_eq_true rfl, Nat.le_of_ble_eq_true rfl⟩) ⟨fun a U f mk q => ⟨q.1, MI.blind f mk a q.2⟩, va_recv hKy hPy (ci := 7) (q0 := 0) rfl mw_0, fun U hU hW => ⟨rfl, hX.mi hPy hU hW⟩⟩ rfl rfl hlv.1 rfl (lv_room (Nat.le_of_ble_eq_true rfl)) dL_law_416 ⟨Nat.le_of_ble_eq_true rfl, Nat.le_of_ble_eq_true rfl⟩) (fun r_416 hr_416 => ?_)
  refine lv_pop hx hb dL_law_419 rfl ?_
  refine lv_goto (tgt := 760) hx hb dL_law_420 (by decide) ?_
  have exy0 : a_415 = a_405 := by rw [ea_415, ea_405, t_414, t_404]
  subst exy0
  have res := case_cheapest hRt hRd hRx hJ h40 hr_406 hr_416
  exact kk g gl tf h hl _ _ hPx hPy hS (hRp.fr (Fr.rf (S := [])) (Fr.rf (S := [])) (by decide) (by decide)) (hRt.fr (Fr.rf (S := [])) (Fr.rf (S := [])) (by decide) (by decide) (fun _ _ => rfl)) (hRs.fr (Fr.rf (S := [])) (Fr.rf (S := [])) (by decide) (by decide)) ((hRd.fr (Fr.rf (S := [])) (Fr.rf (S := [])) (by decide) (by decide)).le (by omega)) (hRk.fr (Fr.rf (S := [])) (Fr.rf (S := [])) (by decide) (by decide) (fun _ _ => rfl)) (hRx.fr hX.1 ⟨hJ.j31.1, h40⟩ hRt.1 (Fr.rf (S := [])) (Fr.rf (S := [])) (by decide) (by decide) (fun _ _ => rfl)) (hRq.fr (Fr.rf (S := [])) (Fr.rf (S := [])) (by decide) (by decide)) hJ h40 hG
set_option maxHeartbeats 4000000 in
set_option maxRecDepth 100000 in
theorem law_11 {p : Program} {l : Launch} {e : Env} {s : State} {m : MethodId} {below : List Frame} {meth : Method} {c : Code} {b L : Nat} {xs : Nat → Int32} (hL : L ≤ 2560) (C0 : lw_At p s m meth c b L xs) (hTl : ∀ w ∈ wsL_law, w.before #[Value.ref b] s = true) {Z : ZT} {Y : YT} (hX : LX s Z Y) {Q : State → Prop} (i : Nat) (hi : i + 5 ≤ L) (g : Nat → Nat → Int32) (gl : Nat → Nat → Int64) (tf : Nat → Nat → Int32) (h : Nat → Nat → Int32) (hl : Nat → Nat → Int64) (H : Heap) (locs : List Loc) (hPx : va_P (zD Z) vwCl (xw Z g gl tf) H) (hPy : va_P (yD Y) vwCl (mw Y h hl) H) (hS : va_S (fun q => s.heap.size ≤ q) s.heap H locs) (hRp : Rpg g h) (hRt : Rtr Z g tf h) (hRs : Rsn g h) (hRd : Rdk g h i) (hRk : Rkp Z g tf h) (hRx : Rtx Z g tf h) (hRq : Rsq g h) (hJ : MJ h) (h40 : (h 31 0).toInt ≤ 40) (hG : Gd Z tf) (ls : Array Slot) (hlv : lv_has ls 4 [(3, .int (nI i)), (2, .ref (ya Y 0)), (1, .ref (za Z 0)), (0, .ref b)]) (kk : ∀ (g : Nat → Nat → Int32) (gl : Nat → Nat → Int64) (tf : Nat → Nat → Int32) (h : Nat → Nat → Int32) (hl : Nat → Nat → Int64) (H : Heap) (locs : List Loc), (va_P (zD Z) vwCl (xw Z g gl tf) H) → (va_P (yD Y) vwCl (mw Y h hl) H) → (va_S (fun q => s.heap.size ≤ q) s.heap H locs) → (Rpg g h) → (Rtr Z g tf h) → (Rsn g h) → (Rdk g h (i + 5)) → (Rkp Z g tf h) → (Rtx Z g tf h) → (Rsq g h) → (MJ h) → ((h 31 0).toInt ≤ 40) → (Gd Z tf) → W p l e room_1 s m #[Value.ref b] below meth c H locs 155 6181 Q (F0 m 760 ls [])) : W p l e room_1 s m #[Value.ref b] below meth c H locs 155 6181 Q (F0 m 423 ls []) := by
  obtain ⟨hx, hb, hr, hml, hown, hts, hXs, hbl, hlocks, hgv⟩ := C0
  have hT := hTl
  have hbA : ¬ (fun q : Nat => s.heap.size ≤ q) b := Nat.not_le.mpr hbl
  have hsx := hX.2.2.2.1
  have hsy := hX.2.2.2.2.1
  have hKx := hX.2.2.2.2.2.1
  have hKy := hX.2.2.2.2.2.2.1
  refine lv_aload_n hx hb dL_law_423 rfl (lv_at hlv 2 rfl) ?_
  refine lv_aload_n hx hb dL_law_424 rfl (lv_at hlv 3 rfl) ?_
  refine lv_iload_n hx hb dL_law_425 rfl (lv_at hlv 0 rfl) ?_
  refine lv_iconst (v := 1) hx hb dL_law_426 (by decide) ?_
  refine lv_iadd hx hb dL_law_427 ?_
  refine lv_topi (fun v_427 e_427 => ?_)
  have t_427 : v_427 = nI (i + 1) := by rw [e_427]; exact nI_add i 1
  have h_428 : vp_in v_427 L := by rw [t_427]; exact vp_in_nI (by omega) (by omega)
  refine va_sld hx hb hXs hbl hbA hS h_428 dL_law_428 ?_
  refine lv_topi (fun a_428 ea_428 => ?_)
  refine rd_cl (va_runV (As := [.int a_428]) (rest := []) ⟨hx, hb, hml, hown, hT⟩ (c_X6_cost l Z hX.1 g gl tf a_428 (by rw [hRt.1]; exact ⟨hJ.j31.1, h40⟩) hRx.1 hG) (cwV 1 hT (tb_V (fun _ h => h) (tr_29 _ (List.mem_of_getElem? (i := 11) rfl)) (tr_29 _ (List.mem_of_getElem? (i := 12) rfl)) (tr_29 _ (List.mem_of_getElem? (i := 13) rfl)) (tr_1 _ (List.mem_of_getElem? (i := 2) rfl)) (tr_29 _ (List.mem_of_getElem? (i := 14) rfl))) rfl rfl rfl (by decide +kernel) ⟨Nat.le_of_ble_eq_true rfl, Nat.le_of_ble_eq_true rfl⟩) ⟨fun a U f mk q => ⟨q.1, XI.blind f mk a q.2⟩, va_recv hKx hPx (ci := 6) (q0 := 0) rfl xw_0, fun U hU hW => ⟨rfl, hX.xi hS hPx hU hW⟩⟩ rfl rfl hlv.1 rfl (lv_room (Nat.le_of_ble_eq_true rfl)) dL_law_429 ⟨Nat.le_of_ble_eq_true rfl, Nat.le_of_ble_eq_true rfl⟩) (fun r_429 hr_429 => ?_)
  refine lv_aload_n hx hb dL_law_432 rfl (lv_at hlv 1 rfl) ?_
  refine lv_aload_n hx hb dL_law_433 rfl (lv_at hlv 3 rfl) ?_
  refine lv_iload_n hx hb dL_law_434 rfl (lv_at hlv 0 rfl) ?_
  refine lv_iconst (v := 1) hx hb dL_law_435 (by decide) ?_
  refine lv_iadd hx hb dL_law_436 ?_
  refine lv_topi (fun v_436 e_436 => ?_)
  have t_436 : v_436 = nI (i + 1) := by rw [e_436]; exact nI_add i 1
  have h_437 : vp_in v_436 L := by rw [t_436]; exact vp_in_nI (by omega) (by omega)
  refine va_sld hx hb hXs hbl hbA hS h_437 dL_law_437 ?_
  refine lv_topi (fun a_437 ea_437 => ?_)
  refine rd_cl (va_runV (As := [.int a_437]) (rest := [.long r_429]) ⟨hx, hb, hml, hown, hT⟩ (c_X7_cost l Y hX.2.1 h hl a_437 hJ) (cwV 1 hT (tb_V (fun _ h => h) (tr_29 _ (List.mem_of_getElem? (i := 16) rfl)) (tr_29 _ (List.mem_of_getElem? (i := 17) rfl)) (tr_29 _ (List.mem_of_getElem? (i := 18) rfl)) (tr_1 _ (List.mem_of_getElem? (i := 5) rfl)) (tr_29 _ (List.mem_of_getElem? (i := 19) rfl))) rfl rfl rfl (by decide +kernel) ⟨Nat.le_of_ble_eq_true rfl, Nat.le_of_ble_eq_true rfl⟩) ⟨fun a U f mk q => ⟨q.1, MI.blind f mk a q.2⟩, va_recv hKy hPy (ci := 7) (q0 := 0) rfl mw_0, fun U hU hW => ⟨rfl, hX.mi hPy hU hW⟩⟩ rfl rfl hlv.1 rfl (lv_room (Nat.le_of_ble_eq_true rfl)) dL_law_438 ⟨Nat.le_of_ble_eq_true rfl, Nat.le_of_ble_eq_true rfl⟩) (fun r_438 hr_438 => ?_)
  refine W.lcmp hx hb dL_law_441 ?_
  refine lv_topi (fun v_441 e_441 => ?_)
  have exy0 : a_437 = a_428 := by rw [ea_437, ea_428, t_436, t_427]
  subst exy0
  have res := case_cost hRt hRd hRx hJ h40 hr_429 hr_438
  refine lv_if_eq (tgt := 760) hx hb dL_law_442 (by decide) (fun c_9 => ?_) (fun c_9 => absurd (by rw [e_441]; exact (lg_cmp_eq _ _).mpr res) c_9)
  exact kk g gl tf h hl _ _ hPx hPy hS (hRp.fr (Fr.rf (S := [])) (Fr.rf (S := [])) (by decide) (by decide)) (hRt.fr (Fr.rf (S := [])) (Fr.rf (S := [])) (by decide) (by decide) (fun _ _ => rfl)) (hRs.fr (Fr.rf (S := [])) (Fr.rf (S := [])) (by decide) (by decide)) ((hRd.fr (Fr.rf (S := [])) (Fr.rf (S := [])) (by decide) (by decide)).le (by omega)) (hRk.fr (Fr.rf (S := [])) (Fr.rf (S := [])) (by decide) (by decide) (fun _ _ => rfl)) (hRx.fr hX.1 ⟨hJ.j31.1, h40⟩ hRt.1 (Fr.rf (S := [])) (Fr.rf (S := [])) (by decide) (by decide) (fun _ _ => rfl)) (hRq.fr (Fr.rf (S := [])) (Fr.rf (S := [])) (by decide) (by decide)) hJ h40 hG
set_option maxHeartbeats 4000000 in
set_option maxRecDepth 100000 in
theorem law_12 {p : Program} {l : Launch} {e : Env} {s : State} {m : MethodId} {below : List Frame} {meth : Method} {c : Code} {b L : Nat} {xs : Nat → Int32} (hL : L ≤ 2560) (C0 : lw_At p s m meth c b L xs) (hTl : ∀ w ∈ wsL_law, w.before #[Value.ref b] s = true) {Z : ZT} {Y : YT} (hX : LX s Z Y) {Q : State → Prop} (i : Nat) (hi : i + 5 ≤ L) (g : Nat → Nat → Int32) (gl : Nat → Nat → Int64) (tf : Nat → Nat → Int32) (h : Nat → Nat → Int32) (hl : Nat → Nat → Int64) (H : Heap) (locs : List Loc) (hPx : va_P (zD Z) vwCl (xw Z g gl tf) H) (hPy : va_P (yD Y) vwCl (mw Y h hl) H) (hS : va_S (fun q => s.heap.size ≤ q) s.heap H locs) (hRp : Rpg g h) (hRt : Rtr Z g tf h) (hRs : Rsn g h) (hRd : Rdk g h i) (hRk : Rkp Z g tf h) (hRx : Rtx Z g tf h) (hRq : Rsq g h) (hJ : MJ h) (h40 : (h 31 0).toInt ≤ 40) (hG : Gd Z tf) (ls : Array Slot) (hlv : lv_has ls 4 [(3, .int (nI i)), (2, .ref (ya Y 0)), (1, .ref (za Z 0)), (0, .ref b)]) (kk : ∀ (g : Nat → Nat → Int32) (gl : Nat → Nat → Int64) (tf : Nat → Nat → Int32) (h : Nat → Nat → Int32) (hl : Nat → Nat → Int64) (H : Heap) (locs : List Loc), (va_P (zD Z) vwCl (xw Z g gl tf) H) → (va_P (yD Y) vwCl (mw Y h hl) H) → (va_S (fun q => s.heap.size ≤ q) s.heap H locs) → (Rpg g h) → (Rtr Z g tf h) → (Rsn g h) → (Rdk g h (i + 5)) → (Rkp Z g tf h) → (Rtx Z g tf h) → (Rsq g h) → (MJ h) → ((h 31 0).toInt ≤ 40) → (Gd Z tf) → W p l e room_1 s m #[Value.ref b] below meth c H locs 155 6181 Q (F0 m 760 ls [])) : W p l e room_1 s m #[Value.ref b] below meth c H locs 155 6181 Q (F0 m 447 ls []) := by
  obtain ⟨hx, hb, hr, hml, hown, hts, hXs, hbl, hlocks, hgv⟩ := C0
  have hT := hTl
  have hbA : ¬ (fun q : Nat => s.heap.size ≤ q) b := Nat.not_le.mpr hbl
  have hsx := hX.2.2.2.1
  have hsy := hX.2.2.2.2.1
  have hKx := hX.2.2.2.2.2.1
  have hKy := hX.2.2.2.2.2.2.1
  refine lv_aload_n hx hb dL_law_447 rfl (lv_at hlv 2 rfl) ?_
  refine lv_aload_n hx hb dL_law_448 rfl (lv_at hlv 3 rfl) ?_
  refine lv_iload_n hx hb dL_law_449 rfl (lv_at hlv 0 rfl) ?_
  refine lv_iconst (v := 1) hx hb dL_law_450 (by decide) ?_
  refine lv_iadd hx hb dL_law_451 ?_
  refine lv_topi (fun v_451 e_451 => ?_)
  have t_451 : v_451 = nI (i + 1) := by rw [e_451]; exact nI_add i 1
  have h_452 : vp_in v_451 L := by rw [t_451]; exact vp_in_nI (by omega) (by omega)
  refine va_sld hx hb hXs hbl hbA hS h_452 dL_law_452 ?_
  refine lv_topi (fun a_452 ea_452 => ?_)
  refine lv_aload_n hx hb dL_law_453 rfl (lv_at hlv 3 rfl) ?_
  refine lv_iload_n hx hb dL_law_454 rfl (lv_at hlv 0 rfl) ?_
  refine lv_iconst (v := 2) hx hb dL_law_455 (by decide) ?_
  refine lv_iadd hx hb dL_law_456 ?_
  refine lv_topi (fun v_456 e_456 => ?_)
  have t_456 : v_456 = nI (i + 2) := by rw [e_456]; exact nI_add i 2
  have h_457 : vp_in v_456 L := by rw [t_456]; exact vp_in_nI (by omega) (by omega)
  refine va_sld hx hb hXs hbl hbA hS h_457 dL_law_457 ?_
  refine lv_topi (fun a_457 ea_457 => ?_)
  refine rd_ci (va_runV (As := [.int a_452, .int a_457]) (rest := []) ⟨hx, hb, hml, hown, hT⟩ (c_X6_piece l Z hX.1 g gl tf a_452 a_457 hG) (cwV 2 hT (tb_V (fun _ h => h) (tr_30 _ (List.mem_of_getElem? (i := 1) rfl)) (tr_30 _ (List.mem_of_getElem? (i := 2) rfl)) (tr_30 _ (List.mem_of_getElem? (i := 3) rfl)) (tr_1 _ (List.mem_of_getElem? (i := 2) rfl)) (tr_30 _ (List.mem_of_getElem? (i := 4) rfl))) rfl rfl rfl (by decide +kernel) ⟨Nat.le_of_ble_eq_true rfl, Nat.le_of_ble_eq_true rfl⟩) ⟨fun a U f mk q => ⟨q.1, XI.blind f mk a q.2⟩, va_recv hKx hPx (ci := 6) (q0 := 0) rfl xw_0, fun U hU hW => ⟨rfl, hX.xi hS hPx hU hW⟩⟩ rfl rfl hlv.1 rfl (lv_room (Nat.le_of_ble_eq_true rfl)) dL_law_458 ⟨Nat.le_of_ble_eq_true rfl, Nat.le_of_ble_eq_true rfl⟩) (fun r_458 hr_458 => ?_)
  refine lv_pop hx hb dL_law_461 rfl ?_
  refine lv_aload_n hx hb dL_law_462 rfl (lv_at hlv 1 rfl) ?_
  refine lv_aload_n hx hb dL_law_463 rfl (lv_at hlv 3 rfl) ?_
  refine lv_iload_n hx hb dL_law_464 rfl (lv_at hlv 0 rfl) ?_
  refine lv_iconst (v := 1) hx hb dL_law_465 (by decide) ?_
  refine lv_iadd hx hb dL_law_466 ?_
  refine lv_topi (fun v_466 e_466 => ?_)
  have t_466 : v_466 = nI (i + 1) := by rw [e_466]; exact nI_add i 1
  have h_467 : vp_in v_466 L := by rw [t_466]; exact vp_in_nI (by omega) (by omega)
  refine va_sld hx hb hXs hbl hbA hS h_467 dL_law_467 ?_
  refine lv_topi (fun a_467 ea_467 => ?_)
  refine lv_aload_n hx hb dL_law_468 rfl (lv_at hlv 3 rfl) ?_
  refine lv_iload_n hx hb dL_law_469 rfl (lv_at hlv 0 rfl) ?_
  refine lv_iconst (v := 2) hx hb dL_law_470 (by decide) ?_
  refine lv_iadd hx hb dL_law_471 ?_
  refine lv_topi (fun v_471 e_471 => ?_)
  have t_471 : v_471 = nI (i + 2) := by rw [e_471]; exact nI_add i 2
  have h_472 : vp_in v_471 L := by rw [t_471]; exact vp_in_nI (by omega) (by omega)
  refine va_sld hx hb hXs hbl hbA hS h_472 dL_law_472 ?_
  refine lv_topi (fun a_472 ea_472 => ?_)
  refine rd_ci (va_runV (As := [.int a_467, .int a_472]) (rest := []) ⟨hx, hb, hml, hown, hT⟩ (c_X7_piece l Y hX.2.1 h hl a_467 a_472 hJ) (cwV 2 hT (tb_V (fun _ h => h) (tr_30 _ (List.mem_of_getElem? (i := 17) rfl)) (tr_30 _ (List.mem_of_getElem? (i := 18) rfl)) (tr_30 _ (List.mem_of_getElem? (i := 19) rfl)) (tr_1 _ (List.mem_of_getElem? (i := 5) rfl)) (tr_30 _ (List.mem_of_getElem? (i := 20) rfl))) rfl rfl rfl (by decide +kernel) ⟨Nat.le_of_ble_eq_true rfl, Nat.le_of_ble_eq_true rfl⟩) ⟨fun a U f mk q => ⟨q.1, MI.blind f mk a q.2⟩, va_recv hKy hPy (ci := 7) (q0 := 0) rfl mw_0, fun U hU hW => ⟨rfl, hX.mi hPy hU hW⟩⟩ rfl rfl hlv.1 rfl (lv_room (Nat.le_of_ble_eq_true rfl)) dL_law_473 ⟨Nat.le_of_ble_eq_true rfl, Nat.le_of_ble_eq_true rfl⟩) (fun r_473 hr_473 => ?_)
  refine lv_pop hx hb dL_law_476 rfl ?_
  refine lv_goto (tgt := 760) hx hb dL_law_477 (by decide) ?_
  have exy0 : a_467 = a_452 := by rw [ea_467, ea_452, t_466, t_451]
  subst exy0
  have exy1 : a_472 = a_457 := by rw [ea_472, ea_457, t_471, t_456]
  subst exy1
  have res := case_piece hRt hRd hRx hJ h40 hr_458 hr_473
  exact kk g gl tf h hl _ _ hPx hPy hS (hRp.fr (Fr.rf (S := [])) (Fr.rf (S := [])) (by decide) (by decide)) (hRt.fr (Fr.rf (S := [])) (Fr.rf (S := [])) (by decide) (by decide) (fun _ _ => rfl)) (hRs.fr (Fr.rf (S := [])) (Fr.rf (S := [])) (by decide) (by decide)) ((hRd.fr (Fr.rf (S := [])) (Fr.rf (S := [])) (by decide) (by decide)).le (by omega)) (hRk.fr (Fr.rf (S := [])) (Fr.rf (S := [])) (by decide) (by decide) (fun _ _ => rfl)) (hRx.fr hX.1 ⟨hJ.j31.1, h40⟩ hRt.1 (Fr.rf (S := [])) (Fr.rf (S := [])) (by decide) (by decide) (fun _ _ => rfl)) (hRq.fr (Fr.rf (S := [])) (Fr.rf (S := [])) (by decide) (by decide)) hJ h40 hG
set_option maxHeartbeats 4000000 in
set_option maxRecDepth 100000 in
theorem law_13 {p : Program} {l : Launch} {e : Env} {s : State} {m : MethodId} {below : List Frame} {meth : Method} {c : Code} {b L : Nat} {xs : Nat → Int32} (hL : L ≤ 2560) (C0 : lw_At p s m meth c b L xs) (hTl : ∀ w ∈ wsL_law, w.before #[Value.ref b] s = true) {Z : ZT} {Y : YT} (hX : LX s Z Y) {Q : State → Prop} (i : Nat) (hi : i + 5 ≤ L) (g : Nat → Nat → Int32) (gl : Nat → Nat → Int64) (tf : Nat → Nat → Int32) (h : Nat → Nat → Int32) (hl : Nat → Nat → Int64) (H : Heap) (locs : List Loc) (hPx : va_P (zD Z) vwCl (xw Z g gl tf) H) (hPy : va_P (yD Y) vwCl (mw Y h hl) H) (hS : va_S (fun q => s.heap.size ≤ q) s.heap H locs) (hRp : Rpg g h) (hRt : Rtr Z g tf h) (hRs : Rsn g h) (hRd : Rdk g h i) (hRk : Rkp Z g tf h) (hRx : Rtx Z g tf h) (hRq : Rsq g h) (hJ : MJ h) (h40 : (h 31 0).toInt ≤ 40) (hG : Gd Z tf) (ls : Array Slot) (hlv : lv_has ls 4 [(3, .int (nI i)), (2, .ref (ya Y 0)), (1, .ref (za Z 0)), (0, .ref b)]) (kk : ∀ (g : Nat → Nat → Int32) (gl : Nat → Nat → Int64) (tf : Nat → Nat → Int32) (h : Nat → Nat → Int32) (hl : Nat → Nat → Int64) (H : Heap) (locs : List Loc), (va_P (zD Z) vwCl (xw Z g gl tf) H) → (va_P (yD Y) vwCl (mw Y h hl) H) → (va_S (fun q => s.heap.size ≤ q) s.heap H locs) → (Rpg g h) → (Rtr Z g tf h) → (Rsn g h) → (Rdk g h (i + 5)) → (Rkp Z g tf h) → (Rtx Z g tf h) → (Rsq g h) → (MJ h) → ((h 31 0).toInt ≤ 40) → (Gd Z tf) → W p l e room_1 s m #[Value.ref b] below meth c H locs 155 6181 Q (F0 m 760 ls [])) : W p l e room_1 s m #[Value.ref b] below meth c H locs 155 6181 Q (F0 m 480 ls []) := by
  obtain ⟨hx, hb, hr, hml, hown, hts, hXs, hbl, hlocks, hgv⟩ := C0
  have hT := hTl
  have hbA : ¬ (fun q : Nat => s.heap.size ≤ q) b := Nat.not_le.mpr hbl
  have hsx := hX.2.2.2.1
  have hsy := hX.2.2.2.2.1
  have hKx := hX.2.2.2.2.2.1
  have hKy := hX.2.2.2.2.2.2.1
  refine lv_aload_n hx hb dL_law_480 rfl (lv_at hlv 2 rfl) ?_
  refine lv_aload_n hx hb dL_law_481 rfl (lv_at hlv 3 rfl) ?_
  refine lv_iload_n hx hb dL_law_482 rfl (lv_at hlv 0 rfl) ?_
  refine lv_iconst (v := 1) hx hb dL_law_483 (by decide) ?_
  refine lv_iadd hx hb dL_law_484 ?_
  refine lv_topi (fun v_484 e_484 => ?_)
  have t_484 : v_484 = nI (i + 1) := by rw [e_484]; exact nI_add i 1
  have h_485 : vp_in v_484 L := by rw [t_484]; exact vp_in_nI (by omega) (by omega)
  refine va_sld hx hb hXs hbl hbA hS h_485 dL_law_485 ?_
  refine lv_topi (fun a_485 ea_485 => ?_)
  refine lv_aload_n hx hb dL_law_486 rfl (lv_at hlv 3 rfl) ?_
  refine lv_iload_n hx hb dL_law_487 rfl (lv_at hlv 0 rfl) ?_
  refine lv_iconst (v := 2) hx hb dL_law_488 (by decide) ?_
  refine lv_iadd hx hb dL_law_489 ?_
  refine lv_topi (fun v_489 e_489 => ?_)
  have t_489 : v_489 = nI (i + 2) := by rw [e_489]; exact nI_add i 2
  have h_490 : vp_in v_489 L := by rw [t_489]; exact vp_in_nI (by omega) (by omega)
  refine va_sld hx hb hXs hbl hbA hS h_490 dL_law_490 ?_
  refine lv_topi (fun a_490 ea_490 => ?_)
  refine rd_ci (va_runV (As := [.int a_485, .int a_490]) (rest := []) ⟨hx, hb, hml, hown, hT⟩ (c_X6_bargain l Z hX.1 g gl tf a_485 a_490 (by rw [hRt.1]; exact ⟨hJ.j31.1, h40⟩) hRx.1 hG) (cwV 2 hT (tb_V (fun _ h => h) (tr_31 _ (List.mem_of_getElem? (i := 9) rfl)) (tr_31 _ (List.mem_of_getElem? (i := 10) rfl)) (tr_31 _ (List.mem_of_getElem? (i := 11) rfl)) (tr_1 _ (List.mem_of_getElem? (i := 2) rfl)) (tr_31 _ (List.mem_of_getElem? (i := 12) rfl))) rfl rfl rfl (by decide +kernel) ⟨Nat.le_of_ble_eq_true rfl, Nat.le_of_ble_eq_true rfl⟩) ⟨fun a U f mk q => ⟨q.1, XI.blind f mk a q.2⟩, va_recv hKx hPx (ci := 6) (q0 := 0) rfl xw_0, fun U hU hW => ⟨rfl, hX.xi hS hPx hU hW⟩⟩ rfl rfl hlv.1 rfl (lv_room (Nat.le_of_ble_eq_true rfl)) dL_law_491 ⟨Nat.le_of_ble_eq_true rfl, Nat.le_of_ble_eq_true rfl⟩) (fun r_491 hr_491 => ?_)
  refine lv_pop hx hb dL_law_494 rfl ?_
  refine lv_aload_n hx hb dL_law_495 rfl (lv_at hlv 1 rfl) ?_
  refine lv_aload_n hx hb dL_law_496 rfl (lv_at hlv 3 rfl) ?_
  refine lv_iload_n hx hb dL_law_497 rfl (lv_at hlv 0 rfl) ?_
  refine lv_iconst (v := 1) hx hb dL_law_498 (by decide) ?_
  refine lv_iadd hx hb dL_law_499 ?_
  refine lv_topi (fun v_499 e_499 => ?_)
  have t_499 : v_499 = nI (i + 1) := by rw [e_499]; exact nI_add i 1
  have h_500 : vp_in v_499 L := by rw [t_499]; exact vp_in_nI (by omega) (by omega)
  refine va_sld hx hb hXs hbl hbA hS h_500 dL_law_500 ?_
  refine lv_topi (fun a_500 ea_500 => ?_)
  refine lv_aload_n hx hb dL_law_501 rfl (lv_at hlv 3 rfl) ?_
  refine lv_iload_n hx hb dL_law_502 rfl (lv_at hlv 0 rfl) ?_
  refine lv_iconst (v := 2) hx hb dL_law_503 (by decide) ?_
  refine lv_iadd hx hb dL_law_504 ?_
  refine lv_topi (fun v_504 e_504 => ?_)
  have t_504 : v_504 = nI (i + 2) := by rw [e_504]; exact nI_add i 2
  have h_505 : vp_in v_504 L := by rw [t_504]; exact vp_in_nI (by omega) (by omega)
  refine va_sld hx hb hXs hbl hbA hS h_505 dL_law_505 ?_
  refine lv_topi (fun a_505 ea_505 => ?_)
  refine rd_ci (va_runV (As := [.int a_500, .int a_505]) (rest := []) ⟨hx, hb, hml, hown, hT⟩ (c_X7_bargain l Y hX.2.1 h hl a_500 a_505 hJ) (cwV 2 hT (tb_V (fun _ h => h) (tr_31 _ (List.mem_of_getElem? (i := 13) rfl)) (tr_31 _ (List.mem_of_getElem? (i := 14) rfl)) (tr_31 _ (List.mem_of_getElem? (i := 15) rfl)) (tr_1 _ (List.mem_of_getElem? (i := 5) rfl)) (tr_31 _ (List.mem_of_getElem? (i := 16) rfl))) rfl rfl rfl (by decide +kernel) ⟨Nat.le_of_ble_eq_true rfl, Nat.le_of_ble_eq_true rfl⟩) ⟨fun a U f mk q => ⟨q.1, MI.blind f mk a q.2⟩, va_recv hKy hPy (ci := 7) (q0 := 0) rfl mw_0, fun U hU hW => ⟨rfl, hX.mi hPy hU hW⟩⟩ rfl rfl hlv.1 rfl (lv_room (Nat.le_of_ble_eq_true rfl)) dL_law_506 ⟨Nat.le_of_ble_eq_true rfl, Nat.le_of_ble_eq_true rfl⟩) (fun r_506 hr_506 => ?_)
  refine lv_pop hx hb dL_law_509 rfl ?_
  refine lv_goto (tgt := 760) hx hb dL_law_510 (by decide) ?_
  have exy0 : a_500 = a_485 := by rw [ea_500, ea_485, t_499, t_484]
  subst exy0
  have exy1 : a_505 = a_490 := by rw [ea_505, ea_490, t_504, t_489]
  subst exy1
  have res := case_bargain hRt hRd hRx hJ h40 hr_491 hr_506
  exact kk g gl tf h hl _ _ hPx hPy hS (hRp.fr (Fr.rf (S := [])) (Fr.rf (S := [])) (by decide) (by decide)) (hRt.fr (Fr.rf (S := [])) (Fr.rf (S := [])) (by decide) (by decide) (fun _ _ => rfl)) (hRs.fr (Fr.rf (S := [])) (Fr.rf (S := [])) (by decide) (by decide)) ((hRd.fr (Fr.rf (S := [])) (Fr.rf (S := [])) (by decide) (by decide)).le (by omega)) (hRk.fr (Fr.rf (S := [])) (Fr.rf (S := [])) (by decide) (by decide) (fun _ _ => rfl)) (hRx.fr hX.1 ⟨hJ.j31.1, h40⟩ hRt.1 (Fr.rf (S := [])) (Fr.rf (S := [])) (by decide) (by decide) (fun _ _ => rfl)) (hRq.fr (Fr.rf (S := [])) (Fr.rf (S := [])) (by decide) (by decide)) hJ h40 hG
set_option maxHeartbeats 4000000 in
set_option maxRecDepth 100000 in
theorem law_14 {p : Program} {l : Launch} {e : Env} {s : State} {m : MethodId} {below : List Frame} {meth : Method} {c : Code} {b L : Nat} {xs : Nat → Int32} (hL : L ≤ 2560) (C0 : lw_At p s m meth c b L xs) (hTl : ∀ w ∈ wsL_law, w.before #[Value.ref b] s = true) {Z : ZT} {Y : YT} (hX : LX s Z Y) {Q : State → Prop} (i : Nat) (hi : i + 5 ≤ L) (g : Nat → Nat → Int32) (gl : Nat → Nat → Int64) (tf : Nat → Nat → Int32) (h : Nat → Nat → Int32) (hl : Nat → Nat → Int64) (H : Heap) (locs : List Loc) (hPx : va_P (zD Z) vwCl (xw Z g gl tf) H) (hPy : va_P (yD Y) vwCl (mw Y h hl) H) (hS : va_S (fun q => s.heap.size ≤ q) s.heap H locs) (hRp : Rpg g h) (hRt : Rtr Z g tf h) (hRs : Rsn g h) (hRd : Rdk g h i) (hRk : Rkp Z g tf h) (hRx : Rtx Z g tf h) (hRq : Rsq g h) (hJ : MJ h) (h40 : (h 31 0).toInt ≤ 40) (hG : Gd Z tf) (ls : Array Slot) (hlv : lv_has ls 4 [(3, .int (nI i)), (2, .ref (ya Y 0)), (1, .ref (za Z 0)), (0, .ref b)]) (kk : ∀ (g : Nat → Nat → Int32) (gl : Nat → Nat → Int64) (tf : Nat → Nat → Int32) (h : Nat → Nat → Int32) (hl : Nat → Nat → Int64) (H : Heap) (locs : List Loc), (va_P (zD Z) vwCl (xw Z g gl tf) H) → (va_P (yD Y) vwCl (mw Y h hl) H) → (va_S (fun q => s.heap.size ≤ q) s.heap H locs) → (Rpg g h) → (Rtr Z g tf h) → (Rsn g h) → (Rdk g h (i + 5)) → (Rkp Z g tf h) → (Rtx Z g tf h) → (Rsq g h) → (MJ h) → ((h 31 0).toInt ≤ 40) → (Gd Z tf) → W p l e room_1 s m #[Value.ref b] below meth c H locs 155 6181 Q (F0 m 760 ls [])) : W p l e room_1 s m #[Value.ref b] below meth c H locs 155 6181 Q (F0 m 513 ls []) := by
  obtain ⟨hx, hb, hr, hml, hown, hts, hXs, hbl, hlocks, hgv⟩ := C0
  have hT := hTl
  have hbA : ¬ (fun q : Nat => s.heap.size ≤ q) b := Nat.not_le.mpr hbl
  have hsx := hX.2.2.2.1
  have hsy := hX.2.2.2.2.1
  have hKx := hX.2.2.2.2.2.1
  have hKy := hX.2.2.2.2.2.2.1
  refine lv_aload_n hx hb dL_law_513 rfl (lv_at hlv 2 rfl) ?_
  refine lv_aload_n hx hb dL_law_514 rfl (lv_at hlv 3 rfl) ?_
  refine lv_iload_n hx hb dL_law_515 rfl (lv_at hlv 0 rfl) ?_
  refine lv_iconst (v := 1) hx hb dL_law_516 (by decide) ?_
  refine lv_iadd hx hb dL_law_517 ?_
  refine lv_topi (fun v_517 e_517 => ?_)
  have t_517 : v_517 = nI (i + 1) := by rw [e_517]; exact nI_add i 1
  have h_518 : vp_in v_517 L := by rw [t_517]; exact vp_in_nI (by omega) (by omega)
  refine va_sld hx hb hXs hbl hbA hS h_518 dL_law_518 ?_
  refine lv_topi (fun a_518 ea_518 => ?_)
  refine lv_aload_n hx hb dL_law_519 rfl (lv_at hlv 3 rfl) ?_
  refine lv_iload_n hx hb dL_law_520 rfl (lv_at hlv 0 rfl) ?_
  refine lv_iconst (v := 2) hx hb dL_law_521 (by decide) ?_
  refine lv_iadd hx hb dL_law_522 ?_
  refine lv_topi (fun v_522 e_522 => ?_)
  have t_522 : v_522 = nI (i + 2) := by rw [e_522]; exact nI_add i 2
  have h_523 : vp_in v_522 L := by rw [t_522]; exact vp_in_nI (by omega) (by omega)
  refine va_sld hx hb hXs hbl hbA hS h_523 dL_law_523 ?_
  refine lv_topi (fun a_523 ea_523 => ?_)
  refine rd_ci (va_runV (As := [.int a_518, .int a_523]) (rest := []) ⟨hx, hb, hml, hown, hT⟩ (c_X6_crossing l Z hX.1 g gl tf a_518 a_523 (by rw [hRt.1]; omega) hG) (cwV 2 hT (tb_V (fun _ h => h) (tr_31 _ (List.mem_of_getElem? (i := 21) rfl)) (tr_31 _ (List.mem_of_getElem? (i := 22) rfl)) (tr_31 _ (List.mem_of_getElem? (i := 23) rfl)) (tr_1 _ (List.mem_of_getElem? (i := 2) rfl)) (tr_32 _ (List.mem_of_getElem? (i := 0) rfl))) rfl rfl rfl (by decide +kernel) ⟨Nat.le_of_ble_eq_true rfl, Nat.le_of_ble_eq_true rfl⟩) ⟨fun a U f mk q => ⟨q.1, XI.blind f mk a q.2⟩, va_recv hKx hPx (ci := 6) (q0 := 0) rfl xw_0, fun U hU hW => ⟨rfl, hX.xi hS hPx hU hW⟩⟩ rfl rfl hlv.1 rfl (lv_room (Nat.le_of_ble_eq_true rfl)) dL_law_524 ⟨Nat.le_of_ble_eq_true rfl, Nat.le_of_ble_eq_true rfl⟩) (fun r_524 hr_524 => ?_)
  refine lv_pop hx hb dL_law_527 rfl ?_
  refine lv_aload_n hx hb dL_law_528 rfl (lv_at hlv 1 rfl) ?_
  refine lv_aload_n hx hb dL_law_529 rfl (lv_at hlv 3 rfl) ?_
  refine lv_iload_n hx hb dL_law_530 rfl (lv_at hlv 0 rfl) ?_
  refine lv_iconst (v := 1) hx hb dL_law_531 (by decide) ?_
  refine lv_iadd hx hb dL_law_532 ?_
  refine lv_topi (fun v_532 e_532 => ?_)
  have t_532 : v_532 = nI (i + 1) := by rw [e_532]; exact nI_add i 1
  have h_533 : vp_in v_532 L := by rw [t_532]; exact vp_in_nI (by omega) (by omega)
  refine va_sld hx hb hXs hbl hbA hS h_533 dL_law_533 ?_
  refine lv_topi (fun a_533 ea_533 => ?_)
  refine lv_aload_n hx hb dL_law_534 rfl (lv_at hlv 3 rfl) ?_
  refine lv_iload_n hx hb dL_law_535 rfl (lv_at hlv 0 rfl) ?_
  refine lv_iconst (v := 2) hx hb dL_law_536 (by decide) ?_
  refine lv_iadd hx hb dL_law_537 ?_
  refine lv_topi (fun v_537 e_537 => ?_)
  have t_537 : v_537 = nI (i + 2) := by rw [e_537]; exact nI_add i 2
  have h_538 : vp_in v_537 L := by rw [t_537]; exact vp_in_nI (by omega) (by omega)
  refine va_sld hx hb hXs hbl hbA hS h_538 dL_law_538 ?_
  refine lv_topi (fun a_538 ea_538 => ?_)
  refine rd_ci (va_runV (As := [.int a_533, .int a_538]) (rest := []) ⟨hx, hb, hml, hown, hT⟩ (c_X7_crossing l Y hX.2.1 h hl a_533 a_538 hJ) (cwV 2 hT (tb_V (fun _ h => h) (tr_32 _ (List.mem_of_getElem? (i := 4) rfl)) (tr_32 _ (List.mem_of_getElem? (i := 5) rfl)) (tr_32 _ (List.mem_of_getElem? (i := 6) rfl)) (tr_1 _ (List.mem_of_getElem? (i := 5) rfl)) (tr_32 _ (List.mem_of_getElem? (i := 7) rfl))) rfl rfl rfl (by decide +kernel) ⟨Nat.le_of_ble_eq_true rfl, Nat.le_of_ble_eq_true rfl⟩) ⟨fun a U f mk q => ⟨q.1, MI.blind f mk a q.2⟩, va_recv hKy hPy (ci := 7) (q0 := 0) rfl mw_0, fun U hU hW => ⟨rfl, hX.mi hPy hU hW⟩⟩ rfl rfl hlv.1 rfl (lv_room (Nat.le_of_ble_eq_true rfl)) dL_law_539 ⟨Nat.le_of_ble_eq_true rfl, Nat.le_of_ble_eq_true rfl⟩) (fun r_539 hr_539 => ?_)
  refine lv_pop hx hb dL_law_542 rfl ?_
  refine lv_goto (tgt := 760) hx hb dL_law_543 (by decide) ?_
  have exy0 : a_533 = a_518 := by rw [ea_533, ea_518, t_532, t_517]
  subst exy0
  have exy1 : a_538 = a_523 := by rw [ea_538, ea_523, t_537, t_522]
  subst exy1
  have res := case_cross hRt hJ h40 hr_524 hr_539
  exact kk g gl tf h hl _ _ hPx hPy hS (hRp.fr (Fr.rf (S := [])) (Fr.rf (S := [])) (by decide) (by decide)) (hRt.fr (Fr.rf (S := [])) (Fr.rf (S := [])) (by decide) (by decide) (fun _ _ => rfl)) (hRs.fr (Fr.rf (S := [])) (Fr.rf (S := [])) (by decide) (by decide)) ((hRd.fr (Fr.rf (S := [])) (Fr.rf (S := [])) (by decide) (by decide)).le (by omega)) (hRk.fr (Fr.rf (S := [])) (Fr.rf (S := [])) (by decide) (by decide) (fun _ _ => rfl)) (hRx.fr hX.1 ⟨hJ.j31.1, h40⟩ hRt.1 (Fr.rf (S := [])) (Fr.rf (S := [])) (by decide) (by decide) (fun _ _ => rfl)) (hRq.fr (Fr.rf (S := [])) (Fr.rf (S := [])) (by decide) (by decide)) hJ h40 hG
set_option maxHeartbeats 4000000 in
set_option maxRecDepth 100000 in
theorem law_15 {p : Program} {l : Launch} {e : Env} {s : State} {m : MethodId} {below : List Frame} {meth : Method} {c : Code} {b L : Nat} {xs : Nat → Int32} (hL : L ≤ 2560) (C0 : lw_At p s m meth c b L xs) (hTl : ∀ w ∈ wsL_law, w.before #[Value.ref b] s = true) {Z : ZT} {Y : YT} (hX : LX s Z Y) {Q : State → Prop} (i : Nat) (hi : i + 5 ≤ L) (g : Nat → Nat → Int32) (gl : Nat → Nat → Int64) (tf : Nat → Nat → Int32) (h : Nat → Nat → Int32) (hl : Nat → Nat → Int64) (H : Heap) (locs : List Loc) (hPx : va_P (zD Z) vwCl (xw Z g gl tf) H) (hPy : va_P (yD Y) vwCl (mw Y h hl) H) (hS : va_S (fun q => s.heap.size ≤ q) s.heap H locs) (hRp : Rpg g h) (hRt : Rtr Z g tf h) (hRs : Rsn g h) (hRd : Rdk g h i) (hRk : Rkp Z g tf h) (hRx : Rtx Z g tf h) (hRq : Rsq g h) (hJ : MJ h) (h40 : (h 31 0).toInt ≤ 40) (hG : Gd Z tf) (ls : Array Slot) (hlv : lv_has ls 4 [(3, .int (nI i)), (2, .ref (ya Y 0)), (1, .ref (za Z 0)), (0, .ref b)]) (kk : ∀ (g : Nat → Nat → Int32) (gl : Nat → Nat → Int64) (tf : Nat → Nat → Int32) (h : Nat → Nat → Int32) (hl : Nat → Nat → Int64) (H : Heap) (locs : List Loc), (va_P (zD Z) vwCl (xw Z g gl tf) H) → (va_P (yD Y) vwCl (mw Y h hl) H) → (va_S (fun q => s.heap.size ≤ q) s.heap H locs) → (Rpg g h) → (Rtr Z g tf h) → (Rsn g h) → (Rdk g h (i + 5)) → (Rkp Z g tf h) → (Rtx Z g tf h) → (Rsq g h) → (MJ h) → ((h 31 0).toInt ≤ 40) → (Gd Z tf) → W p l e room_1 s m #[Value.ref b] below meth c H locs 155 6181 Q (F0 m 760 ls [])) : W p l e room_1 s m #[Value.ref b] below meth c H locs 155 6181 Q (F0 m 546 ls []) := by
  obtain ⟨hx, hb, hr, hml, hown, hts, hXs, hbl, hlocks, hgv⟩ := C0
  have hT := hTl
  have hbA : ¬ (fun q : Nat => s.heap.size ≤ q) b := Nat.not_le.mpr hbl
  have hsx := hX.2.2.2.1
  have hsy := hX.2.2.2.2.1
  have hKx := hX.2.2.2.2.2.1
  have hKy := hX.2.2.2.2.2.2.1
  refine lv_aload_n hx hb dL_law_546 rfl (lv_at hlv 2 rfl) ?_
  refine lv_aload_n hx hb dL_law_547 rfl (lv_at hlv 3 rfl) ?_
  refine lv_iload_n hx hb dL_law_548 rfl (lv_at hlv 0 rfl) ?_
  refine lv_iconst (v := 1) hx hb dL_law_549 (by decide) ?_
  refine lv_iadd hx hb dL_law_550 ?_
  refine lv_topi (fun v_550 e_550 => ?_)
  have t_550 : v_550 = nI (i + 1) := by rw [e_550]; exact nI_add i 1
  have h_551 : vp_in v_550 L := by rw [t_550]; exact vp_in_nI (by omega) (by omega)
  refine va_sld hx hb hXs hbl hbA hS h_551 dL_law_551 ?_
  refine lv_topi (fun a_551 ea_551 => ?_)
  refine lv_aload_n hx hb dL_law_552 rfl (lv_at hlv 3 rfl) ?_
  refine lv_iload_n hx hb dL_law_553 rfl (lv_at hlv 0 rfl) ?_
  refine lv_iconst (v := 2) hx hb dL_law_554 (by decide) ?_
  refine lv_iadd hx hb dL_law_555 ?_
  refine lv_topi (fun v_555 e_555 => ?_)
  have t_555 : v_555 = nI (i + 2) := by rw [e_555]; exact nI_add i 2
  have h_556 : vp_in v_555 L := by rw [t_555]; exact vp_in_nI (by omega) (by omega)
  refine va_sld hx hb hXs hbl hbA hS h_556 dL_law_556 ?_
  refine lv_topi (fun a_556 ea_556 => ?_)
  refine lv_aload_n hx hb dL_law_557 rfl (lv_at hlv 3 rfl) ?_
  refine lv_iload_n hx hb dL_law_558 rfl (lv_at hlv 0 rfl) ?_
  refine lv_iconst (v := 3) hx hb dL_law_559 (by decide) ?_
  refine lv_iadd hx hb dL_law_560 ?_
  refine lv_topi (fun v_560 e_560 => ?_)
  have t_560 : v_560 = nI (i + 3) := by rw [e_560]; exact nI_add i 3
  have h_561 : vp_in v_560 L := by rw [t_560]; exact vp_in_nI (by omega) (by omega)
  refine va_sld hx hb hXs hbl hbA hS h_561 dL_law_561 ?_
  refine lv_topi (fun a_561 ea_561 => ?_)
  refine lv_aload_n hx hb dL_law_562 rfl (lv_at hlv 3 rfl) ?_
  refine lv_iload_n hx hb dL_law_563 rfl (lv_at hlv 0 rfl) ?_
  refine lv_iconst (v := 4) hx hb dL_law_564 (by decide) ?_
  refine lv_iadd hx hb dL_law_565 ?_
  refine lv_topi (fun v_565 e_565 => ?_)
  have t_565 : v_565 = nI (i + 4) := by rw [e_565]; exact nI_add i 4
  have h_566 : vp_in v_565 L := by rw [t_565]; exact vp_in_nI (by omega) (by omega)
  refine va_sld hx hb hXs hbl hbA hS h_566 dL_law_566 ?_
  refine lv_topi (fun a_566 ea_566 => ?_)
  refine va_calli (va_runV (As := [.int a_551, .int a_556, .int a_561, .int a_566]) (rest := []) ⟨hx, hb, hml, hown, hT⟩ (c_X6_would l Z hX.1 g gl tf a_551 a_556 a_561 a_566 (by rw [hRt.1]; exact ⟨hJ.j31.1, h40⟩) hRx.1 hG) (cwV 4 hT (tb_V (fun _ h => h) (tr_32 _ (List.mem_of_getElem? (i := 12) rfl)) (tr_32 _ (List.mem_of_getElem? (i := 13) rfl)) (tr_32 _ (List.mem_of_getElem? (i := 14) rfl)) (tr_1 _ (List.mem_of_getElem? (i := 2) rfl)) (tr_32 _ (List.mem_of_getElem? (i := 15) rfl))) rfl rfl rfl (by decide +kernel) ⟨Nat.le_of_ble_eq_true rfl, Nat.le_of_ble_eq_true rfl⟩) ⟨fun a U f mk q => ⟨q.1, XI.blind f mk a q.2⟩, va_recv hKx hPx (ci := 6) (q0 := 0) rfl xw_0, fun U hU hW => ⟨rfl, hX.xi hS hPx hU hW⟩⟩ rfl rfl hlv.1 rfl (lv_room (Nat.le_of_ble_eq_true rfl)) dL_law_567 ⟨Nat.le_of_ble_eq_true rfl, Nat.le_of_ble_eq_true rfl⟩) hS (fun q _ h => hsx q h) hsx (fun r_567 u_567 t_567 H1 locs ht_567 _ hw_567 hB_567 _ hk_567 hS => ?_)
  obtain ⟨g1, gl1, tf1⟩ := u_567
  have hPy := hX.ky hPy hk_567
  have hPx : va_P (zD Z) vwCl (xw Z g1 gl1 tf1) H1 := ht_567 ▸ hB_567
  obtain ⟨hf, hG, eg, hp1⟩ := hw_567
  dsimp only at hf hG eg hp1
  subst eg
  generalize H1 = H at hPx hPy hS ⊢
  refine lv_pop hx hb dL_law_570 rfl ?_
  refine lv_aload_n hx hb dL_law_571 rfl (lv_at hlv 1 rfl) ?_
  refine lv_aload_n hx hb dL_law_572 rfl (lv_at hlv 3 rfl) ?_
  refine lv_iload_n hx hb dL_law_573 rfl (lv_at hlv 0 rfl) ?_
  refine lv_iconst (v := 1) hx hb dL_law_574 (by decide) ?_
  refine lv_iadd hx hb dL_law_575 ?_
  refine lv_topi (fun v_575 e_575 => ?_)
  have t_575 : v_575 = nI (i + 1) := by rw [e_575]; exact nI_add i 1
  have h_576 : vp_in v_575 L := by rw [t_575]; exact vp_in_nI (by omega) (by omega)
  refine va_sld hx hb hXs hbl hbA hS h_576 dL_law_576 ?_
  refine lv_topi (fun a_576 ea_576 => ?_)
  refine lv_aload_n hx hb dL_law_577 rfl (lv_at hlv 3 rfl) ?_
  refine lv_iload_n hx hb dL_law_578 rfl (lv_at hlv 0 rfl) ?_
  refine lv_iconst (v := 2) hx hb dL_law_579 (by decide) ?_
  refine lv_iadd hx hb dL_law_580 ?_
  refine lv_topi (fun v_580 e_580 => ?_)
  have t_580 : v_580 = nI (i + 2) := by rw [e_580]; exact nI_add i 2
  have h_581 : vp_in v_580 L := by rw [t_580]; exact vp_in_nI (by omega) (by omega)
  refine va_sld hx hb hXs hbl hbA hS h_581 dL_law_581 ?_
  refine lv_topi (fun a_581 ea_581 => ?_)
  refine lv_aload_n hx hb dL_law_582 rfl (lv_at hlv 3 rfl) ?_
  refine lv_iload_n hx hb dL_law_583 rfl (lv_at hlv 0 rfl) ?_
  refine lv_iconst (v := 3) hx hb dL_law_584 (by decide) ?_
  refine lv_iadd hx hb dL_law_585 ?_
  refine lv_topi (fun v_585 e_585 => ?_)
  have t_585 : v_585 = nI (i + 3) := by rw [e_585]; exact nI_add i 3
  have h_586 : vp_in v_585 L := by rw [t_585]; exact vp_in_nI (by omega) (by omega)
  refine va_sld hx hb hXs hbl hbA hS h_586 dL_law_586 ?_
  refine lv_topi (fun a_586 ea_586 => ?_)
  refine lv_aload_n hx hb dL_law_587 rfl (lv_at hlv 3 rfl) ?_
  refine lv_iload_n hx hb dL_law_588 rfl (lv_at hlv 0 rfl) ?_
  refine lv_iconst (v := 4) hx hb dL_law_589 (by decide) ?_
  refine lv_iadd hx hb dL_law_590 ?_
  refine lv_topi (fun v_590 e_590 => ?_)
  have t_590 : v_590 = nI (i + 4) := by rw [e_590]; exact nI_add i 4
  have h_591 : vp_in v_590 L := by rw [t_590]; exact vp_in_nI (by omega) (by omega)
  refine va_sld hx hb hXs hbl hbA hS h_591 dL_law_591 ?_
  refine lv_topi (fun a_591 ea_591 => ?_)
  refine va_calli (va_runV (As := [.int a_576, .int a_581, .int a_586, .int a_591]) (rest := []) ⟨hx, hb, hml, hown, hT⟩ (c_X7_would l Y hX.2.1 h hl a_576 a_581 a_586 a_591 h40 hJ) (cwV 4 hT (tb_V (fun _ h => h) (tr_32 _ (List.mem_of_getElem? (i := 16) rfl)) (tr_32 _ (List.mem_of_getElem? (i := 17) rfl)) (tr_32 _ (List.mem_of_getElem? (i := 18) rfl)) (tr_1 _ (List.mem_of_getElem? (i := 5) rfl)) (tr_32 _ (List.mem_of_getElem? (i := 19) rfl))) rfl rfl rfl (by decide +kernel) ⟨Nat.le_of_ble_eq_true rfl, Nat.le_of_ble_eq_true rfl⟩) ⟨fun a U f mk q => ⟨q.1, MI.blind f mk a q.2⟩, va_recv hKy hPy (ci := 7) (q0 := 0) rfl mw_0, fun U hU hW => ⟨rfl, hX.mi hPy hU hW⟩⟩ rfl rfl hlv.1 rfl (lv_room (Nat.le_of_ble_eq_true rfl)) dL_law_592 ⟨Nat.le_of_ble_eq_true rfl, Nat.le_of_ble_eq_true rfl⟩) hS (fun q _ h => hsy q h) hsy (fun r_592 u_592 t_592 H1 locs ht_592 _ hw_592 hB_592 _ hk_592 hS => ?_)
  obtain ⟨h1, hl1⟩ := u_592
  have hPx := hX.kx hPx hk_592
  have hPy : va_P (yD Y) vwCl (mw Y h1 hl1) H1 := ht_592 ▸ hB_592
  obtain ⟨hf2, hJ1, el2, hp2⟩ := hw_592
  dsimp only at hf2 hJ1 el2 hp2
  subst el2
  generalize H1 = H at hPx hPy hS ⊢
  refine lv_pop hx hb dL_law_595 rfl ?_
  refine lv_goto (tgt := 760) hx hb dL_law_596 (by decide) ?_
  have exy0 : a_576 = a_551 := by rw [ea_576, ea_551, t_575, t_550]
  subst exy0
  have exy1 : a_581 = a_556 := by rw [ea_581, ea_556, t_580, t_555]
  subst exy1
  have exy2 : a_586 = a_561 := by rw [ea_586, ea_561, t_585, t_560]
  subst exy2
  have exy3 : a_591 = a_566 := by rw [ea_591, ea_566, t_590, t_565]
  subst exy3
  obtain ⟨hRt1, hRx1, res⟩ := case_would hX.1 hRt hRd ⟨hJ.j31.1, h40⟩ hRx hf2 hp1 hp2.1
  have tt := hp1.2
  exact kk g gl1 tf1 h1 hl _ _ hPx hPy hS (hRp.fr (Fr.rf (S := [])) hf2 (by decide) (by decide)) hRt1 (hRs.fr (Fr.rf (S := [])) hf2 (by decide) (by decide)) ((hRd.fr (Fr.rf (S := [])) hf2 (by decide) (by decide)).le (by omega)) (hRk.fr (Fr.rf (S := [])) hf2 (by decide) (by decide) (fun t ht => tt _ (hX.1.ka ht))) hRx1 (hRq.fr (Fr.rf (S := [])) hf2 (by decide) (by decide)) hJ1 hp2.2 hG
set_option maxHeartbeats 4000000 in
set_option maxRecDepth 100000 in
theorem law_16 {p : Program} {l : Launch} {e : Env} {s : State} {m : MethodId} {below : List Frame} {meth : Method} {c : Code} {b L : Nat} {xs : Nat → Int32} (hL : L ≤ 2560) (C0 : lw_At p s m meth c b L xs) (hTl : ∀ w ∈ wsL_law, w.before #[Value.ref b] s = true) {Z : ZT} {Y : YT} (hX : LX s Z Y) {Q : State → Prop} (i : Nat) (hi : i + 5 ≤ L) (g : Nat → Nat → Int32) (gl : Nat → Nat → Int64) (tf : Nat → Nat → Int32) (h : Nat → Nat → Int32) (hl : Nat → Nat → Int64) (H : Heap) (locs : List Loc) (hPx : va_P (zD Z) vwCl (xw Z g gl tf) H) (hPy : va_P (yD Y) vwCl (mw Y h hl) H) (hS : va_S (fun q => s.heap.size ≤ q) s.heap H locs) (hRp : Rpg g h) (hRt : Rtr Z g tf h) (hRs : Rsn g h) (hRd : Rdk g h i) (hRk : Rkp Z g tf h) (hRx : Rtx Z g tf h) (hRq : Rsq g h) (hJ : MJ h) (h40 : (h 31 0).toInt ≤ 40) (hG : Gd Z tf) (ls : Array Slot) (hlv : lv_has ls 4 [(3, .int (nI i)), (2, .ref (ya Y 0)), (1, .ref (za Z 0)), (0, .ref b)]) (kk : ∀ (g : Nat → Nat → Int32) (gl : Nat → Nat → Int64) (tf : Nat → Nat → Int32) (h : Nat → Nat → Int32) (hl : Nat → Nat → Int64) (H : Heap) (locs : List Loc), (va_P (zD Z) vwCl (xw Z g gl tf) H) → (va_P (yD Y) vwCl (mw Y h hl) H) → (va_S (fun q => s.heap.size ≤ q) s.heap H locs) → (Rpg g h) → (Rtr Z g tf h) → (Rsn g h) → (Rdk g h (i + 5)) → (Rkp Z g tf h) → (Rtx Z g tf h) → (Rsq g h) → (MJ h) → ((h 31 0).toInt ≤ 40) → (Gd Z tf) → W p l e room_1 s m #[Value.ref b] below meth c H locs 155 6181 Q (F0 m 760 ls [])) : W p l e room_1 s m #[Value.ref b] below meth c H locs 155 6181 Q (F0 m 599 ls []) := by
  obtain ⟨hx, hb, hr, hml, hown, hts, hXs, hbl, hlocks, hgv⟩ := C0
  have hT := hTl
  have hbA : ¬ (fun q : Nat => s.heap.size ≤ q) b := Nat.not_le.mpr hbl
  have hsx := hX.2.2.2.1
  have hsy := hX.2.2.2.2.1
  have hKx := hX.2.2.2.2.2.1
  have hKy := hX.2.2.2.2.2.2.1
  refine lv_aload_n hx hb dL_law_599 rfl (lv_at hlv 2 rfl) ?_
  refine lv_aload_n hx hb dL_law_600 rfl (lv_at hlv 3 rfl) ?_
  refine lv_iload_n hx hb dL_law_601 rfl (lv_at hlv 0 rfl) ?_
  refine lv_iconst (v := 1) hx hb dL_law_602 (by decide) ?_
  refine lv_iadd hx hb dL_law_603 ?_
  refine lv_topi (fun v_603 e_603 => ?_)
  have t_603 : v_603 = nI (i + 1) := by rw [e_603]; exact nI_add i 1
  have h_604 : vp_in v_603 L := by rw [t_603]; exact vp_in_nI (by omega) (by omega)
  refine va_sld hx hb hXs hbl hbA hS h_604 dL_law_604 ?_
  refine lv_topi (fun a_604 ea_604 => ?_)
  refine lv_aload_n hx hb dL_law_605 rfl (lv_at hlv 3 rfl) ?_
  refine lv_iload_n hx hb dL_law_606 rfl (lv_at hlv 0 rfl) ?_
  refine lv_iconst (v := 2) hx hb dL_law_607 (by decide) ?_
  refine lv_iadd hx hb dL_law_608 ?_
  refine lv_topi (fun v_608 e_608 => ?_)
  have t_608 : v_608 = nI (i + 2) := by rw [e_608]; exact nI_add i 2
  have h_609 : vp_in v_608 L := by rw [t_608]; exact vp_in_nI (by omega) (by omega)
  refine va_sld hx hb hXs hbl hbA hS h_609 dL_law_609 ?_
  refine lv_topi (fun a_609 ea_609 => ?_)
  refine lv_aload_n hx hb dL_law_610 rfl (lv_at hlv 3 rfl) ?_
  refine lv_iload_n hx hb dL_law_611 rfl (lv_at hlv 0 rfl) ?_
  refine lv_iconst (v := 3) hx hb dL_law_612 (by decide) ?_
  refine lv_iadd hx hb dL_law_613 ?_
  refine lv_topi (fun v_613 e_613 => ?_)
  have t_613 : v_613 = nI (i + 3) := by rw [e_613]; exact nI_add i 3
  have h_614 : vp_in v_613 L := by rw [t_613]; exact vp_in_nI (by omega) (by omega)
  refine va_sld hx hb hXs hbl hbA hS h_614 dL_law_614 ?_
  refine lv_topi (fun a_614 ea_614 => ?_)
  refine va_calli (va_runV (As := [.int a_604, .int a_609, .int a_614]) (rest := []) ⟨hx, hb, hml, hown, hT⟩ (c_X6_see l Z hX.1 g gl tf a_604 a_609 a_614 hG) (cwV 3 hT (tb_V (fun _ h => h) (tr_32 _ (List.mem_of_getElem? (i := 20) rfl)) (tr_32 _ (List.mem_of_getElem? (i := 21) rfl)) (tr_32 _ (List.mem_of_getElem? (i := 22) rfl)) (tr_1 _ (List.mem_of_getElem? (i := 2) rfl)) (tr_32 _ (List.mem_of_getElem? (i := 23) rfl))) rfl rfl rfl (by decide +kernel) ⟨Nat.le_of_ble_eq_true rfl, Nat.le_of_ble_eq_true rfl⟩) ⟨fun a U f mk q => ⟨q.1, XI.blind f mk a q.2⟩, va_recv hKx hPx (ci := 6) (q0 := 0) rfl xw_0, fun U hU hW => ⟨rfl, hX.xi hS hPx hU hW⟩⟩ rfl rfl hlv.1 rfl (lv_room (Nat.le_of_ble_eq_true rfl)) dL_law_615 ⟨Nat.le_of_ble_eq_true rfl, Nat.le_of_ble_eq_true rfl⟩) hS (fun q _ h => hsx q h) hsx (fun r_615 u_615 t_615 H1 locs ht_615 _ hw_615 hB_615 _ hk_615 hS => ?_)
  obtain ⟨g1, gl1, tf1⟩ := u_615
  have hPy := hX.ky hPy hk_615
  have hPx : va_P (zD Z) vwCl (xw Z g1 gl1 tf1) H1 := ht_615 ▸ hB_615
  obtain ⟨hf, hG, et, hp1⟩ := hw_615
  dsimp only at hf hG et hp1
  subst et
  generalize H1 = H at hPx hPy hS ⊢
  refine lv_pop hx hb dL_law_618 rfl ?_
  refine lv_aload_n hx hb dL_law_619 rfl (lv_at hlv 1 rfl) ?_
  refine lv_aload_n hx hb dL_law_620 rfl (lv_at hlv 3 rfl) ?_
  refine lv_iload_n hx hb dL_law_621 rfl (lv_at hlv 0 rfl) ?_
  refine lv_iconst (v := 1) hx hb dL_law_622 (by decide) ?_
  refine lv_iadd hx hb dL_law_623 ?_
  refine lv_topi (fun v_623 e_623 => ?_)
  have t_623 : v_623 = nI (i + 1) := by rw [e_623]; exact nI_add i 1
  have h_624 : vp_in v_623 L := by rw [t_623]; exact vp_in_nI (by omega) (by omega)
  refine va_sld hx hb hXs hbl hbA hS h_624 dL_law_624 ?_
  refine lv_topi (fun a_624 ea_624 => ?_)
  refine lv_aload_n hx hb dL_law_625 rfl (lv_at hlv 3 rfl) ?_
  refine lv_iload_n hx hb dL_law_626 rfl (lv_at hlv 0 rfl) ?_
  refine lv_iconst (v := 2) hx hb dL_law_627 (by decide) ?_
  refine lv_iadd hx hb dL_law_628 ?_
  refine lv_topi (fun v_628 e_628 => ?_)
  have t_628 : v_628 = nI (i + 2) := by rw [e_628]; exact nI_add i 2
  have h_629 : vp_in v_628 L := by rw [t_628]; exact vp_in_nI (by omega) (by omega)
  refine va_sld hx hb hXs hbl hbA hS h_629 dL_law_629 ?_
  refine lv_topi (fun a_629 ea_629 => ?_)
  refine lv_aload_n hx hb dL_law_630 rfl (lv_at hlv 3 rfl) ?_
  refine lv_iload_n hx hb dL_law_631 rfl (lv_at hlv 0 rfl) ?_
  refine lv_iconst (v := 3) hx hb dL_law_632 (by decide) ?_
  refine lv_iadd hx hb dL_law_633 ?_
  refine lv_topi (fun v_633 e_633 => ?_)
  have t_633 : v_633 = nI (i + 3) := by rw [e_633]; exact nI_add i 3
  have h_634 : vp_in v_633 L := by rw [t_633]; exact vp_in_nI (by omega) (by omega)
  refine va_sld hx hb hXs hbl hbA hS h_634 dL_law_634 ?_
  refine lv_topi (fun a_634 ea_634 => ?_)
  refine va_calli (va_runV (As := [.int a_624, .int a_629, .int a_634]) (rest := []) ⟨hx, hb, hml, hown, hT⟩ (c_X7_see l Y hX.2.1 h hl a_624 a_629 a_634 hJ) (cwV 3 hT (tb_V (fun _ h => h) (tr_33 _ (List.mem_of_getElem? (i := 4) rfl)) (tr_33 _ (List.mem_of_getElem? (i := 5) rfl)) (tr_33 _ (List.mem_of_getElem? (i := 6) rfl)) (tr_1 _ (List.mem_of_getElem? (i := 5) rfl)) (tr_33 _ (List.mem_of_getElem? (i := 7) rfl))) rfl rfl rfl (by decide +kernel) ⟨Nat.le_of_ble_eq_true rfl, Nat.le_of_ble_eq_true rfl⟩) ⟨fun a U f mk q => ⟨q.1, MI.blind f mk a q.2⟩, va_recv hKy hPy (ci := 7) (q0 := 0) rfl mw_0, fun U hU hW => ⟨rfl, hX.mi hPy hU hW⟩⟩ rfl rfl hlv.1 rfl (lv_room (Nat.le_of_ble_eq_true rfl)) dL_law_635 ⟨Nat.le_of_ble_eq_true rfl, Nat.le_of_ble_eq_true rfl⟩) hS (fun q _ h => hsy q h) hsy (fun r_635 u_635 t_635 H1 locs ht_635 _ hw_635 hB_635 _ hk_635 hS => ?_)
  obtain ⟨h1, hl1⟩ := u_635
  have hPx := hX.kx hPx hk_635
  have hPy : va_P (yD Y) vwCl (mw Y h1 hl1) H1 := ht_635 ▸ hB_635
  obtain ⟨hf2, hJ1, el2, hp2⟩ := hw_635
  dsimp only at hf2 hJ1 el2 hp2
  subst el2
  generalize H1 = H at hPx hPy hS ⊢
  refine lv_pop hx hb dL_law_638 rfl ?_
  refine lv_goto (tgt := 760) hx hb dL_law_639 (by decide) ?_
  have exy0 : a_624 = a_604 := by rw [ea_624, ea_604, t_623, t_603]
  subst exy0
  have exy1 : a_629 = a_609 := by rw [ea_629, ea_609, t_628, t_608]
  subst exy1
  have exy2 : a_634 = a_614 := by rw [ea_634, ea_614, t_633, t_613]
  subst exy2
  obtain ⟨hRs1, hRq1, res⟩ := case_see hRt hRs hJ.j38 hRq hp1 hp2
  exact kk g1 gl1 tf h1 hl _ _ hPx hPy hS (hRp.fr hf hf2 (by decide) (by decide)) (hRt.fr hf hf2 (by decide) (by decide) (fun _ _ => rfl)) hRs1 ((hRd.fr hf hf2 (by decide) (by decide)).le (by omega)) (hRk.fr hf hf2 (by decide) (by decide) (fun _ _ => rfl)) (hRx.fr hX.1 ⟨hJ.j31.1, h40⟩ hRt.1 hf hf2 (by decide) (by decide) (fun _ _ => rfl)) hRq1 hJ1 (by rw [congrFun (hf2 31 (by decide)) 0]; exact h40) hG
set_option maxHeartbeats 4000000 in
set_option maxRecDepth 100000 in
theorem law_17 {p : Program} {l : Launch} {e : Env} {s : State} {m : MethodId} {below : List Frame} {meth : Method} {c : Code} {b L : Nat} {xs : Nat → Int32} (hL : L ≤ 2560) (C0 : lw_At p s m meth c b L xs) (hTl : ∀ w ∈ wsL_law, w.before #[Value.ref b] s = true) {Z : ZT} {Y : YT} (hX : LX s Z Y) {Q : State → Prop} (i : Nat) (hi : i + 5 ≤ L) (g : Nat → Nat → Int32) (gl : Nat → Nat → Int64) (tf : Nat → Nat → Int32) (h : Nat → Nat → Int32) (hl : Nat → Nat → Int64) (H : Heap) (locs : List Loc) (hPx : va_P (zD Z) vwCl (xw Z g gl tf) H) (hPy : va_P (yD Y) vwCl (mw Y h hl) H) (hS : va_S (fun q => s.heap.size ≤ q) s.heap H locs) (hRp : Rpg g h) (hRt : Rtr Z g tf h) (hRs : Rsn g h) (hRd : Rdk g h i) (hRk : Rkp Z g tf h) (hRx : Rtx Z g tf h) (hRq : Rsq g h) (hJ : MJ h) (h40 : (h 31 0).toInt ≤ 40) (hG : Gd Z tf) (ls : Array Slot) (hlv : lv_has ls 4 [(3, .int (nI i)), (2, .ref (ya Y 0)), (1, .ref (za Z 0)), (0, .ref b)]) (kk : ∀ (g : Nat → Nat → Int32) (gl : Nat → Nat → Int64) (tf : Nat → Nat → Int32) (h : Nat → Nat → Int32) (hl : Nat → Nat → Int64) (H : Heap) (locs : List Loc), (va_P (zD Z) vwCl (xw Z g gl tf) H) → (va_P (yD Y) vwCl (mw Y h hl) H) → (va_S (fun q => s.heap.size ≤ q) s.heap H locs) → (Rpg g h) → (Rtr Z g tf h) → (Rsn g h) → (Rdk g h (i + 5)) → (Rkp Z g tf h) → (Rtx Z g tf h) → (Rsq g h) → (MJ h) → ((h 31 0).toInt ≤ 40) → (Gd Z tf) → W p l e room_1 s m #[Value.ref b] below meth c H locs 155 6181 Q (F0 m 760 ls [])) : W p l e room_1 s m #[Value.ref b] below meth c H locs 155 6181 Q (F0 m 642 ls []) := by
  obtain ⟨hx, hb, hr, hml, hown, hts, hXs, hbl, hlocks, hgv⟩ := C0
  have hT := hTl
  have hbA : ¬ (fun q : Nat => s.heap.size ≤ q) b := Nat.not_le.mpr hbl
  have hsx := hX.2.2.2.1
  have hsy := hX.2.2.2.2.1
  have hKx := hX.2.2.2.2.2.1
  have hKy := hX.2.2.2.2.2.2.1
  refine lv_aload_n hx hb dL_law_642 rfl (lv_at hlv 2 rfl) ?_
  refine va_calli (va_runV (As := []) (rest := []) ⟨hx, hb, hml, hown, hT⟩ (c_X6_forget l Z hX.1 g gl tf hG) (cwV 0 hT (tb_V (fun _ h => h) (tr_33 _ (List.mem_of_getElem? (i := 8) rfl)) (tr_33 _ (List.mem_of_getElem? (i := 9) rfl)) (tr_33 _ (List.mem_of_getElem? (i := 10) rfl)) (tr_1 _ (List.mem_of_getElem? (i := 2) rfl)) (tr_33 _ (List.mem_of_getElem? (i := 11) rfl))) rfl rfl rfl (by decide +kernel) ⟨Nat.le_of_ble_eq_true rfl, Nat.le_of_ble_eq_true rfl⟩) ⟨fun a U f mk q => ⟨q.1, XI.blind f mk a q.2⟩, va_recv hKx hPx (ci := 6) (q0 := 0) rfl xw_0, fun U hU hW => ⟨rfl, hX.xi hS hPx hU hW⟩⟩ rfl rfl hlv.1 rfl (lv_room (Nat.le_of_ble_eq_true rfl)) dL_law_643 ⟨Nat.le_of_ble_eq_true rfl, Nat.le_of_ble_eq_true rfl⟩) hS (fun q _ h => hsx q h) hsx (fun r_643 u_643 t_643 H1 locs ht_643 _ hw_643 hB_643 _ hk_643 hS => ?_)
  obtain ⟨g1, gl1, tf1⟩ := u_643
  have hPy := hX.ky hPy hk_643
  have hPx : va_P (zD Z) vwCl (xw Z g1 gl1 tf1) H1 := ht_643 ▸ hB_643
  obtain ⟨hf, hG, et, eg, hp1⟩ := hw_643
  dsimp only at hf hG et eg hp1
  subst et
  subst eg
  generalize H1 = H at hPx hPy hS ⊢
  refine lv_pop hx hb dL_law_646 rfl ?_
  refine lv_aload_n hx hb dL_law_647 rfl (lv_at hlv 1 rfl) ?_
  refine va_calli (va_runV (As := []) (rest := []) ⟨hx, hb, hml, hown, hT⟩ (c_X7_forget l Y hX.2.1 h hl hJ) (cwV 0 hT (tb_V (fun _ h => h) (tr_33 _ (List.mem_of_getElem? (i := 12) rfl)) (tr_33 _ (List.mem_of_getElem? (i := 13) rfl)) (tr_33 _ (List.mem_of_getElem? (i := 14) rfl)) (tr_1 _ (List.mem_of_getElem? (i := 5) rfl)) (tr_33 _ (List.mem_of_getElem? (i := 15) rfl))) rfl rfl rfl (by decide +kernel) ⟨Nat.le_of_ble_eq_true rfl, Nat.le_of_ble_eq_true rfl⟩) ⟨fun a U f mk q => ⟨q.1, MI.blind f mk a q.2⟩, va_recv hKy hPy (ci := 7) (q0 := 0) rfl mw_0, fun U hU hW => ⟨rfl, hX.mi hPy hU hW⟩⟩ rfl rfl hlv.1 rfl (lv_room (Nat.le_of_ble_eq_true rfl)) dL_law_648 ⟨Nat.le_of_ble_eq_true rfl, Nat.le_of_ble_eq_true rfl⟩) hS (fun q _ h => hsy q h) hsy (fun r_648 u_648 t_648 H1 locs ht_648 _ hw_648 hB_648 _ hk_648 hS => ?_)
  obtain ⟨h1, hl1⟩ := u_648
  have hPx := hX.kx hPx hk_648
  have hPy : va_P (yD Y) vwCl (mw Y h1 hl1) H1 := ht_648 ▸ hB_648
  obtain ⟨hf2, hJ1, el2, hp2⟩ := hw_648
  dsimp only at hf2 hJ1 el2 hp2
  subst el2
  generalize H1 = H at hPx hPy hS ⊢
  refine lv_pop hx hb dL_law_651 rfl ?_
  refine lv_goto (tgt := 760) hx hb dL_law_652 (by decide) ?_
  have res : r_643 = r_648 := hp1.trans (hRs.1.trans hp2.1.symm)
  exact kk (up2 g 11 4 0) gl1 tf h1 hl _ _ hPx hPy hS (hRp.fr hf hf2 (by decide) (by decide)) (hRt.fr hf hf2 (by decide) (by decide) (fun _ _ => rfl)) ⟨by rw [hp2.2]; rfl, fun i hi => by rw [hp2.2] at hi; exact absurd hi (by show ¬ (i : Int) < (0 : Int32).toInt; rw [tk_0]; omega)⟩ ((hRd.fr hf hf2 (by decide) (by decide)).le (by omega)) (hRk.fr hf hf2 (by decide) (by decide) (fun _ _ => rfl)) (hRx.fr hX.1 ⟨hJ.j31.1, h40⟩ hRt.1 hf hf2 (by decide) (by decide) (fun _ _ => rfl)) ⟨fun i hi => by rw [hp2.2] at hi; exact absurd hi (by show ¬ (i : Int) < (0 : Int32).toInt; rw [tk_0]; omega), by rw [hp2.2]; exact hRq.2⟩ hJ1 (by rw [congrFun (hf2 31 (by decide)) 0]; exact h40) hG
set_option maxHeartbeats 4000000 in
set_option maxRecDepth 100000 in
theorem law_18 {p : Program} {l : Launch} {e : Env} {s : State} {m : MethodId} {below : List Frame} {meth : Method} {c : Code} {b L : Nat} {xs : Nat → Int32} (hL : L ≤ 2560) (C0 : lw_At p s m meth c b L xs) (hTl : ∀ w ∈ wsL_law, w.before #[Value.ref b] s = true) {Z : ZT} {Y : YT} (hX : LX s Z Y) {Q : State → Prop} (i : Nat) (hi : i + 5 ≤ L) (g : Nat → Nat → Int32) (gl : Nat → Nat → Int64) (tf : Nat → Nat → Int32) (h : Nat → Nat → Int32) (hl : Nat → Nat → Int64) (H : Heap) (locs : List Loc) (hPx : va_P (zD Z) vwCl (xw Z g gl tf) H) (hPy : va_P (yD Y) vwCl (mw Y h hl) H) (hS : va_S (fun q => s.heap.size ≤ q) s.heap H locs) (hRp : Rpg g h) (hRt : Rtr Z g tf h) (hRs : Rsn g h) (hRd : Rdk g h i) (hRk : Rkp Z g tf h) (hRx : Rtx Z g tf h) (hRq : Rsq g h) (hJ : MJ h) (h40 : (h 31 0).toInt ≤ 40) (hG : Gd Z tf) (ls : Array Slot) (hlv : lv_has ls 4 [(3, .int (nI i)), (2, .ref (ya Y 0)), (1, .ref (za Z 0)), (0, .ref b)]) (kk : ∀ (g : Nat → Nat → Int32) (gl : Nat → Nat → Int64) (tf : Nat → Nat → Int32) (h : Nat → Nat → Int32) (hl : Nat → Nat → Int64) (H : Heap) (locs : List Loc), (va_P (zD Z) vwCl (xw Z g gl tf) H) → (va_P (yD Y) vwCl (mw Y h hl) H) → (va_S (fun q => s.heap.size ≤ q) s.heap H locs) → (Rpg g h) → (Rtr Z g tf h) → (Rsn g h) → (Rdk g h (i + 5)) → (Rkp Z g tf h) → (Rtx Z g tf h) → (Rsq g h) → (MJ h) → ((h 31 0).toInt ≤ 40) → (Gd Z tf) → W p l e room_1 s m #[Value.ref b] below meth c H locs 155 6181 Q (F0 m 760 ls [])) : W p l e room_1 s m #[Value.ref b] below meth c H locs 155 6181 Q (F0 m 655 ls []) := by
  obtain ⟨hx, hb, hr, hml, hown, hts, hXs, hbl, hlocks, hgv⟩ := C0
  have hT := hTl
  have hbA : ¬ (fun q : Nat => s.heap.size ≤ q) b := Nat.not_le.mpr hbl
  have hsx := hX.2.2.2.1
  have hsy := hX.2.2.2.2.1
  have hKx := hX.2.2.2.2.2.1
  have hKy := hX.2.2.2.2.2.2.1
  refine lv_aload_n hx hb dL_law_655 rfl (lv_at hlv 2 rfl) ?_
  refine lv_aload_n hx hb dL_law_656 rfl (lv_at hlv 3 rfl) ?_
  refine lv_iload_n hx hb dL_law_657 rfl (lv_at hlv 0 rfl) ?_
  refine lv_iconst (v := 1) hx hb dL_law_658 (by decide) ?_
  refine lv_iadd hx hb dL_law_659 ?_
  refine lv_topi (fun v_659 e_659 => ?_)
  have t_659 : v_659 = nI (i + 1) := by rw [e_659]; exact nI_add i 1
  have h_660 : vp_in v_659 L := by rw [t_659]; exact vp_in_nI (by omega) (by omega)
  refine va_sld hx hb hXs hbl hbA hS h_660 dL_law_660 ?_
  refine lv_topi (fun a_660 ea_660 => ?_)
  refine lv_aload_n hx hb dL_law_661 rfl (lv_at hlv 3 rfl) ?_
  refine lv_iload_n hx hb dL_law_662 rfl (lv_at hlv 0 rfl) ?_
  refine lv_iconst (v := 2) hx hb dL_law_663 (by decide) ?_
  refine lv_iadd hx hb dL_law_664 ?_
  refine lv_topi (fun v_664 e_664 => ?_)
  have t_664 : v_664 = nI (i + 2) := by rw [e_664]; exact nI_add i 2
  have h_665 : vp_in v_664 L := by rw [t_664]; exact vp_in_nI (by omega) (by omega)
  refine va_sld hx hb hXs hbl hbA hS h_665 dL_law_665 ?_
  refine lv_topi (fun a_665 ea_665 => ?_)
  refine lv_aload_n hx hb dL_law_666 rfl (lv_at hlv 3 rfl) ?_
  refine lv_iload_n hx hb dL_law_667 rfl (lv_at hlv 0 rfl) ?_
  refine lv_iconst (v := 3) hx hb dL_law_668 (by decide) ?_
  refine lv_iadd hx hb dL_law_669 ?_
  refine lv_topi (fun v_669 e_669 => ?_)
  have t_669 : v_669 = nI (i + 3) := by rw [e_669]; exact nI_add i 3
  have h_670 : vp_in v_669 L := by rw [t_669]; exact vp_in_nI (by omega) (by omega)
  refine va_sld hx hb hXs hbl hbA hS h_670 dL_law_670 ?_
  refine lv_topi (fun a_670 ea_670 => ?_)
  refine va_calli (va_runV (As := [.int a_660, .int a_665, .int a_670]) (rest := []) ⟨hx, hb, hml, hown, hT⟩ (c_X6_drawn l Z hX.1 g gl tf a_660 a_665 a_670 (by rw [hRt.1]; exact ⟨hJ.j31.1, h40⟩) hRx.1 hG) (cwV 3 hT (tb_V (fun _ h => h) (tr_33 _ (List.mem_of_getElem? (i := 16) rfl)) (tr_33 _ (List.mem_of_getElem? (i := 17) rfl)) (tr_33 _ (List.mem_of_getElem? (i := 18) rfl)) (tr_1 _ (List.mem_of_getElem? (i := 2) rfl)) (tr_33 _ (List.mem_of_getElem? (i := 19) rfl))) rfl rfl rfl (by decide +kernel) ⟨Nat.le_of_ble_eq_true rfl, Nat.le_of_ble_eq_true rfl⟩) ⟨fun a U f mk q => ⟨q.1, XI.blind f mk a q.2⟩, va_recv hKx hPx (ci := 6) (q0 := 0) rfl xw_0, fun U hU hW => ⟨rfl, hX.xi hS hPx hU hW⟩⟩ rfl rfl hlv.1 rfl (lv_room (Nat.le_of_ble_eq_true rfl)) dL_law_671 ⟨Nat.le_of_ble_eq_true rfl, Nat.le_of_ble_eq_true rfl⟩) hS (fun q _ h => hsx q h) hsx (fun r_671 u_671 t_671 H1 locs ht_671 _ hw_671 hB_671 _ hk_671 hS => ?_)
  obtain ⟨g1, gl1, tf1⟩ := u_671
  have hPy := hX.ky hPy hk_671
  have hPx : va_P (zD Z) vwCl (xw Z g1 gl1 tf1) H1 := ht_671 ▸ hB_671
  obtain ⟨hf, hG, hp1⟩ := hw_671
  dsimp only at hf hG hp1
  generalize H1 = H at hPx hPy hS ⊢
  refine lv_pop hx hb dL_law_674 rfl ?_
  refine lv_aload_n hx hb dL_law_675 rfl (lv_at hlv 1 rfl) ?_
  refine lv_aload_n hx hb dL_law_676 rfl (lv_at hlv 3 rfl) ?_
  refine lv_iload_n hx hb dL_law_677 rfl (lv_at hlv 0 rfl) ?_
  refine lv_iconst (v := 1) hx hb dL_law_678 (by decide) ?_
  refine lv_iadd hx hb dL_law_679 ?_
  refine lv_topi (fun v_679 e_679 => ?_)
  have t_679 : v_679 = nI (i + 1) := by rw [e_679]; exact nI_add i 1
  have h_680 : vp_in v_679 L := by rw [t_679]; exact vp_in_nI (by omega) (by omega)
  refine va_sld hx hb hXs hbl hbA hS h_680 dL_law_680 ?_
  refine lv_topi (fun a_680 ea_680 => ?_)
  refine lv_aload_n hx hb dL_law_681 rfl (lv_at hlv 3 rfl) ?_
  refine lv_iload_n hx hb dL_law_682 rfl (lv_at hlv 0 rfl) ?_
  refine lv_iconst (v := 2) hx hb dL_law_683 (by decide) ?_
  refine lv_iadd hx hb dL_law_684 ?_
  refine lv_topi (fun v_684 e_684 => ?_)
  have t_684 : v_684 = nI (i + 2) := by rw [e_684]; exact nI_add i 2
  have h_685 : vp_in v_684 L := by rw [t_684]; exact vp_in_nI (by omega) (by omega)
  refine va_sld hx hb hXs hbl hbA hS h_685 dL_law_685 ?_
  refine lv_topi (fun a_685 ea_685 => ?_)
  refine lv_aload_n hx hb dL_law_686 rfl (lv_at hlv 3 rfl) ?_
  refine lv_iload_n hx hb dL_law_687 rfl (lv_at hlv 0 rfl) ?_
  refine lv_iconst (v := 3) hx hb dL_law_688 (by decide) ?_
  refine lv_iadd hx hb dL_law_689 ?_
  refine lv_topi (fun v_689 e_689 => ?_)
  have t_689 : v_689 = nI (i + 3) := by rw [e_689]; exact nI_add i 3
  have h_690 : vp_in v_689 L := by rw [t_689]; exact vp_in_nI (by omega) (by omega)
  refine va_sld hx hb hXs hbl hbA hS h_690 dL_law_690 ?_
  refine lv_topi (fun a_690 ea_690 => ?_)
  refine va_calli (va_runV (As := [.int a_680, .int a_685, .int a_690]) (rest := []) ⟨hx, hb, hml, hown, hT⟩ (c_X7_drawn l Y hX.2.1 h hl a_680 a_685 a_690 h40 hRx.2.2 hJ) (cwV 3 hT (tb_V (fun _ h => h) (tr_34 _ (List.mem_of_getElem? (i := 10) rfl)) (tr_34 _ (List.mem_of_getElem? (i := 11) rfl)) (tr_34 _ (List.mem_of_getElem? (i := 12) rfl)) (tr_1 _ (List.mem_of_getElem? (i := 5) rfl)) (tr_34 _ (List.mem_of_getElem? (i := 13) rfl))) rfl rfl rfl (by decide +kernel) ⟨Nat.le_of_ble_eq_true rfl, Nat.le_of_ble_eq_true rfl⟩) ⟨fun a U f mk q => ⟨q.1, MI.blind f mk a q.2⟩, va_recv hKy hPy (ci := 7) (q0 := 0) rfl mw_0, fun U hU hW => ⟨rfl, hX.mi hPy hU hW⟩⟩ rfl rfl hlv.1 rfl (lv_room (Nat.le_of_ble_eq_true rfl)) dL_law_691 ⟨Nat.le_of_ble_eq_true rfl, Nat.le_of_ble_eq_true rfl⟩) hS (fun q _ h => hsy q h) hsy (fun r_691 u_691 t_691 H1 locs ht_691 _ hw_691 hB_691 _ hk_691 hS => ?_)
  obtain ⟨h1, hl1⟩ := u_691
  have hPx := hX.kx hPx hk_691
  have hPy : va_P (yD Y) vwCl (mw Y h1 hl1) H1 := ht_691 ▸ hB_691
  obtain ⟨hf2, hJ1, hp2⟩ := hw_691
  dsimp only at hf2 hJ1 hp2
  generalize H1 = H at hPx hPy hS ⊢
  refine lv_pop hx hb dL_law_694 rfl ?_
  refine lv_goto (tgt := 760) hx hb dL_law_695 (by decide) ?_
  have exy0 : a_680 = a_660 := by rw [ea_680, ea_660, t_679, t_659]
  subst exy0
  have exy1 : a_685 = a_665 := by rw [ea_685, ea_665, t_684, t_664]
  subst exy1
  have exy2 : a_690 = a_670 := by rw [ea_690, ea_670, t_689, t_669]
  subst exy2
  obtain ⟨hRt1, hRx1, tko, res⟩ := case_drawn hX.1 hRt hRd ⟨hJ.j31.1, h40⟩ hRx hf2 hp1 hp2.1
  exact kk g1 gl1 tf1 h1 hl1 _ _ hPx hPy hS (hRp.fr hf hf2 (by decide) (by decide)) hRt1 (hRs.fr hf hf2 (by decide) (by decide)) ((hRd.fr hf hf2 (by decide) (by decide)).le (by omega)) (hRk.fr hf hf2 (by decide) (by decide) tko) hRx1 (hRq.fr hf hf2 (by decide) (by decide)) hJ1 hp2.2 hG
set_option maxHeartbeats 4000000 in
set_option maxRecDepth 100000 in
theorem law_19 {p : Program} {l : Launch} {e : Env} {s : State} {m : MethodId} {below : List Frame} {meth : Method} {c : Code} {b L : Nat} {xs : Nat → Int32} (hL : L ≤ 2560) (C0 : lw_At p s m meth c b L xs) (hTl : ∀ w ∈ wsL_law, w.before #[Value.ref b] s = true) {Z : ZT} {Y : YT} (hX : LX s Z Y) {Q : State → Prop} (i : Nat) (hi : i + 5 ≤ L) (g : Nat → Nat → Int32) (gl : Nat → Nat → Int64) (tf : Nat → Nat → Int32) (h : Nat → Nat → Int32) (hl : Nat → Nat → Int64) (H : Heap) (locs : List Loc) (hPx : va_P (zD Z) vwCl (xw Z g gl tf) H) (hPy : va_P (yD Y) vwCl (mw Y h hl) H) (hS : va_S (fun q => s.heap.size ≤ q) s.heap H locs) (hRp : Rpg g h) (hRt : Rtr Z g tf h) (hRs : Rsn g h) (hRd : Rdk g h i) (hRk : Rkp Z g tf h) (hRx : Rtx Z g tf h) (hRq : Rsq g h) (hJ : MJ h) (h40 : (h 31 0).toInt ≤ 40) (hG : Gd Z tf) (ls : Array Slot) (hlv : lv_has ls 4 [(3, .int (nI i)), (2, .ref (ya Y 0)), (1, .ref (za Z 0)), (0, .ref b)]) (kk : ∀ (g : Nat → Nat → Int32) (gl : Nat → Nat → Int64) (tf : Nat → Nat → Int32) (h : Nat → Nat → Int32) (hl : Nat → Nat → Int64) (H : Heap) (locs : List Loc), (va_P (zD Z) vwCl (xw Z g gl tf) H) → (va_P (yD Y) vwCl (mw Y h hl) H) → (va_S (fun q => s.heap.size ≤ q) s.heap H locs) → (Rpg g h) → (Rtr Z g tf h) → (Rsn g h) → (Rdk g h (i + 5)) → (Rkp Z g tf h) → (Rtx Z g tf h) → (Rsq g h) → (MJ h) → ((h 31 0).toInt ≤ 40) → (Gd Z tf) → W p l e room_1 s m #[Value.ref b] below meth c H locs 155 6181 Q (F0 m 760 ls [])) : W p l e room_1 s m #[Value.ref b] below meth c H locs 155 6181 Q (F0 m 698 ls []) := by
  obtain ⟨hx, hb, hr, hml, hown, hts, hXs, hbl, hlocks, hgv⟩ := C0
  have hT := hTl
  have hbA : ¬ (fun q : Nat => s.heap.size ≤ q) b := Nat.not_le.mpr hbl
  have hsx := hX.2.2.2.1
  have hsy := hX.2.2.2.2.1
  have hKx := hX.2.2.2.2.2.1
  have hKy := hX.2.2.2.2.2.2.1
  refine lv_aload_n hx hb dL_law_698 rfl (lv_at hlv 2 rfl) ?_
  refine va_calli (va_runV (As := []) (rest := []) ⟨hx, hb, hml, hown, hT⟩ (c_X6_image l Z hX.1 g gl tf (by rw [hRt.1]; exact ⟨hJ.j31.1, h40⟩) (by rw [hRs.1]; exact hJ.j38) hG) (cwV 0 hT (tb_V (fun _ h => h) (tr_35 _ (List.mem_of_getElem? (i := 6) rfl)) (tr_35 _ (List.mem_of_getElem? (i := 7) rfl)) (tr_35 _ (List.mem_of_getElem? (i := 8) rfl)) (tr_1 _ (List.mem_of_getElem? (i := 2) rfl)) (tr_35 _ (List.mem_of_getElem? (i := 9) rfl))) rfl rfl rfl (by decide +kernel) ⟨Nat.le_of_ble_eq_true rfl, Nat.le_of_ble_eq_true rfl⟩) ⟨fun a U f mk q => ⟨q.1, XI.blind f mk a q.2⟩, va_recv hKx hPx (ci := 6) (q0 := 0) rfl xw_0, fun U hU hW => ⟨rfl, hX.xi hS hPx hU hW⟩⟩ rfl rfl hlv.1 rfl (lv_room (Nat.le_of_ble_eq_true rfl)) dL_law_699 ⟨Nat.le_of_ble_eq_true rfl, Nat.le_of_ble_eq_true rfl⟩) hS (fun q _ h => hsx q h) hsx (fun r_699 u_699 t_699 H1 locs ht_699 _ hw_699 hB_699 _ hk_699 hS => ?_)
  obtain ⟨g1, gl1, tf1⟩ := u_699
  have hPy := hX.ky hPy hk_699
  have hPx : va_P (zD Z) vwCl (xw Z g1 gl1 tf1) H1 := ht_699 ▸ hB_699
  obtain ⟨hf, hG, hp1⟩ := hw_699
  dsimp only at hf hG hp1
  generalize H1 = H at hPx hPy hS ⊢
  refine lv_pop hx hb dL_law_702 rfl ?_
  refine lv_aload_n hx hb dL_law_703 rfl (lv_at hlv 1 rfl) ?_
  refine va_calli (va_runV (As := []) (rest := []) ⟨hx, hb, hml, hown, hT⟩ (c_X7_image l Y hX.2.1 h hl h40 hJ) (cwV 0 hT (tb_V (fun _ h => h) (tr_35 _ (List.mem_of_getElem? (i := 20) rfl)) (tr_35 _ (List.mem_of_getElem? (i := 21) rfl)) (tr_35 _ (List.mem_of_getElem? (i := 22) rfl)) (tr_1 _ (List.mem_of_getElem? (i := 5) rfl)) (tr_35 _ (List.mem_of_getElem? (i := 23) rfl))) rfl rfl rfl (by decide +kernel) ⟨Nat.le_of_ble_eq_true rfl, Nat.le_of_ble_eq_true rfl⟩) ⟨fun a U f mk q => ⟨q.1, MI.blind f mk a q.2⟩, va_recv hKy hPy (ci := 7) (q0 := 0) rfl mw_0, fun U hU hW => ⟨rfl, hX.mi hPy hU hW⟩⟩ rfl rfl hlv.1 rfl (lv_room (Nat.le_of_ble_eq_true rfl)) dL_law_704 ⟨Nat.le_of_ble_eq_true rfl, Nat.le_of_ble_eq_true rfl⟩) hS (fun q _ h => hsy q h) hsy (fun r_704 u_704 t_704 H1 locs ht_704 _ hw_704 hB_704 _ hk_704 hS => ?_)
  obtain ⟨h1, hl1⟩ := u_704
  have hPx := hX.kx hPx hk_704
  have hPy : va_P (yD Y) vwCl (mw Y h1 hl1) H1 := ht_704 ▸ hB_704
  obtain ⟨hf2, hJ1, el2, hp2⟩ := hw_704
  dsimp only at hf2 hJ1 el2 hp2
  subst el2
  generalize H1 = H at hPx hPy hS ⊢
  refine lv_pop hx hb dL_law_707 rfl ?_
  refine lv_goto (tgt := 760) hx hb dL_law_708 (by decide) ?_
  obtain ⟨hRt1, hRd1, hRk1, hRx1, hRq1, res⟩ := case_image hX.1 hRt hRs hRd hRk hJ h40 hRx hRq hf hf2 hp1 hp2
  exact kk g1 gl1 tf1 h1 hl _ _ hPx hPy hS (hRp.fr hf hf2 (by decide) (by decide)) hRt1 (hRs.fr hf hf2 (by decide) (by decide)) (hRd1.le (by omega)) hRk1 hRx1 hRq1 hJ1 (by rw [congrFun (hf2 31 (by decide)) 0]; exact h40) hG
set_option maxHeartbeats 4000000 in
set_option maxRecDepth 100000 in
theorem law_20 {p : Program} {l : Launch} {e : Env} {s : State} {m : MethodId} {below : List Frame} {meth : Method} {c : Code} {b L : Nat} {xs : Nat → Int32} (hL : L ≤ 2560) (C0 : lw_At p s m meth c b L xs) (hTl : ∀ w ∈ wsL_law, w.before #[Value.ref b] s = true) {Z : ZT} {Y : YT} (hX : LX s Z Y) {Q : State → Prop} (i : Nat) (hi : i + 5 ≤ L) (g : Nat → Nat → Int32) (gl : Nat → Nat → Int64) (tf : Nat → Nat → Int32) (h : Nat → Nat → Int32) (hl : Nat → Nat → Int64) (H : Heap) (locs : List Loc) (hPx : va_P (zD Z) vwCl (xw Z g gl tf) H) (hPy : va_P (yD Y) vwCl (mw Y h hl) H) (hS : va_S (fun q => s.heap.size ≤ q) s.heap H locs) (hRp : Rpg g h) (hRt : Rtr Z g tf h) (hRs : Rsn g h) (hRd : Rdk g h i) (hRk : Rkp Z g tf h) (hRx : Rtx Z g tf h) (hRq : Rsq g h) (hJ : MJ h) (h40 : (h 31 0).toInt ≤ 40) (hG : Gd Z tf) (ls : Array Slot) (hlv : lv_has ls 4 [(3, .int (nI i)), (2, .ref (ya Y 0)), (1, .ref (za Z 0)), (0, .ref b)]) (kk : ∀ (g : Nat → Nat → Int32) (gl : Nat → Nat → Int64) (tf : Nat → Nat → Int32) (h : Nat → Nat → Int32) (hl : Nat → Nat → Int64) (H : Heap) (locs : List Loc), (va_P (zD Z) vwCl (xw Z g gl tf) H) → (va_P (yD Y) vwCl (mw Y h hl) H) → (va_S (fun q => s.heap.size ≤ q) s.heap H locs) → (Rpg g h) → (Rtr Z g tf h) → (Rsn g h) → (Rdk g h (i + 5)) → (Rkp Z g tf h) → (Rtx Z g tf h) → (Rsq g h) → (MJ h) → ((h 31 0).toInt ≤ 40) → (Gd Z tf) → W p l e room_1 s m #[Value.ref b] below meth c H locs 155 6181 Q (F0 m 760 ls [])) : W p l e room_1 s m #[Value.ref b] below meth c H locs 155 6181 Q (F0 m 711 ls []) := by
  obtain ⟨hx, hb, hr, hml, hown, hts, hXs, hbl, hlocks, hgv⟩ := C0
  have hT := hTl
  have hbA : ¬ (fun q : Nat => s.heap.size ≤ q) b := Nat.not_le.mpr hbl
  have hsx := hX.2.2.2.1
  have hsy := hX.2.2.2.2.1
  have hKx := hX.2.2.2.2.2.1
  have hKy := hX.2.2.2.2.2.2.1
  refine lv_aload_n hx hb dL_law_711 rfl (lv_at hlv 2 rfl) ?_
  refine va_calli (va_runV (As := []) (rest := []) ⟨hx, hb, hml, hown, hT⟩ (c_X6_restore l Z hX.1 g gl tf hRk.1 hRk.2.1 hG) (cwV 0 hT (tb_V (fun _ h => h) (tr_36 _ (List.mem_of_getElem? (i := 4) rfl)) (tr_36 _ (List.mem_of_getElem? (i := 5) rfl)) (tr_36 _ (List.mem_of_getElem? (i := 6) rfl)) (tr_1 _ (List.mem_of_getElem? (i := 2) rfl)) (tr_36 _ (List.mem_of_getElem? (i := 7) rfl))) rfl rfl rfl (by decide +kernel) ⟨Nat.le_of_ble_eq_true rfl, Nat.le_of_ble_eq_true rfl⟩) ⟨fun a U f mk q => ⟨q.1, XI.blind f mk a q.2⟩, va_recv hKx hPx (ci := 6) (q0 := 0) rfl xw_0, fun U hU hW => ⟨rfl, hX.xi hS hPx hU hW⟩⟩ rfl rfl hlv.1 rfl (lv_room (Nat.le_of_ble_eq_true rfl)) dL_law_712 ⟨Nat.le_of_ble_eq_true rfl, Nat.le_of_ble_eq_true rfl⟩) hS (fun q _ h => hsx q h) hsx (fun r_712 u_712 t_712 H1 locs ht_712 _ hw_712 hB_712 _ hk_712 hS => ?_)
  obtain ⟨g1, gl1, tf1⟩ := u_712
  have hPy := hX.ky hPy hk_712
  have hPx : va_P (zD Z) vwCl (xw Z g1 gl1 tf1) H1 := ht_712 ▸ hB_712
  obtain ⟨hf, hG, hp1⟩ := hw_712
  dsimp only at hf hG hp1
  generalize H1 = H at hPx hPy hS ⊢
  refine lv_pop hx hb dL_law_715 rfl ?_
  refine lv_aload_n hx hb dL_law_716 rfl (lv_at hlv 1 rfl) ?_
  refine va_calli (va_runV (As := []) (rest := []) ⟨hx, hb, hml, hown, hT⟩ (c_X7_restore l Y hX.2.1 h hl h40 hJ) (cwV 0 hT (tb_V (fun _ h => h) (tr_36 _ (List.mem_of_getElem? (i := 8) rfl)) (tr_36 _ (List.mem_of_getElem? (i := 9) rfl)) (tr_36 _ (List.mem_of_getElem? (i := 10) rfl)) (tr_1 _ (List.mem_of_getElem? (i := 5) rfl)) (tr_36 _ (List.mem_of_getElem? (i := 11) rfl))) rfl rfl rfl (by decide +kernel) ⟨Nat.le_of_ble_eq_true rfl, Nat.le_of_ble_eq_true rfl⟩) ⟨fun a U f mk q => ⟨q.1, MI.blind f mk a q.2⟩, va_recv hKy hPy (ci := 7) (q0 := 0) rfl mw_0, fun U hU hW => ⟨rfl, hX.mi hPy hU hW⟩⟩ rfl rfl hlv.1 rfl (lv_room (Nat.le_of_ble_eq_true rfl)) dL_law_717 ⟨Nat.le_of_ble_eq_true rfl, Nat.le_of_ble_eq_true rfl⟩) hS (fun q _ h => hsy q h) hsy (fun r_717 u_717 t_717 H1 locs ht_717 _ hw_717 hB_717 _ hk_717 hS => ?_)
  obtain ⟨h1, hl1⟩ := u_717
  have hPx := hX.kx hPx hk_717
  have hPy : va_P (yD Y) vwCl (mw Y h1 hl1) H1 := ht_717 ▸ hB_717
  obtain ⟨hf2, hJ1, el2, hp2⟩ := hw_717
  dsimp only at hf2 hJ1 el2 hp2
  subst el2
  generalize H1 = H at hPx hPy hS ⊢
  refine lv_pop hx hb dL_law_720 rfl ?_
  refine lv_goto (tgt := 760) hx hb dL_law_721 (by decide) ?_
  obtain ⟨hRt1, hRs1, hRk1, hRx1, hRq1, res⟩ := case_restore hX.1 hRt hRs hRd hRk hJ hRx hRq hf hf2 hp1 hp2.1
  exact kk g1 gl1 tf1 h1 hl _ _ hPx hPy hS (hRp.fr hf hf2 (by decide) (by decide)) hRt1 hRs1 ((hRd.fr hf hf2 (by decide) (by decide)).le (by omega)) hRk1 hRx1 hRq1 hJ1 hp2.2 hG
set_option maxHeartbeats 4000000 in
set_option maxRecDepth 100000 in
theorem law_21 {p : Program} {l : Launch} {e : Env} {s : State} {m : MethodId} {below : List Frame} {meth : Method} {c : Code} {b L : Nat} {xs : Nat → Int32} (hL : L ≤ 2560) (C0 : lw_At p s m meth c b L xs) (hTl : ∀ w ∈ wsL_law, w.before #[Value.ref b] s = true) {Z : ZT} {Y : YT} (hX : LX s Z Y) {Q : State → Prop} (i : Nat) (hi : i + 5 ≤ L) (g : Nat → Nat → Int32) (gl : Nat → Nat → Int64) (tf : Nat → Nat → Int32) (h : Nat → Nat → Int32) (hl : Nat → Nat → Int64) (H : Heap) (locs : List Loc) (hPx : va_P (zD Z) vwCl (xw Z g gl tf) H) (hPy : va_P (yD Y) vwCl (mw Y h hl) H) (hS : va_S (fun q => s.heap.size ≤ q) s.heap H locs) (hRp : Rpg g h) (hRt : Rtr Z g tf h) (hRs : Rsn g h) (hRd : Rdk g h i) (hRk : Rkp Z g tf h) (hRx : Rtx Z g tf h) (hRq : Rsq g h) (hJ : MJ h) (h40 : (h 31 0).toInt ≤ 40) (hG : Gd Z tf) (ls : Array Slot) (hlv : lv_has ls 4 [(3, .int (nI i)), (2, .ref (ya Y 0)), (1, .ref (za Z 0)), (0, .ref b)]) (kk : ∀ (g : Nat → Nat → Int32) (gl : Nat → Nat → Int64) (tf : Nat → Nat → Int32) (h : Nat → Nat → Int32) (hl : Nat → Nat → Int64) (H : Heap) (locs : List Loc), (va_P (zD Z) vwCl (xw Z g gl tf) H) → (va_P (yD Y) vwCl (mw Y h hl) H) → (va_S (fun q => s.heap.size ≤ q) s.heap H locs) → (Rpg g h) → (Rtr Z g tf h) → (Rsn g h) → (Rdk g h (i + 5)) → (Rkp Z g tf h) → (Rtx Z g tf h) → (Rsq g h) → (MJ h) → ((h 31 0).toInt ≤ 40) → (Gd Z tf) → W p l e room_1 s m #[Value.ref b] below meth c H locs 155 6181 Q (F0 m 760 ls [])) : W p l e room_1 s m #[Value.ref b] below meth c H locs 155 6181 Q (F0 m 724 ls []) := by
  obtain ⟨hx, hb, hr, hml, hown, hts, hXs, hbl, hlocks, hgv⟩ := C0
  have hT := hTl
  have hbA : ¬ (fun q : Nat => s.heap.size ≤ q) b := Nat.not_le.mpr hbl
  have hsx := hX.2.2.2.1
  have hsy := hX.2.2.2.2.1
  have hKx := hX.2.2.2.2.2.1
  have hKy := hX.2.2.2.2.2.2.1
  refine lv_aload_n hx hb dL_law_724 rfl (lv_at hlv 2 rfl) ?_
  refine lv_aload_n hx hb dL_law_725 rfl (lv_at hlv 3 rfl) ?_
  refine lv_iload_n hx hb dL_law_726 rfl (lv_at hlv 0 rfl) ?_
  refine lv_iconst (v := 1) hx hb dL_law_727 (by decide) ?_
  refine lv_iadd hx hb dL_law_728 ?_
  refine lv_topi (fun v_728 e_728 => ?_)
  have t_728 : v_728 = nI (i + 1) := by rw [e_728]; exact nI_add i 1
  have h_729 : vp_in v_728 L := by rw [t_728]; exact vp_in_nI (by omega) (by omega)
  refine va_sld hx hb hXs hbl hbA hS h_729 dL_law_729 ?_
  refine lv_topi (fun a_729 ea_729 => ?_)
  refine rd_ci (va_runV (As := [.int a_729]) (rest := []) ⟨hx, hb, hml, hown, hT⟩ (c_X6_count l Z hX.1 g gl tf a_729 (by rw [hRt.1]; exact ⟨hJ.j31.1, h40⟩) hG) (cwV 1 hT (tb_V (fun _ h => h) (tr_36 _ (List.mem_of_getElem? (i := 12) rfl)) (tr_36 _ (List.mem_of_getElem? (i := 13) rfl)) (tr_36 _ (List.mem_of_getElem? (i := 14) rfl)) (tr_1 _ (List.mem_of_getElem? (i := 2) rfl)) (tr_36 _ (List.mem_of_getElem? (i := 15) rfl))) rfl rfl rfl (by decide +kernel) ⟨Nat.le_of_ble_eq_true rfl, Nat.le_of_ble_eq_true rfl⟩) ⟨fun a U f mk q => ⟨q.1, XI.blind f mk a q.2⟩, va_recv hKx hPx (ci := 6) (q0 := 0) rfl xw_0, fun U hU hW => ⟨rfl, hX.xi hS hPx hU hW⟩⟩ rfl rfl hlv.1 rfl (lv_room (Nat.le_of_ble_eq_true rfl)) dL_law_730 ⟨Nat.le_of_ble_eq_true rfl, Nat.le_of_ble_eq_true rfl⟩) (fun r_730 hr_730 => ?_)
  refine lv_pop hx hb dL_law_733 rfl ?_
  refine lv_aload_n hx hb dL_law_734 rfl (lv_at hlv 1 rfl) ?_
  refine lv_aload_n hx hb dL_law_735 rfl (lv_at hlv 3 rfl) ?_
  refine lv_iload_n hx hb dL_law_736 rfl (lv_at hlv 0 rfl) ?_
  refine lv_iconst (v := 1) hx hb dL_law_737 (by decide) ?_
  refine lv_iadd hx hb dL_law_738 ?_
  refine lv_topi (fun v_738 e_738 => ?_)
  have t_738 : v_738 = nI (i + 1) := by rw [e_738]; exact nI_add i 1
  have h_739 : vp_in v_738 L := by rw [t_738]; exact vp_in_nI (by omega) (by omega)
  refine va_sld hx hb hXs hbl hbA hS h_739 dL_law_739 ?_
  refine lv_topi (fun a_739 ea_739 => ?_)
  refine rd_ci (va_runV (As := [.int a_739]) (rest := []) ⟨hx, hb, hml, hown, hT⟩ (c_X7_count l Y hX.2.1 h hl a_739 hJ) (cwV 1 hT (tb_V (fun _ h => h) (tr_37 _ (List.mem_of_getElem? (i := 0) rfl)) (tr_37 _ (List.mem_of_getElem? (i := 1) rfl)) (tr_37 _ (List.mem_of_getElem? (i := 2) rfl)) (tr_1 _ (List.mem_of_getElem? (i := 5) rfl)) (tr_37 _ (List.mem_of_getElem? (i := 3) rfl))) rfl rfl rfl (by decide +kernel) ⟨Nat.le_of_ble_eq_true rfl, Nat.le_of_ble_eq_true rfl⟩) ⟨fun a U f mk q => ⟨q.1, MI.blind f mk a q.2⟩, va_recv hKy hPy (ci := 7) (q0 := 0) rfl mw_0, fun U hU hW => ⟨rfl, hX.mi hPy hU hW⟩⟩ rfl rfl hlv.1 rfl (lv_room (Nat.le_of_ble_eq_true rfl)) dL_law_740 ⟨Nat.le_of_ble_eq_true rfl, Nat.le_of_ble_eq_true rfl⟩) (fun r_740 hr_740 => ?_)
  refine lv_pop hx hb dL_law_743 rfl ?_
  refine lv_goto (tgt := 760) hx hb dL_law_744 (by decide) ?_
  have exy0 : a_739 = a_729 := by rw [ea_739, ea_729, t_738, t_728]
  subst exy0
  have res := case_count hRp hRt hRs hRd hRx hJ h40 hr_730 hr_740
  exact kk g gl tf h hl _ _ hPx hPy hS (hRp.fr (Fr.rf (S := [])) (Fr.rf (S := [])) (by decide) (by decide)) (hRt.fr (Fr.rf (S := [])) (Fr.rf (S := [])) (by decide) (by decide) (fun _ _ => rfl)) (hRs.fr (Fr.rf (S := [])) (Fr.rf (S := [])) (by decide) (by decide)) ((hRd.fr (Fr.rf (S := [])) (Fr.rf (S := [])) (by decide) (by decide)).le (by omega)) (hRk.fr (Fr.rf (S := [])) (Fr.rf (S := [])) (by decide) (by decide) (fun _ _ => rfl)) (hRx.fr hX.1 ⟨hJ.j31.1, h40⟩ hRt.1 (Fr.rf (S := [])) (Fr.rf (S := [])) (by decide) (by decide) (fun _ _ => rfl)) (hRq.fr (Fr.rf (S := [])) (Fr.rf (S := [])) (by decide) (by decide)) hJ h40 hG
set_option maxHeartbeats 4000000 in
set_option maxRecDepth 100000 in
theorem law_22 {p : Program} {l : Launch} {e : Env} {s : State} {m : MethodId} {below : List Frame} {meth : Method} {c : Code} {b L : Nat} {xs : Nat → Int32} (hL : L ≤ 2560) (C0 : lw_At p s m meth c b L xs) (hTl : ∀ w ∈ wsL_law, w.before #[Value.ref b] s = true) {Z : ZT} {Y : YT} (hX : LX s Z Y) {Q : State → Prop} (i : Nat) (hi : i + 5 ≤ L) (g : Nat → Nat → Int32) (gl : Nat → Nat → Int64) (tf : Nat → Nat → Int32) (h : Nat → Nat → Int32) (hl : Nat → Nat → Int64) (H : Heap) (locs : List Loc) (hPx : va_P (zD Z) vwCl (xw Z g gl tf) H) (hPy : va_P (yD Y) vwCl (mw Y h hl) H) (hS : va_S (fun q => s.heap.size ≤ q) s.heap H locs) (hRp : Rpg g h) (hRt : Rtr Z g tf h) (hRs : Rsn g h) (hRd : Rdk g h i) (hRk : Rkp Z g tf h) (hRx : Rtx Z g tf h) (hRq : Rsq g h) (hJ : MJ h) (h40 : (h 31 0).toInt ≤ 40) (hG : Gd Z tf) (ls : Array Slot) (hlv : lv_has ls 4 [(3, .int (nI i)), (2, .ref (ya Y 0)), (1, .ref (za Z 0)), (0, .ref b)]) (kk : ∀ (g : Nat → Nat → Int32) (gl : Nat → Nat → Int64) (tf : Nat → Nat → Int32) (h : Nat → Nat → Int32) (hl : Nat → Nat → Int64) (H : Heap) (locs : List Loc), (va_P (zD Z) vwCl (xw Z g gl tf) H) → (va_P (yD Y) vwCl (mw Y h hl) H) → (va_S (fun q => s.heap.size ≤ q) s.heap H locs) → (Rpg g h) → (Rtr Z g tf h) → (Rsn g h) → (Rdk g h (i + 5)) → (Rkp Z g tf h) → (Rtx Z g tf h) → (Rsq g h) → (MJ h) → ((h 31 0).toInt ≤ 40) → (Gd Z tf) → W p l e room_1 s m #[Value.ref b] below meth c H locs 155 6181 Q (F0 m 760 ls [])) : W p l e room_1 s m #[Value.ref b] below meth c H locs 155 6181 Q (F0 m 747 ls []) := by
  obtain ⟨hx, hb, hr, hml, hown, hts, hXs, hbl, hlocks, hgv⟩ := C0
  have hT := hTl
  have hbA : ¬ (fun q : Nat => s.heap.size ≤ q) b := Nat.not_le.mpr hbl
  have hsx := hX.2.2.2.1
  have hsy := hX.2.2.2.2.1
  have hKx := hX.2.2.2.2.2.1
  have hKy := hX.2.2.2.2.2.2.1
  refine lv_aload_n hx hb dL_law_747 rfl (lv_at hlv 2 rfl) ?_
  refine va_calll (va_runV (As := []) (rest := []) ⟨hx, hb, hml, hown, hT⟩ (c_X6_digest l Z hX.1 g gl tf (by rw [hRp.1]; exact hJ.j10) (by rw [hRp.2]; exact hJ.j42) (by rw [hRt.1]; exact ⟨hJ.j31.1, h40⟩) hRx.1 (by rw [hRs.1]; exact hJ.j38) (fun i hi => by rw [hRs.1] at hi; rw [(hRs.2 i hi).2.1]; exact hRq.1 i hi) hG) (cwV 0 hT (tb_V (fun _ h => h) (tr_37 _ (List.mem_of_getElem? (i := 16) rfl)) (tr_37 _ (List.mem_of_getElem? (i := 17) rfl)) (tr_37 _ (List.mem_of_getElem? (i := 18) rfl)) (tr_1 _ (List.mem_of_getElem? (i := 2) rfl)) (tr_37 _ (List.mem_of_getElem? (i := 19) rfl))) rfl rfl rfl (by decide +kernel) ⟨Nat.le_of_ble_eq_true rfl, Nat.le_of_ble_eq_true rfl⟩) ⟨fun a U f mk q => ⟨q.1, XI.blind f mk a q.2⟩, va_recv hKx hPx (ci := 6) (q0 := 0) rfl xw_0, fun U hU hW => ⟨rfl, hX.xi hS hPx hU hW⟩⟩ rfl rfl hlv.1 rfl (lv_room (Nat.le_of_ble_eq_true rfl)) dL_law_748 ⟨Nat.le_of_ble_eq_true rfl, Nat.le_of_ble_eq_true rfl⟩) hS (fun q _ h => hsx q h) hsx (fun r_748 u_748 t_748 H1 locs ht_748 _ hw_748 hB_748 _ hk_748 hS => ?_)
  obtain ⟨g1, gl1, tf1⟩ := u_748
  have hPy := hX.ky hPy hk_748
  have hPx : va_P (zD Z) vwCl (xw Z g1 gl1 tf1) H1 := ht_748 ▸ hB_748
  obtain ⟨hf, hG, et, hp1⟩ := hw_748
  dsimp only at hf hG et hp1
  subst et
  generalize H1 = H at hPx hPy hS ⊢
  refine lv_pop2_2 hx hb dL_law_751 rfl ?_
  refine lv_aload_n hx hb dL_law_752 rfl (lv_at hlv 1 rfl) ?_
  refine va_calll (va_runV (As := []) (rest := []) ⟨hx, hb, hml, hown, hT⟩ (c_X7_digest l Y hX.2.1 h hl hJ) (cwV 0 hT (tb_V (fun _ h => h) (tr_38 _ (List.mem_of_getElem? (i := 11) rfl)) (tr_38 _ (List.mem_of_getElem? (i := 12) rfl)) (tr_38 _ (List.mem_of_getElem? (i := 13) rfl)) (tr_1 _ (List.mem_of_getElem? (i := 5) rfl)) (tr_38 _ (List.mem_of_getElem? (i := 14) rfl))) rfl rfl rfl (by decide +kernel) ⟨Nat.le_of_ble_eq_true rfl, Nat.le_of_ble_eq_true rfl⟩) ⟨fun a U f mk q => ⟨q.1, MI.blind f mk a q.2⟩, va_recv hKy hPy (ci := 7) (q0 := 0) rfl mw_0, fun U hU hW => ⟨rfl, hX.mi hPy hU hW⟩⟩ rfl rfl hlv.1 rfl (lv_room (Nat.le_of_ble_eq_true rfl)) dL_law_753 ⟨Nat.le_of_ble_eq_true rfl, Nat.le_of_ble_eq_true rfl⟩) hS (fun q _ h => hsy q h) hsy (fun r_753 u_753 t_753 H1 locs ht_753 _ hw_753 hB_753 _ hk_753 hS => ?_)
  obtain ⟨h1, hl1⟩ := u_753
  have hPx := hX.kx hPx hk_753
  have hPy : va_P (yD Y) vwCl (mw Y h1 hl1) H1 := ht_753 ▸ hB_753
  obtain ⟨hf2, hJ1, eg2, hp2⟩ := hw_753
  dsimp only at hf2 hJ1 eg2 hp2
  subst eg2
  generalize H1 = H at hPx hPy hS ⊢
  refine lv_pop2_2 hx hb dL_law_756 rfl ?_
  refine lv_goto (tgt := 760) hx hb dL_law_757 (by decide) ?_
  have res := case_digest hRp hRt hRs hRd hRx hJ h40 hp1 hp2
  exact kk g1 gl1 tf h hl1 _ _ hPx hPy hS (hRp.fr hf hf2 (by decide) (by decide)) (hRt.fr hf hf2 (by decide) (by decide) (fun _ _ => rfl)) (hRs.fr hf hf2 (by decide) (by decide)) ((hRd.fr hf hf2 (by decide) (by decide)).le (by omega)) (hRk.fr hf hf2 (by decide) (by decide) (fun _ _ => rfl)) (hRx.fr hX.1 ⟨hJ.j31.1, h40⟩ hRt.1 hf hf2 (by decide) (by decide) (fun _ _ => rfl)) (hRq.fr hf hf2 (by decide) (by decide)) hJ1 (by rw [congrFun (hf2 31 (by decide)) 0]; exact h40) hG
