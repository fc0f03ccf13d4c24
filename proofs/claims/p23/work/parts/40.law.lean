/-! the law: its context, what holds at its loop's head, its cases -/
def LX (s : State) (Z : ZT) (Y : YT) : Prop := XG Z ∧ MG Y ∧ (∀ q, zA Z q → ¬ yA Y q) ∧ (∀ q, zA Z q → s.heap.size ≤ q) ∧ (∀ q, yA Y q → s.heap.size ≤ q) ∧ va_K (zD Z) vwCl (zty Z) s ∧ va_K (yD Y) vwCl (yty Y) s ∧ va_Nw (.methodLinkNest RX5 81 yX6_isQuantity RX6) s ∧ vk_R RX1 31 "tfsbo" (zK Z) s ∧ vk_S 1 [5] [[116, 102, 115, 98, 111]] (fun _ => zK Z) (fun _ => zV Z) (fun q => s.heap.size ≤ q) s s.heap ∧ va_Z "java/lang/String" "COMPACT_STRINGS" "Z" (.int 1) (fun q => s.heap.size ≤ q) s s.heap
theorem LX.xi {s U : State} {Z : ZT} {Y : YT} (h : LX s Z Y) {g : Nat → Nat → Int32} {gl : Nat → Nat → Int64} {tf : Nat → Nat → Int32} {H : Heap} {locs : List Loc} (hS : va_S (fun q => s.heap.size ≤ q) s.heap H locs) (hP : va_P (zD Z) vwCl (xw Z g gl tf) H) (hU : U.heap = H) (hW : s.WarmedH U.vm) : XI Z g gl tf U := by
  obtain ⟨_, _, _, h3, _, h5, _, h7, h8, h9, h10⟩ := h
  refine ⟨by rw [hU]; exact hP, va_K.moved hW.alike h5, va_Nw.warmM hW h7, vk_R.warm hW h8, ?_, ?_⟩
  · rw [hU]
    exact vk_S.narrow (vk_S.moved hW.alike (vk_S.kept h9 (fun a ha hn => hS.2.1 a ha hn))) h3
  · rw [hU]
    exact va_Z.narrow (va_Z.moved hW.alike (va_Z.kept h10 (fun a ha hn => hS.2.1 a ha hn))) h3
theorem LX.mi {s U : State} {Z : ZT} {Y : YT} (h : LX s Z Y) {g : Nat → Nat → Int32} {gl : Nat → Nat → Int64} {H : Heap} (hP : va_P (yD Y) vwCl (mw Y g gl) H) (hU : U.heap = H) (hW : s.WarmedH U.vm) : MI Y g gl U := ⟨by rw [hU]; exact hP, va_K.moved hW.alike h.2.2.2.2.2.2.1⟩
theorem LX.ky {s : State} {Z : ZT} {Y : YT} (h : LX s Z Y) {g : Nat → Nat → Int32} {gl : Nat → Nat → Int64} {H H1 : Heap} (hP : va_P (yD Y) vwCl (mw Y g gl) H) (hk : ∀ q : Nat, q < H.size → ¬ zA Z q → H1[q]? = H[q]?) : va_P (yD Y) vwCl (mw Y g gl) H1 := hP.kept (fun k q hq => hk q.1 (hP k q hq).lt (fun z => h.2.2.1 q.1 z ((h.2.1.D (g := g) (gl := gl)).2 k q hq)))
theorem LX.kx {s : State} {Z : ZT} {Y : YT} (h : LX s Z Y) {g : Nat → Nat → Int32} {gl : Nat → Nat → Int64} {tf : Nat → Nat → Int32} {H H1 : Heap} (hP : va_P (zD Z) vwCl (xw Z g gl tf) H) (hk : ∀ q : Nat, q < H.size → ¬ yA Y q → H1[q]? = H[q]?) : va_P (zD Z) vwCl (xw Z g gl tf) H1 := hP.kept (fun k q hq => hk q.1 (hP k q hq).lt (fun z => h.2.2.1 q.1 ((h.1.D (g := g) (gl := gl) (tf := tf)).2 k q hq) z))
set_option maxHeartbeats 4000000 in
set_option maxRecDepth 100000 in
theorem law_0 {p : Program} {l : Launch} {e : Env} {s : State} {m : MethodId} {below : List Frame} {meth : Method} {c : Code} {b L : Nat} {xs : Nat → Int32} (hL : L ≤ 2560) (C0 : lw_At p s m meth c b L xs) (hTl : ∀ w ∈ wsL_law, w.before #[Value.ref b] s = true) {Z : ZT} {Y : YT} (hX : LX s Z Y) {Q : State → Prop} (i : Nat) (hi : i + 5 ≤ L) (g : Nat → Nat → Int32) (gl : Nat → Nat → Int64) (tf : Nat → Nat → Int32) (h : Nat → Nat → Int32) (hl : Nat → Nat → Int64) (H : Heap) (locs : List Loc) (hPx : va_P (zD Z) vwCl (xw Z g gl tf) H) (hPy : va_P (yD Y) vwCl (mw Y h hl) H) (hS : va_S (fun q => s.heap.size ≤ q) s.heap H locs) (hRp : Rpg g h) (hRt : Rtr Z g tf h) (hRs : Rsn g h) (hRd : Rdk g h i) (hRk : Rkp Z g tf h) (hRx : Rtx Z g tf h) (hRq : Rsq g h) (hJ : MJ h) (h40 : (h 31 0).toInt ≤ 40) (hG : Gd Z tf) (ls : Array Slot) (hlv : lv_has ls 4 [(3, .int (nI i)), (2, .ref (ya Y 0)), (1, .ref (za Z 0)), (0, .ref b)]) (kk : ∀ (g : Nat → Nat → Int32) (gl : Nat → Nat → Int64) (tf : Nat → Nat → Int32) (h : Nat → Nat → Int32) (hl : Nat → Nat → Int64) (H : Heap) (locs : List Loc), (va_P (zD Z) vwCl (xw Z g gl tf) H) → (va_P (yD Y) vwCl (mw Y h hl) H) → (va_S (fun q => s.heap.size ≤ q) s.heap H locs) → (Rpg g h) → (Rtr Z g tf h) → (Rsn g h) → (Rdk g h (i + 5)) → (Rkp Z g tf h) → (Rtx Z g tf h) → (Rsq g h) → (MJ h) → ((h 31 0).toInt ≤ 40) → (Gd Z tf) → W p l e room_1 s m #[Value.ref b] below meth c H locs 155 6181 Q (F0 m 759 ls [])) : W p l e room_1 s m #[Value.ref b] below meth c H locs 155 6181 Q (F0 m 140 ls []) := by
  obtain ⟨hx, hb, hr, hml, hown, hts, hXs, hbl, hlocks, hgv⟩ := C0
  have hT := hTl
  have hbA : ¬ (fun q : Nat => s.heap.size ≤ q) b := Nat.not_le.mpr hbl
  have hsx := hX.2.2.2.1
  have hsy := hX.2.2.2.2.1
  have hKx := hX.2.2.2.2.2.1
  have hKy := hX.2.2.2.2.2.2.1
  refine lv_aload_n hx hb dL_law_140 rfl (lv_at hlv 2 rfl) ?_
  refine lv_aload_n hx hb dL_law_141 rfl (lv_at hlv 3 rfl) ?_
  refine lv_iload_n hx hb dL_law_142 rfl (lv_at hlv 0 rfl) ?_
  refine lv_iconst (v := 1) hx hb dL_law_143 (by decide) ?_
  refine lv_iadd hx hb dL_law_144 ?_
  refine lv_topi (fun v_144 e_144 => ?_)
  have t_144 : v_144 = nI (i + 1) := by rw [e_144]; exact nI_add i 1
  have h_145 : vp_in v_144 L := by rw [t_144]; exact vp_in_nI (by omega) (by omega)
  refine va_sld hx hb hXs hbl hbA hS h_145 dL_law_145 ?_
  refine lv_topi (fun a_145 ea_145 => ?_)
  refine va_calli (va_runV (As := [.int a_145]) (rest := []) ⟨hx, hb, hml, hown, hT⟩ (c_X6_letter l Z hX.1 g gl tf a_145 (by rw [hRp.2]; exact hJ.j42) hG) (cwV 1 hT (tb_V (fun _ h => h) (tr_5 _ (List.mem_of_getElem? (i := 9) rfl)) (tr_5 _ (List.mem_of_getElem? (i := 10) rfl)) (tr_5 _ (List.mem_of_getElem? (i := 11) rfl)) (tr_1 _ (List.mem_of_getElem? (i := 2) rfl)) (tr_5 _ (List.mem_of_getElem? (i := 12) rfl))) rfl rfl rfl (by decide +kernel) ⟨Nat.le_of_ble_eq_true rfl, Nat.le_of_ble_eq_true rfl⟩) ⟨fun a U f mk q => ⟨q.1, XI.blind f mk a q.2⟩, va_recv hKx hPx (ci := 6) (q0 := 0) rfl xw_0, fun U hU hW => ⟨rfl, hX.xi hS hPx hU hW⟩⟩ rfl rfl hlv.1 rfl (lv_room (Nat.le_of_ble_eq_true rfl)) dL_law_146 ⟨Nat.le_of_ble_eq_true rfl, Nat.le_of_ble_eq_true rfl⟩) hS (fun q _ h => hsx q h) hsx (fun r_146 u_146 t_146 H1 locs ht_146 _ hw_146 hB_146 _ hk_146 hS => ?_)
  obtain ⟨g1, gl1, tf1⟩ := u_146
  have hPy := hX.ky hPy hk_146
  have hPx : va_P (zD Z) vwCl (xw Z g1 gl1 tf1) H1 := ht_146 ▸ hB_146
  obtain ⟨hf, hG, et, hp1⟩ := hw_146
  dsimp only at hf hG et hp1
  subst et
  generalize H1 = H at hPx hPy hS ⊢
  refine lv_pop hx hb dL_law_149 rfl ?_
  refine lv_aload_n hx hb dL_law_150 rfl (lv_at hlv 1 rfl) ?_
  refine lv_aload_n hx hb dL_law_151 rfl (lv_at hlv 3 rfl) ?_
  refine lv_iload_n hx hb dL_law_152 rfl (lv_at hlv 0 rfl) ?_
  refine lv_iconst (v := 1) hx hb dL_law_153 (by decide) ?_
  refine lv_iadd hx hb dL_law_154 ?_
  refine lv_topi (fun v_154 e_154 => ?_)
  have t_154 : v_154 = nI (i + 1) := by rw [e_154]; exact nI_add i 1
  have h_155 : vp_in v_154 L := by rw [t_154]; exact vp_in_nI (by omega) (by omega)
  refine va_sld hx hb hXs hbl hbA hS h_155 dL_law_155 ?_
  refine lv_topi (fun a_155 ea_155 => ?_)
  refine va_calli (va_runV (As := [.int a_155]) (rest := []) ⟨hx, hb, hml, hown, hT⟩ (c_X7_letter l Y hX.2.1 h hl a_155 hJ) (cwV 1 hT (tb_V (fun _ h => h) (tr_5 _ (List.mem_of_getElem? (i := 19) rfl)) (tr_5 _ (List.mem_of_getElem? (i := 20) rfl)) (tr_5 _ (List.mem_of_getElem? (i := 21) rfl)) (tr_1 _ (List.mem_of_getElem? (i := 5) rfl)) (tr_5 _ (List.mem_of_getElem? (i := 22) rfl))) rfl rfl rfl (by decide +kernel) ⟨Nat.le_of_ble_eq_true rfl, Nat.le_of_ble_eq_true rfl⟩) ⟨fun a U f mk q => ⟨q.1, MI.blind f mk a q.2⟩, va_recv hKy hPy (ci := 7) (q0 := 0) rfl mw_0, fun U hU hW => ⟨rfl, hX.mi hPy hU hW⟩⟩ rfl rfl hlv.1 rfl (lv_room (Nat.le_of_ble_eq_true rfl)) dL_law_156 ⟨Nat.le_of_ble_eq_true rfl, Nat.le_of_ble_eq_true rfl⟩) hS (fun q _ h => hsy q h) hsy (fun r_156 u_156 t_156 H1 locs ht_156 _ hw_156 hB_156 _ hk_156 hS => ?_)
  obtain ⟨h1, hl1⟩ := u_156
  have hPx := hX.kx hPx hk_156
  have hPy : va_P (yD Y) vwCl (mw Y h1 hl1) H1 := ht_156 ▸ hB_156
  obtain ⟨hf2, hJ1, el2, hp2⟩ := hw_156
  dsimp only at hf2 hJ1 el2 hp2
  subst el2
  generalize H1 = H at hPx hPy hS ⊢
  refine lv_pop hx hb dL_law_159 rfl ?_
  refine lv_goto (tgt := 759) hx hb dL_law_160 (by decide) ?_
  have exy0 : a_155 = a_145 := by rw [ea_155, ea_145, t_154, t_144]
  subst exy0
  obtain ⟨hRp, res⟩ := case_letter hRp hp1 hp2
  exact kk g1 gl1 tf h1 hl _ _ hPx hPy hS hRp (hRt.fr hf hf2 (by decide) (by decide) (fun _ _ => rfl)) (hRs.fr hf hf2 (by decide) (by decide)) ((hRd.fr hf hf2 (by decide) (by decide)).le (by omega)) (hRk.fr hf hf2 (by decide) (by decide) (fun _ _ => rfl)) (hRx.fr hX.1 ⟨hJ.j31.1, h40⟩ hRt.1 hf hf2 (by decide) (by decide) (fun _ _ => rfl)) (hRq.fr hf hf2 (by decide) (by decide)) hJ1 (by rw [congrFun (hf2 31 (by decide)) 0]; exact h40) hG
set_option maxHeartbeats 4000000 in
set_option maxRecDepth 100000 in
theorem law_1 {p : Program} {l : Launch} {e : Env} {s : State} {m : MethodId} {below : List Frame} {meth : Method} {c : Code} {b L : Nat} {xs : Nat → Int32} (hL : L ≤ 2560) (C0 : lw_At p s m meth c b L xs) (hTl : ∀ w ∈ wsL_law, w.before #[Value.ref b] s = true) {Z : ZT} {Y : YT} (hX : LX s Z Y) {Q : State → Prop} (i : Nat) (hi : i + 5 ≤ L) (g : Nat → Nat → Int32) (gl : Nat → Nat → Int64) (tf : Nat → Nat → Int32) (h : Nat → Nat → Int32) (hl : Nat → Nat → Int64) (H : Heap) (locs : List Loc) (hPx : va_P (zD Z) vwCl (xw Z g gl tf) H) (hPy : va_P (yD Y) vwCl (mw Y h hl) H) (hS : va_S (fun q => s.heap.size ≤ q) s.heap H locs) (hRp : Rpg g h) (hRt : Rtr Z g tf h) (hRs : Rsn g h) (hRd : Rdk g h i) (hRk : Rkp Z g tf h) (hRx : Rtx Z g tf h) (hRq : Rsq g h) (hJ : MJ h) (h40 : (h 31 0).toInt ≤ 40) (hG : Gd Z tf) (ls : Array Slot) (hlv : lv_has ls 4 [(3, .int (nI i)), (2, .ref (ya Y 0)), (1, .ref (za Z 0)), (0, .ref b)]) (kk : ∀ (g : Nat → Nat → Int32) (gl : Nat → Nat → Int64) (tf : Nat → Nat → Int32) (h : Nat → Nat → Int32) (hl : Nat → Nat → Int64) (H : Heap) (locs : List Loc), (va_P (zD Z) vwCl (xw Z g gl tf) H) → (va_P (yD Y) vwCl (mw Y h hl) H) → (va_S (fun q => s.heap.size ≤ q) s.heap H locs) → (Rpg g h) → (Rtr Z g tf h) → (Rsn g h) → (Rdk g h (i + 5)) → (Rkp Z g tf h) → (Rtx Z g tf h) → (Rsq g h) → (MJ h) → ((h 31 0).toInt ≤ 40) → (Gd Z tf) → W p l e room_1 s m #[Value.ref b] below meth c H locs 155 6181 Q (F0 m 759 ls [])) : W p l e room_1 s m #[Value.ref b] below meth c H locs 155 6181 Q (F0 m 163 ls []) := by
  obtain ⟨hx, hb, hr, hml, hown, hts, hXs, hbl, hlocks, hgv⟩ := C0
  have hT := hTl
  have hbA : ¬ (fun q : Nat => s.heap.size ≤ q) b := Nat.not_le.mpr hbl
  have hsx := hX.2.2.2.1
  have hsy := hX.2.2.2.2.1
  have hKx := hX.2.2.2.2.2.1
  have hKy := hX.2.2.2.2.2.2.1
  refine lv_aload_n hx hb dL_law_163 rfl (lv_at hlv 2 rfl) ?_
  refine va_calli (va_runV (As := []) (rest := []) ⟨hx, hb, hml, hown, hT⟩ (c_X6_blank l Z hX.1 g gl tf hG) (cwV 0 hT (tb_V (fun _ h => h) (tr_6 _ (List.mem_of_getElem? (i := 3) rfl)) (tr_6 _ (List.mem_of_getElem? (i := 4) rfl)) (tr_6 _ (List.mem_of_getElem? (i := 5) rfl)) (tr_1 _ (List.mem_of_getElem? (i := 2) rfl)) (tr_6 _ (List.mem_of_getElem? (i := 6) rfl))) rfl rfl rfl (by decide +kernel) ⟨Nat.le_of_ble_eq_true rfl, Nat.le_of_ble_eq_true rfl⟩) ⟨fun a U f mk q => ⟨q.1, XI.blind f mk a q.2⟩, va_recv hKx hPx (ci := 6) (q0 := 0) rfl xw_0, fun U hU hW => ⟨rfl, hX.xi hS hPx hU hW⟩⟩ rfl rfl hlv.1 rfl (lv_room (Nat.le_of_ble_eq_true rfl)) dL_law_164 ⟨Nat.le_of_ble_eq_true rfl, Nat.le_of_ble_eq_true rfl⟩) hS (fun q _ h => hsx q h) hsx (fun r_164 u_164 t_164 H1 locs ht_164 _ hw_164 hB_164 _ hk_164 hS => ?_)
  obtain ⟨g1, gl1, tf1⟩ := u_164
  have hPy := hX.ky hPy hk_164
  have hPx : va_P (zD Z) vwCl (xw Z g1 gl1 tf1) H1 := ht_164 ▸ hB_164
  obtain ⟨hf, hG, et, hp1⟩ := hw_164
  dsimp only at hf hG et hp1
  subst et
  generalize H1 = H at hPx hPy hS ⊢
  refine lv_pop hx hb dL_law_167 rfl ?_
  refine lv_aload_n hx hb dL_law_168 rfl (lv_at hlv 1 rfl) ?_
  refine va_calli (va_runV (As := []) (rest := []) ⟨hx, hb, hml, hown, hT⟩ (c_X7_blank l Y hX.2.1 h hl hJ) (cwV 0 hT (tb_V (fun _ h => h) (tr_6 _ (List.mem_of_getElem? (i := 7) rfl)) (tr_6 _ (List.mem_of_getElem? (i := 8) rfl)) (tr_6 _ (List.mem_of_getElem? (i := 9) rfl)) (tr_1 _ (List.mem_of_getElem? (i := 5) rfl)) (tr_6 _ (List.mem_of_getElem? (i := 10) rfl))) rfl rfl rfl (by decide +kernel) ⟨Nat.le_of_ble_eq_true rfl, Nat.le_of_ble_eq_true rfl⟩) ⟨fun a U f mk q => ⟨q.1, MI.blind f mk a q.2⟩, va_recv hKy hPy (ci := 7) (q0 := 0) rfl mw_0, fun U hU hW => ⟨rfl, hX.mi hPy hU hW⟩⟩ rfl rfl hlv.1 rfl (lv_room (Nat.le_of_ble_eq_true rfl)) dL_law_169 ⟨Nat.le_of_ble_eq_true rfl, Nat.le_of_ble_eq_true rfl⟩) hS (fun q _ h => hsy q h) hsy (fun r_169 u_169 t_169 H1 locs ht_169 _ hw_169 hB_169 _ hk_169 hS => ?_)
  obtain ⟨h1, hl1⟩ := u_169
  have hPx := hX.kx hPx hk_169
  have hPy : va_P (yD Y) vwCl (mw Y h1 hl1) H1 := ht_169 ▸ hB_169
  obtain ⟨hf2, hJ1, el2, hp2⟩ := hw_169
  dsimp only at hf2 hJ1 el2 hp2
  subst el2
  generalize H1 = H at hPx hPy hS ⊢
  refine lv_pop hx hb dL_law_172 rfl ?_
  refine lv_goto (tgt := 759) hx hb dL_law_173 (by decide) ?_
  exact kk g1 gl1 tf h1 hl _ _ hPx hPy hS ⟨(hf 2 (by decide)).trans (hRp.1.trans (hf2 10 (by decide)).symm), hp1.2.trans hp2.2.symm⟩ (hRt.fr hf hf2 (by decide) (by decide) (fun _ _ => rfl)) (hRs.fr hf hf2 (by decide) (by decide)) ((hRd.fr hf hf2 (by decide) (by decide)).le (by omega)) (hRk.fr hf hf2 (by decide) (by decide) (fun _ _ => rfl)) (hRx.fr hX.1 ⟨hJ.j31.1, h40⟩ hRt.1 hf hf2 (by decide) (by decide) (fun _ _ => rfl)) (hRq.fr hf hf2 (by decide) (by decide)) hJ1 (by rw [congrFun (hf2 31 (by decide)) 0]; exact h40) hG
set_option maxHeartbeats 4000000 in
set_option maxRecDepth 100000 in
theorem law_2 {p : Program} {l : Launch} {e : Env} {s : State} {m : MethodId} {below : List Frame} {meth : Method} {c : Code} {b L : Nat} {xs : Nat → Int32} (hL : L ≤ 2560) (C0 : lw_At p s m meth c b L xs) (hTl : ∀ w ∈ wsL_law, w.before #[Value.ref b] s = true) {Z : ZT} {Y : YT} (hX : LX s Z Y) {Q : State → Prop} (i : Nat) (hi : i + 5 ≤ L) (g : Nat → Nat → Int32) (gl : Nat → Nat → Int64) (tf : Nat → Nat → Int32) (h : Nat → Nat → Int32) (hl : Nat → Nat → Int64) (H : Heap) (locs : List Loc) (hPx : va_P (zD Z) vwCl (xw Z g gl tf) H) (hPy : va_P (yD Y) vwCl (mw Y h hl) H) (hS : va_S (fun q => s.heap.size ≤ q) s.heap H locs) (hRp : Rpg g h) (hRt : Rtr Z g tf h) (hRs : Rsn g h) (hRd : Rdk g h i) (hRk : Rkp Z g tf h) (hRx : Rtx Z g tf h) (hRq : Rsq g h) (hJ : MJ h) (h40 : (h 31 0).toInt ≤ 40) (hG : Gd Z tf) (ls : Array Slot) (hlv : lv_has ls 4 [(3, .int (nI i)), (2, .ref (ya Y 0)), (1, .ref (za Z 0)), (0, .ref b)]) (kk : ∀ (g : Nat → Nat → Int32) (gl : Nat → Nat → Int64) (tf : Nat → Nat → Int32) (h : Nat → Nat → Int32) (hl : Nat → Nat → Int64) (H : Heap) (locs : List Loc), (va_P (zD Z) vwCl (xw Z g gl tf) H) → (va_P (yD Y) vwCl (mw Y h hl) H) → (va_S (fun q => s.heap.size ≤ q) s.heap H locs) → (Rpg g h) → (Rtr Z g tf h) → (Rsn g h) → (Rdk g h (i + 5)) → (Rkp Z g tf h) → (Rtx Z g tf h) → (Rsq g h) → (MJ h) → ((h 31 0).toInt ≤ 40) → (Gd Z tf) → W p l e room_1 s m #[Value.ref b] below meth c H locs 155 6181 Q (F0 m 759 ls [])) : W p l e room_1 s m #[Value.ref b] below meth c H locs 155 6181 Q (F0 m 176 ls []) := by
  obtain ⟨hx, hb, hr, hml, hown, hts, hXs, hbl, hlocks, hgv⟩ := C0
  have hT := hTl
  have hbA : ¬ (fun q : Nat => s.heap.size ≤ q) b := Nat.not_le.mpr hbl
  have hsx := hX.2.2.2.1
  have hsy := hX.2.2.2.2.1
  have hKx := hX.2.2.2.2.2.1
  have hKy := hX.2.2.2.2.2.2.1
  refine lv_aload_n hx hb dL_law_176 rfl (lv_at hlv 2 rfl) ?_
  refine rd_ci (va_runV (As := []) (rest := []) ⟨hx, hb, hml, hown, hT⟩ (c_X6_fault l Z hX.1 g gl tf (by rw [hRp.1]; exact hJ.j10) (by rw [hRp.2]; exact hJ.j42) hG) (cwV 0 hT (tb_V (fun _ h => h) (tr_6 _ (List.mem_of_getElem? (i := 11) rfl)) (tr_6 _ (List.mem_of_getElem? (i := 12) rfl)) (tr_6 _ (List.mem_of_getElem? (i := 13) rfl)) (tr_1 _ (List.mem_of_getElem? (i := 2) rfl)) (tr_6 _ (List.mem_of_getElem? (i := 14) rfl))) rfl rfl rfl (by decide +kernel) ⟨Nat.le_of_ble_eq_true rfl, Nat.le_of_ble_eq_true rfl⟩) ⟨fun a U f mk q => ⟨q.1, XI.blind f mk a q.2⟩, va_recv hKx hPx (ci := 6) (q0 := 0) rfl xw_0, fun U hU hW => ⟨rfl, hX.xi hS hPx hU hW⟩⟩ rfl rfl hlv.1 rfl (lv_room (Nat.le_of_ble_eq_true rfl)) dL_law_177 ⟨Nat.le_of_ble_eq_true rfl, Nat.le_of_ble_eq_true rfl⟩) (fun r_177 hr_177 => ?_)
  refine lv_pop hx hb dL_law_180 rfl ?_
  refine lv_aload_n hx hb dL_law_181 rfl (lv_at hlv 1 rfl) ?_
  refine va_calli (va_runV (As := []) (rest := []) ⟨hx, hb, hml, hown, hT⟩ (c_X7_fault l Y hX.2.1 h hl hJ) (cwV 0 hT (tb_V (fun _ h => h) (tr_11 _ (List.mem_of_getElem? (i := 4) rfl)) (tr_11 _ (List.mem_of_getElem? (i := 5) rfl)) (tr_11 _ (List.mem_of_getElem? (i := 6) rfl)) (tr_1 _ (List.mem_of_getElem? (i := 5) rfl)) (tr_11 _ (List.mem_of_getElem? (i := 7) rfl))) rfl rfl rfl (by decide +kernel) ⟨Nat.le_of_ble_eq_true rfl, Nat.le_of_ble_eq_true rfl⟩) ⟨fun a U f mk q => ⟨q.1, MI.blind f mk a q.2⟩, va_recv hKy hPy (ci := 7) (q0 := 0) rfl mw_0, fun U hU hW => ⟨rfl, hX.mi hPy hU hW⟩⟩ rfl rfl hlv.1 rfl (lv_room (Nat.le_of_ble_eq_true rfl)) dL_law_182 ⟨Nat.le_of_ble_eq_true rfl, Nat.le_of_ble_eq_true rfl⟩) hS (fun q _ h => hsy q h) hsy (fun r_182 u_182 t_182 H1 locs ht_182 _ hw_182 hB_182 _ hk_182 hS => ?_)
  obtain ⟨h1, hl1⟩ := u_182
  have hPx := hX.kx hPx hk_182
  have hPy : va_P (yD Y) vwCl (mw Y h1 hl1) H1 := ht_182 ▸ hB_182
  obtain ⟨hf2, hJ1, el2, hp2⟩ := hw_182
  dsimp only at hf2 hJ1 el2 hp2
  subst el2
  generalize H1 = H at hPx hPy hS ⊢
  refine lv_pop hx hb dL_law_185 rfl ?_
  refine lv_goto (tgt := 759) hx hb dL_law_186 (by decide) ?_
  have hres : r_177 = r_182 := by
    obtain ⟨k1, q1, q2⟩ := hr_177
    obtain ⟨k2, q3, q4⟩ := hp2
    rw [← hRp.1, ← hRp.2] at q4
    have q := fwp_one q2 q4
    exact Int32.toInt_inj.mp (by omega)
  exact kk g gl tf h1 hl _ _ hPx hPy hS (hRp.fr (Fr.rf (S := [])) hf2 (by decide) (by decide)) (hRt.fr (Fr.rf (S := [])) hf2 (by decide) (by decide) (fun _ _ => rfl)) (hRs.fr (Fr.rf (S := [])) hf2 (by decide) (by decide)) ((hRd.fr (Fr.rf (S := [])) hf2 (by decide) (by decide)).le (by omega)) (hRk.fr (Fr.rf (S := [])) hf2 (by decide) (by decide) (fun _ _ => rfl)) (hRx.fr hX.1 ⟨hJ.j31.1, h40⟩ hRt.1 (Fr.rf (S := [])) hf2 (by decide) (by decide) (fun _ _ => rfl)) (hRq.fr (Fr.rf (S := [])) hf2 (by decide) (by decide)) hJ1 (by rw [congrFun (hf2 31 (by decide)) 0]; exact h40) hG
set_option maxHeartbeats 4000000 in
set_option maxRecDepth 100000 in
theorem law_3 {p : Program} {l : Launch} {e : Env} {s : State} {m : MethodId} {below : List Frame} {meth : Method} {c : Code} {b L : Nat} {xs : Nat → Int32} (hL : L ≤ 2560) (C0 : lw_At p s m meth c b L xs) (hTl : ∀ w ∈ wsL_law, w.before #[Value.ref b] s = true) {Z : ZT} {Y : YT} (hX : LX s Z Y) {Q : State → Prop} (i : Nat) (hi : i + 5 ≤ L) (g : Nat → Nat → Int32) (gl : Nat → Nat → Int64) (tf : Nat → Nat → Int32) (h : Nat → Nat → Int32) (hl : Nat → Nat → Int64) (H : Heap) (locs : List Loc) (hPx : va_P (zD Z) vwCl (xw Z g gl tf) H) (hPy : va_P (yD Y) vwCl (mw Y h hl) H) (hS : va_S (fun q => s.heap.size ≤ q) s.heap H locs) (hRp : Rpg g h) (hRt : Rtr Z g tf h) (hRs : Rsn g h) (hRd : Rdk g h i) (hRk : Rkp Z g tf h) (hRx : Rtx Z g tf h) (hRq : Rsq g h) (hJ : MJ h) (h40 : (h 31 0).toInt ≤ 40) (hG : Gd Z tf) (ls : Array Slot) (hlv : lv_has ls 4 [(3, .int (nI i)), (2, .ref (ya Y 0)), (1, .ref (za Z 0)), (0, .ref b)]) (kk : ∀ (g : Nat → Nat → Int32) (gl : Nat → Nat → Int64) (tf : Nat → Nat → Int32) (h : Nat → Nat → Int32) (hl : Nat → Nat → Int64) (H : Heap) (locs : List Loc), (va_P (zD Z) vwCl (xw Z g gl tf) H) → (va_P (yD Y) vwCl (mw Y h hl) H) → (va_S (fun q => s.heap.size ≤ q) s.heap H locs) → (Rpg g h) → (Rtr Z g tf h) → (Rsn g h) → (Rdk g h (i + 5)) → (Rkp Z g tf h) → (Rtx Z g tf h) → (Rsq g h) → (MJ h) → ((h 31 0).toInt ≤ 40) → (Gd Z tf) → W p l e room_1 s m #[Value.ref b] below meth c H locs 155 6181 Q (F0 m 759 ls [])) : W p l e room_1 s m #[Value.ref b] below meth c H locs 155 6181 Q (F0 m 189 ls []) := by
  obtain ⟨hx, hb, hr, hml, hown, hts, hXs, hbl, hlocks, hgv⟩ := C0
  have hT := hTl
  have hbA : ¬ (fun q : Nat => s.heap.size ≤ q) b := Nat.not_le.mpr hbl
  have hsx := hX.2.2.2.1
  have hsy := hX.2.2.2.2.1
  have hKx := hX.2.2.2.2.2.1
  have hKy := hX.2.2.2.2.2.2.1
  refine lv_aload_n hx hb dL_law_189 rfl (lv_at hlv 2 rfl) ?_
  refine va_calli (va_runV (As := []) (rest := []) ⟨hx, hb, hml, hown, hT⟩ (c_X6_desk l Z hX.1 g gl tf (by rw [hRp.1]; exact hJ.j10) (by rw [hRp.2]; exact hJ.j42) hG) (cwV 0 hT (tb_V (fun _ h => h) (tr_12 _ (List.mem_of_getElem? (i := 13) rfl)) (tr_12 _ (List.mem_of_getElem? (i := 14) rfl)) (tr_12 _ (List.mem_of_getElem? (i := 15) rfl)) (tr_1 _ (List.mem_of_getElem? (i := 2) rfl)) (tr_12 _ (List.mem_of_getElem? (i := 16) rfl))) rfl rfl rfl (by decide +kernel) ⟨Nat.le_of_ble_eq_true rfl, Nat.le_of_ble_eq_true rfl⟩) ⟨fun a U f mk q => ⟨q.1, XI.blind f mk a q.2⟩, va_recv hKx hPx (ci := 6) (q0 := 0) rfl xw_0, fun U hU hW => ⟨rfl, hX.xi hS hPx hU hW⟩⟩ rfl rfl hlv.1 rfl (lv_room (Nat.le_of_ble_eq_true rfl)) dL_law_190 ⟨Nat.le_of_ble_eq_true rfl, Nat.le_of_ble_eq_true rfl⟩) hS (fun q _ h => hsx q h) hsx (fun r_190 u_190 t_190 H1 locs ht_190 _ hw_190 hB_190 _ hk_190 hS => ?_)
  obtain ⟨g1, gl1, tf1⟩ := u_190
  have hPy := hX.ky hPy hk_190
  have hPx : va_P (zD Z) vwCl (xw Z g1 gl1 tf1) H1 := ht_190 ▸ hB_190
  obtain ⟨hf, hG, hp1⟩ := hw_190
  dsimp only at hf hG hp1
  generalize H1 = H at hPx hPy hS ⊢
  refine lv_pop hx hb dL_law_193 rfl ?_
  refine lv_aload_n hx hb dL_law_194 rfl (lv_at hlv 1 rfl) ?_
  refine va_calli (va_runV (As := []) (rest := []) ⟨hx, hb, hml, hown, hT⟩ (c_X7_desk l Y hX.2.1 h hl h40 hJ) (cwV 0 hT (tb_V (fun _ h => h) (tr_17 _ (List.mem_of_getElem? (i := 10) rfl)) (tr_17 _ (List.mem_of_getElem? (i := 11) rfl)) (tr_17 _ (List.mem_of_getElem? (i := 12) rfl)) (tr_1 _ (List.mem_of_getElem? (i := 5) rfl)) (tr_17 _ (List.mem_of_getElem? (i := 13) rfl))) rfl rfl rfl (by decide +kernel) ⟨Nat.le_of_ble_eq_true rfl, Nat.le_of_ble_eq_true rfl⟩) ⟨fun a U f mk q => ⟨q.1, MI.blind f mk a q.2⟩, va_recv hKy hPy (ci := 7) (q0 := 0) rfl mw_0, fun U hU hW => ⟨rfl, hX.mi hPy hU hW⟩⟩ rfl rfl hlv.1 rfl (lv_room (Nat.le_of_ble_eq_true rfl)) dL_law_195 ⟨Nat.le_of_ble_eq_true rfl, Nat.le_of_ble_eq_true rfl⟩) hS (fun q _ h => hsy q h) hsy (fun r_195 u_195 t_195 H1 locs ht_195 _ hw_195 hB_195 _ hk_195 hS => ?_)
  obtain ⟨h1, hl1⟩ := u_195
  have hPx := hX.kx hPx hk_195
  have hPy : va_P (yD Y) vwCl (mw Y h1 hl1) H1 := ht_195 ▸ hB_195
  obtain ⟨hf2, hJ1, el2, hp2⟩ := hw_195
  dsimp only at hf2 hJ1 el2 hp2
  subst el2
  generalize H1 = H at hPx hPy hS ⊢
  refine lv_pop hx hb dL_law_198 rfl ?_
  refine lv_goto (tgt := 759) hx hb dL_law_199 (by decide) ?_
  obtain ⟨hRp1, hRt1, hRs1, hRd1, hRk1, hRx1, hRq1, res⟩ := case_desk hX.1 (by omega) hRp hRt hRs hRd hRk ⟨hJ.j31.1, h40⟩ hRx hRq hf hf2 hp1 hp2.1
  exact kk g1 gl1 tf1 h1 hl _ _ hPx hPy hS hRp1 hRt1 hRs1 (hRd1.le (by omega)) hRk1 hRx1 hRq1 hJ1 hp2.2 hG
set_option maxHeartbeats 4000000 in
set_option maxRecDepth 100000 in
theorem law_4 {p : Program} {l : Launch} {e : Env} {s : State} {m : MethodId} {below : List Frame} {meth : Method} {c : Code} {b L : Nat} {xs : Nat → Int32} (hL : L ≤ 2560) (C0 : lw_At p s m meth c b L xs) (hTl : ∀ w ∈ wsL_law, w.before #[Value.ref b] s = true) {Z : ZT} {Y : YT} (hX : LX s Z Y) {Q : State → Prop} (i : Nat) (hi : i + 5 ≤ L) (g : Nat → Nat → Int32) (gl : Nat → Nat → Int64) (tf : Nat → Nat → Int32) (h : Nat → Nat → Int32) (hl : Nat → Nat → Int64) (H : Heap) (locs : List Loc) (hPx : va_P (zD Z) vwCl (xw Z g gl tf) H) (hPy : va_P (yD Y) vwCl (mw Y h hl) H) (hS : va_S (fun q => s.heap.size ≤ q) s.heap H locs) (hRp : Rpg g h) (hRt : Rtr Z g tf h) (hRs : Rsn g h) (hRd : Rdk g h i) (hRk : Rkp Z g tf h) (hRx : Rtx Z g tf h) (hRq : Rsq g h) (hJ : MJ h) (h40 : (h 31 0).toInt ≤ 40) (hG : Gd Z tf) (ls : Array Slot) (hlv : lv_has ls 4 [(3, .int (nI i)), (2, .ref (ya Y 0)), (1, .ref (za Z 0)), (0, .ref b)]) (kk : ∀ (g : Nat → Nat → Int32) (gl : Nat → Nat → Int64) (tf : Nat → Nat → Int32) (h : Nat → Nat → Int32) (hl : Nat → Nat → Int64) (H : Heap) (locs : List Loc), (va_P (zD Z) vwCl (xw Z g gl tf) H) → (va_P (yD Y) vwCl (mw Y h hl) H) → (va_S (fun q => s.heap.size ≤ q) s.heap H locs) → (Rpg g h) → (Rtr Z g tf h) → (Rsn g h) → (Rdk g h (i + 5)) → (Rkp Z g tf h) → (Rtx Z g tf h) → (Rsq g h) → (MJ h) → ((h 31 0).toInt ≤ 40) → (Gd Z tf) → W p l e room_1 s m #[Value.ref b] below meth c H locs 155 6181 Q (F0 m 759 ls [])) : W p l e room_1 s m #[Value.ref b] below meth c H locs 155 6181 Q (F0 m 202 ls []) := by
  obtain ⟨hx, hb, hr, hml, hown, hts, hXs, hbl, hlocks, hgv⟩ := C0
  have hT := hTl
  have hbA : ¬ (fun q : Nat => s.heap.size ≤ q) b := Nat.not_le.mpr hbl
  have hsx := hX.2.2.2.1
  have hsy := hX.2.2.2.2.1
  have hKx := hX.2.2.2.2.2.1
  have hKy := hX.2.2.2.2.2.2.1
  refine lv_aload_n hx hb dL_law_202 rfl (lv_at hlv 2 rfl) ?_
  refine lv_aload_n hx hb dL_law_203 rfl (lv_at hlv 3 rfl) ?_
  refine lv_iload_n hx hb dL_law_204 rfl (lv_at hlv 0 rfl) ?_
  refine lv_iconst (v := 1) hx hb dL_law_205 (by decide) ?_
  refine lv_iadd hx hb dL_law_206 ?_
  refine lv_topi (fun v_206 e_206 => ?_)
  have t_206 : v_206 = nI (i + 1) := by rw [e_206]; exact nI_add i 1
  have h_207 : vp_in v_206 L := by rw [t_206]; exact vp_in_nI (by omega) (by omega)
  refine va_sld hx hb hXs hbl hbA hS h_207 dL_law_207 ?_
  refine lv_topi (fun a_207 ea_207 => ?_)
  refine lv_aload_n hx hb dL_law_208 rfl (lv_at hlv 3 rfl) ?_
  refine lv_iload_n hx hb dL_law_209 rfl (lv_at hlv 0 rfl) ?_
  refine lv_iconst (v := 2) hx hb dL_law_210 (by decide) ?_
  refine lv_iadd hx hb dL_law_211 ?_
  refine lv_topi (fun v_211 e_211 => ?_)
  have t_211 : v_211 = nI (i + 2) := by rw [e_211]; exact nI_add i 2
  have h_212 : vp_in v_211 L := by rw [t_211]; exact vp_in_nI (by omega) (by omega)
  refine va_sld hx hb hXs hbl hbA hS h_212 dL_law_212 ?_
  refine lv_topi (fun a_212 ea_212 => ?_)
  refine va_calli (va_runV (As := [.int a_207, .int a_212]) (rest := []) ⟨hx, hb, hml, hown, hT⟩ (c_X6_tariff l Z hX.1 g gl tf a_207 a_212 (by rw [hRt.1]; have q := hJ.j31; omega) (by rw [hRs.1]; exact hJ.j38) (fun i hi => by rw [hRs.1] at hi; rw [(hRs.2 i hi).2.1]; exact hRq.1 i hi) hG) (cwV 2 hT (tb_V (fun _ h => h) (tr_19 _ (List.mem_of_getElem? (i := 19) rfl)) (tr_19 _ (List.mem_of_getElem? (i := 20) rfl)) (tr_19 _ (List.mem_of_getElem? (i := 21) rfl)) (tr_1 _ (List.mem_of_getElem? (i := 2) rfl)) (tr_19 _ (List.mem_of_getElem? (i := 22) rfl))) rfl rfl rfl (by decide +kernel) ⟨Nat.le_of_ble_eq_true rfl, Nat.le_of_ble_eq_true rfl⟩) ⟨fun a U f mk q => ⟨q.1, XI.blind f mk a q.2⟩, va_recv hKx hPx (ci := 6) (q0 := 0) rfl xw_0, fun U hU hW => ⟨rfl, hX.xi hS hPx hU hW⟩⟩ rfl rfl hlv.1 rfl (lv_room (Nat.le_of_ble_eq_true rfl)) dL_law_213 ⟨Nat.le_of_ble_eq_true rfl, Nat.le_of_ble_eq_true rfl⟩) hS (fun q _ h => hsx q h) hsx (fun r_213 u_213 t_213 H1 locs ht_213 _ hw_213 hB_213 _ hk_213 hS => ?_)
  obtain ⟨g1, gl1, tf1⟩ := u_213
  have hPy := hX.ky hPy hk_213
  have hPx : va_P (zD Z) vwCl (xw Z g1 gl1 tf1) H1 := ht_213 ▸ hB_213
  obtain ⟨hf, hG, et, hp1⟩ := hw_213
  dsimp only at hf hG et hp1
  subst et
  generalize H1 = H at hPx hPy hS ⊢
  refine lv_pop hx hb dL_law_216 rfl ?_
  refine lv_aload_n hx hb dL_law_217 rfl (lv_at hlv 1 rfl) ?_
  refine lv_aload_n hx hb dL_law_218 rfl (lv_at hlv 3 rfl) ?_
  refine lv_iload_n hx hb dL_law_219 rfl (lv_at hlv 0 rfl) ?_
  refine lv_iconst (v := 1) hx hb dL_law_220 (by decide) ?_
  refine lv_iadd hx hb dL_law_221 ?_
  refine lv_topi (fun v_221 e_221 => ?_)
  have t_221 : v_221 = nI (i + 1) := by rw [e_221]; exact nI_add i 1
  have h_222 : vp_in v_221 L := by rw [t_221]; exact vp_in_nI (by omega) (by omega)
  refine va_sld hx hb hXs hbl hbA hS h_222 dL_law_222 ?_
  refine lv_topi (fun a_222 ea_222 => ?_)
  refine lv_aload_n hx hb dL_law_223 rfl (lv_at hlv 3 rfl) ?_
  refine lv_iload_n hx hb dL_law_224 rfl (lv_at hlv 0 rfl) ?_
  refine lv_iconst (v := 2) hx hb dL_law_225 (by decide) ?_
  refine lv_iadd hx hb dL_law_226 ?_
  refine lv_topi (fun v_226 e_226 => ?_)
  have t_226 : v_226 = nI (i + 2) := by rw [e_226]; exact nI_add i 2
  have h_227 : vp_in v_226 L := by rw [t_226]; exact vp_in_nI (by omega) (by omega)
  refine va_sld hx hb hXs hbl hbA hS h_227 dL_law_227 ?_
  refine lv_topi (fun a_227 ea_227 => ?_)
  refine rd_ci (va_runV (As := [.int a_222, .int a_227]) (rest := []) ⟨hx, hb, hml, hown, hT⟩ (c_X7_tariff l Y hX.2.1 h hl a_222 a_227 hJ) (cwV 2 hT (tb_V (fun _ h => h) (tr_21 _ (List.mem_of_getElem? (i := 22) rfl)) (tr_21 _ (List.mem_of_getElem? (i := 23) rfl)) (tr_22 _ (List.mem_of_getElem? (i := 0) rfl)) (tr_1 _ (List.mem_of_getElem? (i := 5) rfl)) (tr_22 _ (List.mem_of_getElem? (i := 1) rfl))) rfl rfl rfl (by decide +kernel) ⟨Nat.le_of_ble_eq_true rfl, Nat.le_of_ble_eq_true rfl⟩) ⟨fun a U f mk q => ⟨q.1, MI.blind f mk a q.2⟩, va_recv hKy hPy (ci := 7) (q0 := 0) rfl mw_0, fun U hU hW => ⟨rfl, hX.mi hPy hU hW⟩⟩ rfl rfl hlv.1 rfl (lv_room (Nat.le_of_ble_eq_true rfl)) dL_law_228 ⟨Nat.le_of_ble_eq_true rfl, Nat.le_of_ble_eq_true rfl⟩) (fun r_228 hr_228 => ?_)
  refine lv_pop hx hb dL_law_231 rfl ?_
  refine lv_goto (tgt := 759) hx hb dL_law_232 (by decide) ?_
  have exy0 : a_222 = a_207 := by rw [ea_222, ea_207, t_221, t_206]
  subst exy0
  have exy1 : a_227 = a_212 := by rw [ea_227, ea_212, t_226, t_211]
  subst exy1
  have res := case_tariff hRt hRs hRx hJ h40 hp1 hr_228
  exact kk g1 gl1 tf h hl _ _ hPx hPy hS (hRp.fr hf (Fr.rf (S := [])) (by decide) (by decide)) (hRt.fr hf (Fr.rf (S := [])) (by decide) (by decide) (fun _ _ => rfl)) (hRs.fr hf (Fr.rf (S := [])) (by decide) (by decide)) ((hRd.fr hf (Fr.rf (S := [])) (by decide) (by decide)).le (by omega)) (hRk.fr hf (Fr.rf (S := [])) (by decide) (by decide) (fun _ _ => rfl)) (hRx.fr hX.1 ⟨hJ.j31.1, h40⟩ hRt.1 hf (Fr.rf (S := [])) (by decide) (by decide) (fun _ _ => rfl)) (hRq.fr hf (Fr.rf (S := [])) (by decide) (by decide)) hJ h40 hG
set_option maxHeartbeats 4000000 in
set_option maxRecDepth 100000 in
theorem law_5 {p : Program} {l : Launch} {e : Env} {s : State} {m : MethodId} {below : List Frame} {meth : Method} {c : Code} {b L : Nat} {xs : Nat → Int32} (hL : L ≤ 2560) (C0 : lw_At p s m meth c b L xs) (hTl : ∀ w ∈ wsL_law, w.before #[Value.ref b] s = true) {Z : ZT} {Y : YT} (hX : LX s Z Y) {Q : State → Prop} (i : Nat) (hi : i + 5 ≤ L) (g : Nat → Nat → Int32) (gl : Nat → Nat → Int64) (tf : Nat → Nat → Int32) (h : Nat → Nat → Int32) (hl : Nat → Nat → Int64) (H : Heap) (locs : List Loc) (hPx : va_P (zD Z) vwCl (xw Z g gl tf) H) (hPy : va_P (yD Y) vwCl (mw Y h hl) H) (hS : va_S (fun q => s.heap.size ≤ q) s.heap H locs) (hRp : Rpg g h) (hRt : Rtr Z g tf h) (hRs : Rsn g h) (hRd : Rdk g h i) (hRk : Rkp Z g tf h) (hRx : Rtx Z g tf h) (hRq : Rsq g h) (hJ : MJ h) (h40 : (h 31 0).toInt ≤ 40) (hG : Gd Z tf) (ls : Array Slot) (hlv : lv_has ls 4 [(3, .int (nI i)), (2, .ref (ya Y 0)), (1, .ref (za Z 0)), (0, .ref b)]) (kk : ∀ (g : Nat → Nat → Int32) (gl : Nat → Nat → Int64) (tf : Nat → Nat → Int32) (h : Nat → Nat → Int32) (hl : Nat → Nat → Int64) (H : Heap) (locs : List Loc), (va_P (zD Z) vwCl (xw Z g gl tf) H) → (va_P (yD Y) vwCl (mw Y h hl) H) → (va_S (fun q => s.heap.size ≤ q) s.heap H locs) → (Rpg g h) → (Rtr Z g tf h) → (Rsn g h) → (Rdk g h (i + 5)) → (Rkp Z g tf h) → (Rtx Z g tf h) → (Rsq g h) → (MJ h) → ((h 31 0).toInt ≤ 40) → (Gd Z tf) → W p l e room_1 s m #[Value.ref b] below meth c H locs 155 6181 Q (F0 m 759 ls [])) : W p l e room_1 s m #[Value.ref b] below meth c H locs 155 6181 Q (F0 m 235 ls []) := by
  obtain ⟨hx, hb, hr, hml, hown, hts, hXs, hbl, hlocks, hgv⟩ := C0
  have hT := hTl
  have hbA : ¬ (fun q : Nat => s.heap.size ≤ q) b := Nat.not_le.mpr hbl
  have hsx := hX.2.2.2.1
  have hsy := hX.2.2.2.2.1
  have hKx := hX.2.2.2.2.2.1
  have hKy := hX.2.2.2.2.2.2.1
  refine lv_aload_n hx hb dL_law_235 rfl (lv_at hlv 2 rfl) ?_
  refine lv_aload_n hx hb dL_law_236 rfl (lv_at hlv 3 rfl) ?_
  refine lv_iload_n hx hb dL_law_237 rfl (lv_at hlv 0 rfl) ?_
  refine lv_iconst (v := 1) hx hb dL_law_238 (by decide) ?_
  refine lv_iadd hx hb dL_law_239 ?_
  refine lv_topi (fun v_239 e_239 => ?_)
  have t_239 : v_239 = nI (i + 1) := by rw [e_239]; exact nI_add i 1
  have h_240 : vp_in v_239 L := by rw [t_239]; exact vp_in_nI (by omega) (by omega)
  refine va_sld hx hb hXs hbl hbA hS h_240 dL_law_240 ?_
  refine lv_topi (fun a_240 ea_240 => ?_)
  refine lv_aload_n hx hb dL_law_241 rfl (lv_at hlv 3 rfl) ?_
  refine lv_iload_n hx hb dL_law_242 rfl (lv_at hlv 0 rfl) ?_
  refine lv_iconst (v := 2) hx hb dL_law_243 (by decide) ?_
  refine lv_iadd hx hb dL_law_244 ?_
  refine lv_topi (fun v_244 e_244 => ?_)
  have t_244 : v_244 = nI (i + 2) := by rw [e_244]; exact nI_add i 2
  have h_245 : vp_in v_244 L := by rw [t_244]; exact vp_in_nI (by omega) (by omega)
  refine va_sld hx hb hXs hbl hbA hS h_245 dL_law_245 ?_
  refine lv_topi (fun a_245 ea_245 => ?_)
  refine rd_ci (va_runV (As := [.int a_240, .int a_245]) (rest := []) ⟨hx, hb, hml, hown, hT⟩ (c_X6_as l Z hX.1 g gl tf a_240 a_245 (by rw [hRt.1]; omega) hG) (cwV 2 hT (tb_V (fun _ h => h) (tr_23 _ (List.mem_of_getElem? (i := 18) rfl)) (tr_23 _ (List.mem_of_getElem? (i := 19) rfl)) (tr_23 _ (List.mem_of_getElem? (i := 20) rfl)) (tr_1 _ (List.mem_of_getElem? (i := 2) rfl)) (tr_23 _ (List.mem_of_getElem? (i := 21) rfl))) rfl rfl rfl (by decide +kernel) ⟨Nat.le_of_ble_eq_true rfl, Nat.le_of_ble_eq_true rfl⟩) ⟨fun a U f mk q => ⟨q.1, XI.blind f mk a q.2⟩, va_recv hKx hPx (ci := 6) (q0 := 0) rfl xw_0, fun U hU hW => ⟨rfl, hX.xi hS hPx hU hW⟩⟩ rfl rfl hlv.1 rfl (lv_room (Nat.le_of_ble_eq_true rfl)) dL_law_246 ⟨Nat.le_of_ble_eq_true rfl, Nat.le_of_ble_eq_true rfl⟩) (fun r_246 hr_246 => ?_)
  refine lv_pop hx hb dL_law_249 rfl ?_
  refine lv_aload_n hx hb dL_law_250 rfl (lv_at hlv 1 rfl) ?_
  refine lv_aload_n hx hb dL_law_251 rfl (lv_at hlv 3 rfl) ?_
  refine lv_iload_n hx hb dL_law_252 rfl (lv_at hlv 0 rfl) ?_
  refine lv_iconst (v := 1) hx hb dL_law_253 (by decide) ?_
  refine lv_iadd hx hb dL_law_254 ?_
  refine lv_topi (fun v_254 e_254 => ?_)
  have t_254 : v_254 = nI (i + 1) := by rw [e_254]; exact nI_add i 1
  have h_255 : vp_in v_254 L := by rw [t_254]; exact vp_in_nI (by omega) (by omega)
  refine va_sld hx hb hXs hbl hbA hS h_255 dL_law_255 ?_
  refine lv_topi (fun a_255 ea_255 => ?_)
  refine lv_aload_n hx hb dL_law_256 rfl (lv_at hlv 3 rfl) ?_
  refine lv_iload_n hx hb dL_law_257 rfl (lv_at hlv 0 rfl) ?_
  refine lv_iconst (v := 2) hx hb dL_law_258 (by decide) ?_
  refine lv_iadd hx hb dL_law_259 ?_
  refine lv_topi (fun v_259 e_259 => ?_)
  have t_259 : v_259 = nI (i + 2) := by rw [e_259]; exact nI_add i 2
  have h_260 : vp_in v_259 L := by rw [t_259]; exact vp_in_nI (by omega) (by omega)
  refine va_sld hx hb hXs hbl hbA hS h_260 dL_law_260 ?_
  refine lv_topi (fun a_260 ea_260 => ?_)
  refine rd_ci (va_runV (As := [.int a_255, .int a_260]) (rest := []) ⟨hx, hb, hml, hown, hT⟩ (c_X7_as l Y hX.2.1 h hl a_255 a_260 hJ) (cwV 2 hT (tb_V (fun _ h => h) (tr_24 _ (List.mem_of_getElem? (i := 5) rfl)) (tr_24 _ (List.mem_of_getElem? (i := 6) rfl)) (tr_24 _ (List.mem_of_getElem? (i := 7) rfl)) (tr_1 _ (List.mem_of_getElem? (i := 5) rfl)) (tr_24 _ (List.mem_of_getElem? (i := 8) rfl))) rfl rfl rfl (by decide +kernel) ⟨Nat.le_of_ble_eq_true rfl, Nat.le_of_ble_eq_true rfl⟩) ⟨fun a U f mk q => ⟨q.1, MI.blind f mk a q.2⟩, va_recv hKy hPy (ci := 7) (q0 := 0) rfl mw_0, fun U hU hW => ⟨rfl, hX.mi hPy hU hW⟩⟩ rfl rfl hlv.1 rfl (lv_room (Nat.le_of_ble_eq_true rfl)) dL_law_261 ⟨Nat.le_of_ble_eq_true rfl, Nat.le_of_ble_eq_true rfl⟩) (fun r_261 hr_261 => ?_)
  refine lv_pop hx hb dL_law_264 rfl ?_
  refine lv_goto (tgt := 759) hx hb dL_law_265 (by decide) ?_
  have exy0 : a_255 = a_240 := by rw [ea_255, ea_240, t_254, t_239]
  subst exy0
  have exy1 : a_260 = a_245 := by rw [ea_260, ea_245, t_259, t_244]
  subst exy1
  have res := case_as hRt hJ hr_246 hr_261
  exact kk g gl tf h hl _ _ hPx hPy hS (hRp.fr (Fr.rf (S := [])) (Fr.rf (S := [])) (by decide) (by decide)) (hRt.fr (Fr.rf (S := [])) (Fr.rf (S := [])) (by decide) (by decide) (fun _ _ => rfl)) (hRs.fr (Fr.rf (S := [])) (Fr.rf (S := [])) (by decide) (by decide)) ((hRd.fr (Fr.rf (S := [])) (Fr.rf (S := [])) (by decide) (by decide)).le (by omega)) (hRk.fr (Fr.rf (S := [])) (Fr.rf (S := [])) (by decide) (by decide) (fun _ _ => rfl)) (hRx.fr hX.1 ⟨hJ.j31.1, h40⟩ hRt.1 (Fr.rf (S := [])) (Fr.rf (S := [])) (by decide) (by decide) (fun _ _ => rfl)) (hRq.fr (Fr.rf (S := [])) (Fr.rf (S := [])) (by decide) (by decide)) hJ h40 hG
set_option maxHeartbeats 4000000 in
set_option maxRecDepth 100000 in
theorem law_6 {p : Program} {l : Launch} {e : Env} {s : State} {m : MethodId} {below : List Frame} {meth : Method} {c : Code} {b L : Nat} {xs : Nat → Int32} (hL : L ≤ 2560) (C0 : lw_At p s m meth c b L xs) (hTl : ∀ w ∈ wsL_law, w.before #[Value.ref b] s = true) {Z : ZT} {Y : YT} (hX : LX s Z Y) {Q : State → Prop} (i : Nat) (hi : i + 5 ≤ L) (g : Nat → Nat → Int32) (gl : Nat → Nat → Int64) (tf : Nat → Nat → Int32) (h : Nat → Nat → Int32) (hl : Nat → Nat → Int64) (H : Heap) (locs : List Loc) (hPx : va_P (zD Z) vwCl (xw Z g gl tf) H) (hPy : va_P (yD Y) vwCl (mw Y h hl) H) (hS : va_S (fun q => s.heap.size ≤ q) s.heap H locs) (hRp : Rpg g h) (hRt : Rtr Z g tf h) (hRs : Rsn g h) (hRd : Rdk g h i) (hRk : Rkp Z g tf h) (hRx : Rtx Z g tf h) (hRq : Rsq g h) (hJ : MJ h) (h40 : (h 31 0).toInt ≤ 40) (hG : Gd Z tf) (ls : Array Slot) (hlv : lv_has ls 4 [(3, .int (nI i)), (2, .ref (ya Y 0)), (1, .ref (za Z 0)), (0, .ref b)]) (kk : ∀ (g : Nat → Nat → Int32) (gl : Nat → Nat → Int64) (tf : Nat → Nat → Int32) (h : Nat → Nat → Int32) (hl : Nat → Nat → Int64) (H : Heap) (locs : List Loc), (va_P (zD Z) vwCl (xw Z g gl tf) H) → (va_P (yD Y) vwCl (mw Y h hl) H) → (va_S (fun q => s.heap.size ≤ q) s.heap H locs) → (Rpg g h) → (Rtr Z g tf h) → (Rsn g h) → (Rdk g h (i + 5)) → (Rkp Z g tf h) → (Rtx Z g tf h) → (Rsq g h) → (MJ h) → ((h 31 0).toInt ≤ 40) → (Gd Z tf) → W p l e room_1 s m #[Value.ref b] below meth c H locs 155 6181 Q (F0 m 759 ls [])) : W p l e room_1 s m #[Value.ref b] below meth c H locs 155 6181 Q (F0 m 268 ls []) := by
  obtain ⟨hx, hb, hr, hml, hown, hts, hXs, hbl, hlocks, hgv⟩ := C0
  have hT := hTl
  have hbA : ¬ (fun q : Nat => s.heap.size ≤ q) b := Nat.not_le.mpr hbl
  have hsx := hX.2.2.2.1
  have hsy := hX.2.2.2.2.1
  have hKx := hX.2.2.2.2.2.1
  have hKy := hX.2.2.2.2.2.2.1
  refine lv_aload_n hx hb dL_law_268 rfl (lv_at hlv 2 rfl) ?_
  refine lv_aload_n hx hb dL_law_269 rfl (lv_at hlv 3 rfl) ?_
  refine lv_iload_n hx hb dL_law_270 rfl (lv_at hlv 0 rfl) ?_
  refine lv_iconst (v := 1) hx hb dL_law_271 (by decide) ?_
  refine lv_iadd hx hb dL_law_272 ?_
  refine lv_topi (fun v_272 e_272 => ?_)
  have t_272 : v_272 = nI (i + 1) := by rw [e_272]; exact nI_add i 1
  have h_273 : vp_in v_272 L := by rw [t_272]; exact vp_in_nI (by omega) (by omega)
  refine va_sld hx hb hXs hbl hbA hS h_273 dL_law_273 ?_
  refine lv_topi (fun a_273 ea_273 => ?_)
  refine lv_aload_n hx hb dL_law_274 rfl (lv_at hlv 3 rfl) ?_
  refine lv_iload_n hx hb dL_law_275 rfl (lv_at hlv 0 rfl) ?_
  refine lv_iconst (v := 2) hx hb dL_law_276 (by decide) ?_
  refine lv_iadd hx hb dL_law_277 ?_
  refine lv_topi (fun v_277 e_277 => ?_)
  have t_277 : v_277 = nI (i + 2) := by rw [e_277]; exact nI_add i 2
  have h_278 : vp_in v_277 L := by rw [t_277]; exact vp_in_nI (by omega) (by omega)
  refine va_sld hx hb hXs hbl hbA hS h_278 dL_law_278 ?_
  refine lv_topi (fun a_278 ea_278 => ?_)
  refine rd_cl (va_runV (As := [.int a_273, .int a_278]) (rest := []) ⟨hx, hb, hml, hown, hT⟩ (c_X6_price l Z hX.1 g gl tf a_273 a_278 (by rw [hRt.1]; omega) hG) (cwV 2 hT (tb_V (fun _ h => h) (tr_24 _ (List.mem_of_getElem? (i := 9) rfl)) (tr_24 _ (List.mem_of_getElem? (i := 10) rfl)) (tr_24 _ (List.mem_of_getElem? (i := 11) rfl)) (tr_1 _ (List.mem_of_getElem? (i := 2) rfl)) (tr_24 _ (List.mem_of_getElem? (i := 12) rfl))) rfl rfl rfl (by decide +kernel) ⟨Nat.le_of_ble_eq_true rfl, Nat.le_of_ble_eq_true rfl⟩) ⟨fun a U f mk q => ⟨q.1, XI.blind f mk a q.2⟩, va_recv hKx hPx (ci := 6) (q0 := 0) rfl xw_0, fun U hU hW => ⟨rfl, hX.xi hS hPx hU hW⟩⟩ rfl rfl hlv.1 rfl (lv_room (Nat.le_of_ble_eq_true rfl)) dL_law_279 ⟨Nat.le_of_ble_eq_true rfl, Nat.le_of_ble_eq_true rfl⟩) (fun r_279 hr_279 => ?_)
  refine lv_pop2_2 hx hb dL_law_282 rfl ?_
  refine lv_aload_n hx hb dL_law_283 rfl (lv_at hlv 1 rfl) ?_
  refine lv_aload_n hx hb dL_law_284 rfl (lv_at hlv 3 rfl) ?_
  refine lv_iload_n hx hb dL_law_285 rfl (lv_at hlv 0 rfl) ?_
  refine lv_iconst (v := 1) hx hb dL_law_286 (by decide) ?_
  refine lv_iadd hx hb dL_law_287 ?_
  refine lv_topi (fun v_287 e_287 => ?_)
  have t_287 : v_287 = nI (i + 1) := by rw [e_287]; exact nI_add i 1
  have h_288 : vp_in v_287 L := by rw [t_287]; exact vp_in_nI (by omega) (by omega)
  refine va_sld hx hb hXs hbl hbA hS h_288 dL_law_288 ?_
  refine lv_topi (fun a_288 ea_288 => ?_)
  refine lv_aload_n hx hb dL_law_289 rfl (lv_at hlv 3 rfl) ?_
  refine lv_iload_n hx hb dL_law_290 rfl (lv_at hlv 0 rfl) ?_
  refine lv_iconst (v := 2) hx hb dL_law_291 (by decide) ?_
  refine lv_iadd hx hb dL_law_292 ?_
  refine lv_topi (fun v_292 e_292 => ?_)
  have t_292 : v_292 = nI (i + 2) := by rw [e_292]; exact nI_add i 2
  have h_293 : vp_in v_292 L := by rw [t_292]; exact vp_in_nI (by omega) (by omega)
  refine va_sld hx hb hXs hbl hbA hS h_293 dL_law_293 ?_
  refine lv_topi (fun a_293 ea_293 => ?_)
  refine rd_cl (va_runV (As := [.int a_288, .int a_293]) (rest := []) ⟨hx, hb, hml, hown, hT⟩ (c_X7_price l Y hX.2.1 h hl a_288 a_293 hJ) (cwV 2 hT (tb_V (fun _ h => h) (tr_24 _ (List.mem_of_getElem? (i := 19) rfl)) (tr_24 _ (List.mem_of_getElem? (i := 20) rfl)) (tr_24 _ (List.mem_of_getElem? (i := 21) rfl)) (tr_1 _ (List.mem_of_getElem? (i := 5) rfl)) (tr_24 _ (List.mem_of_getElem? (i := 22) rfl))) rfl rfl rfl (by decide +kernel) ⟨Nat.le_of_ble_eq_true rfl, Nat.le_of_ble_eq_true rfl⟩) ⟨fun a U f mk q => ⟨q.1, MI.blind f mk a q.2⟩, va_recv hKy hPy (ci := 7) (q0 := 0) rfl mw_0, fun U hU hW => ⟨rfl, hX.mi hPy hU hW⟩⟩ rfl rfl hlv.1 rfl (lv_room (Nat.le_of_ble_eq_true rfl)) dL_law_294 ⟨Nat.le_of_ble_eq_true rfl, Nat.le_of_ble_eq_true rfl⟩) (fun r_294 hr_294 => ?_)
  refine lv_pop2_2 hx hb dL_law_297 rfl ?_
  refine lv_goto (tgt := 759) hx hb dL_law_298 (by decide) ?_
  have exy0 : a_288 = a_273 := by rw [ea_288, ea_273, t_287, t_272]
  subst exy0
  have exy1 : a_293 = a_278 := by rw [ea_293, ea_278, t_292, t_277]
  subst exy1
  have res := case_price hRt hJ hr_279 hr_294
  exact kk g gl tf h hl _ _ hPx hPy hS (hRp.fr (Fr.rf (S := [])) (Fr.rf (S := [])) (by decide) (by decide)) (hRt.fr (Fr.rf (S := [])) (Fr.rf (S := [])) (by decide) (by decide) (fun _ _ => rfl)) (hRs.fr (Fr.rf (S := [])) (Fr.rf (S := [])) (by decide) (by decide)) ((hRd.fr (Fr.rf (S := [])) (Fr.rf (S := [])) (by decide) (by decide)).le (by omega)) (hRk.fr (Fr.rf (S := [])) (Fr.rf (S := [])) (by decide) (by decide) (fun _ _ => rfl)) (hRx.fr hX.1 ⟨hJ.j31.1, h40⟩ hRt.1 (Fr.rf (S := [])) (Fr.rf (S := [])) (by decide) (by decide) (fun _ _ => rfl)) (hRq.fr (Fr.rf (S := [])) (Fr.rf (S := [])) (by decide) (by decide)) hJ h40 hG
set_option maxHeartbeats 4000000 in
set_option maxRecDepth 100000 in
theorem law_7 {p : Program} {l : Launch} {e : Env} {s : State} {m : MethodId} {below : List Frame} {meth : Method} {c : Code} {b L : Nat} {xs : Nat → Int32} (hL : L ≤ 2560) (C0 : lw_At p s m meth c b L xs) (hTl : ∀ w ∈ wsL_law, w.before #[Value.ref b] s = true) {Z : ZT} {Y : YT} (hX : LX s Z Y) {Q : State → Prop} (i : Nat) (hi : i + 5 ≤ L) (g : Nat → Nat → Int32) (gl : Nat → Nat → Int64) (tf : Nat → Nat → Int32) (h : Nat → Nat → Int32) (hl : Nat → Nat → Int64) (H : Heap) (locs : List Loc) (hPx : va_P (zD Z) vwCl (xw Z g gl tf) H) (hPy : va_P (yD Y) vwCl (mw Y h hl) H) (hS : va_S (fun q => s.heap.size ≤ q) s.heap H locs) (hRp : Rpg g h) (hRt : Rtr Z g tf h) (hRs : Rsn g h) (hRd : Rdk g h i) (hRk : Rkp Z g tf h) (hRx : Rtx Z g tf h) (hRq : Rsq g h) (hJ : MJ h) (h40 : (h 31 0).toInt ≤ 40) (hG : Gd Z tf) (ls : Array Slot) (hlv : lv_has ls 4 [(3, .int (nI i)), (2, .ref (ya Y 0)), (1, .ref (za Z 0)), (0, .ref b)]) (kk : ∀ (g : Nat → Nat → Int32) (gl : Nat → Nat → Int64) (tf : Nat → Nat → Int32) (h : Nat → Nat → Int32) (hl : Nat → Nat → Int64) (H : Heap) (locs : List Loc), (va_P (zD Z) vwCl (xw Z g gl tf) H) → (va_P (yD Y) vwCl (mw Y h hl) H) → (va_S (fun q => s.heap.size ≤ q) s.heap H locs) → (Rpg g h) → (Rtr Z g tf h) → (Rsn g h) → (Rdk g h (i + 5)) → (Rkp Z g tf h) → (Rtx Z g tf h) → (Rsq g h) → (MJ h) → ((h 31 0).toInt ≤ 40) → (Gd Z tf) → W p l e room_1 s m #[Value.ref b] below meth c H locs 155 6181 Q (F0 m 759 ls [])) : W p l e room_1 s m #[Value.ref b] below meth c H locs 155 6181 Q (F0 m 301 ls []) := by
  obtain ⟨hx, hb, hr, hml, hown, hts, hXs, hbl, hlocks, hgv⟩ := C0
  have hT := hTl
  have hbA : ¬ (fun q : Nat => s.heap.size ≤ q) b := Nat.not_le.mpr hbl
  have hsx := hX.2.2.2.1
  have hsy := hX.2.2.2.2.1
  have hKx := hX.2.2.2.2.2.1
  have hKy := hX.2.2.2.2.2.2.1
  refine lv_aload_n hx hb dL_law_301 rfl (lv_at hlv 2 rfl) ?_
  refine lv_aload_n hx hb dL_law_302 rfl (lv_at hlv 3 rfl) ?_
  refine lv_iload_n hx hb dL_law_303 rfl (lv_at hlv 0 rfl) ?_
  refine lv_iconst (v := 1) hx hb dL_law_304 (by decide) ?_
  refine lv_iadd hx hb dL_law_305 ?_
  refine lv_topi (fun v_305 e_305 => ?_)
  have t_305 : v_305 = nI (i + 1) := by rw [e_305]; exact nI_add i 1
  have h_306 : vp_in v_305 L := by rw [t_305]; exact vp_in_nI (by omega) (by omega)
  refine va_sld hx hb hXs hbl hbA hS h_306 dL_law_306 ?_
  refine lv_topi (fun a_306 ea_306 => ?_)
  refine lv_aload_n hx hb dL_law_307 rfl (lv_at hlv 3 rfl) ?_
  refine lv_iload_n hx hb dL_law_308 rfl (lv_at hlv 0 rfl) ?_
  refine lv_iconst (v := 2) hx hb dL_law_309 (by decide) ?_
  refine lv_iadd hx hb dL_law_310 ?_
  refine lv_topi (fun v_310 e_310 => ?_)
  have t_310 : v_310 = nI (i + 2) := by rw [e_310]; exact nI_add i 2
  have h_311 : vp_in v_310 L := by rw [t_310]; exact vp_in_nI (by omega) (by omega)
  refine va_sld hx hb hXs hbl hbA hS h_311 dL_law_311 ?_
  refine lv_topi (fun a_311 ea_311 => ?_)
  refine rd_ci (va_runV (As := [.int a_306, .int a_311]) (rest := []) ⟨hx, hb, hml, hown, hT⟩ (c_X6_node l Z hX.1 g gl tf a_306 a_311 hG) (cwV 2 hT (tb_V (fun _ h => h) (tr_25 _ (List.mem_of_getElem? (i := 9) rfl)) (tr_25 _ (List.mem_of_getElem? (i := 10) rfl)) (tr_25 _ (List.mem_of_getElem? (i := 11) rfl)) (tr_1 _ (List.mem_of_getElem? (i := 2) rfl)) (tr_25 _ (List.mem_of_getElem? (i := 12) rfl))) rfl rfl rfl (by decide +kernel) ⟨Nat.le_of_ble_eq_true rfl, Nat.le_of_ble_eq_true rfl⟩) ⟨fun a U f mk q => ⟨q.1, XI.blind f mk a q.2⟩, va_recv hKx hPx (ci := 6) (q0 := 0) rfl xw_0, fun U hU hW => ⟨rfl, hX.xi hS hPx hU hW⟩⟩ rfl rfl hlv.1 rfl (lv_room (Nat.le_of_ble_eq_true rfl)) dL_law_312 ⟨Nat.le_of_ble_eq_true rfl, Nat.le_of_ble_eq_true rfl⟩) (fun r_312 hr_312 => ?_)
  refine lv_pop hx hb dL_law_315 rfl ?_
  refine lv_aload_n hx hb dL_law_316 rfl (lv_at hlv 1 rfl) ?_
  refine lv_aload_n hx hb dL_law_317 rfl (lv_at hlv 3 rfl) ?_
  refine lv_iload_n hx hb dL_law_318 rfl (lv_at hlv 0 rfl) ?_
  refine lv_iconst (v := 1) hx hb dL_law_319 (by decide) ?_
  refine lv_iadd hx hb dL_law_320 ?_
  refine lv_topi (fun v_320 e_320 => ?_)
  have t_320 : v_320 = nI (i + 1) := by rw [e_320]; exact nI_add i 1
  have h_321 : vp_in v_320 L := by rw [t_320]; exact vp_in_nI (by omega) (by omega)
  refine va_sld hx hb hXs hbl hbA hS h_321 dL_law_321 ?_
  refine lv_topi (fun a_321 ea_321 => ?_)
  refine lv_aload_n hx hb dL_law_322 rfl (lv_at hlv 3 rfl) ?_
  refine lv_iload_n hx hb dL_law_323 rfl (lv_at hlv 0 rfl) ?_
  refine lv_iconst (v := 2) hx hb dL_law_324 (by decide) ?_
  refine lv_iadd hx hb dL_law_325 ?_
  refine lv_topi (fun v_325 e_325 => ?_)
  have t_325 : v_325 = nI (i + 2) := by rw [e_325]; exact nI_add i 2
  have h_326 : vp_in v_325 L := by rw [t_325]; exact vp_in_nI (by omega) (by omega)
  refine va_sld hx hb hXs hbl hbA hS h_326 dL_law_326 ?_
  refine lv_topi (fun a_326 ea_326 => ?_)
  refine rd_ci (va_runV (As := [.int a_321, .int a_326]) (rest := []) ⟨hx, hb, hml, hown, hT⟩ (c_X7_node l Y hX.2.1 h hl a_321 a_326 hJ) (cwV 2 hT (tb_V (fun _ h => h) (tr_25 _ (List.mem_of_getElem? (i := 20) rfl)) (tr_25 _ (List.mem_of_getElem? (i := 21) rfl)) (tr_25 _ (List.mem_of_getElem? (i := 22) rfl)) (tr_1 _ (List.mem_of_getElem? (i := 5) rfl)) (tr_25 _ (List.mem_of_getElem? (i := 23) rfl))) rfl rfl rfl (by decide +kernel) ⟨Nat.le_of_ble_eq_true rfl, Nat.le_of_ble_eq_true rfl⟩) ⟨fun a U f mk q => ⟨q.1, MI.blind f mk a q.2⟩, va_recv hKy hPy (ci := 7) (q0 := 0) rfl mw_0, fun U hU hW => ⟨rfl, hX.mi hPy hU hW⟩⟩ rfl rfl hlv.1 rfl (lv_room (Nat.le_of_ble_eq_true rfl)) dL_law_327 ⟨Nat.le_of_ble_eq_true rfl, Nat.le_of_ble_eq_true rfl⟩) (fun r_327 hr_327 => ?_)
  refine lv_pop hx hb dL_law_330 rfl ?_
  refine lv_goto (tgt := 759) hx hb dL_law_331 (by decide) ?_
  have exy0 : a_321 = a_306 := by rw [ea_321, ea_306, t_320, t_305]
  subst exy0
  have exy1 : a_326 = a_311 := by rw [ea_326, ea_311, t_325, t_310]
  subst exy1
  exact kk g gl tf h hl _ _ hPx hPy hS (hRp.fr (Fr.rf (S := [])) (Fr.rf (S := [])) (by decide) (by decide)) (hRt.fr (Fr.rf (S := [])) (Fr.rf (S := [])) (by decide) (by decide) (fun _ _ => rfl)) (hRs.fr (Fr.rf (S := [])) (Fr.rf (S := [])) (by decide) (by decide)) ((hRd.fr (Fr.rf (S := [])) (Fr.rf (S := [])) (by decide) (by decide)).le (by omega)) (hRk.fr (Fr.rf (S := [])) (Fr.rf (S := [])) (by decide) (by decide) (fun _ _ => rfl)) (hRx.fr hX.1 ⟨hJ.j31.1, h40⟩ hRt.1 (Fr.rf (S := [])) (Fr.rf (S := [])) (by decide) (by decide) (fun _ _ => rfl)) (hRq.fr (Fr.rf (S := [])) (Fr.rf (S := [])) (by decide) (by decide)) hJ h40 hG
set_option maxHeartbeats 4000000 in
set_option maxRecDepth 100000 in
theorem law_8 {p : Program} {l : Launch} {e : Env} {s : State} {m : MethodId} {below : List Frame} {meth : Method} {c : Code} {b L : Nat} {xs : Nat → Int32} (hL : L ≤ 2560) (C0 : lw_At p s m meth c b L xs) (hTl : ∀ w ∈ wsL_law, w.before #[Value.ref b] s = true) {Z : ZT} {Y : YT} (hX : LX s Z Y) {Q : State → Prop} (i : Nat) (hi : i + 5 ≤ L) (g : Nat → Nat → Int32) (gl : Nat → Nat → Int64) (tf : Nat → Nat → Int32) (h : Nat → Nat → Int32) (hl : Nat → Nat → Int64) (H : Heap) (locs : List Loc) (hPx : va_P (zD Z) vwCl (xw Z g gl tf) H) (hPy : va_P (yD Y) vwCl (mw Y h hl) H) (hS : va_S (fun q => s.heap.size ≤ q) s.heap H locs) (hRp : Rpg g h) (hRt : Rtr Z g tf h) (hRs : Rsn g h) (hRd : Rdk g h i) (hRk : Rkp Z g tf h) (hRx : Rtx Z g tf h) (hRq : Rsq g h) (hJ : MJ h) (h40 : (h 31 0).toInt ≤ 40) (hG : Gd Z tf) (ls : Array Slot) (hlv : lv_has ls 4 [(3, .int (nI i)), (2, .ref (ya Y 0)), (1, .ref (za Z 0)), (0, .ref b)]) (kk : ∀ (g : Nat → Nat → Int32) (gl : Nat → Nat → Int64) (tf : Nat → Nat → Int32) (h : Nat → Nat → Int32) (hl : Nat → Nat → Int64) (H : Heap) (locs : List Loc), (va_P (zD Z) vwCl (xw Z g gl tf) H) → (va_P (yD Y) vwCl (mw Y h hl) H) → (va_S (fun q => s.heap.size ≤ q) s.heap H locs) → (Rpg g h) → (Rtr Z g tf h) → (Rsn g h) → (Rdk g h (i + 5)) → (Rkp Z g tf h) → (Rtx Z g tf h) → (Rsq g h) → (MJ h) → ((h 31 0).toInt ≤ 40) → (Gd Z tf) → W p l e room_1 s m #[Value.ref b] below meth c H locs 155 6181 Q (F0 m 759 ls [])) : W p l e room_1 s m #[Value.ref b] below meth c H locs 155 6181 Q (F0 m 334 ls []) := by
  obtain ⟨hx, hb, hr, hml, hown, hts, hXs, hbl, hlocks, hgv⟩ := C0
  have hT := hTl
  have hbA : ¬ (fun q : Nat => s.heap.size ≤ q) b := Nat.not_le.mpr hbl
  have hsx := hX.2.2.2.1
  have hsy := hX.2.2.2.2.1
  have hKx := hX.2.2.2.2.2.1
  have hKy := hX.2.2.2.2.2.2.1
  refine lv_aload_n hx hb dL_law_334 rfl (lv_at hlv 2 rfl) ?_
  refine lv_aload_n hx hb dL_law_335 rfl (lv_at hlv 3 rfl) ?_
  refine lv_iload_n hx hb dL_law_336 rfl (lv_at hlv 0 rfl) ?_
  refine lv_iconst (v := 1) hx hb dL_law_337 (by decide) ?_
  refine lv_iadd hx hb dL_law_338 ?_
  refine lv_topi (fun v_338 e_338 => ?_)
  have t_338 : v_338 = nI (i + 1) := by rw [e_338]; exact nI_add i 1
  have h_339 : vp_in v_338 L := by rw [t_338]; exact vp_in_nI (by omega) (by omega)
  refine va_sld hx hb hXs hbl hbA hS h_339 dL_law_339 ?_
  refine lv_topi (fun a_339 ea_339 => ?_)
  refine lv_aload_n hx hb dL_law_340 rfl (lv_at hlv 3 rfl) ?_
  refine lv_iload_n hx hb dL_law_341 rfl (lv_at hlv 0 rfl) ?_
  refine lv_iconst (v := 2) hx hb dL_law_342 (by decide) ?_
  refine lv_iadd hx hb dL_law_343 ?_
  refine lv_topi (fun v_343 e_343 => ?_)
  have t_343 : v_343 = nI (i + 2) := by rw [e_343]; exact nI_add i 2
  have h_344 : vp_in v_343 L := by rw [t_343]; exact vp_in_nI (by omega) (by omega)
  refine va_sld hx hb hXs hbl hbA hS h_344 dL_law_344 ?_
  refine lv_topi (fun a_344 ea_344 => ?_)
  refine lv_aload_n hx hb dL_law_345 rfl (lv_at hlv 3 rfl) ?_
  refine lv_iload_n hx hb dL_law_346 rfl (lv_at hlv 0 rfl) ?_
  refine lv_iconst (v := 3) hx hb dL_law_347 (by decide) ?_
  refine lv_iadd hx hb dL_law_348 ?_
  refine lv_topi (fun v_348 e_348 => ?_)
  have t_348 : v_348 = nI (i + 3) := by rw [e_348]; exact nI_add i 3
  have h_349 : vp_in v_348 L := by rw [t_348]; exact vp_in_nI (by omega) (by omega)
  refine va_sld hx hb hXs hbl hbA hS h_349 dL_law_349 ?_
  refine lv_topi (fun a_349 ea_349 => ?_)
  refine lv_aload_n hx hb dL_law_350 rfl (lv_at hlv 3 rfl) ?_
  refine lv_iload_n hx hb dL_law_351 rfl (lv_at hlv 0 rfl) ?_
  refine lv_iconst (v := 4) hx hb dL_law_352 (by decide) ?_
  refine lv_iadd hx hb dL_law_353 ?_
  refine lv_topi (fun v_353 e_353 => ?_)
  have t_353 : v_353 = nI (i + 4) := by rw [e_353]; exact nI_add i 4
  have h_354 : vp_in v_353 L := by rw [t_353]; exact vp_in_nI (by omega) (by omega)
  refine va_sld hx hb hXs hbl hbA hS h_354 dL_law_354 ?_
  refine lv_topi (fun a_354 ea_354 => ?_)
  refine va_calli (va_runV (As := [.int a_339, .int a_344, .int a_349, .int a_354]) (rest := []) ⟨hx, hb, hml, hown, hT⟩ (c_X6_offer l Z hX.1 g gl tf a_339 a_344 a_349 a_354 (by rw [hRt.1]; exact ⟨hJ.j31.1, h40⟩) hRx.1 hG) (cwV 4 hT (tb_V (fun _ h => h) (tr_26 _ (List.mem_of_getElem? (i := 4) rfl)) (tr_26 _ (List.mem_of_getElem? (i := 5) rfl)) (tr_26 _ (List.mem_of_getElem? (i := 6) rfl)) (tr_1 _ (List.mem_of_getElem? (i := 2) rfl)) (tr_26 _ (List.mem_of_getElem? (i := 7) rfl))) rfl rfl rfl (by decide +kernel) ⟨Nat.le_of_ble_eq_true rfl, Nat.le_of_ble_eq_true rfl⟩) ⟨fun a U f mk q => ⟨q.1, XI.blind f mk a q.2⟩, va_recv hKx hPx (ci := 6) (q0 := 0) rfl xw_0, fun U hU hW => ⟨rfl, hX.xi hS hPx hU hW⟩⟩ rfl rfl hlv.1 rfl (lv_room (Nat.le_of_ble_eq_true rfl)) dL_law_355 ⟨Nat.le_of_ble_eq_true rfl, Nat.le_of_ble_eq_true rfl⟩) hS (fun q _ h => hsx q h) hsx (fun r_355 u_355 t_355 H1 locs ht_355 _ hw_355 hB_355 _ hk_355 hS => ?_)
  obtain ⟨g1, gl1, tf1⟩ := u_355
  have hPy := hX.ky hPy hk_355
  have hPx : va_P (zD Z) vwCl (xw Z g1 gl1 tf1) H1 := ht_355 ▸ hB_355
  obtain ⟨hf, hG, hp1⟩ := hw_355
  dsimp only at hf hG hp1
  generalize H1 = H at hPx hPy hS ⊢
  refine lv_pop hx hb dL_law_358 rfl ?_
  refine lv_aload_n hx hb dL_law_359 rfl (lv_at hlv 1 rfl) ?_
  refine lv_aload_n hx hb dL_law_360 rfl (lv_at hlv 3 rfl) ?_
  refine lv_iload_n hx hb dL_law_361 rfl (lv_at hlv 0 rfl) ?_
  refine lv_iconst (v := 1) hx hb dL_law_362 (by decide) ?_
  refine lv_iadd hx hb dL_law_363 ?_
  refine lv_topi (fun v_363 e_363 => ?_)
  have t_363 : v_363 = nI (i + 1) := by rw [e_363]; exact nI_add i 1
  have h_364 : vp_in v_363 L := by rw [t_363]; exact vp_in_nI (by omega) (by omega)
  refine va_sld hx hb hXs hbl hbA hS h_364 dL_law_364 ?_
  refine lv_topi (fun a_364 ea_364 => ?_)
  refine lv_aload_n hx hb dL_law_365 rfl (lv_at hlv 3 rfl) ?_
  refine lv_iload_n hx hb dL_law_366 rfl (lv_at hlv 0 rfl) ?_
  refine lv_iconst (v := 2) hx hb dL_law_367 (by decide) ?_
  refine lv_iadd hx hb dL_law_368 ?_
  refine lv_topi (fun v_368 e_368 => ?_)
  have t_368 : v_368 = nI (i + 2) := by rw [e_368]; exact nI_add i 2
  have h_369 : vp_in v_368 L := by rw [t_368]; exact vp_in_nI (by omega) (by omega)
  refine va_sld hx hb hXs hbl hbA hS h_369 dL_law_369 ?_
  refine lv_topi (fun a_369 ea_369 => ?_)
  refine lv_aload_n hx hb dL_law_370 rfl (lv_at hlv 3 rfl) ?_
  refine lv_iload_n hx hb dL_law_371 rfl (lv_at hlv 0 rfl) ?_
  refine lv_iconst (v := 3) hx hb dL_law_372 (by decide) ?_
  refine lv_iadd hx hb dL_law_373 ?_
  refine lv_topi (fun v_373 e_373 => ?_)
  have t_373 : v_373 = nI (i + 3) := by rw [e_373]; exact nI_add i 3
  have h_374 : vp_in v_373 L := by rw [t_373]; exact vp_in_nI (by omega) (by omega)
  refine va_sld hx hb hXs hbl hbA hS h_374 dL_law_374 ?_
  refine lv_topi (fun a_374 ea_374 => ?_)
  refine lv_aload_n hx hb dL_law_375 rfl (lv_at hlv 3 rfl) ?_
  refine lv_iload_n hx hb dL_law_376 rfl (lv_at hlv 0 rfl) ?_
  refine lv_iconst (v := 4) hx hb dL_law_377 (by decide) ?_
  refine lv_iadd hx hb dL_law_378 ?_
  refine lv_topi (fun v_378 e_378 => ?_)
  have t_378 : v_378 = nI (i + 4) := by rw [e_378]; exact nI_add i 4
  have h_379 : vp_in v_378 L := by rw [t_378]; exact vp_in_nI (by omega) (by omega)
  refine va_sld hx hb hXs hbl hbA hS h_379 dL_law_379 ?_
  refine lv_topi (fun a_379 ea_379 => ?_)
  refine va_calli (va_runV (As := [.int a_364, .int a_369, .int a_374, .int a_379]) (rest := []) ⟨hx, hb, hml, hown, hT⟩ (c_X7_offer l Y hX.2.1 h hl a_364 a_369 a_374 a_379 h40 hJ) (cwV 4 hT (tb_V (fun _ h => h) (tr_27 _ (List.mem_of_getElem? (i := 3) rfl)) (tr_27 _ (List.mem_of_getElem? (i := 4) rfl)) (tr_27 _ (List.mem_of_getElem? (i := 5) rfl)) (tr_1 _ (List.mem_of_getElem? (i := 5) rfl)) (tr_27 _ (List.mem_of_getElem? (i := 6) rfl))) rfl rfl rfl (by decide +kernel) ⟨Nat.le_of_ble_eq_true rfl, Nat.le_of_ble_eq_true rfl⟩) ⟨fun a U f mk q => ⟨q.1, MI.blind f mk a q.2⟩, va_recv hKy hPy (ci := 7) (q0 := 0) rfl mw_0, fun U hU hW => ⟨rfl, hX.mi hPy hU hW⟩⟩ rfl rfl hlv.1 rfl (lv_room (Nat.le_of_ble_eq_true rfl)) dL_law_380 ⟨Nat.le_of_ble_eq_true rfl, Nat.le_of_ble_eq_true rfl⟩) hS (fun q _ h => hsy q h) hsy (fun r_380 u_380 t_380 H1 locs ht_380 _ hw_380 hB_380 _ hk_380 hS => ?_)
  obtain ⟨h1, hl1⟩ := u_380
  have hPx := hX.kx hPx hk_380
  have hPy : va_P (yD Y) vwCl (mw Y h1 hl1) H1 := ht_380 ▸ hB_380
  obtain ⟨hf2, hJ1, el2, hp2⟩ := hw_380
  dsimp only at hf2 hJ1 el2 hp2
  subst el2
  generalize H1 = H at hPx hPy hS ⊢
  refine lv_pop hx hb dL_law_383 rfl ?_
  refine lv_goto (tgt := 759) hx hb dL_law_384 (by decide) ?_
  have exy0 : a_364 = a_339 := by rw [ea_364, ea_339, t_363, t_338]
  subst exy0
  have exy1 : a_369 = a_344 := by rw [ea_369, ea_344, t_368, t_343]
  subst exy1
  have exy2 : a_374 = a_349 := by rw [ea_374, ea_349, t_373, t_348]
  subst exy2
  have exy3 : a_379 = a_354 := by rw [ea_379, ea_354, t_378, t_353]
  subst exy3
  obtain ⟨hRt1, hRx1, res⟩ := case_offer hX.1 hRt hRd ⟨hJ.j31.1, h40⟩ hG hJ1 hRx hf2 hp1 hp2.1
  exact kk g1 gl1 tf1 h1 hl _ _ hPx hPy hS (hRp.fr hf hf2 (by decide) (by decide)) hRt1 (hRs.fr hf hf2 (by decide) (by decide)) ((hRd.fr hf hf2 (by decide) (by decide)).le (by omega)) (hRk.fr hf hf2 (by decide) (by decide) (fun t ht => hp1.2 _ (hX.1.ka ht) (hX.1.rk (by have q := hJ.j31; rw [hRt.1]; omega) ht).symm)) hRx1 (hRq.fr hf hf2 (by decide) (by decide)) hJ1 hp2.2 hG
set_option maxHeartbeats 4000000 in
set_option maxRecDepth 100000 in
theorem law_9 {p : Program} {l : Launch} {e : Env} {s : State} {m : MethodId} {below : List Frame} {meth : Method} {c : Code} {b L : Nat} {xs : Nat → Int32} (hL : L ≤ 2560) (C0 : lw_At p s m meth c b L xs) (hTl : ∀ w ∈ wsL_law, w.before #[Value.ref b] s = true) {Z : ZT} {Y : YT} (hX : LX s Z Y) {Q : State → Prop} (i : Nat) (hi : i + 5 ≤ L) (g : Nat → Nat → Int32) (gl : Nat → Nat → Int64) (tf : Nat → Nat → Int32) (h : Nat → Nat → Int32) (hl : Nat → Nat → Int64) (H : Heap) (locs : List Loc) (hPx : va_P (zD Z) vwCl (xw Z g gl tf) H) (hPy : va_P (yD Y) vwCl (mw Y h hl) H) (hS : va_S (fun q => s.heap.size ≤ q) s.heap H locs) (hRp : Rpg g h) (hRt : Rtr Z g tf h) (hRs : Rsn g h) (hRd : Rdk g h i) (hRk : Rkp Z g tf h) (hRx : Rtx Z g tf h) (hRq : Rsq g h) (hJ : MJ h) (h40 : (h 31 0).toInt ≤ 40) (hG : Gd Z tf) (ls : Array Slot) (hlv : lv_has ls 4 [(3, .int (nI i)), (2, .ref (ya Y 0)), (1, .ref (za Z 0)), (0, .ref b)]) (kk : ∀ (g : Nat → Nat → Int32) (gl : Nat → Nat → Int64) (tf : Nat → Nat → Int32) (h : Nat → Nat → Int32) (hl : Nat → Nat → Int64) (H : Heap) (locs : List Loc), (va_P (zD Z) vwCl (xw Z g gl tf) H) → (va_P (yD Y) vwCl (mw Y h hl) H) → (va_S (fun q => s.heap.size ≤ q) s.heap H locs) → (Rpg g h) → (Rtr Z g tf h) → (Rsn g h) → (Rdk g h (i + 5)) → (Rkp Z g tf h) → (Rtx Z g tf h) → (Rsq g h) → (MJ h) → ((h 31 0).toInt ≤ 40) → (Gd Z tf) → W p l e room_1 s m #[Value.ref b] below meth c H locs 155 6181 Q (F0 m 759 ls [])) : W p l e room_1 s m #[Value.ref b] below meth c H locs 155 6181 Q (F0 m 387 ls []) := by
  obtain ⟨hx, hb, hr, hml, hown, hts, hXs, hbl, hlocks, hgv⟩ := C0
  have hT := hTl
  have hbA : ¬ (fun q : Nat => s.heap.size ≤ q) b := Nat.not_le.mpr hbl
  have hsx := hX.2.2.2.1
  have hsy := hX.2.2.2.2.1
  have hKx := hX.2.2.2.2.2.1
  have hKy := hX.2.2.2.2.2.2.1
  refine lv_aload_n hx hb dL_law_387 rfl (lv_at hlv 2 rfl) ?_
  refine va_calli (va_runV (As := []) (rest := []) ⟨hx, hb, hml, hown, hT⟩ (c_X6_undo l Z hX.1 g gl tf (by rw [hRt.1]; exact ⟨hJ.j31.1, h40⟩) hRx.1 hG) (cwV 0 hT (tb_V (fun _ h => h) (tr_28 _ (List.mem_of_getElem? (i := 2) rfl)) (tr_28 _ (List.mem_of_getElem? (i := 3) rfl)) (tr_28 _ (List.mem_of_getElem? (i := 4) rfl)) (tr_1 _ (List.mem_of_getElem? (i := 2) rfl)) (tr_28 _ (List.mem_of_getElem? (i := 5) rfl))) rfl rfl rfl (by decide +kernel) ⟨Nat.le_of_ble_eq_true rfl, Nat.le_of_ble_eq_true rfl⟩) ⟨fun a U f mk q => ⟨q.1, XI.blind f mk a q.2⟩, va_recv hKx hPx (ci := 6) (q0 := 0) rfl xw_0, fun U hU hW => ⟨rfl, hX.xi hS hPx hU hW⟩⟩ rfl rfl hlv.1 rfl (lv_room (Nat.le_of_ble_eq_true rfl)) dL_law_388 ⟨Nat.le_of_ble_eq_true rfl, Nat.le_of_ble_eq_true rfl⟩) hS (fun q _ h => hsx q h) hsx (fun r_388 u_388 t_388 H1 locs ht_388 _ hw_388 hB_388 _ hk_388 hS => ?_)
  obtain ⟨g1, gl1, tf1⟩ := u_388
  have hPy := hX.ky hPy hk_388
  have hPx : va_P (zD Z) vwCl (xw Z g1 gl1 tf1) H1 := ht_388 ▸ hB_388
  obtain ⟨hf, hG, et, hp1⟩ := hw_388
  dsimp only at hf hG et hp1
  subst et
  generalize H1 = H at hPx hPy hS ⊢
  refine lv_pop hx hb dL_law_391 rfl ?_
  refine lv_aload_n hx hb dL_law_392 rfl (lv_at hlv 1 rfl) ?_
  refine va_calli (va_runV (As := []) (rest := []) ⟨hx, hb, hml, hown, hT⟩ (c_X7_undo l Y hX.2.1 h hl h40 hJ) (cwV 0 hT (tb_V (fun _ h => h) (tr_28 _ (List.mem_of_getElem? (i := 19) rfl)) (tr_28 _ (List.mem_of_getElem? (i := 20) rfl)) (tr_28 _ (List.mem_of_getElem? (i := 21) rfl)) (tr_1 _ (List.mem_of_getElem? (i := 5) rfl)) (tr_28 _ (List.mem_of_getElem? (i := 22) rfl))) rfl rfl rfl (by decide +kernel) ⟨Nat.le_of_ble_eq_true rfl, Nat.le_of_ble_eq_true rfl⟩) ⟨fun a U f mk q => ⟨q.1, MI.blind f mk a q.2⟩, va_recv hKy hPy (ci := 7) (q0 := 0) rfl mw_0, fun U hU hW => ⟨rfl, hX.mi hPy hU hW⟩⟩ rfl rfl hlv.1 rfl (lv_room (Nat.le_of_ble_eq_true rfl)) dL_law_393 ⟨Nat.le_of_ble_eq_true rfl, Nat.le_of_ble_eq_true rfl⟩) hS (fun q _ h => hsy q h) hsy (fun r_393 u_393 t_393 H1 locs ht_393 _ hw_393 hB_393 _ hk_393 hS => ?_)
  obtain ⟨h1, hl1⟩ := u_393
  have hPx := hX.kx hPx hk_393
  have hPy : va_P (yD Y) vwCl (mw Y h1 hl1) H1 := ht_393 ▸ hB_393
  obtain ⟨hf2, hJ1, el2, hp2⟩ := hw_393
  dsimp only at hf2 hJ1 el2 hp2
  subst el2
  generalize H1 = H at hPx hPy hS ⊢
  refine lv_pop hx hb dL_law_396 rfl ?_
  refine lv_goto (tgt := 759) hx hb dL_law_397 (by decide) ?_
  obtain ⟨hRt1, hRx1, res⟩ := case_undo hRt hJ.j31 hRx hf2 hp1 hp2.1
  exact kk g1 gl1 tf h1 hl _ _ hPx hPy hS (hRp.fr hf hf2 (by decide) (by decide)) hRt1 (hRs.fr hf hf2 (by decide) (by decide)) ((hRd.fr hf hf2 (by decide) (by decide)).le (by omega)) (hRk.fr hf hf2 (by decide) (by decide) (fun _ _ => rfl)) hRx1 (hRq.fr hf hf2 (by decide) (by decide)) hJ1 hp2.2 hG
set_option maxHeartbeats 4000000 in
set_option maxRecDepth 100000 in
theorem law_10 {p : Program} {l : Launch} {e : Env} {s : State} {m : MethodId} {below : List Frame} {meth : Method} {c : Code} {b L : Nat} {xs : Nat → Int32} (hL : L ≤ 2560) (C0 : lw_At p s m meth c b L xs) (hTl : ∀ w ∈ wsL_law, w.before #[Value.ref b] s = true) {Z : ZT} {Y : YT} (hX : LX s Z Y) {Q : State → Prop} (i : Nat) (hi : i + 5 ≤ L) (g : Nat → Nat → Int32) (gl : Nat → Nat → Int64) (tf : Nat → Nat → Int32) (h : Nat → Nat → Int32) (hl : Nat → Nat → Int64) (H : Heap) (locs : List Loc) (hPx : va_P (zD Z) vwCl (xw Z g gl tf) H) (hPy : va_P (yD Y) vwCl (mw Y h hl) H) (hS : va_S (fun q => s.heap.size ≤ q) s.heap H locs) (hRp : Rpg g h) (hRt : Rtr Z g tf h) (hRs : Rsn g h) (hRd : Rdk g h i) (hRk : Rkp Z g tf h) (hRx : Rtx Z g tf h) (hRq : Rsq g h) (hJ : MJ h) (h40 : (h 31 0).toInt ≤ 40) (hG : Gd Z tf) (ls : Array Slot) (hlv : lv_has ls 4 [(3, .int (nI i)), (2, .ref (ya Y 0)), (1, .ref (za Z 0)), (0, .ref b)]) (kk : ∀ (g : Nat → Nat → Int32) (gl : Nat → Nat → Int64) (tf : Nat → Nat → Int32) (h : Nat → Nat → Int32) (hl : Nat → Nat → Int64) (H : Heap) (locs : List Loc), (va_P (zD Z) vwCl (xw Z g gl tf) H) → (va_P (yD Y) vwCl (mw Y h hl) H) → (va_S (fun q => s.heap.size ≤ q) s.heap H locs) → (Rpg g h) → (Rtr Z g tf h) → (Rsn g h) → (Rdk g h (i + 5)) → (Rkp Z g tf h) → (Rtx Z g tf h) → (Rsq g h) → (MJ h) → ((h 31 0).toInt ≤ 40) → (Gd Z tf) → W p l e room_1 s m #[Value.ref b] below meth c H locs 155 6181 Q (F0 m 759 ls [])) : W p l e room_1 s m #[Value.ref b] below meth c H locs 155 6181 Q (F0 m 400 ls []) := by
  obtain ⟨hx, hb, hr, hml, hown, hts, hXs, hbl, hlocks, hgv⟩ := C0
  have hT := hTl
  have hbA : ¬ (fun q : Nat => s.heap.size ≤ q) b := Nat.not_le.mpr hbl
  have hsx := hX.2.2.2.1
  have hsy := hX.2.2.2.2.1
  have hKx := hX.2.2.2.2.2.1
  have hKy := hX.2.2.2.2.2.2.1
  refine lv_aload_n hx hb dL_law_400 rfl (lv_at hlv 2 rfl) ?_
  refine lv_aload_n hx hb dL_law_401 rfl (lv_at hlv 3 rfl) ?_
  refine lv_iload_n hx hb dL_law_402 rfl (lv_at hlv 0 rfl) ?_
  refine lv_iconst (v := 1) hx hb dL_law_403 (by decide) ?_
  refine lv_iadd hx hb dL_law_404 ?_
  refine lv_topi (fun v_404 e_404 => ?_)
  have t_404 : v_404 = nI (i + 1) := by rw [e_404]; exact nI_add i 1
  have h_405 : vp_in v_404 L := by rw [t_404]; exact vp_in_nI (by omega) (by omega)
  refine va_sld hx hb hXs hbl hbA hS h_405 dL_law_405 ?_
  refine lv_topi (fun a_405 ea_405 => ?_)
  refine rd_ci (va_runV (As := [.int a_405]) (rest := []) ⟨hx, hb, hml, hown, hT⟩ (c_X6_cheapest l Z hX.1 g gl tf a_405 hG) (cwV 1 hT (tb_V (fun _ h => h) (tr_29 _ (List.mem_of_getElem? (i := 3) rfl)) (tr_29 _ (List.mem_of_getElem? (i := 4) rfl)) (tr_29 _ (List.mem_of_getElem? (i := 5) rfl)) (tr_1 _ (List.mem_of_getElem? (i := 2) rfl)) (tr_29 _ (List.mem_of_getElem? (i := 6) rfl))) rfl rfl rfl (by decide +kernel) ⟨Nat.le_of_ble_eq_true rfl, Nat.le_of_ble_eq_true rfl⟩) ⟨fun a U f mk q => ⟨q.1, XI.blind f mk a q.2⟩, va_recv hKx hPx (ci := 6) (q0 := 0) rfl xw_0, fun U hU hW => ⟨rfl, hX.xi hS hPx hU hW⟩⟩ rfl rfl hlv.1 rfl (lv_room (Nat.le_of_ble_eq_true rfl)) dL_law_406 ⟨Nat.le_of_ble_eq_true rfl, Nat.le_of_ble_eq_true rfl⟩) (fun r_406 hr_406 => ?_)
  refine lv_pop hx hb dL_law_409 rfl ?_
  refine lv_aload_n hx hb dL_law_410 rfl (lv_at hlv 1 rfl) ?_
  refine lv_aload_n hx hb dL_law_411 rfl (lv_at hlv 3 rfl) ?_
  refine lv_iload_n hx hb dL_law_412 rfl (lv_at hlv 0 rfl) ?_
  refine lv_iconst (v := 1) hx hb dL_law_413 (by decide) ?_
  refine lv_iadd hx hb dL_law_414 ?_
  refine lv_topi (fun v_414 e_414 => ?_)
  have t_414 : v_414 = nI (i + 1) := by rw [e_414]; exact nI_add i 1
  have h_415 : vp_in v_414 L := by rw [t_414]; exact vp_in_nI (by omega) (by omega)
  refine va_sld hx hb hXs hbl hbA hS h_415 dL_law_415 ?_
  refine lv_topi (fun a_415 ea_415 => ?_)
  refine rd_ci (va_runV (As := [.int a_415]) (rest := []) ⟨hx, hb, hml, hown, hT⟩ (c_X7_cheapest l Y hX.2.1 h hl a_415 hJ) (cwV 1 hT (tb_V (fun _ h => h) (tr_29 _ (List.mem_of_getElem? (i := 7) rfl)) (tr_29 _ (List.mem_of_getElem? (i := 8) rfl)) (tr_29 _ (List.mem_of_getElem? (i := 9) rfl)) (tr_1 _ (List.mem_of_getElem? (i := 5) rfl)) (tr_29 _ (List.mem_of_getElem? (i := 10) rfl))) rfl rfl rfl (by decide +kernel) ⟨Nat.le_of_ble_eq_true rfl, Nat.le_of_ble_eq_true rfl⟩) ⟨fun a U f mk q => ⟨q.1, MI.blind f mk a q.2⟩, va_recv hKy hPy (ci := 7) (q0 := 0) rfl mw_0, fun U hU hW => ⟨rfl, hX.mi hPy hU hW⟩⟩ rfl rfl hlv.1 rfl (lv_room (Nat.le_of_ble_eq_true rfl)) dL_law_416 ⟨Nat.le_of_ble_eq_true rfl, Nat.le_of_ble_eq_true rfl⟩) (fun r_416 hr_416 => ?_)
  refine lv_pop hx hb dL_law_419 rfl ?_
  refine lv_goto (tgt := 759) hx hb dL_law_420 (by decide) ?_
  have exy0 : a_415 = a_405 := by rw [ea_415, ea_405, t_414, t_404]
  subst exy0
  have res := case_cheapest hRt hRd hRx hJ h40 hr_406 hr_416
  exact kk g gl tf h hl _ _ hPx hPy hS (hRp.fr (Fr.rf (S := [])) (Fr.rf (S := [])) (by decide) (by decide)) (hRt.fr (Fr.rf (S := [])) (Fr.rf (S := [])) (by decide) (by decide) (fun _ _ => rfl)) (hRs.fr (Fr.rf (S := [])) (Fr.rf (S := [])) (by decide) (by decide)) ((hRd.fr (Fr.rf (S := [])) (Fr.rf (S := [])) (by decide) (by decide)).le (by omega)) (hRk.fr (Fr.rf (S := [])) (Fr.rf (S := [])) (by decide) (by decide) (fun _ _ => rfl)) (hRx.fr hX.1 ⟨hJ.j31.1, h40⟩ hRt.1 (Fr.rf (S := [])) (Fr.rf (S := [])) (by decide) (by decide) (fun _ _ => rfl)) (hRq.fr (Fr.rf (S := [])) (Fr.rf (S := [])) (by decide) (by decide)) hJ h40 hG
set_option maxHeartbeats 4000000 in
set_option maxRecDepth 100000 in
theorem law_11 {p : Program} {l : Launch} {e : Env} {s : State} {m : MethodId} {below : List Frame} {meth : Method} {c : Code} {b L : Nat} {xs : Nat → Int32} (hL : L ≤ 2560) (C0 : lw_At p s m meth c b L xs) (hTl : ∀ w ∈ wsL_law, w.before #[Value.ref b] s = true) {Z : ZT} {Y : YT} (hX : LX s Z Y) {Q : State → Prop} (i : Nat) (hi : i + 5 ≤ L) (g : Nat → Nat → Int32) (gl : Nat → Nat → Int64) (tf : Nat → Nat → Int32) (h : Nat → Nat → Int32) (hl : Nat → Nat → Int64) (H : Heap) (locs : List Loc) (hPx : va_P (zD Z) vwCl (xw Z g gl tf) H) (hPy : va_P (yD Y) vwCl (mw Y h hl) H) (hS : va_S (fun q => s.heap.size ≤ q) s.heap H locs) (hRp : Rpg g h) (hRt : Rtr Z g tf h) (hRs : Rsn g h) (hRd : Rdk g h i) (hRk : Rkp Z g tf h) (hRx : Rtx Z g tf h) (hRq : Rsq g h) (hJ : MJ h) (h40 : (h 31 0).toInt ≤ 40) (hG : Gd Z tf) (ls : Array Slot) (hlv : lv_has ls 4 [(3, .int (nI i)), (2, .ref (ya Y 0)), (1, .ref (za Z 0)), (0, .ref b)]) (kk : ∀ (g : Nat → Nat → Int32) (gl : Nat → Nat → Int64) (tf : Nat → Nat → Int32) (h : Nat → Nat → Int32) (hl : Nat → Nat → Int64) (H : Heap) (locs : List Loc), (va_P (zD Z) vwCl (xw Z g gl tf) H) → (va_P (yD Y) vwCl (mw Y h hl) H) → (va_S (fun q => s.heap.size ≤ q) s.heap H locs) → (Rpg g h) → (Rtr Z g tf h) → (Rsn g h) → (Rdk g h (i + 5)) → (Rkp Z g tf h) → (Rtx Z g tf h) → (Rsq g h) → (MJ h) → ((h 31 0).toInt ≤ 40) → (Gd Z tf) → W p l e room_1 s m #[Value.ref b] below meth c H locs 155 6181 Q (F0 m 759 ls [])) : W p l e room_1 s m #[Value.ref b] below meth c H locs 155 6181 Q (F0 m 423 ls []) := by
  obtain ⟨hx, hb, hr, hml, hown, hts, hXs, hbl, hlocks, hgv⟩ := C0
  have hT := hTl
  have hbA : ¬ (fun q : Nat => s.heap.size ≤ q) b := Nat.not_le.mpr hbl
  have hsx := hX.2.2.2.1
  have hsy := hX.2.2.2.2.1
  have hKx := hX.2.2.2.2.2.1
  have hKy := hX.2.2.2.2.2.2.1
  refine lv_aload_n hx hb dL_law_423 rfl (lv_at hlv 2 rfl) ?_
  refine lv_aload_n hx hb dL_law_424 rfl (lv_at hlv 3 rfl) ?_
  refine lv_iload_n hx hb dL_law_425 rfl (lv_at hlv 0 rfl) ?_
  refine lv_iconst (v := 1) hx hb dL_law_426 (by decide) ?_
  refine lv_iadd hx hb dL_law_427 ?_
  refine lv_topi (fun v_427 e_427 => ?_)
  have t_427 : v_427 = nI (i + 1) := by rw [e_427]; exact nI_add i 1
  have h_428 : vp_in v_427 L := by rw [t_427]; exact vp_in_nI (by omega) (by omega)
  refine va_sld hx hb hXs hbl hbA hS h_428 dL_law_428 ?_
  refine lv_topi (fun a_428 ea_428 => ?_)
  refine rd_cl (va_runV (As := [.int a_428]) (rest := []) ⟨hx, hb, hml, hown, hT⟩ (c_X6_cost l Z hX.1 g gl tf a_428 (by rw [hRt.1]; exact ⟨hJ.j31.1, h40⟩) hRx.1 hG) (cwV 1 hT (tb_V (fun _ h => h) (tr_29 _ (List.mem_of_getElem? (i := 11) rfl)) (tr_29 _ (List.mem_of_getElem? (i := 12) rfl)) (tr_29 _ (List.mem_of_getElem? (i := 13) rfl)) (tr_1 _ (List.mem_of_getElem? (i := 2) rfl)) (tr_29 _ (List.mem_of_getElem? (i := 14) rfl))) rfl rfl rfl (by decide +kernel) ⟨Nat.le_of_ble_eq_true rfl, Nat.le_of_ble_eq_true rfl⟩) ⟨fun a U f mk q => ⟨q.1, XI.blind f mk a q.2⟩, va_recv hKx hPx (ci := 6) (q0 := 0) rfl xw_0, fun U hU hW => ⟨rfl, hX.xi hS hPx hU hW⟩⟩ rfl rfl hlv.1 rfl (lv_room (Nat.le_of_ble_eq_true rfl)) dL_law_429 ⟨Nat.le_of_ble_eq_true rfl, Nat.le_of_ble_eq_true rfl⟩) (fun r_429 hr_429 => ?_)
  refine lv_pop2_2 hx hb dL_law_432 rfl ?_
  refine lv_aload_n hx hb dL_law_433 rfl (lv_at hlv 1 rfl) ?_
  refine lv_aload_n hx hb dL_law_434 rfl (lv_at hlv 3 rfl) ?_
  refine lv_iload_n hx hb dL_law_435 rfl (lv_at hlv 0 rfl) ?_
  refine lv_iconst (v := 1) hx hb dL_law_436 (by decide) ?_
  refine lv_iadd hx hb dL_law_437 ?_
  refine lv_topi (fun v_437 e_437 => ?_)
  have t_437 : v_437 = nI (i + 1) := by rw [e_437]; exact nI_add i 1
  have h_438 : vp_in v_437 L := by rw [t_437]; exact vp_in_nI (by omega) (by omega)
  refine va_sld hx hb hXs hbl hbA hS h_438 dL_law_438 ?_
  refine lv_topi (fun a_438 ea_438 => ?_)
  refine rd_cl (va_runV (As := [.int a_438]) (rest := []) ⟨hx, hb, hml, hown, hT⟩ (c_X7_cost l Y hX.2.1 h hl a_438 hJ) (cwV 1 hT (tb_V (fun _ h => h) (tr_29 _ (List.mem_of_getElem? (i := 16) rfl)) (tr_29 _ (List.mem_of_getElem? (i := 17) rfl)) (tr_29 _ (List.mem_of_getElem? (i := 18) rfl)) (tr_1 _ (List.mem_of_getElem? (i := 5) rfl)) (tr_29 _ (List.mem_of_getElem? (i := 19) rfl))) rfl rfl rfl (by decide +kernel) ⟨Nat.le_of_ble_eq_true rfl, Nat.le_of_ble_eq_true rfl⟩) ⟨fun a U f mk q => ⟨q.1, MI.blind f mk a q.2⟩, va_recv hKy hPy (ci := 7) (q0 := 0) rfl mw_0, fun U hU hW => ⟨rfl, hX.mi hPy hU hW⟩⟩ rfl rfl hlv.1 rfl (lv_room (Nat.le_of_ble_eq_true rfl)) dL_law_439 ⟨Nat.le_of_ble_eq_true rfl, Nat.le_of_ble_eq_true rfl⟩) (fun r_439 hr_439 => ?_)
  refine lv_pop2_2 hx hb dL_law_442 rfl ?_
  refine lv_goto (tgt := 759) hx hb dL_law_443 (by decide) ?_
  have exy0 : a_438 = a_428 := by rw [ea_438, ea_428, t_437, t_427]
  subst exy0
  have res := case_cost hRt hRd hRx hJ h40 hr_429 hr_439
  exact kk g gl tf h hl _ _ hPx hPy hS (hRp.fr (Fr.rf (S := [])) (Fr.rf (S := [])) (by decide) (by decide)) (hRt.fr (Fr.rf (S := [])) (Fr.rf (S := [])) (by decide) (by decide) (fun _ _ => rfl)) (hRs.fr (Fr.rf (S := [])) (Fr.rf (S := [])) (by decide) (by decide)) ((hRd.fr (Fr.rf (S := [])) (Fr.rf (S := [])) (by decide) (by decide)).le (by omega)) (hRk.fr (Fr.rf (S := [])) (Fr.rf (S := [])) (by decide) (by decide) (fun _ _ => rfl)) (hRx.fr hX.1 ⟨hJ.j31.1, h40⟩ hRt.1 (Fr.rf (S := [])) (Fr.rf (S := [])) (by decide) (by decide) (fun _ _ => rfl)) (hRq.fr (Fr.rf (S := [])) (Fr.rf (S := [])) (by decide) (by decide)) hJ h40 hG
set_option maxHeartbeats 4000000 in
set_option maxRecDepth 100000 in
theorem law_12 {p : Program} {l : Launch} {e : Env} {s : State} {m : MethodId} {below : List Frame} {meth : Method} {c : Code} {b L : Nat} {xs : Nat → Int32} (hL : L ≤ 2560) (C0 : lw_At p s m meth c b L xs) (hTl : ∀ w ∈ wsL_law, w.before #[Value.ref b] s = true) {Z : ZT} {Y : YT} (hX : LX s Z Y) {Q : State → Prop} (i : Nat) (hi : i + 5 ≤ L) (g : Nat → Nat → Int32) (gl : Nat → Nat → Int64) (tf : Nat → Nat → Int32) (h : Nat → Nat → Int32) (hl : Nat → Nat → Int64) (H : Heap) (locs : List Loc) (hPx : va_P (zD Z) vwCl (xw Z g gl tf) H) (hPy : va_P (yD Y) vwCl (mw Y h hl) H) (hS : va_S (fun q => s.heap.size ≤ q) s.heap H locs) (hRp : Rpg g h) (hRt : Rtr Z g tf h) (hRs : Rsn g h) (hRd : Rdk g h i) (hRk : Rkp Z g tf h) (hRx : Rtx Z g tf h) (hRq : Rsq g h) (hJ : MJ h) (h40 : (h 31 0).toInt ≤ 40) (hG : Gd Z tf) (ls : Array Slot) (hlv : lv_has ls 4 [(3, .int (nI i)), (2, .ref (ya Y 0)), (1, .ref (za Z 0)), (0, .ref b)]) (kk : ∀ (g : Nat → Nat → Int32) (gl : Nat → Nat → Int64) (tf : Nat → Nat → Int32) (h : Nat → Nat → Int32) (hl : Nat → Nat → Int64) (H : Heap) (locs : List Loc), (va_P (zD Z) vwCl (xw Z g gl tf) H) → (va_P (yD Y) vwCl (mw Y h hl) H) → (va_S (fun q => s.heap.size ≤ q) s.heap H locs) → (Rpg g h) → (Rtr Z g tf h) → (Rsn g h) → (Rdk g h (i + 5)) → (Rkp Z g tf h) → (Rtx Z g tf h) → (Rsq g h) → (MJ h) → ((h 31 0).toInt ≤ 40) → (Gd Z tf) → W p l e room_1 s m #[Value.ref b] below meth c H locs 155 6181 Q (F0 m 759 ls [])) : W p l e room_1 s m #[Value.ref b] below meth c H locs 155 6181 Q (F0 m 446 ls []) := by
  obtain ⟨hx, hb, hr, hml, hown, hts, hXs, hbl, hlocks, hgv⟩ := C0
  have hT := hTl
  have hbA : ¬ (fun q : Nat => s.heap.size ≤ q) b := Nat.not_le.mpr hbl
  have hsx := hX.2.2.2.1
  have hsy := hX.2.2.2.2.1
  have hKx := hX.2.2.2.2.2.1
  have hKy := hX.2.2.2.2.2.2.1
  refine lv_aload_n hx hb dL_law_446 rfl (lv_at hlv 2 rfl) ?_
  refine lv_aload_n hx hb dL_law_447 rfl (lv_at hlv 3 rfl) ?_
  refine lv_iload_n hx hb dL_law_448 rfl (lv_at hlv 0 rfl) ?_
  refine lv_iconst (v := 1) hx hb dL_law_449 (by decide) ?_
  refine lv_iadd hx hb dL_law_450 ?_
  refine lv_topi (fun v_450 e_450 => ?_)
  have t_450 : v_450 = nI (i + 1) := by rw [e_450]; exact nI_add i 1
  have h_451 : vp_in v_450 L := by rw [t_450]; exact vp_in_nI (by omega) (by omega)
  refine va_sld hx hb hXs hbl hbA hS h_451 dL_law_451 ?_
  refine lv_topi (fun a_451 ea_451 => ?_)
  refine lv_aload_n hx hb dL_law_452 rfl (lv_at hlv 3 rfl) ?_
  refine lv_iload_n hx hb dL_law_453 rfl (lv_at hlv 0 rfl) ?_
  refine lv_iconst (v := 2) hx hb dL_law_454 (by decide) ?_
  refine lv_iadd hx hb dL_law_455 ?_
  refine lv_topi (fun v_455 e_455 => ?_)
  have t_455 : v_455 = nI (i + 2) := by rw [e_455]; exact nI_add i 2
  have h_456 : vp_in v_455 L := by rw [t_455]; exact vp_in_nI (by omega) (by omega)
  refine va_sld hx hb hXs hbl hbA hS h_456 dL_law_456 ?_
  refine lv_topi (fun a_456 ea_456 => ?_)
  refine rd_ci (va_runV (As := [.int a_451, .int a_456]) (rest := []) ⟨hx, hb, hml, hown, hT⟩ (c_X6_piece l Z hX.1 g gl tf a_451 a_456 hG) (cwV 2 hT (tb_V (fun _ h => h) (tr_30 _ (List.mem_of_getElem? (i := 1) rfl)) (tr_30 _ (List.mem_of_getElem? (i := 2) rfl)) (tr_30 _ (List.mem_of_getElem? (i := 3) rfl)) (tr_1 _ (List.mem_of_getElem? (i := 2) rfl)) (tr_30 _ (List.mem_of_getElem? (i := 4) rfl))) rfl rfl rfl (by decide +kernel) ⟨Nat.le_of_ble_eq_true rfl, Nat.le_of_ble_eq_true rfl⟩) ⟨fun a U f mk q => ⟨q.1, XI.blind f mk a q.2⟩, va_recv hKx hPx (ci := 6) (q0 := 0) rfl xw_0, fun U hU hW => ⟨rfl, hX.xi hS hPx hU hW⟩⟩ rfl rfl hlv.1 rfl (lv_room (Nat.le_of_ble_eq_true rfl)) dL_law_457 ⟨Nat.le_of_ble_eq_true rfl, Nat.le_of_ble_eq_true rfl⟩) (fun r_457 hr_457 => ?_)
  refine lv_pop hx hb dL_law_460 rfl ?_
  refine lv_aload_n hx hb dL_law_461 rfl (lv_at hlv 1 rfl) ?_
  refine lv_aload_n hx hb dL_law_462 rfl (lv_at hlv 3 rfl) ?_
  refine lv_iload_n hx hb dL_law_463 rfl (lv_at hlv 0 rfl) ?_
  refine lv_iconst (v := 1) hx hb dL_law_464 (by decide) ?_
  refine lv_iadd hx hb dL_law_465 ?_
  refine lv_topi (fun v_465 e_465 => ?_)
  have t_465 : v_465 = nI (i + 1) := by rw [e_465]; exact nI_add i 1
  have h_466 : vp_in v_465 L := by rw [t_465]; exact vp_in_nI (by omega) (by omega)
  refine va_sld hx hb hXs hbl hbA hS h_466 dL_law_466 ?_
  refine lv_topi (fun a_466 ea_466 => ?_)
  refine lv_aload_n hx hb dL_law_467 rfl (lv_at hlv 3 rfl) ?_
  refine lv_iload_n hx hb dL_law_468 rfl (lv_at hlv 0 rfl) ?_
  refine lv_iconst (v := 2) hx hb dL_law_469 (by decide) ?_
  refine lv_iadd hx hb dL_law_470 ?_
  refine lv_topi (fun v_470 e_470 => ?_)
  have t_470 : v_470 = nI (i + 2) := by rw [e_470]; exact nI_add i 2
  have h_471 : vp_in v_470 L := by rw [t_470]; exact vp_in_nI (by omega) (by omega)
  refine va_sld hx hb hXs hbl hbA hS h_471 dL_law_471 ?_
  refine lv_topi (fun a_471 ea_471 => ?_)
  refine rd_ci (va_runV (As := [.int a_466, .int a_471]) (rest := []) ⟨hx, hb, hml, hown, hT⟩ (c_X7_piece l Y hX.2.1 h hl a_466 a_471 hJ) (cwV 2 hT (tb_V (fun _ h => h) (tr_30 _ (List.mem_of_getElem? (i := 17) rfl)) (tr_30 _ (List.mem_of_getElem? (i := 18) rfl)) (tr_30 _ (List.mem_of_getElem? (i := 19) rfl)) (tr_1 _ (List.mem_of_getElem? (i := 5) rfl)) (tr_30 _ (List.mem_of_getElem? (i := 20) rfl))) rfl rfl rfl (by decide +kernel) ⟨Nat.le_of_ble_eq_true rfl, Nat.le_of_ble_eq_true rfl⟩) ⟨fun a U f mk q => ⟨q.1, MI.blind f mk a q.2⟩, va_recv hKy hPy (ci := 7) (q0 := 0) rfl mw_0, fun U hU hW => ⟨rfl, hX.mi hPy hU hW⟩⟩ rfl rfl hlv.1 rfl (lv_room (Nat.le_of_ble_eq_true rfl)) dL_law_472 ⟨Nat.le_of_ble_eq_true rfl, Nat.le_of_ble_eq_true rfl⟩) (fun r_472 hr_472 => ?_)
  refine lv_pop hx hb dL_law_475 rfl ?_
  refine lv_goto (tgt := 759) hx hb dL_law_476 (by decide) ?_
  have exy0 : a_466 = a_451 := by rw [ea_466, ea_451, t_465, t_450]
  subst exy0
  have exy1 : a_471 = a_456 := by rw [ea_471, ea_456, t_470, t_455]
  subst exy1
  have res := case_piece hRt hRd hRx hJ h40 hr_457 hr_472
  exact kk g gl tf h hl _ _ hPx hPy hS (hRp.fr (Fr.rf (S := [])) (Fr.rf (S := [])) (by decide) (by decide)) (hRt.fr (Fr.rf (S := [])) (Fr.rf (S := [])) (by decide) (by decide) (fun _ _ => rfl)) (hRs.fr (Fr.rf (S := [])) (Fr.rf (S := [])) (by decide) (by decide)) ((hRd.fr (Fr.rf (S := [])) (Fr.rf (S := [])) (by decide) (by decide)).le (by omega)) (hRk.fr (Fr.rf (S := [])) (Fr.rf (S := [])) (by decide) (by decide) (fun _ _ => rfl)) (hRx.fr hX.1 ⟨hJ.j31.1, h40⟩ hRt.1 (Fr.rf (S := [])) (Fr.rf (S := [])) (by decide) (by decide) (fun _ _ => rfl)) (hRq.fr (Fr.rf (S := [])) (Fr.rf (S := [])) (by decide) (by decide)) hJ h40 hG
set_option maxHeartbeats 4000000 in
set_option maxRecDepth 100000 in
theorem law_13 {p : Program} {l : Launch} {e : Env} {s : State} {m : MethodId} {below : List Frame} {meth : Method} {c : Code} {b L : Nat} {xs : Nat → Int32} (hL : L ≤ 2560) (C0 : lw_At p s m meth c b L xs) (hTl : ∀ w ∈ wsL_law, w.before #[Value.ref b] s = true) {Z : ZT} {Y : YT} (hX : LX s Z Y) {Q : State → Prop} (i : Nat) (hi : i + 5 ≤ L) (g : Nat → Nat → Int32) (gl : Nat → Nat → Int64) (tf : Nat → Nat → Int32) (h : Nat → Nat → Int32) (hl : Nat → Nat → Int64) (H : Heap) (locs : List Loc) (hPx : va_P (zD Z) vwCl (xw Z g gl tf) H) (hPy : va_P (yD Y) vwCl (mw Y h hl) H) (hS : va_S (fun q => s.heap.size ≤ q) s.heap H locs) (hRp : Rpg g h) (hRt : Rtr Z g tf h) (hRs : Rsn g h) (hRd : Rdk g h i) (hRk : Rkp Z g tf h) (hRx : Rtx Z g tf h) (hRq : Rsq g h) (hJ : MJ h) (h40 : (h 31 0).toInt ≤ 40) (hG : Gd Z tf) (ls : Array Slot) (hlv : lv_has ls 4 [(3, .int (nI i)), (2, .ref (ya Y 0)), (1, .ref (za Z 0)), (0, .ref b)]) (kk : ∀ (g : Nat → Nat → Int32) (gl : Nat → Nat → Int64) (tf : Nat → Nat → Int32) (h : Nat → Nat → Int32) (hl : Nat → Nat → Int64) (H : Heap) (locs : List Loc), (va_P (zD Z) vwCl (xw Z g gl tf) H) → (va_P (yD Y) vwCl (mw Y h hl) H) → (va_S (fun q => s.heap.size ≤ q) s.heap H locs) → (Rpg g h) → (Rtr Z g tf h) → (Rsn g h) → (Rdk g h (i + 5)) → (Rkp Z g tf h) → (Rtx Z g tf h) → (Rsq g h) → (MJ h) → ((h 31 0).toInt ≤ 40) → (Gd Z tf) → W p l e room_1 s m #[Value.ref b] below meth c H locs 155 6181 Q (F0 m 759 ls [])) : W p l e room_1 s m #[Value.ref b] below meth c H locs 155 6181 Q (F0 m 479 ls []) := by
  obtain ⟨hx, hb, hr, hml, hown, hts, hXs, hbl, hlocks, hgv⟩ := C0
  have hT := hTl
  have hbA : ¬ (fun q : Nat => s.heap.size ≤ q) b := Nat.not_le.mpr hbl
  have hsx := hX.2.2.2.1
  have hsy := hX.2.2.2.2.1
  have hKx := hX.2.2.2.2.2.1
  have hKy := hX.2.2.2.2.2.2.1
  refine lv_aload_n hx hb dL_law_479 rfl (lv_at hlv 2 rfl) ?_
  refine lv_aload_n hx hb dL_law_480 rfl (lv_at hlv 3 rfl) ?_
  refine lv_iload_n hx hb dL_law_481 rfl (lv_at hlv 0 rfl) ?_
  refine lv_iconst (v := 1) hx hb dL_law_482 (by decide) ?_
  refine lv_iadd hx hb dL_law_483 ?_
  refine lv_topi (fun v_483 e_483 => ?_)
  have t_483 : v_483 = nI (i + 1) := by rw [e_483]; exact nI_add i 1
  have h_484 : vp_in v_483 L := by rw [t_483]; exact vp_in_nI (by omega) (by omega)
  refine va_sld hx hb hXs hbl hbA hS h_484 dL_law_484 ?_
  refine lv_topi (fun a_484 ea_484 => ?_)
  refine lv_aload_n hx hb dL_law_485 rfl (lv_at hlv 3 rfl) ?_
  refine lv_iload_n hx hb dL_law_486 rfl (lv_at hlv 0 rfl) ?_
  refine lv_iconst (v := 2) hx hb dL_law_487 (by decide) ?_
  refine lv_iadd hx hb dL_law_488 ?_
  refine lv_topi (fun v_488 e_488 => ?_)
  have t_488 : v_488 = nI (i + 2) := by rw [e_488]; exact nI_add i 2
  have h_489 : vp_in v_488 L := by rw [t_488]; exact vp_in_nI (by omega) (by omega)
  refine va_sld hx hb hXs hbl hbA hS h_489 dL_law_489 ?_
  refine lv_topi (fun a_489 ea_489 => ?_)
  refine rd_ci (va_runV (As := [.int a_484, .int a_489]) (rest := []) ⟨hx, hb, hml, hown, hT⟩ (c_X6_bargain l Z hX.1 g gl tf a_484 a_489 (by rw [hRt.1]; exact ⟨hJ.j31.1, h40⟩) hRx.1 hG) (cwV 2 hT (tb_V (fun _ h => h) (tr_31 _ (List.mem_of_getElem? (i := 9) rfl)) (tr_31 _ (List.mem_of_getElem? (i := 10) rfl)) (tr_31 _ (List.mem_of_getElem? (i := 11) rfl)) (tr_1 _ (List.mem_of_getElem? (i := 2) rfl)) (tr_31 _ (List.mem_of_getElem? (i := 12) rfl))) rfl rfl rfl (by decide +kernel) ⟨Nat.le_of_ble_eq_true rfl, Nat.le_of_ble_eq_true rfl⟩) ⟨fun a U f mk q => ⟨q.1, XI.blind f mk a q.2⟩, va_recv hKx hPx (ci := 6) (q0 := 0) rfl xw_0, fun U hU hW => ⟨rfl, hX.xi hS hPx hU hW⟩⟩ rfl rfl hlv.1 rfl (lv_room (Nat.le_of_ble_eq_true rfl)) dL_law_490 ⟨Nat.le_of_ble_eq_true rfl, Nat.le_of_ble_eq_true rfl⟩) (fun r_490 hr_490 => ?_)
  refine lv_pop hx hb dL_law_493 rfl ?_
  refine lv_aload_n hx hb dL_law_494 rfl (lv_at hlv 1 rfl) ?_
  refine lv_aload_n hx hb dL_law_495 rfl (lv_at hlv 3 rfl) ?_
  refine lv_iload_n hx hb dL_law_496 rfl (lv_at hlv 0 rfl) ?_
  refine lv_iconst (v := 1) hx hb dL_law_497 (by decide) ?_
  refine lv_iadd hx hb dL_law_498 ?_
  refine lv_topi (fun v_498 e_498 => ?_)
  have t_498 : v_498 = nI (i + 1) := by rw [e_498]; exact nI_add i 1
  have h_499 : vp_in v_498 L := by rw [t_498]; exact vp_in_nI (by omega) (by omega)
  refine va_sld hx hb hXs hbl hbA hS h_499 dL_law_499 ?_
  refine lv_topi (fun a_499 ea_499 => ?_)
  refine lv_aload_n hx hb dL_law_500 rfl (lv_at hlv 3 rfl) ?_
  refine lv_iload_n hx hb dL_law_501 rfl (lv_at hlv 0 rfl) ?_
  refine lv_iconst (v := 2) hx hb dL_law_502 (by decide) ?_
  refine lv_iadd hx hb dL_law_503 ?_
  refine lv_topi (fun v_503 e_503 => ?_)
  have t_503 : v_503 = nI (i + 2) := by rw [e_503]; exact nI_add i 2
  have h_504 : vp_in v_503 L := by rw [t_503]; exact vp_in_nI (by omega) (by omega)
  refine va_sld hx hb hXs hbl hbA hS h_504 dL_law_504 ?_
  refine lv_topi (fun a_504 ea_504 => ?_)
  refine rd_ci (va_runV (As := [.int a_499, .int a_504]) (rest := []) ⟨hx, hb, hml, hown, hT⟩ (c_X7_bargain l Y hX.2.1 h hl a_499 a_504 hJ) (cwV 2 hT (tb_V (fun _ h => h) (tr_31 _ (List.mem_of_getElem? (i := 13) rfl)) (tr_31 _ (List.mem_of_getElem? (i := 14) rfl)) (tr_31 _ (List.mem_of_getElem? (i := 15) rfl)) (tr_1 _ (List.mem_of_getElem? (i := 5) rfl)) (tr_31 _ (List.mem_of_getElem? (i := 16) rfl))) rfl rfl rfl (by decide +kernel) ⟨Nat.le_of_ble_eq_true rfl, Nat.le_of_ble_eq_true rfl⟩) ⟨fun a U f mk q => ⟨q.1, MI.blind f mk a q.2⟩, va_recv hKy hPy (ci := 7) (q0 := 0) rfl mw_0, fun U hU hW => ⟨rfl, hX.mi hPy hU hW⟩⟩ rfl rfl hlv.1 rfl (lv_room (Nat.le_of_ble_eq_true rfl)) dL_law_505 ⟨Nat.le_of_ble_eq_true rfl, Nat.le_of_ble_eq_true rfl⟩) (fun r_505 hr_505 => ?_)
  refine lv_pop hx hb dL_law_508 rfl ?_
  refine lv_goto (tgt := 759) hx hb dL_law_509 (by decide) ?_
  have exy0 : a_499 = a_484 := by rw [ea_499, ea_484, t_498, t_483]
  subst exy0
  have exy1 : a_504 = a_489 := by rw [ea_504, ea_489, t_503, t_488]
  subst exy1
  have res := case_bargain hRt hRd hRx hJ h40 hr_490 hr_505
  exact kk g gl tf h hl _ _ hPx hPy hS (hRp.fr (Fr.rf (S := [])) (Fr.rf (S := [])) (by decide) (by decide)) (hRt.fr (Fr.rf (S := [])) (Fr.rf (S := [])) (by decide) (by decide) (fun _ _ => rfl)) (hRs.fr (Fr.rf (S := [])) (Fr.rf (S := [])) (by decide) (by decide)) ((hRd.fr (Fr.rf (S := [])) (Fr.rf (S := [])) (by decide) (by decide)).le (by omega)) (hRk.fr (Fr.rf (S := [])) (Fr.rf (S := [])) (by decide) (by decide) (fun _ _ => rfl)) (hRx.fr hX.1 ⟨hJ.j31.1, h40⟩ hRt.1 (Fr.rf (S := [])) (Fr.rf (S := [])) (by decide) (by decide) (fun _ _ => rfl)) (hRq.fr (Fr.rf (S := [])) (Fr.rf (S := [])) (by decide) (by decide)) hJ h40 hG
set_option maxHeartbeats 4000000 in
set_option maxRecDepth 100000 in
theorem law_14 {p : Program} {l : Launch} {e : Env} {s : State} {m : MethodId} {below : List Frame} {meth : Method} {c : Code} {b L : Nat} {xs : Nat → Int32} (hL : L ≤ 2560) (C0 : lw_At p s m meth c b L xs) (hTl : ∀ w ∈ wsL_law, w.before #[Value.ref b] s = true) {Z : ZT} {Y : YT} (hX : LX s Z Y) {Q : State → Prop} (i : Nat) (hi : i + 5 ≤ L) (g : Nat → Nat → Int32) (gl : Nat → Nat → Int64) (tf : Nat → Nat → Int32) (h : Nat → Nat → Int32) (hl : Nat → Nat → Int64) (H : Heap) (locs : List Loc) (hPx : va_P (zD Z) vwCl (xw Z g gl tf) H) (hPy : va_P (yD Y) vwCl (mw Y h hl) H) (hS : va_S (fun q => s.heap.size ≤ q) s.heap H locs) (hRp : Rpg g h) (hRt : Rtr Z g tf h) (hRs : Rsn g h) (hRd : Rdk g h i) (hRk : Rkp Z g tf h) (hRx : Rtx Z g tf h) (hRq : Rsq g h) (hJ : MJ h) (h40 : (h 31 0).toInt ≤ 40) (hG : Gd Z tf) (ls : Array Slot) (hlv : lv_has ls 4 [(3, .int (nI i)), (2, .ref (ya Y 0)), (1, .ref (za Z 0)), (0, .ref b)]) (kk : ∀ (g : Nat → Nat → Int32) (gl : Nat → Nat → Int64) (tf : Nat → Nat → Int32) (h : Nat → Nat → Int32) (hl : Nat → Nat → Int64) (H : Heap) (locs : List Loc), (va_P (zD Z) vwCl (xw Z g gl tf) H) → (va_P (yD Y) vwCl (mw Y h hl) H) → (va_S (fun q => s.heap.size ≤ q) s.heap H locs) → (Rpg g h) → (Rtr Z g tf h) → (Rsn g h) → (Rdk g h (i + 5)) → (Rkp Z g tf h) → (Rtx Z g tf h) → (Rsq g h) → (MJ h) → ((h 31 0).toInt ≤ 40) → (Gd Z tf) → W p l e room_1 s m #[Value.ref b] below meth c H locs 155 6181 Q (F0 m 759 ls [])) : W p l e room_1 s m #[Value.ref b] below meth c H locs 155 6181 Q (F0 m 512 ls []) := by
  obtain ⟨hx, hb, hr, hml, hown, hts, hXs, hbl, hlocks, hgv⟩ := C0
  have hT := hTl
  have hbA : ¬ (fun q : Nat => s.heap.size ≤ q) b := Nat.not_le.mpr hbl
  have hsx := hX.2.2.2.1
  have hsy := hX.2.2.2.2.1
  have hKx := hX.2.2.2.2.2.1
  have hKy := hX.2.2.2.2.2.2.1
  refine lv_aload_n hx hb dL_law_512 rfl (lv_at hlv 2 rfl) ?_
  refine lv_aload_n hx hb dL_law_513 rfl (lv_at hlv 3 rfl) ?_
  refine lv_iload_n hx hb dL_law_514 rfl (lv_at hlv 0 rfl) ?_
  refine lv_iconst (v := 1) hx hb dL_law_515 (by decide) ?_
  refine lv_iadd hx hb dL_law_516 ?_
  refine lv_topi (fun v_516 e_516 => ?_)
  have t_516 : v_516 = nI (i + 1) := by rw [e_516]; exact nI_add i 1
  have h_517 : vp_in v_516 L := by rw [t_516]; exact vp_in_nI (by omega) (by omega)
  refine va_sld hx hb hXs hbl hbA hS h_517 dL_law_517 ?_
  refine lv_topi (fun a_517 ea_517 => ?_)
  refine lv_aload_n hx hb dL_law_518 rfl (lv_at hlv 3 rfl) ?_
  refine lv_iload_n hx hb dL_law_519 rfl (lv_at hlv 0 rfl) ?_
  refine lv_iconst (v := 2) hx hb dL_law_520 (by decide) ?_
  refine lv_iadd hx hb dL_law_521 ?_
  refine lv_topi (fun v_521 e_521 => ?_)
  have t_521 : v_521 = nI (i + 2) := by rw [e_521]; exact nI_add i 2
  have h_522 : vp_in v_521 L := by rw [t_521]; exact vp_in_nI (by omega) (by omega)
  refine va_sld hx hb hXs hbl hbA hS h_522 dL_law_522 ?_
  refine lv_topi (fun a_522 ea_522 => ?_)
  refine rd_ci (va_runV (As := [.int a_517, .int a_522]) (rest := []) ⟨hx, hb, hml, hown, hT⟩ (c_X6_crossing l Z hX.1 g gl tf a_517 a_522 (by rw [hRt.1]; omega) hG) (cwV 2 hT (tb_V (fun _ h => h) (tr_31 _ (List.mem_of_getElem? (i := 21) rfl)) (tr_31 _ (List.mem_of_getElem? (i := 22) rfl)) (tr_31 _ (List.mem_of_getElem? (i := 23) rfl)) (tr_1 _ (List.mem_of_getElem? (i := 2) rfl)) (tr_32 _ (List.mem_of_getElem? (i := 0) rfl))) rfl rfl rfl (by decide +kernel) ⟨Nat.le_of_ble_eq_true rfl, Nat.le_of_ble_eq_true rfl⟩) ⟨fun a U f mk q => ⟨q.1, XI.blind f mk a q.2⟩, va_recv hKx hPx (ci := 6) (q0 := 0) rfl xw_0, fun U hU hW => ⟨rfl, hX.xi hS hPx hU hW⟩⟩ rfl rfl hlv.1 rfl (lv_room (Nat.le_of_ble_eq_true rfl)) dL_law_523 ⟨Nat.le_of_ble_eq_true rfl, Nat.le_of_ble_eq_true rfl⟩) (fun r_523 hr_523 => ?_)
  refine lv_pop hx hb dL_law_526 rfl ?_
  refine lv_aload_n hx hb dL_law_527 rfl (lv_at hlv 1 rfl) ?_
  refine lv_aload_n hx hb dL_law_528 rfl (lv_at hlv 3 rfl) ?_
  refine lv_iload_n hx hb dL_law_529 rfl (lv_at hlv 0 rfl) ?_
  refine lv_iconst (v := 1) hx hb dL_law_530 (by decide) ?_
  refine lv_iadd hx hb dL_law_531 ?_
  refine lv_topi (fun v_531 e_531 => ?_)
  have t_531 : v_531 = nI (i + 1) := by rw [e_531]; exact nI_add i 1
  have h_532 : vp_in v_531 L := by rw [t_531]; exact vp_in_nI (by omega) (by omega)
  refine va_sld hx hb hXs hbl hbA hS h_532 dL_law_532 ?_
  refine lv_topi (fun a_532 ea_532 => ?_)
  refine lv_aload_n hx hb dL_law_533 rfl (lv_at hlv 3 rfl) ?_
  refine lv_iload_n hx hb dL_law_534 rfl (lv_at hlv 0 rfl) ?_
  refine lv_iconst (v := 2) hx hb dL_law_535 (by decide) ?_
  refine lv_iadd hx hb dL_law_536 ?_
  refine lv_topi (fun v_536 e_536 => ?_)
  have t_536 : v_536 = nI (i + 2) := by rw [e_536]; exact nI_add i 2
  have h_537 : vp_in v_536 L := by rw [t_536]; exact vp_in_nI (by omega) (by omega)
  refine va_sld hx hb hXs hbl hbA hS h_537 dL_law_537 ?_
  refine lv_topi (fun a_537 ea_537 => ?_)
  refine rd_ci (va_runV (As := [.int a_532, .int a_537]) (rest := []) ⟨hx, hb, hml, hown, hT⟩ (c_X7_crossing l Y hX.2.1 h hl a_532 a_537 hJ) (cwV 2 hT (tb_V (fun _ h => h) (tr_32 _ (List.mem_of_getElem? (i := 4) rfl)) (tr_32 _ (List.mem_of_getElem? (i := 5) rfl)) (tr_32 _ (List.mem_of_getElem? (i := 6) rfl)) (tr_1 _ (List.mem_of_getElem? (i := 5) rfl)) (tr_32 _ (List.mem_of_getElem? (i := 7) rfl))) rfl rfl rfl (by decide +kernel) ⟨Nat.le_of_ble_eq_true rfl, Nat.le_of_ble_eq_true rfl⟩) ⟨fun a U f mk q => ⟨q.1, MI.blind f mk a q.2⟩, va_recv hKy hPy (ci := 7) (q0 := 0) rfl mw_0, fun U hU hW => ⟨rfl, hX.mi hPy hU hW⟩⟩ rfl rfl hlv.1 rfl (lv_room (Nat.le_of_ble_eq_true rfl)) dL_law_538 ⟨Nat.le_of_ble_eq_true rfl, Nat.le_of_ble_eq_true rfl⟩) (fun r_538 hr_538 => ?_)
  refine lv_pop hx hb dL_law_541 rfl ?_
  refine lv_goto (tgt := 759) hx hb dL_law_542 (by decide) ?_
  have exy0 : a_532 = a_517 := by rw [ea_532, ea_517, t_531, t_516]
  subst exy0
  have exy1 : a_537 = a_522 := by rw [ea_537, ea_522, t_536, t_521]
  subst exy1
  have res := case_cross hRt hJ h40 hr_523 hr_538
  exact kk g gl tf h hl _ _ hPx hPy hS (hRp.fr (Fr.rf (S := [])) (Fr.rf (S := [])) (by decide) (by decide)) (hRt.fr (Fr.rf (S := [])) (Fr.rf (S := [])) (by decide) (by decide) (fun _ _ => rfl)) (hRs.fr (Fr.rf (S := [])) (Fr.rf (S := [])) (by decide) (by decide)) ((hRd.fr (Fr.rf (S := [])) (Fr.rf (S := [])) (by decide) (by decide)).le (by omega)) (hRk.fr (Fr.rf (S := [])) (Fr.rf (S := [])) (by decide) (by decide) (fun _ _ => rfl)) (hRx.fr hX.1 ⟨hJ.j31.1, h40⟩ hRt.1 (Fr.rf (S := [])) (Fr.rf (S := [])) (by decide) (by decide) (fun _ _ => rfl)) (hRq.fr (Fr.rf (S := [])) (Fr.rf (S := [])) (by decide) (by decide)) hJ h40 hG
set_option maxHeartbeats 4000000 in
set_option maxRecDepth 100000 in
theorem law_15 {p : Program} {l : Launch} {e : Env} {s : State} {m : MethodId} {below : List Frame} {meth : Method} {c : Code} {b L : Nat} {xs : Nat → Int32} (hL : L ≤ 2560) (C0 : lw_At p s m meth c b L xs) (hTl : ∀ w ∈ wsL_law, w.before #[Value.ref b] s = true) {Z : ZT} {Y : YT} (hX : LX s Z Y) {Q : State → Prop} (i : Nat) (hi : i + 5 ≤ L) (g : Nat → Nat → Int32) (gl : Nat → Nat → Int64) (tf : Nat → Nat → Int32) (h : Nat → Nat → Int32) (hl : Nat → Nat → Int64) (H : Heap) (locs : List Loc) (hPx : va_P (zD Z) vwCl (xw Z g gl tf) H) (hPy : va_P (yD Y) vwCl (mw Y h hl) H) (hS : va_S (fun q => s.heap.size ≤ q) s.heap H locs) (hRp : Rpg g h) (hRt : Rtr Z g tf h) (hRs : Rsn g h) (hRd : Rdk g h i) (hRk : Rkp Z g tf h) (hRx : Rtx Z g tf h) (hRq : Rsq g h) (hJ : MJ h) (h40 : (h 31 0).toInt ≤ 40) (hG : Gd Z tf) (ls : Array Slot) (hlv : lv_has ls 4 [(3, .int (nI i)), (2, .ref (ya Y 0)), (1, .ref (za Z 0)), (0, .ref b)]) (kk : ∀ (g : Nat → Nat → Int32) (gl : Nat → Nat → Int64) (tf : Nat → Nat → Int32) (h : Nat → Nat → Int32) (hl : Nat → Nat → Int64) (H : Heap) (locs : List Loc), (va_P (zD Z) vwCl (xw Z g gl tf) H) → (va_P (yD Y) vwCl (mw Y h hl) H) → (va_S (fun q => s.heap.size ≤ q) s.heap H locs) → (Rpg g h) → (Rtr Z g tf h) → (Rsn g h) → (Rdk g h (i + 5)) → (Rkp Z g tf h) → (Rtx Z g tf h) → (Rsq g h) → (MJ h) → ((h 31 0).toInt ≤ 40) → (Gd Z tf) → W p l e room_1 s m #[Value.ref b] below meth c H locs 155 6181 Q (F0 m 759 ls [])) : W p l e room_1 s m #[Value.ref b] below meth c H locs 155 6181 Q (F0 m 545 ls []) := by
  obtain ⟨hx, hb, hr, hml, hown, hts, hXs, hbl, hlocks, hgv⟩ := C0
  have hT := hTl
  have hbA : ¬ (fun q : Nat => s.heap.size ≤ q) b := Nat.not_le.mpr hbl
  have hsx := hX.2.2.2.1
  have hsy := hX.2.2.2.2.1
  have hKx := hX.2.2.2.2.2.1
  have hKy := hX.2.2.2.2.2.2.1
  refine lv_aload_n hx hb dL_law_545 rfl (lv_at hlv 2 rfl) ?_
  refine lv_aload_n hx hb dL_law_546 rfl (lv_at hlv 3 rfl) ?_
  refine lv_iload_n hx hb dL_law_547 rfl (lv_at hlv 0 rfl) ?_
  refine lv_iconst (v := 1) hx hb dL_law_548 (by decide) ?_
  refine lv_iadd hx hb dL_law_549 ?_
  refine lv_topi (fun v_549 e_549 => ?_)
  have t_549 : v_549 = nI (i + 1) := by rw [e_549]; exact nI_add i 1
  have h_550 : vp_in v_549 L := by rw [t_549]; exact vp_in_nI (by omega) (by omega)
  refine va_sld hx hb hXs hbl hbA hS h_550 dL_law_550 ?_
  refine lv_topi (fun a_550 ea_550 => ?_)
  refine lv_aload_n hx hb dL_law_551 rfl (lv_at hlv 3 rfl) ?_
  refine lv_iload_n hx hb dL_law_552 rfl (lv_at hlv 0 rfl) ?_
  refine lv_iconst (v := 2) hx hb dL_law_553 (by decide) ?_
  refine lv_iadd hx hb dL_law_554 ?_
  refine lv_topi (fun v_554 e_554 => ?_)
  have t_554 : v_554 = nI (i + 2) := by rw [e_554]; exact nI_add i 2
  have h_555 : vp_in v_554 L := by rw [t_554]; exact vp_in_nI (by omega) (by omega)
  refine va_sld hx hb hXs hbl hbA hS h_555 dL_law_555 ?_
  refine lv_topi (fun a_555 ea_555 => ?_)
  refine lv_aload_n hx hb dL_law_556 rfl (lv_at hlv 3 rfl) ?_
  refine lv_iload_n hx hb dL_law_557 rfl (lv_at hlv 0 rfl) ?_
  refine lv_iconst (v := 3) hx hb dL_law_558 (by decide) ?_
  refine lv_iadd hx hb dL_law_559 ?_
  refine lv_topi (fun v_559 e_559 => ?_)
  have t_559 : v_559 = nI (i + 3) := by rw [e_559]; exact nI_add i 3
  have h_560 : vp_in v_559 L := by rw [t_559]; exact vp_in_nI (by omega) (by omega)
  refine va_sld hx hb hXs hbl hbA hS h_560 dL_law_560 ?_
  refine lv_topi (fun a_560 ea_560 => ?_)
  refine lv_aload_n hx hb dL_law_561 rfl (lv_at hlv 3 rfl) ?_
  refine lv_iload_n hx hb dL_law_562 rfl (lv_at hlv 0 rfl) ?_
  refine lv_iconst (v := 4) hx hb dL_law_563 (by decide) ?_
  refine lv_iadd hx hb dL_law_564 ?_
  refine lv_topi (fun v_564 e_564 => ?_)
  have t_564 : v_564 = nI (i + 4) := by rw [e_564]; exact nI_add i 4
  have h_565 : vp_in v_564 L := by rw [t_564]; exact vp_in_nI (by omega) (by omega)
  refine va_sld hx hb hXs hbl hbA hS h_565 dL_law_565 ?_
  refine lv_topi (fun a_565 ea_565 => ?_)
  refine va_calli (va_runV (As := [.int a_550, .int a_555, .int a_560, .int a_565]) (rest := []) ⟨hx, hb, hml, hown, hT⟩ (c_X6_would l Z hX.1 g gl tf a_550 a_555 a_560 a_565 (by rw [hRt.1]; exact ⟨hJ.j31.1, h40⟩) hRx.1 hG) (cwV 4 hT (tb_V (fun _ h => h) (tr_32 _ (List.mem_of_getElem? (i := 12) rfl)) (tr_32 _ (List.mem_of_getElem? (i := 13) rfl)) (tr_32 _ (List.mem_of_getElem? (i := 14) rfl)) (tr_1 _ (List.mem_of_getElem? (i := 2) rfl)) (tr_32 _ (List.mem_of_getElem? (i := 15) rfl))) rfl rfl rfl (by decide +kernel) ⟨Nat.le_of_ble_eq_true rfl, Nat.le_of_ble_eq_true rfl⟩) ⟨fun a U f mk q => ⟨q.1, XI.blind f mk a q.2⟩, va_recv hKx hPx (ci := 6) (q0 := 0) rfl xw_0, fun U hU hW => ⟨rfl, hX.xi hS hPx hU hW⟩⟩ rfl rfl hlv.1 rfl (lv_room (Nat.le_of_ble_eq_true rfl)) dL_law_566 ⟨Nat.le_of_ble_eq_true rfl, Nat.le_of_ble_eq_true rfl⟩) hS (fun q _ h => hsx q h) hsx (fun r_566 u_566 t_566 H1 locs ht_566 _ hw_566 hB_566 _ hk_566 hS => ?_)
  obtain ⟨g1, gl1, tf1⟩ := u_566
  have hPy := hX.ky hPy hk_566
  have hPx : va_P (zD Z) vwCl (xw Z g1 gl1 tf1) H1 := ht_566 ▸ hB_566
  obtain ⟨hf, hG, eg, hp1⟩ := hw_566
  dsimp only at hf hG eg hp1
  subst eg
  generalize H1 = H at hPx hPy hS ⊢
  refine lv_pop hx hb dL_law_569 rfl ?_
  refine lv_aload_n hx hb dL_law_570 rfl (lv_at hlv 1 rfl) ?_
  refine lv_aload_n hx hb dL_law_571 rfl (lv_at hlv 3 rfl) ?_
  refine lv_iload_n hx hb dL_law_572 rfl (lv_at hlv 0 rfl) ?_
  refine lv_iconst (v := 1) hx hb dL_law_573 (by decide) ?_
  refine lv_iadd hx hb dL_law_574 ?_
  refine lv_topi (fun v_574 e_574 => ?_)
  have t_574 : v_574 = nI (i + 1) := by rw [e_574]; exact nI_add i 1
  have h_575 : vp_in v_574 L := by rw [t_574]; exact vp_in_nI (by omega) (by omega)
  refine va_sld hx hb hXs hbl hbA hS h_575 dL_law_575 ?_
  refine lv_topi (fun a_575 ea_575 => ?_)
  refine lv_aload_n hx hb dL_law_576 rfl (lv_at hlv 3 rfl) ?_
  refine lv_iload_n hx hb dL_law_577 rfl (lv_at hlv 0 rfl) ?_
  refine lv_iconst (v := 2) hx hb dL_law_578 (by decide) ?_
  refine lv_iadd hx hb dL_law_579 ?_
  refine lv_topi (fun v_579 e_579 => ?_)
  have t_579 : v_579 = nI (i + 2) := by rw [e_579]; exact nI_add i 2
  have h_580 : vp_in v_579 L := by rw [t_579]; exact vp_in_nI (by omega) (by omega)
  refine va_sld hx hb hXs hbl hbA hS h_580 dL_law_580 ?_
  refine lv_topi (fun a_580 ea_580 => ?_)
  refine lv_aload_n hx hb dL_law_581 rfl (lv_at hlv 3 rfl) ?_
  refine lv_iload_n hx hb dL_law_582 rfl (lv_at hlv 0 rfl) ?_
  refine lv_iconst (v := 3) hx hb dL_law_583 (by decide) ?_
  refine lv_iadd hx hb dL_law_584 ?_
  refine lv_topi (fun v_584 e_584 => ?_)
  have t_584 : v_584 = nI (i + 3) := by rw [e_584]; exact nI_add i 3
  have h_585 : vp_in v_584 L := by rw [t_584]; exact vp_in_nI (by omega) (by omega)
  refine va_sld hx hb hXs hbl hbA hS h_585 dL_law_585 ?_
  refine lv_topi (fun a_585 ea_585 => ?_)
  refine lv_aload_n hx hb dL_law_586 rfl (lv_at hlv 3 rfl) ?_
  refine lv_iload_n hx hb dL_law_587 rfl (lv_at hlv 0 rfl) ?_
  refine lv_iconst (v := 4) hx hb dL_law_588 (by decide) ?_
  refine lv_iadd hx hb dL_law_589 ?_
  refine lv_topi (fun v_589 e_589 => ?_)
  have t_589 : v_589 = nI (i + 4) := by rw [e_589]; exact nI_add i 4
  have h_590 : vp_in v_589 L := by rw [t_589]; exact vp_in_nI (by omega) (by omega)
  refine va_sld hx hb hXs hbl hbA hS h_590 dL_law_590 ?_
  refine lv_topi (fun a_590 ea_590 => ?_)
  refine va_calli (va_runV (As := [.int a_575, .int a_580, .int a_585, .int a_590]) (rest := []) ⟨hx, hb, hml, hown, hT⟩ (c_X7_would l Y hX.2.1 h hl a_575 a_580 a_585 a_590 h40 hJ) (cwV 4 hT (tb_V (fun _ h => h) (tr_32 _ (List.mem_of_getElem? (i := 16) rfl)) (tr_32 _ (List.mem_of_getElem? (i := 17) rfl)) (tr_32 _ (List.mem_of_getElem? (i := 18) rfl)) (tr_1 _ (List.mem_of_getElem? (i := 5) rfl)) (tr_32 _ (List.mem_of_getElem? (i := 19) rfl))) rfl rfl rfl (by decide +kernel) ⟨Nat.le_of_ble_eq_true rfl, Nat.le_of_ble_eq_true rfl⟩) ⟨fun a U f mk q => ⟨q.1, MI.blind f mk a q.2⟩, va_recv hKy hPy (ci := 7) (q0 := 0) rfl mw_0, fun U hU hW => ⟨rfl, hX.mi hPy hU hW⟩⟩ rfl rfl hlv.1 rfl (lv_room (Nat.le_of_ble_eq_true rfl)) dL_law_591 ⟨Nat.le_of_ble_eq_true rfl, Nat.le_of_ble_eq_true rfl⟩) hS (fun q _ h => hsy q h) hsy (fun r_591 u_591 t_591 H1 locs ht_591 _ hw_591 hB_591 _ hk_591 hS => ?_)
  obtain ⟨h1, hl1⟩ := u_591
  have hPx := hX.kx hPx hk_591
  have hPy : va_P (yD Y) vwCl (mw Y h1 hl1) H1 := ht_591 ▸ hB_591
  obtain ⟨hf2, hJ1, el2, hp2⟩ := hw_591
  dsimp only at hf2 hJ1 el2 hp2
  subst el2
  generalize H1 = H at hPx hPy hS ⊢
  refine lv_pop hx hb dL_law_594 rfl ?_
  refine lv_goto (tgt := 759) hx hb dL_law_595 (by decide) ?_
  have exy0 : a_575 = a_550 := by rw [ea_575, ea_550, t_574, t_549]
  subst exy0
  have exy1 : a_580 = a_555 := by rw [ea_580, ea_555, t_579, t_554]
  subst exy1
  have exy2 : a_585 = a_560 := by rw [ea_585, ea_560, t_584, t_559]
  subst exy2
  have exy3 : a_590 = a_565 := by rw [ea_590, ea_565, t_589, t_564]
  subst exy3
  obtain ⟨hRt1, hRx1, res⟩ := case_would hX.1 hRt hRd ⟨hJ.j31.1, h40⟩ hRx hf2 hp1 hp2.1
  have tt := hp1.2
  exact kk g gl1 tf1 h1 hl _ _ hPx hPy hS (hRp.fr (Fr.rf (S := [])) hf2 (by decide) (by decide)) hRt1 (hRs.fr (Fr.rf (S := [])) hf2 (by decide) (by decide)) ((hRd.fr (Fr.rf (S := [])) hf2 (by decide) (by decide)).le (by omega)) (hRk.fr (Fr.rf (S := [])) hf2 (by decide) (by decide) (fun t ht => tt _ (hX.1.ka ht))) hRx1 (hRq.fr (Fr.rf (S := [])) hf2 (by decide) (by decide)) hJ1 hp2.2 hG
set_option maxHeartbeats 4000000 in
set_option maxRecDepth 100000 in
theorem law_16 {p : Program} {l : Launch} {e : Env} {s : State} {m : MethodId} {below : List Frame} {meth : Method} {c : Code} {b L : Nat} {xs : Nat → Int32} (hL : L ≤ 2560) (C0 : lw_At p s m meth c b L xs) (hTl : ∀ w ∈ wsL_law, w.before #[Value.ref b] s = true) {Z : ZT} {Y : YT} (hX : LX s Z Y) {Q : State → Prop} (i : Nat) (hi : i + 5 ≤ L) (g : Nat → Nat → Int32) (gl : Nat → Nat → Int64) (tf : Nat → Nat → Int32) (h : Nat → Nat → Int32) (hl : Nat → Nat → Int64) (H : Heap) (locs : List Loc) (hPx : va_P (zD Z) vwCl (xw Z g gl tf) H) (hPy : va_P (yD Y) vwCl (mw Y h hl) H) (hS : va_S (fun q => s.heap.size ≤ q) s.heap H locs) (hRp : Rpg g h) (hRt : Rtr Z g tf h) (hRs : Rsn g h) (hRd : Rdk g h i) (hRk : Rkp Z g tf h) (hRx : Rtx Z g tf h) (hRq : Rsq g h) (hJ : MJ h) (h40 : (h 31 0).toInt ≤ 40) (hG : Gd Z tf) (ls : Array Slot) (hlv : lv_has ls 4 [(3, .int (nI i)), (2, .ref (ya Y 0)), (1, .ref (za Z 0)), (0, .ref b)]) (kk : ∀ (g : Nat → Nat → Int32) (gl : Nat → Nat → Int64) (tf : Nat → Nat → Int32) (h : Nat → Nat → Int32) (hl : Nat → Nat → Int64) (H : Heap) (locs : List Loc), (va_P (zD Z) vwCl (xw Z g gl tf) H) → (va_P (yD Y) vwCl (mw Y h hl) H) → (va_S (fun q => s.heap.size ≤ q) s.heap H locs) → (Rpg g h) → (Rtr Z g tf h) → (Rsn g h) → (Rdk g h (i + 5)) → (Rkp Z g tf h) → (Rtx Z g tf h) → (Rsq g h) → (MJ h) → ((h 31 0).toInt ≤ 40) → (Gd Z tf) → W p l e room_1 s m #[Value.ref b] below meth c H locs 155 6181 Q (F0 m 759 ls [])) : W p l e room_1 s m #[Value.ref b] below meth c H locs 155 6181 Q (F0 m 598 ls []) := by
  obtain ⟨hx, hb, hr, hml, hown, hts, hXs, hbl, hlocks, hgv⟩ := C0
  have hT := hTl
  have hbA : ¬ (fun q : Nat => s.heap.size ≤ q) b := Nat.not_le.mpr hbl
  have hsx := hX.2.2.2.1
  have hsy := hX.2.2.2.2.1
  have hKx := hX.2.2.2.2.2.1
  have hKy := hX.2.2.2.2.2.2.1
  refine lv_aload_n hx hb dL_law_598 rfl (lv_at hlv 2 rfl) ?_
  refine lv_aload_n hx hb dL_law_599 rfl (lv_at hlv 3 rfl) ?_
  refine lv_iload_n hx hb dL_law_600 rfl (lv_at hlv 0 rfl) ?_
  refine lv_iconst (v := 1) hx hb dL_law_601 (by decide) ?_
  refine lv_iadd hx hb dL_law_602 ?_
  refine lv_topi (fun v_602 e_602 => ?_)
  have t_602 : v_602 = nI (i + 1) := by rw [e_602]; exact nI_add i 1
  have h_603 : vp_in v_602 L := by rw [t_602]; exact vp_in_nI (by omega) (by omega)
  refine va_sld hx hb hXs hbl hbA hS h_603 dL_law_603 ?_
  refine lv_topi (fun a_603 ea_603 => ?_)
  refine lv_aload_n hx hb dL_law_604 rfl (lv_at hlv 3 rfl) ?_
  refine lv_iload_n hx hb dL_law_605 rfl (lv_at hlv 0 rfl) ?_
  refine lv_iconst (v := 2) hx hb dL_law_606 (by decide) ?_
  refine lv_iadd hx hb dL_law_607 ?_
  refine lv_topi (fun v_607 e_607 => ?_)
  have t_607 : v_607 = nI (i + 2) := by rw [e_607]; exact nI_add i 2
  have h_608 : vp_in v_607 L := by rw [t_607]; exact vp_in_nI (by omega) (by omega)
  refine va_sld hx hb hXs hbl hbA hS h_608 dL_law_608 ?_
  refine lv_topi (fun a_608 ea_608 => ?_)
  refine lv_aload_n hx hb dL_law_609 rfl (lv_at hlv 3 rfl) ?_
  refine lv_iload_n hx hb dL_law_610 rfl (lv_at hlv 0 rfl) ?_
  refine lv_iconst (v := 3) hx hb dL_law_611 (by decide) ?_
  refine lv_iadd hx hb dL_law_612 ?_
  refine lv_topi (fun v_612 e_612 => ?_)
  have t_612 : v_612 = nI (i + 3) := by rw [e_612]; exact nI_add i 3
  have h_613 : vp_in v_612 L := by rw [t_612]; exact vp_in_nI (by omega) (by omega)
  refine va_sld hx hb hXs hbl hbA hS h_613 dL_law_613 ?_
  refine lv_topi (fun a_613 ea_613 => ?_)
  refine va_calli (va_runV (As := [.int a_603, .int a_608, .int a_613]) (rest := []) ⟨hx, hb, hml, hown, hT⟩ (c_X6_see l Z hX.1 g gl tf a_603 a_608 a_613 hG) (cwV 3 hT (tb_V (fun _ h => h) (tr_32 _ (List.mem_of_getElem? (i := 20) rfl)) (tr_32 _ (List.mem_of_getElem? (i := 21) rfl)) (tr_32 _ (List.mem_of_getElem? (i := 22) rfl)) (tr_1 _ (List.mem_of_getElem? (i := 2) rfl)) (tr_32 _ (List.mem_of_getElem? (i := 23) rfl))) rfl rfl rfl (by decide +kernel) ⟨Nat.le_of_ble_eq_true rfl, Nat.le_of_ble_eq_true rfl⟩) ⟨fun a U f mk q => ⟨q.1, XI.blind f mk a q.2⟩, va_recv hKx hPx (ci := 6) (q0 := 0) rfl xw_0, fun U hU hW => ⟨rfl, hX.xi hS hPx hU hW⟩⟩ rfl rfl hlv.1 rfl (lv_room (Nat.le_of_ble_eq_true rfl)) dL_law_614 ⟨Nat.le_of_ble_eq_true rfl, Nat.le_of_ble_eq_true rfl⟩) hS (fun q _ h => hsx q h) hsx (fun r_614 u_614 t_614 H1 locs ht_614 _ hw_614 hB_614 _ hk_614 hS => ?_)
  obtain ⟨g1, gl1, tf1⟩ := u_614
  have hPy := hX.ky hPy hk_614
  have hPx : va_P (zD Z) vwCl (xw Z g1 gl1 tf1) H1 := ht_614 ▸ hB_614
  obtain ⟨hf, hG, et, hp1⟩ := hw_614
  dsimp only at hf hG et hp1
  subst et
  generalize H1 = H at hPx hPy hS ⊢
  refine lv_pop hx hb dL_law_617 rfl ?_
  refine lv_aload_n hx hb dL_law_618 rfl (lv_at hlv 1 rfl) ?_
  refine lv_aload_n hx hb dL_law_619 rfl (lv_at hlv 3 rfl) ?_
  refine lv_iload_n hx hb dL_law_620 rfl (lv_at hlv 0 rfl) ?_
  refine lv_iconst (v := 1) hx hb dL_law_621 (by decide) ?_
  refine lv_iadd hx hb dL_law_622 ?_
  refine lv_topi (fun v_622 e_622 => ?_)
  have t_622 : v_622 = nI (i + 1) := by rw [e_622]; exact nI_add i 1
  have h_623 : vp_in v_622 L := by rw [t_622]; exact vp_in_nI (by omega) (by omega)
  refine va_sld hx hb hXs hbl hbA hS h_623 dL_law_623 ?_
  refine lv_topi (fun a_623 ea_623 => ?_)
  refine lv_aload_n hx hb dL_law_624 rfl (lv_at hlv 3 rfl) ?_
  refine lv_iload_n hx hb dL_law_625 rfl (lv_at hlv 0 rfl) ?_
  refine lv_iconst (v := 2) hx hb dL_law_626 (by decide) ?_
  refine lv_iadd hx hb dL_law_627 ?_
  refine lv_topi (fun v_627 e_627 => ?_)
  have t_627 : v_627 = nI (i + 2) := by rw [e_627]; exact nI_add i 2
  have h_628 : vp_in v_627 L := by rw [t_627]; exact vp_in_nI (by omega) (by omega)
  refine va_sld hx hb hXs hbl hbA hS h_628 dL_law_628 ?_
  refine lv_topi (fun a_628 ea_628 => ?_)
  refine lv_aload_n hx hb dL_law_629 rfl (lv_at hlv 3 rfl) ?_
  refine lv_iload_n hx hb dL_law_630 rfl (lv_at hlv 0 rfl) ?_
  refine lv_iconst (v := 3) hx hb dL_law_631 (by decide) ?_
  refine lv_iadd hx hb dL_law_632 ?_
  refine lv_topi (fun v_632 e_632 => ?_)
  have t_632 : v_632 = nI (i + 3) := by rw [e_632]; exact nI_add i 3
  have h_633 : vp_in v_632 L := by rw [t_632]; exact vp_in_nI (by omega) (by omega)
  refine va_sld hx hb hXs hbl hbA hS h_633 dL_law_633 ?_
  refine lv_topi (fun a_633 ea_633 => ?_)
  refine va_calli (va_runV (As := [.int a_623, .int a_628, .int a_633]) (rest := []) ⟨hx, hb, hml, hown, hT⟩ (c_X7_see l Y hX.2.1 h hl a_623 a_628 a_633 hJ) (cwV 3 hT (tb_V (fun _ h => h) (tr_33 _ (List.mem_of_getElem? (i := 4) rfl)) (tr_33 _ (List.mem_of_getElem? (i := 5) rfl)) (tr_33 _ (List.mem_of_getElem? (i := 6) rfl)) (tr_1 _ (List.mem_of_getElem? (i := 5) rfl)) (tr_33 _ (List.mem_of_getElem? (i := 7) rfl))) rfl rfl rfl (by decide +kernel) ⟨Nat.le_of_ble_eq_true rfl, Nat.le_of_ble_eq_true rfl⟩) ⟨fun a U f mk q => ⟨q.1, MI.blind f mk a q.2⟩, va_recv hKy hPy (ci := 7) (q0 := 0) rfl mw_0, fun U hU hW => ⟨rfl, hX.mi hPy hU hW⟩⟩ rfl rfl hlv.1 rfl (lv_room (Nat.le_of_ble_eq_true rfl)) dL_law_634 ⟨Nat.le_of_ble_eq_true rfl, Nat.le_of_ble_eq_true rfl⟩) hS (fun q _ h => hsy q h) hsy (fun r_634 u_634 t_634 H1 locs ht_634 _ hw_634 hB_634 _ hk_634 hS => ?_)
  obtain ⟨h1, hl1⟩ := u_634
  have hPx := hX.kx hPx hk_634
  have hPy : va_P (yD Y) vwCl (mw Y h1 hl1) H1 := ht_634 ▸ hB_634
  obtain ⟨hf2, hJ1, el2, hp2⟩ := hw_634
  dsimp only at hf2 hJ1 el2 hp2
  subst el2
  generalize H1 = H at hPx hPy hS ⊢
  refine lv_pop hx hb dL_law_637 rfl ?_
  refine lv_goto (tgt := 759) hx hb dL_law_638 (by decide) ?_
  have exy0 : a_623 = a_603 := by rw [ea_623, ea_603, t_622, t_602]
  subst exy0
  have exy1 : a_628 = a_608 := by rw [ea_628, ea_608, t_627, t_607]
  subst exy1
  have exy2 : a_633 = a_613 := by rw [ea_633, ea_613, t_632, t_612]
  subst exy2
  obtain ⟨hRs1, hRq1, res⟩ := case_see hRt hRs hJ.j38 hRq hp1 hp2
  exact kk g1 gl1 tf h1 hl _ _ hPx hPy hS (hRp.fr hf hf2 (by decide) (by decide)) (hRt.fr hf hf2 (by decide) (by decide) (fun _ _ => rfl)) hRs1 ((hRd.fr hf hf2 (by decide) (by decide)).le (by omega)) (hRk.fr hf hf2 (by decide) (by decide) (fun _ _ => rfl)) (hRx.fr hX.1 ⟨hJ.j31.1, h40⟩ hRt.1 hf hf2 (by decide) (by decide) (fun _ _ => rfl)) hRq1 hJ1 (by rw [congrFun (hf2 31 (by decide)) 0]; exact h40) hG
set_option maxHeartbeats 4000000 in
set_option maxRecDepth 100000 in
theorem law_17 {p : Program} {l : Launch} {e : Env} {s : State} {m : MethodId} {below : List Frame} {meth : Method} {c : Code} {b L : Nat} {xs : Nat → Int32} (hL : L ≤ 2560) (C0 : lw_At p s m meth c b L xs) (hTl : ∀ w ∈ wsL_law, w.before #[Value.ref b] s = true) {Z : ZT} {Y : YT} (hX : LX s Z Y) {Q : State → Prop} (i : Nat) (hi : i + 5 ≤ L) (g : Nat → Nat → Int32) (gl : Nat → Nat → Int64) (tf : Nat → Nat → Int32) (h : Nat → Nat → Int32) (hl : Nat → Nat → Int64) (H : Heap) (locs : List Loc) (hPx : va_P (zD Z) vwCl (xw Z g gl tf) H) (hPy : va_P (yD Y) vwCl (mw Y h hl) H) (hS : va_S (fun q => s.heap.size ≤ q) s.heap H locs) (hRp : Rpg g h) (hRt : Rtr Z g tf h) (hRs : Rsn g h) (hRd : Rdk g h i) (hRk : Rkp Z g tf h) (hRx : Rtx Z g tf h) (hRq : Rsq g h) (hJ : MJ h) (h40 : (h 31 0).toInt ≤ 40) (hG : Gd Z tf) (ls : Array Slot) (hlv : lv_has ls 4 [(3, .int (nI i)), (2, .ref (ya Y 0)), (1, .ref (za Z 0)), (0, .ref b)]) (kk : ∀ (g : Nat → Nat → Int32) (gl : Nat → Nat → Int64) (tf : Nat → Nat → Int32) (h : Nat → Nat → Int32) (hl : Nat → Nat → Int64) (H : Heap) (locs : List Loc), (va_P (zD Z) vwCl (xw Z g gl tf) H) → (va_P (yD Y) vwCl (mw Y h hl) H) → (va_S (fun q => s.heap.size ≤ q) s.heap H locs) → (Rpg g h) → (Rtr Z g tf h) → (Rsn g h) → (Rdk g h (i + 5)) → (Rkp Z g tf h) → (Rtx Z g tf h) → (Rsq g h) → (MJ h) → ((h 31 0).toInt ≤ 40) → (Gd Z tf) → W p l e room_1 s m #[Value.ref b] below meth c H locs 155 6181 Q (F0 m 759 ls [])) : W p l e room_1 s m #[Value.ref b] below meth c H locs 155 6181 Q (F0 m 641 ls []) := by
  obtain ⟨hx, hb, hr, hml, hown, hts, hXs, hbl, hlocks, hgv⟩ := C0
  have hT := hTl
  have hbA : ¬ (fun q : Nat => s.heap.size ≤ q) b := Nat.not_le.mpr hbl
  have hsx := hX.2.2.2.1
  have hsy := hX.2.2.2.2.1
  have hKx := hX.2.2.2.2.2.1
  have hKy := hX.2.2.2.2.2.2.1
  refine lv_aload_n hx hb dL_law_641 rfl (lv_at hlv 2 rfl) ?_
  refine va_calli (va_runV (As := []) (rest := []) ⟨hx, hb, hml, hown, hT⟩ (c_X6_forget l Z hX.1 g gl tf hG) (cwV 0 hT (tb_V (fun _ h => h) (tr_33 _ (List.mem_of_getElem? (i := 8) rfl)) (tr_33 _ (List.mem_of_getElem? (i := 9) rfl)) (tr_33 _ (List.mem_of_getElem? (i := 10) rfl)) (tr_1 _ (List.mem_of_getElem? (i := 2) rfl)) (tr_33 _ (List.mem_of_getElem? (i := 11) rfl))) rfl rfl rfl (by decide +kernel) ⟨Nat.le_of_ble_eq_true rfl, Nat.le_of_ble_eq_true rfl⟩) ⟨fun a U f mk q => ⟨q.1, XI.blind f mk a q.2⟩, va_recv hKx hPx (ci := 6) (q0 := 0) rfl xw_0, fun U hU hW => ⟨rfl, hX.xi hS hPx hU hW⟩⟩ rfl rfl hlv.1 rfl (lv_room (Nat.le_of_ble_eq_true rfl)) dL_law_642 ⟨Nat.le_of_ble_eq_true rfl, Nat.le_of_ble_eq_true rfl⟩) hS (fun q _ h => hsx q h) hsx (fun r_642 u_642 t_642 H1 locs ht_642 _ hw_642 hB_642 _ hk_642 hS => ?_)
  obtain ⟨g1, gl1, tf1⟩ := u_642
  have hPy := hX.ky hPy hk_642
  have hPx : va_P (zD Z) vwCl (xw Z g1 gl1 tf1) H1 := ht_642 ▸ hB_642
  obtain ⟨hf, hG, et, eg, hp1⟩ := hw_642
  dsimp only at hf hG et eg hp1
  subst et
  subst eg
  generalize H1 = H at hPx hPy hS ⊢
  refine lv_pop hx hb dL_law_645 rfl ?_
  refine lv_aload_n hx hb dL_law_646 rfl (lv_at hlv 1 rfl) ?_
  refine va_calli (va_runV (As := []) (rest := []) ⟨hx, hb, hml, hown, hT⟩ (c_X7_forget l Y hX.2.1 h hl hJ) (cwV 0 hT (tb_V (fun _ h => h) (tr_33 _ (List.mem_of_getElem? (i := 12) rfl)) (tr_33 _ (List.mem_of_getElem? (i := 13) rfl)) (tr_33 _ (List.mem_of_getElem? (i := 14) rfl)) (tr_1 _ (List.mem_of_getElem? (i := 5) rfl)) (tr_33 _ (List.mem_of_getElem? (i := 15) rfl))) rfl rfl rfl (by decide +kernel) ⟨Nat.le_of_ble_eq_true rfl, Nat.le_of_ble_eq_true rfl⟩) ⟨fun a U f mk q => ⟨q.1, MI.blind f mk a q.2⟩, va_recv hKy hPy (ci := 7) (q0 := 0) rfl mw_0, fun U hU hW => ⟨rfl, hX.mi hPy hU hW⟩⟩ rfl rfl hlv.1 rfl (lv_room (Nat.le_of_ble_eq_true rfl)) dL_law_647 ⟨Nat.le_of_ble_eq_true rfl, Nat.le_of_ble_eq_true rfl⟩) hS (fun q _ h => hsy q h) hsy (fun r_647 u_647 t_647 H1 locs ht_647 _ hw_647 hB_647 _ hk_647 hS => ?_)
  obtain ⟨h1, hl1⟩ := u_647
  have hPx := hX.kx hPx hk_647
  have hPy : va_P (yD Y) vwCl (mw Y h1 hl1) H1 := ht_647 ▸ hB_647
  obtain ⟨hf2, hJ1, el2, hp2⟩ := hw_647
  dsimp only at hf2 hJ1 el2 hp2
  subst el2
  generalize H1 = H at hPx hPy hS ⊢
  refine lv_pop hx hb dL_law_650 rfl ?_
  refine lv_goto (tgt := 759) hx hb dL_law_651 (by decide) ?_
  have res : r_642 = r_647 := hp1.trans (hRs.1.trans hp2.1.symm)
  exact kk (up2 g 11 4 0) gl1 tf h1 hl _ _ hPx hPy hS (hRp.fr hf hf2 (by decide) (by decide)) (hRt.fr hf hf2 (by decide) (by decide) (fun _ _ => rfl)) ⟨by rw [hp2.2]; rfl, fun i hi => by rw [hp2.2] at hi; exact absurd hi (by show ¬ (i : Int) < (0 : Int32).toInt; rw [tk_0]; omega)⟩ ((hRd.fr hf hf2 (by decide) (by decide)).le (by omega)) (hRk.fr hf hf2 (by decide) (by decide) (fun _ _ => rfl)) (hRx.fr hX.1 ⟨hJ.j31.1, h40⟩ hRt.1 hf hf2 (by decide) (by decide) (fun _ _ => rfl)) ⟨fun i hi => by rw [hp2.2] at hi; exact absurd hi (by show ¬ (i : Int) < (0 : Int32).toInt; rw [tk_0]; omega), by rw [hp2.2]; exact hRq.2⟩ hJ1 (by rw [congrFun (hf2 31 (by decide)) 0]; exact h40) hG
set_option maxHeartbeats 4000000 in
set_option maxRecDepth 100000 in
theorem law_18 {p : Program} {l : Launch} {e : Env} {s : State} {m : MethodId} {below : List Frame} {meth : Method} {c : Code} {b L : Nat} {xs : Nat → Int32} (hL : L ≤ 2560) (C0 : lw_At p s m meth c b L xs) (hTl : ∀ w ∈ wsL_law, w.before #[Value.ref b] s = true) {Z : ZT} {Y : YT} (hX : LX s Z Y) {Q : State → Prop} (i : Nat) (hi : i + 5 ≤ L) (g : Nat → Nat → Int32) (gl : Nat → Nat → Int64) (tf : Nat → Nat → Int32) (h : Nat → Nat → Int32) (hl : Nat → Nat → Int64) (H : Heap) (locs : List Loc) (hPx : va_P (zD Z) vwCl (xw Z g gl tf) H) (hPy : va_P (yD Y) vwCl (mw Y h hl) H) (hS : va_S (fun q => s.heap.size ≤ q) s.heap H locs) (hRp : Rpg g h) (hRt : Rtr Z g tf h) (hRs : Rsn g h) (hRd : Rdk g h i) (hRk : Rkp Z g tf h) (hRx : Rtx Z g tf h) (hRq : Rsq g h) (hJ : MJ h) (h40 : (h 31 0).toInt ≤ 40) (hG : Gd Z tf) (ls : Array Slot) (hlv : lv_has ls 4 [(3, .int (nI i)), (2, .ref (ya Y 0)), (1, .ref (za Z 0)), (0, .ref b)]) (kk : ∀ (g : Nat → Nat → Int32) (gl : Nat → Nat → Int64) (tf : Nat → Nat → Int32) (h : Nat → Nat → Int32) (hl : Nat → Nat → Int64) (H : Heap) (locs : List Loc), (va_P (zD Z) vwCl (xw Z g gl tf) H) → (va_P (yD Y) vwCl (mw Y h hl) H) → (va_S (fun q => s.heap.size ≤ q) s.heap H locs) → (Rpg g h) → (Rtr Z g tf h) → (Rsn g h) → (Rdk g h (i + 5)) → (Rkp Z g tf h) → (Rtx Z g tf h) → (Rsq g h) → (MJ h) → ((h 31 0).toInt ≤ 40) → (Gd Z tf) → W p l e room_1 s m #[Value.ref b] below meth c H locs 155 6181 Q (F0 m 759 ls [])) : W p l e room_1 s m #[Value.ref b] below meth c H locs 155 6181 Q (F0 m 654 ls []) := by
  obtain ⟨hx, hb, hr, hml, hown, hts, hXs, hbl, hlocks, hgv⟩ := C0
  have hT := hTl
  have hbA : ¬ (fun q : Nat => s.heap.size ≤ q) b := Nat.not_le.mpr hbl
  have hsx := hX.2.2.2.1
  have hsy := hX.2.2.2.2.1
  have hKx := hX.2.2.2.2.2.1
  have hKy := hX.2.2.2.2.2.2.1
  refine lv_aload_n hx hb dL_law_654 rfl (lv_at hlv 2 rfl) ?_
  refine lv_aload_n hx hb dL_law_655 rfl (lv_at hlv 3 rfl) ?_
  refine lv_iload_n hx hb dL_law_656 rfl (lv_at hlv 0 rfl) ?_
  refine lv_iconst (v := 1) hx hb dL_law_657 (by decide) ?_
  refine lv_iadd hx hb dL_law_658 ?_
  refine lv_topi (fun v_658 e_658 => ?_)
  have t_658 : v_658 = nI (i + 1) := by rw [e_658]; exact nI_add i 1
  have h_659 : vp_in v_658 L := by rw [t_658]; exact vp_in_nI (by omega) (by omega)
  refine va_sld hx hb hXs hbl hbA hS h_659 dL_law_659 ?_
  refine lv_topi (fun a_659 ea_659 => ?_)
  refine lv_aload_n hx hb dL_law_660 rfl (lv_at hlv 3 rfl) ?_
  refine lv_iload_n hx hb dL_law_661 rfl (lv_at hlv 0 rfl) ?_
  refine lv_iconst (v := 2) hx hb dL_law_662 (by decide) ?_
  refine lv_iadd hx hb dL_law_663 ?_
  refine lv_topi (fun v_663 e_663 => ?_)
  have t_663 : v_663 = nI (i + 2) := by rw [e_663]; exact nI_add i 2
  have h_664 : vp_in v_663 L := by rw [t_663]; exact vp_in_nI (by omega) (by omega)
  refine va_sld hx hb hXs hbl hbA hS h_664 dL_law_664 ?_
  refine lv_topi (fun a_664 ea_664 => ?_)
  refine lv_aload_n hx hb dL_law_665 rfl (lv_at hlv 3 rfl) ?_
  refine lv_iload_n hx hb dL_law_666 rfl (lv_at hlv 0 rfl) ?_
  refine lv_iconst (v := 3) hx hb dL_law_667 (by decide) ?_
  refine lv_iadd hx hb dL_law_668 ?_
  refine lv_topi (fun v_668 e_668 => ?_)
  have t_668 : v_668 = nI (i + 3) := by rw [e_668]; exact nI_add i 3
  have h_669 : vp_in v_668 L := by rw [t_668]; exact vp_in_nI (by omega) (by omega)
  refine va_sld hx hb hXs hbl hbA hS h_669 dL_law_669 ?_
  refine lv_topi (fun a_669 ea_669 => ?_)
  refine va_calli (va_runV (As := [.int a_659, .int a_664, .int a_669]) (rest := []) ⟨hx, hb, hml, hown, hT⟩ (c_X6_drawn l Z hX.1 g gl tf a_659 a_664 a_669 (by rw [hRt.1]; exact ⟨hJ.j31.1, h40⟩) hRx.1 hG) (cwV 3 hT (tb_V (fun _ h => h) (tr_33 _ (List.mem_of_getElem? (i := 16) rfl)) (tr_33 _ (List.mem_of_getElem? (i := 17) rfl)) (tr_33 _ (List.mem_of_getElem? (i := 18) rfl)) (tr_1 _ (List.mem_of_getElem? (i := 2) rfl)) (tr_33 _ (List.mem_of_getElem? (i := 19) rfl))) rfl rfl rfl (by decide +kernel) ⟨Nat.le_of_ble_eq_true rfl, Nat.le_of_ble_eq_true rfl⟩) ⟨fun a U f mk q => ⟨q.1, XI.blind f mk a q.2⟩, va_recv hKx hPx (ci := 6) (q0 := 0) rfl xw_0, fun U hU hW => ⟨rfl, hX.xi hS hPx hU hW⟩⟩ rfl rfl hlv.1 rfl (lv_room (Nat.le_of_ble_eq_true rfl)) dL_law_670 ⟨Nat.le_of_ble_eq_true rfl, Nat.le_of_ble_eq_true rfl⟩) hS (fun q _ h => hsx q h) hsx (fun r_670 u_670 t_670 H1 locs ht_670 _ hw_670 hB_670 _ hk_670 hS => ?_)
  obtain ⟨g1, gl1, tf1⟩ := u_670
  have hPy := hX.ky hPy hk_670
  have hPx : va_P (zD Z) vwCl (xw Z g1 gl1 tf1) H1 := ht_670 ▸ hB_670
  obtain ⟨hf, hG, hp1⟩ := hw_670
  dsimp only at hf hG hp1
  generalize H1 = H at hPx hPy hS ⊢
  refine lv_pop hx hb dL_law_673 rfl ?_
  refine lv_aload_n hx hb dL_law_674 rfl (lv_at hlv 1 rfl) ?_
  refine lv_aload_n hx hb dL_law_675 rfl (lv_at hlv 3 rfl) ?_
  refine lv_iload_n hx hb dL_law_676 rfl (lv_at hlv 0 rfl) ?_
  refine lv_iconst (v := 1) hx hb dL_law_677 (by decide) ?_
  refine lv_iadd hx hb dL_law_678 ?_
  refine lv_topi (fun v_678 e_678 => ?_)
  have t_678 : v_678 = nI (i + 1) := by rw [e_678]; exact nI_add i 1
  have h_679 : vp_in v_678 L := by rw [t_678]; exact vp_in_nI (by omega) (by omega)
  refine va_sld hx hb hXs hbl hbA hS h_679 dL_law_679 ?_
  refine lv_topi (fun a_679 ea_679 => ?_)
  refine lv_aload_n hx hb dL_law_680 rfl (lv_at hlv 3 rfl) ?_
  refine lv_iload_n hx hb dL_law_681 rfl (lv_at hlv 0 rfl) ?_
  refine lv_iconst (v := 2) hx hb dL_law_682 (by decide) ?_
  refine lv_iadd hx hb dL_law_683 ?_
  refine lv_topi (fun v_683 e_683 => ?_)
  have t_683 : v_683 = nI (i + 2) := by rw [e_683]; exact nI_add i 2
  have h_684 : vp_in v_683 L := by rw [t_683]; exact vp_in_nI (by omega) (by omega)
  refine va_sld hx hb hXs hbl hbA hS h_684 dL_law_684 ?_
  refine lv_topi (fun a_684 ea_684 => ?_)
  refine lv_aload_n hx hb dL_law_685 rfl (lv_at hlv 3 rfl) ?_
  refine lv_iload_n hx hb dL_law_686 rfl (lv_at hlv 0 rfl) ?_
  refine lv_iconst (v := 3) hx hb dL_law_687 (by decide) ?_
  refine lv_iadd hx hb dL_law_688 ?_
  refine lv_topi (fun v_688 e_688 => ?_)
  have t_688 : v_688 = nI (i + 3) := by rw [e_688]; exact nI_add i 3
  have h_689 : vp_in v_688 L := by rw [t_688]; exact vp_in_nI (by omega) (by omega)
  refine va_sld hx hb hXs hbl hbA hS h_689 dL_law_689 ?_
  refine lv_topi (fun a_689 ea_689 => ?_)
  refine va_calli (va_runV (As := [.int a_679, .int a_684, .int a_689]) (rest := []) ⟨hx, hb, hml, hown, hT⟩ (c_X7_drawn l Y hX.2.1 h hl a_679 a_684 a_689 h40 hRx.2.2 hJ) (cwV 3 hT (tb_V (fun _ h => h) (tr_34 _ (List.mem_of_getElem? (i := 10) rfl)) (tr_34 _ (List.mem_of_getElem? (i := 11) rfl)) (tr_34 _ (List.mem_of_getElem? (i := 12) rfl)) (tr_1 _ (List.mem_of_getElem? (i := 5) rfl)) (tr_34 _ (List.mem_of_getElem? (i := 13) rfl))) rfl rfl rfl (by decide +kernel) ⟨Nat.le_of_ble_eq_true rfl, Nat.le_of_ble_eq_true rfl⟩) ⟨fun a U f mk q => ⟨q.1, MI.blind f mk a q.2⟩, va_recv hKy hPy (ci := 7) (q0 := 0) rfl mw_0, fun U hU hW => ⟨rfl, hX.mi hPy hU hW⟩⟩ rfl rfl hlv.1 rfl (lv_room (Nat.le_of_ble_eq_true rfl)) dL_law_690 ⟨Nat.le_of_ble_eq_true rfl, Nat.le_of_ble_eq_true rfl⟩) hS (fun q _ h => hsy q h) hsy (fun r_690 u_690 t_690 H1 locs ht_690 _ hw_690 hB_690 _ hk_690 hS => ?_)
  obtain ⟨h1, hl1⟩ := u_690
  have hPx := hX.kx hPx hk_690
  have hPy : va_P (yD Y) vwCl (mw Y h1 hl1) H1 := ht_690 ▸ hB_690
  obtain ⟨hf2, hJ1, hp2⟩ := hw_690
  dsimp only at hf2 hJ1 hp2
  generalize H1 = H at hPx hPy hS ⊢
  refine lv_pop hx hb dL_law_693 rfl ?_
  refine lv_goto (tgt := 759) hx hb dL_law_694 (by decide) ?_
  have exy0 : a_679 = a_659 := by rw [ea_679, ea_659, t_678, t_658]
  subst exy0
  have exy1 : a_684 = a_664 := by rw [ea_684, ea_664, t_683, t_663]
  subst exy1
  have exy2 : a_689 = a_669 := by rw [ea_689, ea_669, t_688, t_668]
  subst exy2
  obtain ⟨hRt1, hRx1, tko, res⟩ := case_drawn hX.1 hRt hRd ⟨hJ.j31.1, h40⟩ hRx hf2 hp1 hp2.1
  exact kk g1 gl1 tf1 h1 hl1 _ _ hPx hPy hS (hRp.fr hf hf2 (by decide) (by decide)) hRt1 (hRs.fr hf hf2 (by decide) (by decide)) ((hRd.fr hf hf2 (by decide) (by decide)).le (by omega)) (hRk.fr hf hf2 (by decide) (by decide) tko) hRx1 (hRq.fr hf hf2 (by decide) (by decide)) hJ1 hp2.2 hG
set_option maxHeartbeats 4000000 in
set_option maxRecDepth 100000 in
theorem law_19 {p : Program} {l : Launch} {e : Env} {s : State} {m : MethodId} {below : List Frame} {meth : Method} {c : Code} {b L : Nat} {xs : Nat → Int32} (hL : L ≤ 2560) (C0 : lw_At p s m meth c b L xs) (hTl : ∀ w ∈ wsL_law, w.before #[Value.ref b] s = true) {Z : ZT} {Y : YT} (hX : LX s Z Y) {Q : State → Prop} (i : Nat) (hi : i + 5 ≤ L) (g : Nat → Nat → Int32) (gl : Nat → Nat → Int64) (tf : Nat → Nat → Int32) (h : Nat → Nat → Int32) (hl : Nat → Nat → Int64) (H : Heap) (locs : List Loc) (hPx : va_P (zD Z) vwCl (xw Z g gl tf) H) (hPy : va_P (yD Y) vwCl (mw Y h hl) H) (hS : va_S (fun q => s.heap.size ≤ q) s.heap H locs) (hRp : Rpg g h) (hRt : Rtr Z g tf h) (hRs : Rsn g h) (hRd : Rdk g h i) (hRk : Rkp Z g tf h) (hRx : Rtx Z g tf h) (hRq : Rsq g h) (hJ : MJ h) (h40 : (h 31 0).toInt ≤ 40) (hG : Gd Z tf) (ls : Array Slot) (hlv : lv_has ls 4 [(3, .int (nI i)), (2, .ref (ya Y 0)), (1, .ref (za Z 0)), (0, .ref b)]) (kk : ∀ (g : Nat → Nat → Int32) (gl : Nat → Nat → Int64) (tf : Nat → Nat → Int32) (h : Nat → Nat → Int32) (hl : Nat → Nat → Int64) (H : Heap) (locs : List Loc), (va_P (zD Z) vwCl (xw Z g gl tf) H) → (va_P (yD Y) vwCl (mw Y h hl) H) → (va_S (fun q => s.heap.size ≤ q) s.heap H locs) → (Rpg g h) → (Rtr Z g tf h) → (Rsn g h) → (Rdk g h (i + 5)) → (Rkp Z g tf h) → (Rtx Z g tf h) → (Rsq g h) → (MJ h) → ((h 31 0).toInt ≤ 40) → (Gd Z tf) → W p l e room_1 s m #[Value.ref b] below meth c H locs 155 6181 Q (F0 m 759 ls [])) : W p l e room_1 s m #[Value.ref b] below meth c H locs 155 6181 Q (F0 m 697 ls []) := by
  obtain ⟨hx, hb, hr, hml, hown, hts, hXs, hbl, hlocks, hgv⟩ := C0
  have hT := hTl
  have hbA : ¬ (fun q : Nat => s.heap.size ≤ q) b := Nat.not_le.mpr hbl
  have hsx := hX.2.2.2.1
  have hsy := hX.2.2.2.2.1
  have hKx := hX.2.2.2.2.2.1
  have hKy := hX.2.2.2.2.2.2.1
  refine lv_aload_n hx hb dL_law_697 rfl (lv_at hlv 2 rfl) ?_
  refine va_calli (va_runV (As := []) (rest := []) ⟨hx, hb, hml, hown, hT⟩ (c_X6_image l Z hX.1 g gl tf (by rw [hRt.1]; exact ⟨hJ.j31.1, h40⟩) (by rw [hRs.1]; exact hJ.j38) hG) (cwV 0 hT (tb_V (fun _ h => h) (tr_35 _ (List.mem_of_getElem? (i := 6) rfl)) (tr_35 _ (List.mem_of_getElem? (i := 7) rfl)) (tr_35 _ (List.mem_of_getElem? (i := 8) rfl)) (tr_1 _ (List.mem_of_getElem? (i := 2) rfl)) (tr_35 _ (List.mem_of_getElem? (i := 9) rfl))) rfl rfl rfl (by decide +kernel) ⟨Nat.le_of_ble_eq_true rfl, Nat.le_of_ble_eq_true rfl⟩) ⟨fun a U f mk q => ⟨q.1, XI.blind f mk a q.2⟩, va_recv hKx hPx (ci := 6) (q0 := 0) rfl xw_0, fun U hU hW => ⟨rfl, hX.xi hS hPx hU hW⟩⟩ rfl rfl hlv.1 rfl (lv_room (Nat.le_of_ble_eq_true rfl)) dL_law_698 ⟨Nat.le_of_ble_eq_true rfl, Nat.le_of_ble_eq_true rfl⟩) hS (fun q _ h => hsx q h) hsx (fun r_698 u_698 t_698 H1 locs ht_698 _ hw_698 hB_698 _ hk_698 hS => ?_)
  obtain ⟨g1, gl1, tf1⟩ := u_698
  have hPy := hX.ky hPy hk_698
  have hPx : va_P (zD Z) vwCl (xw Z g1 gl1 tf1) H1 := ht_698 ▸ hB_698
  obtain ⟨hf, hG, hp1⟩ := hw_698
  dsimp only at hf hG hp1
  generalize H1 = H at hPx hPy hS ⊢
  refine lv_pop hx hb dL_law_701 rfl ?_
  refine lv_aload_n hx hb dL_law_702 rfl (lv_at hlv 1 rfl) ?_
  refine va_calli (va_runV (As := []) (rest := []) ⟨hx, hb, hml, hown, hT⟩ (c_X7_image l Y hX.2.1 h hl h40 hJ) (cwV 0 hT (tb_V (fun _ h => h) (tr_35 _ (List.mem_of_getElem? (i := 20) rfl)) (tr_35 _ (List.mem_of_getElem? (i := 21) rfl)) (tr_35 _ (List.mem_of_getElem? (i := 22) rfl)) (tr_1 _ (List.mem_of_getElem? (i := 5) rfl)) (tr_35 _ (List.mem_of_getElem? (i := 23) rfl))) rfl rfl rfl (by decide +kernel) ⟨Nat.le_of_ble_eq_true rfl, Nat.le_of_ble_eq_true rfl⟩) ⟨fun a U f mk q => ⟨q.1, MI.blind f mk a q.2⟩, va_recv hKy hPy (ci := 7) (q0 := 0) rfl mw_0, fun U hU hW => ⟨rfl, hX.mi hPy hU hW⟩⟩ rfl rfl hlv.1 rfl (lv_room (Nat.le_of_ble_eq_true rfl)) dL_law_703 ⟨Nat.le_of_ble_eq_true rfl, Nat.le_of_ble_eq_true rfl⟩) hS (fun q _ h => hsy q h) hsy (fun r_703 u_703 t_703 H1 locs ht_703 _ hw_703 hB_703 _ hk_703 hS => ?_)
  obtain ⟨h1, hl1⟩ := u_703
  have hPx := hX.kx hPx hk_703
  have hPy : va_P (yD Y) vwCl (mw Y h1 hl1) H1 := ht_703 ▸ hB_703
  obtain ⟨hf2, hJ1, el2, hp2⟩ := hw_703
  dsimp only at hf2 hJ1 el2 hp2
  subst el2
  generalize H1 = H at hPx hPy hS ⊢
  refine lv_pop hx hb dL_law_706 rfl ?_
  refine lv_goto (tgt := 759) hx hb dL_law_707 (by decide) ?_
  obtain ⟨hRt1, hRd1, hRk1, hRx1, hRq1, res⟩ := case_image hX.1 hRt hRs hRd hRk hJ h40 hRx hRq hf hf2 hp1 hp2
  exact kk g1 gl1 tf1 h1 hl _ _ hPx hPy hS (hRp.fr hf hf2 (by decide) (by decide)) hRt1 (hRs.fr hf hf2 (by decide) (by decide)) (hRd1.le (by omega)) hRk1 hRx1 hRq1 hJ1 (by rw [congrFun (hf2 31 (by decide)) 0]; exact h40) hG
set_option maxHeartbeats 4000000 in
set_option maxRecDepth 100000 in
theorem law_20 {p : Program} {l : Launch} {e : Env} {s : State} {m : MethodId} {below : List Frame} {meth : Method} {c : Code} {b L : Nat} {xs : Nat → Int32} (hL : L ≤ 2560) (C0 : lw_At p s m meth c b L xs) (hTl : ∀ w ∈ wsL_law, w.before #[Value.ref b] s = true) {Z : ZT} {Y : YT} (hX : LX s Z Y) {Q : State → Prop} (i : Nat) (hi : i + 5 ≤ L) (g : Nat → Nat → Int32) (gl : Nat → Nat → Int64) (tf : Nat → Nat → Int32) (h : Nat → Nat → Int32) (hl : Nat → Nat → Int64) (H : Heap) (locs : List Loc) (hPx : va_P (zD Z) vwCl (xw Z g gl tf) H) (hPy : va_P (yD Y) vwCl (mw Y h hl) H) (hS : va_S (fun q => s.heap.size ≤ q) s.heap H locs) (hRp : Rpg g h) (hRt : Rtr Z g tf h) (hRs : Rsn g h) (hRd : Rdk g h i) (hRk : Rkp Z g tf h) (hRx : Rtx Z g tf h) (hRq : Rsq g h) (hJ : MJ h) (h40 : (h 31 0).toInt ≤ 40) (hG : Gd Z tf) (ls : Array Slot) (hlv : lv_has ls 4 [(3, .int (nI i)), (2, .ref (ya Y 0)), (1, .ref (za Z 0)), (0, .ref b)]) (kk : ∀ (g : Nat → Nat → Int32) (gl : Nat → Nat → Int64) (tf : Nat → Nat → Int32) (h : Nat → Nat → Int32) (hl : Nat → Nat → Int64) (H : Heap) (locs : List Loc), (va_P (zD Z) vwCl (xw Z g gl tf) H) → (va_P (yD Y) vwCl (mw Y h hl) H) → (va_S (fun q => s.heap.size ≤ q) s.heap H locs) → (Rpg g h) → (Rtr Z g tf h) → (Rsn g h) → (Rdk g h (i + 5)) → (Rkp Z g tf h) → (Rtx Z g tf h) → (Rsq g h) → (MJ h) → ((h 31 0).toInt ≤ 40) → (Gd Z tf) → W p l e room_1 s m #[Value.ref b] below meth c H locs 155 6181 Q (F0 m 759 ls [])) : W p l e room_1 s m #[Value.ref b] below meth c H locs 155 6181 Q (F0 m 710 ls []) := by
  obtain ⟨hx, hb, hr, hml, hown, hts, hXs, hbl, hlocks, hgv⟩ := C0
  have hT := hTl
  have hbA : ¬ (fun q : Nat => s.heap.size ≤ q) b := Nat.not_le.mpr hbl
  have hsx := hX.2.2.2.1
  have hsy := hX.2.2.2.2.1
  have hKx := hX.2.2.2.2.2.1
  have hKy := hX.2.2.2.2.2.2.1
  refine lv_aload_n hx hb dL_law_710 rfl (lv_at hlv 2 rfl) ?_
  refine va_calli (va_runV (As := []) (rest := []) ⟨hx, hb, hml, hown, hT⟩ (c_X6_restore l Z hX.1 g gl tf hRk.1 hRk.2.1 hG) (cwV 0 hT (tb_V (fun _ h => h) (tr_36 _ (List.mem_of_getElem? (i := 4) rfl)) (tr_36 _ (List.mem_of_getElem? (i := 5) rfl)) (tr_36 _ (List.mem_of_getElem? (i := 6) rfl)) (tr_1 _ (List.mem_of_getElem? (i := 2) rfl)) (tr_36 _ (List.mem_of_getElem? (i := 7) rfl))) rfl rfl rfl (by decide +kernel) ⟨Nat.le_of_ble_eq_true rfl, Nat.le_of_ble_eq_true rfl⟩) ⟨fun a U f mk q => ⟨q.1, XI.blind f mk a q.2⟩, va_recv hKx hPx (ci := 6) (q0 := 0) rfl xw_0, fun U hU hW => ⟨rfl, hX.xi hS hPx hU hW⟩⟩ rfl rfl hlv.1 rfl (lv_room (Nat.le_of_ble_eq_true rfl)) dL_law_711 ⟨Nat.le_of_ble_eq_true rfl, Nat.le_of_ble_eq_true rfl⟩) hS (fun q _ h => hsx q h) hsx (fun r_711 u_711 t_711 H1 locs ht_711 _ hw_711 hB_711 _ hk_711 hS => ?_)
  obtain ⟨g1, gl1, tf1⟩ := u_711
  have hPy := hX.ky hPy hk_711
  have hPx : va_P (zD Z) vwCl (xw Z g1 gl1 tf1) H1 := ht_711 ▸ hB_711
  obtain ⟨hf, hG, hp1⟩ := hw_711
  dsimp only at hf hG hp1
  generalize H1 = H at hPx hPy hS ⊢
  refine lv_pop hx hb dL_law_714 rfl ?_
  refine lv_aload_n hx hb dL_law_715 rfl (lv_at hlv 1 rfl) ?_
  refine va_calli (va_runV (As := []) (rest := []) ⟨hx, hb, hml, hown, hT⟩ (c_X7_restore l Y hX.2.1 h hl h40 hJ) (cwV 0 hT (tb_V (fun _ h => h) (tr_36 _ (List.mem_of_getElem? (i := 8) rfl)) (tr_36 _ (List.mem_of_getElem? (i := 9) rfl)) (tr_36 _ (List.mem_of_getElem? (i := 10) rfl)) (tr_1 _ (List.mem_of_getElem? (i := 5) rfl)) (tr_36 _ (List.mem_of_getElem? (i := 11) rfl))) rfl rfl rfl (by decide +kernel) ⟨Nat.le_of_ble_eq_true rfl, Nat.le_of_ble_eq_true rfl⟩) ⟨fun a U f mk q => ⟨q.1, MI.blind f mk a q.2⟩, va_recv hKy hPy (ci := 7) (q0 := 0) rfl mw_0, fun U hU hW => ⟨rfl, hX.mi hPy hU hW⟩⟩ rfl rfl hlv.1 rfl (lv_room (Nat.le_of_ble_eq_true rfl)) dL_law_716 ⟨Nat.le_of_ble_eq_true rfl, Nat.le_of_ble_eq_true rfl⟩) hS (fun q _ h => hsy q h) hsy (fun r_716 u_716 t_716 H1 locs ht_716 _ hw_716 hB_716 _ hk_716 hS => ?_)
  obtain ⟨h1, hl1⟩ := u_716
  have hPx := hX.kx hPx hk_716
  have hPy : va_P (yD Y) vwCl (mw Y h1 hl1) H1 := ht_716 ▸ hB_716
  obtain ⟨hf2, hJ1, el2, hp2⟩ := hw_716
  dsimp only at hf2 hJ1 el2 hp2
  subst el2
  generalize H1 = H at hPx hPy hS ⊢
  refine lv_pop hx hb dL_law_719 rfl ?_
  refine lv_goto (tgt := 759) hx hb dL_law_720 (by decide) ?_
  obtain ⟨hRt1, hRs1, hRk1, hRx1, hRq1, res⟩ := case_restore hX.1 hRt hRs hRd hRk hJ hRx hRq hf hf2 hp1 hp2.1
  exact kk g1 gl1 tf1 h1 hl _ _ hPx hPy hS (hRp.fr hf hf2 (by decide) (by decide)) hRt1 hRs1 ((hRd.fr hf hf2 (by decide) (by decide)).le (by omega)) hRk1 hRx1 hRq1 hJ1 hp2.2 hG
set_option maxHeartbeats 4000000 in
set_option maxRecDepth 100000 in
theorem law_21 {p : Program} {l : Launch} {e : Env} {s : State} {m : MethodId} {below : List Frame} {meth : Method} {c : Code} {b L : Nat} {xs : Nat → Int32} (hL : L ≤ 2560) (C0 : lw_At p s m meth c b L xs) (hTl : ∀ w ∈ wsL_law, w.before #[Value.ref b] s = true) {Z : ZT} {Y : YT} (hX : LX s Z Y) {Q : State → Prop} (i : Nat) (hi : i + 5 ≤ L) (g : Nat → Nat → Int32) (gl : Nat → Nat → Int64) (tf : Nat → Nat → Int32) (h : Nat → Nat → Int32) (hl : Nat → Nat → Int64) (H : Heap) (locs : List Loc) (hPx : va_P (zD Z) vwCl (xw Z g gl tf) H) (hPy : va_P (yD Y) vwCl (mw Y h hl) H) (hS : va_S (fun q => s.heap.size ≤ q) s.heap H locs) (hRp : Rpg g h) (hRt : Rtr Z g tf h) (hRs : Rsn g h) (hRd : Rdk g h i) (hRk : Rkp Z g tf h) (hRx : Rtx Z g tf h) (hRq : Rsq g h) (hJ : MJ h) (h40 : (h 31 0).toInt ≤ 40) (hG : Gd Z tf) (ls : Array Slot) (hlv : lv_has ls 4 [(3, .int (nI i)), (2, .ref (ya Y 0)), (1, .ref (za Z 0)), (0, .ref b)]) (kk : ∀ (g : Nat → Nat → Int32) (gl : Nat → Nat → Int64) (tf : Nat → Nat → Int32) (h : Nat → Nat → Int32) (hl : Nat → Nat → Int64) (H : Heap) (locs : List Loc), (va_P (zD Z) vwCl (xw Z g gl tf) H) → (va_P (yD Y) vwCl (mw Y h hl) H) → (va_S (fun q => s.heap.size ≤ q) s.heap H locs) → (Rpg g h) → (Rtr Z g tf h) → (Rsn g h) → (Rdk g h (i + 5)) → (Rkp Z g tf h) → (Rtx Z g tf h) → (Rsq g h) → (MJ h) → ((h 31 0).toInt ≤ 40) → (Gd Z tf) → W p l e room_1 s m #[Value.ref b] below meth c H locs 155 6181 Q (F0 m 759 ls [])) : W p l e room_1 s m #[Value.ref b] below meth c H locs 155 6181 Q (F0 m 723 ls []) := by
  obtain ⟨hx, hb, hr, hml, hown, hts, hXs, hbl, hlocks, hgv⟩ := C0
  have hT := hTl
  have hbA : ¬ (fun q : Nat => s.heap.size ≤ q) b := Nat.not_le.mpr hbl
  have hsx := hX.2.2.2.1
  have hsy := hX.2.2.2.2.1
  have hKx := hX.2.2.2.2.2.1
  have hKy := hX.2.2.2.2.2.2.1
  refine lv_aload_n hx hb dL_law_723 rfl (lv_at hlv 2 rfl) ?_
  refine lv_aload_n hx hb dL_law_724 rfl (lv_at hlv 3 rfl) ?_
  refine lv_iload_n hx hb dL_law_725 rfl (lv_at hlv 0 rfl) ?_
  refine lv_iconst (v := 1) hx hb dL_law_726 (by decide) ?_
  refine lv_iadd hx hb dL_law_727 ?_
  refine lv_topi (fun v_727 e_727 => ?_)
  have t_727 : v_727 = nI (i + 1) := by rw [e_727]; exact nI_add i 1
  have h_728 : vp_in v_727 L := by rw [t_727]; exact vp_in_nI (by omega) (by omega)
  refine va_sld hx hb hXs hbl hbA hS h_728 dL_law_728 ?_
  refine lv_topi (fun a_728 ea_728 => ?_)
  refine rd_ci (va_runV (As := [.int a_728]) (rest := []) ⟨hx, hb, hml, hown, hT⟩ (c_X6_count l Z hX.1 g gl tf a_728 (by rw [hRt.1]; exact ⟨hJ.j31.1, h40⟩) hG) (cwV 1 hT (tb_V (fun _ h => h) (tr_36 _ (List.mem_of_getElem? (i := 12) rfl)) (tr_36 _ (List.mem_of_getElem? (i := 13) rfl)) (tr_36 _ (List.mem_of_getElem? (i := 14) rfl)) (tr_1 _ (List.mem_of_getElem? (i := 2) rfl)) (tr_36 _ (List.mem_of_getElem? (i := 15) rfl))) rfl rfl rfl (by decide +kernel) ⟨Nat.le_of_ble_eq_true rfl, Nat.le_of_ble_eq_true rfl⟩) ⟨fun a U f mk q => ⟨q.1, XI.blind f mk a q.2⟩, va_recv hKx hPx (ci := 6) (q0 := 0) rfl xw_0, fun U hU hW => ⟨rfl, hX.xi hS hPx hU hW⟩⟩ rfl rfl hlv.1 rfl (lv_room (Nat.le_of_ble_eq_true rfl)) dL_law_729 ⟨Nat.le_of_ble_eq_true rfl, Nat.le_of_ble_eq_true rfl⟩) (fun r_729 hr_729 => ?_)
  refine lv_aload_n hx hb dL_law_732 rfl (lv_at hlv 1 rfl) ?_
  refine lv_aload_n hx hb dL_law_733 rfl (lv_at hlv 3 rfl) ?_
  refine lv_iload_n hx hb dL_law_734 rfl (lv_at hlv 0 rfl) ?_
  refine lv_iconst (v := 1) hx hb dL_law_735 (by decide) ?_
  refine lv_iadd hx hb dL_law_736 ?_
  refine lv_topi (fun v_736 e_736 => ?_)
  have t_736 : v_736 = nI (i + 1) := by rw [e_736]; exact nI_add i 1
  have h_737 : vp_in v_736 L := by rw [t_736]; exact vp_in_nI (by omega) (by omega)
  refine va_sld hx hb hXs hbl hbA hS h_737 dL_law_737 ?_
  refine lv_topi (fun a_737 ea_737 => ?_)
  refine rd_ci (va_runV (As := [.int a_737]) (rest := [.int r_729]) ⟨hx, hb, hml, hown, hT⟩ (c_X7_count l Y hX.2.1 h hl a_737 hJ) (cwV 1 hT (tb_V (fun _ h => h) (tr_37 _ (List.mem_of_getElem? (i := 0) rfl)) (tr_37 _ (List.mem_of_getElem? (i := 1) rfl)) (tr_37 _ (List.mem_of_getElem? (i := 2) rfl)) (tr_1 _ (List.mem_of_getElem? (i := 5) rfl)) (tr_37 _ (List.mem_of_getElem? (i := 3) rfl))) rfl rfl rfl (by decide +kernel) ⟨Nat.le_of_ble_eq_true rfl, Nat.le_of_ble_eq_true rfl⟩) ⟨fun a U f mk q => ⟨q.1, MI.blind f mk a q.2⟩, va_recv hKy hPy (ci := 7) (q0 := 0) rfl mw_0, fun U hU hW => ⟨rfl, hX.mi hPy hU hW⟩⟩ rfl rfl hlv.1 rfl (lv_room (Nat.le_of_ble_eq_true rfl)) dL_law_738 ⟨Nat.le_of_ble_eq_true rfl, Nat.le_of_ble_eq_true rfl⟩) (fun r_738 hr_738 => ?_)
  have exy0 : a_737 = a_728 := by rw [ea_737, ea_728, t_736, t_727]
  subst exy0
  have res := case_count hRp hRt hRs hRd hRx hJ h40 hr_729 hr_738
  refine lv_icmp_eq (tgt := 759) hx hb dL_law_741 (by decide) (fun c_9 => ?_) (fun c_9 => absurd res c_9)
  exact kk g gl tf h hl _ _ hPx hPy hS (hRp.fr (Fr.rf (S := [])) (Fr.rf (S := [])) (by decide) (by decide)) (hRt.fr (Fr.rf (S := [])) (Fr.rf (S := [])) (by decide) (by decide) (fun _ _ => rfl)) (hRs.fr (Fr.rf (S := [])) (Fr.rf (S := [])) (by decide) (by decide)) ((hRd.fr (Fr.rf (S := [])) (Fr.rf (S := [])) (by decide) (by decide)).le (by omega)) (hRk.fr (Fr.rf (S := [])) (Fr.rf (S := [])) (by decide) (by decide) (fun _ _ => rfl)) (hRx.fr hX.1 ⟨hJ.j31.1, h40⟩ hRt.1 (Fr.rf (S := [])) (Fr.rf (S := [])) (by decide) (by decide) (fun _ _ => rfl)) (hRq.fr (Fr.rf (S := [])) (Fr.rf (S := [])) (by decide) (by decide)) hJ h40 hG
set_option maxHeartbeats 4000000 in
set_option maxRecDepth 100000 in
theorem law_22 {p : Program} {l : Launch} {e : Env} {s : State} {m : MethodId} {below : List Frame} {meth : Method} {c : Code} {b L : Nat} {xs : Nat → Int32} (hL : L ≤ 2560) (C0 : lw_At p s m meth c b L xs) (hTl : ∀ w ∈ wsL_law, w.before #[Value.ref b] s = true) {Z : ZT} {Y : YT} (hX : LX s Z Y) {Q : State → Prop} (i : Nat) (hi : i + 5 ≤ L) (g : Nat → Nat → Int32) (gl : Nat → Nat → Int64) (tf : Nat → Nat → Int32) (h : Nat → Nat → Int32) (hl : Nat → Nat → Int64) (H : Heap) (locs : List Loc) (hPx : va_P (zD Z) vwCl (xw Z g gl tf) H) (hPy : va_P (yD Y) vwCl (mw Y h hl) H) (hS : va_S (fun q => s.heap.size ≤ q) s.heap H locs) (hRp : Rpg g h) (hRt : Rtr Z g tf h) (hRs : Rsn g h) (hRd : Rdk g h i) (hRk : Rkp Z g tf h) (hRx : Rtx Z g tf h) (hRq : Rsq g h) (hJ : MJ h) (h40 : (h 31 0).toInt ≤ 40) (hG : Gd Z tf) (ls : Array Slot) (hlv : lv_has ls 4 [(3, .int (nI i)), (2, .ref (ya Y 0)), (1, .ref (za Z 0)), (0, .ref b)]) (kk : ∀ (g : Nat → Nat → Int32) (gl : Nat → Nat → Int64) (tf : Nat → Nat → Int32) (h : Nat → Nat → Int32) (hl : Nat → Nat → Int64) (H : Heap) (locs : List Loc), (va_P (zD Z) vwCl (xw Z g gl tf) H) → (va_P (yD Y) vwCl (mw Y h hl) H) → (va_S (fun q => s.heap.size ≤ q) s.heap H locs) → (Rpg g h) → (Rtr Z g tf h) → (Rsn g h) → (Rdk g h (i + 5)) → (Rkp Z g tf h) → (Rtx Z g tf h) → (Rsq g h) → (MJ h) → ((h 31 0).toInt ≤ 40) → (Gd Z tf) → W p l e room_1 s m #[Value.ref b] below meth c H locs 155 6181 Q (F0 m 759 ls [])) : W p l e room_1 s m #[Value.ref b] below meth c H locs 155 6181 Q (F0 m 746 ls []) := by
  obtain ⟨hx, hb, hr, hml, hown, hts, hXs, hbl, hlocks, hgv⟩ := C0
  have hT := hTl
  have hbA : ¬ (fun q : Nat => s.heap.size ≤ q) b := Nat.not_le.mpr hbl
  have hsx := hX.2.2.2.1
  have hsy := hX.2.2.2.2.1
  have hKx := hX.2.2.2.2.2.1
  have hKy := hX.2.2.2.2.2.2.1
  refine lv_aload_n hx hb dL_law_746 rfl (lv_at hlv 2 rfl) ?_
  refine va_calll (va_runV (As := []) (rest := []) ⟨hx, hb, hml, hown, hT⟩ (c_X6_digest l Z hX.1 g gl tf (by rw [hRp.1]; exact hJ.j10) (by rw [hRp.2]; exact hJ.j42) (by rw [hRt.1]; exact ⟨hJ.j31.1, h40⟩) hRx.1 (by rw [hRs.1]; exact hJ.j38) (fun i hi => by rw [hRs.1] at hi; rw [(hRs.2 i hi).2.1]; exact hRq.1 i hi) hG) (cwV 0 hT (tb_V (fun _ h => h) (tr_37 _ (List.mem_of_getElem? (i := 16) rfl)) (tr_37 _ (List.mem_of_getElem? (i := 17) rfl)) (tr_37 _ (List.mem_of_getElem? (i := 18) rfl)) (tr_1 _ (List.mem_of_getElem? (i := 2) rfl)) (tr_37 _ (List.mem_of_getElem? (i := 19) rfl))) rfl rfl rfl (by decide +kernel) ⟨Nat.le_of_ble_eq_true rfl, Nat.le_of_ble_eq_true rfl⟩) ⟨fun a U f mk q => ⟨q.1, XI.blind f mk a q.2⟩, va_recv hKx hPx (ci := 6) (q0 := 0) rfl xw_0, fun U hU hW => ⟨rfl, hX.xi hS hPx hU hW⟩⟩ rfl rfl hlv.1 rfl (lv_room (Nat.le_of_ble_eq_true rfl)) dL_law_747 ⟨Nat.le_of_ble_eq_true rfl, Nat.le_of_ble_eq_true rfl⟩) hS (fun q _ h => hsx q h) hsx (fun r_747 u_747 t_747 H1 locs ht_747 _ hw_747 hB_747 _ hk_747 hS => ?_)
  obtain ⟨g1, gl1, tf1⟩ := u_747
  have hPy := hX.ky hPy hk_747
  have hPx : va_P (zD Z) vwCl (xw Z g1 gl1 tf1) H1 := ht_747 ▸ hB_747
  obtain ⟨hf, hG, et, hp1⟩ := hw_747
  dsimp only at hf hG et hp1
  subst et
  generalize H1 = H at hPx hPy hS ⊢
  refine lv_pop2_2 hx hb dL_law_750 rfl ?_
  refine lv_aload_n hx hb dL_law_751 rfl (lv_at hlv 1 rfl) ?_
  refine va_calll (va_runV (As := []) (rest := []) ⟨hx, hb, hml, hown, hT⟩ (c_X7_digest l Y hX.2.1 h hl hJ) (cwV 0 hT (tb_V (fun _ h => h) (tr_38 _ (List.mem_of_getElem? (i := 11) rfl)) (tr_38 _ (List.mem_of_getElem? (i := 12) rfl)) (tr_38 _ (List.mem_of_getElem? (i := 13) rfl)) (tr_1 _ (List.mem_of_getElem? (i := 5) rfl)) (tr_38 _ (List.mem_of_getElem? (i := 14) rfl))) rfl rfl rfl (by decide +kernel) ⟨Nat.le_of_ble_eq_true rfl, Nat.le_of_ble_eq_true rfl⟩) ⟨fun a U f mk q => ⟨q.1, MI.blind f mk a q.2⟩, va_recv hKy hPy (ci := 7) (q0 := 0) rfl mw_0, fun U hU hW => ⟨rfl, hX.mi hPy hU hW⟩⟩ rfl rfl hlv.1 rfl (lv_room (Nat.le_of_ble_eq_true rfl)) dL_law_752 ⟨Nat.le_of_ble_eq_true rfl, Nat.le_of_ble_eq_true rfl⟩) hS (fun q _ h => hsy q h) hsy (fun r_752 u_752 t_752 H1 locs ht_752 _ hw_752 hB_752 _ hk_752 hS => ?_)
  obtain ⟨h1, hl1⟩ := u_752
  have hPx := hX.kx hPx hk_752
  have hPy : va_P (yD Y) vwCl (mw Y h1 hl1) H1 := ht_752 ▸ hB_752
  obtain ⟨hf2, hJ1, eg2, hp2⟩ := hw_752
  dsimp only at hf2 hJ1 eg2 hp2
  subst eg2
  generalize H1 = H at hPx hPy hS ⊢
  refine lv_pop2_2 hx hb dL_law_755 rfl ?_
  refine lv_goto (tgt := 759) hx hb dL_law_756 (by decide) ?_
  have res := case_digest hRp hRt hRs hRd hRx hJ h40 hp1 hp2
  exact kk g1 gl1 tf h hl1 _ _ hPx hPy hS (hRp.fr hf hf2 (by decide) (by decide)) (hRt.fr hf hf2 (by decide) (by decide) (fun _ _ => rfl)) (hRs.fr hf hf2 (by decide) (by decide)) ((hRd.fr hf hf2 (by decide) (by decide)).le (by omega)) (hRk.fr hf hf2 (by decide) (by decide) (fun _ _ => rfl)) (hRx.fr hX.1 ⟨hJ.j31.1, h40⟩ hRt.1 hf hf2 (by decide) (by decide) (fun _ _ => rfl)) (hRq.fr hf hf2 (by decide) (by decide)) hJ1 (by rw [congrFun (hf2 31 (by decide)) 0]; exact h40) hG
