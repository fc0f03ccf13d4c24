set_option maxHeartbeats 4000000 in
set_option maxRecDepth 100000 in
theorem law_loop {p : Program} {l : Launch} {e : Env} {s : State} {m : MethodId} {below : List Frame} {meth : Method} {c : Code} {b L : Nat} {xs : Nat → Int32} (hL : L ≤ 2560) (C0 : lw_At p s m meth c b L xs) (hTl : ∀ w ∈ wsL_law, w.before #[Value.ref b] s = true) {Z : ZT} {Y : YT} (hX : LX s Z Y) {Q : State → Prop} (hend : ∀ (H : Heap) (locs : List Loc) (ls : Array Slot), va_S (fun q => s.heap.size ≤ q) s.heap H locs → W p l e room_1 s m #[Value.ref b] below meth c H locs 155 6181 Q (F0 m 765 ls [])) : ∀ (n i : Nat) (g : Nat → Nat → Int32) (gl : Nat → Nat → Int64) (tf : Nat → Nat → Int32) (h : Nat → Nat → Int32) (hl : Nat → Nat → Int64) (H : Heap) (locs : List Loc) (hPx : va_P (zD Z) vwCl (xw Z g gl tf) H) (hPy : va_P (yD Y) vwCl (mw Y h hl) H) (hS : va_S (fun q => s.heap.size ≤ q) s.heap H locs) (hRp : Rpg g h) (hRt : Rtr Z g tf h) (hRs : Rsn g h) (hRd : Rdk g h i) (hRk : Rkp Z g tf h) (hRx : Rtx Z g tf h) (hRq : Rsq g h) (hJ : MJ h) (h40 : (h 31 0).toInt ≤ 40) (hG : Gd Z tf) (hi : i ≤ L) (hn : L - i < n) (ls : Array Slot) (hlv : lv_has ls 4 [(3, .int (nI i)), (2, .ref (ya Y 0)), (1, .ref (za Z 0)), (0, .ref b)]), W p l e room_1 s m #[Value.ref b] below meth c H locs 155 6181 Q (F0 m 18 ls []) := by
  intro n
  induction n with
  | zero => intro i g gl tf h hl H locs hPx hPy hS hRp hRt hRs hRd hRk hRx hRq hJ h40 hG hi hn; exact absurd hn (Nat.not_lt_zero _)
  | succ n ih =>
    intro i g gl tf h hl H locs hPx hPy hS hRp hRt hRs hRd hRk hRx hRq hJ h40 hG hi hn ls hlv
    obtain ⟨hx, hb, hr, hml, hown, hts, hXs, hbl, hlocks, hgv⟩ := id C0
    have hbA : ¬ (fun q : Nat => s.heap.size ≤ q) b := Nat.not_le.mpr hbl
    refine lv_iload_n hx hb dL_law_18 rfl (lv_at hlv 0 rfl) ?_
    refine lv_aload_n hx hb dL_law_19 rfl (lv_at hlv 3 rfl) ?_
    refine va_slen hx hb hXs hbl hbA hS dL_law_20 ?_
    refine lv_iconst (v := 5) hx hb dL_law_21 (by decide) ?_
    refine lv_isub hx hb dL_law_22 ?_
    refine lv_topi (fun v_22 e_22 => ?_)
    have t_22 := ti_subk (nI_toInt (n := L) (by omega)) tk_5 (by omega) (by omega) e_22
    refine lv_icmp_gt (tgt := 765) hx hb dL_law_23 (by decide) (fun c_23 => ?_) (fun c_23 => ?_)
    · exact hend H locs ls hS
    · have i_23 := ti_nltk rfl (nI_toInt (n := i) (by omega)) c_23
      have hi5 : i + 5 ≤ L := by omega
      have kk : ∀ (g : Nat → Nat → Int32) (gl : Nat → Nat → Int64) (tf : Nat → Nat → Int32) (h : Nat → Nat → Int32) (hl : Nat → Nat → Int64) (H : Heap) (locs : List Loc), (va_P (zD Z) vwCl (xw Z g gl tf) H) → (va_P (yD Y) vwCl (mw Y h hl) H) → (va_S (fun q => s.heap.size ≤ q) s.heap H locs) → (Rpg g h) → (Rtr Z g tf h) → (Rsn g h) → (Rdk g h (i + 5)) → (Rkp Z g tf h) → (Rtx Z g tf h) → (Rsq g h) → (MJ h) → ((h 31 0).toInt ≤ 40) → (Gd Z tf) → W p l e room_1 s m #[Value.ref b] below meth c H locs 155 6181 Q (F0 m 759 ls []) := by
        intro g gl tf h hl H locs hPx hPy hS hRp hRt hRs hRd hRk hRx hRq hJ h40 hG
        obtain ⟨v_9, e_9⟩ : ∃ y : Int32, y = nI i + 5 := ⟨_, rfl⟩
        refine lv_iinc (v := v_9) (lv' := [(3, .int v_9), (2, .ref (ya Y 0)), (1, .ref (za Z 0)), (0, .ref b)]) hx hb dL_law_759 hlv (k := 0) rfl (by rw [e_9]; rfl) (by decide) rfl (fun ls hlv => ?_)
        refine lv_goto (tgt := 18) hx hb dL_law_762 (by decide) ?_
        have t_9 : v_9 = nI (i + 5) := by rw [e_9]; exact nI_add i 5
        subst t_9
        exact ih (i + 5) g gl tf h hl H locs hPx hPy hS hRp hRt hRs hRd hRk hRx hRq hJ h40 hG hi5 (by omega) ls hlv
      refine lv_aload_n hx hb dL_law_26 rfl (lv_at hlv 3 rfl) ?_
      refine lv_iload_n hx hb dL_law_27 rfl (lv_at hlv 0 rfl) ?_
      have h_28 : vp_in (nI i) L := vp_in_nI (by omega) (by omega)
      refine va_sld hx hb hXs hbl hbA hS h_28 dL_law_28 ?_
      refine lv_bipush (v := 31) hx hb dL_law_29 (by decide) ?_
      refine lv_iand hx hb dL_law_31 ?_
      refine lv_topi (fun v_31 e_31 => ?_)
      by_cases w_0 : v_31 = 0
      · refine lv_tableIn (tgt := 140) (off := 108) hx hb dL_law_32 (by rw [w_0]; decide) (by rw [w_0]; decide) (by rw [w_0]; decide) (by decide) ?_
        exact law_0 hL C0 hTl hX i hi5 g gl tf h hl H locs hPx hPy hS hRp hRt hRs hRd hRk hRx hRq hJ h40 hG ls hlv kk
      by_cases w_1 : v_31 = 1
      · refine lv_tableIn (tgt := 163) (off := 131) hx hb dL_law_32 (by rw [w_1]; decide) (by rw [w_1]; decide) (by rw [w_1]; decide) (by decide) ?_
        exact law_1 hL C0 hTl hX i hi5 g gl tf h hl H locs hPx hPy hS hRp hRt hRs hRd hRk hRx hRq hJ h40 hG ls hlv kk
      by_cases w_2 : v_31 = 2
      · refine lv_tableIn (tgt := 176) (off := 144) hx hb dL_law_32 (by rw [w_2]; decide) (by rw [w_2]; decide) (by rw [w_2]; decide) (by decide) ?_
        exact law_2 hL C0 hTl hX i hi5 g gl tf h hl H locs hPx hPy hS hRp hRt hRs hRd hRk hRx hRq hJ h40 hG ls hlv kk
      by_cases w_3 : v_31 = 3
      · refine lv_tableIn (tgt := 189) (off := 157) hx hb dL_law_32 (by rw [w_3]; decide) (by rw [w_3]; decide) (by rw [w_3]; decide) (by decide) ?_
        exact law_3 hL C0 hTl hX i hi5 g gl tf h hl H locs hPx hPy hS hRp hRt hRs hRd hRk hRx hRq hJ h40 hG ls hlv kk
      by_cases w_4 : v_31 = 4
      · refine lv_tableIn (tgt := 202) (off := 170) hx hb dL_law_32 (by rw [w_4]; decide) (by rw [w_4]; decide) (by rw [w_4]; decide) (by decide) ?_
        exact law_4 hL C0 hTl hX i hi5 g gl tf h hl H locs hPx hPy hS hRp hRt hRs hRd hRk hRx hRq hJ h40 hG ls hlv kk
      by_cases w_5 : v_31 = 5
      · refine lv_tableIn (tgt := 235) (off := 203) hx hb dL_law_32 (by rw [w_5]; decide) (by rw [w_5]; decide) (by rw [w_5]; decide) (by decide) ?_
        exact law_5 hL C0 hTl hX i hi5 g gl tf h hl H locs hPx hPy hS hRp hRt hRs hRd hRk hRx hRq hJ h40 hG ls hlv kk
      by_cases w_6 : v_31 = 6
      · refine lv_tableIn (tgt := 268) (off := 236) hx hb dL_law_32 (by rw [w_6]; decide) (by rw [w_6]; decide) (by rw [w_6]; decide) (by decide) ?_
        exact law_6 hL C0 hTl hX i hi5 g gl tf h hl H locs hPx hPy hS hRp hRt hRs hRd hRk hRx hRq hJ h40 hG ls hlv kk
      by_cases w_7 : v_31 = 7
      · refine lv_tableIn (tgt := 301) (off := 269) hx hb dL_law_32 (by rw [w_7]; decide) (by rw [w_7]; decide) (by rw [w_7]; decide) (by decide) ?_
        exact law_7 hL C0 hTl hX i hi5 g gl tf h hl H locs hPx hPy hS hRp hRt hRs hRd hRk hRx hRq hJ h40 hG ls hlv kk
      by_cases w_8 : v_31 = 8
      · refine lv_tableIn (tgt := 334) (off := 302) hx hb dL_law_32 (by rw [w_8]; decide) (by rw [w_8]; decide) (by rw [w_8]; decide) (by decide) ?_
        exact law_8 hL C0 hTl hX i hi5 g gl tf h hl H locs hPx hPy hS hRp hRt hRs hRd hRk hRx hRq hJ h40 hG ls hlv kk
      by_cases w_9 : v_31 = 9
      · refine lv_tableIn (tgt := 387) (off := 355) hx hb dL_law_32 (by rw [w_9]; decide) (by rw [w_9]; decide) (by rw [w_9]; decide) (by decide) ?_
        exact law_9 hL C0 hTl hX i hi5 g gl tf h hl H locs hPx hPy hS hRp hRt hRs hRd hRk hRx hRq hJ h40 hG ls hlv kk
      by_cases w_10 : v_31 = 10
      · refine lv_tableIn (tgt := 400) (off := 368) hx hb dL_law_32 (by rw [w_10]; decide) (by rw [w_10]; decide) (by rw [w_10]; decide) (by decide) ?_
        exact law_10 hL C0 hTl hX i hi5 g gl tf h hl H locs hPx hPy hS hRp hRt hRs hRd hRk hRx hRq hJ h40 hG ls hlv kk
      by_cases w_11 : v_31 = 11
      · refine lv_tableIn (tgt := 423) (off := 391) hx hb dL_law_32 (by rw [w_11]; decide) (by rw [w_11]; decide) (by rw [w_11]; decide) (by decide) ?_
        exact law_11 hL C0 hTl hX i hi5 g gl tf h hl H locs hPx hPy hS hRp hRt hRs hRd hRk hRx hRq hJ h40 hG ls hlv kk
      by_cases w_12 : v_31 = 12
      · refine lv_tableIn (tgt := 446) (off := 414) hx hb dL_law_32 (by rw [w_12]; decide) (by rw [w_12]; decide) (by rw [w_12]; decide) (by decide) ?_
        exact law_12 hL C0 hTl hX i hi5 g gl tf h hl H locs hPx hPy hS hRp hRt hRs hRd hRk hRx hRq hJ h40 hG ls hlv kk
      by_cases w_13 : v_31 = 13
      · refine lv_tableIn (tgt := 479) (off := 447) hx hb dL_law_32 (by rw [w_13]; decide) (by rw [w_13]; decide) (by rw [w_13]; decide) (by decide) ?_
        exact law_13 hL C0 hTl hX i hi5 g gl tf h hl H locs hPx hPy hS hRp hRt hRs hRd hRk hRx hRq hJ h40 hG ls hlv kk
      by_cases w_14 : v_31 = 14
      · refine lv_tableIn (tgt := 512) (off := 480) hx hb dL_law_32 (by rw [w_14]; decide) (by rw [w_14]; decide) (by rw [w_14]; decide) (by decide) ?_
        exact law_14 hL C0 hTl hX i hi5 g gl tf h hl H locs hPx hPy hS hRp hRt hRs hRd hRk hRx hRq hJ h40 hG ls hlv kk
      by_cases w_15 : v_31 = 15
      · refine lv_tableIn (tgt := 545) (off := 513) hx hb dL_law_32 (by rw [w_15]; decide) (by rw [w_15]; decide) (by rw [w_15]; decide) (by decide) ?_
        exact law_15 hL C0 hTl hX i hi5 g gl tf h hl H locs hPx hPy hS hRp hRt hRs hRd hRk hRx hRq hJ h40 hG ls hlv kk
      by_cases w_16 : v_31 = 16
      · refine lv_tableIn (tgt := 598) (off := 566) hx hb dL_law_32 (by rw [w_16]; decide) (by rw [w_16]; decide) (by rw [w_16]; decide) (by decide) ?_
        exact law_16 hL C0 hTl hX i hi5 g gl tf h hl H locs hPx hPy hS hRp hRt hRs hRd hRk hRx hRq hJ h40 hG ls hlv kk
      by_cases w_17 : v_31 = 17
      · refine lv_tableIn (tgt := 641) (off := 609) hx hb dL_law_32 (by rw [w_17]; decide) (by rw [w_17]; decide) (by rw [w_17]; decide) (by decide) ?_
        exact law_17 hL C0 hTl hX i hi5 g gl tf h hl H locs hPx hPy hS hRp hRt hRs hRd hRk hRx hRq hJ h40 hG ls hlv kk
      by_cases w_18 : v_31 = 18
      · refine lv_tableIn (tgt := 654) (off := 622) hx hb dL_law_32 (by rw [w_18]; decide) (by rw [w_18]; decide) (by rw [w_18]; decide) (by decide) ?_
        exact law_18 hL C0 hTl hX i hi5 g gl tf h hl H locs hPx hPy hS hRp hRt hRs hRd hRk hRx hRq hJ h40 hG ls hlv kk
      by_cases w_19 : v_31 = 19
      · refine lv_tableIn (tgt := 697) (off := 665) hx hb dL_law_32 (by rw [w_19]; decide) (by rw [w_19]; decide) (by rw [w_19]; decide) (by decide) ?_
        exact law_19 hL C0 hTl hX i hi5 g gl tf h hl H locs hPx hPy hS hRp hRt hRs hRd hRk hRx hRq hJ h40 hG ls hlv kk
      by_cases w_20 : v_31 = 20
      · refine lv_tableIn (tgt := 710) (off := 678) hx hb dL_law_32 (by rw [w_20]; decide) (by rw [w_20]; decide) (by rw [w_20]; decide) (by decide) ?_
        exact law_20 hL C0 hTl hX i hi5 g gl tf h hl H locs hPx hPy hS hRp hRt hRs hRd hRk hRx hRq hJ h40 hG ls hlv kk
      by_cases w_21 : v_31 = 21
      · refine lv_tableIn (tgt := 723) (off := 691) hx hb dL_law_32 (by rw [w_21]; decide) (by rw [w_21]; decide) (by rw [w_21]; decide) (by decide) ?_
        exact law_21 hL C0 hTl hX i hi5 g gl tf h hl H locs hPx hPy hS hRp hRt hRs hRd hRk hRx hRq hJ h40 hG ls hlv kk
      by_cases w_22 : v_31 = 22
      · refine lv_tableIn (tgt := 746) (off := 714) hx hb dL_law_32 (by rw [w_22]; decide) (by rw [w_22]; decide) (by rw [w_22]; decide) (by decide) ?_
        exact law_22 hL C0 hTl hX i hi5 g gl tf h hl H locs hPx hPy hS hRp hRt hRs hRd hRk hRx hRq hJ h40 hG ls hlv kk
      have n_0 := ti_nek rfl tk_0 w_0
      have n_1 := ti_nek rfl tk_1 w_1
      have n_2 := ti_nek rfl tk_2 w_2
      have n_3 := ti_nek rfl tk_3 w_3
      have n_4 := ti_nek rfl tk_4 w_4
      have n_5 := ti_nek rfl tk_5 w_5
      have n_6 := ti_nek rfl tk_6 w_6
      have n_7 := ti_nek rfl tk_7 w_7
      have n_8 := ti_nek rfl tk_8 w_8
      have n_9 := ti_nek rfl tk_9 w_9
      have n_10 := ti_nek rfl tk_10 w_10
      have n_11 := ti_nek rfl tk_11 w_11
      have n_12 := ti_nek rfl tk_12 w_12
      have n_13 := ti_nek rfl tk_13 w_13
      have n_14 := ti_nek rfl tk_14 w_14
      have n_15 := ti_nek rfl tk_15 w_15
      have n_16 := ti_nek rfl tk_16 w_16
      have n_17 := ti_nek rfl tk_17 w_17
      have n_18 := ti_nek rfl tk_18 w_18
      have n_19 := ti_nek rfl tk_19 w_19
      have n_20 := ti_nek rfl tk_20 w_20
      have n_21 := ti_nek rfl tk_21 w_21
      have n_22 := ti_nek rfl tk_22 w_22
      refine lv_tableOut (tgt := 759) hx hb dL_law_32 (by omega) (by decide) ?_
      exact kk g gl tf h hl H locs hPx hPy hS hRp hRt hRs (hRd.le (by omega)) hRk hRx hRq hJ h40 hG
