/-! ===== the law: its loop ===== -/
set_option maxRecDepth 100000 in
set_option maxHeartbeats 4000000 in
theorem y_loop {l : Launch} {g : XG} {b L : Nat} {xs : Nat → Int32} {kc ks : Nat} (hc : kc ≤ 600000) (hs : ks ≤ 7302250) (hL : L ≤ 2048) : ∀ n j w, L ≤ j + 4 * n → j ≤ L → Inv w → YL l g b L xs 18 [(3, .int (nI (j))), (1, .ref 0), (2, .ref 127)] [] w kc ks := by
  intro n
  induction n with
  | zero =>
    intro j w hn hj hI
    refine y_iload_n 0 dL_law_18 rfl ?_
    refine y_slen dL_law_19 dL_law_20 ?_
    refine y_iconst (v := 4) dL_law_21 (by decide) ?_
    refine y_isub dL_law_22 ?_
    refine y_icmp_gt (tgt := 842) dL_law_23 (by decide) (fun _ => ?_) (fun hlt => ?_)
    · refine y_iconst (v := 1) dL_law_842 (by decide) ?_
      exact y_ret dL_law_843 hc hs
    · refine absurd ?_ hlt
      rw [Int32.lt_iff_toInt_lt, show (4 : Int32) = nI 4 from rfl, pk_sub_toInt (by omega) (by decide), nI_toInt (by omega)]
      omega
  | succ n ih =>
    intro j w hn hj hI
    refine y_iload_n 0 dL_law_18 rfl ?_
    refine y_slen dL_law_19 dL_law_20 ?_
    refine y_iconst (v := 4) dL_law_21 (by decide) ?_
    refine y_isub dL_law_22 ?_
    refine y_icmp_gt (tgt := 842) dL_law_23 (by decide) (fun _ => ?_) (fun hlt => ?_)
    · refine y_iconst (v := 1) dL_law_842 (by decide) ?_
      exact y_ret dL_law_843 hc hs
    · rw [Int32.lt_iff_toInt_lt, show (4 : Int32) = nI 4 from rfl, pk_sub_toInt (by omega) (by decide), nI_toInt (by omega)] at hlt
      have hnext : ∀ w, Inv w → YL l g b L xs 836 [(3, .int (nI (j))), (1, .ref 0), (2, .ref 127)] [] w kc ks := fun w hI => by
        refine y_iinc dL_law_836 ?_
        refine y_goto (tgt := 18) dL_law_839 (by decide) ?_
        exact ih (j + 4) w (by omega) (by omega) hI
      refine y_sld0 0 rfl (by omega) (by omega) dL_law_26 dL_law_27 dL_law_28 ?_
      refine y_bipush (v := 31) dL_law_29 (by decide) ?_
      refine y_iand dL_law_31 ?_
      rcases swcase (xs j &&& 31) 23 with hsw | ⟨t, ht, hx⟩
      · refine y_switchOut (tgt := 836) dL_law_32 hsw (by decide) ?_
        exact hnext w hI
      · rw [hx]
        rcases (show t = 0 ∨ t = 1 ∨ t = 2 ∨ t = 3 ∨ t = 4 ∨ t = 5 ∨ t = 6 ∨ t = 7 ∨ t = 8 ∨ t = 9 ∨ t = 10 ∨ t = 11 ∨ t = 12 ∨ t = 13 ∨ t = 14 ∨ t = 15 ∨ t = 16 ∨ t = 17 ∨ t = 18 ∨ t = 19 ∨ t = 20 ∨ t = 21 ∨ t = 22 ∨ t = 23 by omega) with rfl | rfl | rfl | rfl | rfl | rfl | rfl | rfl | rfl | rfl | rfl | rfl | rfl | rfl | rfl | rfl | rfl | rfl | rfl | rfl | rfl | rfl | rfl | rfl
        · refine y_switchIn (tgt := 144) (off := 112) dL_law_32 (by decide) (by decide) (by decide) (by decide) ?_
          exact yc_join hc hs (by omega) (by omega) hI hnext
        · refine y_switchIn (tgt := 167) (off := 135) dL_law_32 (by decide) (by decide) (by decide) (by decide) ?_
          exact yc_leave hc hs (by omega) (by omega) hI hnext
        · refine y_switchIn (tgt := 190) (off := 158) dL_law_32 (by decide) (by decide) (by decide) (by decide) ?_
          exact yc_crash hc hs (by omega) (by omega) hI hnext
        · refine y_switchIn (tgt := 213) (off := 181) dL_law_32 (by decide) (by decide) (by decide) (by decide) ?_
          exact yc_setOnline hc hs (by omega) (by omega) hI hnext
        · refine y_switchIn (tgt := 246) (off := 214) dL_law_32 (by decide) (by decide) (by decide) (by decide) ?_
          exact yc_pay hc hs (by omega) (by omega) hI hnext
        · refine y_switchIn (tgt := 289) (off := 257) dL_law_32 (by decide) (by decide) (by decide) (by decide) ?_
          exact yc_peerInfo hc hs (by omega) (by omega) hI hnext
        · refine y_switchIn (tgt := 322) (off := 290) dL_law_32 (by decide) (by decide) (by decide) (by decide) ?_
          exact yc_balance hc hs (by omega) (by omega) hI hnext
        · refine y_switchIn (tgt := 355) (off := 323) dL_law_32 (by decide) (by decide) (by decide) (by decide) ?_
          exact yc_word hc hs (by omega) (by omega) hI hnext
        · refine y_switchIn (tgt := 378) (off := 346) dL_law_32 (by decide) (by decide) (by decide) (by decide) ?_
          exact yc_store hc hs (by omega) (by omega) hI hnext
        · refine y_switchIn (tgt := 411) (off := 379) dL_law_32 (by decide) (by decide) (by decide) (by decide) ?_
          exact yc_delete hc hs (by omega) (by omega) hI hnext
        · refine y_switchIn (tgt := 434) (off := 402) dL_law_32 (by decide) (by decide) (by decide) (by decide) ?_
          exact yc_fileInfo hc hs (by omega) (by omega) hI hnext
        · refine y_switchIn (tgt := 467) (off := 435) dL_law_32 (by decide) (by decide) (by decide) (by decide) ?_
          exact yc_fragment hc hs (by omega) (by omega) hI hnext
        · refine y_switchIn (tgt := 510) (off := 478) dL_law_32 (by decide) (by decide) (by decide) (by decide) ?_
          exact yc_read hc hs (by omega) (by omega) hI hnext
        · refine y_switchIn (tgt := 543) (off := 511) dL_law_32 (by decide) (by decide) (by decide) (by decide) ?_
          exact yc_decode hc hs (by omega) (by omega) hI hnext
        · refine y_switchIn (tgt := 586) (off := 554) dL_law_32 (by decide) (by decide) (by decide) (by decide) ?_
          exact yc_spoil hc hs (by omega) (by omega) hI hnext
        · refine y_switchIn (tgt := 629) (off := 597) dL_law_32 (by decide) (by decide) (by decide) (by decide) ?_
          exact yc_audit hc hs (by omega) (by omega) hI hnext
        · refine y_switchIn (tgt := 672) (off := 640) dL_law_32 (by decide) (by decide) (by decide) (by decide) ?_
          exact yc_passingSeeds hc hs (by omega) (by omega) hI hnext
        · refine y_switchIn (tgt := 705) (off := 673) dL_law_32 (by decide) (by decide) (by decide) (by decide) ?_
          exact yc_repair hc hs (by omega) (by omega) hI hnext
        · refine y_switchIn (tgt := 728) (off := 696) dL_law_32 (by decide) (by decide) (by decide) (by decide) ?_
          exact yc_repairAll hc hs (by omega) (by omega) hI hnext
        · refine y_switchIn (tgt := 751) (off := 719) dL_law_32 (by decide) (by decide) (by decide) (by decide) ?_
          exact yc_undo hc hs (by omega) (by omega) hI hnext
        · refine y_switchIn (tgt := 764) (off := 732) dL_law_32 (by decide) (by decide) (by decide) (by decide) ?_
          exact yc_tolerance hc hs (by omega) (by omega) hI hnext
        · refine y_switchIn (tgt := 777) (off := 745) dL_law_32 (by decide) (by decide) (by decide) (by decide) ?_
          exact yc_endangered hc hs (by omega) (by omega) hI hnext
        · refine y_switchIn (tgt := 800) (off := 768) dL_law_32 (by decide) (by decide) (by decide) (by decide) ?_
          exact yc_leavers hc hs (by omega) (by omega) hI hnext
        · refine y_switchIn (tgt := 813) (off := 781) dL_law_32 (by decide) (by decide) (by decide) (by decide) ?_
          exact yc_count hc hs (by omega) (by omega) hI hnext
/-! ===== the law: from its entry ===== -/
theorem xset_one (ro : Nat → Nat) (c d : XC) (rest wa : XW) {k : Nat} (hk : wa.length = k) : xset ro [k] (d :: rest) (wa ++ [c]) = wa ++ (d :: rest).map (xrc ro) := by
  subst hk
  have e : (wa ++ [c]).set wa.length (xrc ro d) = wa ++ [xrc ro d] := by simp
  rw [xset, e]
  cases rest with
  | nil => simp [xset]
  | cons x y => simp [xset]
theorem wN_id (S : MS) (G : Nat → MS) (r n : Nat) (E : Nat → Int32) (en : Int32) (C : Nat → Int32) (cs : Int32) (P T : MS) {ro : Nat → Nat} (hr : ∀ j, j < 127 → ro j = j) : (wN S (tX G r n E en C cs P T)).map (xrc ro) = wN S (tX G r n E en C cs P T) := by
  conv => rhs; rw [← List.map_id (wN S (tX G r n E en C cs P T))]
  exact List.map_congr_left (fun c hc => xrc_id (k := 127) hr (by have := wN_ok S G r n E en C cs P T c hc; rwa [wN_len] at this))
theorem wN_cons (S : MS) (G : Nat → MS) (r n : Nat) (E : Nat → Int32) (en : Int32) (C : Nat → Int32) (cs : Int32) (P T : MS) : ∃ d rest, wN S (tX G r n E en C cs P T) = d :: rest := ⟨_, _, rfl⟩
set_option maxRecDepth 100000 in
set_option maxHeartbeats 4000000 in
theorem y_start {l : Launch} {g : XG} {b L : Nat} {xs : Nat → Int32} (hL : L ≤ 2048) : YL l g b L xs 0 [] [] [] 0 0 := by
  refine y_new (ci := 6) dL_law_0 rfl clL_7 xdf_6 (by decide) (by decide) ?_
  refine y_dup dL_law_3 rfl ?_
  refine y_call [0] (as := [.ref 0]) (st := [.ref 0]) (x_iI dL_law_4 mlL_9 lbX6_init rfl) (kX6_init l g) (by decide) (by decide) (by decide) (by simp [Value.category]) rfl rfl (by decide) (fun r w1 hq => ?_)
  obtain ⟨rfl, rfl⟩ := hq
  refine y_eqw (w' := wN zS (tX (fun _ => zS) 0 0 (fun _ => 0) 0 (fun _ => 0) 0 zS zS)) ?_ ?_
  · obtain ⟨d, rest, e⟩ := wN_cons zS (fun _ => zS) 0 0 (fun _ => 0) 0 (fun _ => 0) 0 zS zS
    have h1 := xset_one (xro [0] 1) (.inr (.inr (6, [.null, .null, .null, .null, .null, .null]))) d rest [] (k := 0) rfl
    rw [← e] at h1
    refine Eq.trans h1 ?_
    rw [List.nil_append]
    exact wN_id _ _ _ _ _ _ _ _ _ _ (fun j hj => by
      cases j with
      | zero => rfl
      | succ j => show 1 + (j + 1 - 1) = j + 1; omega)
  refine y_astore1 dL_law_7 ?_
  refine y_new (ci := 7) dL_law_8 rfl clL_10 xdf_7 (by decide) (by decide) ?_
  rw [wN_len]
  refine y_dup dL_law_11 rfl ?_
  refine y_call [127] (as := [.ref 0]) (st := [.ref 127]) (wc := [.inr (.inr (7, [.null, .null, .null, .null, .int 0, .null]))]) (x_iI dL_law_12 mlL_12 lbX7_init rfl) (kX7_init l g) (by decide) (by decide) (by decide) (by simp [Value.category]) rfl ?_ (by decide) (fun r w1 hq => ?_)
  · show [(wN zS (tX (fun _ => zS) 0 0 (fun _ => 0) 0 (fun _ => 0) 0 zS zS) ++ [.inr (.inr (7, [.null, .null, .null, .null, .int 0, .null]))])[127]?] = _
    rw [List.getElem?_append_right (by rw [wN_len]; exact Nat.le_refl _), wN_len]; rfl
  obtain ⟨rfl, rfl⟩ := hq
  refine y_eqw (w' := wN zS (tX (fun _ => zS) 0 0 (fun _ => 0) 0 (fun _ => 0) 0 zS zS) ++ wMx (fun _ => 0) (fun _ => 0) (fun _ => 0) (fun _ => 0) 0 (fun _ => 0)) ?_ ?_
  · have e128 : (wN zS (tX (fun _ => zS) 0 0 (fun _ => 0) 0 (fun _ => 0) 0 zS zS) ++ [(.inr (.inr (7, [.null, .null, .null, .null, .int 0, .null])) : XC)]).length = 128 := by rw [List.length_append, wN_len]; rfl
    rw [e128, xset_one _ _ _ _ _ (wN_len _ _ _ _ _ _ _ _ _ _)]
    rfl
  refine y_astore2 dL_law_15 ?_
  refine y_iconst (v := 0) dL_law_16 (by decide) ?_
  refine y_istore3 dL_law_17 ?_
  exact y_loop (by decide) (by decide) hL 512 0 _ (by omega) (Nat.zero_le _) ⟨zS, fun _ => zS, 0, 0, fun _ => 0, 0, fun _ => 0, 0, zS, zS, fun _ => 0, fun _ => 0, fun _ => 0, fun _ => 0, fun _ => 0, rfl, RR_z, fun j hj => absurd hj (Nat.not_lt_zero _), by decide, by decide, fun _ => (show 0 < 257 by decide), fun _ => (show 0 < 257 by decide)⟩
