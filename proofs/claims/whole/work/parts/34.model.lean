/-! ===== the reference: its row of numbers N ===== -/
noncomputable abbrev wM (N A Z B : Nat → Int32) (u : Int32) (L : Nat → Int32) : XW := [.inr (.inr (7, [.ref 1, .ref 2, .ref 3, .ref 4, .int u, .ref 5])), .inl (row 439 N), .inl (row 439 A), .inl (row 439 Z), .inl (row 2195 B), .inl (row 42 L)]
/-- fragments of a file are at most ten, and places are peers or nothing -/
def MOk (N : Nat → Int32) : Prop := ∀ f, f < 8 → cl (N (192 + 30 * f + 2) + N (192 + 30 * f + 3)) ≤ 10 ∧ ∀ i, i < 10 → N (192 + 30 * f + (10 + i)) < 0 ∨ vp_in (N (192 + 30 * f + (10 + i))) 12
def rgB (v a b : Int32) : Bool := decide (¬ v < a) && decide (¬ b < v)
def mPe (N : Nat → Int32) (p : Int32) : Bool := rgB p 0 11 && decide (N (4 * cl p) = 1)
def mFi (N : Nat → Int32) (f : Int32) : Bool := rgB f 0 7 && decide (N (192 + 30 * cl f + 0) = 1)
def mOn (N : Nat → Int32) (p : Int32) : Bool := decide (N (4 * cl p + 2) = 1)
def mFr (N : Nat → Int32) (f : Nat) : Int32 := N (192 + 30 * f + 2) + N (192 + 30 * f + 3)
def mGd (N : Nat → Int32) (f i : Nat) : Bool := decide (¬ N (192 + 30 * f + (10 + i)) < 0) && decide (N (192 + 30 * f + (20 + i)) = 0) && mOn N (N (192 + 30 * f + (10 + i)))
def mGn (N : Nat → Int32) (f : Nat) : Int32 := nI (cntB (fun i => mGd N f i) (cl (mFr N f)))
def mSf (N : Nat → Int32) (f : Nat) : Bool := decide (¬ mGn N f < N (192 + 30 * f + 2))
theorem rgB_v {v : Int32} {n : Nat} {b : Int32} (hb : b = nI n) (hn : n + 1 < 2 ^ 31) (h : rgB v 0 b = true) : vp_in v (n + 1) := by
  simp only [rgB, Bool.and_eq_true, decide_eq_true_eq] at h
  subst hb
  rw [vin_iff]
  refine ⟨h.1, ?_⟩
  have := h.2
  rw [Int32.lt_iff_toInt_lt, nI_toInt (by omega), toInt_cl h.1] at this
  omega
theorem ix_at {f w : Nat} (hf : f < 8) (hw : w < 30) : ix (192 + 30 * nI f + nI w) (192 + 30 * f + w) 439 := by
  have e : (192 : Int32) + 30 * nI f + nI w = nI (192 + 30 * f + w) := by
    rw [show (30 : Int32) * nI f = nI (30 * f) from pk_mul 30 f, show (192 : Int32) + nI (30 * f) = nI (192 + 30 * f) from nI_add 192 (30 * f), nI_add]
  rw [e]; exact ix_nI (by omega) (by decide)
theorem ix_p4 {p : Int32} {c : Nat} (hp : vp_in p 12) (hc : c < 4) : ix (4 * p + nI c) (4 * cl p + c) 439 := by
  obtain ⟨h1, h2⟩ := vin_iff.mp hp
  have e : (4 : Int32) * p + nI c = nI (4 * cl p + c) := by
    conv => lhs; rw [nI_cl h1, show (4 : Int32) * nI (cl p) = nI (4 * cl p) from pk_mul 4 (cl p), nI_add]
  rw [e]; exact ix_nI (by omega) (by decide)
theorem ix_p0 {p : Int32} (hp : vp_in p 12) : ix (4 * p) (4 * cl p) 439 := by
  obtain ⟨h1, h2⟩ := vin_iff.mp hp
  have e : (4 : Int32) * p = nI (4 * cl p) := by
    conv => lhs; rw [nI_cl h1, show (4 : Int32) * nI (cl p) = nI (4 * cl p) from pk_mul 4 (cl p)]
  rw [e]; exact ix_nI (by omega) (by decide)
theorem ad10 (i : Nat) : (10 : Int32) + nI i = nI (10 + i) := nI_add 10 i
theorem ad20 (i : Nat) : (20 : Int32) + nI i = nI (20 + i) := nI_add 20 i
theorem ad4 (i : Nat) : (4 : Int32) + nI i = nI (4 + i) := nI_add 4 i

set_option maxRecDepth 100000 in
set_option maxHeartbeats 4000000 in
theorem kX7_in (l : Launch) (g : XG) (v a b : Int32) : Ct l g MX7_in [.int v, .int a, .int b] ([]) (Qp (b2i (rgB v a b)) ([])) := by
  refine Ct_of (by decide) (by simp [Value.category]) (Nat.le_of_ble_eq_true rfl) ?_
  refine x_iload_n dX7_in_0 rfl ?_
  refine x_iload_n dX7_in_1 rfl ?_
  refine x_icmp_lt (tgt := 14) dX7_in_2 (by decide) (fun c_2 => ?_) (fun c_2 => ?_)
  · refine x_iconst (v := 0) dX7_in_14 (by decide) ?_
    exact x_retz dX7_in_15 rfl (rfl) rfl rfl (⟨by (try simp only [b2i_eq0, b2i_ne0] at *); simp [rgB, b2i, *], rfl⟩)
  · refine x_iload_n dX7_in_5 rfl ?_
    refine x_iload_n dX7_in_6 rfl ?_
    refine x_icmp_gt (tgt := 14) dX7_in_7 (by decide) (fun c_7 => ?_) (fun c_7 => ?_)
    · refine x_iconst (v := 0) dX7_in_14 (by decide) ?_
      exact x_retz dX7_in_15 rfl (rfl) rfl rfl (⟨by (try simp only [b2i_eq0, b2i_ne0] at *); simp [rgB, b2i, *], rfl⟩)
    · refine x_iconst (v := 1) dX7_in_10 (by decide) ?_
      refine x_goto (tgt := 15) dX7_in_11 (by decide) ?_
      exact x_retz dX7_in_15 rfl (rfl) rfl rfl (⟨by (try simp only [b2i_eq0, b2i_ne0] at *); simp [rgB, b2i, *], rfl⟩)

set_option maxRecDepth 100000 in
set_option maxHeartbeats 4000000 in
theorem kX7_at (l : Launch) (g : XG) (f w : Int32) : Ct l g MX7_at [.int f, .int w] ([]) (Qp (192 + 30 * f + w) ([])) := by
  refine Ct_of (by decide) (by simp [Value.category]) (Nat.le_of_ble_eq_true rfl) ?_
  refine x_sipush (v := 192) dX7_at_0 (by decide) ?_
  refine x_bipush (v := 30) dX7_at_3 (by decide) ?_
  refine x_iload_n dX7_at_5 rfl ?_
  refine x_imul dX7_at_6 ?_
  refine x_iadd dX7_at_7 ?_
  refine x_iload_n dX7_at_8 rfl ?_
  refine x_iadd dX7_at_9 ?_
  exact x_reti dX7_at_10 rfl rfl rfl (⟨rfl, rfl⟩)

set_option maxRecDepth 100000 in
set_option maxHeartbeats 4000000 in
theorem kX7_balanceAt (l : Launch) (g : XG) (p q : Int32) : Ct l g MX7_balanceAt [.int p, .int q] ([]) (Qp (48 + 12 * p + q) ([])) := by
  refine Ct_of (by decide) (by simp [Value.category]) (Nat.le_of_ble_eq_true rfl) ?_
  refine x_bipush (v := 48) dX7_balanceAt_0 (by decide) ?_
  refine x_bipush (v := 12) dX7_balanceAt_2 (by decide) ?_
  refine x_iload_n dX7_balanceAt_4 rfl ?_
  refine x_imul dX7_balanceAt_5 ?_
  refine x_iadd dX7_balanceAt_6 ?_
  refine x_iload_n dX7_balanceAt_7 rfl ?_
  refine x_iadd dX7_balanceAt_8 ?_
  exact x_reti dX7_balanceAt_9 rfl rfl rfl (⟨rfl, rfl⟩)

set_option maxRecDepth 100000 in
set_option maxHeartbeats 4000000 in
theorem kX7_of (l : Launch) (g : XG) (N A Z B : Nat → Int32) (u : Int32) (L : Nat → Int32) (f w : Nat) (hf : f < 8) (hw : w < 30) : Ct l g MX7_of [.ref 0, .int (nI f), .int (nI w)] (wM N A Z B u L) (Qp (N (192 + 30 * f + w)) (wM N A Z B u L)) := by
  refine Ct_of (by decide) (by simp [Value.category]) (Nat.le_of_ble_eq_true rfl) ?_
  refine x_aload_n dX7_of_0 rfl ?_
  refine x_getf dX7_of_1 flX7_7 rfl rfl ?_
  refine x_iload_n dX7_of_4 rfl ?_
  refine x_iload_n dX7_of_5 rfl ?_
  refine x_callp [] (x_iS dX7_of_6 mlX7_33 lbX7_at rfl) (kX7_at l g _ _) (by decide) rfl rfl (by decide) (by decide) (by simp [Value.category]) rfl rfl (by decide +kernel) ?_
  refine x_iar dX7_of_9 rfl (ix_at hf hw) ?_
  exact x_reti dX7_of_10 rfl rfl rfl (⟨rfl, rfl⟩)

set_option maxRecDepth 100000 in
set_option maxHeartbeats 4000000 in
theorem kX7_isPeer (l : Launch) (g : XG) (N A Z B : Nat → Int32) (u : Int32) (L : Nat → Int32) (p : Int32) : Ct l g MX7_isPeer [.ref 0, .int p] (wM N A Z B u L) (Qp (b2i (mPe N p)) (wM N A Z B u L)) := by
  refine Ct_of (by decide) (by simp [Value.category]) (Nat.le_of_ble_eq_true rfl) ?_
  refine x_iload_n dX7_isPeer_0 rfl ?_
  refine x_iconst (v := 0) dX7_isPeer_1 (by decide) ?_
  refine x_bipush (v := 11) dX7_isPeer_2 (by decide) ?_
  refine x_callp [] (x_iS dX7_isPeer_4 mlX7_25 lbX7_in rfl) (kX7_in l g _ _ _) (by decide) rfl rfl (by decide) (by decide) (by simp [Value.category]) rfl rfl (by decide +kernel) ?_
  refine x_if_eq (tgt := 26) dX7_isPeer_7 (by decide) (fun c_7 => ?_) (fun c_7 => ?_)
  · refine x_iconst (v := 0) dX7_isPeer_26 (by decide) ?_
    exact x_retz dX7_isPeer_27 rfl (rfl) rfl rfl (⟨by (try simp only [b2i_eq0, b2i_ne0] at *); simp [mPe, b2i, *], rfl⟩)
  · refine x_aload_n dX7_isPeer_10 rfl ?_
    refine x_getf dX7_isPeer_11 flX7_7 rfl rfl ?_
    refine x_iconst (v := 4) dX7_isPeer_14 (by decide) ?_
    refine x_iload_n dX7_isPeer_15 rfl ?_
    refine x_imul dX7_isPeer_16 ?_
    refine x_iar dX7_isPeer_17 rfl (ix_p0 (rgB_v (n := 11) rfl (by decide) (b2i_t' c_7))) ?_
    refine x_iconst (v := 1) dX7_isPeer_18 (by decide) ?_
    refine x_icmp_ne (tgt := 26) dX7_isPeer_19 (by decide) (fun c_19 => ?_) (fun c_19 => ?_)
    · refine x_iconst (v := 0) dX7_isPeer_26 (by decide) ?_
      exact x_retz dX7_isPeer_27 rfl (rfl) rfl rfl (⟨by (try simp only [b2i_eq0, b2i_ne0] at *); simp [mPe, b2i, *], rfl⟩)
    · refine x_iconst (v := 1) dX7_isPeer_22 (by decide) ?_
      refine x_goto (tgt := 27) dX7_isPeer_23 (by decide) ?_
      exact x_retz dX7_isPeer_27 rfl (rfl) rfl rfl (⟨by (try simp only [b2i_eq0, b2i_ne0] at *); simp [mPe, b2i, *], rfl⟩)

set_option maxRecDepth 100000 in
set_option maxHeartbeats 4000000 in
theorem kX7_isFile (l : Launch) (g : XG) (N A Z B : Nat → Int32) (u : Int32) (L : Nat → Int32) (f : Int32) : Ct l g MX7_isFile [.ref 0, .int f] (wM N A Z B u L) (Qp (b2i (mFi N f)) (wM N A Z B u L)) := by
  refine Ct_of (by decide) (by simp [Value.category]) (Nat.le_of_ble_eq_true rfl) ?_
  refine x_iload_n dX7_isFile_0 rfl ?_
  refine x_iconst (v := 0) dX7_isFile_1 (by decide) ?_
  refine x_bipush (v := 7) dX7_isFile_2 (by decide) ?_
  refine x_callp [] (x_iS dX7_isFile_4 mlX7_25 lbX7_in rfl) (kX7_in l g _ _ _) (by decide) rfl rfl (by decide) (by decide) (by simp [Value.category]) rfl rfl (by decide +kernel) ?_
  refine x_if_eq (tgt := 24) dX7_isFile_7 (by decide) (fun c_7 => ?_) (fun c_7 => ?_)
  · refine x_iconst (v := 0) dX7_isFile_24 (by decide) ?_
    exact x_retz dX7_isFile_25 rfl (rfl) rfl rfl (⟨by (try simp only [b2i_eq0, b2i_ne0] at *); (try simp only [Nat.add_zero] at *); simp [mFi, b2i, *], rfl⟩)
  · obtain ⟨hv1, hv2⟩ := vin_iff.mp (rgB_v (n := 7) rfl (by decide) (b2i_t' c_7))
    refine x_aload_n dX7_isFile_10 rfl ?_
    refine x_iload_n dX7_isFile_11 rfl ?_
    refine x_iconst (v := 0) dX7_isFile_12 (by decide) ?_
    refine x_eq (st' := [.int (nI 0), .int (nI (cl f)), .ref 0]) ?_ rfl (by rw [← nI_cl hv1]; rfl) rfl
    refine x_callp [0, 1, 2, 3, 4, 5] (x_iV dX7_isFile_13 mlX7_29 lbX7_of rfl rfl rfl rfl) (kX7_of l g _ _ _ _ _ _ (cl f) 0 hv2 (by omega)) (by decide) rfl rfl (by decide) (by decide) (by simp [Value.category]) rfl rfl (by decide +kernel) ?_
    refine x_iconst (v := 1) dX7_isFile_16 (by decide) ?_
    refine x_icmp_ne (tgt := 24) dX7_isFile_17 (by decide) (fun c_17 => ?_) (fun c_17 => ?_)
    · refine x_iconst (v := 0) dX7_isFile_24 (by decide) ?_
      exact x_retz dX7_isFile_25 rfl (rfl) rfl rfl (⟨by (try simp only [b2i_eq0, b2i_ne0] at *); (try simp only [Nat.add_zero] at *); simp [mFi, b2i, *], rfl⟩)
    · refine x_iconst (v := 1) dX7_isFile_20 (by decide) ?_
      refine x_goto (tgt := 25) dX7_isFile_21 (by decide) ?_
      exact x_retz dX7_isFile_25 rfl (rfl) rfl rfl (⟨by (try simp only [b2i_eq0, b2i_ne0] at *); (try simp only [Nat.add_zero] at *); simp [mFi, b2i, *], rfl⟩)

set_option maxRecDepth 100000 in
set_option maxHeartbeats 4000000 in
theorem kX7_fragments (l : Launch) (g : XG) (N A Z B : Nat → Int32) (u : Int32) (L : Nat → Int32) (f : Nat) (hf : f < 8) : Ct l g MX7_fragments [.ref 0, .int (nI f)] (wM N A Z B u L) (Qp (mFr N f) (wM N A Z B u L)) := by
  refine Ct_of (by decide) (by simp [Value.category]) (Nat.le_of_ble_eq_true rfl) ?_
  refine x_aload_n dX7_fragments_0 rfl ?_
  refine x_iload_n dX7_fragments_1 rfl ?_
  refine x_iconst (v := 2) dX7_fragments_2 (by decide) ?_
  refine x_callp [0, 1, 2, 3, 4, 5] (x_iV dX7_fragments_3 mlX7_29 lbX7_of rfl rfl rfl rfl) (kX7_of l g _ _ _ _ _ _ f 2 hf (by omega)) (by decide) rfl rfl (by decide) (by decide) (by simp [Value.category]) rfl rfl (by decide +kernel) ?_
  refine x_aload_n dX7_fragments_6 rfl ?_
  refine x_iload_n dX7_fragments_7 rfl ?_
  refine x_iconst (v := 3) dX7_fragments_8 (by decide) ?_
  refine x_callp [0, 1, 2, 3, 4, 5] (x_iV dX7_fragments_9 mlX7_29 lbX7_of rfl rfl rfl rfl) (kX7_of l g _ _ _ _ _ _ f 3 hf (by omega)) (by decide) rfl rfl (by decide) (by decide) (by simp [Value.category]) rfl rfl (by decide +kernel) ?_
  refine x_iadd dX7_fragments_12 ?_
  exact x_reti dX7_fragments_13 rfl rfl rfl (⟨rfl, rfl⟩)

set_option maxRecDepth 100000 in
set_option maxHeartbeats 4000000 in
theorem kX7_isOnline (l : Launch) (g : XG) (N A Z B : Nat → Int32) (u : Int32) (L : Nat → Int32) (p : Int32) (hp : vp_in p 12) : Ct l g MX7_isOnline [.ref 0, .int p] (wM N A Z B u L) (Qp (b2i (mOn N p)) (wM N A Z B u L)) := by
  refine Ct_of (by decide) (by simp [Value.category]) (Nat.le_of_ble_eq_true rfl) ?_
  refine x_aload_n dX7_isOnline_0 rfl ?_
  refine x_getf dX7_isOnline_1 flX7_7 rfl rfl ?_
  refine x_iconst (v := 4) dX7_isOnline_4 (by decide) ?_
  refine x_iload_n dX7_isOnline_5 rfl ?_
  refine x_imul dX7_isOnline_6 ?_
  refine x_iconst (v := 2) dX7_isOnline_7 (by decide) ?_
  refine x_iadd dX7_isOnline_8 ?_
  refine x_iar dX7_isOnline_9 rfl (ix_p4 (c := 2) hp (by decide)) ?_
  refine x_iconst (v := 1) dX7_isOnline_10 (by decide) ?_
  refine x_icmp_ne (tgt := 18) dX7_isOnline_11 (by decide) (fun c_11 => ?_) (fun c_11 => ?_)
  · refine x_iconst (v := 0) dX7_isOnline_18 (by decide) ?_
    exact x_retz dX7_isOnline_19 rfl (rfl) rfl rfl (⟨by (try simp only [b2i_eq0, b2i_ne0] at *); simp [mOn, b2i, *], rfl⟩)
  · refine x_iconst (v := 1) dX7_isOnline_14 (by decide) ?_
    refine x_goto (tgt := 19) dX7_isOnline_15 (by decide) ?_
    exact x_retz dX7_isOnline_19 rfl (rfl) rfl rfl (⟨by (try simp only [b2i_eq0, b2i_ne0] at *); simp [mOn, b2i, *], rfl⟩)

set_option maxRecDepth 100000 in
set_option maxHeartbeats 4000000 in
theorem kX7_isGood (l : Launch) (g : XG) (N A Z B : Nat → Int32) (u : Int32) (L : Nat → Int32) (f i : Nat) (hf : f < 8) (hi : i < 10) (hM : MOk N) : Ct l g MX7_isGood [.ref 0, .int (nI f), .int (nI i)] (wM N A Z B u L) (Qp (b2i (mGd N f i)) (wM N A Z B u L)) := by
  refine Ct_of (by decide) (by simp [Value.category]) (Nat.le_of_ble_eq_true rfl) ?_
  refine x_aload_n dX7_isGood_0 rfl ?_
  refine x_iload_n dX7_isGood_1 rfl ?_
  refine x_bipush (v := 10) dX7_isGood_2 (by decide) ?_
  refine x_iload_n dX7_isGood_4 rfl ?_
  refine x_iadd dX7_isGood_5 ?_
  rw [ad10]
  refine x_callp [0, 1, 2, 3, 4, 5] (x_iV dX7_isGood_6 mlX7_29 lbX7_of rfl rfl rfl rfl) (kX7_of l g _ _ _ _ _ _ f (10 + i) hf (by omega)) (by decide) rfl rfl (by decide) (by decide) (by simp [Value.category]) rfl rfl (by decide +kernel) ?_
  refine x_istore_n dX7_isGood_9 (by decide) ?_
  refine x_iload_n dX7_isGood_10 rfl ?_
  refine x_if_lt (tgt := 38) dX7_isGood_11 (by decide) (fun c_11 => ?_) (fun c_11 => ?_)
  · refine x_iconst (v := 0) dX7_isGood_38 (by decide) ?_
    exact x_retz dX7_isGood_39 rfl (rfl) rfl rfl (⟨by (try simp only [b2i_eq0, b2i_ne0] at *); simp [mGd, b2i, *], rfl⟩)
  · refine x_aload_n dX7_isGood_14 rfl ?_
    refine x_iload_n dX7_isGood_15 rfl ?_
    refine x_bipush (v := 20) dX7_isGood_16 (by decide) ?_
    refine x_iload_n dX7_isGood_18 rfl ?_
    refine x_iadd dX7_isGood_19 ?_
    rw [ad20]
    refine x_callp [0, 1, 2, 3, 4, 5] (x_iV dX7_isGood_20 mlX7_29 lbX7_of rfl rfl rfl rfl) (kX7_of l g _ _ _ _ _ _ f (20 + i) hf (by omega)) (by decide) rfl rfl (by decide) (by decide) (by simp [Value.category]) rfl rfl (by decide +kernel) ?_
    refine x_if_ne (tgt := 38) dX7_isGood_23 (by decide) (fun c_23 => ?_) (fun c_23 => ?_)
    · refine x_iconst (v := 0) dX7_isGood_38 (by decide) ?_
      exact x_retz dX7_isGood_39 rfl (rfl) rfl rfl (⟨by (try simp only [b2i_eq0, b2i_ne0] at *); simp [mGd, b2i, *], rfl⟩)
    · refine x_aload_n dX7_isGood_26 rfl ?_
      refine x_iload_n dX7_isGood_27 rfl ?_
      refine x_callp [0, 1, 2, 3, 4, 5] (x_iV dX7_isGood_28 mlX7_51 lbX7_isOnline rfl rfl rfl rfl) (kX7_isOnline l g _ _ _ _ _ _ _ (((hM f hf).2 i hi).resolve_left c_11)) (by decide) rfl rfl (by decide) (by decide) (by simp [Value.category]) rfl rfl (by decide +kernel) ?_
      refine x_if_eq (tgt := 38) dX7_isGood_31 (by decide) (fun c_31 => ?_) (fun c_31 => ?_)
      · refine x_iconst (v := 0) dX7_isGood_38 (by decide) ?_
        exact x_retz dX7_isGood_39 rfl (rfl) rfl rfl (⟨by (try simp only [b2i_eq0, b2i_ne0] at *); simp [mGd, b2i, *], rfl⟩)
      · refine x_iconst (v := 1) dX7_isGood_34 (by decide) ?_
        refine x_goto (tgt := 39) dX7_isGood_35 (by decide) ?_
        exact x_retz dX7_isGood_39 rfl (rfl) rfl rfl (⟨by (try simp only [b2i_eq0, b2i_ne0] at *); simp [mGd, b2i, *], rfl⟩)

set_option maxRecDepth 100000 in
set_option maxHeartbeats 4000000 in
theorem lpX7_good (l : Launch) (g : XG) (N A Z B : Nat → Int32) (u : Int32) (L : Nat → Int32) (f : Nat) (hf : f < 8) (hM : MOk N) : XA l g MX7_good (Qp (mGn N f) (wM N A Z B u L)) 4 ((fun i => [some (.ref 0), some (.int (nI f)), some (.int (nI (cntB (fun i => mGd N f i) i))), some (.int (nI i))]) 0) ((fun _ => []) 0) ((fun _ => wM N A Z B u L) 0) 0 0 := by
  refine x_for (cl (mFr N f)) (fun _ => True) (fun i => [some (.ref 0), some (.int (nI f)), some (.int (nI (cntB (fun i => mGd N f i) i))), some (.int (nI i))]) (fun _ => []) (fun _ => wM N A Z B u L) trivial (fun i hi hp ih => ?_) (fun hp => ?_)
  · refine x_iload_n dX7_good_4 rfl ?_
    refine x_aload_n dX7_good_5 rfl ?_
    refine x_iload_n dX7_good_6 rfl ?_
    refine x_callp [0, 1, 2, 3, 4, 5] (x_iV dX7_good_7 mlX7_47 lbX7_fragments rfl rfl rfl rfl) (kX7_fragments l g _ _ _ _ _ _ f hf) (by decide) rfl rfl (by decide) (by decide) (by simp [Value.category]) rfl rfl (by decide +kernel) ?_
    refine x_icmp_ge_f (tgt := 36) dX7_good_10 (by decide) (nge_cl hi) ?_
    refine x_iload_n dX7_good_13 rfl ?_
    refine x_aload_n dX7_good_14 rfl ?_
    refine x_iload_n dX7_good_15 rfl ?_
    refine x_iload_n dX7_good_16 rfl ?_
    refine x_callp [0, 1, 2, 3, 4, 5] (x_iV dX7_good_17 mlX7_54 lbX7_isGood rfl rfl rfl rfl) (kX7_isGood l g _ _ _ _ _ _ f i hf (by have := (hM f hf).1; have : i < cl (N (192 + 30 * f + 2) + N (192 + 30 * f + 3)) := hi; omega) hM) (by decide) rfl rfl (by decide) (by decide) (by simp [Value.category]) rfl rfl (by decide +kernel) ?_
    refine x_if_eq (tgt := 27) dX7_good_20 (by decide) (fun c_20 => ?_) (fun c_20 => ?_)
    · refine x_iconst (v := 0) dX7_good_27 (by decide) ?_
      refine x_iadd dX7_good_28 ?_
      first | rw [nI_1] | rw [Int32.add_zero]
      refine x_istore_n dX7_good_29 (by decide) ?_
      first | refine x_iinc dX7_good_30 (by decide) rfl (nI_inc _) ?_ | refine x_iinc dX7_good_30 (by decide) rfl (inc_1 _) ?_
      refine x_goto (tgt := 4) dX7_good_33 (by decide) ?_
      (try simp only [b2i_eq0, b2i_ne0] at *)
      exact x_eq (ih trivial) (by simp [cntB, *]) rfl rfl
    · refine x_iconst (v := 1) dX7_good_23 (by decide) ?_
      refine x_goto (tgt := 28) dX7_good_24 (by decide) ?_
      refine x_iadd dX7_good_28 ?_
      first | rw [nI_1] | rw [Int32.add_zero]
      refine x_istore_n dX7_good_29 (by decide) ?_
      first | refine x_iinc dX7_good_30 (by decide) rfl (nI_inc _) ?_ | refine x_iinc dX7_good_30 (by decide) rfl (inc_1 _) ?_
      refine x_goto (tgt := 4) dX7_good_33 (by decide) ?_
      (try simp only [b2i_eq0, b2i_ne0] at *)
      exact x_eq (ih trivial) (by simp [cntB, *]) rfl rfl
  · refine x_iload_n dX7_good_4 rfl ?_
    refine x_aload_n dX7_good_5 rfl ?_
    refine x_iload_n dX7_good_6 rfl ?_
    refine x_callp [0, 1, 2, 3, 4, 5] (x_iV dX7_good_7 mlX7_47 lbX7_fragments rfl rfl rfl rfl) (kX7_fragments l g _ _ _ _ _ _ f hf) (by decide) rfl rfl (by decide) (by decide) (by simp [Value.category]) rfl rfl (by decide +kernel) ?_
    refine x_icmp_ge_t (tgt := 36) dX7_good_10 (by decide) (ge_cl) ?_
    refine x_iload_n dX7_good_36 rfl ?_
    exact x_reti dX7_good_37 rfl rfl rfl (⟨rfl, rfl⟩)

set_option maxRecDepth 100000 in
set_option maxHeartbeats 4000000 in
theorem kX7_good (l : Launch) (g : XG) (N A Z B : Nat → Int32) (u : Int32) (L : Nat → Int32) (f : Nat) (hf : f < 8) (hM : MOk N) : Ct l g MX7_good [.ref 0, .int (nI f)] (wM N A Z B u L) (Qp (mGn N f) (wM N A Z B u L)) := by
  refine Ct_of (by decide) (by simp [Value.category]) (Nat.le_of_ble_eq_true rfl) ?_
  refine x_iconst (v := 0) dX7_good_0 (by decide) ?_
  refine x_istore_n dX7_good_1 (by decide) ?_
  refine x_iconst (v := 0) dX7_good_2 (by decide) ?_
  refine x_istore_n dX7_good_3 (by decide) ?_
  exact lpX7_good l g N A Z B u L f hf hM

set_option maxRecDepth 100000 in
set_option maxHeartbeats 4000000 in
theorem kX7_isSafe (l : Launch) (g : XG) (N A Z B : Nat → Int32) (u : Int32) (L : Nat → Int32) (f : Nat) (hf : f < 8) (hM : MOk N) : Ct l g MX7_isSafe [.ref 0, .int (nI f)] (wM N A Z B u L) (Qp (b2i (mSf N f)) (wM N A Z B u L)) := by
  refine Ct_of (by decide) (by simp [Value.category]) (Nat.le_of_ble_eq_true rfl) ?_
  refine x_aload_n dX7_isSafe_0 rfl ?_
  refine x_iload_n dX7_isSafe_1 rfl ?_
  refine x_callp [0, 1, 2, 3, 4, 5] (x_iV dX7_isSafe_2 mlX7_58 lbX7_good rfl rfl rfl rfl) (kX7_good l g _ _ _ _ _ _ f hf hM) (by decide) rfl rfl (by decide) (by decide) (by simp [Value.category]) rfl rfl (by decide +kernel) ?_
  refine x_aload_n dX7_isSafe_5 rfl ?_
  refine x_iload_n dX7_isSafe_6 rfl ?_
  refine x_iconst (v := 2) dX7_isSafe_7 (by decide) ?_
  refine x_callp [0, 1, 2, 3, 4, 5] (x_iV dX7_isSafe_8 mlX7_29 lbX7_of rfl rfl rfl rfl) (kX7_of l g _ _ _ _ _ _ f 2 hf (by omega)) (by decide) rfl rfl (by decide) (by decide) (by simp [Value.category]) rfl rfl (by decide +kernel) ?_
  refine x_icmp_lt (tgt := 18) dX7_isSafe_11 (by decide) (fun c_11 => ?_) (fun c_11 => ?_)
  · refine x_iconst (v := 0) dX7_isSafe_18 (by decide) ?_
    exact x_retz dX7_isSafe_19 rfl (rfl) rfl rfl (⟨by (try simp only [b2i_eq0, b2i_ne0] at *); simp [mSf, b2i, *], rfl⟩)
  · refine x_iconst (v := 1) dX7_isSafe_14 (by decide) ?_
    refine x_goto (tgt := 19) dX7_isSafe_15 (by decide) ?_
    exact x_retz dX7_isSafe_19 rfl (rfl) rfl rfl (⟨by (try simp only [b2i_eq0, b2i_ne0] at *); simp [mSf, b2i, *], rfl⟩)

def mOw (N : Nat → Int32) (p : Int32) : Int32 := nI (cntB (fun f => mFi N (nI f) && decide (N (192 + 30 * f + 1) = p)) 8)
def mFs (N : Nat → Int32) : Int32 := nI (cntB (fun f => mFi N (nI f)) 8)
def mSt (N : Nat → Int32) (f : Nat) : Int32 := nI (cntB (fun i => decide (¬ N (192 + 30 * f + (10 + i)) < 0)) (cl (mFr N f)))
def mHas (N : Nat → Int32) (p : Int32) (f : Nat) : Nat → Bool
  | 0 => false
  | i + 1 => mHas N p f i || decide (N (192 + 30 * f + (10 + i)) = p)
def mSs (N : Nat → Int32) (p : Int32) (f : Nat) : Bool := mHas N p f (cl (mFr N f))

set_option maxRecDepth 100000 in
set_option maxHeartbeats 4000000 in
theorem lpX7_owned (l : Launch) (g : XG) (N A Z B : Nat → Int32) (u : Int32) (L : Nat → Int32) (p : Int32)  : XA l g MX7_owned (Qp (mOw N p) (wM N A Z B u L)) 4 ((fun i => [some (.ref 0), some (.int p), some (.int (nI (cntB (fun f => mFi N (nI f) && decide (N (192 + 30 * f + 1) = p)) i))), some (.int (nI i))]) 0) ((fun _ => []) 0) ((fun _ => wM N A Z B u L) 0) 0 0 := by
  refine x_for 8 (fun _ => True) (fun i => [some (.ref 0), some (.int p), some (.int (nI (cntB (fun f => mFi N (nI f) && decide (N (192 + 30 * f + 1) = p)) i))), some (.int (nI i))]) (fun _ => []) (fun _ => wM N A Z B u L) trivial (fun i hi hp ih => ?_) (fun hp => ?_)
  · refine x_iload_n dX7_owned_4 rfl ?_
    refine x_bipush (v := 8) dX7_owned_5 (by decide) ?_
    refine x_icmp_ge_f (tgt := 42) dX7_owned_7 (by decide) (nI_nle_of rfl (by decide) hi) ?_
    refine x_iload_n dX7_owned_10 rfl ?_
    refine x_aload_n dX7_owned_11 rfl ?_
    refine x_iload_n dX7_owned_12 rfl ?_
    refine x_callp [0, 1, 2, 3, 4, 5] (x_iV dX7_owned_13 mlX7_43 lbX7_isFile rfl rfl rfl rfl) (kX7_isFile l g _ _ _ _ _ _ _) (by decide) rfl rfl (by decide) (by decide) (by simp [Value.category]) rfl rfl (by decide +kernel) ?_
    refine x_if_eq (tgt := 33) dX7_owned_16 (by decide) (fun c_16 => ?_) (fun c_16 => ?_)
    · refine x_iconst (v := 0) dX7_owned_33 (by decide) ?_
      refine x_iadd dX7_owned_34 ?_
      first | rw [nI_1] | rw [Int32.add_zero]
      refine x_istore_n dX7_owned_35 (by decide) ?_
      first | refine x_iinc dX7_owned_36 (by decide) rfl (nI_inc _) ?_ | refine x_iinc dX7_owned_36 (by decide) rfl (inc_1 _) ?_
      refine x_goto (tgt := 4) dX7_owned_39 (by decide) ?_
      (try simp only [b2i_eq0, b2i_ne0] at *)
      exact x_eq (ih trivial) (by simp [cntB, *]) rfl rfl
    · refine x_aload_n dX7_owned_19 rfl ?_
      refine x_iload_n dX7_owned_20 rfl ?_
      refine x_iconst (v := 1) dX7_owned_21 (by decide) ?_
      refine x_callp [0, 1, 2, 3, 4, 5] (x_iV dX7_owned_22 mlX7_29 lbX7_of rfl rfl rfl rfl) (kX7_of l g _ _ _ _ _ _ i 1 hi (by omega)) (by decide) rfl rfl (by decide) (by decide) (by simp [Value.category]) rfl rfl (by decide +kernel) ?_
      refine x_iload_n dX7_owned_25 rfl ?_
      refine x_icmp_ne (tgt := 33) dX7_owned_26 (by decide) (fun c_26 => ?_) (fun c_26 => ?_)
      · refine x_iconst (v := 0) dX7_owned_33 (by decide) ?_
        refine x_iadd dX7_owned_34 ?_
        first | rw [nI_1] | rw [Int32.add_zero]
        refine x_istore_n dX7_owned_35 (by decide) ?_
        first | refine x_iinc dX7_owned_36 (by decide) rfl (nI_inc _) ?_ | refine x_iinc dX7_owned_36 (by decide) rfl (inc_1 _) ?_
        refine x_goto (tgt := 4) dX7_owned_39 (by decide) ?_
        (try simp only [b2i_eq0, b2i_ne0] at *)
        exact x_eq (ih trivial) (by simp [cntB, *]) rfl rfl
      · refine x_iconst (v := 1) dX7_owned_29 (by decide) ?_
        refine x_goto (tgt := 34) dX7_owned_30 (by decide) ?_
        refine x_iadd dX7_owned_34 ?_
        first | rw [nI_1] | rw [Int32.add_zero]
        refine x_istore_n dX7_owned_35 (by decide) ?_
        first | refine x_iinc dX7_owned_36 (by decide) rfl (nI_inc _) ?_ | refine x_iinc dX7_owned_36 (by decide) rfl (inc_1 _) ?_
        refine x_goto (tgt := 4) dX7_owned_39 (by decide) ?_
        (try simp only [b2i_eq0, b2i_ne0] at *)
        exact x_eq (ih trivial) (by simp [cntB, *]) rfl rfl
  · refine x_iload_n dX7_owned_4 rfl ?_
    refine x_bipush (v := 8) dX7_owned_5 (by decide) ?_
    refine x_icmp_ge_t (tgt := 42) dX7_owned_7 (by decide) (nI_le_of rfl (by decide) (Nat.le_refl _)) ?_
    refine x_iload_n dX7_owned_42 rfl ?_
    exact x_reti dX7_owned_43 rfl rfl rfl (⟨rfl, rfl⟩)

set_option maxRecDepth 100000 in
set_option maxHeartbeats 4000000 in
theorem kX7_owned (l : Launch) (g : XG) (N A Z B : Nat → Int32) (u : Int32) (L : Nat → Int32) (p : Int32) : Ct l g MX7_owned [.ref 0, .int p] (wM N A Z B u L) (Qp (mOw N p) (wM N A Z B u L)) := by
  refine Ct_of (by decide) (by simp [Value.category]) (Nat.le_of_ble_eq_true rfl) ?_
  refine x_iconst (v := 0) dX7_owned_0 (by decide) ?_
  refine x_istore_n dX7_owned_1 (by decide) ?_
  refine x_iconst (v := 0) dX7_owned_2 (by decide) ?_
  refine x_istore_n dX7_owned_3 (by decide) ?_
  exact lpX7_owned l g N A Z B u L p

set_option maxRecDepth 100000 in
set_option maxHeartbeats 4000000 in
theorem lpX7_files (l : Launch) (g : XG) (N A Z B : Nat → Int32) (u : Int32) (L : Nat → Int32)  : XA l g MX7_files (Qp (mFs N) (wM N A Z B u L)) 4 ((fun i => [some (.ref 0), some (.int (nI (cntB (fun f => mFi N (nI f)) i))), some (.int (nI i))]) 0) ((fun _ => []) 0) ((fun _ => wM N A Z B u L) 0) 0 0 := by
  refine x_for 8 (fun _ => True) (fun i => [some (.ref 0), some (.int (nI (cntB (fun f => mFi N (nI f)) i))), some (.int (nI i))]) (fun _ => []) (fun _ => wM N A Z B u L) trivial (fun i hi hp ih => ?_) (fun hp => ?_)
  · refine x_iload_n dX7_files_4 rfl ?_
    refine x_bipush (v := 8) dX7_files_5 (by decide) ?_
    refine x_icmp_ge_f (tgt := 32) dX7_files_7 (by decide) (nI_nle_of rfl (by decide) hi) ?_
    refine x_iload_n dX7_files_10 rfl ?_
    refine x_aload_n dX7_files_11 rfl ?_
    refine x_iload_n dX7_files_12 rfl ?_
    refine x_callp [0, 1, 2, 3, 4, 5] (x_iV dX7_files_13 mlX7_43 lbX7_isFile rfl rfl rfl rfl) (kX7_isFile l g _ _ _ _ _ _ _) (by decide) rfl rfl (by decide) (by decide) (by simp [Value.category]) rfl rfl (by decide +kernel) ?_
    refine x_if_eq (tgt := 23) dX7_files_16 (by decide) (fun c_16 => ?_) (fun c_16 => ?_)
    · refine x_iconst (v := 0) dX7_files_23 (by decide) ?_
      refine x_iadd dX7_files_24 ?_
      first | rw [nI_1] | rw [Int32.add_zero]
      refine x_istore_n dX7_files_25 (by decide) ?_
      first | refine x_iinc dX7_files_26 (by decide) rfl (nI_inc _) ?_ | refine x_iinc dX7_files_26 (by decide) rfl (inc_1 _) ?_
      refine x_goto (tgt := 4) dX7_files_29 (by decide) ?_
      (try simp only [b2i_eq0, b2i_ne0] at *)
      exact x_eq (ih trivial) (by simp [cntB, *]) rfl rfl
    · refine x_iconst (v := 1) dX7_files_19 (by decide) ?_
      refine x_goto (tgt := 24) dX7_files_20 (by decide) ?_
      refine x_iadd dX7_files_24 ?_
      first | rw [nI_1] | rw [Int32.add_zero]
      refine x_istore_n dX7_files_25 (by decide) ?_
      first | refine x_iinc dX7_files_26 (by decide) rfl (nI_inc _) ?_ | refine x_iinc dX7_files_26 (by decide) rfl (inc_1 _) ?_
      refine x_goto (tgt := 4) dX7_files_29 (by decide) ?_
      (try simp only [b2i_eq0, b2i_ne0] at *)
      exact x_eq (ih trivial) (by simp [cntB, *]) rfl rfl
  · refine x_iload_n dX7_files_4 rfl ?_
    refine x_bipush (v := 8) dX7_files_5 (by decide) ?_
    refine x_icmp_ge_t (tgt := 32) dX7_files_7 (by decide) (nI_le_of rfl (by decide) (Nat.le_refl _)) ?_
    refine x_iload_n dX7_files_32 rfl ?_
    exact x_reti dX7_files_33 rfl rfl rfl (⟨rfl, rfl⟩)

set_option maxRecDepth 100000 in
set_option maxHeartbeats 4000000 in
theorem kX7_files (l : Launch) (g : XG) (N A Z B : Nat → Int32) (u : Int32) (L : Nat → Int32) : Ct l g MX7_files [.ref 0] (wM N A Z B u L) (Qp (mFs N) (wM N A Z B u L)) := by
  refine Ct_of (by decide) (by simp [Value.category]) (Nat.le_of_ble_eq_true rfl) ?_
  refine x_iconst (v := 0) dX7_files_0 (by decide) ?_
  refine x_istore_n dX7_files_1 (by decide) ?_
  refine x_iconst (v := 0) dX7_files_2 (by decide) ?_
  refine x_istore_n dX7_files_3 (by decide) ?_
  exact lpX7_files l g N A Z B u L

set_option maxRecDepth 100000 in
set_option maxHeartbeats 4000000 in
theorem lpX7_storedOf (l : Launch) (g : XG) (N A Z B : Nat → Int32) (u : Int32) (L : Nat → Int32) (f : Nat) (hf : f < 8) (hM : MOk N) : XA l g MX7_storedOf (Qp (mSt N f) (wM N A Z B u L)) 4 ((fun i => [some (.ref 0), some (.int (nI f)), some (.int (nI (cntB (fun i => decide (¬ N (192 + 30 * f + (10 + i)) < 0)) i))), some (.int (nI i))]) 0) ((fun _ => []) 0) ((fun _ => wM N A Z B u L) 0) 0 0 := by
  refine x_for (cl (mFr N f)) (fun _ => True) (fun i => [some (.ref 0), some (.int (nI f)), some (.int (nI (cntB (fun i => decide (¬ N (192 + 30 * f + (10 + i)) < 0)) i))), some (.int (nI i))]) (fun _ => []) (fun _ => wM N A Z B u L) trivial (fun i hi hp ih => ?_) (fun hp => ?_)
  · refine x_iload_n dX7_storedOf_4 rfl ?_
    refine x_aload_n dX7_storedOf_5 rfl ?_
    refine x_iload_n dX7_storedOf_6 rfl ?_
    refine x_callp [0, 1, 2, 3, 4, 5] (x_iV dX7_storedOf_7 mlX7_47 lbX7_fragments rfl rfl rfl rfl) (kX7_fragments l g _ _ _ _ _ _ f hf) (by decide) rfl rfl (by decide) (by decide) (by simp [Value.category]) rfl rfl (by decide +kernel) ?_
    refine x_icmp_ge_f (tgt := 39) dX7_storedOf_10 (by decide) (nge_cl hi) ?_
    refine x_iload_n dX7_storedOf_13 rfl ?_
    refine x_aload_n dX7_storedOf_14 rfl ?_
    refine x_iload_n dX7_storedOf_15 rfl ?_
    refine x_bipush (v := 10) dX7_storedOf_16 (by decide) ?_
    refine x_iload_n dX7_storedOf_18 rfl ?_
    refine x_iadd dX7_storedOf_19 ?_
    rw [ad10]
    refine x_callp [0, 1, 2, 3, 4, 5] (x_iV dX7_storedOf_20 mlX7_29 lbX7_of rfl rfl rfl rfl) (kX7_of l g _ _ _ _ _ _ f (10 + i) hf (by have h1 := (hM f hf).1; have h2 : i < cl (N (192 + 30 * f + 2) + N (192 + 30 * f + 3)) := hi; omega)) (by decide) rfl rfl (by decide) (by decide) (by simp [Value.category]) rfl rfl (by decide +kernel) ?_
    refine x_if_lt (tgt := 30) dX7_storedOf_23 (by decide) (fun c_23 => ?_) (fun c_23 => ?_)
    · refine x_iconst (v := 0) dX7_storedOf_30 (by decide) ?_
      refine x_iadd dX7_storedOf_31 ?_
      first | rw [nI_1] | rw [Int32.add_zero]
      refine x_istore_n dX7_storedOf_32 (by decide) ?_
      first | refine x_iinc dX7_storedOf_33 (by decide) rfl (nI_inc _) ?_ | refine x_iinc dX7_storedOf_33 (by decide) rfl (inc_1 _) ?_
      refine x_goto (tgt := 4) dX7_storedOf_36 (by decide) ?_
      exact x_eq (ih trivial) (by simp [cntB, *]) rfl rfl
    · refine x_iconst (v := 1) dX7_storedOf_26 (by decide) ?_
      refine x_goto (tgt := 31) dX7_storedOf_27 (by decide) ?_
      refine x_iadd dX7_storedOf_31 ?_
      first | rw [nI_1] | rw [Int32.add_zero]
      refine x_istore_n dX7_storedOf_32 (by decide) ?_
      first | refine x_iinc dX7_storedOf_33 (by decide) rfl (nI_inc _) ?_ | refine x_iinc dX7_storedOf_33 (by decide) rfl (inc_1 _) ?_
      refine x_goto (tgt := 4) dX7_storedOf_36 (by decide) ?_
      exact x_eq (ih trivial) (by simp [cntB, *]) rfl rfl
  · refine x_iload_n dX7_storedOf_4 rfl ?_
    refine x_aload_n dX7_storedOf_5 rfl ?_
    refine x_iload_n dX7_storedOf_6 rfl ?_
    refine x_callp [0, 1, 2, 3, 4, 5] (x_iV dX7_storedOf_7 mlX7_47 lbX7_fragments rfl rfl rfl rfl) (kX7_fragments l g _ _ _ _ _ _ f hf) (by decide) rfl rfl (by decide) (by decide) (by simp [Value.category]) rfl rfl (by decide +kernel) ?_
    refine x_icmp_ge_t (tgt := 39) dX7_storedOf_10 (by decide) (ge_cl) ?_
    refine x_iload_n dX7_storedOf_39 rfl ?_
    exact x_reti dX7_storedOf_40 rfl rfl rfl (⟨rfl, rfl⟩)

set_option maxRecDepth 100000 in
set_option maxHeartbeats 4000000 in
theorem kX7_storedOf (l : Launch) (g : XG) (N A Z B : Nat → Int32) (u : Int32) (L : Nat → Int32) (f : Nat) (hf : f < 8) (hM : MOk N) : Ct l g MX7_storedOf [.ref 0, .int (nI f)] (wM N A Z B u L) (Qp (mSt N f) (wM N A Z B u L)) := by
  refine Ct_of (by decide) (by simp [Value.category]) (Nat.le_of_ble_eq_true rfl) ?_
  refine x_iconst (v := 0) dX7_storedOf_0 (by decide) ?_
  refine x_istore_n dX7_storedOf_1 (by decide) ?_
  refine x_iconst (v := 0) dX7_storedOf_2 (by decide) ?_
  refine x_istore_n dX7_storedOf_3 (by decide) ?_
  exact lpX7_storedOf l g N A Z B u L f hf hM

set_option maxRecDepth 100000 in
set_option maxHeartbeats 4000000 in
theorem lpX7_stores (l : Launch) (g : XG) (N A Z B : Nat → Int32) (u : Int32) (L : Nat → Int32) (p : Int32) (f : Nat) (hf : f < 8) (hM : MOk N) : XA l g MX7_stores (Qp (b2i (mSs N p f)) (wM N A Z B u L)) 5 ((fun i => [some (.ref 0), some (.int p), some (.int (nI f)), some (.int (b2i (mHas N p f i))), some (.int (nI i))]) 0) ((fun _ => []) 0) ((fun _ => wM N A Z B u L) 0) 0 0 := by
  refine x_for (cl (mFr N f)) (fun _ => True) (fun i => [some (.ref 0), some (.int p), some (.int (nI f)), some (.int (b2i (mHas N p f i))), some (.int (nI i))]) (fun _ => []) (fun _ => wM N A Z B u L) trivial (fun i hi hp ih => ?_) (fun hp => ?_)
  · refine x_iload dX7_stores_5 rfl ?_
    refine x_aload_n dX7_stores_7 rfl ?_
    refine x_iload_n dX7_stores_8 rfl ?_
    refine x_callp [0, 1, 2, 3, 4, 5] (x_iV dX7_stores_9 mlX7_47 lbX7_fragments rfl rfl rfl rfl) (kX7_fragments l g _ _ _ _ _ _ f hf) (by decide) rfl rfl (by decide) (by decide) (by simp [Value.category]) rfl rfl (by decide +kernel) ?_
    refine x_icmp_ge_f (tgt := 45) dX7_stores_12 (by decide) (nge_cl hi) ?_
    refine x_iload_n dX7_stores_15 rfl ?_
    refine x_if_ne (tgt := 33) dX7_stores_16 (by decide) (fun c_16 => ?_) (fun c_16 => ?_)
    · refine x_iconst (v := 1) dX7_stores_33 (by decide) ?_
      refine x_goto (tgt := 38) dX7_stores_34 (by decide) ?_
      refine x_istore_n dX7_stores_38 (by decide) ?_
      first | refine x_iinc dX7_stores_39 (by decide) rfl (nI_inc _) ?_ | refine x_iinc dX7_stores_39 (by decide) rfl (inc_1 _) ?_
      refine x_goto (tgt := 5) dX7_stores_42 (by decide) ?_
      (try simp only [b2i_eq0, b2i_ne0] at *)
      exact x_eq (ih trivial) (by simp [mHas, b2i, *] <;> rfl) rfl rfl
    · refine x_aload_n dX7_stores_19 rfl ?_
      refine x_iload_n dX7_stores_20 rfl ?_
      refine x_bipush (v := 10) dX7_stores_21 (by decide) ?_
      refine x_iload dX7_stores_23 rfl ?_
      refine x_iadd dX7_stores_25 ?_
      rw [ad10]
      refine x_callp [0, 1, 2, 3, 4, 5] (x_iV dX7_stores_26 mlX7_29 lbX7_of rfl rfl rfl rfl) (kX7_of l g _ _ _ _ _ _ f (10 + i) hf (by have h1 := (hM f hf).1; have h2 : i < cl (N (192 + 30 * f + 2) + N (192 + 30 * f + 3)) := hi; omega)) (by decide) rfl rfl (by decide) (by decide) (by simp [Value.category]) rfl rfl (by decide +kernel) ?_
      refine x_iload_n dX7_stores_29 rfl ?_
      refine x_icmp_ne (tgt := 37) dX7_stores_30 (by decide) (fun c_30 => ?_) (fun c_30 => ?_)
      · refine x_iconst (v := 0) dX7_stores_37 (by decide) ?_
        refine x_istore_n dX7_stores_38 (by decide) ?_
        first | refine x_iinc dX7_stores_39 (by decide) rfl (nI_inc _) ?_ | refine x_iinc dX7_stores_39 (by decide) rfl (inc_1 _) ?_
        refine x_goto (tgt := 5) dX7_stores_42 (by decide) ?_
        (try simp only [b2i_eq0, b2i_ne0] at *)
        exact x_eq (ih trivial) (by simp [mHas, b2i, *] <;> rfl) rfl rfl
      · refine x_iconst (v := 1) dX7_stores_33 (by decide) ?_
        refine x_goto (tgt := 38) dX7_stores_34 (by decide) ?_
        refine x_istore_n dX7_stores_38 (by decide) ?_
        first | refine x_iinc dX7_stores_39 (by decide) rfl (nI_inc _) ?_ | refine x_iinc dX7_stores_39 (by decide) rfl (inc_1 _) ?_
        refine x_goto (tgt := 5) dX7_stores_42 (by decide) ?_
        (try simp only [b2i_eq0, b2i_ne0] at *)
        exact x_eq (ih trivial) (by simp [mHas, b2i, *] <;> rfl) rfl rfl
  · refine x_iload dX7_stores_5 rfl ?_
    refine x_aload_n dX7_stores_7 rfl ?_
    refine x_iload_n dX7_stores_8 rfl ?_
    refine x_callp [0, 1, 2, 3, 4, 5] (x_iV dX7_stores_9 mlX7_47 lbX7_fragments rfl rfl rfl rfl) (kX7_fragments l g _ _ _ _ _ _ f hf) (by decide) rfl rfl (by decide) (by decide) (by simp [Value.category]) rfl rfl (by decide +kernel) ?_
    refine x_icmp_ge_t (tgt := 45) dX7_stores_12 (by decide) (ge_cl) ?_
    refine x_iload_n dX7_stores_45 rfl ?_
    exact x_retz dX7_stores_46 rfl (b2i_narrow _) rfl rfl (⟨rfl, rfl⟩)

set_option maxRecDepth 100000 in
set_option maxHeartbeats 4000000 in
theorem kX7_stores (l : Launch) (g : XG) (N A Z B : Nat → Int32) (u : Int32) (L : Nat → Int32) (p : Int32) (f : Nat) (hf : f < 8) (hM : MOk N) : Ct l g MX7_stores [.ref 0, .int p, .int (nI f)] (wM N A Z B u L) (Qp (b2i (mSs N p f)) (wM N A Z B u L)) := by
  refine Ct_of (by decide) (by simp [Value.category]) (Nat.le_of_ble_eq_true rfl) ?_
  refine x_iconst (v := 0) dX7_stores_0 (by decide) ?_
  refine x_istore_n dX7_stores_1 (by decide) ?_
  refine x_iconst (v := 0) dX7_stores_2 (by decide) ?_
  refine x_istore dX7_stores_3 (by decide) ?_
  exact lpX7_stores l g N A Z B u L p f hf hM
