/-! ===== the peers ===== -/
def inB (p n : Int32) : Bool := decide (¬ p < 0) && decide (¬ n ≤ p)
def exB (S : MS) (p : Int32) : Bool := inB p 12 && decide (¬ S 0 (cl p) ≤ 0)
def onB (S : MS) (p : Int32) : Bool := inB p 12 && decide (S 1 (cl p) = 1)
def twoB (S : MS) (p q : Int32) : Bool := decide (¬ p = q) && exB S p && exB S q
def frI (S : MS) (p : Int32) : Int32 := if inB p 12 then S 0 (cl p) - S 3 (cl p) else 0
def owI (S : MS) (p q : Int32) : Int32 := if twoB S p q then S 4 (12 * cl p + cl q) else 0
def betB (S : MS) (p t : Int32) : Bool := if exB S t then (if exB S p then (if S 2 (cl p) = S 2 (cl t) then decide (frI S t < frI S p) else decide (S 2 (cl t) < S 2 (cl p))) else false) else true
theorem exB_in {S : MS} {p : Int32} (h : exB S p = true) : vp_in p 12 := by
  simp only [exB, inB, Bool.and_eq_true, decide_eq_true_eq] at h
  exact vin_of 12 (by decide) rfl h.1.1 h.1.2
def sAdd (S : MS) (p u : Int32) : MS := cond (inB p 12) (us (us (us S 0 (cl p) u) 1 (cl p) 1) 2 (cl p) 50) S
def sLoad (S : MS) (p n : Int32) : MS := cond (exB S p) (us S 3 (cl p) (S 3 (cl p) + n)) S
def cap100 (x : Int32) : Int32 := if 100 < x then 100 else x
def sRaise (S : MS) (p : Int32) : MS := cond (exB S p) (us S 2 (cl p) (cap100 (S 2 (cl p) + 5))) S
def sHalve (S : MS) (p : Int32) : MS := cond (exB S p) (us S 2 (cl p) (S 2 (cl p) / 2)) S
def sOwe (S : MS) (d c a : Int32) : MS := cond (decide (¬ d = c) && exB S d && exB S c) (us (us S 4 (12 * cl d + cl c) (S 4 (12 * cl d + cl c) + a)) 4 (12 * cl c + cl d) ((us S 4 (12 * cl d + cl c) (S 4 (12 * cl d + cl c) + a)) 4 (12 * cl c + cl d) - a)) S

set_option maxRecDepth 100000 in
set_option maxHeartbeats 4000000 in
theorem kX4_exists (l : Launch) (g : XG) (S : MS) (p : Int32) : Ct l g MX4_exists [.ref 0, .int p] (wP S) (Qp (b2i (exB S p)) (wP S)) := by
  refine Ct_of (by decide) (by simp [Value.category]) (Nat.le_of_ble_eq_true rfl) ?_
  refine x_iload_n dX4_exists_0 rfl ?_
  refine x_if_lt (tgt := 23) dX4_exists_1 (by decide) (fun c_1 => ?_) (fun c_1 => ?_)
  · refine x_iconst (v := 0) dX4_exists_23 (by decide) ?_
    exact x_retz dX4_exists_24 rfl (rfl) rfl rfl (⟨by (try simp only [b2i_eq0, b2i_ne0] at *); simp [exB, inB, b2i, *], rfl⟩)
  · refine x_iload_n dX4_exists_4 rfl ?_
    refine x_bipush (v := 12) dX4_exists_5 (by decide) ?_
    refine x_icmp_ge (tgt := 23) dX4_exists_7 (by decide) (fun c_7 => ?_) (fun c_7 => ?_)
    · refine x_iconst (v := 0) dX4_exists_23 (by decide) ?_
      exact x_retz dX4_exists_24 rfl (rfl) rfl rfl (⟨by (try simp only [b2i_eq0, b2i_ne0] at *); simp [exB, inB, b2i, *], rfl⟩)
    · refine x_aload_n dX4_exists_10 rfl ?_
      refine x_getf dX4_exists_11 flX4_9 rfl rfl ?_
      refine x_iload_n dX4_exists_14 rfl ?_
      refine x_iar dX4_exists_15 rfl (ix_of (vin_of 12 (by decide) rfl (by assumption) (by assumption))) ?_
      refine x_if_le (tgt := 23) dX4_exists_16 (by decide) (fun c_16 => ?_) (fun c_16 => ?_)
      · refine x_iconst (v := 0) dX4_exists_23 (by decide) ?_
        exact x_retz dX4_exists_24 rfl (rfl) rfl rfl (⟨by (try simp only [b2i_eq0, b2i_ne0] at *); simp [exB, inB, b2i, *], rfl⟩)
      · refine x_iconst (v := 1) dX4_exists_19 (by decide) ?_
        refine x_goto (tgt := 24) dX4_exists_20 (by decide) ?_
        exact x_retz dX4_exists_24 rfl (rfl) rfl rfl (⟨by (try simp only [b2i_eq0, b2i_ne0] at *); simp [exB, inB, b2i, *], rfl⟩)

set_option maxRecDepth 100000 in
set_option maxHeartbeats 4000000 in
theorem kX4_isOnline (l : Launch) (g : XG) (S : MS) (p : Int32) : Ct l g MX4_isOnline [.ref 0, .int p] (wP S) (Qp (b2i (onB S p)) (wP S)) := by
  refine Ct_of (by decide) (by simp [Value.category]) (Nat.le_of_ble_eq_true rfl) ?_
  refine x_iload_n dX4_isOnline_0 rfl ?_
  refine x_if_lt (tgt := 24) dX4_isOnline_1 (by decide) (fun c_1 => ?_) (fun c_1 => ?_)
  · refine x_iconst (v := 0) dX4_isOnline_24 (by decide) ?_
    exact x_retz dX4_isOnline_25 rfl (rfl) rfl rfl (⟨by (try simp only [b2i_eq0, b2i_ne0] at *); simp [onB, inB, b2i, *], rfl⟩)
  · refine x_iload_n dX4_isOnline_4 rfl ?_
    refine x_bipush (v := 12) dX4_isOnline_5 (by decide) ?_
    refine x_icmp_ge (tgt := 24) dX4_isOnline_7 (by decide) (fun c_7 => ?_) (fun c_7 => ?_)
    · refine x_iconst (v := 0) dX4_isOnline_24 (by decide) ?_
      exact x_retz dX4_isOnline_25 rfl (rfl) rfl rfl (⟨by (try simp only [b2i_eq0, b2i_ne0] at *); simp [onB, inB, b2i, *], rfl⟩)
    · refine x_aload_n dX4_isOnline_10 rfl ?_
      refine x_getf dX4_isOnline_11 flX4_15 rfl rfl ?_
      refine x_iload_n dX4_isOnline_14 rfl ?_
      refine x_iar dX4_isOnline_15 rfl (ix_of (vin_of 12 (by decide) rfl (by assumption) (by assumption))) ?_
      refine x_iconst (v := 1) dX4_isOnline_16 (by decide) ?_
      refine x_icmp_ne (tgt := 24) dX4_isOnline_17 (by decide) (fun c_17 => ?_) (fun c_17 => ?_)
      · refine x_iconst (v := 0) dX4_isOnline_24 (by decide) ?_
        exact x_retz dX4_isOnline_25 rfl (rfl) rfl rfl (⟨by (try simp only [b2i_eq0, b2i_ne0] at *); simp [onB, inB, b2i, *], rfl⟩)
      · refine x_iconst (v := 1) dX4_isOnline_20 (by decide) ?_
        refine x_goto (tgt := 25) dX4_isOnline_21 (by decide) ?_
        exact x_retz dX4_isOnline_25 rfl (rfl) rfl rfl (⟨by (try simp only [b2i_eq0, b2i_ne0] at *); simp [onB, inB, b2i, *], rfl⟩)

set_option maxRecDepth 100000 in
set_option maxHeartbeats 4000000 in
theorem kX4_freeSpace (l : Launch) (g : XG) (S : MS) (p : Int32) : Ct l g MX4_freeSpace [.ref 0, .int p] (wP S) (Qp (frI S p) (wP S)) := by
  refine Ct_of (by decide) (by simp [Value.category]) (Nat.le_of_ble_eq_true rfl) ?_
  refine x_iload_n dX4_freeSpace_0 rfl ?_
  refine x_if_lt (tgt := 26) dX4_freeSpace_1 (by decide) (fun c_1 => ?_) (fun c_1 => ?_)
  · refine x_iconst (v := 0) dX4_freeSpace_26 (by decide) ?_
    exact x_reti dX4_freeSpace_27 rfl rfl rfl (⟨by (try simp only [b2i_eq0, b2i_ne0] at *); simp [frI, inB, b2i, *], rfl⟩)
  · refine x_iload_n dX4_freeSpace_4 rfl ?_
    refine x_bipush (v := 12) dX4_freeSpace_5 (by decide) ?_
    refine x_icmp_ge (tgt := 26) dX4_freeSpace_7 (by decide) (fun c_7 => ?_) (fun c_7 => ?_)
    · refine x_iconst (v := 0) dX4_freeSpace_26 (by decide) ?_
      exact x_reti dX4_freeSpace_27 rfl rfl rfl (⟨by (try simp only [b2i_eq0, b2i_ne0] at *); simp [frI, inB, b2i, *], rfl⟩)
    · refine x_aload_n dX4_freeSpace_10 rfl ?_
      refine x_getf dX4_freeSpace_11 flX4_9 rfl rfl ?_
      refine x_iload_n dX4_freeSpace_14 rfl ?_
      refine x_iar dX4_freeSpace_15 rfl (ix_of (vin_of 12 (by decide) rfl (by assumption) (by assumption))) ?_
      refine x_aload_n dX4_freeSpace_16 rfl ?_
      refine x_getf dX4_freeSpace_17 flX4_21 rfl rfl ?_
      refine x_iload_n dX4_freeSpace_20 rfl ?_
      refine x_iar dX4_freeSpace_21 rfl (ix_of (vin_of 12 (by decide) rfl (by assumption) (by assumption))) ?_
      refine x_isub dX4_freeSpace_22 ?_
      refine x_goto (tgt := 27) dX4_freeSpace_23 (by decide) ?_
      exact x_reti dX4_freeSpace_27 rfl rfl rfl (⟨by (try simp only [b2i_eq0, b2i_ne0] at *); simp [frI, inB, b2i, *], rfl⟩)

set_option maxRecDepth 100000 in
set_option maxHeartbeats 4000000 in
theorem kX4_areTwo (l : Launch) (g : XG) (S : MS) (p q : Int32) : Ct l g MX4_areTwo [.ref 0, .int p, .int q] (wP S) (Qp (b2i (twoB S p q)) (wP S)) := by
  refine Ct_of (by decide) (by simp [Value.category]) (Nat.le_of_ble_eq_true rfl) ?_
  refine x_iload_n dX4_areTwo_0 rfl ?_
  refine x_iload_n dX4_areTwo_1 rfl ?_
  refine x_icmp_eq (tgt := 25) dX4_areTwo_2 (by decide) (fun c_2 => ?_) (fun c_2 => ?_)
  · refine x_iconst (v := 0) dX4_areTwo_25 (by decide) ?_
    exact x_retz dX4_areTwo_26 rfl (rfl) rfl rfl (⟨by (try simp only [b2i_eq0, b2i_ne0] at *); simp [twoB, b2i, *], rfl⟩)
  · refine x_aload_n dX4_areTwo_5 rfl ?_
    refine x_iload_n dX4_areTwo_6 rfl ?_
    refine x_callp [0, 1, 2, 3, 4, 5] (x_iV dX4_areTwo_7 mlX4_31 lbX4_exists rfl rfl rfl rfl) (kX4_exists l g _ _) (by decide) rfl rfl (by decide) (by decide) (by simp [Value.category]) rfl rfl (by decide +kernel) ?_
    refine x_if_eq (tgt := 25) dX4_areTwo_10 (by decide) (fun c_10 => ?_) (fun c_10 => ?_)
    · refine x_iconst (v := 0) dX4_areTwo_25 (by decide) ?_
      exact x_retz dX4_areTwo_26 rfl (rfl) rfl rfl (⟨by (try simp only [b2i_eq0, b2i_ne0] at *); simp [twoB, b2i, *], rfl⟩)
    · refine x_aload_n dX4_areTwo_13 rfl ?_
      refine x_iload_n dX4_areTwo_14 rfl ?_
      refine x_callp [0, 1, 2, 3, 4, 5] (x_iV dX4_areTwo_15 mlX4_31 lbX4_exists rfl rfl rfl rfl) (kX4_exists l g _ _) (by decide) rfl rfl (by decide) (by decide) (by simp [Value.category]) rfl rfl (by decide +kernel) ?_
      refine x_if_eq (tgt := 25) dX4_areTwo_18 (by decide) (fun c_18 => ?_) (fun c_18 => ?_)
      · refine x_iconst (v := 0) dX4_areTwo_25 (by decide) ?_
        exact x_retz dX4_areTwo_26 rfl (rfl) rfl rfl (⟨by (try simp only [b2i_eq0, b2i_ne0] at *); simp [twoB, b2i, *], rfl⟩)
      · refine x_iconst (v := 1) dX4_areTwo_21 (by decide) ?_
        refine x_goto (tgt := 26) dX4_areTwo_22 (by decide) ?_
        exact x_retz dX4_areTwo_26 rfl (rfl) rfl rfl (⟨by (try simp only [b2i_eq0, b2i_ne0] at *); simp [twoB, b2i, *], rfl⟩)

set_option maxRecDepth 100000 in
set_option maxHeartbeats 4000000 in
theorem lpX4_number (l : Launch) (g : XG) (S : MS)  : XA l g MX4_number (Qp (nI (cntB (fun p => exB S (nI p)) 12)) (wP S)) 4 ((fun i => [some (.ref 0), some (.int (nI (cntB (fun p => exB S (nI p)) i))), some (.int (nI i))]) 0) ((fun _ => []) 0) ((fun _ => wP S) 0) 0 0 := by
  refine x_for 12 (fun _ => True) (fun i => [some (.ref 0), some (.int (nI (cntB (fun p => exB S (nI p)) i))), some (.int (nI i))]) (fun _ => []) (fun _ => wP S) trivial (fun i hi hp ih => ?_) (fun hp => ?_)
  · refine x_iload_n dX4_number_4 rfl ?_
    refine x_bipush (v := 12) dX4_number_5 (by decide) ?_
    refine x_icmp_ge_f (tgt := 27) dX4_number_7 (by decide) (nI_nle_of rfl (by decide) hi) ?_
    refine x_aload_n dX4_number_10 rfl ?_
    refine x_iload_n dX4_number_11 rfl ?_
    refine x_callp [0, 1, 2, 3, 4, 5] (x_iV dX4_number_12 mlX4_31 lbX4_exists rfl rfl rfl rfl) (kX4_exists l g _ _) (by decide) rfl rfl (by decide) (by decide) (by simp [Value.category]) rfl rfl (by decide +kernel) ?_
    refine x_if_eq (tgt := 21) dX4_number_15 (by decide) (fun c_15 => ?_) (fun c_15 => ?_)
    · first | refine x_iinc dX4_number_21 (by decide) rfl (nI_inc _) ?_ | refine x_iinc dX4_number_21 (by decide) rfl (inc_1 _) ?_
      refine x_goto (tgt := 4) dX4_number_24 (by decide) ?_
      (try simp only [b2i_eq0, b2i_ne0] at *)
      exact x_eq (ih trivial) (by simp [cntB, *]) rfl rfl
    · first | refine x_iinc dX4_number_18 (by decide) rfl (nI_inc _) ?_ | refine x_iinc dX4_number_18 (by decide) rfl (inc_1 _) ?_
      first | refine x_iinc dX4_number_21 (by decide) rfl (nI_inc _) ?_ | refine x_iinc dX4_number_21 (by decide) rfl (inc_1 _) ?_
      refine x_goto (tgt := 4) dX4_number_24 (by decide) ?_
      (try simp only [b2i_eq0, b2i_ne0] at *)
      exact x_eq (ih trivial) (by simp [cntB, *]) rfl rfl
  · refine x_iload_n dX4_number_4 rfl ?_
    refine x_bipush (v := 12) dX4_number_5 (by decide) ?_
    refine x_icmp_ge_t (tgt := 27) dX4_number_7 (by decide) (nI_le_of rfl (by decide) (Nat.le_refl _)) ?_
    refine x_iload_n dX4_number_27 rfl ?_
    exact x_reti dX4_number_28 rfl rfl rfl (⟨rfl, rfl⟩)

set_option maxRecDepth 100000 in
set_option maxHeartbeats 4000000 in
theorem kX4_number (l : Launch) (g : XG) (S : MS) : Ct l g MX4_number [.ref 0] (wP S) (Qp (nI (cntB (fun p => exB S (nI p)) 12)) (wP S)) := by
  refine Ct_of (by decide) (by simp [Value.category]) (Nat.le_of_ble_eq_true rfl) ?_
  refine x_iconst (v := 0) dX4_number_0 (by decide) ?_
  refine x_istore_n dX4_number_1 (by decide) ?_
  refine x_iconst (v := 0) dX4_number_2 (by decide) ?_
  refine x_istore_n dX4_number_3 (by decide) ?_
  exact lpX4_number l g S

set_option maxRecDepth 100000 in
set_option maxHeartbeats 4000000 in
theorem lpX4_lowestUnused (l : Launch) (g : XG) (S : MS)  : XA l g MX4_lowestUnused (Qp (fstF (fun p => exB S (nI p)) 0 12) (wP S)) 2 ((fun i => [some (.ref 0), some (.int (nI i))]) 0) ((fun _ => []) 0) ((fun _ => wP S) 0) 0 0 := by
  refine x_for 12 (fun i => fstF (fun p => exB S (nI p)) 0 12 = fstF (fun p => exB S (nI p)) i (12 - i)) (fun i => [some (.ref 0), some (.int (nI i))]) (fun _ => []) (fun _ => wP S) rfl (fun i hi hp ih => ?_) (fun hp => ?_)
  · refine x_iload_n dX4_lowestUnused_2 rfl ?_
    refine x_bipush (v := 12) dX4_lowestUnused_3 (by decide) ?_
    refine x_icmp_ge_f (tgt := 24) dX4_lowestUnused_5 (by decide) (nI_nle_of rfl (by decide) hi) ?_
    refine x_aload_n dX4_lowestUnused_8 rfl ?_
    refine x_iload_n dX4_lowestUnused_9 rfl ?_
    refine x_callp [0, 1, 2, 3, 4, 5] (x_iV dX4_lowestUnused_10 mlX4_31 lbX4_exists rfl rfl rfl rfl) (kX4_exists l g _ _) (by decide) rfl rfl (by decide) (by decide) (by simp [Value.category]) rfl rfl (by decide +kernel) ?_
    refine x_if_ne (tgt := 18) dX4_lowestUnused_13 (by decide) (fun c_13 => ?_) (fun c_13 => ?_)
    · first | refine x_iinc dX4_lowestUnused_18 (by decide) rfl (nI_inc _) ?_ | refine x_iinc dX4_lowestUnused_18 (by decide) rfl (inc_1 _) ?_
      refine x_goto (tgt := 2) dX4_lowestUnused_21 (by decide) ?_
      (try simp only [b2i_eq0, b2i_ne0] at *)
      exact ih (by rw [hp, show 12 - i = (12 - (i + 1)) + 1 by omega]; exact fstF_go (by simp [*]))
    · (try simp only [b2i_eq0, b2i_ne0] at *)
      refine x_iload_n dX4_lowestUnused_16 rfl ?_
      exact x_reti dX4_lowestUnused_17 rfl rfl rfl (⟨by rw [hp, show 12 - i = (12 - (i + 1)) + 1 by omega, fstF_at (by simp [*])], rfl⟩)
  · refine x_iload_n dX4_lowestUnused_2 rfl ?_
    refine x_bipush (v := 12) dX4_lowestUnused_3 (by decide) ?_
    refine x_icmp_ge_t (tgt := 24) dX4_lowestUnused_5 (by decide) (nI_le_of rfl (by decide) (Nat.le_refl _)) ?_
    refine x_iconst (v := -1) dX4_lowestUnused_24 (by decide) ?_
    exact x_reti dX4_lowestUnused_25 rfl rfl rfl (⟨by rw [hp]; rfl, rfl⟩)

set_option maxRecDepth 100000 in
set_option maxHeartbeats 4000000 in
theorem kX4_lowestUnused (l : Launch) (g : XG) (S : MS) : Ct l g MX4_lowestUnused [.ref 0] (wP S) (Qp (fstF (fun p => exB S (nI p)) 0 12) (wP S)) := by
  refine Ct_of (by decide) (by simp [Value.category]) (Nat.le_of_ble_eq_true rfl) ?_
  refine x_iconst (v := 0) dX4_lowestUnused_0 (by decide) ?_
  refine x_istore_n dX4_lowestUnused_1 (by decide) ?_
  exact lpX4_lowestUnused l g S

set_option maxRecDepth 100000 in
set_option maxHeartbeats 4000000 in
theorem lpX4_onlineFreeSpace (l : Launch) (g : XG) (S : MS)  : XA l g MX4_onlineFreeSpace (Qp (sumI (fun p => if onB S (nI p) then frI S (nI p) else 0) 12) (wP S)) 4 ((fun i => [some (.ref 0), some (.int (sumI (fun p => if onB S (nI p) then frI S (nI p) else 0) i)), some (.int (nI i))]) 0) ((fun _ => []) 0) ((fun _ => wP S) 0) 0 0 := by
  refine x_for 12 (fun _ => True) (fun i => [some (.ref 0), some (.int (sumI (fun p => if onB S (nI p) then frI S (nI p) else 0) i)), some (.int (nI i))]) (fun _ => []) (fun _ => wP S) trivial (fun i hi hp ih => ?_) (fun hp => ?_)
  · refine x_iload_n dX4_onlineFreeSpace_4 rfl ?_
    refine x_bipush (v := 12) dX4_onlineFreeSpace_5 (by decide) ?_
    refine x_icmp_ge_f (tgt := 32) dX4_onlineFreeSpace_7 (by decide) (nI_nle_of rfl (by decide) hi) ?_
    refine x_aload_n dX4_onlineFreeSpace_10 rfl ?_
    refine x_iload_n dX4_onlineFreeSpace_11 rfl ?_
    refine x_callp [0, 1, 2, 3, 4, 5] (x_iV dX4_onlineFreeSpace_12 mlX4_35 lbX4_isOnline rfl rfl rfl rfl) (kX4_isOnline l g _ _) (by decide) rfl rfl (by decide) (by decide) (by simp [Value.category]) rfl rfl (by decide +kernel) ?_
    refine x_if_eq (tgt := 26) dX4_onlineFreeSpace_15 (by decide) (fun c_15 => ?_) (fun c_15 => ?_)
    · first | refine x_iinc dX4_onlineFreeSpace_26 (by decide) rfl (nI_inc _) ?_ | refine x_iinc dX4_onlineFreeSpace_26 (by decide) rfl (inc_1 _) ?_
      refine x_goto (tgt := 4) dX4_onlineFreeSpace_29 (by decide) ?_
      (try simp only [b2i_eq0, b2i_ne0] at *)
      exact x_eq (ih trivial) (by simp [sumI, *]) rfl rfl
    · refine x_iload_n dX4_onlineFreeSpace_18 rfl ?_
      refine x_aload_n dX4_onlineFreeSpace_19 rfl ?_
      refine x_iload_n dX4_onlineFreeSpace_20 rfl ?_
      refine x_callp [0, 1, 2, 3, 4, 5] (x_iV dX4_onlineFreeSpace_21 mlX4_38 lbX4_freeSpace rfl rfl rfl rfl) (kX4_freeSpace l g _ _) (by decide) rfl rfl (by decide) (by decide) (by simp [Value.category]) rfl rfl (by decide +kernel) ?_
      refine x_iadd dX4_onlineFreeSpace_24 ?_
      refine x_istore_n dX4_onlineFreeSpace_25 (by decide) ?_
      first | refine x_iinc dX4_onlineFreeSpace_26 (by decide) rfl (nI_inc _) ?_ | refine x_iinc dX4_onlineFreeSpace_26 (by decide) rfl (inc_1 _) ?_
      refine x_goto (tgt := 4) dX4_onlineFreeSpace_29 (by decide) ?_
      (try simp only [b2i_eq0, b2i_ne0] at *)
      exact x_eq (ih trivial) (by simp [sumI, *]) rfl rfl
  · refine x_iload_n dX4_onlineFreeSpace_4 rfl ?_
    refine x_bipush (v := 12) dX4_onlineFreeSpace_5 (by decide) ?_
    refine x_icmp_ge_t (tgt := 32) dX4_onlineFreeSpace_7 (by decide) (nI_le_of rfl (by decide) (Nat.le_refl _)) ?_
    refine x_iload_n dX4_onlineFreeSpace_32 rfl ?_
    exact x_reti dX4_onlineFreeSpace_33 rfl rfl rfl (⟨rfl, rfl⟩)

set_option maxRecDepth 100000 in
set_option maxHeartbeats 4000000 in
theorem kX4_onlineFreeSpace (l : Launch) (g : XG) (S : MS) : Ct l g MX4_onlineFreeSpace [.ref 0] (wP S) (Qp (sumI (fun p => if onB S (nI p) then frI S (nI p) else 0) 12) (wP S)) := by
  refine Ct_of (by decide) (by simp [Value.category]) (Nat.le_of_ble_eq_true rfl) ?_
  refine x_iconst (v := 0) dX4_onlineFreeSpace_0 (by decide) ?_
  refine x_istore_n dX4_onlineFreeSpace_1 (by decide) ?_
  refine x_iconst (v := 0) dX4_onlineFreeSpace_2 (by decide) ?_
  refine x_istore_n dX4_onlineFreeSpace_3 (by decide) ?_
  exact lpX4_onlineFreeSpace l g S

set_option maxRecDepth 100000 in
set_option maxHeartbeats 4000000 in
theorem kX4_add (l : Launch) (g : XG) (S : MS) (p u : Int32) : Ct l g MX4_add [.ref 0, .int p, .int u] (wP S) (Qv (fun w1 => w1 = wP (sAdd S p u))) := by
  refine Ct_of (by decide) (by simp [Value.category]) (Nat.le_of_ble_eq_true rfl) ?_
  refine x_iload_n dX4_add_0 rfl ?_
  refine x_if_lt (tgt := 10) dX4_add_1 (by decide) (fun c_1 => ?_) (fun c_1 => ?_)
  · exact x_retv dX4_add_10 rfl rfl rfl (⟨rfl, by (try simp only [b2i_eq0, b2i_ne0] at *); first | (rw [sAdd, show (inB p 12) = true by simp [inB, *]] <;> rfl) | (rw [sAdd, show (inB p 12) = false by simp [inB, *]] <;> rfl)⟩)
  · refine x_iload_n dX4_add_4 rfl ?_
    refine x_bipush (v := 12) dX4_add_5 (by decide) ?_
    refine x_icmp_lt (tgt := 11) dX4_add_7 (by decide) (fun c_7 => ?_) (fun c_7 => ?_)
    · refine x_aload_n dX4_add_11 rfl ?_
      refine x_getf dX4_add_12 flX4_9 rfl rfl ?_
      refine x_iload_n dX4_add_15 rfl ?_
      refine x_iload_n dX4_add_16 rfl ?_
      refine x_iaw dX4_add_17 rfl (ix_of (vin_lt 12 (by decide) rfl (by assumption) (by assumption))) ?_
      refine x_aload_n dX4_add_18 rfl ?_
      refine x_getf dX4_add_19 flX4_15 rfl rfl ?_
      refine x_iload_n dX4_add_22 rfl ?_
      refine x_iconst (v := 1) dX4_add_23 (by decide) ?_
      refine x_iaw dX4_add_24 rfl (ix_of (vin_lt 12 (by decide) rfl (by assumption) (by assumption))) ?_
      refine x_aload_n dX4_add_25 rfl ?_
      refine x_getf dX4_add_26 flX4_18 rfl rfl ?_
      refine x_iload_n dX4_add_29 rfl ?_
      refine x_bipush (v := 50) dX4_add_30 (by decide) ?_
      refine x_iaw dX4_add_32 rfl (ix_of (vin_lt 12 (by decide) rfl (by assumption) (by assumption))) ?_
      exact x_retv dX4_add_33 rfl rfl rfl (⟨rfl, by (try simp only [b2i_eq0, b2i_ne0] at *); first | (rw [sAdd, show (inB p 12) = true by simp [inB, *]] <;> rfl) | (rw [sAdd, show (inB p 12) = false by simp [inB, *]] <;> rfl)⟩)
    · exact x_retv dX4_add_10 rfl rfl rfl (⟨rfl, by (try simp only [b2i_eq0, b2i_ne0] at *); first | (rw [sAdd, show (inB p 12) = true by simp [inB, *]] <;> rfl) | (rw [sAdd, show (inB p 12) = false by simp [inB, *]] <;> rfl)⟩)

set_option maxRecDepth 100000 in
set_option maxHeartbeats 4000000 in
theorem kX4_addLoad (l : Launch) (g : XG) (S : MS) (p n : Int32) : Ct l g MX4_addLoad [.ref 0, .int p, .int n] (wP S) (Qv (fun w1 => w1 = wP (sLoad S p n))) := by
  refine Ct_of (by decide) (by simp [Value.category]) (Nat.le_of_ble_eq_true rfl) ?_
  refine x_aload_n dX4_addLoad_0 rfl ?_
  refine x_iload_n dX4_addLoad_1 rfl ?_
  refine x_callp [0, 1, 2, 3, 4, 5] (x_iV dX4_addLoad_2 mlX4_31 lbX4_exists rfl rfl rfl rfl) (kX4_exists l g _ _) (by decide) rfl rfl (by decide) (by decide) (by simp [Value.category]) rfl rfl (by decide +kernel) ?_
  refine x_if_eq (tgt := 18) dX4_addLoad_5 (by decide) (fun c_5 => ?_) (fun c_5 => ?_)
  · exact x_retv dX4_addLoad_18 rfl rfl rfl (⟨rfl, by (try simp only [b2i_eq0, b2i_ne0] at *); first | (rw [sLoad, show (exB S p) = true by simp [inB, *]] <;> rfl) | (rw [sLoad, show (exB S p) = false by simp [inB, *]] <;> rfl)⟩)
  · refine x_aload_n dX4_addLoad_8 rfl ?_
    refine x_getf dX4_addLoad_9 flX4_21 rfl rfl ?_
    refine x_iload_n dX4_addLoad_12 rfl ?_
    refine x_dup2 dX4_addLoad_13 rfl rfl ?_
    refine x_iar dX4_addLoad_14 rfl (ix_of (exB_in (b2i_t' (by assumption)))) ?_
    refine x_iload_n dX4_addLoad_15 rfl ?_
    refine x_iadd dX4_addLoad_16 ?_
    refine x_iaw dX4_addLoad_17 rfl (ix_of (exB_in (b2i_t' (by assumption)))) ?_
    exact x_retv dX4_addLoad_18 rfl rfl rfl (⟨rfl, by (try simp only [b2i_eq0, b2i_ne0] at *); first | (rw [sLoad, show (exB S p) = true by simp [inB, *]] <;> rfl) | (rw [sLoad, show (exB S p) = false by simp [inB, *]] <;> rfl)⟩)

set_option maxRecDepth 100000 in
set_option maxHeartbeats 4000000 in
theorem kX4_raiseTrust (l : Launch) (g : XG) (S : MS) (p : Int32) : Ct l g MX4_raiseTrust [.ref 0, .int p] (wP S) (Qv (fun w1 => w1 = wP (sRaise S p))) := by
  refine Ct_of (by decide) (by simp [Value.category]) (Nat.le_of_ble_eq_true rfl) ?_
  refine x_aload_n dX4_raiseTrust_0 rfl ?_
  refine x_iload_n dX4_raiseTrust_1 rfl ?_
  refine x_callp [0, 1, 2, 3, 4, 5] (x_iV dX4_raiseTrust_2 mlX4_31 lbX4_exists rfl rfl rfl rfl) (kX4_exists l g _ _) (by decide) rfl rfl (by decide) (by decide) (by simp [Value.category]) rfl rfl (by decide +kernel) ?_
  refine x_if_eq (tgt := 27) dX4_raiseTrust_5 (by decide) (fun c_5 => ?_) (fun c_5 => ?_)
  · exact x_retv dX4_raiseTrust_27 rfl rfl rfl (⟨rfl, by (try simp only [b2i_eq0, b2i_ne0] at *); first | (rw [sRaise, show (exB S p) = true by simp [inB, *]] <;> rfl) | (rw [sRaise, show (exB S p) = false by simp [inB, *]] <;> rfl)⟩)
  · refine x_aload_n dX4_raiseTrust_8 rfl ?_
    refine x_getf dX4_raiseTrust_9 flX4_18 rfl rfl ?_
    refine x_iload_n dX4_raiseTrust_12 rfl ?_
    refine x_aload_n dX4_raiseTrust_13 rfl ?_
    refine x_getf dX4_raiseTrust_14 flX4_18 rfl rfl ?_
    refine x_iload_n dX4_raiseTrust_17 rfl ?_
    refine x_iar dX4_raiseTrust_18 rfl (ix_of (exB_in (b2i_t' (by assumption)))) ?_
    refine x_iconst (v := 5) dX4_raiseTrust_19 (by decide) ?_
    refine x_iadd dX4_raiseTrust_20 ?_
    refine x_bipush (v := 100) dX4_raiseTrust_21 (by decide) ?_
    refine x_min dX4_raiseTrust_23 mlX4_42 w_min1 w_math w_min3 (by decide) (by decide) (by decide) (by simp [Value.category]) ?_
    refine x_iaw dX4_raiseTrust_26 rfl (ix_of (exB_in (b2i_t' (by assumption)))) ?_
    exact x_retv dX4_raiseTrust_27 rfl rfl rfl (⟨rfl, by (try simp only [b2i_eq0, b2i_ne0] at *); first | (rw [sRaise, show (exB S p) = true by simp [inB, *]] <;> rfl) | (rw [sRaise, show (exB S p) = false by simp [inB, *]] <;> rfl)⟩)

set_option maxRecDepth 100000 in
set_option maxHeartbeats 4000000 in
theorem kX4_halveTrust (l : Launch) (g : XG) (S : MS) (p : Int32) : Ct l g MX4_halveTrust [.ref 0, .int p] (wP S) (Qv (fun w1 => w1 = wP (sHalve S p))) := by
  refine Ct_of (by decide) (by simp [Value.category]) (Nat.le_of_ble_eq_true rfl) ?_
  refine x_aload_n dX4_halveTrust_0 rfl ?_
  refine x_iload_n dX4_halveTrust_1 rfl ?_
  refine x_callp [0, 1, 2, 3, 4, 5] (x_iV dX4_halveTrust_2 mlX4_31 lbX4_exists rfl rfl rfl rfl) (kX4_exists l g _ _) (by decide) rfl rfl (by decide) (by decide) (by simp [Value.category]) rfl rfl (by decide +kernel) ?_
  refine x_if_eq (tgt := 22) dX4_halveTrust_5 (by decide) (fun c_5 => ?_) (fun c_5 => ?_)
  · exact x_retv dX4_halveTrust_22 rfl rfl rfl (⟨rfl, by (try simp only [b2i_eq0, b2i_ne0] at *); first | (rw [sHalve, show (exB S p) = true by simp [inB, *]] <;> rfl) | (rw [sHalve, show (exB S p) = false by simp [inB, *]] <;> rfl)⟩)
  · refine x_aload_n dX4_halveTrust_8 rfl ?_
    refine x_getf dX4_halveTrust_9 flX4_18 rfl rfl ?_
    refine x_iload_n dX4_halveTrust_12 rfl ?_
    refine x_aload_n dX4_halveTrust_13 rfl ?_
    refine x_getf dX4_halveTrust_14 flX4_18 rfl rfl ?_
    refine x_iload_n dX4_halveTrust_17 rfl ?_
    refine x_iar dX4_halveTrust_18 rfl (ix_of (exB_in (b2i_t' (by assumption)))) ?_
    refine x_iconst (v := 2) dX4_halveTrust_19 (by decide) ?_
    refine x_idiv dX4_halveTrust_20 (by decide) ?_
    refine x_iaw dX4_halveTrust_21 rfl (ix_of (exB_in (b2i_t' (by assumption)))) ?_
    exact x_retv dX4_halveTrust_22 rfl rfl rfl (⟨rfl, by (try simp only [b2i_eq0, b2i_ne0] at *); first | (rw [sHalve, show (exB S p) = true by simp [inB, *]] <;> rfl) | (rw [sHalve, show (exB S p) = false by simp [inB, *]] <;> rfl)⟩)

theorem twoB_1 {S : MS} {p q : Int32} (h : twoB S p q = true) : vp_in p 12 := exB_in (S := S) (by simp only [twoB, Bool.and_eq_true] at h; exact h.1.2)
theorem twoB_2 {S : MS} {p q : Int32} (h : twoB S p q = true) : vp_in q 12 := exB_in (S := S) (by simp only [twoB, Bool.and_eq_true] at h; exact h.2)
theorem oddI {n : Nat} (h : n < 2 ^ 31) : (if nI n < nI n then nI n else nI n) = nI n := by split <;> rfl
/-- row p and column p of the debts, as far as i, are 0 -/
def zRC (f : Nat → Int32) (p i : Nat) : Nat → Int32 := fun k => if (k / 12 = p ∧ k % 12 < i) ∨ (k % 12 = p ∧ k / 12 < i) then 0 else f k
theorem zRC_0 (f : Nat → Int32) (p : Nat) : row 144 (zRC f p 0) = row 144 f := row_congr fun k hk => by
  simp only [zRC]; rw [if_neg]; omega
theorem zRC_s (f : Nat → Int32) {p i : Nat} (hp : p < 12) (hi : i < 12) : row 144 (upd (upd (zRC f p i) (12 * p + i) 0) (12 * i + p) 0) = row 144 (zRC f p (i + 1)) := row_congr fun k hk => by
  simp only [upd, zRC]
  by_cases h1 : k = 12 * i + p
  · rw [if_pos h1, if_pos (by omega)]
  · by_cases h2 : k = 12 * p + i
    · rw [if_neg h1, if_pos h2, if_pos (by omega)]
    · rw [if_neg h1, if_neg h2]
      by_cases h3 : (k / 12 = p ∧ k % 12 < i) ∨ (k % 12 = p ∧ k / 12 < i)
      · rw [if_pos h3, if_pos (by omega)]
      · rw [if_neg h3, if_neg (by omega)]
def sRem (S : MS) (p : Int32) : MS := cond (exB S p) (fun t => if t = 4 then zRC (S 4) (cl p) 12 else if t < 4 then upd (S t) (cl p) 0 else S t) S

set_option maxRecDepth 100000 in
set_option maxHeartbeats 4000000 in
theorem kX4_owe (l : Launch) (g : XG) (S : MS) (d c a : Int32) : Ct l g MX4_owe [.ref 0, .int d, .int c, .int a] (wP S) (Qv (fun w1 => w1 = wP (sOwe S d c a))) := by
  refine Ct_of (by decide) (by simp [Value.category]) (Nat.le_of_ble_eq_true rfl) ?_
  refine x_iload_n dX4_owe_0 rfl ?_
  refine x_iload_n dX4_owe_1 rfl ?_
  refine x_icmp_eq (tgt := 51) dX4_owe_2 (by decide) (fun c_2 => ?_) (fun c_2 => ?_)
  · exact x_retv dX4_owe_51 rfl rfl rfl (⟨rfl, by (try simp only [b2i_eq0, b2i_ne0] at *); first | (rw [sOwe, show (decide (¬ d = c) && exB S d && exB S c) = true by simp [inB, *]] <;> rfl) | (rw [sOwe, show (decide (¬ d = c) && exB S d && exB S c) = false by simp [inB, *]] <;> rfl)⟩)
  · refine x_aload_n dX4_owe_5 rfl ?_
    refine x_iload_n dX4_owe_6 rfl ?_
    refine x_callp [0, 1, 2, 3, 4, 5] (x_iV dX4_owe_7 mlX4_31 lbX4_exists rfl rfl rfl rfl) (kX4_exists l g _ _) (by decide) rfl rfl (by decide) (by decide) (by simp [Value.category]) rfl rfl (by decide +kernel) ?_
    refine x_if_eq (tgt := 51) dX4_owe_10 (by decide) (fun c_10 => ?_) (fun c_10 => ?_)
    · exact x_retv dX4_owe_51 rfl rfl rfl (⟨rfl, by (try simp only [b2i_eq0, b2i_ne0] at *); first | (rw [sOwe, show (decide (¬ d = c) && exB S d && exB S c) = true by simp [inB, *]] <;> rfl) | (rw [sOwe, show (decide (¬ d = c) && exB S d && exB S c) = false by simp [inB, *]] <;> rfl)⟩)
    · refine x_aload_n dX4_owe_13 rfl ?_
      refine x_iload_n dX4_owe_14 rfl ?_
      refine x_callp [0, 1, 2, 3, 4, 5] (x_iV dX4_owe_15 mlX4_31 lbX4_exists rfl rfl rfl rfl) (kX4_exists l g _ _) (by decide) rfl rfl (by decide) (by decide) (by simp [Value.category]) rfl rfl (by decide +kernel) ?_
      refine x_if_eq (tgt := 51) dX4_owe_18 (by decide) (fun c_18 => ?_) (fun c_18 => ?_)
      · exact x_retv dX4_owe_51 rfl rfl rfl (⟨rfl, by (try simp only [b2i_eq0, b2i_ne0] at *); first | (rw [sOwe, show (decide (¬ d = c) && exB S d && exB S c) = true by simp [inB, *]] <;> rfl) | (rw [sOwe, show (decide (¬ d = c) && exB S d && exB S c) = false by simp [inB, *]] <;> rfl)⟩)
      · refine x_aload_n dX4_owe_21 rfl ?_
        refine x_getf dX4_owe_22 flX4_24 rfl rfl ?_
        refine x_iload_n dX4_owe_25 rfl ?_
        refine x_bipush (v := 12) dX4_owe_26 (by decide) ?_
        refine x_imul dX4_owe_28 ?_
        refine x_iload_n dX4_owe_29 rfl ?_
        refine x_iadd dX4_owe_30 ?_
        refine x_dup2 dX4_owe_31 rfl rfl ?_
        refine x_iar dX4_owe_32 rfl ((ix_2 12 12 144 rfl rfl (by decide) (exB_in (b2i_t' c_10)) (exB_in (b2i_t' c_18)))) ?_
        refine x_iload_n dX4_owe_33 rfl ?_
        refine x_iadd dX4_owe_34 ?_
        refine x_iaw dX4_owe_35 rfl ((ix_2 12 12 144 rfl rfl (by decide) (exB_in (b2i_t' c_10)) (exB_in (b2i_t' c_18)))) ?_
        refine x_aload_n dX4_owe_36 rfl ?_
        refine x_getf dX4_owe_37 flX4_24 rfl rfl ?_
        refine x_iload_n dX4_owe_40 rfl ?_
        refine x_bipush (v := 12) dX4_owe_41 (by decide) ?_
        refine x_imul dX4_owe_43 ?_
        refine x_iload_n dX4_owe_44 rfl ?_
        refine x_iadd dX4_owe_45 ?_
        refine x_dup2 dX4_owe_46 rfl rfl ?_
        refine x_iar dX4_owe_47 rfl ((ix_2 12 12 144 rfl rfl (by decide) (exB_in (b2i_t' c_18)) (exB_in (b2i_t' c_10)))) ?_
        refine x_iload_n dX4_owe_48 rfl ?_
        refine x_isub dX4_owe_49 ?_
        refine x_iaw dX4_owe_50 rfl ((ix_2 12 12 144 rfl rfl (by decide) (exB_in (b2i_t' c_18)) (exB_in (b2i_t' c_10)))) ?_
        exact x_retv dX4_owe_51 rfl rfl rfl (⟨rfl, by (try simp only [b2i_eq0, b2i_ne0] at *); first | (rw [sOwe, show (decide (¬ d = c) && exB S d && exB S c) = true by simp [inB, *]] <;> rfl) | (rw [sOwe, show (decide (¬ d = c) && exB S d && exB S c) = false by simp [inB, *]] <;> rfl)⟩)

set_option maxRecDepth 100000 in
set_option maxHeartbeats 4000000 in
theorem kX4_owedBy (l : Launch) (g : XG) (S : MS) (p q : Int32) : Ct l g MX4_owedBy [.ref 0, .int p, .int q] (wP S) (Qp (owI S p q) (wP S)) := by
  refine Ct_of (by decide) (by simp [Value.category]) (Nat.le_of_ble_eq_true rfl) ?_
  refine x_aload_n dX4_owedBy_0 rfl ?_
  refine x_iload_n dX4_owedBy_1 rfl ?_
  refine x_iload_n dX4_owedBy_2 rfl ?_
  refine x_callp [0, 1, 2, 3, 4, 5] (x_iV dX4_owedBy_3 mlX4_48 lbX4_areTwo rfl rfl rfl rfl) (kX4_areTwo l g _ _ _) (by decide) rfl rfl (by decide) (by decide) (by simp [Value.category]) rfl rfl (by decide +kernel) ?_
  refine x_if_eq (tgt := 23) dX4_owedBy_6 (by decide) (fun c_6 => ?_) (fun c_6 => ?_)
  · refine x_iconst (v := 0) dX4_owedBy_23 (by decide) ?_
    exact x_reti dX4_owedBy_24 rfl rfl rfl (⟨by (try simp only [b2i_eq0, b2i_ne0] at *); simp [owI, b2i, *], rfl⟩)
  · refine x_aload_n dX4_owedBy_9 rfl ?_
    refine x_getf dX4_owedBy_10 flX4_24 rfl rfl ?_
    refine x_iload_n dX4_owedBy_13 rfl ?_
    refine x_bipush (v := 12) dX4_owedBy_14 (by decide) ?_
    refine x_imul dX4_owedBy_16 ?_
    refine x_iload_n dX4_owedBy_17 rfl ?_
    refine x_iadd dX4_owedBy_18 ?_
    refine x_iar dX4_owedBy_19 rfl ((ix_2 12 12 144 rfl rfl (by decide) (twoB_1 (b2i_t' c_6)) (twoB_2 (b2i_t' c_6)))) ?_
    refine x_goto (tgt := 24) dX4_owedBy_20 (by decide) ?_
    exact x_reti dX4_owedBy_24 rfl rfl rfl (⟨by (try simp only [b2i_eq0, b2i_ne0] at *); simp [owI, b2i, *], rfl⟩)

set_option maxRecDepth 100000 in
set_option maxHeartbeats 4000000 in
theorem kX4_isBetterPlace (l : Launch) (g : XG) (S : MS) (p t : Int32) : Ct l g MX4_isBetterPlace [.ref 0, .int p, .int t] (wP S) (Qp (b2i (betB S p t)) (wP S)) := by
  refine Ct_of (by decide) (by simp [Value.category]) (Nat.le_of_ble_eq_true rfl) ?_
  refine x_aload_n dX4_isBetterPlace_0 rfl ?_
  refine x_iload_n dX4_isBetterPlace_1 rfl ?_
  refine x_callp [0, 1, 2, 3, 4, 5] (x_iV dX4_isBetterPlace_2 mlX4_31 lbX4_exists rfl rfl rfl rfl) (kX4_exists l g _ _) (by decide) rfl rfl (by decide) (by decide) (by simp [Value.category]) rfl rfl (by decide +kernel) ?_
  refine x_if_ne (tgt := 10) dX4_isBetterPlace_5 (by decide) (fun c_5 => ?_) (fun c_5 => ?_)
  · refine x_aload_n dX4_isBetterPlace_10 rfl ?_
    refine x_iload_n dX4_isBetterPlace_11 rfl ?_
    refine x_callp [0, 1, 2, 3, 4, 5] (x_iV dX4_isBetterPlace_12 mlX4_31 lbX4_exists rfl rfl rfl rfl) (kX4_exists l g _ _) (by decide) rfl rfl (by decide) (by decide) (by simp [Value.category]) rfl rfl (by decide +kernel) ?_
    refine x_if_ne (tgt := 20) dX4_isBetterPlace_15 (by decide) (fun c_15 => ?_) (fun c_15 => ?_)
    · refine x_aload_n dX4_isBetterPlace_20 rfl ?_
      refine x_getf dX4_isBetterPlace_21 flX4_18 rfl rfl ?_
      refine x_iload_n dX4_isBetterPlace_24 rfl ?_
      refine x_iar dX4_isBetterPlace_25 rfl (ix_of (exB_in (b2i_t' c_15))) ?_
      refine x_aload_n dX4_isBetterPlace_26 rfl ?_
      refine x_getf dX4_isBetterPlace_27 flX4_18 rfl rfl ?_
      refine x_iload_n dX4_isBetterPlace_30 rfl ?_
      refine x_iar dX4_isBetterPlace_31 rfl (ix_of (exB_in (b2i_t' c_5))) ?_
      refine x_icmp_eq (tgt := 56) dX4_isBetterPlace_32 (by decide) (fun c_32 => ?_) (fun c_32 => ?_)
      · refine x_aload_n dX4_isBetterPlace_56 rfl ?_
        refine x_iload_n dX4_isBetterPlace_57 rfl ?_
        refine x_callp [0, 1, 2, 3, 4, 5] (x_iV dX4_isBetterPlace_58 mlX4_38 lbX4_freeSpace rfl rfl rfl rfl) (kX4_freeSpace l g _ _) (by decide) rfl rfl (by decide) (by decide) (by simp [Value.category]) rfl rfl (by decide +kernel) ?_
        refine x_aload_n dX4_isBetterPlace_61 rfl ?_
        refine x_iload_n dX4_isBetterPlace_62 rfl ?_
        refine x_callp [0, 1, 2, 3, 4, 5] (x_iV dX4_isBetterPlace_63 mlX4_38 lbX4_freeSpace rfl rfl rfl rfl) (kX4_freeSpace l g _ _) (by decide) rfl rfl (by decide) (by decide) (by simp [Value.category]) rfl rfl (by decide +kernel) ?_
        refine x_icmp_le (tgt := 73) dX4_isBetterPlace_66 (by decide) (fun c_66 => ?_) (fun c_66 => ?_)
        · refine x_iconst (v := 0) dX4_isBetterPlace_73 (by decide) ?_
          exact x_retz dX4_isBetterPlace_74 rfl (rfl) rfl rfl (⟨by (try simp only [b2i_eq0, b2i_ne0] at *); simp [betB, b2i, *], rfl⟩)
        · refine x_iconst (v := 1) dX4_isBetterPlace_69 (by decide) ?_
          refine x_goto (tgt := 74) dX4_isBetterPlace_70 (by decide) ?_
          exact x_retz dX4_isBetterPlace_74 rfl (rfl) rfl rfl (⟨by (try simp only [b2i_eq0, b2i_ne0] at *); simp [betB, b2i, *], rfl⟩)
      · refine x_aload_n dX4_isBetterPlace_35 rfl ?_
        refine x_getf dX4_isBetterPlace_36 flX4_18 rfl rfl ?_
        refine x_iload_n dX4_isBetterPlace_39 rfl ?_
        refine x_iar dX4_isBetterPlace_40 rfl (ix_of (exB_in (b2i_t' c_15))) ?_
        refine x_aload_n dX4_isBetterPlace_41 rfl ?_
        refine x_getf dX4_isBetterPlace_42 flX4_18 rfl rfl ?_
        refine x_iload_n dX4_isBetterPlace_45 rfl ?_
        refine x_iar dX4_isBetterPlace_46 rfl (ix_of (exB_in (b2i_t' c_5))) ?_
        refine x_icmp_le (tgt := 54) dX4_isBetterPlace_47 (by decide) (fun c_47 => ?_) (fun c_47 => ?_)
        · refine x_iconst (v := 0) dX4_isBetterPlace_54 (by decide) ?_
          exact x_retz dX4_isBetterPlace_55 rfl (rfl) rfl rfl (⟨by (try simp only [b2i_eq0, b2i_ne0] at *); simp [betB, b2i, *], rfl⟩)
        · refine x_iconst (v := 1) dX4_isBetterPlace_50 (by decide) ?_
          refine x_goto (tgt := 55) dX4_isBetterPlace_51 (by decide) ?_
          exact x_retz dX4_isBetterPlace_55 rfl (rfl) rfl rfl (⟨by (try simp only [b2i_eq0, b2i_ne0] at *); simp [betB, b2i, *], rfl⟩)
    · refine x_iconst (v := 0) dX4_isBetterPlace_18 (by decide) ?_
      exact x_retz dX4_isBetterPlace_19 rfl (rfl) rfl rfl (⟨by (try simp only [b2i_eq0, b2i_ne0] at *); simp [betB, b2i, *], rfl⟩)
  · refine x_iconst (v := 1) dX4_isBetterPlace_8 (by decide) ?_
    exact x_retz dX4_isBetterPlace_9 rfl (rfl) rfl rfl (⟨by (try simp only [b2i_eq0, b2i_ne0] at *); simp [betB, b2i, *], rfl⟩)

set_option maxRecDepth 100000 in
set_option maxHeartbeats 4000000 in
theorem lpX4_sumOwedBy (l : Launch) (g : XG) (S : MS) (d : Int32)  : XA l g MX4_sumOwedBy (Qp (sumI (fun q => owI S d (nI q)) 12) (wP S)) 4 ((fun i => [some (.ref 0), some (.int d), some (.int (sumI (fun q => owI S d (nI q)) i)), some (.int (nI i))]) 0) ((fun _ => []) 0) ((fun _ => wP S) 0) 0 0 := by
  refine x_for 12 (fun _ => True) (fun i => [some (.ref 0), some (.int d), some (.int (sumI (fun q => owI S d (nI q)) i)), some (.int (nI i))]) (fun _ => []) (fun _ => wP S) trivial (fun i hi hp ih => ?_) (fun hp => ?_)
  · refine x_iload_n dX4_sumOwedBy_4 rfl ?_
    refine x_bipush (v := 12) dX4_sumOwedBy_5 (by decide) ?_
    refine x_icmp_ge_f (tgt := 25) dX4_sumOwedBy_7 (by decide) (nI_nle_of rfl (by decide) hi) ?_
    refine x_iload_n dX4_sumOwedBy_10 rfl ?_
    refine x_aload_n dX4_sumOwedBy_11 rfl ?_
    refine x_iload_n dX4_sumOwedBy_12 rfl ?_
    refine x_iload_n dX4_sumOwedBy_13 rfl ?_
    refine x_callp [0, 1, 2, 3, 4, 5] (x_iV dX4_sumOwedBy_14 mlX4_52 lbX4_owedBy rfl rfl rfl rfl) (kX4_owedBy l g _ _ _) (by decide) rfl rfl (by decide) (by decide) (by simp [Value.category]) rfl rfl (by decide +kernel) ?_
    refine x_iadd dX4_sumOwedBy_17 ?_
    refine x_istore_n dX4_sumOwedBy_18 (by decide) ?_
    first | refine x_iinc dX4_sumOwedBy_19 (by decide) rfl (nI_inc _) ?_ | refine x_iinc dX4_sumOwedBy_19 (by decide) rfl (inc_1 _) ?_
    refine x_goto (tgt := 4) dX4_sumOwedBy_22 (by decide) ?_
    exact x_eq (ih trivial) (by simp [sumI]) rfl rfl
  · refine x_iload_n dX4_sumOwedBy_4 rfl ?_
    refine x_bipush (v := 12) dX4_sumOwedBy_5 (by decide) ?_
    refine x_icmp_ge_t (tgt := 25) dX4_sumOwedBy_7 (by decide) (nI_le_of rfl (by decide) (Nat.le_refl _)) ?_
    refine x_iload_n dX4_sumOwedBy_25 rfl ?_
    exact x_reti dX4_sumOwedBy_26 rfl rfl rfl (⟨rfl, rfl⟩)

set_option maxRecDepth 100000 in
set_option maxHeartbeats 4000000 in
theorem kX4_sumOwedBy (l : Launch) (g : XG) (S : MS) (d : Int32) : Ct l g MX4_sumOwedBy [.ref 0, .int d] (wP S) (Qp (sumI (fun q => owI S d (nI q)) 12) (wP S)) := by
  refine Ct_of (by decide) (by simp [Value.category]) (Nat.le_of_ble_eq_true rfl) ?_
  refine x_iconst (v := 0) dX4_sumOwedBy_0 (by decide) ?_
  refine x_istore_n dX4_sumOwedBy_1 (by decide) ?_
  refine x_iconst (v := 0) dX4_sumOwedBy_2 (by decide) ?_
  refine x_istore_n dX4_sumOwedBy_3 (by decide) ?_
  exact lpX4_sumOwedBy l g S d

set_option maxRecDepth 100000 in
set_option maxHeartbeats 4000000 in
theorem lpX4_sumOfDebts (l : Launch) (g : XG) (S : MS)  : XA l g MX4_sumOfDebts (Qp (sumI (fun k => if S 4 k < 0 then 0 else S 4 k) 144) (wP S)) 4 ((fun i => [some (.ref 0), some (.int (sumI (fun k => if S 4 k < 0 then 0 else S 4 k) i)), some (.int (nI i))]) 0) ((fun _ => []) 0) ((fun _ => wP S) 0) 0 0 := by
  refine x_for 144 (fun _ => True) (fun i => [some (.ref 0), some (.int (sumI (fun k => if S 4 k < 0 then 0 else S 4 k) i)), some (.int (nI i))]) (fun _ => []) (fun _ => wP S) trivial (fun i hi hp ih => ?_) (fun hp => ?_)
  · refine x_iload_n dX4_sumOfDebts_4 rfl ?_
    refine x_sipush (v := 144) dX4_sumOfDebts_5 (by decide) ?_
    refine x_icmp_ge_f (tgt := 30) dX4_sumOfDebts_8 (by decide) (nI_nle_of rfl (by decide) hi) ?_
    refine x_iload_n dX4_sumOfDebts_11 rfl ?_
    refine x_aload_n dX4_sumOfDebts_12 rfl ?_
    refine x_getf dX4_sumOfDebts_13 flX4_24 rfl rfl ?_
    refine x_iload_n dX4_sumOfDebts_16 rfl ?_
    refine x_iar dX4_sumOfDebts_17 rfl (ix_nI hi (by decide)) ?_
    refine x_iconst (v := 0) dX4_sumOfDebts_18 (by decide) ?_
    refine x_max dX4_sumOfDebts_19 mlX4_55 w_max1 w_math w_max3 (by decide) (by decide) (by decide) (by simp [Value.category]) ?_
    refine x_iadd dX4_sumOfDebts_22 ?_
    refine x_istore_n dX4_sumOfDebts_23 (by decide) ?_
    first | refine x_iinc dX4_sumOfDebts_24 (by decide) rfl (nI_inc _) ?_ | refine x_iinc dX4_sumOfDebts_24 (by decide) rfl (inc_1 _) ?_
    refine x_goto (tgt := 4) dX4_sumOfDebts_27 (by decide) ?_
    exact x_eq (ih trivial) (by simp [sumI]) rfl rfl
  · refine x_iload_n dX4_sumOfDebts_4 rfl ?_
    refine x_sipush (v := 144) dX4_sumOfDebts_5 (by decide) ?_
    refine x_icmp_ge_t (tgt := 30) dX4_sumOfDebts_8 (by decide) (nI_le_of rfl (by decide) (Nat.le_refl _)) ?_
    refine x_iload_n dX4_sumOfDebts_30 rfl ?_
    exact x_reti dX4_sumOfDebts_31 rfl rfl rfl (⟨rfl, rfl⟩)

set_option maxRecDepth 100000 in
set_option maxHeartbeats 4000000 in
theorem kX4_sumOfDebts (l : Launch) (g : XG) (S : MS) : Ct l g MX4_sumOfDebts [.ref 0] (wP S) (Qp (sumI (fun k => if S 4 k < 0 then 0 else S 4 k) 144) (wP S)) := by
  refine Ct_of (by decide) (by simp [Value.category]) (Nat.le_of_ble_eq_true rfl) ?_
  refine x_iconst (v := 0) dX4_sumOfDebts_0 (by decide) ?_
  refine x_istore_n dX4_sumOfDebts_1 (by decide) ?_
  refine x_iconst (v := 0) dX4_sumOfDebts_2 (by decide) ?_
  refine x_istore_n dX4_sumOfDebts_3 (by decide) ?_
  exact lpX4_sumOfDebts l g S

set_option maxRecDepth 100000 in
set_option maxHeartbeats 4000000 in
theorem lpX4_remove (l : Launch) (g : XG) (S : MS) (p : Int32) (hx : exB S p = true) : XA l g MX4_remove (Qv (fun w1 => w1 = wP (sRem S p))) 11 ((fun i => [some (.ref 0), some (.int p), some (.int (nI i))]) 0) ((fun _ => []) 0) ((fun i => [.inr (.inr (4, [.ref 1, .ref 2, .ref 3, .ref 4, .ref 5])), .inl (row 12 (S 0)), .inl (row 12 (S 1)), .inl (row 12 (S 2)), .inl (row 12 (S 3)), .inl (row 144 (zRC (S 4) (cl p) i))]) 0) 0 0 := by
  refine x_for 12 (fun _ => True) (fun i => [some (.ref 0), some (.int p), some (.int (nI i))]) (fun _ => []) (fun i => [.inr (.inr (4, [.ref 1, .ref 2, .ref 3, .ref 4, .ref 5])), .inl (row 12 (S 0)), .inl (row 12 (S 1)), .inl (row 12 (S 2)), .inl (row 12 (S 3)), .inl (row 144 (zRC (S 4) (cl p) i))]) trivial (fun i hi hp ih => ?_) (fun hp => ?_)
  · refine x_iload_n dX4_remove_11 rfl ?_
    refine x_bipush (v := 12) dX4_remove_12 (by decide) ?_
    refine x_icmp_ge_f (tgt := 47) dX4_remove_14 (by decide) (nI_nle_of rfl (by decide) hi) ?_
    refine x_aload_n dX4_remove_17 rfl ?_
    refine x_getf dX4_remove_18 flX4_24 rfl rfl ?_
    refine x_iload_n dX4_remove_21 rfl ?_
    refine x_bipush (v := 12) dX4_remove_22 (by decide) ?_
    refine x_imul dX4_remove_24 ?_
    refine x_iload_n dX4_remove_25 rfl ?_
    refine x_iadd dX4_remove_26 ?_
    refine x_iconst (v := 0) dX4_remove_27 (by decide) ?_
    refine x_iaw dX4_remove_28 rfl ((ix_2 12 12 144 rfl rfl (by decide) (exB_in hx) (vin_nI (by decide) hi))) ?_
    refine x_aload_n dX4_remove_29 rfl ?_
    refine x_getf dX4_remove_30 flX4_24 rfl rfl ?_
    refine x_iload_n dX4_remove_33 rfl ?_
    refine x_bipush (v := 12) dX4_remove_34 (by decide) ?_
    refine x_imul dX4_remove_36 ?_
    refine x_iload_n dX4_remove_37 rfl ?_
    refine x_iadd dX4_remove_38 ?_
    refine x_iconst (v := 0) dX4_remove_39 (by decide) ?_
    refine x_iaw dX4_remove_40 rfl ((ix_2 12 12 144 rfl rfl (by decide) (vin_nI (by decide) hi) (exB_in hx))) ?_
    first | refine x_iinc dX4_remove_41 (by decide) rfl (nI_inc _) ?_ | refine x_iinc dX4_remove_41 (by decide) rfl (inc_1 _) ?_
    refine x_goto (tgt := 11) dX4_remove_44 (by decide) ?_
    refine x_eq (ih trivial) rfl rfl ?_
    rw [show cl (nI i) = i from nI_clamp (by omega)]
    exact congrArg (fun z => [Sum.inr (Sum.inr (4, [Value.ref 1, .ref 2, .ref 3, .ref 4, .ref 5])), .inl (row 12 (S 0)), .inl (row 12 (S 1)), .inl (row 12 (S 2)), .inl (row 12 (S 3)), Sum.inl z]) (zRC_s (S 4) (vin_iff.mp (exB_in hx)).2 hi)
  · refine x_iload_n dX4_remove_11 rfl ?_
    refine x_bipush (v := 12) dX4_remove_12 (by decide) ?_
    refine x_icmp_ge_t (tgt := 47) dX4_remove_14 (by decide) (nI_le_of rfl (by decide) (Nat.le_refl _)) ?_
    refine x_aload_n dX4_remove_47 rfl ?_
    refine x_getf dX4_remove_48 flX4_9 rfl rfl ?_
    refine x_iload_n dX4_remove_51 rfl ?_
    refine x_iconst (v := 0) dX4_remove_52 (by decide) ?_
    refine x_iaw dX4_remove_53 rfl (ix_of (exB_in hx)) ?_
    refine x_aload_n dX4_remove_54 rfl ?_
    refine x_getf dX4_remove_55 flX4_15 rfl rfl ?_
    refine x_iload_n dX4_remove_58 rfl ?_
    refine x_iconst (v := 0) dX4_remove_59 (by decide) ?_
    refine x_iaw dX4_remove_60 rfl (ix_of (exB_in hx)) ?_
    refine x_aload_n dX4_remove_61 rfl ?_
    refine x_getf dX4_remove_62 flX4_18 rfl rfl ?_
    refine x_iload_n dX4_remove_65 rfl ?_
    refine x_iconst (v := 0) dX4_remove_66 (by decide) ?_
    refine x_iaw dX4_remove_67 rfl (ix_of (exB_in hx)) ?_
    refine x_aload_n dX4_remove_68 rfl ?_
    refine x_getf dX4_remove_69 flX4_21 rfl rfl ?_
    refine x_iload_n dX4_remove_72 rfl ?_
    refine x_iconst (v := 0) dX4_remove_73 (by decide) ?_
    refine x_iaw dX4_remove_74 rfl (ix_of (exB_in hx)) ?_
    exact x_retv dX4_remove_75 rfl rfl rfl (⟨rfl, by rw [sRem, hx] <;> rfl⟩)

set_option maxRecDepth 100000 in
set_option maxHeartbeats 4000000 in
theorem kX4_remove (l : Launch) (g : XG) (S : MS) (p : Int32) : Ct l g MX4_remove [.ref 0, .int p] (wP S) (Qv (fun w1 => w1 = wP (sRem S p))) := by
  refine Ct_of (by decide) (by simp [Value.category]) (Nat.le_of_ble_eq_true rfl) ?_
  refine x_aload_n dX4_remove_0 rfl ?_
  refine x_iload_n dX4_remove_1 rfl ?_
  refine x_callp [0, 1, 2, 3, 4, 5] (x_iV dX4_remove_2 mlX4_31 lbX4_exists rfl rfl rfl rfl) (kX4_exists l g _ _) (by decide) rfl rfl (by decide) (by decide) (by simp [Value.category]) rfl rfl (by decide +kernel) ?_
  refine x_if_ne (tgt := 9) dX4_remove_5 (by decide) (fun c_5 => ?_) (fun c_5 => ?_)
  · refine x_iconst (v := 0) dX4_remove_9 (by decide) ?_
    refine x_istore_n dX4_remove_10 (by decide) ?_
    refine x_eq (lpX4_remove l g S p (b2i_t' (by assumption))) rfl rfl ?_
    show _ = [_, _, _, _, _, Sum.inl (row 144 (zRC (S 4) (cl p) 0))]
    rw [zRC_0]
  · exact x_retv dX4_remove_8 rfl rfl rfl (⟨rfl, by rw [sRem, b2i_f' c_5] <;> rfl⟩)

set_option maxRecDepth 100000 in
set_option maxHeartbeats 4000000 in
theorem kX6_copyRow (l : Launch) (g : XG) (n : Nat) (hn : n < 2 ^ 31) (f f2 : Nat → Int32) : Ct l g MX6_copyRow [.ref 0, .ref 1] ([.inl (row n f), .inl (row n f2)]) (Qv (fun w1 => w1 = [.inl (row n f), .inl (row n f)])) := by
  refine Ct_of (by decide) (by simp [Value.category]) (Nat.le_of_ble_eq_true rfl) ?_
  refine x_aload_n dX6_copyRow_0 rfl ?_
  refine x_iconst (v := 0) dX6_copyRow_1 (by decide) ?_
  refine x_aload_n dX6_copyRow_2 rfl ?_
  refine x_iconst (v := 0) dX6_copyRow_3 (by decide) ?_
  refine x_aload_n dX6_copyRow_4 rfl ?_
  refine x_alr dX6_copyRow_5 rfl ?_
  refine x_aload_n dX6_copyRow_6 rfl ?_
  refine x_alr dX6_copyRow_7 rfl ?_
  refine x_min dX6_copyRow_8 mlX6_212 w_min1 w_math w_min3 (by decide) (by decide) (by decide) (by simp [Value.category]) ?_
  refine x_copy dX6_copyRow_11 mlX6_245 w_cp1 w_cp2 w_sys (by decide) rfl rfl (by rw [oddI hn]; exact nI_pos hn) (by rw [oddI hn, row_len]; exact nI_clamp hn) (by rw [row_len, row_len]) (by simp [Value.category]) ?_
  exact x_retv dX6_copyRow_14 rfl rfl rfl (⟨rfl, rfl⟩)

set_option maxRecDepth 100000 in
set_option maxHeartbeats 4000000 in
theorem kX4_copyFrom (l : Launch) (g : XG) (S S2 : MS) : Ct l g MX4_copyFrom [.ref 0, .ref 6] (wP S ++ [.inr (.inr (4, [.ref 7, .ref 8, .ref 9, .ref 10, .ref 11])), .inl (row 12 (S2 0)), .inl (row 12 (S2 1)), .inl (row 12 (S2 2)), .inl (row 12 (S2 3)), .inl (row 144 (S2 4))]) (Qv (fun w1 => w1 = wP S2 ++ [.inr (.inr (4, [.ref 7, .ref 8, .ref 9, .ref 10, .ref 11])), .inl (row 12 (S2 0)), .inl (row 12 (S2 1)), .inl (row 12 (S2 2)), .inl (row 12 (S2 3)), .inl (row 144 (S2 4))])) := by
  refine Ct_of (by decide) (by simp [Value.category]) (Nat.le_of_ble_eq_true rfl) ?_
  refine x_aload_n dX4_copyFrom_0 rfl ?_
  refine x_getf dX4_copyFrom_1 flX4_9 rfl rfl ?_
  refine x_aload_n dX4_copyFrom_4 rfl ?_
  refine x_getf dX4_copyFrom_5 flX4_9 rfl rfl ?_
  refine x_callv [7, 1] (x_iSN dX4_copyFrom_8 mlX4_27 lbX6_copyRow rfl) (kX6_copyRow l g 12 (by decide) (S2 0) (S 0)) (by decide) (by decide) (by decide) (by simp [Value.category]) rfl rfl (by decide +kernel) (fun w1 h1 => ?_)
  obtain rfl := h1
  show XA _ _ _ _ _ _ _ ([.inr (.inr (4, [.ref 1, .ref 2, .ref 3, .ref 4, .ref 5])), .inl (row 12 (S2 0)), .inl (row 12 (S 1)), .inl (row 12 (S 2)), .inl (row 12 (S 3)), .inl (row 144 (S 4))] ++ [.inr (.inr (4, [.ref 7, .ref 8, .ref 9, .ref 10, .ref 11])), .inl (row 12 (S2 0)), .inl (row 12 (S2 1)), .inl (row 12 (S2 2)), .inl (row 12 (S2 3)), .inl (row 144 (S2 4))]) _ _
  refine x_aload_n dX4_copyFrom_11 rfl ?_
  refine x_getf dX4_copyFrom_12 flX4_15 rfl rfl ?_
  refine x_aload_n dX4_copyFrom_15 rfl ?_
  refine x_getf dX4_copyFrom_16 flX4_15 rfl rfl ?_
  refine x_callv [8, 2] (x_iSN dX4_copyFrom_19 mlX4_27 lbX6_copyRow rfl) (kX6_copyRow l g 12 (by decide) (S2 1) (S 1)) (by decide) (by decide) (by decide) (by simp [Value.category]) rfl rfl (by decide +kernel) (fun w1 h1 => ?_)
  obtain rfl := h1
  show XA _ _ _ _ _ _ _ ([.inr (.inr (4, [.ref 1, .ref 2, .ref 3, .ref 4, .ref 5])), .inl (row 12 (S2 0)), .inl (row 12 (S2 1)), .inl (row 12 (S 2)), .inl (row 12 (S 3)), .inl (row 144 (S 4))] ++ [.inr (.inr (4, [.ref 7, .ref 8, .ref 9, .ref 10, .ref 11])), .inl (row 12 (S2 0)), .inl (row 12 (S2 1)), .inl (row 12 (S2 2)), .inl (row 12 (S2 3)), .inl (row 144 (S2 4))]) _ _
  refine x_aload_n dX4_copyFrom_22 rfl ?_
  refine x_getf dX4_copyFrom_23 flX4_18 rfl rfl ?_
  refine x_aload_n dX4_copyFrom_26 rfl ?_
  refine x_getf dX4_copyFrom_27 flX4_18 rfl rfl ?_
  refine x_callv [9, 3] (x_iSN dX4_copyFrom_30 mlX4_27 lbX6_copyRow rfl) (kX6_copyRow l g 12 (by decide) (S2 2) (S 2)) (by decide) (by decide) (by decide) (by simp [Value.category]) rfl rfl (by decide +kernel) (fun w1 h1 => ?_)
  obtain rfl := h1
  show XA _ _ _ _ _ _ _ ([.inr (.inr (4, [.ref 1, .ref 2, .ref 3, .ref 4, .ref 5])), .inl (row 12 (S2 0)), .inl (row 12 (S2 1)), .inl (row 12 (S2 2)), .inl (row 12 (S 3)), .inl (row 144 (S 4))] ++ [.inr (.inr (4, [.ref 7, .ref 8, .ref 9, .ref 10, .ref 11])), .inl (row 12 (S2 0)), .inl (row 12 (S2 1)), .inl (row 12 (S2 2)), .inl (row 12 (S2 3)), .inl (row 144 (S2 4))]) _ _
  refine x_aload_n dX4_copyFrom_33 rfl ?_
  refine x_getf dX4_copyFrom_34 flX4_21 rfl rfl ?_
  refine x_aload_n dX4_copyFrom_37 rfl ?_
  refine x_getf dX4_copyFrom_38 flX4_21 rfl rfl ?_
  refine x_callv [10, 4] (x_iSN dX4_copyFrom_41 mlX4_27 lbX6_copyRow rfl) (kX6_copyRow l g 12 (by decide) (S2 3) (S 3)) (by decide) (by decide) (by decide) (by simp [Value.category]) rfl rfl (by decide +kernel) (fun w1 h1 => ?_)
  obtain rfl := h1
  show XA _ _ _ _ _ _ _ ([.inr (.inr (4, [.ref 1, .ref 2, .ref 3, .ref 4, .ref 5])), .inl (row 12 (S2 0)), .inl (row 12 (S2 1)), .inl (row 12 (S2 2)), .inl (row 12 (S2 3)), .inl (row 144 (S 4))] ++ [.inr (.inr (4, [.ref 7, .ref 8, .ref 9, .ref 10, .ref 11])), .inl (row 12 (S2 0)), .inl (row 12 (S2 1)), .inl (row 12 (S2 2)), .inl (row 12 (S2 3)), .inl (row 144 (S2 4))]) _ _
  refine x_aload_n dX4_copyFrom_44 rfl ?_
  refine x_getf dX4_copyFrom_45 flX4_24 rfl rfl ?_
  refine x_aload_n dX4_copyFrom_48 rfl ?_
  refine x_getf dX4_copyFrom_49 flX4_24 rfl rfl ?_
  refine x_callv [11, 5] (x_iSN dX4_copyFrom_52 mlX4_27 lbX6_copyRow rfl) (kX6_copyRow l g 144 (by decide) (S2 4) (S 4)) (by decide) (by decide) (by decide) (by simp [Value.category]) rfl rfl (by decide +kernel) (fun w1 h1 => ?_)
  obtain rfl := h1
  show XA _ _ _ _ _ _ _ ([.inr (.inr (4, [.ref 1, .ref 2, .ref 3, .ref 4, .ref 5])), .inl (row 12 (S2 0)), .inl (row 12 (S2 1)), .inl (row 12 (S2 2)), .inl (row 12 (S2 3)), .inl (row 144 (S2 4))] ++ [.inr (.inr (4, [.ref 7, .ref 8, .ref 9, .ref 10, .ref 11])), .inl (row 12 (S2 0)), .inl (row 12 (S2 1)), .inl (row 12 (S2 2)), .inl (row 12 (S2 3)), .inl (row 144 (S2 4))]) _ _
  exact x_retv dX4_copyFrom_55 rfl rfl rfl (⟨rfl, rfl⟩)
