/-! ===== a state: reads ===== -/
def gdB (S : MS) (f i : Int32) : Bool := decide (erI S f i = 0) && onB S (plI S f i)
def gdN (S : MS) (f : Int32) : Int32 := nI (cntB (fun i => gdB S f (nI i)) (cl (fnI S f)))
def rsI (S : MS) (f : Int32) : Int32 := gdN S f - daI S f
def sfB (S : MS) (f : Int32) : Bool := exF S f && decide (¬ gdN S f < daI S f)
def obN (S : MS) (p : Int32) : Int32 := nI (cntB (fun f => exF S (nI f) && decide (foI S (nI f) = p)) 8)
def mlB (S : MS) (p : Int32) : Bool := onB S p && decide (obN S p = 0)
def plB (S : MS) (f : Int32) (i : Nat) (b : Int32) : Bool := onB S (nI i) && decide (¬ frI S (nI i) ≤ 0) && decide (fonI S f (nI i) = -1) && betB S (nI i) b
def bstI (S : MS) (f : Int32) : Nat → Int32
  | 0 => -1
  | i + 1 => if plB S f i (bstI S f i) then nI i else bstI S f i
def npB (S : MS) (f p : Int32) : Bool := sfB S f && decide (¬ 0 < rsI S f) && gdB S f (fonI S f p)
def onO (S : MS) (f : Int32) : Bool := gdB S f (fonI S f (foI S f))
def cbB (S : MS) (f c : Int32) : Bool := if nI (cntB (fun p => exB S (nI p)) 12) ≤ c then false else decide (¬ (if (if onO S f then gdN S f - 1 else gdN S f) < c then (if onO S f then gdN S f - 1 else gdN S f) else c) ≤ gdN S f - daI S f)
def bcB (S : MS) (c : Int32) : Bool := allB (fun f => !(sfB S (nI f) && cbB S (nI f) c)) 8

set_option maxRecDepth 100000 in
set_option maxHeartbeats 4000000 in
theorem kX5_isGood (l : Launch) (g : XG) (S : MS) (f i : Int32) : Ct l g MX5_isGood [.ref 0, .int f, .int i] (wS S) (Qp (b2i (gdB S f i)) (wS S)) := by
  refine Ct_of (by decide) (by simp [Value.category]) (Nat.le_of_ble_eq_true rfl) ?_
  refine x_aload_n dX5_isGood_0 rfl ?_
  refine x_getf dX5_isGood_1 flX5_21 rfl rfl ?_
  refine x_iload_n dX5_isGood_4 rfl ?_
  refine x_iload_n dX5_isGood_5 rfl ?_
  refine x_callp [7, 8, 9, 10, 11, 12, 13] (x_iV dX5_isGood_6 mlX5_44 lbX2_errorOf rfl rfl rfl rfl) (kX2_errorOf l g _ _ _) (by decide) rfl rfl (by decide) (by decide) (by simp [Value.category]) rfl rfl (by decide +kernel) ?_
  refine x_if_ne (tgt := 35) dX5_isGood_9 (by decide) (fun c_9 => ?_) (fun c_9 => ?_)
  · refine x_iconst (v := 0) dX5_isGood_35 (by decide) ?_
    exact x_retz dX5_isGood_36 rfl (rfl) rfl rfl (⟨by (try simp only [b2i_eq0, b2i_ne0] at *); simp [gdB, b2i, *], rfl⟩)
  · refine x_aload_n dX5_isGood_12 rfl ?_
    refine x_getf dX5_isGood_13 flX5_12 rfl rfl ?_
    refine x_aload_n dX5_isGood_16 rfl ?_
    refine x_getf dX5_isGood_17 flX5_21 rfl rfl ?_
    refine x_iload_n dX5_isGood_20 rfl ?_
    refine x_iload_n dX5_isGood_21 rfl ?_
    refine x_callp [7, 8, 9, 10, 11, 12, 13] (x_iV dX5_isGood_22 mlX5_48 lbX2_placeOf rfl rfl rfl rfl) (kX2_placeOf l g _ _ _) (by decide) rfl rfl (by decide) (by decide) (by simp [Value.category]) rfl rfl (by decide +kernel) ?_
    refine x_callp [1, 2, 3, 4, 5, 6] (x_iV dX5_isGood_25 mlX5_51 lbX4_isOnline rfl rfl rfl rfl) (kX4_isOnline l g _ _) (by decide) rfl rfl (by decide) (by decide) (by simp [Value.category]) rfl rfl (by decide +kernel) ?_
    refine x_if_eq (tgt := 35) dX5_isGood_28 (by decide) (fun c_28 => ?_) (fun c_28 => ?_)
    · refine x_iconst (v := 0) dX5_isGood_35 (by decide) ?_
      exact x_retz dX5_isGood_36 rfl (rfl) rfl rfl (⟨by (try simp only [b2i_eq0, b2i_ne0] at *); simp [gdB, b2i, *], rfl⟩)
    · refine x_iconst (v := 1) dX5_isGood_31 (by decide) ?_
      refine x_goto (tgt := 36) dX5_isGood_32 (by decide) ?_
      exact x_retz dX5_isGood_36 rfl (rfl) rfl rfl (⟨by (try simp only [b2i_eq0, b2i_ne0] at *); simp [gdB, b2i, *], rfl⟩)

set_option maxRecDepth 100000 in
set_option maxHeartbeats 4000000 in
theorem lpX5_goodNumber (l : Launch) (g : XG) (S : MS) (f : Int32)  : XA l g MX5_goodNumber (Qp (gdN S f) (wS S)) 14 ((fun i => [some (.ref 0), some (.int f), some (.int (nI (cntB (fun i => gdB S f (nI i)) i))), some (.int (fnI S f)), some (.int (nI i))]) 0) ((fun _ => []) 0) ((fun _ => wS S) 0) 0 0 := by
  refine x_for (cl (fnI S f)) (fun _ => True) (fun i => [some (.ref 0), some (.int f), some (.int (nI (cntB (fun i => gdB S f (nI i)) i))), some (.int (fnI S f)), some (.int (nI i))]) (fun _ => []) (fun _ => wS S) trivial (fun i hi hp ih => ?_) (fun hp => ?_)
  · refine x_iload dX5_goodNumber_14 rfl ?_
    refine x_iload_n dX5_goodNumber_16 rfl ?_
    refine x_icmp_ge_f (tgt := 39) dX5_goodNumber_17 (by decide) (nge_cl hi) ?_
    refine x_aload_n dX5_goodNumber_20 rfl ?_
    refine x_iload_n dX5_goodNumber_21 rfl ?_
    refine x_iload dX5_goodNumber_22 rfl ?_
    refine x_callp [0, 1, 2, 3, 4, 5, 6, 7, 8, 9, 10, 11, 12, 13, 14] (x_iV dX5_goodNumber_24 mlX5_59 lbX5_isGood rfl rfl rfl rfl) (kX5_isGood l g _ _ _) (by decide) rfl rfl (by decide) (by decide) (by simp [Value.category]) rfl rfl (by decide +kernel) ?_
    refine x_if_eq (tgt := 33) dX5_goodNumber_27 (by decide) (fun c_27 => ?_) (fun c_27 => ?_)
    · first | refine x_iinc dX5_goodNumber_33 (by decide) rfl (nI_inc _) ?_ | refine x_iinc dX5_goodNumber_33 (by decide) rfl (inc_1 _) ?_
      refine x_goto (tgt := 14) dX5_goodNumber_36 (by decide) ?_
      (try simp only [b2i_eq0, b2i_ne0] at *)
      exact x_eq (ih trivial) (by simp [cntB, *]) rfl rfl
    · first | refine x_iinc dX5_goodNumber_30 (by decide) rfl (nI_inc _) ?_ | refine x_iinc dX5_goodNumber_30 (by decide) rfl (inc_1 _) ?_
      first | refine x_iinc dX5_goodNumber_33 (by decide) rfl (nI_inc _) ?_ | refine x_iinc dX5_goodNumber_33 (by decide) rfl (inc_1 _) ?_
      refine x_goto (tgt := 14) dX5_goodNumber_36 (by decide) ?_
      (try simp only [b2i_eq0, b2i_ne0] at *)
      exact x_eq (ih trivial) (by simp [cntB, *]) rfl rfl
  · refine x_iload dX5_goodNumber_14 rfl ?_
    refine x_iload_n dX5_goodNumber_16 rfl ?_
    refine x_icmp_ge_t (tgt := 39) dX5_goodNumber_17 (by decide) (ge_cl) ?_
    refine x_iload_n dX5_goodNumber_39 rfl ?_
    exact x_reti dX5_goodNumber_40 rfl rfl rfl (⟨rfl, rfl⟩)

set_option maxRecDepth 100000 in
set_option maxHeartbeats 4000000 in
theorem kX5_goodNumber (l : Launch) (g : XG) (S : MS) (f : Int32) : Ct l g MX5_goodNumber [.ref 0, .int f] (wS S) (Qp (gdN S f) (wS S)) := by
  refine Ct_of (by decide) (by simp [Value.category]) (Nat.le_of_ble_eq_true rfl) ?_
  refine x_iconst (v := 0) dX5_goodNumber_0 (by decide) ?_
  refine x_istore_n dX5_goodNumber_1 (by decide) ?_
  refine x_aload_n dX5_goodNumber_2 rfl ?_
  refine x_getf dX5_goodNumber_3 flX5_21 rfl rfl ?_
  refine x_iload_n dX5_goodNumber_6 rfl ?_
  refine x_callp [7, 8, 9, 10, 11, 12, 13] (x_iV dX5_goodNumber_7 mlX5_55 lbX2_fragmentNumber rfl rfl rfl rfl) (kX2_fragmentNumber l g _ _) (by decide) rfl rfl (by decide) (by decide) (by simp [Value.category]) rfl rfl (by decide +kernel) ?_
  refine x_istore_n dX5_goodNumber_10 (by decide) ?_
  refine x_iconst (v := 0) dX5_goodNumber_11 (by decide) ?_
  refine x_istore dX5_goodNumber_12 (by decide) ?_
  exact lpX5_goodNumber l g S f

set_option maxRecDepth 100000 in
set_option maxHeartbeats 4000000 in
theorem kX5_reserveOf (l : Launch) (g : XG) (S : MS) (f : Int32) : Ct l g MX5_reserveOf [.ref 0, .int f] (wS S) (Qp (rsI S f) (wS S)) := by
  refine Ct_of (by decide) (by simp [Value.category]) (Nat.le_of_ble_eq_true rfl) ?_
  refine x_aload_n dX5_reserveOf_0 rfl ?_
  refine x_iload_n dX5_reserveOf_1 rfl ?_
  refine x_callp [0, 1, 2, 3, 4, 5, 6, 7, 8, 9, 10, 11, 12, 13, 14] (x_iV dX5_reserveOf_2 mlX5_63 lbX5_goodNumber rfl rfl rfl rfl) (kX5_goodNumber l g _ _) (by decide) rfl rfl (by decide) (by decide) (by simp [Value.category]) rfl rfl (by decide +kernel) ?_
  refine x_aload_n dX5_reserveOf_5 rfl ?_
  refine x_getf dX5_reserveOf_6 flX5_21 rfl rfl ?_
  refine x_iload_n dX5_reserveOf_9 rfl ?_
  refine x_callp [7, 8, 9, 10, 11, 12, 13] (x_iV dX5_reserveOf_10 mlX5_66 lbX2_dataOf rfl rfl rfl rfl) (kX2_dataOf l g _ _) (by decide) rfl rfl (by decide) (by decide) (by simp [Value.category]) rfl rfl (by decide +kernel) ?_
  refine x_isub dX5_reserveOf_13 ?_
  exact x_reti dX5_reserveOf_14 rfl rfl rfl (⟨rfl, rfl⟩)

set_option maxRecDepth 100000 in
set_option maxHeartbeats 4000000 in
theorem kX5_isSafe (l : Launch) (g : XG) (S : MS) (f : Int32) : Ct l g MX5_isSafe [.ref 0, .int f] (wS S) (Qp (b2i (sfB S f)) (wS S)) := by
  refine Ct_of (by decide) (by simp [Value.category]) (Nat.le_of_ble_eq_true rfl) ?_
  refine x_aload_n dX5_isSafe_0 rfl ?_
  refine x_getf dX5_isSafe_1 flX5_21 rfl rfl ?_
  refine x_iload_n dX5_isSafe_4 rfl ?_
  refine x_callp [7, 8, 9, 10, 11, 12, 13] (x_iV dX5_isSafe_5 mlX5_69 lbX2_exists rfl rfl rfl rfl) (kX2_exists l g _ _) (by decide) rfl rfl (by decide) (by decide) (by simp [Value.category]) rfl rfl (by decide +kernel) ?_
  refine x_if_eq (tgt := 31) dX5_isSafe_8 (by decide) (fun c_8 => ?_) (fun c_8 => ?_)
  · refine x_iconst (v := 0) dX5_isSafe_31 (by decide) ?_
    exact x_retz dX5_isSafe_32 rfl (rfl) rfl rfl (⟨by (try simp only [b2i_eq0, b2i_ne0] at *); simp [sfB, b2i, *], rfl⟩)
  · refine x_aload_n dX5_isSafe_11 rfl ?_
    refine x_iload_n dX5_isSafe_12 rfl ?_
    refine x_callp [0, 1, 2, 3, 4, 5, 6, 7, 8, 9, 10, 11, 12, 13, 14] (x_iV dX5_isSafe_13 mlX5_63 lbX5_goodNumber rfl rfl rfl rfl) (kX5_goodNumber l g _ _) (by decide) rfl rfl (by decide) (by decide) (by simp [Value.category]) rfl rfl (by decide +kernel) ?_
    refine x_aload_n dX5_isSafe_16 rfl ?_
    refine x_getf dX5_isSafe_17 flX5_21 rfl rfl ?_
    refine x_iload_n dX5_isSafe_20 rfl ?_
    refine x_callp [7, 8, 9, 10, 11, 12, 13] (x_iV dX5_isSafe_21 mlX5_66 lbX2_dataOf rfl rfl rfl rfl) (kX2_dataOf l g _ _) (by decide) rfl rfl (by decide) (by decide) (by simp [Value.category]) rfl rfl (by decide +kernel) ?_
    refine x_icmp_lt (tgt := 31) dX5_isSafe_24 (by decide) (fun c_24 => ?_) (fun c_24 => ?_)
    · refine x_iconst (v := 0) dX5_isSafe_31 (by decide) ?_
      exact x_retz dX5_isSafe_32 rfl (rfl) rfl rfl (⟨by (try simp only [b2i_eq0, b2i_ne0] at *); simp [sfB, b2i, *], rfl⟩)
    · refine x_iconst (v := 1) dX5_isSafe_27 (by decide) ?_
      refine x_goto (tgt := 32) dX5_isSafe_28 (by decide) ?_
      exact x_retz dX5_isSafe_32 rfl (rfl) rfl rfl (⟨by (try simp only [b2i_eq0, b2i_ne0] at *); simp [sfB, b2i, *], rfl⟩)

set_option maxRecDepth 100000 in
set_option maxHeartbeats 4000000 in
theorem lpX5_safeNumber (l : Launch) (g : XG) (S : MS)  : XA l g MX5_safeNumber (Qp (nI (cntB (fun f => sfB S (nI f)) 8)) (wS S)) 4 ((fun i => [some (.ref 0), some (.int (nI (cntB (fun f => sfB S (nI f)) i))), some (.int (nI i))]) 0) ((fun _ => []) 0) ((fun _ => wS S) 0) 0 0 := by
  refine x_for 8 (fun _ => True) (fun i => [some (.ref 0), some (.int (nI (cntB (fun f => sfB S (nI f)) i))), some (.int (nI i))]) (fun _ => []) (fun _ => wS S) trivial (fun i hi hp ih => ?_) (fun hp => ?_)
  · refine x_iload_n dX5_safeNumber_4 rfl ?_
    refine x_bipush (v := 8) dX5_safeNumber_5 (by decide) ?_
    refine x_icmp_ge_f (tgt := 27) dX5_safeNumber_7 (by decide) (nI_nle_of rfl (by decide) hi) ?_
    refine x_aload_n dX5_safeNumber_10 rfl ?_
    refine x_iload_n dX5_safeNumber_11 rfl ?_
    refine x_callp [0, 1, 2, 3, 4, 5, 6, 7, 8, 9, 10, 11, 12, 13, 14] (x_iV dX5_safeNumber_12 mlX5_72 lbX5_isSafe rfl rfl rfl rfl) (kX5_isSafe l g _ _) (by decide) rfl rfl (by decide) (by decide) (by simp [Value.category]) rfl rfl (by decide +kernel) ?_
    refine x_if_eq (tgt := 21) dX5_safeNumber_15 (by decide) (fun c_15 => ?_) (fun c_15 => ?_)
    · first | refine x_iinc dX5_safeNumber_21 (by decide) rfl (nI_inc _) ?_ | refine x_iinc dX5_safeNumber_21 (by decide) rfl (inc_1 _) ?_
      refine x_goto (tgt := 4) dX5_safeNumber_24 (by decide) ?_
      (try simp only [b2i_eq0, b2i_ne0] at *)
      exact x_eq (ih trivial) (by simp [cntB, *]) rfl rfl
    · first | refine x_iinc dX5_safeNumber_18 (by decide) rfl (nI_inc _) ?_ | refine x_iinc dX5_safeNumber_18 (by decide) rfl (inc_1 _) ?_
      first | refine x_iinc dX5_safeNumber_21 (by decide) rfl (nI_inc _) ?_ | refine x_iinc dX5_safeNumber_21 (by decide) rfl (inc_1 _) ?_
      refine x_goto (tgt := 4) dX5_safeNumber_24 (by decide) ?_
      (try simp only [b2i_eq0, b2i_ne0] at *)
      exact x_eq (ih trivial) (by simp [cntB, *]) rfl rfl
  · refine x_iload_n dX5_safeNumber_4 rfl ?_
    refine x_bipush (v := 8) dX5_safeNumber_5 (by decide) ?_
    refine x_icmp_ge_t (tgt := 27) dX5_safeNumber_7 (by decide) (nI_le_of rfl (by decide) (Nat.le_refl _)) ?_
    refine x_iload_n dX5_safeNumber_27 rfl ?_
    exact x_reti dX5_safeNumber_28 rfl rfl rfl (⟨rfl, rfl⟩)

set_option maxRecDepth 100000 in
set_option maxHeartbeats 4000000 in
theorem kX5_safeNumber (l : Launch) (g : XG) (S : MS) : Ct l g MX5_safeNumber [.ref 0] (wS S) (Qp (nI (cntB (fun f => sfB S (nI f)) 8)) (wS S)) := by
  refine Ct_of (by decide) (by simp [Value.category]) (Nat.le_of_ble_eq_true rfl) ?_
  refine x_iconst (v := 0) dX5_safeNumber_0 (by decide) ?_
  refine x_istore_n dX5_safeNumber_1 (by decide) ?_
  refine x_iconst (v := 0) dX5_safeNumber_2 (by decide) ?_
  refine x_istore_n dX5_safeNumber_3 (by decide) ?_
  exact lpX5_safeNumber l g S

set_option maxRecDepth 100000 in
set_option maxHeartbeats 4000000 in
theorem lpX5_findPlace (l : Launch) (g : XG) (S : MS) (f : Int32)  : XA l g MX5_findPlace (Qp (bstI S f 12) (wS S)) 4 ((fun i => [some (.ref 0), some (.int f), some (.int (bstI S f i)), some (.int (nI i))]) 0) ((fun _ => []) 0) ((fun _ => wS S) 0) 0 0 := by
  refine x_for 12 (fun _ => True) (fun i => [some (.ref 0), some (.int f), some (.int (bstI S f i)), some (.int (nI i))]) (fun _ => []) (fun _ => wS S) trivial (fun i hi hp ih => ?_) (fun hp => ?_)
  · refine x_iload_n dX5_findPlace_4 rfl ?_
    refine x_bipush (v := 12) dX5_findPlace_5 (by decide) ?_
    refine x_icmp_ge_f (tgt := 65) dX5_findPlace_7 (by decide) (nI_nle_of rfl (by decide) hi) ?_
    refine x_aload_n dX5_findPlace_10 rfl ?_
    refine x_getf dX5_findPlace_11 flX5_12 rfl rfl ?_
    refine x_iload_n dX5_findPlace_14 rfl ?_
    refine x_callp [1, 2, 3, 4, 5, 6] (x_iV dX5_findPlace_15 mlX5_51 lbX4_isOnline rfl rfl rfl rfl) (kX4_isOnline l g _ _) (by decide) rfl rfl (by decide) (by decide) (by simp [Value.category]) rfl rfl (by decide +kernel) ?_
    refine x_if_eq (tgt := 59) dX5_findPlace_18 (by decide) (fun c_18 => ?_) (fun c_18 => ?_)
    · first | refine x_iinc dX5_findPlace_59 (by decide) rfl (nI_inc _) ?_ | refine x_iinc dX5_findPlace_59 (by decide) rfl (inc_1 _) ?_
      refine x_goto (tgt := 4) dX5_findPlace_62 (by decide) ?_
      (try simp only [b2i_eq0, b2i_ne0] at *)
      exact x_eq (ih trivial) (by simp [bstI, plB, *]) rfl rfl
    · refine x_aload_n dX5_findPlace_21 rfl ?_
      refine x_getf dX5_findPlace_22 flX5_12 rfl rfl ?_
      refine x_iload_n dX5_findPlace_25 rfl ?_
      refine x_callp [1, 2, 3, 4, 5, 6] (x_iV dX5_findPlace_26 mlX5_75 lbX4_freeSpace rfl rfl rfl rfl) (kX4_freeSpace l g _ _) (by decide) rfl rfl (by decide) (by decide) (by simp [Value.category]) rfl rfl (by decide +kernel) ?_
      refine x_if_le (tgt := 59) dX5_findPlace_29 (by decide) (fun c_29 => ?_) (fun c_29 => ?_)
      · first | refine x_iinc dX5_findPlace_59 (by decide) rfl (nI_inc _) ?_ | refine x_iinc dX5_findPlace_59 (by decide) rfl (inc_1 _) ?_
        refine x_goto (tgt := 4) dX5_findPlace_62 (by decide) ?_
        (try simp only [b2i_eq0, b2i_ne0] at *)
        exact x_eq (ih trivial) (by simp [bstI, plB, *]) rfl rfl
      · refine x_aload_n dX5_findPlace_32 rfl ?_
        refine x_getf dX5_findPlace_33 flX5_21 rfl rfl ?_
        refine x_iload_n dX5_findPlace_36 rfl ?_
        refine x_iload_n dX5_findPlace_37 rfl ?_
        refine x_callp [7, 8, 9, 10, 11, 12, 13] (x_iV dX5_findPlace_38 mlX5_78 lbX2_fragmentOn rfl rfl rfl rfl) (kX2_fragmentOn l g _ _ _) (by decide) rfl rfl (by decide) (by decide) (by simp [Value.category]) rfl rfl (by decide +kernel) ?_
        refine x_iconst (v := -1) dX5_findPlace_41 (by decide) ?_
        refine x_icmp_ne (tgt := 59) dX5_findPlace_42 (by decide) (fun c_42 => ?_) (fun c_42 => ?_)
        · first | refine x_iinc dX5_findPlace_59 (by decide) rfl (nI_inc _) ?_ | refine x_iinc dX5_findPlace_59 (by decide) rfl (inc_1 _) ?_
          refine x_goto (tgt := 4) dX5_findPlace_62 (by decide) ?_
          (try simp only [b2i_eq0, b2i_ne0] at *)
          exact x_eq (ih trivial) (by simp [bstI, plB, *]) rfl rfl
        · refine x_aload_n dX5_findPlace_45 rfl ?_
          refine x_getf dX5_findPlace_46 flX5_12 rfl rfl ?_
          refine x_iload_n dX5_findPlace_49 rfl ?_
          refine x_iload_n dX5_findPlace_50 rfl ?_
          refine x_callp [1, 2, 3, 4, 5, 6] (x_iV dX5_findPlace_51 mlX5_81 lbX4_isBetterPlace rfl rfl rfl rfl) (kX4_isBetterPlace l g _ _ _) (by decide) rfl rfl (by decide) (by decide) (by simp [Value.category]) rfl rfl (by decide +kernel) ?_
          refine x_if_eq (tgt := 59) dX5_findPlace_54 (by decide) (fun c_54 => ?_) (fun c_54 => ?_)
          · first | refine x_iinc dX5_findPlace_59 (by decide) rfl (nI_inc _) ?_ | refine x_iinc dX5_findPlace_59 (by decide) rfl (inc_1 _) ?_
            refine x_goto (tgt := 4) dX5_findPlace_62 (by decide) ?_
            (try simp only [b2i_eq0, b2i_ne0] at *)
            exact x_eq (ih trivial) (by simp [bstI, plB, *]) rfl rfl
          · refine x_iload_n dX5_findPlace_57 rfl ?_
            refine x_istore_n dX5_findPlace_58 (by decide) ?_
            first | refine x_iinc dX5_findPlace_59 (by decide) rfl (nI_inc _) ?_ | refine x_iinc dX5_findPlace_59 (by decide) rfl (inc_1 _) ?_
            refine x_goto (tgt := 4) dX5_findPlace_62 (by decide) ?_
            (try simp only [b2i_eq0, b2i_ne0] at *)
            exact x_eq (ih trivial) (by simp [bstI, plB, *]) rfl rfl
  · refine x_iload_n dX5_findPlace_4 rfl ?_
    refine x_bipush (v := 12) dX5_findPlace_5 (by decide) ?_
    refine x_icmp_ge_t (tgt := 65) dX5_findPlace_7 (by decide) (nI_le_of rfl (by decide) (Nat.le_refl _)) ?_
    refine x_iload_n dX5_findPlace_65 rfl ?_
    exact x_reti dX5_findPlace_66 rfl rfl rfl (⟨rfl, rfl⟩)

set_option maxRecDepth 100000 in
set_option maxHeartbeats 4000000 in
theorem kX5_findPlace (l : Launch) (g : XG) (S : MS) (f : Int32) : Ct l g MX5_findPlace [.ref 0, .int f] (wS S) (Qp (bstI S f 12) (wS S)) := by
  refine Ct_of (by decide) (by simp [Value.category]) (Nat.le_of_ble_eq_true rfl) ?_
  refine x_iconst (v := -1) dX5_findPlace_0 (by decide) ?_
  refine x_istore_n dX5_findPlace_1 (by decide) ?_
  refine x_iconst (v := 0) dX5_findPlace_2 (by decide) ?_
  refine x_istore_n dX5_findPlace_3 (by decide) ?_
  exact lpX5_findPlace l g S f

set_option maxRecDepth 100000 in
set_option maxHeartbeats 4000000 in
theorem kX5_mayLeave (l : Launch) (g : XG) (S : MS) (p : Int32) : Ct l g MX5_mayLeave [.ref 0, .int p] (wS S) (Qp (b2i (mlB S p)) (wS S)) := by
  refine Ct_of (by decide) (by simp [Value.category]) (Nat.le_of_ble_eq_true rfl) ?_
  refine x_aload_n dX5_mayLeave_0 rfl ?_
  refine x_getf dX5_mayLeave_1 flX5_12 rfl rfl ?_
  refine x_iload_n dX5_mayLeave_4 rfl ?_
  refine x_callp [1, 2, 3, 4, 5, 6] (x_iV dX5_mayLeave_5 mlX5_51 lbX4_isOnline rfl rfl rfl rfl) (kX4_isOnline l g _ _) (by decide) rfl rfl (by decide) (by decide) (by simp [Value.category]) rfl rfl (by decide +kernel) ?_
  refine x_if_eq (tgt := 26) dX5_mayLeave_8 (by decide) (fun c_8 => ?_) (fun c_8 => ?_)
  · refine x_iconst (v := 0) dX5_mayLeave_26 (by decide) ?_
    exact x_retz dX5_mayLeave_27 rfl (rfl) rfl rfl (⟨by (try simp only [b2i_eq0, b2i_ne0] at *); simp [mlB, obN, b2i, *], rfl⟩)
  · refine x_aload_n dX5_mayLeave_11 rfl ?_
    refine x_getf dX5_mayLeave_12 flX5_21 rfl rfl ?_
    refine x_iload_n dX5_mayLeave_15 rfl ?_
    refine x_callp [7, 8, 9, 10, 11, 12, 13] (x_iV dX5_mayLeave_16 mlX5_116 lbX2_ownedBy rfl rfl rfl rfl) (kX2_ownedBy l g _ _) (by decide) rfl rfl (by decide) (by decide) (by simp [Value.category]) rfl rfl (by decide +kernel) ?_
    refine x_if_ne (tgt := 26) dX5_mayLeave_19 (by decide) (fun c_19 => ?_) (fun c_19 => ?_)
    · refine x_iconst (v := 0) dX5_mayLeave_26 (by decide) ?_
      exact x_retz dX5_mayLeave_27 rfl (rfl) rfl rfl (⟨by (try simp only [b2i_eq0, b2i_ne0] at *); simp [mlB, obN, b2i, *], rfl⟩)
    · refine x_iconst (v := 1) dX5_mayLeave_22 (by decide) ?_
      refine x_goto (tgt := 27) dX5_mayLeave_23 (by decide) ?_
      exact x_retz dX5_mayLeave_27 rfl (rfl) rfl rfl (⟨by (try simp only [b2i_eq0, b2i_ne0] at *); simp [mlB, obN, b2i, *], rfl⟩)

set_option maxRecDepth 100000 in
set_option maxHeartbeats 4000000 in
theorem kX5_needsPeer (l : Launch) (g : XG) (S : MS) (f p : Int32) : Ct l g MX5_needsPeer [.ref 0, .int f, .int p] (wS S) (Qp (b2i (npB S f p)) (wS S)) := by
  refine Ct_of (by decide) (by simp [Value.category]) (Nat.le_of_ble_eq_true rfl) ?_
  refine x_aload_n dX5_needsPeer_0 rfl ?_
  refine x_iload_n dX5_needsPeer_1 rfl ?_
  refine x_callp [0, 1, 2, 3, 4, 5, 6, 7, 8, 9, 10, 11, 12, 13, 14] (x_iV dX5_needsPeer_2 mlX5_72 lbX5_isSafe rfl rfl rfl rfl) (kX5_isSafe l g _ _) (by decide) rfl rfl (by decide) (by decide) (by simp [Value.category]) rfl rfl (by decide +kernel) ?_
  refine x_if_eq (tgt := 16) dX5_needsPeer_5 (by decide) (fun c_5 => ?_) (fun c_5 => ?_)
  · refine x_iconst (v := 0) dX5_needsPeer_16 (by decide) ?_
    exact x_retz dX5_needsPeer_17 rfl (rfl) rfl rfl (⟨by (try simp only [b2i_eq0, b2i_ne0] at *); simp [npB, b2i, *], rfl⟩)
  · refine x_aload_n dX5_needsPeer_8 rfl ?_
    refine x_iload_n dX5_needsPeer_9 rfl ?_
    refine x_callp [0, 1, 2, 3, 4, 5, 6, 7, 8, 9, 10, 11, 12, 13, 14] (x_iV dX5_needsPeer_10 mlX5_132 lbX5_reserveOf rfl rfl rfl rfl) (kX5_reserveOf l g _ _) (by decide) rfl rfl (by decide) (by decide) (by simp [Value.category]) rfl rfl (by decide +kernel) ?_
    refine x_if_le (tgt := 18) dX5_needsPeer_13 (by decide) (fun c_13 => ?_) (fun c_13 => ?_)
    · refine x_aload_n dX5_needsPeer_18 rfl ?_
      refine x_iload_n dX5_needsPeer_19 rfl ?_
      refine x_aload_n dX5_needsPeer_20 rfl ?_
      refine x_getf dX5_needsPeer_21 flX5_21 rfl rfl ?_
      refine x_iload_n dX5_needsPeer_24 rfl ?_
      refine x_iload_n dX5_needsPeer_25 rfl ?_
      refine x_callp [7, 8, 9, 10, 11, 12, 13] (x_iV dX5_needsPeer_26 mlX5_78 lbX2_fragmentOn rfl rfl rfl rfl) (kX2_fragmentOn l g _ _ _) (by decide) rfl rfl (by decide) (by decide) (by simp [Value.category]) rfl rfl (by decide +kernel) ?_
      refine x_callp [0, 1, 2, 3, 4, 5, 6, 7, 8, 9, 10, 11, 12, 13, 14] (x_iV dX5_needsPeer_29 mlX5_59 lbX5_isGood rfl rfl rfl rfl) (kX5_isGood l g _ _ _) (by decide) rfl rfl (by decide) (by decide) (by simp [Value.category]) rfl rfl (by decide +kernel) ?_
      exact x_retz dX5_needsPeer_32 rfl (b2i_narrow _) rfl rfl (⟨by (try simp only [b2i_eq0, b2i_ne0] at *); simp [npB, *], rfl⟩)
    · refine x_iconst (v := 0) dX5_needsPeer_16 (by decide) ?_
      exact x_retz dX5_needsPeer_17 rfl (rfl) rfl rfl (⟨by (try simp only [b2i_eq0, b2i_ne0] at *); simp [npB, b2i, *], rfl⟩)

set_option maxRecDepth 100000 in
set_option maxHeartbeats 4000000 in
theorem kX5_canBreak (l : Launch) (g : XG) (S : MS) (f c : Int32) : Ct l g MX5_canBreak [.ref 0, .int f, .int c] (wS S) (Qp (b2i (cbB S f c)) (wS S)) := by
  refine Ct_of (by decide) (by simp [Value.category]) (Nat.le_of_ble_eq_true rfl) ?_
  refine x_iload_n dX5_canBreak_0 rfl ?_
  refine x_aload_n dX5_canBreak_1 rfl ?_
  refine x_getf dX5_canBreak_2 flX5_12 rfl rfl ?_
  refine x_callp [1, 2, 3, 4, 5, 6] (x_iV dX5_canBreak_5 mlX5_138 lbX4_number rfl rfl rfl rfl) (kX4_number l g _) (by decide) rfl rfl (by decide) (by decide) (by simp [Value.category]) rfl rfl (by decide +kernel) ?_
  refine x_icmp_lt (tgt := 13) dX5_canBreak_8 (by decide) (fun c_8 => ?_) (fun c_8 => ?_)
  · refine x_aload_n dX5_canBreak_13 rfl ?_
    refine x_iload_n dX5_canBreak_14 rfl ?_
    refine x_callp [0, 1, 2, 3, 4, 5, 6, 7, 8, 9, 10, 11, 12, 13, 14] (x_iV dX5_canBreak_15 mlX5_63 lbX5_goodNumber rfl rfl rfl rfl) (kX5_goodNumber l g _ _) (by decide) rfl rfl (by decide) (by decide) (by simp [Value.category]) rfl rfl (by decide +kernel) ?_
    refine x_istore_n dX5_canBreak_18 (by decide) ?_
    refine x_aload_n dX5_canBreak_19 rfl ?_
    refine x_getf dX5_canBreak_20 flX5_21 rfl rfl ?_
    refine x_iload_n dX5_canBreak_23 rfl ?_
    refine x_aload_n dX5_canBreak_24 rfl ?_
    refine x_getf dX5_canBreak_25 flX5_21 rfl rfl ?_
    refine x_iload_n dX5_canBreak_28 rfl ?_
    refine x_callp [7, 8, 9, 10, 11, 12, 13] (x_iV dX5_canBreak_29 mlX5_92 lbX2_ownerOf rfl rfl rfl rfl) (kX2_ownerOf l g _ _) (by decide) rfl rfl (by decide) (by decide) (by simp [Value.category]) rfl rfl (by decide +kernel) ?_
    refine x_callp [7, 8, 9, 10, 11, 12, 13] (x_iV dX5_canBreak_32 mlX5_78 lbX2_fragmentOn rfl rfl rfl rfl) (kX2_fragmentOn l g _ _ _) (by decide) rfl rfl (by decide) (by decide) (by simp [Value.category]) rfl rfl (by decide +kernel) ?_
    refine x_istore dX5_canBreak_35 (by decide) ?_
    refine x_aload_n dX5_canBreak_37 rfl ?_
    refine x_iload_n dX5_canBreak_38 rfl ?_
    refine x_iload dX5_canBreak_39 rfl ?_
    refine x_callp [0, 1, 2, 3, 4, 5, 6, 7, 8, 9, 10, 11, 12, 13, 14] (x_iV dX5_canBreak_41 mlX5_59 lbX5_isGood rfl rfl rfl rfl) (kX5_isGood l g _ _ _) (by decide) rfl rfl (by decide) (by decide) (by simp [Value.category]) rfl rfl (by decide +kernel) ?_
    refine x_if_eq (tgt := 53) dX5_canBreak_44 (by decide) (fun c_44 => ?_) (fun c_44 => ?_)
    · refine x_iload_n dX5_canBreak_53 rfl ?_
      refine x_istore dX5_canBreak_54 (by decide) ?_
      refine x_iload_n dX5_canBreak_56 rfl ?_
      refine x_iload dX5_canBreak_57 rfl ?_
      refine x_min dX5_canBreak_59 mlX5_142 w_min1 w_math w_min3 (by decide) (by decide) (by decide) (by simp [Value.category]) ?_
      refine x_iload_n dX5_canBreak_62 rfl ?_
      refine x_aload_n dX5_canBreak_63 rfl ?_
      refine x_getf dX5_canBreak_64 flX5_21 rfl rfl ?_
      refine x_iload_n dX5_canBreak_67 rfl ?_
      refine x_callp [7, 8, 9, 10, 11, 12, 13] (x_iV dX5_canBreak_68 mlX5_66 lbX2_dataOf rfl rfl rfl rfl) (kX2_dataOf l g _ _) (by decide) rfl rfl (by decide) (by decide) (by simp [Value.category]) rfl rfl (by decide +kernel) ?_
      refine x_isub dX5_canBreak_71 ?_
      refine x_icmp_le (tgt := 79) dX5_canBreak_72 (by decide) (fun c_72 => ?_) (fun c_72 => ?_)
      · refine x_iconst (v := 0) dX5_canBreak_79 (by decide) ?_
        exact x_retz dX5_canBreak_80 rfl (rfl) rfl rfl (⟨by (try simp only [b2i_eq0, b2i_ne0] at *); simp [cbB, onO, b2i, *], rfl⟩)
      · refine x_iconst (v := 1) dX5_canBreak_75 (by decide) ?_
        refine x_goto (tgt := 80) dX5_canBreak_76 (by decide) ?_
        exact x_retz dX5_canBreak_80 rfl (rfl) rfl rfl (⟨by (try simp only [b2i_eq0, b2i_ne0] at *); simp [cbB, onO, b2i, *], rfl⟩)
    · refine x_iload_n dX5_canBreak_47 rfl ?_
      refine x_iconst (v := 1) dX5_canBreak_48 (by decide) ?_
      refine x_isub dX5_canBreak_49 ?_
      refine x_goto (tgt := 54) dX5_canBreak_50 (by decide) ?_
      refine x_istore dX5_canBreak_54 (by decide) ?_
      refine x_iload_n dX5_canBreak_56 rfl ?_
      refine x_iload dX5_canBreak_57 rfl ?_
      refine x_min dX5_canBreak_59 mlX5_142 w_min1 w_math w_min3 (by decide) (by decide) (by decide) (by simp [Value.category]) ?_
      refine x_iload_n dX5_canBreak_62 rfl ?_
      refine x_aload_n dX5_canBreak_63 rfl ?_
      refine x_getf dX5_canBreak_64 flX5_21 rfl rfl ?_
      refine x_iload_n dX5_canBreak_67 rfl ?_
      refine x_callp [7, 8, 9, 10, 11, 12, 13] (x_iV dX5_canBreak_68 mlX5_66 lbX2_dataOf rfl rfl rfl rfl) (kX2_dataOf l g _ _) (by decide) rfl rfl (by decide) (by decide) (by simp [Value.category]) rfl rfl (by decide +kernel) ?_
      refine x_isub dX5_canBreak_71 ?_
      refine x_icmp_le (tgt := 79) dX5_canBreak_72 (by decide) (fun c_72 => ?_) (fun c_72 => ?_)
      · refine x_iconst (v := 0) dX5_canBreak_79 (by decide) ?_
        exact x_retz dX5_canBreak_80 rfl (rfl) rfl rfl (⟨by (try simp only [b2i_eq0, b2i_ne0] at *); simp [cbB, onO, b2i, *], rfl⟩)
      · refine x_iconst (v := 1) dX5_canBreak_75 (by decide) ?_
        refine x_goto (tgt := 80) dX5_canBreak_76 (by decide) ?_
        exact x_retz dX5_canBreak_80 rfl (rfl) rfl rfl (⟨by (try simp only [b2i_eq0, b2i_ne0] at *); simp [cbB, onO, b2i, *], rfl⟩)
  · refine x_iconst (v := 0) dX5_canBreak_11 (by decide) ?_
    exact x_retz dX5_canBreak_12 rfl (rfl) rfl rfl (⟨by (try simp only [b2i_eq0, b2i_ne0] at *); simp [cbB, onO, b2i, *], rfl⟩)

set_option maxRecDepth 100000 in
set_option maxHeartbeats 4000000 in
theorem lpX5_bearsCrashes (l : Launch) (g : XG) (S : MS) (c : Int32)  : XA l g MX5_bearsCrashes (Qp (b2i (bcB S c)) (wS S)) 2 ((fun i => [some (.ref 0), some (.int c), some (.int (nI i))]) 0) ((fun _ => []) 0) ((fun _ => wS S) 0) 0 0 := by
  refine x_for 8 (fun i => allB (fun f => !(sfB S (nI f) && cbB S (nI f) c)) i = true) (fun i => [some (.ref 0), some (.int c), some (.int (nI i))]) (fun _ => []) (fun _ => wS S) rfl (fun i hi hp ih => ?_) (fun hp => ?_)
  · refine x_iload_n dX5_bearsCrashes_2 rfl ?_
    refine x_bipush (v := 8) dX5_bearsCrashes_3 (by decide) ?_
    refine x_icmp_ge_f (tgt := 33) dX5_bearsCrashes_5 (by decide) (nI_nle_of rfl (by decide) hi) ?_
    refine x_aload_n dX5_bearsCrashes_8 rfl ?_
    refine x_iload_n dX5_bearsCrashes_9 rfl ?_
    refine x_callp [0, 1, 2, 3, 4, 5, 6, 7, 8, 9, 10, 11, 12, 13, 14] (x_iV dX5_bearsCrashes_10 mlX5_72 lbX5_isSafe rfl rfl rfl rfl) (kX5_isSafe l g _ _) (by decide) rfl rfl (by decide) (by decide) (by simp [Value.category]) rfl rfl (by decide +kernel) ?_
    refine x_if_eq (tgt := 27) dX5_bearsCrashes_13 (by decide) (fun c_13 => ?_) (fun c_13 => ?_)
    · first | refine x_iinc dX5_bearsCrashes_27 (by decide) rfl (nI_inc _) ?_ | refine x_iinc dX5_bearsCrashes_27 (by decide) rfl (inc_1 _) ?_
      refine x_goto (tgt := 2) dX5_bearsCrashes_30 (by decide) ?_
      (try simp only [b2i_eq0, b2i_ne0] at *)
      exact ih (by rw [allB, hp]; simp [*])
    · refine x_aload_n dX5_bearsCrashes_16 rfl ?_
      refine x_iload_n dX5_bearsCrashes_17 rfl ?_
      refine x_iload_n dX5_bearsCrashes_18 rfl ?_
      refine x_callp [0, 1, 2, 3, 4, 5, 6, 7, 8, 9, 10, 11, 12, 13, 14] (x_iV dX5_bearsCrashes_19 mlX5_135 lbX5_canBreak rfl rfl rfl rfl) (kX5_canBreak l g _ _ _) (by decide) rfl rfl (by decide) (by decide) (by simp [Value.category]) rfl rfl (by decide +kernel) ?_
      refine x_if_eq (tgt := 27) dX5_bearsCrashes_22 (by decide) (fun c_22 => ?_) (fun c_22 => ?_)
      · first | refine x_iinc dX5_bearsCrashes_27 (by decide) rfl (nI_inc _) ?_ | refine x_iinc dX5_bearsCrashes_27 (by decide) rfl (inc_1 _) ?_
        refine x_goto (tgt := 2) dX5_bearsCrashes_30 (by decide) ?_
        (try simp only [b2i_eq0, b2i_ne0] at *)
        exact ih (by rw [allB, hp]; simp [*])
      · (try simp only [b2i_eq0, b2i_ne0] at *)
        refine x_iconst (v := 0) dX5_bearsCrashes_25 (by decide) ?_
        exact x_retz dX5_bearsCrashes_26 rfl (rfl) rfl rfl (⟨by rw [bcB, allB_f hi (by simp [*])]; rfl, rfl⟩)
  · refine x_iload_n dX5_bearsCrashes_2 rfl ?_
    refine x_bipush (v := 8) dX5_bearsCrashes_3 (by decide) ?_
    refine x_icmp_ge_t (tgt := 33) dX5_bearsCrashes_5 (by decide) (nI_le_of rfl (by decide) (Nat.le_refl _)) ?_
    refine x_iconst (v := 1) dX5_bearsCrashes_33 (by decide) ?_
    exact x_retz dX5_bearsCrashes_34 rfl (rfl) rfl rfl (⟨by rw [bcB, hp]; rfl, rfl⟩)

set_option maxRecDepth 100000 in
set_option maxHeartbeats 4000000 in
theorem kX5_bearsCrashes (l : Launch) (g : XG) (S : MS) (c : Int32) : Ct l g MX5_bearsCrashes [.ref 0, .int c] (wS S) (Qp (b2i (bcB S c)) (wS S)) := by
  refine Ct_of (by decide) (by simp [Value.category]) (Nat.le_of_ble_eq_true rfl) ?_
  refine x_iconst (v := 0) dX5_bearsCrashes_0 (by decide) ?_
  refine x_istore_n dX5_bearsCrashes_1 (by decide) ?_
  exact lpX5_bearsCrashes l g S c
