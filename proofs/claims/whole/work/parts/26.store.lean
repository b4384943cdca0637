noncomputable def wC (b : Bool) (S' S : MS) (G : Nat → MS) (r n : Nat) (E : Nat → Int32) (en : Int32) (C : Nat → Int32) (cs : Int32) (P T : MS) : XW := cond b (wN S' (tX (recG G r n S) (recR r n) (recN n) E en C cs P T)) (wN S (tX G r n E en C cs P T))
/-! what each call answers, whether it is a change, and the state behind it -/
def luP (S : MS) : Int32 := fstF (fun p => exB S (nI p)) 0 12
def luF (S : MS) : Int32 := fstF (fun f => exF S (nI f)) 0 8
def okJoin (S : MS) (u : Int32) : Bool := decide (¬ u < 1) && decide (u ≤ 40) && decide (¬ luP S = -1)
def vJoin (S : MS) (u : Int32) : Int32 := if u < 1 then -10001 else if u ≤ 40 then (if luP S = -1 then -10003 else luP S) else -10001
def okLeave (S : MS) (p : Int32) : Bool := exB S p && mlB S p
def vLeave (S : MS) (p : Int32) : Int32 := if exB S p then (if mlB S p then nI (nLv S p 8) else -10002) else -10001
def vCrash (S : MS) (p : Int32) : Int32 := if exB S p then nI (nCr S p 8) else -10001
def okOnl (S : MS) (p o : Int32) : Bool := exB S p && decide (¬ o < 0) && decide (o ≤ 1)
def vOnl (S : MS) (p o : Int32) : Int32 := if okOnl S p o then S 1 (cl p) else -10001
def okPay (S : MS) (p q a : Int32) : Bool := twoB S p q && decide (¬ a < 1) && decide (a ≤ 1000) && decide (a ≤ owI S p q)
def vPay (S : MS) (p q a : Int32) : Int32 := if twoB S p q && decide (¬ a < 1) && decide (a ≤ 1000) then (if a ≤ owI S p q then owI (sOwe S p q (-a)) p q else -10002) else -10001
def vBal (S : MS) (p q : Int32) : Int32 := if twoB S p q then owI S p q else -10001
def okWord (S : MS) (w : Int32) : Bool := decide (¬ w < 0) && decide (w ≤ 255) && decide (S 12 0 < 6)
def vWord (S : MS) (w : Int32) : Int32 := if w < 0 then -10001 else if w ≤ 255 then (if S 12 0 < 6 then sWait S w 12 0 else -10003) else -10001
def vDel (S : MS) (f : Int32) : Int32 := if exF S f then nI (cntB (fun f' => exF (sDel S f) (nI f')) 8) else -10001
def vFrag (S : MS) (f i w : Int32) : Int32 := if hfB S f i && decide (¬ w < 0) && decide (w ≤ 1) then (if plI S f i = -1 then -10004 else if w = 0 then plI S f i else svI S f i) else -10001
def vRead (S : MS) (f i : Int32) : Int32 := if hdB S f i then (if sfB S f || gdB S f i then coI S f i else -10002) else -10001
def okSpoil (S : MS) (f i a : Int32) : Bool := hfB S f i && decide (¬ a < 1) && decide (a < 257) && decide (¬ plI S f i = -1)
def vSpoil (S : MS) (f i a : Int32) : Int32 := if hfB S f i && decide (¬ a < 1) && decide (a < 257) then (if plI S f i = -1 then -10002 else if erI (sErr S f i a) f i = 0 then 0 else 1) else -10001
def okRep (S : MS) (f : Int32) : Bool := exF S f && sfB S f
def vRep (S : MS) (f : Int32) : Int32 := if exF S f then (if sfB S f then nI (nRF S f (cl (fnI S f))) else -10002) else -10001

set_option maxRecDepth 100000 in
set_option maxHeartbeats 4000000 in
theorem kX6_join (l : Launch) (g : XG) (S : MS) (G : Nat → MS) (r n : Nat) (E : Nat → Int32) (en : Int32) (C : Nat → Int32) (cs : Int32) (P T : MS) (u : Int32) (hr : r < 5) (hn : n ≤ 5) : Ct l g MX6_join [.ref 0, .int u] (wN S (tX G r n E en C cs P T)) (Qi (fun v w1 => v = vJoin S u ∧ w1 = wC (okJoin S u) (sAdd S (luP S) u) S G r n E en C cs P T)) := by
  refine Ct_of (by decide) (by simp [Value.category]) (Nat.le_of_ble_eq_true rfl) ?_
  refine x_iload_n dX6_join_0 rfl ?_
  refine x_iconst (v := 1) dX6_join_1 (by decide) ?_
  refine x_icmp_lt (tgt := 11) dX6_join_2 (by decide) (fun c_2 => ?_) (fun c_2 => ?_)
  · refine x_sipush (v := -10001) dX6_join_11 (by decide) ?_
    exact x_reti dX6_join_14 rfl rfl rfl (⟨_, rfl, by (try simp only [b2i_eq0, b2i_ne0] at *); first | (rw [wC, show (okJoin S u) = false by simp [okJoin, luP, *]] <;> exact ⟨by simp [vJoin, okJoin, luP, *], rfl⟩) | (rw [wC, show (okJoin S u) = true by simp [okJoin, luP, *]] <;> exact ⟨by simp [vJoin, okJoin, luP, *], rfl⟩)⟩)
  · refine x_iload_n dX6_join_5 rfl ?_
    refine x_bipush (v := 40) dX6_join_6 (by decide) ?_
    refine x_icmp_le (tgt := 15) dX6_join_8 (by decide) (fun c_8 => ?_) (fun c_8 => ?_)
    · refine x_aload_n dX6_join_15 rfl ?_
      refine x_getf dX6_join_16 flX6_12 rfl rfl ?_
      refine x_getf dX6_join_19 flX6_43 rfl rfl ?_
      refine x_callp [2, 3, 4, 5, 6, 7] (x_iV dX6_join_22 mlX6_47 lbX4_lowestUnused rfl rfl rfl rfl) (kX4_lowestUnused l g _) (by decide) rfl rfl (by decide) (by decide) (by simp [Value.category]) rfl rfl (by decide +kernel) ?_
      refine x_istore_n dX6_join_25 (by decide) ?_
      refine x_iload_n dX6_join_26 rfl ?_
      refine x_iconst (v := -1) dX6_join_27 (by decide) ?_
      refine x_icmp_ne (tgt := 35) dX6_join_28 (by decide) (fun c_28 => ?_) (fun c_28 => ?_)
      · refine x_aload_n dX6_join_35 rfl ?_
        refine x_getf dX6_join_36 flX6_19 rfl rfl ?_
        refine x_aload_n dX6_join_39 rfl ?_
        refine x_getf dX6_join_40 flX6_12 rfl rfl ?_
        refine x_rec r n dX6_join_43 rfl (by decide) (by decide) (by decide) (by simp [Value.category]) hr hn ?_
        refine x_aload_n dX6_join_46 rfl ?_
        refine x_getf dX6_join_47 flX6_12 rfl rfl ?_
        refine x_getf dX6_join_50 flX6_43 rfl rfl ?_
        refine x_iload_n dX6_join_53 rfl ?_
        refine x_iload_n dX6_join_54 rfl ?_
        refine x_callv [2, 3, 4, 5, 6, 7] (x_iV dX6_join_55 mlX6_57 lbX4_add rfl rfl rfl rfl) (kX4_add l g S _ _) (by decide) (by decide) (by decide) (by simp [Value.category]) rfl rfl (by decide +kernel) (fun w1 h1 => ?_)
        obtain rfl := h1
        refine x_eq ?_ rfl rfl (wN_P (agP_add _ _ _))
        refine x_iload_n dX6_join_58 rfl ?_
        exact x_reti dX6_join_59 rfl rfl rfl (⟨_, rfl, by (try simp only [b2i_eq0, b2i_ne0] at *); first | (rw [wC, show (okJoin S u) = false by simp [okJoin, luP, *]] <;> exact ⟨by simp [vJoin, okJoin, luP, *], rfl⟩) | (rw [wC, show (okJoin S u) = true by simp [okJoin, luP, *]] <;> exact ⟨by simp [vJoin, okJoin, luP, *], rfl⟩)⟩)
      · refine x_sipush (v := -10003) dX6_join_31 (by decide) ?_
        exact x_reti dX6_join_34 rfl rfl rfl (⟨_, rfl, by (try simp only [b2i_eq0, b2i_ne0] at *); first | (rw [wC, show (okJoin S u) = false by simp [okJoin, luP, *]] <;> exact ⟨by simp [vJoin, okJoin, luP, *], rfl⟩) | (rw [wC, show (okJoin S u) = true by simp [okJoin, luP, *]] <;> exact ⟨by simp [vJoin, okJoin, luP, *], rfl⟩)⟩)
    · refine x_sipush (v := -10001) dX6_join_11 (by decide) ?_
      exact x_reti dX6_join_14 rfl rfl rfl (⟨_, rfl, by (try simp only [b2i_eq0, b2i_ne0] at *); first | (rw [wC, show (okJoin S u) = false by simp [okJoin, luP, *]] <;> exact ⟨by simp [vJoin, okJoin, luP, *], rfl⟩) | (rw [wC, show (okJoin S u) = true by simp [okJoin, luP, *]] <;> exact ⟨by simp [vJoin, okJoin, luP, *], rfl⟩)⟩)

set_option maxRecDepth 100000 in
set_option maxHeartbeats 4000000 in
theorem kX6_leave (l : Launch) (g : XG) (S : MS) (G : Nat → MS) (r n : Nat) (E : Nat → Int32) (en : Int32) (C : Nat → Int32) (cs : Int32) (P T : MS) (p : Int32) (hr : r < 5) (hn : n ≤ 5) : Ct l g MX6_leave [.ref 0, .int p] (wN S (tX G r n E en C cs P T)) (Qi (fun v w1 => v = vLeave S p ∧ w1 = wC (okLeave S p) (sLeave S p) S G r n E en C cs P T)) := by
  refine Ct_of (by decide) (by simp [Value.category]) (Nat.le_of_ble_eq_true rfl) ?_
  refine x_aload_n dX6_leave_0 rfl ?_
  refine x_getf dX6_leave_1 flX6_12 rfl rfl ?_
  refine x_getf dX6_leave_4 flX6_43 rfl rfl ?_
  refine x_iload_n dX6_leave_7 rfl ?_
  refine x_callp [2, 3, 4, 5, 6, 7] (x_iV dX6_leave_8 mlX6_61 lbX4_exists rfl rfl rfl rfl) (kX4_exists l g _ _) (by decide) rfl rfl (by decide) (by decide) (by simp [Value.category]) rfl rfl (by decide +kernel) ?_
  refine x_if_ne (tgt := 18) dX6_leave_11 (by decide) (fun c_11 => ?_) (fun c_11 => ?_)
  · refine x_aload_n dX6_leave_18 rfl ?_
    refine x_getf dX6_leave_19 flX6_12 rfl rfl ?_
    refine x_iload_n dX6_leave_22 rfl ?_
    refine x_callp [1, 2, 3, 4, 5, 6, 7, 8, 9, 10, 11, 12, 13, 14, 15] (x_iV dX6_leave_23 mlX6_65 lbX5_mayLeave rfl rfl rfl rfl) (kX5_mayLeave l g _ _) (by decide) rfl rfl (by decide) (by decide) (by simp [Value.category]) rfl rfl (by decide +kernel) ?_
    refine x_if_ne (tgt := 33) dX6_leave_26 (by decide) (fun c_26 => ?_) (fun c_26 => ?_)
    · refine x_aload_n dX6_leave_33 rfl ?_
      refine x_getf dX6_leave_34 flX6_19 rfl rfl ?_
      refine x_aload_n dX6_leave_37 rfl ?_
      refine x_getf dX6_leave_38 flX6_12 rfl rfl ?_
      refine x_rec r n dX6_leave_41 rfl (by decide) (by decide) (by decide) (by simp [Value.category]) hr hn ?_
      refine x_aload_n dX6_leave_44 rfl ?_
      refine x_getf dX6_leave_45 flX6_12 rfl rfl ?_
      refine x_iload_n dX6_leave_48 rfl ?_
      refine x_calli [1, 2, 3, 4, 5, 6, 7, 8, 9, 10, 11, 12, 13, 14, 15] (x_iV dX6_leave_49 mlX6_68 lbX5_leaveInOrder rfl rfl rfl rfl) (kX5_leaveInOrder l g S _) (by decide) rfl rfl (by decide) (by decide) (by simp [Value.category]) rfl rfl (by decide +kernel) (fun v1 w1 h1 => ?_)
      obtain ⟨rfl, rfl⟩ := h1
      refine x_eq (w' := wN (sLeave S p) (tX (recG G r n S) (recR r n) (recN n) E en C cs P T)) ?_ rfl rfl rfl
      exact x_reti dX6_leave_52 rfl rfl rfl (⟨_, rfl, by (try simp only [b2i_eq0, b2i_ne0] at *); first | (rw [wC, show (okLeave S p) = false by simp [okLeave, *]] <;> exact ⟨by simp [vLeave, okLeave, *], rfl⟩) | (rw [wC, show (okLeave S p) = true by simp [okLeave, *]] <;> exact ⟨by simp [vLeave, okLeave, *], rfl⟩)⟩)
    · refine x_sipush (v := -10002) dX6_leave_29 (by decide) ?_
      exact x_reti dX6_leave_32 rfl rfl rfl (⟨_, rfl, by (try simp only [b2i_eq0, b2i_ne0] at *); first | (rw [wC, show (okLeave S p) = false by simp [okLeave, *]] <;> exact ⟨by simp [vLeave, okLeave, *], rfl⟩) | (rw [wC, show (okLeave S p) = true by simp [okLeave, *]] <;> exact ⟨by simp [vLeave, okLeave, *], rfl⟩)⟩)
  · refine x_sipush (v := -10001) dX6_leave_14 (by decide) ?_
    exact x_reti dX6_leave_17 rfl rfl rfl (⟨_, rfl, by (try simp only [b2i_eq0, b2i_ne0] at *); first | (rw [wC, show (okLeave S p) = false by simp [okLeave, *]] <;> exact ⟨by simp [vLeave, okLeave, *], rfl⟩) | (rw [wC, show (okLeave S p) = true by simp [okLeave, *]] <;> exact ⟨by simp [vLeave, okLeave, *], rfl⟩)⟩)

set_option maxRecDepth 100000 in
set_option maxHeartbeats 4000000 in
theorem kX6_crash (l : Launch) (g : XG) (S : MS) (G : Nat → MS) (r n : Nat) (E : Nat → Int32) (en : Int32) (C : Nat → Int32) (cs : Int32) (P T : MS) (p : Int32) (hr : r < 5) (hn : n ≤ 5) : Ct l g MX6_crash [.ref 0, .int p] (wN S (tX G r n E en C cs P T)) (Qi (fun v w1 => v = vCrash S p ∧ w1 = wC (exB S p) (sCrash S p) S G r n E en C cs P T)) := by
  refine Ct_of (by decide) (by simp [Value.category]) (Nat.le_of_ble_eq_true rfl) ?_
  refine x_aload_n dX6_crash_0 rfl ?_
  refine x_getf dX6_crash_1 flX6_12 rfl rfl ?_
  refine x_getf dX6_crash_4 flX6_43 rfl rfl ?_
  refine x_iload_n dX6_crash_7 rfl ?_
  refine x_callp [2, 3, 4, 5, 6, 7] (x_iV dX6_crash_8 mlX6_61 lbX4_exists rfl rfl rfl rfl) (kX4_exists l g _ _) (by decide) rfl rfl (by decide) (by decide) (by simp [Value.category]) rfl rfl (by decide +kernel) ?_
  refine x_if_ne (tgt := 18) dX6_crash_11 (by decide) (fun c_11 => ?_) (fun c_11 => ?_)
  · refine x_aload_n dX6_crash_18 rfl ?_
    refine x_getf dX6_crash_19 flX6_19 rfl rfl ?_
    refine x_aload_n dX6_crash_22 rfl ?_
    refine x_getf dX6_crash_23 flX6_12 rfl rfl ?_
    refine x_rec r n dX6_crash_26 rfl (by decide) (by decide) (by decide) (by simp [Value.category]) hr hn ?_
    refine x_aload_n dX6_crash_29 rfl ?_
    refine x_getf dX6_crash_30 flX6_12 rfl rfl ?_
    refine x_iload_n dX6_crash_33 rfl ?_
    refine x_calli [1, 2, 3, 4, 5, 6, 7, 8, 9, 10, 11, 12, 13, 14, 15] (x_iV dX6_crash_34 mlX6_72 lbX5_removeCrashed rfl rfl rfl rfl) (kX5_removeCrashed l g S _) (by decide) rfl rfl (by decide) (by decide) (by simp [Value.category]) rfl rfl (by decide +kernel) (fun v1 w1 h1 => ?_)
    obtain ⟨rfl, rfl⟩ := h1
    refine x_eq (w' := wN (sCrash S p) (tX (recG G r n S) (recR r n) (recN n) E en C cs P T)) ?_ rfl rfl rfl
    exact x_reti dX6_crash_37 rfl rfl rfl (⟨_, rfl, by (try simp only [b2i_eq0, b2i_ne0] at *); first | (rw [wC, show (exB S p) = false by simp [vCrash, *]] <;> exact ⟨by simp [vCrash, vCrash, *], rfl⟩) | (rw [wC, show (exB S p) = true by simp [vCrash, *]] <;> exact ⟨by simp [vCrash, vCrash, *], rfl⟩)⟩)
  · refine x_sipush (v := -10001) dX6_crash_14 (by decide) ?_
    exact x_reti dX6_crash_17 rfl rfl rfl (⟨_, rfl, by (try simp only [b2i_eq0, b2i_ne0] at *); first | (rw [wC, show (exB S p) = false by simp [vCrash, *]] <;> exact ⟨by simp [vCrash, vCrash, *], rfl⟩) | (rw [wC, show (exB S p) = true by simp [vCrash, *]] <;> exact ⟨by simp [vCrash, vCrash, *], rfl⟩)⟩)
