def sOR (S : MS) (f : Int32) : Nat → MS × Int32
  | 0 => (S, daI S f)
  | i + 1 => if !decide ((sOR S f i).2 ≤ 0) && gdB (sOR S f i).1 f (nI i) then (sOwe (sOR S f i).1 (foI (sOR S f i).1 f) (plI (sOR S f i).1 f (nI i)) 1, (sOR S f i).2 + Int32.ofInt (-1)) else sOR S f i
theorem sOR_stop {S : MS} {f : Int32} {i : Nat} (h : (sOR S f i).2 ≤ 0) : ∀ {j : Nat}, i ≤ j → sOR S f j = sOR S f i := by
  intro j hj
  induction j with
  | zero => have : i = 0 := by omega
            subst this; rfl
  | succ j ih =>
    rcases Nat.lt_or_eq_of_le hj with h1 | h1
    · have h2 := ih (by omega)
      rw [sOR, h2]
      simp [h]
    · rw [h1]
def sOweR (S : MS) (f : Int32) : MS := (sOR S f (cl (fnI S f))).1
def rnB (S : MS) (f i : Int32) : Bool := decide (¬ bstI (sTake S f i) f 12 = -1)
def sRn (S : MS) (f i : Int32) : MS := cond (rnB S f i) (sPut (sOweR (sTake S f i) f) f i (bstI (sTake S f i) f 12) 0) (sTake S f i)
def sRF (S : MS) (f : Int32) : Nat → MS
  | 0 => S
  | i + 1 => cond (gdB (sRF S f i) f (nI i)) (sRF S f i) (sRn (sRF S f i) f (nI i))
def nRF (S : MS) (f : Int32) : Nat → Nat
  | 0 => 0
  | i + 1 => nRF S f i + (if !gdB (sRF S f i) f (nI i) && rnB (sRF S f i) f (nI i) then 1 else 0)
def sPlc (S : MS) (f i : Int32) : MS := cond (decide (bstI S f 12 = -1)) S (sPut S f i (bstI S f 12) 0)
def sPlA (S : MS) (f : Int32) : Nat → MS
  | 0 => S
  | i + 1 => sPlc (sPlA S f i) f (nI i)
def sMake (S : MS) (f : Nat) (o : Int32) (wd : Nat → Nat) (k m : Nat) : MS := sPlA (us (sAddF S f o wd k m) 12 0 0) (nI f) (cl (fnI (us (sAddF S f o wd k m) 12 0 0) (nI f)))

set_option maxRecDepth 100000 in
set_option maxHeartbeats 4000000 in
theorem lpX5_oweReaders (l : Launch) (g : XG) (S : MS) (f : Int32)  : XA l g MX5_oweReaders (Qv (fun w1 => w1 = wS (sOweR S f))) 21 ((fun i => [some (.ref 0), some (.int f), some (.int (fnI S f)), some (.int (sOR S f i).2), some (.int (nI i))]) 0) ((fun _ => []) 0) ((fun i => wS (sOR S f i).1) 0) 0 0 := by
  refine x_for (cl (fnI S f)) (fun _ => True) (fun i => [some (.ref 0), some (.int f), some (.int (fnI S f)), some (.int (sOR S f i).2), some (.int (nI i))]) (fun _ => []) (fun i => wS (sOR S f i).1) trivial (fun i hi hp ih => ?_) (fun hp => ?_)
  · refine x_iload dX5_oweReaders_21 rfl ?_
    refine x_iload_n dX5_oweReaders_23 rfl ?_
    refine x_icmp_ge_f (tgt := 76) dX5_oweReaders_24 (by decide) (nge_cl hi) ?_
    refine x_iload_n dX5_oweReaders_27 rfl ?_
    refine x_if_le (tgt := 76) dX5_oweReaders_28 (by decide) (fun c_28 => ?_) (fun c_28 => ?_)
    · exact x_retv dX5_oweReaders_76 rfl rfl rfl (⟨rfl, by rw [sOweR, sOR_stop c_28 (Nat.le_of_lt hi)]⟩)
    · refine x_aload_n dX5_oweReaders_31 rfl ?_
      refine x_iload_n dX5_oweReaders_32 rfl ?_
      refine x_iload dX5_oweReaders_33 rfl ?_
      refine x_callp [0, 1, 2, 3, 4, 5, 6, 7, 8, 9, 10, 11, 12, 13, 14] (x_iV dX5_oweReaders_35 mlX5_59 lbX5_isGood rfl rfl rfl rfl) (kX5_isGood l g _ _ _) (by decide) rfl rfl (by decide) (by decide) (by simp [Value.category]) rfl rfl (by decide +kernel) ?_
      refine x_if_eq (tgt := 70) dX5_oweReaders_38 (by decide) (fun c_38 => ?_) (fun c_38 => ?_)
      · first | refine x_iinc dX5_oweReaders_70 (by decide) rfl (nI_inc _) ?_ | refine x_iinc dX5_oweReaders_70 (by decide) rfl (inc_1 _) ?_
        refine x_goto (tgt := 21) dX5_oweReaders_73 (by decide) ?_
        (try simp only [b2i_eq0, b2i_ne0] at *)
        have e : sOR S f (i + 1) = _ := sOR.eq_2 S f i
        simp [*] at e
        refine x_eq (ih trivial) ?_ rfl ?_
        · rw [e]; rfl
        · rw [e]
      · refine x_aload_n dX5_oweReaders_41 rfl ?_
        refine x_getf dX5_oweReaders_42 flX5_12 rfl rfl ?_
        refine x_aload_n dX5_oweReaders_45 rfl ?_
        refine x_getf dX5_oweReaders_46 flX5_21 rfl rfl ?_
        refine x_iload_n dX5_oweReaders_49 rfl ?_
        refine x_callp [7, 8, 9, 10, 11, 12, 13] (x_iV dX5_oweReaders_50 mlX5_92 lbX2_ownerOf rfl rfl rfl rfl) (kX2_ownerOf l g _ _) (by decide) rfl rfl (by decide) (by decide) (by simp [Value.category]) rfl rfl (by decide +kernel) ?_
        refine x_aload_n dX5_oweReaders_53 rfl ?_
        refine x_getf dX5_oweReaders_54 flX5_21 rfl rfl ?_
        refine x_iload_n dX5_oweReaders_57 rfl ?_
        refine x_iload dX5_oweReaders_58 rfl ?_
        refine x_callp [7, 8, 9, 10, 11, 12, 13] (x_iV dX5_oweReaders_60 mlX5_48 lbX2_placeOf rfl rfl rfl rfl) (kX2_placeOf l g _ _ _) (by decide) rfl rfl (by decide) (by decide) (by simp [Value.category]) rfl rfl (by decide +kernel) ?_
        refine x_iconst (v := 1) dX5_oweReaders_63 (by decide) ?_
        refine x_callv [1, 2, 3, 4, 5, 6] (x_iV dX5_oweReaders_64 mlX5_95 lbX4_owe rfl rfl rfl rfl) (kX4_owe l g _ _ _ _) (by decide) (by decide) (by decide) (by simp [Value.category]) rfl rfl (by decide +kernel) (fun w1 h1 => ?_)
        obtain rfl := h1
        refine x_eq ?_ rfl rfl (wS_P (agP_owe _ _ _ _))
        refine x_iinc dX5_oweReaders_67 (by decide) rfl rfl ?_
        first | refine x_iinc dX5_oweReaders_70 (by decide) rfl (nI_inc _) ?_ | refine x_iinc dX5_oweReaders_70 (by decide) rfl (inc_1 _) ?_
        refine x_goto (tgt := 21) dX5_oweReaders_73 (by decide) ?_
        (try simp only [b2i_eq0, b2i_ne0] at *)
        have e : sOR S f (i + 1) = _ := sOR.eq_2 S f i
        simp [*] at e
        refine x_eq (ih trivial) ?_ rfl ?_
        · rw [e]; rfl
        · rw [e]
  · refine x_iload dX5_oweReaders_21 rfl ?_
    refine x_iload_n dX5_oweReaders_23 rfl ?_
    refine x_icmp_ge_t (tgt := 76) dX5_oweReaders_24 (by decide) (ge_cl) ?_
    exact x_retv dX5_oweReaders_76 rfl rfl rfl (⟨rfl, rfl⟩)

set_option maxRecDepth 100000 in
set_option maxHeartbeats 4000000 in
theorem kX5_oweReaders (l : Launch) (g : XG) (S : MS) (f : Int32) : Ct l g MX5_oweReaders [.ref 0, .int f] (wS S) (Qv (fun w1 => w1 = wS (sOweR S f))) := by
  refine Ct_of (by decide) (by simp [Value.category]) (Nat.le_of_ble_eq_true rfl) ?_
  refine x_aload_n dX5_oweReaders_0 rfl ?_
  refine x_getf dX5_oweReaders_1 flX5_21 rfl rfl ?_
  refine x_iload_n dX5_oweReaders_4 rfl ?_
  refine x_callp [7, 8, 9, 10, 11, 12, 13] (x_iV dX5_oweReaders_5 mlX5_55 lbX2_fragmentNumber rfl rfl rfl rfl) (kX2_fragmentNumber l g _ _) (by decide) rfl rfl (by decide) (by decide) (by simp [Value.category]) rfl rfl (by decide +kernel) ?_
  refine x_istore_n dX5_oweReaders_8 (by decide) ?_
  refine x_aload_n dX5_oweReaders_9 rfl ?_
  refine x_getf dX5_oweReaders_10 flX5_21 rfl rfl ?_
  refine x_iload_n dX5_oweReaders_13 rfl ?_
  refine x_callp [7, 8, 9, 10, 11, 12, 13] (x_iV dX5_oweReaders_14 mlX5_66 lbX2_dataOf rfl rfl rfl rfl) (kX2_dataOf l g _ _) (by decide) rfl rfl (by decide) (by decide) (by simp [Value.category]) rfl rfl (by decide +kernel) ?_
  refine x_istore_n dX5_oweReaders_17 (by decide) ?_
  refine x_iconst (v := 0) dX5_oweReaders_18 (by decide) ?_
  refine x_istore dX5_oweReaders_19 (by decide) ?_
  exact lpX5_oweReaders l g S f

def qRn (S : MS) (f i : Int32) : Int32 → XW → Prop := fun v w1 => v = b2i (rnB S f i) ∧ w1 = wS (sRn S f i)
set_option maxRecDepth 100000 in
set_option maxHeartbeats 4000000 in
theorem kX5_renew (l : Launch) (g : XG) (S : MS) (f i : Int32) : Ct l g MX5_renew [.ref 0, .int f, .int i] (wS S) (Qi (qRn S f i)) := by
  refine Ct_of (by decide) (by simp [Value.category]) (Nat.le_of_ble_eq_true rfl) ?_
  refine x_aload_n dX5_renew_0 rfl ?_
  refine x_iload_n dX5_renew_1 rfl ?_
  refine x_iload_n dX5_renew_2 rfl ?_
  refine x_callv [0, 1, 2, 3, 4, 5, 6, 7, 8, 9, 10, 11, 12, 13, 14] (x_iV dX5_renew_3 mlX5_109 lbX5_takeOff rfl rfl rfl rfl) (kX5_takeOff l g _ _ _) (by decide) (by decide) (by decide) (by simp [Value.category]) rfl rfl (by decide +kernel) (fun w1 h1 => ?_)
  obtain rfl := h1
  refine x_eq (w' := wS _) ?_ rfl rfl rfl
  refine x_aload_n dX5_renew_6 rfl ?_
  refine x_iload_n dX5_renew_7 rfl ?_
  refine x_callp [0, 1, 2, 3, 4, 5, 6, 7, 8, 9, 10, 11, 12, 13, 14] (x_iV dX5_renew_8 mlX5_103 lbX5_findPlace rfl rfl rfl rfl) (kX5_findPlace l g _ _) (by decide) rfl rfl (by decide) (by decide) (by simp [Value.category]) rfl rfl (by decide +kernel) ?_
  refine x_istore_n dX5_renew_11 (by decide) ?_
  refine x_iload_n dX5_renew_12 rfl ?_
  refine x_iconst (v := -1) dX5_renew_13 (by decide) ?_
  refine x_icmp_ne (tgt := 19) dX5_renew_14 (by decide) (fun c_14 => ?_) (fun c_14 => ?_)
  · refine x_aload_n dX5_renew_19 rfl ?_
    refine x_iload_n dX5_renew_20 rfl ?_
    refine x_callv [0, 1, 2, 3, 4, 5, 6, 7, 8, 9, 10, 11, 12, 13, 14] (x_iV dX5_renew_21 mlX5_129 lbX5_oweReaders rfl rfl rfl rfl) (kX5_oweReaders l g _ _) (by decide) (by decide) (by decide) (by simp [Value.category]) rfl rfl (by decide +kernel) (fun w1 h1 => ?_)
    obtain rfl := h1
    refine x_eq (w' := wS _) ?_ rfl rfl rfl
    refine x_aload_n dX5_renew_24 rfl ?_
    refine x_iload_n dX5_renew_25 rfl ?_
    refine x_iload_n dX5_renew_26 rfl ?_
    refine x_iload_n dX5_renew_27 rfl ?_
    refine x_iconst (v := 0) dX5_renew_28 (by decide) ?_
    refine x_callv [0, 1, 2, 3, 4, 5, 6, 7, 8, 9, 10, 11, 12, 13, 14] (x_iV dX5_renew_29 mlX5_106 lbX5_putOn rfl rfl rfl rfl) (kX5_putOn l g _ _ _ _ _) (by decide) (by decide) (by decide) (by simp [Value.category]) rfl rfl (by decide +kernel) (fun w1 h1 => ?_)
    obtain rfl := h1
    refine x_eq (w' := wS _) ?_ rfl rfl rfl
    refine x_iconst (v := 1) dX5_renew_32 (by decide) ?_
    exact x_retz dX5_renew_33 rfl (rfl) rfl rfl (⟨_, rfl, by rw [qRn, sRn, show rnB S f i = true by simp [rnB, *]]; exact ⟨rfl, rfl⟩⟩)
  · refine x_iconst (v := 0) dX5_renew_17 (by decide) ?_
    exact x_retz dX5_renew_18 rfl (rfl) rfl rfl (⟨_, rfl, by rw [qRn, sRn, show rnB S f i = false by simp [rnB, *]]; exact ⟨rfl, rfl⟩⟩)

set_option maxRecDepth 100000 in
set_option maxHeartbeats 4000000 in
theorem lpX5_renewFile (l : Launch) (g : XG) (S : MS) (f : Int32)  : XA l g MX5_renewFile (Qi (fun v w1 => v = nI (nRF S f (cl (fnI S f))) ∧ w1 = wS (sRF S f (cl (fnI S f))))) 14 ((fun i => [some (.ref 0), some (.int f), some (.int (nI (nRF S f i))), some (.int (fnI S f)), some (.int (nI i))]) 0) ((fun _ => []) 0) ((fun i => wS (sRF S f i)) 0) 0 0 := by
  refine x_for (cl (fnI S f)) (fun _ => True) (fun i => [some (.ref 0), some (.int f), some (.int (nI (nRF S f i))), some (.int (fnI S f)), some (.int (nI i))]) (fun _ => []) (fun i => wS (sRF S f i)) trivial (fun i hi hp ih => ?_) (fun hp => ?_)
  · refine x_iload dX5_renewFile_14 rfl ?_
    refine x_iload_n dX5_renewFile_16 rfl ?_
    refine x_icmp_ge_f (tgt := 49) dX5_renewFile_17 (by decide) (nge_cl hi) ?_
    refine x_aload_n dX5_renewFile_20 rfl ?_
    refine x_iload_n dX5_renewFile_21 rfl ?_
    refine x_iload dX5_renewFile_22 rfl ?_
    refine x_callp [0, 1, 2, 3, 4, 5, 6, 7, 8, 9, 10, 11, 12, 13, 14] (x_iV dX5_renewFile_24 mlX5_59 lbX5_isGood rfl rfl rfl rfl) (kX5_isGood l g _ _ _) (by decide) rfl rfl (by decide) (by decide) (by simp [Value.category]) rfl rfl (by decide +kernel) ?_
    refine x_if_ne (tgt := 43) dX5_renewFile_27 (by decide) (fun c_27 => ?_) (fun c_27 => ?_)
    · first | refine x_iinc dX5_renewFile_43 (by decide) rfl (nI_inc _) ?_ | refine x_iinc dX5_renewFile_43 (by decide) rfl (inc_1 _) ?_
      refine x_goto (tgt := 14) dX5_renewFile_46 (by decide) ?_
      (try simp only [b2i_eq0, b2i_ne0] at *)
      refine x_eq (ih trivial) ?_ rfl ?_
      · rw [nRF]; simp [*]
      · rw [sRF]; simp [*]
    · refine x_aload_n dX5_renewFile_30 rfl ?_
      refine x_iload_n dX5_renewFile_31 rfl ?_
      refine x_iload dX5_renewFile_32 rfl ?_
      refine x_calli [0, 1, 2, 3, 4, 5, 6, 7, 8, 9, 10, 11, 12, 13, 14] (x_iV dX5_renewFile_34 mlX5_126 lbX5_renew rfl rfl rfl rfl) (kX5_renew l g _ _ _) (by decide) rfl rfl (by decide) (by decide) (by simp [Value.category]) rfl rfl (by decide +kernel) (fun v1 w1 h1 => ?_)
      obtain ⟨rfl, rfl⟩ := h1
      refine x_eq (w' := wS _) ?_ rfl rfl rfl
      refine x_if_eq (tgt := 43) dX5_renewFile_37 (by decide) (fun c_37 => ?_) (fun c_37 => ?_)
      · first | refine x_iinc dX5_renewFile_43 (by decide) rfl (nI_inc _) ?_ | refine x_iinc dX5_renewFile_43 (by decide) rfl (inc_1 _) ?_
        refine x_goto (tgt := 14) dX5_renewFile_46 (by decide) ?_
        (try simp only [b2i_eq0, b2i_ne0] at *)
        refine x_eq (ih trivial) ?_ rfl ?_
        · rw [nRF]; simp [*]
        · rw [sRF]; simp [*]
      · first | refine x_iinc dX5_renewFile_40 (by decide) rfl (nI_inc _) ?_ | refine x_iinc dX5_renewFile_40 (by decide) rfl (inc_1 _) ?_
        first | refine x_iinc dX5_renewFile_43 (by decide) rfl (nI_inc _) ?_ | refine x_iinc dX5_renewFile_43 (by decide) rfl (inc_1 _) ?_
        refine x_goto (tgt := 14) dX5_renewFile_46 (by decide) ?_
        (try simp only [b2i_eq0, b2i_ne0] at *)
        refine x_eq (ih trivial) ?_ rfl ?_
        · rw [nRF]; simp [*]
        · rw [sRF]; simp [*]
  · refine x_iload dX5_renewFile_14 rfl ?_
    refine x_iload_n dX5_renewFile_16 rfl ?_
    refine x_icmp_ge_t (tgt := 49) dX5_renewFile_17 (by decide) (ge_cl) ?_
    refine x_iload_n dX5_renewFile_49 rfl ?_
    exact x_reti dX5_renewFile_50 rfl rfl rfl (⟨_, rfl, rfl, rfl⟩)

set_option maxRecDepth 100000 in
set_option maxHeartbeats 4000000 in
theorem kX5_renewFile (l : Launch) (g : XG) (S : MS) (f : Int32) : Ct l g MX5_renewFile [.ref 0, .int f] (wS S) (Qi (fun v w1 => v = nI (nRF S f (cl (fnI S f))) ∧ w1 = wS (sRF S f (cl (fnI S f))))) := by
  refine Ct_of (by decide) (by simp [Value.category]) (Nat.le_of_ble_eq_true rfl) ?_
  refine x_iconst (v := 0) dX5_renewFile_0 (by decide) ?_
  refine x_istore_n dX5_renewFile_1 (by decide) ?_
  refine x_aload_n dX5_renewFile_2 rfl ?_
  refine x_getf dX5_renewFile_3 flX5_21 rfl rfl ?_
  refine x_iload_n dX5_renewFile_6 rfl ?_
  refine x_callp [7, 8, 9, 10, 11, 12, 13] (x_iV dX5_renewFile_7 mlX5_55 lbX2_fragmentNumber rfl rfl rfl rfl) (kX2_fragmentNumber l g _ _) (by decide) rfl rfl (by decide) (by decide) (by simp [Value.category]) rfl rfl (by decide +kernel) ?_
  refine x_istore_n dX5_renewFile_10 (by decide) ?_
  refine x_iconst (v := 0) dX5_renewFile_11 (by decide) ?_
  refine x_istore dX5_renewFile_12 (by decide) ?_
  exact lpX5_renewFile l g S f

set_option maxRecDepth 100000 in
set_option maxHeartbeats 4000000 in
theorem lpX5_makeFile (l : Launch) (g : XG) (S : MS) (f o m : Int32)  : XA l g MX5_makeFile (Qv (fun w1 => w1 = wS (sPlA S f (cl (fnI S f))))) 36 ((fun i => [some (.ref 0), some (.int f), some (.int o), some (.int m), some (.int (fnI S f)), some (.int (nI i)), none]) 0) ((fun _ => []) 0) ((fun i => wS (sPlA S f i)) 0) 0 0 := by
  refine x_for (cl (fnI S f)) (fun _ => True) (fun i => [some (.ref 0), some (.int f), some (.int o), some (.int m), some (.int (fnI S f)), some (.int (nI i)), none]) (fun _ => []) (fun i => wS (sPlA S f i)) trivial (fun i hi hp ih => ?_) (fun hp => ?_)
  · refine x_iload dX5_makeFile_36 rfl ?_
    refine x_iload dX5_makeFile_38 rfl ?_
    refine x_icmp_ge_f (tgt := 72) dX5_makeFile_40 (by decide) (nge_cl hi) ?_
    refine x_aload_n dX5_makeFile_43 rfl ?_
    refine x_iload_n dX5_makeFile_44 rfl ?_
    refine x_callp [0, 1, 2, 3, 4, 5, 6, 7, 8, 9, 10, 11, 12, 13, 14] (x_iV dX5_makeFile_45 mlX5_103 lbX5_findPlace rfl rfl rfl rfl) (kX5_findPlace l g _ _) (by decide) rfl rfl (by decide) (by decide) (by simp [Value.category]) rfl rfl (by decide +kernel) ?_
    refine x_istore dX5_makeFile_48 (by decide) ?_
    refine x_iload dX5_makeFile_50 rfl ?_
    refine x_iconst (v := -1) dX5_makeFile_52 (by decide) ?_
    refine x_icmp_eq (tgt := 66) dX5_makeFile_53 (by decide) (fun c_53 => ?_) (fun c_53 => ?_)
    · first | refine x_iinc dX5_makeFile_66 (by decide) rfl (nI_inc _) ?_ | refine x_iinc dX5_makeFile_66 (by decide) rfl (inc_1 _) ?_
      refine x_goto (tgt := 36) dX5_makeFile_69 (by decide) ?_
      refine x_le (lv' := [some (.ref 0), some (.int f), some (.int o), some (.int m), some (.int (fnI S f)), some (.int (nI (i + 1))), none]) (x_eq (ih trivial) rfl rfl ?_) ?_
      · rw [sPlA, sPlc]; simp [*]
      · simp [lvle]
    · refine x_aload_n dX5_makeFile_56 rfl ?_
      refine x_iload_n dX5_makeFile_57 rfl ?_
      refine x_iload dX5_makeFile_58 rfl ?_
      refine x_iload dX5_makeFile_60 rfl ?_
      refine x_iconst (v := 0) dX5_makeFile_62 (by decide) ?_
      refine x_callv [0, 1, 2, 3, 4, 5, 6, 7, 8, 9, 10, 11, 12, 13, 14] (x_iV dX5_makeFile_63 mlX5_106 lbX5_putOn rfl rfl rfl rfl) (kX5_putOn l g _ _ _ _ _) (by decide) (by decide) (by decide) (by simp [Value.category]) rfl rfl (by decide +kernel) (fun w1 h1 => ?_)
      obtain rfl := h1
      refine x_eq (w' := wS _) ?_ rfl rfl rfl
      first | refine x_iinc dX5_makeFile_66 (by decide) rfl (nI_inc _) ?_ | refine x_iinc dX5_makeFile_66 (by decide) rfl (inc_1 _) ?_
      refine x_goto (tgt := 36) dX5_makeFile_69 (by decide) ?_
      refine x_le (lv' := [some (.ref 0), some (.int f), some (.int o), some (.int m), some (.int (fnI S f)), some (.int (nI (i + 1))), none]) (x_eq (ih trivial) rfl rfl ?_) ?_
      · rw [sPlA, sPlc]; simp [*]
      · simp [lvle]
  · refine x_iload dX5_makeFile_36 rfl ?_
    refine x_iload dX5_makeFile_38 rfl ?_
    refine x_icmp_ge_t (tgt := 72) dX5_makeFile_40 (by decide) (ge_cl) ?_
    exact x_retv dX5_makeFile_72 rfl rfl rfl (⟨rfl, rfl⟩)

set_option maxRecDepth 100000 in
set_option maxHeartbeats 4000000 in
theorem kX5_makeFile (l : Launch) (g : XG) (S : MS) (f : Nat) (o : Int32) (wd : Nat → Nat) (k m : Nat) (hf : f < 8) (hk : k ≤ 6) (hm : m ≤ 4) (h12 : S 12 0 = nI k) (hw : ∀ d, d < 6 → wd d < 256) (hs : row 6 (S 11) = row 6 (fun d => nI (wd d))) : Ct l g MX5_makeFile [.ref 0, .int (nI f), .int o, .int (nI m)] (wS S) (Qv (fun w1 => w1 = wS (sMake S f o wd k m))) := by
  refine Ct_of (by decide) (by simp [Value.category]) (Nat.le_of_ble_eq_true rfl) ?_
  refine x_eq (w' := ([.inr (.inr (5, [.ref 1, .ref 7, .ref 14, .int (S 12 0)])), .inr (.inr (4, [.ref 2, .ref 3, .ref 4, .ref 5, .ref 6])), .inl (row 12 (S 0)), .inl (row 12 (S 1)), .inl (row 12 (S 2)), .inl (row 12 (S 3)), .inl (row 144 (S 4)), .inr (.inr (2, [.ref 8, .ref 9, .ref 10, .ref 11, .ref 12, .ref 13])), .inl (row 8 (S 5)), .inl (row 8 (S 6)), .inl (row 8 (S 7)), .inl (row 80 (S 8)), .inl (row 80 (S 9)), .inl (row 80 (S 10)), .inl (row 6 (fun d => nI (wd d)))] : XW)) ?_ rfl rfl (congrArg (fun z => List.set (wS S) 14 (Sum.inl z)) hs)
  refine x_aload_n dX5_makeFile_0 rfl ?_
  refine x_getf dX5_makeFile_1 flX5_21 rfl rfl ?_
  refine x_iload_n dX5_makeFile_4 rfl ?_
  refine x_iload_n dX5_makeFile_5 rfl ?_
  refine x_aload_n dX5_makeFile_6 rfl ?_
  refine x_getf dX5_makeFile_7 flX5_25 rfl rfl ?_
  refine x_aload_n dX5_makeFile_10 rfl ?_
  refine x_getf dX5_makeFile_11 flX5_40 rfl rfl ?_
  refine x_eq ?_ rfl (congrArg (fun z => Value.int z :: _) h12) rfl
  refine x_iload_n dX5_makeFile_14 rfl ?_
  refine x_callv [7, 8, 9, 10, 11, 12, 13, 14] (x_iV dX5_makeFile_15 mlX5_99 lbX2_add rfl rfl rfl rfl) (kX2_add l g S f o wd k m hf hk hm (fun d hd => hw d (by omega))) (by decide) (by decide) (by decide) (by simp [Value.category]) rfl rfl (by decide +kernel) (fun w1 h1 => ?_)
  obtain rfl := h1
  refine x_eq (w' := wS (sAddF S f o wd k m)) ?_ rfl rfl ((congrArg (fun z => List.set ([.inr (.inr (5, [.ref 1, .ref 7, .ref 14, .int (S 12 0)])), .inr (.inr (4, [.ref 2, .ref 3, .ref 4, .ref 5, .ref 6])), .inl (row 12 (S 0)), .inl (row 12 (S 1)), .inl (row 12 (S 2)), .inl (row 12 (S 3)), .inl (row 144 (S 4)), .inr (.inr (2, [.ref 8, .ref 9, .ref 10, .ref 11, .ref 12, .ref 13])), .inl (row 8 (sAddF S f o wd k m 5)), .inl (row 8 (sAddF S f o wd k m 6)), .inl (row 8 (sAddF S f o wd k m 7)), .inl (row 80 (sAddF S f o wd k m 8)), .inl (row 80 (sAddF S f o wd k m 9)), .inl (row 80 (sAddF S f o wd k m 10)), .inl (row 6 (S 11))] : XW) 14 (Sum.inl z)) hs.symm).trans (wS_F (agF_file S f o k m _)))
  refine x_aload_n dX5_makeFile_18 rfl ?_
  refine x_iconst (v := 0) dX5_makeFile_19 (by decide) ?_
  refine x_puti dX5_makeFile_20 flX5_40 xfi_5_3 rfl (Nat.le_of_ble_eq_true rfl) ?_
  refine x_aload_n dX5_makeFile_23 rfl ?_
  refine x_getf dX5_makeFile_24 flX5_21 rfl rfl ?_
  refine x_iload_n dX5_makeFile_27 rfl ?_
  refine x_callp [7, 8, 9, 10, 11, 12, 13] (x_iV dX5_makeFile_28 mlX5_55 lbX2_fragmentNumber rfl rfl rfl rfl) (kX2_fragmentNumber l g _ _) (by decide) rfl rfl (by decide) (by decide) (by simp [Value.category]) rfl rfl (by decide +kernel) ?_
  refine x_istore dX5_makeFile_31 (by decide) ?_
  refine x_iconst (v := 0) dX5_makeFile_33 (by decide) ?_
  refine x_istore dX5_makeFile_34 (by decide) ?_
  exact lpX5_makeFile l g (us (sAddF S f o wd k m) 12 0 0) (nI f) o (nI m)
