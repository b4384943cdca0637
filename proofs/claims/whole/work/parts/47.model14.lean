/-! ===== the reference: repair, repairAll ===== -/
def mRr (N : Nat → Int32) (f : Nat) : Nat → Int32 := mRp N f (cl (mFr N f))
def cRr (N : Nat → Int32) (f : Nat) : Nat := cRp N f (cl (mFr N f))
theorem mRr_ok {N : Nat → Int32} {f : Nat} (h : MOkA N) (hf : f < 8) (hfl : mFi N (nI f) = true) : MOkA (mRr N f) := (mRp_ok h hf (h.2 f hf hfl) _ (h.1 f hf).1).1
def okRm (N : Nat → Int32) (f : Int32) : Bool := mFi N f && mSf N (cl f)
def vRpm (N : Nat → Int32) (f : Int32) : Int32 := if mFi N f then (if mSf N (cl f) then nI (cRr N (cl f)) else -10002) else -10001
def rAC (T : Nat → Int32) (r : Int32) (f : Nat) : Bool := mFi T (nI f) && mSf T f && decide (¬ r ≤ mGn T f - T (192 + 30 * f + 2))
def mRA (N : Nat → Int32) (r : Int32) : Nat → (Nat → Int32)
  | 0 => N
  | f + 1 => cond (rAC (mRA N r f) r f) (mRr (mRA N r f) f) (mRA N r f)
def cRA (N : Nat → Int32) (r : Int32) : Nat → Nat
  | 0 => 0
  | f + 1 => cRA N r f + (if rAC (mRA N r f) r f then cRr (mRA N r f) f else 0)
theorem mRA_ok {N : Nat → Int32} {r : Int32} (h : MOkA N) : ∀ f, f ≤ 8 → MOkA (mRA N r f)
  | 0, _ => h
  | f + 1, hf => by
    have ih := mRA_ok (r := r) h f (by omega)
    rw [mRA]
    cases hc : rAC (mRA N r f) r f with
    | false => exact ih
    | true =>
      simp only [rAC, Bool.and_eq_true] at hc
      exact mRr_ok ih (by omega) hc.1.1
def vRAm (N : Nat → Int32) (r : Int32) : Int32 := if rgB r 0 5 then nI (cRA N r 8) else -10001

set_option maxRecDepth 100000 in
set_option maxHeartbeats 4000000 in
theorem kX7_repair (l : Launch) (g : XG) (N A Z B L : Nat → Int32) (n : Nat) (f : Int32) (hn : n ≤ 5) (hM : MOkA N) : Ct l g MX7_repair [.ref 0, .int f] (wM N A Z B (nI n) L) (Qi (fun v w1 => v = vRpm N f ∧ w1 = mC (okRm N f) (mRr N (cl f)) N A Z B L n)) := by
  refine Ct_of (by decide) (by simp [Value.category]) (Nat.le_of_ble_eq_true rfl) ?_
  refine x_aload_n dX7_repair_0 rfl ?_
  refine x_iload_n dX7_repair_1 rfl ?_
  refine x_callp [0, 1, 2, 3, 4, 5] (x_iV dX7_repair_2 mlX7_43 lbX7_isFile rfl rfl rfl rfl) (kX7_isFile l g _ _ _ _ _ _ _) (by decide) rfl rfl (by decide) (by decide) (by simp [Value.category]) rfl rfl (by decide +kernel) ?_
  refine x_if_ne (tgt := 12) dX7_repair_5 (by decide) (fun c_5 => ?_) (fun c_5 => ?_)
  · obtain ⟨f, hf, rfl⟩ := mFi_ex (b2i_t' c_5)
    have hcf : cl (nI f) = f := cl_nI (by omega)
    refine x_aload_n dX7_repair_12 rfl ?_
    refine x_iload_n dX7_repair_13 rfl ?_
    refine x_callp [0, 1, 2, 3, 4, 5] (x_iV dX7_repair_14 mlX7_106 lbX7_isSafe rfl rfl rfl rfl) (kX7_isSafe l g _ _ _ _ _ _ f hf hM.1) (by decide) rfl rfl (by decide) (by decide) (by simp [Value.category]) rfl rfl (by decide +kernel) ?_
    refine x_if_ne (tgt := 24) dX7_repair_17 (by decide) (fun c_17 => ?_) (fun c_17 => ?_)
    · refine x_aload_n dX7_repair_24 rfl ?_
      refine x_callv [0, 1, 2, 3, 4, 5] (x_iV dX7_repair_25 mlX7_80 lbX7_keeps rfl rfl rfl rfl) (kX7_keeps l g N A Z B L n hn) (by decide) (by decide) (by decide) (by simp [Value.category]) rfl rfl (by decide +kernel) (fun w1 h1 => ?_)
      obtain rfl := h1
      refine x_eq (w' := wM (N) A Z (mKB B N n) (nI (recN n)) L) ?_ rfl rfl rfl
      refine x_aload_n dX7_repair_28 rfl ?_
      refine x_iload_n dX7_repair_29 rfl ?_
      refine x_calli [0, 1, 2, 3, 4, 5] (x_iV dX7_repair_30 mlX7_128 lbX7_repairs rfl rfl rfl rfl) (kX7_repairs l g _ _ _ _ _ _ f hf hM (hM.2 f hf (b2i_t' c_5))) (by decide) rfl rfl (by decide) (by decide) (by simp [Value.category]) rfl rfl (by decide +kernel) (fun v1 w1 h1 => ?_)
      obtain ⟨rfl, rfl⟩ := h1
      refine x_eq (w' := wM (mRr N f) A Z (mKB B N n) (nI (recN n)) L) ?_ rfl rfl rfl
      exact x_reti dX7_repair_33 rfl rfl rfl (⟨_, rfl, by (try simp only [b2i_eq0, b2i_ne0] at *); rw [mC, show okRm N (nI f) = true by simp [okRm, *], cond_true, hcf]; exact ⟨by simp [vRpm, cRr, *], rfl⟩⟩)
    · refine x_sipush (v := -10002) dX7_repair_20 (by decide) ?_
      exact x_reti dX7_repair_23 rfl rfl rfl (⟨_, rfl, by (try simp only [b2i_eq0, b2i_ne0] at *); rw [mC, show okRm N (nI f) = false by simp [okRm, *], cond_false]; exact ⟨by simp [vRpm, *], rfl⟩⟩)
  · refine x_sipush (v := -10001) dX7_repair_8 (by decide) ?_
    exact x_reti dX7_repair_11 rfl rfl rfl (⟨_, rfl, by (try simp only [b2i_eq0, b2i_ne0] at *); rw [mC, show okRm N f = false by simp [okRm, *], cond_false]; exact ⟨by simp [vRpm, *], rfl⟩⟩)

set_option maxRecDepth 100000 in
set_option maxHeartbeats 4000000 in
theorem lpX7_repairAll (l : Launch) (g : XG) (N A Z B : Nat → Int32) (u : Int32) (L : Nat → Int32) (r : Int32) (hM : MOkA N) : XA l g MX7_repairAll (Qi (fun v w1 => v = nI (cRA N r 8) ∧ w1 = wM (mRA N r 8) A Z B u L)) 21 ((fun i => [some (.ref 0), some (.int r), some (.int (nI (cRA N r i))), some (.int (nI i))]) 0) ((fun _ => []) 0) ((fun i => wM (mRA N r i) A Z B u L) 0) 0 0 := by
  refine x_for 8 (fun _ => True) (fun i => [some (.ref 0), some (.int r), some (.int (nI (cRA N r i))), some (.int (nI i))]) (fun _ => []) (fun i => wM (mRA N r i) A Z B u L) trivial (fun i hi hp ih => ?_) (fun hp => ?_)
  · have hMi := mRA_ok (r := r) hM i (by omega)
    refine x_iload_n dX7_repairAll_21 rfl ?_
    refine x_bipush (v := 8) dX7_repairAll_22 (by decide) ?_
    refine x_icmp_ge_f (tgt := 77) dX7_repairAll_24 (by decide) (nI_nle_of rfl (by decide) hi) ?_
    refine x_iload_n dX7_repairAll_27 rfl ?_
    refine x_aload_n dX7_repairAll_28 rfl ?_
    refine x_iload_n dX7_repairAll_29 rfl ?_
    refine x_callp [0, 1, 2, 3, 4, 5] (x_iV dX7_repairAll_30 mlX7_43 lbX7_isFile rfl rfl rfl rfl) (kX7_isFile l g _ _ _ _ _ _ _) (by decide) rfl rfl (by decide) (by decide) (by simp [Value.category]) rfl rfl (by decide +kernel) ?_
    refine x_if_eq (tgt := 68) dX7_repairAll_33 (by decide) (fun c_33 => ?_) (fun c_33 => ?_)
    · refine x_iconst (v := 0) dX7_repairAll_68 (by decide) ?_
      refine x_iadd dX7_repairAll_69 ?_
      first | rw [nI_add] | rw [Int32.add_zero]
      refine x_istore_n dX7_repairAll_70 (by decide) ?_
      first | refine x_iinc dX7_repairAll_71 (by decide) rfl (nI_inc _) ?_ | refine x_iinc dX7_repairAll_71 (by decide) rfl (inc_1 _) ?_
      refine x_goto (tgt := 21) dX7_repairAll_74 (by decide) ?_
      (try simp only [b2i_eq0, b2i_ne0] at *)
      refine x_eq (ih trivial) ?_ rfl ?_
      · rw [cRA]; simp [rAC, cRr, *]
      · rw [mRA]; simp [rAC, mRr, *]
    · refine x_aload_n dX7_repairAll_36 rfl ?_
      refine x_iload_n dX7_repairAll_37 rfl ?_
      refine x_callp [0, 1, 2, 3, 4, 5] (x_iV dX7_repairAll_38 mlX7_106 lbX7_isSafe rfl rfl rfl rfl) (kX7_isSafe l g _ _ _ _ _ _ i hi hMi.1) (by decide) rfl rfl (by decide) (by decide) (by simp [Value.category]) rfl rfl (by decide +kernel) ?_
      refine x_if_eq (tgt := 68) dX7_repairAll_41 (by decide) (fun c_41 => ?_) (fun c_41 => ?_)
      · refine x_iconst (v := 0) dX7_repairAll_68 (by decide) ?_
        refine x_iadd dX7_repairAll_69 ?_
        first | rw [nI_add] | rw [Int32.add_zero]
        refine x_istore_n dX7_repairAll_70 (by decide) ?_
        first | refine x_iinc dX7_repairAll_71 (by decide) rfl (nI_inc _) ?_ | refine x_iinc dX7_repairAll_71 (by decide) rfl (inc_1 _) ?_
        refine x_goto (tgt := 21) dX7_repairAll_74 (by decide) ?_
        (try simp only [b2i_eq0, b2i_ne0] at *)
        refine x_eq (ih trivial) ?_ rfl ?_
        · rw [cRA]; simp [rAC, cRr, *]
        · rw [mRA]; simp [rAC, mRr, *]
      · refine x_aload_n dX7_repairAll_44 rfl ?_
        refine x_iload_n dX7_repairAll_45 rfl ?_
        refine x_callp [0, 1, 2, 3, 4, 5] (x_iV dX7_repairAll_46 mlX7_58 lbX7_good rfl rfl rfl rfl) (kX7_good l g _ _ _ _ _ _ i hi hMi.1) (by decide) rfl rfl (by decide) (by decide) (by simp [Value.category]) rfl rfl (by decide +kernel) ?_
        refine x_aload_n dX7_repairAll_49 rfl ?_
        refine x_iload_n dX7_repairAll_50 rfl ?_
        refine x_iconst (v := 2) dX7_repairAll_51 (by decide) ?_
        refine x_callp [0, 1, 2, 3, 4, 5] (x_iV dX7_repairAll_52 mlX7_29 lbX7_of rfl rfl rfl rfl) (kX7_of l g _ _ _ _ _ _ i 2 hi (by omega)) (by decide) rfl rfl (by decide) (by decide) (by simp [Value.category]) rfl rfl (by decide +kernel) ?_
        refine x_isub dX7_repairAll_55 ?_
        refine x_iload_n dX7_repairAll_56 rfl ?_
        refine x_icmp_ge (tgt := 68) dX7_repairAll_57 (by decide) (fun c_57 => ?_) (fun c_57 => ?_)
        · refine x_iconst (v := 0) dX7_repairAll_68 (by decide) ?_
          refine x_iadd dX7_repairAll_69 ?_
          first | rw [nI_add] | rw [Int32.add_zero]
          refine x_istore_n dX7_repairAll_70 (by decide) ?_
          first | refine x_iinc dX7_repairAll_71 (by decide) rfl (nI_inc _) ?_ | refine x_iinc dX7_repairAll_71 (by decide) rfl (inc_1 _) ?_
          refine x_goto (tgt := 21) dX7_repairAll_74 (by decide) ?_
          (try simp only [b2i_eq0, b2i_ne0] at *)
          refine x_eq (ih trivial) ?_ rfl ?_
          · rw [cRA]; simp [rAC, cRr, *]
          · rw [mRA]; simp [rAC, mRr, *]
        · refine x_aload_n dX7_repairAll_60 rfl ?_
          refine x_iload_n dX7_repairAll_61 rfl ?_
          refine x_calli [0, 1, 2, 3, 4, 5] (x_iV dX7_repairAll_62 mlX7_128 lbX7_repairs rfl rfl rfl rfl) (kX7_repairs l g _ _ _ _ _ _ i hi hMi (hMi.2 i hi (b2i_t' c_33))) (by decide) rfl rfl (by decide) (by decide) (by simp [Value.category]) rfl rfl (by decide +kernel) (fun v1 w1 h1 => ?_)
          obtain ⟨rfl, rfl⟩ := h1
          refine x_eq (w' := wM _ A Z B u L) ?_ rfl rfl rfl
          refine x_goto (tgt := 69) dX7_repairAll_65 (by decide) ?_
          refine x_iadd dX7_repairAll_69 ?_
          first | rw [nI_add] | rw [Int32.add_zero]
          refine x_istore_n dX7_repairAll_70 (by decide) ?_
          first | refine x_iinc dX7_repairAll_71 (by decide) rfl (nI_inc _) ?_ | refine x_iinc dX7_repairAll_71 (by decide) rfl (inc_1 _) ?_
          refine x_goto (tgt := 21) dX7_repairAll_74 (by decide) ?_
          (try simp only [b2i_eq0, b2i_ne0] at *)
          refine x_eq (ih trivial) ?_ rfl ?_
          · rw [cRA]; simp [rAC, cRr, *]
          · rw [mRA]; simp [rAC, mRr, *]
  · refine x_iload_n dX7_repairAll_21 rfl ?_
    refine x_bipush (v := 8) dX7_repairAll_22 (by decide) ?_
    refine x_icmp_ge_t (tgt := 77) dX7_repairAll_24 (by decide) (nI_le_of rfl (by decide) (Nat.le_refl _)) ?_
    refine x_iload_n dX7_repairAll_77 rfl ?_
    exact x_reti dX7_repairAll_78 rfl rfl rfl (⟨_, rfl, rfl, rfl⟩)

set_option maxRecDepth 100000 in
set_option maxHeartbeats 4000000 in
theorem kX7_repairAll (l : Launch) (g : XG) (N A Z B L : Nat → Int32) (n : Nat) (r : Int32) (hn : n ≤ 5) (hM : MOkA N) : Ct l g MX7_repairAll [.ref 0, .int r] (wM N A Z B (nI n) L) (Qi (fun v w1 => v = vRAm N r ∧ w1 = mC (rgB r 0 5) (mRA N r 8) N A Z B L n)) := by
  refine Ct_of (by decide) (by simp [Value.category]) (Nat.le_of_ble_eq_true rfl) ?_
  refine x_iload_n dX7_repairAll_0 rfl ?_
  refine x_iconst (v := 0) dX7_repairAll_1 (by decide) ?_
  refine x_iconst (v := 5) dX7_repairAll_2 (by decide) ?_
  refine x_callp [] (x_iS dX7_repairAll_3 mlX7_25 lbX7_in rfl) (kX7_in l g _ _ _) (by decide) rfl rfl (by decide) (by decide) (by simp [Value.category]) rfl rfl (by decide +kernel) ?_
  refine x_if_ne (tgt := 13) dX7_repairAll_6 (by decide) (fun c_6 => ?_) (fun c_6 => ?_)
  · refine x_aload_n dX7_repairAll_13 rfl ?_
    refine x_callv [0, 1, 2, 3, 4, 5] (x_iV dX7_repairAll_14 mlX7_80 lbX7_keeps rfl rfl rfl rfl) (kX7_keeps l g N A Z B L n hn) (by decide) (by decide) (by decide) (by simp [Value.category]) rfl rfl (by decide +kernel) (fun w1 h1 => ?_)
    obtain rfl := h1
    refine x_eq (w' := wM (N) A Z (mKB B N n) (nI (recN n)) L) ?_ rfl rfl rfl
    refine x_iconst (v := 0) dX7_repairAll_17 (by decide) ?_
    refine x_istore_n dX7_repairAll_18 (by decide) ?_
    refine x_iconst (v := 0) dX7_repairAll_19 (by decide) ?_
    refine x_istore_n dX7_repairAll_20 (by decide) ?_
    refine x_eq (lv' := [some (.ref 0), some (.int r), some (.int (nI 0)), some (.int (nI 0))]) ?_ rfl rfl rfl
    have K := lpX7_repairAll l g N A Z (mKB B N n) (nI (recN n)) L r hM
    have e : (fun (v : Int32) (w1 : XW) => v = vRAm N r ∧ w1 = mC (rgB r 0 5) (mRA N r 8) N A Z B L n) = (fun v w1 => v = nI (cRA N r 8) ∧ w1 = wM (mRA N r 8) A Z (mKB B N n) (nI (recN n)) L) := by
      rw [vRAm, if_pos (b2i_t' c_6), mC, b2i_t' c_6, cond_true]
    rw [e]
    exact K
  · refine x_sipush (v := -10001) dX7_repairAll_9 (by decide) ?_
    exact x_reti dX7_repairAll_12 rfl rfl rfl (⟨_, rfl, by rw [mC, b2i_f' c_6, cond_false, vRAm, if_neg (by simp [b2i_f' c_6])]; exact ⟨rfl, rfl⟩⟩)
