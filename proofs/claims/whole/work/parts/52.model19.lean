/-! ===== the reference: isBorne ===== -/
def bnC (M : Nat) (k : Int32) (s : Nat) : Bool := decide (nI s &&& (nI M ^^^ (-1)) = 0) && decide (nI (c1N (nI s)) = k)
def bnH (N : Nat → Int32) (s : Nat) : Nat → Bool := allB (fun f => !mHt N f (nI s))
def mBn (N : Nat → Int32) (M : Nat) (k : Int32) : Bool := allB (fun s => !bnC M k s || bnH N s 8) (M + 1)

set_option maxRecDepth 100000 in
set_option maxHeartbeats 4000000 in
theorem lqX7_isBorne (l : Launch) (g : XG) (N A Z B : Nat → Int32) (u : Int32) (L : Nat → Int32) (k : Int32) (M s : Nat) (Q0 : Option Value → XW → Prop) (hM : MOk N) (hr : bnH N s 8 = false → Q0 (some (.int 0)) (wM N A Z B u L)) (hk : bnH N s 8 = true → XA l g MX7_isBorne Q0 56 [some (.ref 0), some (.int k), some (.int (nI M)), some (.int (nI s)), some (.int (nI 8))] [] (wM N A Z B u L) 0 0) : XA l g MX7_isBorne Q0 31 [some (.ref 0), some (.int k), some (.int (nI M)), some (.int (nI s)), some (.int (nI 0))] [] (wM N A Z B u L) 0 0 := by
  refine x_for 8 (fun i => bnH N s i = true) (fun i => [some (.ref 0), some (.int k), some (.int (nI M)), some (.int (nI s)), some (.int (nI i))]) (fun _ => []) (fun _ => wM N A Z B u L) rfl (fun i hi hp ih => ?_) (fun hp => ?_)
  · refine x_iload dX7_isBorne_31 rfl ?_
    refine x_bipush (v := 8) dX7_isBorne_33 (by decide) ?_
    refine x_icmp_ge_f (tgt := 56) dX7_isBorne_35 (by decide) (nI_nle_of rfl (by decide) hi) ?_
    refine x_aload_n dX7_isBorne_38 rfl ?_
    refine x_iload dX7_isBorne_39 rfl ?_
    refine x_iload_n dX7_isBorne_41 rfl ?_
    refine x_callp [0, 1, 2, 3, 4, 5] (x_iV dX7_isBorne_42 mlX7_137 lbX7_isHurt rfl rfl rfl rfl) (kX7_isHurt l g _ _ _ _ _ _ i (nI s) hi hM) (by decide) rfl rfl (by decide) (by decide) (by simp [Value.category]) rfl rfl (by decide +kernel) ?_
    refine x_if_eq (tgt := 50) dX7_isBorne_45 (by decide) (fun c_45 => ?_) (fun c_45 => ?_)
    · first | refine x_iinc dX7_isBorne_50 (by decide) rfl (nI_inc _) ?_ | refine x_iinc dX7_isBorne_50 (by decide) rfl (inc_1 _) ?_
      refine x_goto (tgt := 31) dX7_isBorne_53 (by decide) ?_
      exact ih (by show allB _ _ = true; rw [allB, show allB _ i = true from hp]; simp [b2i_f' c_45])
    · refine x_iconst (v := 0) dX7_isBorne_48 (by decide) ?_
      exact x_retz dX7_isBorne_49 rfl (rfl) rfl rfl (hr (allB_f (f := fun f => !mHt N f (nI s)) hi (by simp [b2i_t' c_45])))
  · refine x_iload dX7_isBorne_31 rfl ?_
    refine x_bipush (v := 8) dX7_isBorne_33 (by decide) ?_
    refine x_icmp_ge_t (tgt := 56) dX7_isBorne_35 (by decide) (nI_le_of rfl (by decide) (Nat.le_refl _)) ?_
    exact hk hp

set_option maxRecDepth 100000 in
set_option maxHeartbeats 4000000 in
theorem lpX7_isBorne (l : Launch) (g : XG) (N A Z B : Nat → Int32) (u : Int32) (L : Nat → Int32) (k : Int32) (M : Nat) (hM : MOk N) (hM4 : M < 4096) : XA l g MX7_isBorne (Qp (b2i (mBn N M k)) (wM N A Z B u L)) 7 ((fun i => [some (.ref 0), some (.int k), some (.int (nI M)), some (.int (nI i)), none]) 0) ((fun _ => []) 0) ((fun _ => wM N A Z B u L) 0) 0 0 := by
  refine x_for (M + 1) (fun i => allB (fun s => !bnC M k s || bnH N s 8) i = true) (fun i => [some (.ref 0), some (.int k), some (.int (nI M)), some (.int (nI i)), none]) (fun _ => []) (fun _ => wM N A Z B u L) rfl (fun i hi hp ih => ?_) (fun hp => ?_)
  · refine x_iload_n dX7_isBorne_7 rfl ?_
    refine x_iload_n dX7_isBorne_8 rfl ?_
    refine x_icmp_gt_f (tgt := 62) dX7_isBorne_9 (by decide) (by rw [Int32.lt_iff_toInt_lt, nI_toInt (by omega), nI_toInt (by omega)]; omega) ?_
    refine x_iload_n dX7_isBorne_12 rfl ?_
    refine x_iload_n dX7_isBorne_13 rfl ?_
    refine x_iconst (v := -1) dX7_isBorne_14 (by decide) ?_
    refine x_ixor dX7_isBorne_15 ?_
    refine x_iand dX7_isBorne_16 ?_
    refine x_if_ne (tgt := 56) dX7_isBorne_17 (by decide) (fun c_17 => ?_) (fun c_17 => ?_)
    · first | refine x_iinc dX7_isBorne_56 (by decide) rfl (nI_inc _) ?_ | refine x_iinc dX7_isBorne_56 (by decide) rfl (inc_1 _) ?_
      refine x_goto (tgt := 7) dX7_isBorne_59 (by decide) ?_
      refine x_le (lv' := [some (.ref 0), some (.int k), some (.int (nI M)), some (.int (nI (i + 1))), none]) (ih (by rw [allB, hp]; simp only [bnC]; (first | rw [decide_eq_true c_17] | rw [decide_eq_false c_17]); simp [*])) (by simp [lvle])
    · refine x_iload_n dX7_isBorne_20 rfl ?_
      refine x_callp [] (x_iS dX7_isBorne_21 mlX7_134 lbX7_count1 rfl) (kX7_count1 l g i (by omega)) (by decide) rfl rfl (by decide) (by decide) (by simp [Value.category]) rfl rfl (by decide +kernel) ?_
      refine x_iload_n dX7_isBorne_24 rfl ?_
      refine x_icmp_ne (tgt := 56) dX7_isBorne_25 (by decide) (fun c_25 => ?_) (fun c_25 => ?_)
      · first | refine x_iinc dX7_isBorne_56 (by decide) rfl (nI_inc _) ?_ | refine x_iinc dX7_isBorne_56 (by decide) rfl (inc_1 _) ?_
        refine x_goto (tgt := 7) dX7_isBorne_59 (by decide) ?_
        refine x_le (lv' := [some (.ref 0), some (.int k), some (.int (nI M)), some (.int (nI (i + 1))), none]) (ih (by rw [allB, hp]; simp only [bnC]; (first | rw [decide_eq_true c_17] | rw [decide_eq_false c_17]); simp [*])) (by simp [lvle])
      · refine x_iconst (v := 0) dX7_isBorne_28 (by decide) ?_
        refine x_istore dX7_isBorne_29 (by decide) ?_
        refine x_eq (lv' := [some (.ref 0), some (.int k), some (.int (nI M)), some (.int (nI i)), some (.int (nI 0))]) ?_ rfl rfl rfl
        refine lqX7_isBorne l g N A Z B u L k M i _ hM (fun hb => ⟨?_, rfl⟩) (fun hb => ?_)
        · rw [mBn, allB_f (f := fun s => !bnC M k s || bnH N s 8) hi (by simp only [bnC]; rw [decide_eq_true c_17]; simp [*])]; rfl
        refine x_iinc dX7_isBorne_56 (by decide) rfl (nI_inc _) ?_
        refine x_goto (tgt := 7) dX7_isBorne_59 (by decide) ?_
        refine x_le (lv' := [some (.ref 0), some (.int k), some (.int (nI M)), some (.int (nI (i + 1))), none]) (ih (by rw [allB, hp]; simp only [bnC]; (first | rw [decide_eq_true c_17] | rw [decide_eq_false c_17]); simp [*])) (by simp [lvle])
  · refine x_iload_n dX7_isBorne_7 rfl ?_
    refine x_iload_n dX7_isBorne_8 rfl ?_
    refine x_icmp_gt_t (tgt := 62) dX7_isBorne_9 (by decide) (by rw [Int32.lt_iff_toInt_lt, nI_toInt (by omega), nI_toInt (by omega)]; omega) ?_
    refine x_iconst (v := 1) dX7_isBorne_62 (by decide) ?_
    exact x_retz dX7_isBorne_63 rfl (rfl) rfl rfl (⟨by rw [mBn, hp]; rfl, rfl⟩)

set_option maxRecDepth 100000 in
set_option maxHeartbeats 4000000 in
theorem kX7_isBorne (l : Launch) (g : XG) (N A Z B : Nat → Int32) (u : Int32) (L : Nat → Int32) (k : Int32) (M : Nat) (hM : MOk N) (hM4 : M < 4096) (hA : mPs N 12 = nI M) : Ct l g MX7_isBorne [.ref 0, .int k] (wM N A Z B u L) (Qp (b2i (mBn N M k)) (wM N A Z B u L)) := by
  refine Ct_of (by decide) (by simp [Value.category]) (Nat.le_of_ble_eq_true rfl) ?_
  refine x_aload_n dX7_isBorne_0 rfl ?_
  refine x_callp [0, 1, 2, 3, 4, 5] (x_iV dX7_isBorne_1 mlX7_131 lbX7_peerSet rfl rfl rfl rfl) (kX7_peerSet l g _ _ _ _ _ _) (by decide) rfl rfl (by decide) (by decide) (by simp [Value.category]) rfl rfl (by decide +kernel) ?_
  refine x_istore_n dX7_isBorne_4 (by decide) ?_
  refine x_iconst (v := 0) dX7_isBorne_5 (by decide) ?_
  refine x_istore_n dX7_isBorne_6 (by decide) ?_
  refine x_eq (lv' := [some (.ref 0), some (.int k), some (.int (nI M)), some (.int (nI 0)), none]) (lpX7_isBorne l g N A Z B u L k M hM hM4) (by rw [hA] <;> rfl) rfl rfl
