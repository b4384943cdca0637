theorem mOwe_hi {N : Nat → Int32} {p q a : Int32} (hp : vp_in p 12) (hq : vp_in q 12) {x : Nat} (hx : 192 ≤ x) : mOwe N p q a x = N x := by
  obtain ⟨-, p2⟩ := vin_iff.mp hp
  obtain ⟨-, q2⟩ := vin_iff.mp hq
  rw [mOwe]
  cases decide (p = q) with
  | true => rfl
  | false =>
    simp only [cond_false, upd]
    rw [if_neg (by omega), if_neg (by omega)]
theorem mOwe_lo {N : Nat → Int32} {p q a : Int32} {x : Nat} (hx : x < 48) : mOwe N p q a x = N x := by
  rw [mOwe]
  cases decide (p = q) with
  | true => rfl
  | false =>
    simp only [cond_false, upd]
    rw [if_neg (by omega), if_neg (by omega)]
theorem mPlN_hi {N : Nat → Int32} {f i : Nat} {b : Int32} (hi : i < 10) (ho : vp_in (N (192 + 30 * f + 1)) 12) {x : Nat} (hx : 192 ≤ x) : mPlN N f i b x = if x = 192 + 30 * f + (20 + i) ∧ ¬ 0 ≤ mBst N f b 12 then 0 else if x = 192 + 30 * f + (10 + i) then mBst N f b 12 else N x := by
  rw [mPlN]
  have ho' : vp_in ((upd N (192 + 30 * f + (10 + i)) (mBst N f b 12)) (192 + 30 * f + 1)) 12 := by
    simp only [upd]; rw [if_neg (by omega)]; exact ho
  by_cases h : 0 ≤ mBst N f b 12
  · rw [show decide (0 ≤ mBst N f b 12) = true by simp [h], cond_true, mOwe_hi ho' (mBst_in (Nat.le_refl _) h) hx, if_neg (by simp [h])]
    rfl
  · rw [show decide (0 ≤ mBst N f b 12) = false by simp [h], cond_false]
    simp only [upd, h, not_false_eq_true, and_true]
def MOkA (N : Nat → Int32) : Prop := MOk N ∧ ∀ f, f < 8 → mFi N (nI f) = true → vp_in (N (192 + 30 * f + 1)) 12
theorem mFi_nI {N : Nat → Int32} {f : Nat} (hf : f < 8) : mFi N (nI f) = decide (N (192 + 30 * f + 0) = 1) := by
  rw [mFi, cl_nI (by omega)]
  have : rgB (nI f) 0 7 = true := by
    simp only [rgB, Bool.and_eq_true, decide_eq_true_eq]
    exact ⟨nI_pos (by omega), nI_nlt (a := 7) (by omega) (by decide)⟩
  rw [this, Bool.true_and]
/-- the same but for places and errors -/
theorem MOkA_of {N N' : Nat → Int32} (h : MOkA N) (h1 : ∀ f w, f < 8 → w < 10 → N' (192 + 30 * f + w) = N (192 + 30 * f + w)) (h2 : ∀ f i, f < 8 → i < 10 → N' (192 + 30 * f + (10 + i)) = N (192 + 30 * f + (10 + i)) ∨ N' (192 + 30 * f + (10 + i)) < 0 ∨ vp_in (N' (192 + 30 * f + (10 + i))) 12) : MOkA N' := by
  refine ⟨fun f hf => ⟨?_, fun i hi => ?_⟩, fun f hf hfl => ?_⟩
  · rw [h1 f 2 hf (by decide), h1 f 3 hf (by decide)]; exact (h.1 f hf).1
  · rcases h2 f i hf hi with e | e
    · rw [e]; exact (h.1 f hf).2 i hi
    · exact e
  · rw [h1 f 1 hf (by decide)]
    refine h.2 f hf ?_
    rw [mFi_nI hf] at hfl ⊢
    rwa [h1 f 0 hf (by decide)] at hfl
theorem MOkA_pl {N : Nat → Int32} {f i : Nat} {b : Int32} (h : MOkA N) (hf : f < 8) (hi : i < 10) (ho : vp_in (N (192 + 30 * f + 1)) 12) : MOkA (mPlN N f i b) := by
  refine MOkA_of h (fun g w hg hw => ?_) (fun g j hg hj => ?_)
  · rw [mPlN_hi hi ho (by omega), if_neg (by omega), if_neg (by omega)]
  · rw [mPlN_hi hi ho (by omega), if_neg (by omega)]
    by_cases e : 192 + 30 * g + (10 + j) = 192 + 30 * f + (10 + i)
    · rw [if_pos e]; exact Or.inr (mBst_ok N f b 12 (Nat.le_refl _))
    · rw [if_neg e]; exact Or.inl rfl
def lvC (N : Nat → Int32) (p : Int32) (k : Nat) : Bool := mFi N (nI (k / 10)) && decide (¬ mFr N (k / 10) ≤ nI (k % 10)) && decide (N (192 + 30 * (k / 10) + (10 + k % 10)) = p)
def mLN (N : Nat → Int32) (p : Int32) : Nat → (Nat → Int32)
  | 0 => N
  | k + 1 => cond (lvC (mLN N p k) p k) (mPlN (mLN N p k) (k / 10) (k % 10) p) (mLN N p k)
def mLc (N : Nat → Int32) (p : Int32) : Nat → Nat
  | 0 => 0
  | k + 1 => mLc N p k + (if lvC (mLN N p k) p k && !mPlB (mLN N p k) (k / 10) p then 1 else 0)
theorem mLN_ok {N : Nat → Int32} {p : Int32} (h : MOkA N) : ∀ k, k ≤ 80 → MOkA (mLN N p k)
  | 0, _ => h
  | k + 1, hk => by
    have ih := mLN_ok (p := p) h k (by omega)
    rw [mLN]
    cases hc : lvC (mLN N p k) p k with
    | false => exact ih
    | true =>
      refine MOkA_pl ih (by omega) (by omega) (ih.2 _ (by omega) ?_)
      simp only [lvC, Bool.and_eq_true] at hc
      exact hc.1.1
def mLvN (N : Nat → Int32) (p : Nat) : Nat → Int32 := mGo (mLN N (nI p) 80) p
theorem div10 {k : Nat} (h : k < 80) : nI k / 10 = nI (k / 10) := pk_div (d := 10) (by omega) (by decide) (by decide)
theorem rem10 {k : Nat} (h : k < 80) : nI k - nI k / 10 * 10 = nI (k % 10) := pk_rem (d := 10) (by omega) (by decide) (by decide)

set_option maxRecDepth 100000 in
set_option maxHeartbeats 4000000 in
theorem lpX7_leaves (l : Launch) (g : XG) (N A Z B : Nat → Int32) (u : Int32) (L : Nat → Int32) (p : Nat) (hp2 : p < 12) (hM : MOkA N) : XA l g MX7_leaves (Qi (fun v w1 => v = nI (mLc N (nI p) 80) ∧ w1 = wM (mLvN N p) A Z B u L)) 4 ((fun i => [some (.ref 0), some (.int (nI p)), some (.int (nI (mLc N (nI p) i))), some (.int (nI i)), none, none]) 0) ((fun _ => []) 0) ((fun i => wM (mLN N (nI p) i) A Z B u L) 0) 0 0 := by
  refine x_for 80 (fun _ => True) (fun i => [some (.ref 0), some (.int (nI p)), some (.int (nI (mLc N (nI p) i))), some (.int (nI i)), none, none]) (fun _ => []) (fun i => wM (mLN N (nI p) i) A Z B u L) trivial (fun i hi hp ih => ?_) (fun hp => ?_)
  · refine x_iload_n dX7_leaves_4 rfl ?_
    refine x_bipush (v := 80) dX7_leaves_5 (by decide) ?_
    refine x_icmp_ge_f (tgt := 83) dX7_leaves_7 (by decide) (nI_nle_of rfl (by decide) hi) ?_
    refine x_iload_n dX7_leaves_10 rfl ?_
    refine x_bipush (v := 10) dX7_leaves_11 (by decide) ?_
    refine x_idiv dX7_leaves_13 (by decide) ?_
    rw [div10 hi]
    refine x_istore dX7_leaves_14 (by decide) ?_
    refine x_iload_n dX7_leaves_16 rfl ?_
    refine x_bipush (v := 10) dX7_leaves_17 (by decide) ?_
    refine x_irem dX7_leaves_19 (by decide) ?_
    rw [rem10 hi]
    refine x_istore dX7_leaves_20 (by decide) ?_
    refine x_aload_n dX7_leaves_22 rfl ?_
    refine x_iload dX7_leaves_23 rfl ?_
    refine x_callp [0, 1, 2, 3, 4, 5] (x_iV dX7_leaves_25 mlX7_43 lbX7_isFile rfl rfl rfl rfl) (kX7_isFile l g _ _ _ _ _ _ _) (by decide) rfl rfl (by decide) (by decide) (by simp [Value.category]) rfl rfl (by decide +kernel) ?_
    refine x_if_eq (tgt := 77) dX7_leaves_28 (by decide) (fun c_28 => ?_) (fun c_28 => ?_)
    · first | refine x_iinc dX7_leaves_77 (by decide) rfl (nI_inc _) ?_ | refine x_iinc dX7_leaves_77 (by decide) rfl (inc_1 _) ?_
      refine x_goto (tgt := 4) dX7_leaves_80 (by decide) ?_
      (try simp only [b2i_eq0, b2i_ne0] at *)
      refine x_le (lv' := [some (.ref 0), some (.int (nI p)), some (.int (nI (mLc N (nI p) (i + 1)))), some (.int (nI (i + 1))), none, none]) (x_eq (ih trivial) rfl rfl ?_) ?_
      · rw [mLN]; simp [lvC, *]
      · rw [mLc]; simp [lvle, lvC, *]
    · refine x_iload dX7_leaves_31 rfl ?_
      refine x_aload_n dX7_leaves_33 rfl ?_
      refine x_iload dX7_leaves_34 rfl ?_
      refine x_callp [0, 1, 2, 3, 4, 5] (x_iV dX7_leaves_36 mlX7_47 lbX7_fragments rfl rfl rfl rfl) (kX7_fragments l g _ _ _ _ _ _ (i / 10) (by omega)) (by decide) rfl rfl (by decide) (by decide) (by simp [Value.category]) rfl rfl (by decide +kernel) ?_
      refine x_icmp_ge (tgt := 77) dX7_leaves_39 (by decide) (fun c_39 => ?_) (fun c_39 => ?_)
      · first | refine x_iinc dX7_leaves_77 (by decide) rfl (nI_inc _) ?_ | refine x_iinc dX7_leaves_77 (by decide) rfl (inc_1 _) ?_
        refine x_goto (tgt := 4) dX7_leaves_80 (by decide) ?_
        (try simp only [b2i_eq0, b2i_ne0] at *)
        refine x_le (lv' := [some (.ref 0), some (.int (nI p)), some (.int (nI (mLc N (nI p) (i + 1)))), some (.int (nI (i + 1))), none, none]) (x_eq (ih trivial) rfl rfl ?_) ?_
        · rw [mLN]; simp [lvC, *]
        · rw [mLc]; simp [lvle, lvC, *]
      · refine x_aload_n dX7_leaves_42 rfl ?_
        refine x_iload dX7_leaves_43 rfl ?_
        refine x_bipush (v := 10) dX7_leaves_45 (by decide) ?_
        refine x_iload dX7_leaves_47 rfl ?_
        refine x_iadd dX7_leaves_49 ?_
        rw [ad10]
        refine x_callp [0, 1, 2, 3, 4, 5] (x_iV dX7_leaves_50 mlX7_29 lbX7_of rfl rfl rfl rfl) (kX7_of l g _ _ _ _ _ _ (i / 10) (10 + i % 10) (by omega) (by omega)) (by decide) rfl rfl (by decide) (by decide) (by simp [Value.category]) rfl rfl (by decide +kernel) ?_
        refine x_iload_n dX7_leaves_53 rfl ?_
        refine x_icmp_ne (tgt := 77) dX7_leaves_54 (by decide) (fun c_54 => ?_) (fun c_54 => ?_)
        · first | refine x_iinc dX7_leaves_77 (by decide) rfl (nI_inc _) ?_ | refine x_iinc dX7_leaves_77 (by decide) rfl (inc_1 _) ?_
          refine x_goto (tgt := 4) dX7_leaves_80 (by decide) ?_
          (try simp only [b2i_eq0, b2i_ne0] at *)
          refine x_le (lv' := [some (.ref 0), some (.int (nI p)), some (.int (nI (mLc N (nI p) (i + 1)))), some (.int (nI (i + 1))), none, none]) (x_eq (ih trivial) rfl rfl ?_) ?_
          · rw [mLN]; simp [lvC, *]
          · rw [mLc]; simp [lvle, lvC, *]
        · refine x_iload_n dX7_leaves_57 rfl ?_
          refine x_aload_n dX7_leaves_58 rfl ?_
          refine x_iload dX7_leaves_59 rfl ?_
          refine x_iload dX7_leaves_61 rfl ?_
          refine x_iload_n dX7_leaves_63 rfl ?_
          refine x_calli [0, 1, 2, 3, 4, 5] (x_iV dX7_leaves_64 mlX7_83 lbX7_places rfl rfl rfl rfl) (kX7_places l g _ _ _ _ _ _ (i / 10) (i % 10) (nI p) (by omega) (by omega) (mLN_ok hM i (by omega)).1 ((mLN_ok hM i (by omega)).2 _ (by omega) (b2i_t' c_28))) (by decide) rfl rfl (by decide) (by decide) (by simp [Value.category]) rfl rfl (by decide +kernel) (fun v1 w1 h1 => ?_)
          obtain ⟨rfl, rfl⟩ := h1
          refine x_eq (w' := wM _ A Z B u L) ?_ rfl rfl rfl
          refine x_if_eq (tgt := 74) dX7_leaves_67 (by decide) (fun c_67 => ?_) (fun c_67 => ?_)
          · refine x_iconst (v := 1) dX7_leaves_74 (by decide) ?_
            refine x_iadd dX7_leaves_75 ?_
            first | rw [nI_1] | rw [Int32.add_zero]
            refine x_istore_n dX7_leaves_76 (by decide) ?_
            first | refine x_iinc dX7_leaves_77 (by decide) rfl (nI_inc _) ?_ | refine x_iinc dX7_leaves_77 (by decide) rfl (inc_1 _) ?_
            refine x_goto (tgt := 4) dX7_leaves_80 (by decide) ?_
            (try simp only [b2i_eq0, b2i_ne0] at *)
            refine x_le (lv' := [some (.ref 0), some (.int (nI p)), some (.int (nI (mLc N (nI p) (i + 1)))), some (.int (nI (i + 1))), none, none]) (x_eq (ih trivial) rfl rfl ?_) ?_
            · rw [mLN]; simp [lvC, *]
            · rw [mLc]; simp [lvle, lvC, *]
          · refine x_iconst (v := 0) dX7_leaves_70 (by decide) ?_
            refine x_goto (tgt := 75) dX7_leaves_71 (by decide) ?_
            refine x_iadd dX7_leaves_75 ?_
            first | rw [nI_1] | rw [Int32.add_zero]
            refine x_istore_n dX7_leaves_76 (by decide) ?_
            first | refine x_iinc dX7_leaves_77 (by decide) rfl (nI_inc _) ?_ | refine x_iinc dX7_leaves_77 (by decide) rfl (inc_1 _) ?_
            refine x_goto (tgt := 4) dX7_leaves_80 (by decide) ?_
            (try simp only [b2i_eq0, b2i_ne0] at *)
            refine x_le (lv' := [some (.ref 0), some (.int (nI p)), some (.int (nI (mLc N (nI p) (i + 1)))), some (.int (nI (i + 1))), none, none]) (x_eq (ih trivial) rfl rfl ?_) ?_
            · rw [mLN]; simp [lvC, *]
            · rw [mLc]; simp [lvle, lvC, *]
  · refine x_iload_n dX7_leaves_4 rfl ?_
    refine x_bipush (v := 80) dX7_leaves_5 (by decide) ?_
    refine x_icmp_ge_t (tgt := 83) dX7_leaves_7 (by decide) (nI_le_of rfl (by decide) (Nat.le_refl _)) ?_
    refine x_aload_n dX7_leaves_83 rfl ?_
    refine x_iload_n dX7_leaves_84 rfl ?_
    refine x_callv [0, 1, 2, 3, 4, 5] (x_iV dX7_leaves_85 mlX7_86 lbX7_goes rfl rfl rfl rfl) (kX7_goes l g _ _ _ _ _ _ p hp2) (by decide) (by decide) (by decide) (by simp [Value.category]) rfl rfl (by decide +kernel) (fun w1 h1 => ?_)
    obtain rfl := h1
    refine x_eq (w' := wM _ A Z B u L) ?_ rfl rfl rfl
    refine x_iload_n dX7_leaves_88 rfl ?_
    exact x_reti dX7_leaves_89 rfl rfl rfl (⟨_, rfl, rfl, rfl⟩)

set_option maxRecDepth 100000 in
set_option maxHeartbeats 4000000 in
theorem kX7_leaves (l : Launch) (g : XG) (N A Z B : Nat → Int32) (u : Int32) (L : Nat → Int32) (p : Nat) (hp2 : p < 12) (hM : MOkA N) : Ct l g MX7_leaves [.ref 0, .int (nI p)] (wM N A Z B u L) (Qi (fun v w1 => v = nI (mLc N (nI p) 80) ∧ w1 = wM (mLvN N p) A Z B u L)) := by
  refine Ct_of (by decide) (by simp [Value.category]) (Nat.le_of_ble_eq_true rfl) ?_
  refine x_iconst (v := 0) dX7_leaves_0 (by decide) ?_
  refine x_istore_n dX7_leaves_1 (by decide) ?_
  refine x_iconst (v := 0) dX7_leaves_2 (by decide) ?_
  refine x_istore_n dX7_leaves_3 (by decide) ?_
  exact lpX7_leaves l g N A Z B u L p hp2 hM

def okLm (N : Nat → Int32) (p : Int32) : Bool := mPe N p && decide (¬ 0 < mOw N p) && mOn N p
def vLm (N : Nat → Int32) (p : Int32) : Int32 := if mPe N p then (if decide (¬ 0 < mOw N p) && mOn N p then nI (mLc N p 80) else -10002) else -10001

set_option maxRecDepth 100000 in
set_option maxHeartbeats 4000000 in
theorem kX7_leave (l : Launch) (g : XG) (N A Z B L : Nat → Int32) (n : Nat) (p : Int32) (hn : n ≤ 5) (hM : MOkA N) : Ct l g MX7_leave [.ref 0, .int p] (wM N A Z B (nI n) L) (Qi (fun v w1 => v = vLm N p ∧ w1 = mC (okLm N p) (mLvN N (cl p)) N A Z B L n)) := by
  refine Ct_of (by decide) (by simp [Value.category]) (Nat.le_of_ble_eq_true rfl) ?_
  refine x_aload_n dX7_leave_0 rfl ?_
  refine x_iload_n dX7_leave_1 rfl ?_
  refine x_callp [0, 1, 2, 3, 4, 5] (x_iV dX7_leave_2 mlX7_67 lbX7_isPeer rfl rfl rfl rfl) (kX7_isPeer l g _ _ _ _ _ _ _) (by decide) rfl rfl (by decide) (by decide) (by simp [Value.category]) rfl rfl (by decide +kernel) ?_
  refine x_if_ne (tgt := 12) dX7_leave_5 (by decide) (fun c_5 => ?_) (fun c_5 => ?_)
  · obtain ⟨p, hp2, rfl⟩ := mPe_ex (b2i_t' c_5)
    have hcp : cl (nI p) = p := cl_nI (by omega)
    refine x_aload_n dX7_leave_12 rfl ?_
    refine x_iload_n dX7_leave_13 rfl ?_
    refine x_callp [0, 1, 2, 3, 4, 5] (x_iV dX7_leave_14 mlX7_90 lbX7_owned rfl rfl rfl rfl) (kX7_owned l g _ _ _ _ _ _ _) (by decide) rfl rfl (by decide) (by decide) (by simp [Value.category]) rfl rfl (by decide +kernel) ?_
    refine x_if_gt (tgt := 28) dX7_leave_17 (by decide) (fun c_17 => ?_) (fun c_17 => ?_)
    · refine x_sipush (v := -10002) dX7_leave_28 (by decide) ?_
      exact x_reti dX7_leave_31 rfl rfl rfl (⟨_, rfl, by (try simp only [b2i_eq0, b2i_ne0] at *); rw [mC, show okLm N (nI p) = false by simp [okLm, *], cond_false]; exact ⟨by simp [vLm, *], rfl⟩⟩)
    · refine x_aload_n dX7_leave_20 rfl ?_
      refine x_iload_n dX7_leave_21 rfl ?_
      refine x_callp [0, 1, 2, 3, 4, 5] (x_iV dX7_leave_22 mlX7_51 lbX7_isOnline rfl rfl rfl rfl) (kX7_isOnline l g _ _ _ _ _ _ _ (vin_nI (by decide) hp2)) (by decide) rfl rfl (by decide) (by decide) (by simp [Value.category]) rfl rfl (by decide +kernel) ?_
      refine x_if_ne (tgt := 32) dX7_leave_25 (by decide) (fun c_25 => ?_) (fun c_25 => ?_)
      · refine x_aload_n dX7_leave_32 rfl ?_
        refine x_callv [0, 1, 2, 3, 4, 5] (x_iV dX7_leave_33 mlX7_80 lbX7_keeps rfl rfl rfl rfl) (kX7_keeps l g N A Z B L n hn) (by decide) (by decide) (by decide) (by simp [Value.category]) rfl rfl (by decide +kernel) (fun w1 h1 => ?_)
        obtain rfl := h1
        refine x_eq (w' := wM (N) A Z (mKB B N n) (nI (recN n)) L) ?_ rfl rfl rfl
        refine x_aload_n dX7_leave_36 rfl ?_
        refine x_iload_n dX7_leave_37 rfl ?_
        refine x_calli [0, 1, 2, 3, 4, 5] (x_iV dX7_leave_38 mlX7_93 lbX7_leaves rfl rfl rfl rfl) (kX7_leaves l g _ _ _ _ _ _ p hp2 hM) (by decide) rfl rfl (by decide) (by decide) (by simp [Value.category]) rfl rfl (by decide +kernel) (fun v1 w1 h1 => ?_)
        obtain ⟨rfl, rfl⟩ := h1
        refine x_eq (w' := wM (mLvN N p) A Z (mKB B N n) (nI (recN n)) L) ?_ rfl rfl rfl
        exact x_reti dX7_leave_41 rfl rfl rfl (⟨_, rfl, by (try simp only [b2i_eq0, b2i_ne0] at *); rw [mC, show okLm N (nI p) = true by simp [okLm, *], cond_true, hcp]; exact ⟨by simp [vLm, *], rfl⟩⟩)
      · refine x_sipush (v := -10002) dX7_leave_28 (by decide) ?_
        exact x_reti dX7_leave_31 rfl rfl rfl (⟨_, rfl, by (try simp only [b2i_eq0, b2i_ne0] at *); rw [mC, show okLm N (nI p) = false by simp [okLm, *], cond_false]; exact ⟨by simp [vLm, *], rfl⟩⟩)
  · refine x_sipush (v := -10001) dX7_leave_8 (by decide) ?_
    exact x_reti dX7_leave_11 rfl rfl rfl (⟨_, rfl, by (try simp only [b2i_eq0, b2i_ne0] at *); rw [mC, show okLm N p = false by simp [okLm, *], cond_false]; exact ⟨by simp [vLm, *], rfl⟩⟩)
