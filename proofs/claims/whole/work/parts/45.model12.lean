/-! ===== the reference: repairs ===== -/
def mSr (N : Nat → Int32) (f : Nat) : Nat → Int32 × Int32
  | 0 => (0, N (192 + 30 * f + 2))
  | i + 1 => if !decide ((mSr N f i).2 ≤ 0) && mGd N f i then ((mSr N f i).1 ||| (1 <<< (N (192 + 30 * f + (10 + i)) &&& 31)), (mSr N f i).2 + Int32.ofInt (-1)) else mSr N f i
theorem mSr_stop {N : Nat → Int32} {f i : Nat} (h : (mSr N f i).2 ≤ 0) : ∀ {j : Nat}, i ≤ j → mSr N f j = mSr N f i := by
  intro j hj
  induction j with
  | zero => have : i = 0 := by omega
            subst this; rfl
  | succ j ih =>
    rcases Nat.lt_or_eq_of_le hj with h1 | h1
    · have h2 := ih (by omega)
      rw [mSr, h2]
      simp [h]
    · rw [h1]
def mSo (N : Nat → Int32) (f : Nat) : Int32 := (mSr N f (cl (mFr N f))).1
def mOl (N : Nat → Int32) (f : Nat) (s : Int32) : Nat → (Nat → Int32)
  | 0 => N
  | p + 1 => cond (bitB s p) (mOwe (mOl N f s p) (mOl N f s p (192 + 30 * f + 1)) (nI p) 1) (mOl N f s p)
theorem mOl_hi {N : Nat → Int32} {f : Nat} {s : Int32} (ho : vp_in (N (192 + 30 * f + 1)) 12) : ∀ p, p ≤ 12 → ∀ x, 192 ≤ x → mOl N f s p x = N x
  | 0, _, x, _ => rfl
  | p + 1, hp, x, hx => by
    have ih := mOl_hi (s := s) ho p (by omega)
    rw [mOl]
    cases bitB s p with
    | false => exact ih x hx
    | true =>
      show mOwe _ _ _ _ x = N x
      rw [mOwe_hi (by rw [ih _ (by omega)]; exact ho) (vin_nI (by decide) (by omega)) hx, ih x hx]
def mR1 (N : Nat → Int32) (f i : Nat) : Nat → Int32 := upd (upd N (192 + 30 * f + (10 + i)) (-1)) (192 + 30 * f + (20 + i)) 0
def mR2 (N : Nat → Int32) (f i : Nat) : Nat → Int32 := cond (mPlB (mR1 N f i) f (-1)) (mOl (mPlN (mR1 N f i) f i (-1)) f (mSo N f) 12) (mPlN (mR1 N f i) f i (-1))
def mRp (N : Nat → Int32) (f : Nat) : Nat → (Nat → Int32)
  | 0 => N
  | i + 1 => cond (mGd (mRp N f i) f i) (mRp N f i) (mR2 (mRp N f i) f i)
def cRp (N : Nat → Int32) (f : Nat) : Nat → Nat
  | 0 => 0
  | i + 1 => cRp N f i + (if !mGd (mRp N f i) f i && mPlB (mR1 (mRp N f i) f i) f (-1) then 1 else 0)
theorem mR1_hd {N : Nat → Int32} {f i g w : Nat} (hi : i < 10) (hw : w < 10) : mR1 N f i (192 + 30 * g + w) = N (192 + 30 * g + w) := by
  simp only [mR1, upd]; rw [if_neg (by omega), if_neg (by omega)]
theorem mR1_ok {N : Nat → Int32} {f i : Nat} (h : MOkA N) (hi : i < 10) : MOkA (mR1 N f i) := by
  refine MOkA_of h (fun g w _ hw => mR1_hd hi hw) (fun g j hg hj => ?_)
  simp only [mR1, upd]
  rw [if_neg (by omega)]
  by_cases e : 192 + 30 * g + (10 + j) = 192 + 30 * f + (10 + i)
  · rw [if_pos e]; exact Or.inr (Or.inl (by decide))
  · rw [if_neg e]; exact Or.inl rfl
theorem mR2_ok {N : Nat → Int32} {f i : Nat} (h : MOkA N) (hf : f < 8) (hi : i < 10) (ho : vp_in (N (192 + 30 * f + 1)) 12) : MOkA (mR2 N f i) ∧ ∀ g w, g < 8 → w < 10 → mR2 N f i (192 + 30 * g + w) = N (192 + 30 * g + w) := by
  have ho1 : vp_in (mR1 N f i (192 + 30 * f + 1)) 12 := by rw [mR1_hd hi (by decide)]; exact ho
  have h1 := MOkA_pl (b := -1) (mR1_ok (f := f) h hi) hf hi ho1
  have hh : ∀ g w, g < 8 → w < 10 → mPlN (mR1 N f i) f i (-1) (192 + 30 * g + w) = N (192 + 30 * g + w) := fun g w hg hw => by
    rw [mPlN_hi hi ho1 (by omega), if_neg (by omega), if_neg (by omega), mR1_hd hi hw]
  have ho2 : vp_in (mPlN (mR1 N f i) f i (-1) (192 + 30 * f + 1)) 12 := by rw [hh f 1 hf (by decide)]; exact ho
  rw [mR2]
  cases mPlB (mR1 N f i) f (-1) with
  | false => exact ⟨h1, hh⟩
  | true =>
    refine ⟨MOkA_of h1 (fun g w _ _ => mOl_hi ho2 12 (Nat.le_refl _) _ (by omega)) (fun g j _ _ => Or.inl (mOl_hi ho2 12 (Nat.le_refl _) _ (by omega))), fun g w hg hw => ?_⟩
    show mOl _ _ _ _ _ = _
    rw [mOl_hi ho2 12 (Nat.le_refl _) _ (by omega), hh g w hg hw]
theorem mRp_ok {N : Nat → Int32} {f : Nat} (h : MOkA N) (hf : f < 8) (ho : vp_in (N (192 + 30 * f + 1)) 12) : ∀ i, i ≤ 10 → MOkA (mRp N f i) ∧ ∀ g w, g < 8 → w < 10 → mRp N f i (192 + 30 * g + w) = N (192 + 30 * g + w)
  | 0, _ => ⟨h, fun _ _ _ _ => rfl⟩
  | i + 1, hi => by
    obtain ⟨h1, h2⟩ := mRp_ok h hf ho i (by omega)
    rw [mRp]
    cases mGd (mRp N f i) f i with
    | true => exact ⟨h1, h2⟩
    | false =>
      obtain ⟨h3, h4⟩ := mR2_ok (i := i) h1 hf (by omega) (by rw [h2 f 1 hf (by decide)]; exact ho)
      exact ⟨h3, fun g w hg hw => (h4 g w hg hw).trans (h2 g w hg hw)⟩

set_option maxRecDepth 100000 in
set_option maxHeartbeats 4000000 in
theorem lpX7_sources (l : Launch) (g : XG) (N A Z B : Nat → Int32) (u : Int32) (L : Nat → Int32) (f : Nat) (hf : f < 8) (hM : MOk N) : XA l g MX7_sources (Qp (mSo N f) (wM N A Z B u L)) 12 ((fun i => [some (.ref 0), some (.int (nI f)), some (.int (mSr N f i).1), some (.int (mSr N f i).2), some (.int (nI i))]) 0) ((fun _ => []) 0) ((fun _ => wM N A Z B u L) 0) 0 0 := by
  refine x_for (cl (mFr N f)) (fun _ => True) (fun i => [some (.ref 0), some (.int (nI f)), some (.int (mSr N f i).1), some (.int (mSr N f i).2), some (.int (nI i))]) (fun _ => []) (fun _ => wM N A Z B u L) trivial (fun i hi hp ih => ?_) (fun hp => ?_)
  · have hi10 : i < 10 := by have h1 := (hM f hf).1; have h2 : i < cl (N (192 + 30 * f + 2) + N (192 + 30 * f + 3)) := hi; omega
    refine x_iload dX7_sources_12 rfl ?_
    refine x_aload_n dX7_sources_14 rfl ?_
    refine x_iload_n dX7_sources_15 rfl ?_
    refine x_callp [0, 1, 2, 3, 4, 5] (x_iV dX7_sources_16 mlX7_47 lbX7_fragments rfl rfl rfl rfl) (kX7_fragments l g _ _ _ _ _ _ f hf) (by decide) rfl rfl (by decide) (by decide) (by simp [Value.category]) rfl rfl (by decide +kernel) ?_
    refine x_icmp_ge_f (tgt := 60) dX7_sources_19 (by decide) (nge_cl hi) ?_
    refine x_iload_n dX7_sources_22 rfl ?_
    refine x_if_le (tgt := 60) dX7_sources_23 (by decide) (fun c_23 => ?_) (fun c_23 => ?_)
    · refine x_iload_n dX7_sources_60 rfl ?_
      exact x_reti dX7_sources_61 rfl rfl rfl (⟨by rw [mSo, mSr_stop c_23 (Nat.le_of_lt hi)], rfl⟩)
    · refine x_aload_n dX7_sources_26 rfl ?_
      refine x_iload_n dX7_sources_27 rfl ?_
      refine x_iload dX7_sources_28 rfl ?_
      refine x_callp [0, 1, 2, 3, 4, 5] (x_iV dX7_sources_30 mlX7_54 lbX7_isGood rfl rfl rfl rfl) (kX7_isGood l g _ _ _ _ _ _ f i hf hi10 hM) (by decide) rfl rfl (by decide) (by decide) (by simp [Value.category]) rfl rfl (by decide +kernel) ?_
      refine x_if_eq (tgt := 54) dX7_sources_33 (by decide) (fun c_33 => ?_) (fun c_33 => ?_)
      · first | refine x_iinc dX7_sources_54 (by decide) rfl (nI_inc _) ?_ | refine x_iinc dX7_sources_54 (by decide) rfl (inc_1 _) ?_
        refine x_goto (tgt := 12) dX7_sources_57 (by decide) ?_
        (try simp only [b2i_eq0, b2i_ne0] at *)
        have e : mSr N f (i + 1) = _ := mSr.eq_2 N f i
        simp [*] at e
        refine x_eq (ih trivial) ?_ rfl rfl
        rw [e] <;> rfl
      · refine x_iload_n dX7_sources_36 rfl ?_
        refine x_iconst (v := 1) dX7_sources_37 (by decide) ?_
        refine x_aload_n dX7_sources_38 rfl ?_
        refine x_iload_n dX7_sources_39 rfl ?_
        refine x_bipush (v := 10) dX7_sources_40 (by decide) ?_
        refine x_iload dX7_sources_42 rfl ?_
        refine x_iadd dX7_sources_44 ?_
        rw [ad10]
        refine x_callp [0, 1, 2, 3, 4, 5] (x_iV dX7_sources_45 mlX7_29 lbX7_of rfl rfl rfl rfl) (kX7_of l g _ _ _ _ _ _ f (10 + i) hf (by omega)) (by decide) rfl rfl (by decide) (by decide) (by simp [Value.category]) rfl rfl (by decide +kernel) ?_
        refine x_ishl dX7_sources_48 ?_
        refine x_ior dX7_sources_49 ?_
        refine x_istore_n dX7_sources_50 (by decide) ?_
        refine x_iinc dX7_sources_51 (by decide) rfl rfl ?_
        first | refine x_iinc dX7_sources_54 (by decide) rfl (nI_inc _) ?_ | refine x_iinc dX7_sources_54 (by decide) rfl (inc_1 _) ?_
        refine x_goto (tgt := 12) dX7_sources_57 (by decide) ?_
        (try simp only [b2i_eq0, b2i_ne0] at *)
        have e : mSr N f (i + 1) = _ := mSr.eq_2 N f i
        simp [*] at e
        refine x_eq (ih trivial) ?_ rfl rfl
        rw [e] <;> rfl
  · refine x_iload dX7_sources_12 rfl ?_
    refine x_aload_n dX7_sources_14 rfl ?_
    refine x_iload_n dX7_sources_15 rfl ?_
    refine x_callp [0, 1, 2, 3, 4, 5] (x_iV dX7_sources_16 mlX7_47 lbX7_fragments rfl rfl rfl rfl) (kX7_fragments l g _ _ _ _ _ _ f hf) (by decide) rfl rfl (by decide) (by decide) (by simp [Value.category]) rfl rfl (by decide +kernel) ?_
    refine x_icmp_ge_t (tgt := 60) dX7_sources_19 (by decide) (ge_cl) ?_
    refine x_iload_n dX7_sources_60 rfl ?_
    exact x_reti dX7_sources_61 rfl rfl rfl (⟨rfl, rfl⟩)

set_option maxRecDepth 100000 in
set_option maxHeartbeats 4000000 in
theorem kX7_sources (l : Launch) (g : XG) (N A Z B : Nat → Int32) (u : Int32) (L : Nat → Int32) (f : Nat) (hf : f < 8) (hM : MOk N) : Ct l g MX7_sources [.ref 0, .int (nI f)] (wM N A Z B u L) (Qp (mSo N f) (wM N A Z B u L)) := by
  refine Ct_of (by decide) (by simp [Value.category]) (Nat.le_of_ble_eq_true rfl) ?_
  refine x_iconst (v := 0) dX7_sources_0 (by decide) ?_
  refine x_istore_n dX7_sources_1 (by decide) ?_
  refine x_aload_n dX7_sources_2 rfl ?_
  refine x_iload_n dX7_sources_3 rfl ?_
  refine x_iconst (v := 2) dX7_sources_4 (by decide) ?_
  refine x_callp [0, 1, 2, 3, 4, 5] (x_iV dX7_sources_5 mlX7_29 lbX7_of rfl rfl rfl rfl) (kX7_of l g _ _ _ _ _ _ f 2 hf (by omega)) (by decide) rfl rfl (by decide) (by decide) (by simp [Value.category]) rfl rfl (by decide +kernel) ?_
  refine x_istore_n dX7_sources_8 (by decide) ?_
  refine x_iconst (v := 0) dX7_sources_9 (by decide) ?_
  refine x_istore dX7_sources_10 (by decide) ?_
  exact lpX7_sources l g N A Z B u L f hf hM
