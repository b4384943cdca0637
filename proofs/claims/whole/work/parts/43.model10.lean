/-! ===== the reference: crash ===== -/
def mCi (T : Nat → Int32) (p : Int32) (f : Nat) : Nat → (Nat → Int32)
  | 0 => T
  | i + 1 => cond (decide (mCi T p f i (192 + 30 * f + (10 + i)) = p)) (upd (upd (mCi T p f i) (192 + 30 * f + (10 + i)) (-1)) (192 + 30 * f + (20 + i)) 0) (mCi T p f i)
def cCi (T : Nat → Int32) (p : Int32) (f : Nat) : Nat → Nat
  | 0 => 0
  | i + 1 => cCi T p f i + (if mCi T p f i (192 + 30 * f + (10 + i)) = p then 1 else 0)
theorem mCi_at (T : Nat → Int32) (p : Int32) (f : Nat) : ∀ i, i ≤ 10 → ∀ x, mCi T p f i x = T x ∨ (∃ j, j < i ∧ ((x = 192 + 30 * f + (10 + j) ∧ mCi T p f i x = -1) ∨ (x = 192 + 30 * f + (20 + j) ∧ mCi T p f i x = 0)))
  | 0, _, x => Or.inl rfl
  | i + 1, hi, x => by
    have ih := mCi_at T p f i (by omega) x
    rw [mCi]
    cases decide (mCi T p f i (192 + 30 * f + (10 + i)) = p) with
    | false =>
      rcases ih with h | ⟨j, hj, h⟩
      · exact Or.inl h
      · exact Or.inr ⟨j, by omega, h⟩
    | true =>
      simp only [cond_true, upd]
      by_cases h1 : x = 192 + 30 * f + (20 + i)
      · rw [if_pos h1]; exact Or.inr ⟨i, by omega, Or.inr ⟨h1, rfl⟩⟩
      · rw [if_neg h1]
        by_cases h2 : x = 192 + 30 * f + (10 + i)
        · rw [if_pos h2]; exact Or.inr ⟨i, by omega, Or.inl ⟨h2, rfl⟩⟩
        · rw [if_neg h2]
          rcases ih with h | ⟨j, hj, h⟩
          · exact Or.inl h
          · exact Or.inr ⟨j, by omega, h⟩
theorem mCi_hd {T : Nat → Int32} {p : Int32} {f i g w : Nat} (hi : i ≤ 10) (hw : w < 10) : mCi T p f i (192 + 30 * g + w) = T (192 + 30 * g + w) := by
  rcases mCi_at T p f i hi (192 + 30 * g + w) with h | ⟨j, hj, ⟨h, -⟩ | ⟨h, -⟩⟩
  · exact h
  · omega
  · omega
theorem mCi_ok {T : Nat → Int32} {p : Int32} {f i : Nat} (h : MOkA T) (hi : i ≤ 10) : MOkA (mCi T p f i) := by
  refine MOkA_of h (fun g w _ hw => mCi_hd hi hw) (fun g j hg hj => ?_)
  rcases mCi_at T p f i hi (192 + 30 * g + (10 + j)) with e | ⟨j', hj', ⟨e, e2⟩ | ⟨e, e2⟩⟩
  · exact Or.inl e
  · rw [e2]; exact Or.inr (Or.inl (by decide))
  · omega
theorem mCi_fi {T : Nat → Int32} {p : Int32} {f i : Nat} (hf : f < 8) (hi : i ≤ 10) : mFi (mCi T p f i) (nI f) = mFi T (nI f) := by rw [mFi_nI hf, mFi_nI hf, mCi_hd hi (by decide)]
theorem mCi_fr {T : Nat → Int32} {p : Int32} {f i : Nat} (hi : i ≤ 10) : mFr (mCi T p f i) f = mFr T f := by rw [mFr, mFr, mCi_hd hi (by decide), mCi_hd hi (by decide)]
theorem mDe_ok {T : Nat → Int32} {f : Nat} (h : MOkA T) (hf : f < 8) : MOkA (mDe T f) := by
  have key : ∀ g w, g < 8 → w < 30 → mDe T f (192 + 30 * g + w) = if g = f then 0 else T (192 + 30 * g + w) := by
    intro g w hg hw
    simp only [mDe, zN]
    by_cases e : g = f
    · rw [if_pos (by omega), if_pos e]
    · rw [if_neg (by omega), if_neg e]
  refine ⟨fun g hg => ⟨?_, fun i hi => ?_⟩, fun g hg hfl => ?_⟩
  · rw [key g 2 hg (by decide), key g 3 hg (by decide)]
    by_cases e : g = f
    · rw [if_pos e, if_pos e]; decide
    · rw [if_neg e, if_neg e]; exact (h.1 g hg).1
  · rw [key g (10 + i) hg (by omega)]
    by_cases e : g = f
    · rw [if_pos e]; exact Or.inr (vin_nI (k := 0) (by decide) (by decide))
    · rw [if_neg e]; exact (h.1 g hg).2 i hi
  · rw [mFi_nI hg, key g 0 hg (by decide)] at hfl
    by_cases e : g = f
    · rw [if_pos e] at hfl; exact absurd hfl (by decide)
    · rw [if_neg e] at hfl
      rw [key g 1 hg (by decide), if_neg e]
      exact h.2 g hg (by rw [mFi_nI hg]; exact hfl)
theorem mDe_fi {T : Nat → Int32} {f : Nat} (hf : f < 8) : mFi (mDe T f) (nI f) = false := by
  have h : mDe T f (192 + 30 * f + 0) = 0 := by
    simp only [mDe, zN]
    rw [if_pos (by omega)]
  rw [mFi_nI hf, h]; decide
def mCN (N : Nat → Int32) (p : Int32) : Nat → (Nat → Int32)
  | 0 => N
  | f + 1 => cond (mFi (mCN N p f) (nI f)) (cond (decide (mCN N p f (192 + 30 * f + 1) = p)) (mDe (mCN N p f) f) (mCi (mCN N p f) p f (cl (mFr (mCN N p f) f)))) (mCN N p f)
def mCc (N : Nat → Int32) (p : Int32) : Nat → Nat
  | 0 => 0
  | f + 1 => mCc N p f + (if mFi (mCN N p f) (nI f) && !decide (mCN N p f (192 + 30 * f + 1) = p) then cCi (mCN N p f) p f (cl (mFr (mCN N p f) f)) else 0)
theorem mCN_ok {N : Nat → Int32} {p : Int32} (h : MOkA N) : ∀ f, f ≤ 8 → MOkA (mCN N p f)
  | 0, _ => h
  | f + 1, hf => by
    have ih := mCN_ok (p := p) h f (by omega)
    rw [mCN]
    cases mFi (mCN N p f) (nI f) with
    | false => exact ih
    | true =>
      cases decide (mCN N p f (192 + 30 * f + 1) = p) with
      | true => exact mDe_ok ih (by omega)
      | false => exact mCi_ok ih (ih.1 f (by omega)).1
def mCrN (N : Nat → Int32) (p : Nat) : Nat → Int32 := mGo (mCN N (nI p) 8) p
def vCm (N : Nat → Int32) (p : Int32) : Int32 := if mPe N p then nI (mCc N p 8) else -10001

set_option maxRecDepth 100000 in
set_option maxHeartbeats 4000000 in
theorem lqX7_crash (l : Launch) (g : XG) (T A Z B L : Nat → Int32) (u : Int32) (p f c0 : Nat) (Q0 : Option Value → XW → Prop) (hf : f < 8) (hM : MOkA T) (hfl : mFi T (nI f) = true) (hk : XA l g MX7_crash Q0 123 ([some (.ref 0), some (.int (nI p)), some (.int (nI (c0 + cCi T (nI p) f (cl (mFr T f))))), some (.int (nI f)), some (.int (nI (cl (mFr T f))))]) [] (wM (mCi T (nI p) f (cl (mFr T f))) A Z B u L) 0 0) : XA l g MX7_crash Q0 52 ((fun i => [some (.ref 0), some (.int (nI p)), some (.int (nI (c0 + cCi T (nI p) f i))), some (.int (nI f)), some (.int (nI i))]) 0) ((fun _ => []) 0) ((fun i => wM (mCi T (nI p) f i) A Z B u L) 0) 0 0 := by
  refine x_for (cl (mFr T f)) (fun _ => True) (fun i => [some (.ref 0), some (.int (nI p)), some (.int (nI (c0 + cCi T (nI p) f i))), some (.int (nI f)), some (.int (nI i))]) (fun _ => []) (fun i => wM (mCi T (nI p) f i) A Z B u L) trivial (fun i hi hp ih => ?_) (fun hp => ?_)
  · have hi10 : i < 10 := by have h1 := (hM.1 f hf).1; have h2 : i < cl (T (192 + 30 * f + 2) + T (192 + 30 * f + 3)) := hi; omega
    refine x_aload_n dX7_crash_52 rfl ?_
    refine x_iload_n dX7_crash_53 rfl ?_
    refine x_callp [0, 1, 2, 3, 4, 5] (x_iV dX7_crash_54 mlX7_43 lbX7_isFile rfl rfl rfl rfl) (kX7_isFile l g _ _ _ _ _ _ _) (by decide) rfl rfl (by decide) (by decide) (by simp [Value.category]) rfl rfl (by decide +kernel) ?_
    refine x_if_eq_f (tgt := 123) dX7_crash_57 (by decide) (by rw [mCi_fi hf (by omega), hfl]; decide) ?_
    refine x_iload dX7_crash_60 rfl ?_
    refine x_aload_n dX7_crash_62 rfl ?_
    refine x_iload_n dX7_crash_63 rfl ?_
    refine x_callp [0, 1, 2, 3, 4, 5] (x_iV dX7_crash_64 mlX7_47 lbX7_fragments rfl rfl rfl rfl) (kX7_fragments l g _ _ _ _ _ _ f hf) (by decide) rfl rfl (by decide) (by decide) (by simp [Value.category]) rfl rfl (by decide +kernel) ?_
    refine x_icmp_ge_f (tgt := 123) dX7_crash_67 (by decide) (by rw [mCi_fr (by omega)]; exact nge_cl hi) ?_
    refine x_aload_n dX7_crash_70 rfl ?_
    refine x_iload_n dX7_crash_71 rfl ?_
    refine x_bipush (v := 10) dX7_crash_72 (by decide) ?_
    refine x_iload dX7_crash_74 rfl ?_
    refine x_iadd dX7_crash_76 ?_
    rw [ad10]
    refine x_callp [0, 1, 2, 3, 4, 5] (x_iV dX7_crash_77 mlX7_29 lbX7_of rfl rfl rfl rfl) (kX7_of l g _ _ _ _ _ _ f (10 + i) hf (by omega)) (by decide) rfl rfl (by decide) (by decide) (by simp [Value.category]) rfl rfl (by decide +kernel) ?_
    refine x_iload_n dX7_crash_80 rfl ?_
    refine x_icmp_ne (tgt := 117) dX7_crash_81 (by decide) (fun c_81 => ?_) (fun c_81 => ?_)
    · first | refine x_iinc dX7_crash_117 (by decide) rfl (nI_inc _) ?_ | refine x_iinc dX7_crash_117 (by decide) rfl (inc_1 _) ?_
      refine x_goto (tgt := 52) dX7_crash_120 (by decide) ?_
      refine x_eq (ih trivial) ?_ rfl ?_
      · rw [cCi]; first | (rw [if_pos c_81] <;> rfl) | (rw [if_neg c_81] <;> rfl)
      · rw [mCi]; simp [c_81] <;> rfl
    · refine x_aload_n dX7_crash_84 rfl ?_
      refine x_getf dX7_crash_85 flX7_7 rfl rfl ?_
      refine x_iload_n dX7_crash_88 rfl ?_
      refine x_bipush (v := 10) dX7_crash_89 (by decide) ?_
      refine x_iload dX7_crash_91 rfl ?_
      refine x_iadd dX7_crash_93 ?_
      refine x_callp [] (x_iS dX7_crash_94 mlX7_33 lbX7_at rfl) (kX7_at l g _ _) (by decide) rfl rfl (by decide) (by decide) (by simp [Value.category]) rfl rfl (by decide +kernel) ?_
      refine x_iconst (v := -1) dX7_crash_97 (by decide) ?_
      refine x_iaw dX7_crash_98 rfl (show ix (192 + 30 * nI f + (10 + nI i)) (192 + 30 * f + (10 + i)) 439 from by rw [ad10]; exact ix_at hf (by omega)) ?_
      refine x_aload_n dX7_crash_99 rfl ?_
      refine x_getf dX7_crash_100 flX7_7 rfl rfl ?_
      refine x_iload_n dX7_crash_103 rfl ?_
      refine x_bipush (v := 20) dX7_crash_104 (by decide) ?_
      refine x_iload dX7_crash_106 rfl ?_
      refine x_iadd dX7_crash_108 ?_
      refine x_callp [] (x_iS dX7_crash_109 mlX7_33 lbX7_at rfl) (kX7_at l g _ _) (by decide) rfl rfl (by decide) (by decide) (by simp [Value.category]) rfl rfl (by decide +kernel) ?_
      refine x_iconst (v := 0) dX7_crash_112 (by decide) ?_
      refine x_iaw dX7_crash_113 rfl (show ix (192 + 30 * nI f + (20 + nI i)) (192 + 30 * f + (20 + i)) 439 from by rw [ad20]; exact ix_at hf (by omega)) ?_
      first | refine x_iinc dX7_crash_114 (by decide) rfl (nI_inc _) ?_ | refine x_iinc dX7_crash_114 (by decide) rfl (inc_1 _) ?_
      first | refine x_iinc dX7_crash_117 (by decide) rfl (nI_inc _) ?_ | refine x_iinc dX7_crash_117 (by decide) rfl (inc_1 _) ?_
      refine x_goto (tgt := 52) dX7_crash_120 (by decide) ?_
      refine x_eq (ih trivial) ?_ rfl ?_
      · rw [cCi]; first | (rw [if_pos c_81] <;> rfl) | (rw [if_neg c_81] <;> rfl)
      · rw [mCi]; simp [c_81] <;> rfl
  · have hfr10 := (hM.1 f hf).1
    have hfr10 : cl (mFr T f) ≤ 10 := hfr10
    refine x_aload_n dX7_crash_52 rfl ?_
    refine x_iload_n dX7_crash_53 rfl ?_
    refine x_callp [0, 1, 2, 3, 4, 5] (x_iV dX7_crash_54 mlX7_43 lbX7_isFile rfl rfl rfl rfl) (kX7_isFile l g _ _ _ _ _ _ _) (by decide) rfl rfl (by decide) (by decide) (by simp [Value.category]) rfl rfl (by decide +kernel) ?_
    refine x_if_eq_f (tgt := 123) dX7_crash_57 (by decide) (by rw [mCi_fi hf hfr10, hfl]; decide) ?_
    refine x_iload dX7_crash_60 rfl ?_
    refine x_aload_n dX7_crash_62 rfl ?_
    refine x_iload_n dX7_crash_63 rfl ?_
    refine x_callp [0, 1, 2, 3, 4, 5] (x_iV dX7_crash_64 mlX7_47 lbX7_fragments rfl rfl rfl rfl) (kX7_fragments l g _ _ _ _ _ _ f hf) (by decide) rfl rfl (by decide) (by decide) (by simp [Value.category]) rfl rfl (by decide +kernel) ?_
    refine x_icmp_ge_t (tgt := 123) dX7_crash_67 (by decide) (by rw [mCi_fr hfr10]; exact ge_cl) ?_
    exact hk

set_option maxRecDepth 100000 in
set_option maxHeartbeats 4000000 in
theorem lpX7_crash (l : Launch) (g : XG) (N A Z B : Nat → Int32) (u : Int32) (L : Nat → Int32) (p : Nat) (hp2 : p < 12) (hM : MOkA N) : XA l g MX7_crash (Qi (fun v w1 => v = nI (mCc N (nI p) 8) ∧ w1 = wM (mCrN N p) A Z B u L)) 20 ((fun i => [some (.ref 0), some (.int (nI p)), some (.int (nI (mCc N (nI p) i))), some (.int (nI i)), none]) 0) ((fun _ => []) 0) ((fun i => wM (mCN N (nI p) i) A Z B u L) 0) 0 0 := by
  refine x_for 8 (fun _ => True) (fun i => [some (.ref 0), some (.int (nI p)), some (.int (nI (mCc N (nI p) i))), some (.int (nI i)), none]) (fun _ => []) (fun i => wM (mCN N (nI p) i) A Z B u L) trivial (fun i hi hp ih => ?_) (fun hp => ?_)
  · refine x_iload_n dX7_crash_20 rfl ?_
    refine x_bipush (v := 8) dX7_crash_21 (by decide) ?_
    refine x_icmp_ge_f (tgt := 129) dX7_crash_23 (by decide) (nI_nle_of rfl (by decide) hi) ?_
    refine x_aload_n dX7_crash_26 rfl ?_
    refine x_iload_n dX7_crash_27 rfl ?_
    refine x_callp [0, 1, 2, 3, 4, 5] (x_iV dX7_crash_28 mlX7_43 lbX7_isFile rfl rfl rfl rfl) (kX7_isFile l g _ _ _ _ _ _ _) (by decide) rfl rfl (by decide) (by decide) (by simp [Value.category]) rfl rfl (by decide +kernel) ?_
    refine x_if_eq (tgt := 49) dX7_crash_31 (by decide) (fun c_31 => ?_) (fun c_31 => ?_)
    · refine x_iconst (v := 0) dX7_crash_49 (by decide) ?_
      refine x_istore dX7_crash_50 (by decide) ?_
      refine x_aload_n dX7_crash_52 rfl ?_
      refine x_iload_n dX7_crash_53 rfl ?_
      refine x_callp [0, 1, 2, 3, 4, 5] (x_iV dX7_crash_54 mlX7_43 lbX7_isFile rfl rfl rfl rfl) (kX7_isFile l g _ _ _ _ _ _ _) (by decide) rfl rfl (by decide) (by decide) (by simp [Value.category]) rfl rfl (by decide +kernel) ?_
      refine x_if_eq_t (tgt := 123) dX7_crash_57 (by decide) (c_31) ?_
      (try simp only [b2i_eq0, b2i_ne0] at *)
      first | refine x_iinc dX7_crash_123 (by decide) rfl (nI_inc _) ?_ | skip
      refine x_goto (tgt := 20) dX7_crash_126 (by decide) ?_
      refine x_le (lv' := [some (.ref 0), some (.int (nI p)), some (.int (nI (mCc N (nI p) (i + 1)))), some (.int (nI (i + 1))), none]) (x_eq (ih trivial) rfl rfl ?_) ?_
      · rw [mCN]; simp [*]
      · rw [mCc]; simp [lvle, *]
    · refine x_aload_n dX7_crash_34 rfl ?_
      refine x_iload_n dX7_crash_35 rfl ?_
      refine x_iconst (v := 1) dX7_crash_36 (by decide) ?_
      refine x_callp [0, 1, 2, 3, 4, 5] (x_iV dX7_crash_37 mlX7_29 lbX7_of rfl rfl rfl rfl) (kX7_of l g _ _ _ _ _ _ i 1 hi (by omega)) (by decide) rfl rfl (by decide) (by decide) (by simp [Value.category]) rfl rfl (by decide +kernel) ?_
      refine x_iload_n dX7_crash_40 rfl ?_
      refine x_icmp_ne (tgt := 49) dX7_crash_41 (by decide) (fun c_41 => ?_) (fun c_41 => ?_)
      · refine x_iconst (v := 0) dX7_crash_49 (by decide) ?_
        refine x_istore dX7_crash_50 (by decide) ?_
        refine lqX7_crash l g _ A Z B L u p i (mCc N (nI p) i) _ hi (mCN_ok hM i (by omega)) (b2i_t' c_31) ?_
        (try simp only [b2i_eq0, b2i_ne0] at *)
        first | refine x_iinc dX7_crash_123 (by decide) rfl (nI_inc _) ?_ | skip
        refine x_goto (tgt := 20) dX7_crash_126 (by decide) ?_
        refine x_le (lv' := [some (.ref 0), some (.int (nI p)), some (.int (nI (mCc N (nI p) (i + 1)))), some (.int (nI (i + 1))), none]) (x_eq (ih trivial) rfl rfl ?_) ?_
        · rw [mCN]; simp [*]
        · rw [mCc]; simp [lvle, *]
      · refine x_aload_n dX7_crash_44 rfl ?_
        refine x_iload_n dX7_crash_45 rfl ?_
        refine x_callv [0, 1, 2, 3, 4, 5] (x_iV dX7_crash_46 mlX7_96 lbX7_deletes rfl rfl rfl rfl) (kX7_deletes l g _ _ _ _ _ _ i hi) (by decide) (by decide) (by decide) (by simp [Value.category]) rfl rfl (by decide +kernel) (fun w1 h1 => ?_)
        obtain rfl := h1
        refine x_eq (w' := wM _ A Z B u L) ?_ rfl rfl rfl
        refine x_iconst (v := 0) dX7_crash_49 (by decide) ?_
        refine x_istore dX7_crash_50 (by decide) ?_
        refine x_aload_n dX7_crash_52 rfl ?_
        refine x_iload_n dX7_crash_53 rfl ?_
        refine x_callp [0, 1, 2, 3, 4, 5] (x_iV dX7_crash_54 mlX7_43 lbX7_isFile rfl rfl rfl rfl) (kX7_isFile l g _ _ _ _ _ _ _) (by decide) rfl rfl (by decide) (by decide) (by simp [Value.category]) rfl rfl (by decide +kernel) ?_
        refine x_if_eq_t (tgt := 123) dX7_crash_57 (by decide) (by rw [mDe_fi hi]; rfl) ?_
        (try simp only [b2i_eq0, b2i_ne0] at *)
        first | refine x_iinc dX7_crash_123 (by decide) rfl (nI_inc _) ?_ | skip
        refine x_goto (tgt := 20) dX7_crash_126 (by decide) ?_
        refine x_le (lv' := [some (.ref 0), some (.int (nI p)), some (.int (nI (mCc N (nI p) (i + 1)))), some (.int (nI (i + 1))), none]) (x_eq (ih trivial) rfl rfl ?_) ?_
        · rw [mCN]; simp [*]
        · rw [mCc]; simp [lvle, *]
  · refine x_iload_n dX7_crash_20 rfl ?_
    refine x_bipush (v := 8) dX7_crash_21 (by decide) ?_
    refine x_icmp_ge_t (tgt := 129) dX7_crash_23 (by decide) (nI_le_of rfl (by decide) (Nat.le_refl _)) ?_
    refine x_aload_n dX7_crash_129 rfl ?_
    refine x_iload_n dX7_crash_130 rfl ?_
    refine x_callv [0, 1, 2, 3, 4, 5] (x_iV dX7_crash_131 mlX7_86 lbX7_goes rfl rfl rfl rfl) (kX7_goes l g _ _ _ _ _ _ p hp2) (by decide) (by decide) (by decide) (by simp [Value.category]) rfl rfl (by decide +kernel) (fun w1 h1 => ?_)
    obtain rfl := h1
    refine x_eq (w' := wM _ A Z B u L) ?_ rfl rfl rfl
    refine x_iload_n dX7_crash_134 rfl ?_
    exact x_reti dX7_crash_135 rfl rfl rfl (⟨_, rfl, rfl, rfl⟩)

set_option maxRecDepth 100000 in
set_option maxHeartbeats 4000000 in
theorem kX7_crash (l : Launch) (g : XG) (N A Z B L : Nat → Int32) (n : Nat) (p : Int32) (hn : n ≤ 5) (hM : MOkA N) : Ct l g MX7_crash [.ref 0, .int p] (wM N A Z B (nI n) L) (Qi (fun v w1 => v = vCm N p ∧ w1 = mC (mPe N p) (mCrN N (cl p)) N A Z B L n)) := by
  refine Ct_of (by decide) (by simp [Value.category]) (Nat.le_of_ble_eq_true rfl) ?_
  refine x_aload_n dX7_crash_0 rfl ?_
  refine x_iload_n dX7_crash_1 rfl ?_
  refine x_callp [0, 1, 2, 3, 4, 5] (x_iV dX7_crash_2 mlX7_67 lbX7_isPeer rfl rfl rfl rfl) (kX7_isPeer l g _ _ _ _ _ _ _) (by decide) rfl rfl (by decide) (by decide) (by simp [Value.category]) rfl rfl (by decide +kernel) ?_
  refine x_if_ne (tgt := 12) dX7_crash_5 (by decide) (fun c_5 => ?_) (fun c_5 => ?_)
  · obtain ⟨p, hp2, rfl⟩ := mPe_ex (b2i_t' c_5)
    have hcp : cl (nI p) = p := cl_nI (by omega)
    refine x_aload_n dX7_crash_12 rfl ?_
    refine x_callv [0, 1, 2, 3, 4, 5] (x_iV dX7_crash_13 mlX7_80 lbX7_keeps rfl rfl rfl rfl) (kX7_keeps l g N A Z B L n hn) (by decide) (by decide) (by decide) (by simp [Value.category]) rfl rfl (by decide +kernel) (fun w1 h1 => ?_)
    obtain rfl := h1
    refine x_eq (w' := wM (N) A Z (mKB B N n) (nI (recN n)) L) ?_ rfl rfl rfl
    refine x_iconst (v := 0) dX7_crash_16 (by decide) ?_
    refine x_istore_n dX7_crash_17 (by decide) ?_
    refine x_iconst (v := 0) dX7_crash_18 (by decide) ?_
    refine x_istore_n dX7_crash_19 (by decide) ?_
    refine x_eq (lv' := [some (.ref 0), some (.int (nI p)), some (.int (nI 0)), some (.int (nI 0)), none]) ?_ rfl rfl rfl
    have K := lpX7_crash l g N A Z (mKB B N n) (nI (recN n)) L p hp2 hM
    have e : (fun (v : Int32) (w1 : XW) => v = vCm N (nI p) ∧ w1 = mC (mPe N (nI p)) (mCrN N (cl (nI p))) N A Z B L n) = (fun v w1 => v = nI (mCc N (nI p) 8) ∧ w1 = wM (mCrN N p) A Z (mKB B N n) (nI (recN n)) L) := by
      rw [vCm, if_pos (b2i_t' c_5), mC, b2i_t' c_5, cond_true, hcp]
    rw [e]
    exact K
  · refine x_sipush (v := -10001) dX7_crash_8 (by decide) ?_
    exact x_reti dX7_crash_11 rfl rfl rfl (⟨_, rfl, by rw [mC, b2i_f' c_5, cond_false, vCm, if_neg (by simp [b2i_f' c_5])]; exact ⟨rfl, rfl⟩⟩)
