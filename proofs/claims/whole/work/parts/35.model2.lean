theorem sub_1 (x : Int32) (c : Nat) : x - nI c - 1 = x - nI (c + 1) := by rw [← nI_1, Int32.sub_eq_add_neg, Int32.sub_eq_add_neg, Int32.sub_eq_add_neg, Int32.neg_add, Int32.add_assoc, Int32.sub_eq_add_neg]
theorem sub_0 (x : Int32) : x - 0 = x := Int32.sub_zero x
def mCf (N : Nat → Int32) (p : Int32) (f : Nat) : Nat := if mFi N (nI f) then cntB (fun i => decide (N (192 + 30 * f + (10 + i)) = p)) (cl (mFr N f)) else 0
def mTo (N : Nat → Int32) (p : Int32) : Nat → Nat
  | 0 => 0
  | f + 1 => mTo N p f + mCf N p f
def mFe (N : Nat → Int32) (p : Int32) : Int32 := N (4 * cl p + 1) - nI (mTo N p 8)

set_option maxRecDepth 100000 in
set_option maxHeartbeats 4000000 in
theorem lqX7_free (l : Launch) (g : XG) (N A Z B : Nat → Int32) (u : Int32) (L : Nat → Int32) (p : Int32) (f : Nat) (Q0 : Option Value → XW → Prop) (hf : f < 8) (hM : MOk N) (hfl : mFi N (nI f) = true) (hk : XA l g MX7_free Q0 68 ([some (.ref 0), some (.int p), some (.int (N (4 * cl p + 1) - nI (mTo N p f + cntB (fun i => decide (N (192 + 30 * f + (10 + i)) = p)) (cl (mFr N f))))), some (.int (nI (f))), some (.int (nI (cl (mFr N f))))]) [] (wM N A Z B u L) 0 0) : XA l g MX7_free Q0 22 ((fun i => [some (.ref 0), some (.int p), some (.int (N (4 * cl p + 1) - nI (mTo N p f + cntB (fun i => decide (N (192 + 30 * f + (10 + i)) = p)) i))), some (.int (nI (f))), some (.int (nI i))]) 0) ((fun _ => []) 0) ((fun _ => wM N A Z B u L) 0) 0 0 := by
  refine x_for (cl (mFr N f)) (fun _ => True) (fun i => [some (.ref 0), some (.int p), some (.int (N (4 * cl p + 1) - nI (mTo N p f + cntB (fun i => decide (N (192 + 30 * f + (10 + i)) = p)) i))), some (.int (nI (f))), some (.int (nI i))]) (fun _ => []) (fun _ => wM N A Z B u L) trivial (fun i hi hp ih => ?_) (fun hp => ?_)
  · refine x_aload_n dX7_free_22 rfl ?_
    refine x_iload_n dX7_free_23 rfl ?_
    refine x_callp [0, 1, 2, 3, 4, 5] (x_iV dX7_free_24 mlX7_43 lbX7_isFile rfl rfl rfl rfl) (kX7_isFile l g _ _ _ _ _ _ _) (by decide) rfl rfl (by decide) (by decide) (by simp [Value.category]) rfl rfl (by decide +kernel) ?_
    refine x_if_eq_f (tgt := 68) dX7_free_27 (by decide) (by rw [hfl]; decide) ?_
    refine x_iload dX7_free_30 rfl ?_
    refine x_aload_n dX7_free_32 rfl ?_
    refine x_iload_n dX7_free_33 rfl ?_
    refine x_callp [0, 1, 2, 3, 4, 5] (x_iV dX7_free_34 mlX7_47 lbX7_fragments rfl rfl rfl rfl) (kX7_fragments l g _ _ _ _ _ _ f hf) (by decide) rfl rfl (by decide) (by decide) (by simp [Value.category]) rfl rfl (by decide +kernel) ?_
    refine x_icmp_ge_f (tgt := 68) dX7_free_37 (by decide) (nge_cl hi) ?_
    refine x_iload_n dX7_free_40 rfl ?_
    refine x_aload_n dX7_free_41 rfl ?_
    refine x_iload_n dX7_free_42 rfl ?_
    refine x_bipush (v := 10) dX7_free_43 (by decide) ?_
    refine x_iload dX7_free_45 rfl ?_
    refine x_iadd dX7_free_47 ?_
    rw [ad10]
    refine x_callp [0, 1, 2, 3, 4, 5] (x_iV dX7_free_48 mlX7_29 lbX7_of rfl rfl rfl rfl) (kX7_of l g _ _ _ _ _ _ f (10 + i) hf (by have h1 := (hM f hf).1; have h2 : i < cl (N (192 + 30 * f + 2) + N (192 + 30 * f + 3)) := hi; omega)) (by decide) rfl rfl (by decide) (by decide) (by simp [Value.category]) rfl rfl (by decide +kernel) ?_
    refine x_iload_n dX7_free_51 rfl ?_
    refine x_icmp_ne (tgt := 59) dX7_free_52 (by decide) (fun c_52 => ?_) (fun c_52 => ?_)
    · refine x_iconst (v := 0) dX7_free_59 (by decide) ?_
      refine x_isub dX7_free_60 ?_
      first | rw [sub_1] | rw [sub_0]
      refine x_istore_n dX7_free_61 (by decide) ?_
      first | refine x_iinc dX7_free_62 (by decide) rfl (nI_inc _) ?_ | refine x_iinc dX7_free_62 (by decide) rfl (inc_1 _) ?_
      refine x_goto (tgt := 22) dX7_free_65 (by decide) ?_
      refine x_eq (ih trivial) ?_ rfl rfl
      first | (rw [cntB_t (f := fun i => decide (N (192 + 30 * f + (10 + i)) = p)) (n := i) (by simp [*])] <;> rfl) | (rw [cntB_f (f := fun i => decide (N (192 + 30 * f + (10 + i)) = p)) (n := i) (by simp [*])] <;> rfl)
    · refine x_iconst (v := 1) dX7_free_55 (by decide) ?_
      refine x_goto (tgt := 60) dX7_free_56 (by decide) ?_
      refine x_isub dX7_free_60 ?_
      first | rw [sub_1] | rw [sub_0]
      refine x_istore_n dX7_free_61 (by decide) ?_
      first | refine x_iinc dX7_free_62 (by decide) rfl (nI_inc _) ?_ | refine x_iinc dX7_free_62 (by decide) rfl (inc_1 _) ?_
      refine x_goto (tgt := 22) dX7_free_65 (by decide) ?_
      refine x_eq (ih trivial) ?_ rfl rfl
      first | (rw [cntB_t (f := fun i => decide (N (192 + 30 * f + (10 + i)) = p)) (n := i) (by simp [*])] <;> rfl) | (rw [cntB_f (f := fun i => decide (N (192 + 30 * f + (10 + i)) = p)) (n := i) (by simp [*])] <;> rfl)
  · refine x_aload_n dX7_free_22 rfl ?_
    refine x_iload_n dX7_free_23 rfl ?_
    refine x_callp [0, 1, 2, 3, 4, 5] (x_iV dX7_free_24 mlX7_43 lbX7_isFile rfl rfl rfl rfl) (kX7_isFile l g _ _ _ _ _ _ _) (by decide) rfl rfl (by decide) (by decide) (by simp [Value.category]) rfl rfl (by decide +kernel) ?_
    refine x_if_eq_f (tgt := 68) dX7_free_27 (by decide) (by rw [hfl]; decide) ?_
    refine x_iload dX7_free_30 rfl ?_
    refine x_aload_n dX7_free_32 rfl ?_
    refine x_iload_n dX7_free_33 rfl ?_
    refine x_callp [0, 1, 2, 3, 4, 5] (x_iV dX7_free_34 mlX7_47 lbX7_fragments rfl rfl rfl rfl) (kX7_fragments l g _ _ _ _ _ _ f hf) (by decide) rfl rfl (by decide) (by decide) (by simp [Value.category]) rfl rfl (by decide +kernel) ?_
    refine x_icmp_ge_t (tgt := 68) dX7_free_37 (by decide) (ge_cl) ?_
    exact hk

set_option maxRecDepth 100000 in
set_option maxHeartbeats 4000000 in
theorem lpX7_free (l : Launch) (g : XG) (N A Z B : Nat → Int32) (u : Int32) (L : Nat → Int32) (p : Int32) (hM : MOk N) : XA l g MX7_free (Qp (mFe N p) (wM N A Z B u L)) 13 ((fun i => [some (.ref 0), some (.int p), some (.int (N (4 * cl p + 1) - nI (mTo N p i))), some (.int (nI (i))), none]) 0) ((fun _ => []) 0) ((fun _ => wM N A Z B u L) 0) 0 0 := by
  refine x_for 8 (fun _ => True) (fun i => [some (.ref 0), some (.int p), some (.int (N (4 * cl p + 1) - nI (mTo N p i))), some (.int (nI (i))), none]) (fun _ => []) (fun _ => wM N A Z B u L) trivial (fun i hi hp ih => ?_) (fun hp => ?_)
  · refine x_iload_n dX7_free_13 rfl ?_
    refine x_bipush (v := 8) dX7_free_14 (by decide) ?_
    refine x_icmp_ge_f (tgt := 74) dX7_free_16 (by decide) (nI_nle_of rfl (by decide) hi) ?_
    refine x_iconst (v := 0) dX7_free_19 (by decide) ?_
    refine x_istore dX7_free_20 (by decide) ?_
    cases hfl : mFi N (nI i) with
    | true =>
      refine lqX7_free l g N A Z B u L p i _ hi hM hfl ?_
      first | refine x_iinc dX7_free_68 (by decide) rfl (nI_inc _) ?_ | skip
      refine x_goto (tgt := 13) dX7_free_71 (by decide) ?_
      refine x_le (x_eq (ih trivial) rfl rfl rfl) ?_
      simp [lvle, mTo, mCf, hfl]
    | false =>
      refine x_aload_n dX7_free_22 rfl ?_
      refine x_iload_n dX7_free_23 rfl ?_
      refine x_callp [0, 1, 2, 3, 4, 5] (x_iV dX7_free_24 mlX7_43 lbX7_isFile rfl rfl rfl rfl) (kX7_isFile l g _ _ _ _ _ _ _) (by decide) rfl rfl (by decide) (by decide) (by simp [Value.category]) rfl rfl (by decide +kernel) ?_
      refine x_if_eq_t (tgt := 68) dX7_free_27 (by decide) (by rw [hfl]; rfl) ?_
      first | refine x_iinc dX7_free_68 (by decide) rfl (nI_inc _) ?_ | skip
      refine x_goto (tgt := 13) dX7_free_71 (by decide) ?_
      refine x_le (x_eq (ih trivial) rfl rfl rfl) ?_
      simp [lvle, mTo, mCf, hfl]
  · refine x_iload_n dX7_free_13 rfl ?_
    refine x_bipush (v := 8) dX7_free_14 (by decide) ?_
    refine x_icmp_ge_t (tgt := 74) dX7_free_16 (by decide) (nI_le_of rfl (by decide) (Nat.le_refl _)) ?_
    refine x_iload_n dX7_free_74 rfl ?_
    exact x_reti dX7_free_75 rfl rfl rfl (⟨rfl, rfl⟩)

set_option maxRecDepth 100000 in
set_option maxHeartbeats 4000000 in
theorem kX7_free (l : Launch) (g : XG) (N A Z B : Nat → Int32) (u : Int32) (L : Nat → Int32) (p : Int32) (hp : vp_in p 12) (hM : MOk N) : Ct l g MX7_free [.ref 0, .int p] (wM N A Z B u L) (Qp (mFe N p) (wM N A Z B u L)) := by
  refine Ct_of (by decide) (by simp [Value.category]) (Nat.le_of_ble_eq_true rfl) ?_
  refine x_aload_n dX7_free_0 rfl ?_
  refine x_getf dX7_free_1 flX7_7 rfl rfl ?_
  refine x_iconst (v := 4) dX7_free_4 (by decide) ?_
  refine x_iload_n dX7_free_5 rfl ?_
  refine x_imul dX7_free_6 ?_
  refine x_iconst (v := 1) dX7_free_7 (by decide) ?_
  refine x_iadd dX7_free_8 ?_
  refine x_iar dX7_free_9 rfl (ix_p4 (c := 1) hp (by decide)) ?_
  refine x_istore_n dX7_free_10 (by decide) ?_
  refine x_iconst (v := 0) dX7_free_11 (by decide) ?_
  refine x_istore_n dX7_free_12 (by decide) ?_
  exact x_eq (lpX7_free l g N A Z B u L p hM) (by show _ = [some (Value.ref 0), some (Value.int p), some (Value.int (N (4 * cl p + 1) - nI 0)), some (Value.int (nI 0)), none]; rw [show nI 0 = (0 : Int32) from rfl, Int32.sub_zero]; rfl) rfl rfl

set_option maxRecDepth 100000 in
set_option maxHeartbeats 4000000 in
theorem lpX7_power (l : Launch) (g : XG) (b e : Nat) (hb : b < 257) (he : e < 2 ^ 31) : XA l g MX7_power (Qp (nI (b ^ e % 257)) []) 4 ((fun i => [some (.int (nI b)), some (.int (nI e)), some (.int (nI (b ^ i % 257))), some (.int (nI i))]) 0) ((fun _ => []) 0) ((fun _ => []) 0) 0 0 := by
  refine x_for e (fun _ => True) (fun i => [some (.int (nI b)), some (.int (nI e)), some (.int (nI (b ^ i % 257))), some (.int (nI i))]) (fun _ => []) (fun _ => []) trivial (fun i hi hp ih => ?_) (fun hp => ?_)
  · refine x_iload_n dX7_power_4 rfl ?_
    refine x_iload_n dX7_power_5 rfl ?_
    refine x_icmp_ge_f (tgt := 23) dX7_power_6 (by decide) (nI_ge hi he) ?_
    refine x_iload_n dX7_power_9 rfl ?_
    refine x_iload_n dX7_power_10 rfl ?_
    refine x_imul dX7_power_11 ?_
    refine x_sipush (v := 257) dX7_power_12 (by decide) ?_
    refine x_irem dX7_power_15 (by decide) ?_
    rw [mul257 (Nat.mod_lt _ (by decide)) hb]
    refine x_istore_n dX7_power_16 (by decide) ?_
    first | refine x_iinc dX7_power_17 (by decide) rfl (nI_inc _) ?_ | refine x_iinc dX7_power_17 (by decide) rfl (inc_1 _) ?_
    refine x_goto (tgt := 4) dX7_power_20 (by decide) ?_
    refine x_eq (ih trivial) ?_ rfl rfl
    simp only [Nat.pow_succ, Nat.mul_mod, Nat.mod_mod]
    rfl
  · refine x_iload_n dX7_power_4 rfl ?_
    refine x_iload_n dX7_power_5 rfl ?_
    refine x_icmp_ge_t (tgt := 23) dX7_power_6 (by decide) (nI_le (Nat.le_refl _) he) ?_
    refine x_iload_n dX7_power_23 rfl ?_
    exact x_reti dX7_power_24 rfl rfl rfl (⟨rfl, rfl⟩)

set_option maxRecDepth 100000 in
set_option maxHeartbeats 4000000 in
theorem kX7_power (l : Launch) (g : XG) (b e : Nat) (hb : b < 257) (he : e < 2 ^ 31) : Ct l g MX7_power [.int (nI b), .int (nI e)] ([]) (Qp (nI (b ^ e % 257)) []) := by
  refine Ct_of (by decide) (by simp [Value.category]) (Nat.le_of_ble_eq_true rfl) ?_
  refine x_iconst (v := 1) dX7_power_0 (by decide) ?_
  refine x_istore_n dX7_power_1 (by decide) ?_
  refine x_iconst (v := 0) dX7_power_2 (by decide) ?_
  refine x_istore_n dX7_power_3 (by decide) ?_
  exact lpX7_power l g b e hb he

/-- the words of file f are wd, k of them -/
def fW (N : Nat → Int32) (f k : Nat) (wd : Nat → Nat) : Prop := N (192 + 30 * f + 2) = nI k ∧ k ≤ 6 ∧ ∀ d, d < k → N (192 + 30 * f + (4 + d)) = nI (wd d) ∧ wd d < 256
def corN (wd : Nat → Nat) (k i : Nat) : Nat := if i < k then wd i else parW wd k (i - k)
theorem corN_lt {wd : Nat → Nat} {k i : Nat} (h : ∀ d, d < k → wd d < 256) : corN wd k i < 257 := by
  rw [corN]; split
  · rename_i hi; have := h i hi; omega
  · exact Nat.mod_lt _ (by decide)

set_option maxRecDepth 100000 in
set_option maxHeartbeats 4000000 in
theorem lpX7_correct (l : Launch) (g : XG) (N A Z B : Nat → Int32) (u : Int32) (L : Nat → Int32) (f k i0 : Nat) (wd : Nat → Nat) (hf : f < 8) (hik : k ≤ i0) (hi0 : i0 < k + 250) (hw : fW N f k wd) : XA l g MX7_correct (Qp (nI (corN wd k i0)) (wM N A Z B u L)) 27 ((fun i => [some (.ref 0), some (.int (nI f)), some (.int (nI i0)), some (.int (nI k)), some (.int (nI (parS wd (i0 - k) i))), some (.int (nI (i)))]) 0) ((fun _ => []) 0) ((fun _ => wM N A Z B u L) 0) 0 0 := by
  refine x_for k (fun _ => True) (fun i => [some (.ref 0), some (.int (nI f)), some (.int (nI i0)), some (.int (nI k)), some (.int (nI (parS wd (i0 - k) i))), some (.int (nI (i)))]) (fun _ => []) (fun _ => wM N A Z B u L) trivial (fun i hi hp ih => ?_) (fun hp => ?_)
  · refine x_iload dX7_correct_27 rfl ?_
    refine x_iload_n dX7_correct_29 rfl ?_
    refine x_icmp_ge_f (tgt := 64) dX7_correct_30 (by decide) (nI_ge hi (by have := hw.2.1; omega)) ?_
    refine x_iload dX7_correct_33 rfl ?_
    refine x_aload_n dX7_correct_35 rfl ?_
    refine x_iload_n dX7_correct_36 rfl ?_
    refine x_iconst (v := 4) dX7_correct_37 (by decide) ?_
    refine x_iload dX7_correct_38 rfl ?_
    refine x_iadd dX7_correct_40 ?_
    rw [ad4]
    refine x_callp [0, 1, 2, 3, 4, 5] (x_iV dX7_correct_41 mlX7_29 lbX7_of rfl rfl rfl rfl) (kX7_of l g _ _ _ _ _ _ f (4 + i) hf (by have := hw.2.1; omega)) (by decide) rfl rfl (by decide) (by decide) (by simp [Value.category]) rfl rfl (by decide +kernel) ?_
    refine x_iload dX7_correct_44 rfl ?_
    refine x_iconst (v := 1) dX7_correct_46 (by decide) ?_
    refine x_iadd dX7_correct_47 ?_
    rw [(hw.2.2 i hi).1, nI_1]
    refine x_iload_n dX7_correct_48 rfl ?_
    refine x_iload_n dX7_correct_49 rfl ?_
    refine x_isub dX7_correct_50 ?_
    rw [pk_sub hik]
    refine x_callp [] (x_iS dX7_correct_51 mlX7_61 lbX7_power rfl) (kX7_power l g (i + 1) (i0 - k) (by have := hw.2.1; omega) (by have := hw.2.1; omega)) (by decide) rfl rfl (by decide) (by decide) (by simp [Value.category]) rfl rfl (by decide +kernel) ?_
    refine x_imul dX7_correct_54 ?_
    rw [pk_mul]
    refine x_iadd dX7_correct_55 ?_
    rw [nI_add]
    refine x_istore dX7_correct_56 (by decide) ?_
    first | refine x_iinc dX7_correct_58 (by decide) rfl (nI_inc _) ?_ | refine x_iinc dX7_correct_58 (by decide) rfl (inc_1 _) ?_
    refine x_goto (tgt := 27) dX7_correct_61 (by decide) ?_
    exact ih trivial
  · refine x_iload dX7_correct_27 rfl ?_
    refine x_iload_n dX7_correct_29 rfl ?_
    refine x_icmp_ge_t (tgt := 64) dX7_correct_30 (by decide) (nI_le (Nat.le_refl _) (by have := hw.2.1; omega)) ?_
    refine x_iload dX7_correct_64 rfl ?_
    refine x_sipush (v := 257) dX7_correct_66 (by decide) ?_
    refine x_irem dX7_correct_69 (by decide) ?_
    rw [rem257 (by have := parS_le (j := i0 - k) hw.2.1 (fun d hd => (hw.2.2 d hd).2) (Nat.le_refl _); omega)]
    exact x_reti dX7_correct_70 rfl rfl rfl (⟨by rw [corN, if_neg (by omega)]; rfl, rfl⟩)

set_option maxRecDepth 100000 in
set_option maxHeartbeats 4000000 in
theorem kX7_correct (l : Launch) (g : XG) (N A Z B : Nat → Int32) (u : Int32) (L : Nat → Int32) (f k i : Nat) (wd : Nat → Nat) (hf : f < 8) (hi : i < k + 250) (hw : fW N f k wd) : Ct l g MX7_correct [.ref 0, .int (nI f), .int (nI i)] (wM N A Z B u L) (Qp (nI (corN wd k i)) (wM N A Z B u L)) := by
  refine Ct_of (by decide) (by simp [Value.category]) (Nat.le_of_ble_eq_true rfl) ?_
  refine x_aload_n dX7_correct_0 rfl ?_
  refine x_iload_n dX7_correct_1 rfl ?_
  refine x_iconst (v := 2) dX7_correct_2 (by decide) ?_
  refine x_callp [0, 1, 2, 3, 4, 5] (x_iV dX7_correct_3 mlX7_29 lbX7_of rfl rfl rfl rfl) (kX7_of l g _ _ _ _ _ _ f 2 hf (by omega)) (by decide) rfl rfl (by decide) (by decide) (by simp [Value.category]) rfl rfl (by decide +kernel) ?_
  rw [hw.1]
  refine x_istore_n dX7_correct_6 (by decide) ?_
  refine x_iload_n dX7_correct_7 rfl ?_
  refine x_iload_n dX7_correct_8 rfl ?_
  refine x_icmp_ge (tgt := 21) dX7_correct_9 (by decide) (fun c_9 => ?_) (fun c_9 => ?_)
  · refine x_iconst (v := 0) dX7_correct_21 (by decide) ?_
    refine x_istore dX7_correct_22 (by decide) ?_
    refine x_iconst (v := 0) dX7_correct_24 (by decide) ?_
    refine x_istore dX7_correct_25 (by decide) ?_
    exact lpX7_correct l g N A Z B u L f k i wd hf (Nat.not_lt.mp fun z => nI_ge z (by have := hw.2.1; omega) c_9) hi hw
  · have hik : i < k := Nat.not_le.mp fun z => c_9 (nI_le z (by have := hw.2.1; omega))
    refine x_aload_n dX7_correct_12 rfl ?_
    refine x_iload_n dX7_correct_13 rfl ?_
    refine x_iconst (v := 4) dX7_correct_14 (by decide) ?_
    refine x_iload_n dX7_correct_15 rfl ?_
    refine x_iadd dX7_correct_16 ?_
    rw [ad4]
    refine x_callp [0, 1, 2, 3, 4, 5] (x_iV dX7_correct_17 mlX7_29 lbX7_of rfl rfl rfl rfl) (kX7_of l g _ _ _ _ _ _ f (4 + i) hf (by have := hw.2.1; omega)) (by decide) rfl rfl (by decide) (by decide) (by simp [Value.category]) rfl rfl (by decide +kernel) ?_
    exact x_reti dX7_correct_20 rfl rfl rfl (⟨by rw [corN, if_pos hik, (hw.2.2 i hik).1], rfl⟩)
