/-! ===== the decoder: its rows ===== -/
def nf (c : Nat → Nat) : Nat → Int32 := fun x => nI (c x)
def swC (c : Nat → Nat) (p q i : Nat) : Nat → Nat := fun x => if 7 * p ≤ x ∧ x < 7 * p + i then c (7 * q + (x - 7 * p)) else if 7 * q ≤ x ∧ x < 7 * q + i then c (7 * p + (x - 7 * q)) else c x
def scC (c : Nat → Nat) (r v i : Nat) : Nat → Nat := fun x => if 7 * r ≤ x ∧ x < 7 * r + i then c x * v % 257 else c x
def sbC (c : Nat → Nat) (r t q i : Nat) : Nat → Nat := fun x => if 7 * q ≤ x ∧ x < 7 * q + i then (c x + (257 - t) * c (7 * r + (x - 7 * q))) % 257 else c x
theorem ix7 {r i : Nat} (h : 7 * r + i < 42) : ix (nI r * 7 + nI i) (7 * r + i) 42 := by
  rw [show nI r * (7 : Int32) = nI (r * 7) from pk_mul r 7, nI_add, Nat.mul_comm]; exact ix_nI h (by decide)
theorem i7x {r i : Nat} (h : 7 * r + i < 42) : ix (7 * nI r + nI i) (7 * r + i) 42 := by
  rw [show (7 : Int32) * nI r = nI (7 * r) from pk_mul 7 r, nI_add]; exact ix_nI h (by decide)
theorem e257 {a t b : Nat} (ha : a < 257) (ht : t < 257) (hb : b < 257) : nI a + (257 - nI t) * nI b - (nI a + (257 - nI t) * nI b) / 257 * 257 = nI ((a + (257 - t) * b) % 257) := by
  have h3 : (257 - t) * b ≤ 257 * 256 := Nat.mul_le_mul (by omega) (by omega)
  rw [show (257 : Int32) - nI t = nI (257 - t) from pk_sub (a := 257) (by omega), pk_mul, nI_add, rem257 (by omega)]
theorem swC_0 (c : Nat → Nat) (p q : Nat) : row 42 (nf c) = row 42 (nf (swC c p q 0)) := row_congr fun x _ => by simp only [nf, swC]; rw [if_neg (by omega), if_neg (by omega)]
theorem swC_at (c : Nat → Nat) (p q i : Nat) {j : Nat} (h : i ≤ j) (hj : j < 7) : swC c p q i (7 * p + j) = c (7 * p + j) ∧ swC c p q i (7 * q + j) = c (7 * q + j) := by
  constructor
  · simp only [swC]; rw [if_neg (by omega), if_neg (by omega)]
  · simp only [swC]; rw [if_neg (by omega), if_neg (by omega)]
theorem swC_s (c : Nat → Nat) {p q i : Nat} (hi : i < 7) : row 42 (upd (upd (nf (swC c p q i)) (7 * p + i) (nf (swC c p q i) (7 * q + i))) (7 * q + i) (nf (swC c p q i) (7 * p + i))) = row 42 (nf (swC c p q (i + 1))) := row_congr fun x _ => by
  have h1 := (swC_at c p q i (Nat.le_refl i) hi).1
  have h2 := (swC_at c p q i (Nat.le_refl i) hi).2
  simp only [upd, nf, h1, h2]
  by_cases e1 : x = 7 * q + i
  · rw [if_pos e1]
    simp only [swC]
    by_cases e2 : p = q
    · subst e2; rw [if_pos (by omega), e1, Nat.add_sub_cancel_left]
    · rw [if_neg (by omega), if_pos (by omega), e1, Nat.add_sub_cancel_left]
  · rw [if_neg e1]
    by_cases e2 : x = 7 * p + i
    · rw [if_pos e2]; simp only [swC]; rw [if_pos (by omega), e2, Nat.add_sub_cancel_left]
    · rw [if_neg e2]; simp only [swC]
      by_cases e3 : 7 * p ≤ x ∧ x < 7 * p + i
      · rw [if_pos e3, if_pos (by omega)]
      · have n1 : ¬ (7 * p ≤ x ∧ x < 7 * p + (i + 1)) := by omega
        by_cases e4 : 7 * q ≤ x ∧ x < 7 * q + i
        · have n2 : 7 * q ≤ x ∧ x < 7 * q + (i + 1) := by omega
          simp only [if_neg e3, if_neg n1, if_pos e4, if_pos n2]
        · have n2 : ¬ (7 * q ≤ x ∧ x < 7 * q + (i + 1)) := by omega
          simp only [if_neg e3, if_neg n1, if_neg e4, if_neg n2]
theorem scC_0 (c : Nat → Nat) (r v : Nat) : row 42 (nf c) = row 42 (nf (scC c r v 0)) := row_congr fun x _ => by simp only [nf, scC]; rw [if_neg (by omega)]
theorem scC_at (c : Nat → Nat) (r v i : Nat) : scC c r v i (7 * r + i) = c (7 * r + i) := by simp only [scC]; rw [if_neg (by omega)]
theorem scC_s (c : Nat → Nat) {r v i : Nat} : row 42 (upd (nf (scC c r v i)) (7 * r + i) (nI (c (7 * r + i) * v % 257))) = row 42 (nf (scC c r v (i + 1))) := row_congr fun x _ => by
  simp only [upd, nf, scC]
  by_cases e1 : x = 7 * r + i
  · rw [if_pos e1, if_pos (by omega), e1]
  · rw [if_neg e1]
    by_cases e3 : 7 * r ≤ x ∧ x < 7 * r + i
    · rw [if_pos e3, if_pos (by omega)]
    · rw [if_neg e3, if_neg (by omega)]
theorem sbC_0 (c : Nat → Nat) (r t q : Nat) : row 42 (nf c) = row 42 (nf (sbC c r t q 0)) := row_congr fun x _ => by simp only [nf, sbC]; rw [if_neg (by omega)]
theorem sbC_at (c : Nat → Nat) (r t q i : Nat) : sbC c r t q i (7 * q + i) = c (7 * q + i) := by simp only [sbC]; rw [if_neg (by omega)]
theorem sbC_r (c : Nat → Nat) {r q : Nat} (h : ¬ r = q) (t i : Nat) {j : Nat} (hi : i ≤ 7) (hj : j < 7) : sbC c r t q i (7 * r + j) = c (7 * r + j) := by simp only [sbC]; rw [if_neg (by omega)]
theorem sbC_s (c : Nat → Nat) {r t q i : Nat} : row 42 (upd (nf (sbC c r t q i)) (7 * q + i) (nI ((c (7 * q + i) + (257 - t) * c (7 * r + i)) % 257))) = row 42 (nf (sbC c r t q (i + 1))) := row_congr fun x _ => by
  simp only [upd, nf, sbC]
  by_cases e1 : x = 7 * q + i
  · rw [if_pos e1, if_pos (by omega), e1, Nat.add_sub_cancel_left]
  · rw [if_neg e1]
    by_cases e3 : 7 * q ≤ x ∧ x < 7 * q + i
    · rw [if_pos e3, if_pos (by omega)]
    · rw [if_neg e3, if_neg (by omega)]
def lt257 (c : Nat → Nat) : Prop := ∀ x, c x < 257
theorem lt_swC {c : Nat → Nat} (h : lt257 c) (p q i : Nat) : lt257 (swC c p q i) := fun x => by simp only [swC]; split; exact h _; split; exact h _; exact h _
theorem lt_scC {c : Nat → Nat} (h : lt257 c) (r v i : Nat) : lt257 (scC c r v i) := fun x => by simp only [scC]; split; exact Nat.mod_lt _ (by decide); exact h _
theorem lt_sbC {c : Nat → Nat} (h : lt257 c) (r t q i : Nat) : lt257 (sbC c r t q i) := fun x => by simp only [sbC]; split; exact Nat.mod_lt _ (by decide); exact h _

set_option maxRecDepth 100000 in
set_option maxHeartbeats 4000000 in
theorem lpX1_swapRows (l : Launch) (g : XG) (c : Nat → Nat) (p q : Nat) (z : Int32) (hp2 : p < 6) (hq2 : q < 6) : XA l g MX1_swapRows (Qv (fun w1 => w1 = [.inr (.inr (1, [.ref 1, .int (z)])), .inl (row 42 (nf (swC c p q 7)))])) 2 ((fun i => [some (.ref 0), some (.int (nI p)), some (.int (nI q)), some (.int (nI i)), none]) 0) ((fun _ => []) 0) ((fun i => [.inr (.inr (1, [.ref 1, .int (z)])), .inl (row 42 (nf (swC c p q i)))]) 0) 0 0 := by
  refine x_for 7 (fun _ => True) (fun i => [some (.ref 0), some (.int (nI p)), some (.int (nI q)), some (.int (nI i)), none]) (fun _ => []) (fun i => [.inr (.inr (1, [.ref 1, .int (z)])), .inl (row 42 (nf (swC c p q i)))]) trivial (fun i hi hp ih => ?_) (fun hp => ?_)
  · refine x_iload_n dX1_swapRows_2 rfl ?_
    refine x_bipush (v := 7) dX1_swapRows_3 (by decide) ?_
    refine x_icmp_ge_f (tgt := 62) dX1_swapRows_5 (by decide) (nI_nle_of rfl (by decide) hi) ?_
    refine x_aload_n dX1_swapRows_8 rfl ?_
    refine x_getf dX1_swapRows_9 flX1_11 rfl rfl ?_
    refine x_iload_n dX1_swapRows_12 rfl ?_
    refine x_bipush (v := 7) dX1_swapRows_13 (by decide) ?_
    refine x_imul dX1_swapRows_15 ?_
    refine x_iload_n dX1_swapRows_16 rfl ?_
    refine x_iadd dX1_swapRows_17 ?_
    refine x_iar dX1_swapRows_18 rfl (ix7 (by omega)) ?_
    refine x_istore dX1_swapRows_19 (by decide) ?_
    refine x_aload_n dX1_swapRows_21 rfl ?_
    refine x_getf dX1_swapRows_22 flX1_11 rfl rfl ?_
    refine x_iload_n dX1_swapRows_25 rfl ?_
    refine x_bipush (v := 7) dX1_swapRows_26 (by decide) ?_
    refine x_imul dX1_swapRows_28 ?_
    refine x_iload_n dX1_swapRows_29 rfl ?_
    refine x_iadd dX1_swapRows_30 ?_
    refine x_aload_n dX1_swapRows_31 rfl ?_
    refine x_getf dX1_swapRows_32 flX1_11 rfl rfl ?_
    refine x_iload_n dX1_swapRows_35 rfl ?_
    refine x_bipush (v := 7) dX1_swapRows_36 (by decide) ?_
    refine x_imul dX1_swapRows_38 ?_
    refine x_iload_n dX1_swapRows_39 rfl ?_
    refine x_iadd dX1_swapRows_40 ?_
    refine x_iar dX1_swapRows_41 rfl (ix7 (by omega)) ?_
    refine x_iaw dX1_swapRows_42 rfl (ix7 (by omega)) ?_
    refine x_aload_n dX1_swapRows_43 rfl ?_
    refine x_getf dX1_swapRows_44 flX1_11 rfl rfl ?_
    refine x_iload_n dX1_swapRows_47 rfl ?_
    refine x_bipush (v := 7) dX1_swapRows_48 (by decide) ?_
    refine x_imul dX1_swapRows_50 ?_
    refine x_iload_n dX1_swapRows_51 rfl ?_
    refine x_iadd dX1_swapRows_52 ?_
    refine x_iload dX1_swapRows_53 rfl ?_
    refine x_iaw dX1_swapRows_55 rfl (ix7 (by omega)) ?_
    first | refine x_iinc dX1_swapRows_56 (by decide) rfl (nI_inc _) ?_ | refine x_iinc dX1_swapRows_56 (by decide) rfl (inc_1 _) ?_
    refine x_goto (tgt := 2) dX1_swapRows_59 (by decide) ?_
    refine x_le (lv' := [some (.ref 0), some (.int (nI p)), some (.int (nI q)), some (.int (nI (i + 1))), none]) (x_eq (ih trivial) rfl rfl ?_) (by simp [lvle])
    exact congrArg (fun zz => [(Sum.inr (Sum.inr (1, [.ref 1, .int (z)])) : XC), Sum.inl zz]) (swC_s c hi)
  · refine x_iload_n dX1_swapRows_2 rfl ?_
    refine x_bipush (v := 7) dX1_swapRows_3 (by decide) ?_
    refine x_icmp_ge_t (tgt := 62) dX1_swapRows_5 (by decide) (nI_le_of rfl (by decide) (Nat.le_refl _)) ?_
    exact x_retv dX1_swapRows_62 rfl rfl rfl (⟨rfl, rfl⟩)

set_option maxRecDepth 100000 in
set_option maxHeartbeats 4000000 in
theorem kX1_swapRows (l : Launch) (g : XG) (c : Nat → Nat) (p q : Nat) (z : Int32) (hp2 : p < 6) (hq2 : q < 6) : Ct l g MX1_swapRows [.ref 0, .int (nI p), .int (nI q)] ([.inr (.inr (1, [.ref 1, .int (z)])), .inl (row 42 (nf c))]) (Qv (fun w1 => w1 = [.inr (.inr (1, [.ref 1, .int (z)])), .inl (row 42 (nf (swC c p q 7)))])) := by
  refine Ct_of (by decide) (by simp [Value.category]) (Nat.le_of_ble_eq_true rfl) ?_
  refine x_iconst (v := 0) dX1_swapRows_0 (by decide) ?_
  refine x_istore_n dX1_swapRows_1 (by decide) ?_
  refine x_eq (lpX1_swapRows l g c p q z hp2 hq2) rfl rfl ?_
  exact congrArg (fun zz => [(Sum.inr (Sum.inr (1, [.ref 1, .int (z)])) : XC), Sum.inl zz]) (swC_0 c p q)

set_option maxRecDepth 100000 in
set_option maxHeartbeats 4000000 in
theorem lpX1_scaleRow (l : Launch) (g : XG) (c : Nat → Nat) (r v k : Nat) (hr : r < 6) (hk : k ≤ 6) (hv : v < 257) (hc : lt257 c) : XA l g MX1_scaleRow (Qv (fun w1 => w1 = [.inr (.inr (1, [.ref 1, .int (nI k)])), .inl (row 42 (nf (scC c r v (k + 1))))])) 2 ((fun i => [some (.ref 0), some (.int (nI r)), some (.int (nI v)), some (.int (nI (i))), none]) 0) ((fun _ => []) 0) ((fun i => [.inr (.inr (1, [.ref 1, .int (nI k)])), .inl (row 42 (nf (scC c r v i)))]) 0) 0 0 := by
  refine x_for (k + 1) (fun _ => True) (fun i => [some (.ref 0), some (.int (nI r)), some (.int (nI v)), some (.int (nI (i))), none]) (fun _ => []) (fun i => [.inr (.inr (1, [.ref 1, .int (nI k)])), .inl (row 42 (nf (scC c r v i)))]) trivial (fun i hi hp ih => ?_) (fun hp => ?_)
  · refine x_iload_n dX1_scaleRow_2 rfl ?_
    refine x_aload_n dX1_scaleRow_3 rfl ?_
    refine x_getf dX1_scaleRow_4 flX1_19 rfl rfl ?_
    refine x_icmp_gt_f (tgt := 44) dX1_scaleRow_7 (by decide) (show ¬ nI k < nI i from by rw [nI_ltc (by omega) (by omega)]; omega) ?_
    refine x_iload_n dX1_scaleRow_10 rfl ?_
    refine x_bipush (v := 7) dX1_scaleRow_11 (by decide) ?_
    refine x_imul dX1_scaleRow_13 ?_
    refine x_iload_n dX1_scaleRow_14 rfl ?_
    refine x_iadd dX1_scaleRow_15 ?_
    refine x_istore dX1_scaleRow_16 (by decide) ?_
    refine x_aload_n dX1_scaleRow_18 rfl ?_
    refine x_getf dX1_scaleRow_19 flX1_11 rfl rfl ?_
    refine x_iload dX1_scaleRow_22 rfl ?_
    refine x_aload_n dX1_scaleRow_24 rfl ?_
    refine x_getf dX1_scaleRow_25 flX1_11 rfl rfl ?_
    refine x_iload dX1_scaleRow_28 rfl ?_
    refine x_iar dX1_scaleRow_30 rfl (ix7 (by omega)) ?_
    rw [show nf (scC c r v i) (7 * r + i) = nI (c (7 * r + i)) from congrArg nI (scC_at c r v i)]
    refine x_iload_n dX1_scaleRow_31 rfl ?_
    refine x_imul dX1_scaleRow_32 ?_
    refine x_sipush (v := 257) dX1_scaleRow_33 (by decide) ?_
    refine x_irem dX1_scaleRow_36 (by decide) ?_
    rw [mul257 (hc _) hv]
    refine x_iaw dX1_scaleRow_37 rfl (ix7 (by omega)) ?_
    first | refine x_iinc dX1_scaleRow_38 (by decide) rfl (nI_inc _) ?_ | refine x_iinc dX1_scaleRow_38 (by decide) rfl (inc_1 _) ?_
    refine x_goto (tgt := 2) dX1_scaleRow_41 (by decide) ?_
    refine x_le (lv' := [some (.ref 0), some (.int (nI r)), some (.int (nI v)), some (.int (nI (i + 1))), none]) (x_eq (ih trivial) rfl rfl ?_) (by simp [lvle])
    exact congrArg (fun zz => [(Sum.inr (Sum.inr (1, [.ref 1, .int (nI k)])) : XC), Sum.inl zz]) (scC_s c)
  · refine x_iload_n dX1_scaleRow_2 rfl ?_
    refine x_aload_n dX1_scaleRow_3 rfl ?_
    refine x_getf dX1_scaleRow_4 flX1_19 rfl rfl ?_
    refine x_icmp_gt_t (tgt := 44) dX1_scaleRow_7 (by decide) (show nI k < nI (k + 1) from by rw [nI_ltc (by omega) (by omega)]; omega) ?_
    exact x_retv dX1_scaleRow_44 rfl rfl rfl (⟨rfl, rfl⟩)

set_option maxRecDepth 100000 in
set_option maxHeartbeats 4000000 in
theorem kX1_scaleRow (l : Launch) (g : XG) (c : Nat → Nat) (r v k : Nat) (hr : r < 6) (hk : k ≤ 6) (hv : v < 257) (hc : lt257 c) : Ct l g MX1_scaleRow [.ref 0, .int (nI r), .int (nI v)] ([.inr (.inr (1, [.ref 1, .int (nI k)])), .inl (row 42 (nf c))]) (Qv (fun w1 => w1 = [.inr (.inr (1, [.ref 1, .int (nI k)])), .inl (row 42 (nf (scC c r v (k + 1))))])) := by
  refine Ct_of (by decide) (by simp [Value.category]) (Nat.le_of_ble_eq_true rfl) ?_
  refine x_iconst (v := 0) dX1_scaleRow_0 (by decide) ?_
  refine x_istore_n dX1_scaleRow_1 (by decide) ?_
  refine x_eq (lpX1_scaleRow l g c r v k hr hk hv hc) rfl rfl ?_
  exact congrArg (fun zz => [(Sum.inr (Sum.inr (1, [.ref 1, .int (nI k)])) : XC), Sum.inl zz]) (scC_0 c r v)

set_option maxRecDepth 100000 in
set_option maxHeartbeats 4000000 in
theorem lpX1_subtractRow (l : Launch) (g : XG) (c : Nat → Nat) (r t q k : Nat) (hr : r < 6) (hq2 : q < 6) (hrq : ¬ r = q) (hk : k ≤ 6) (ht : t < 257) (hc : lt257 c) : XA l g MX1_subtractRow (Qv (fun w1 => w1 = [.inr (.inr (1, [.ref 1, .int (nI k)])), .inl (row 42 (nf (sbC c r t q (k + 1))))])) 3 ((fun i => [some (.ref 0), some (.int (nI r)), some (.int (nI t)), some (.int (nI q)), some (.int (nI (i))), none]) 0) ((fun _ => []) 0) ((fun i => [.inr (.inr (1, [.ref 1, .int (nI k)])), .inl (row 42 (nf (sbC c r t q i)))]) 0) 0 0 := by
  refine x_for (k + 1) (fun _ => True) (fun i => [some (.ref 0), some (.int (nI r)), some (.int (nI t)), some (.int (nI q)), some (.int (nI (i))), none]) (fun _ => []) (fun i => [.inr (.inr (1, [.ref 1, .int (nI k)])), .inl (row 42 (nf (sbC c r t q i)))]) trivial (fun i hi hp ih => ?_) (fun hp => ?_)
  · refine x_iload dX1_subtractRow_3 rfl ?_
    refine x_aload_n dX1_subtractRow_5 rfl ?_
    refine x_getf dX1_subtractRow_6 flX1_19 rfl rfl ?_
    refine x_icmp_gt_f (tgt := 64) dX1_subtractRow_9 (by decide) (show ¬ nI k < nI i from by rw [nI_ltc (by omega) (by omega)]; omega) ?_
    refine x_iload_n dX1_subtractRow_12 rfl ?_
    refine x_bipush (v := 7) dX1_subtractRow_13 (by decide) ?_
    refine x_imul dX1_subtractRow_15 ?_
    refine x_iload dX1_subtractRow_16 rfl ?_
    refine x_iadd dX1_subtractRow_18 ?_
    refine x_istore dX1_subtractRow_19 (by decide) ?_
    refine x_aload_n dX1_subtractRow_21 rfl ?_
    refine x_getf dX1_subtractRow_22 flX1_11 rfl rfl ?_
    refine x_iload dX1_subtractRow_25 rfl ?_
    refine x_aload_n dX1_subtractRow_27 rfl ?_
    refine x_getf dX1_subtractRow_28 flX1_11 rfl rfl ?_
    refine x_iload dX1_subtractRow_31 rfl ?_
    refine x_iar dX1_subtractRow_33 rfl (ix7 (by omega)) ?_
    rw [show nf (sbC c r t q i) (7 * q + i) = nI (c (7 * q + i)) from congrArg nI (sbC_at c r t q i)]
    refine x_sipush (v := 257) dX1_subtractRow_34 (by decide) ?_
    refine x_iload_n dX1_subtractRow_37 rfl ?_
    refine x_isub dX1_subtractRow_38 ?_
    refine x_aload_n dX1_subtractRow_39 rfl ?_
    refine x_getf dX1_subtractRow_40 flX1_11 rfl rfl ?_
    refine x_iload_n dX1_subtractRow_43 rfl ?_
    refine x_bipush (v := 7) dX1_subtractRow_44 (by decide) ?_
    refine x_imul dX1_subtractRow_46 ?_
    refine x_iload dX1_subtractRow_47 rfl ?_
    refine x_iadd dX1_subtractRow_49 ?_
    refine x_iar dX1_subtractRow_50 rfl (ix7 (by omega)) ?_
    rw [show nf (sbC c r t q i) (7 * r + i) = nI (c (7 * r + i)) from congrArg nI (sbC_r c hrq t i (by omega) (by omega))]
    refine x_imul dX1_subtractRow_51 ?_
    refine x_iadd dX1_subtractRow_52 ?_
    refine x_sipush (v := 257) dX1_subtractRow_53 (by decide) ?_
    refine x_irem dX1_subtractRow_56 (by decide) ?_
    rw [e257 (hc _) ht (hc _)]
    refine x_iaw dX1_subtractRow_57 rfl (ix7 (by omega)) ?_
    first | refine x_iinc dX1_subtractRow_58 (by decide) rfl (nI_inc _) ?_ | refine x_iinc dX1_subtractRow_58 (by decide) rfl (inc_1 _) ?_
    refine x_goto (tgt := 3) dX1_subtractRow_61 (by decide) ?_
    refine x_le (lv' := [some (.ref 0), some (.int (nI r)), some (.int (nI t)), some (.int (nI q)), some (.int (nI (i + 1))), none]) (x_eq (ih trivial) rfl rfl ?_) (by simp [lvle])
    exact congrArg (fun zz => [(Sum.inr (Sum.inr (1, [.ref 1, .int (nI k)])) : XC), Sum.inl zz]) (sbC_s c)
  · refine x_iload dX1_subtractRow_3 rfl ?_
    refine x_aload_n dX1_subtractRow_5 rfl ?_
    refine x_getf dX1_subtractRow_6 flX1_19 rfl rfl ?_
    refine x_icmp_gt_t (tgt := 64) dX1_subtractRow_9 (by decide) (show nI k < nI (k + 1) from by rw [nI_ltc (by omega) (by omega)]; omega) ?_
    exact x_retv dX1_subtractRow_64 rfl rfl rfl (⟨rfl, rfl⟩)

set_option maxRecDepth 100000 in
set_option maxHeartbeats 4000000 in
theorem kX1_subtractRow (l : Launch) (g : XG) (c : Nat → Nat) (r t q k : Nat) (hr : r < 6) (hq2 : q < 6) (hrq : ¬ r = q) (hk : k ≤ 6) (ht : t < 257) (hc : lt257 c) : Ct l g MX1_subtractRow [.ref 0, .int (nI r), .int (nI t), .int (nI q)] ([.inr (.inr (1, [.ref 1, .int (nI k)])), .inl (row 42 (nf c))]) (Qv (fun w1 => w1 = [.inr (.inr (1, [.ref 1, .int (nI k)])), .inl (row 42 (nf (sbC c r t q (k + 1))))])) := by
  refine Ct_of (by decide) (by simp [Value.category]) (Nat.le_of_ble_eq_true rfl) ?_
  refine x_iconst (v := 0) dX1_subtractRow_0 (by decide) ?_
  refine x_istore dX1_subtractRow_1 (by decide) ?_
  refine x_eq (lpX1_subtractRow l g c r t q k hr hq2 hrq hk ht hc) rfl rfl ?_
  exact congrArg (fun zz => [(Sum.inr (Sum.inr (1, [.ref 1, .int (nI k)])) : XC), Sum.inl zz]) (sbC_0 c r t q)
