/-! ===== the decoder: elimination ===== -/
def pvC (c : Nat → Nat) (k col : Nat) : Nat := fsN (fun r => decide (c (7 * r + col) = 0)) col (k - col)
def rwC (T : Nat → Nat) (k col : Nat) : Nat → (Nat → Nat)
  | 0 => T
  | i + 1 => if i = col then rwC T k col i else sbC (rwC T k col i) col (rwC T k col i (7 * i + col)) i (k + 1)
theorem lt_rwC {T : Nat → Nat} (h : lt257 T) (k col : Nat) : ∀ i, lt257 (rwC T k col i)
  | 0 => h
  | i + 1 => by
    rw [rwC]; split
    · exact lt_rwC h k col i
    · exact lt_sbC (lt_rwC h k col i) _ _ _ _
def inC (c : Nat → Nat) (col : Nat) : Nat := c (7 * col + col) ^ 255 % 257
def elC (c : Nat → Nat) (k col : Nat) : Nat → Nat := rwC (scC (swC c (pvC c k col) col 7) col (inC (swC c (pvC c k col) col 7) col) (k + 1)) k col k
theorem lt_elC {c : Nat → Nat} (h : lt257 c) (k col : Nat) : lt257 (elC c k col) := lt_rwC (lt_scC (lt_swC h _ _ _) _ _ _) _ _ _
def elI (c : Nat → Nat) (k : Nat) : Nat → (Nat → Nat)
  | 0 => c
  | i + 1 => elC (elI c k i) k i
theorem lt_elI {c : Nat → Nat} (h : lt257 c) (k : Nat) : ∀ i, lt257 (elI c k i)
  | 0 => h
  | i + 1 => lt_elC (lt_elI h k i) k i

theorem nI_inj' {a b : Nat} (h : nI a = nI b) (ha : a < 2 ^ 31) (hb : b < 2 ^ 31) : a = b := by
  have := congrArg cl h
  rwa [cl_nI ha, cl_nI hb] at this
theorem nI_n0 {a : Nat} (ha : a < 2 ^ 31) (h : ¬ a = 0) : ¬ nI a = 0 := fun z => h ((nI_is0 ha).mp z)

set_option maxRecDepth 100000 in
set_option maxHeartbeats 4000000 in
theorem lqX1_eliminate (l : Launch) (g : XG) (c : Nat → Nat) (k col p : Nat) (hcol : col < k) (hk : k ≤ 6) (hc : lt257 c) : XA l g MX1_eliminate (Qv (fun w1 => w1 = [.inr (.inr (1, [.ref 1, .int (nI k)])), .inl (row 42 (nf (rwC c k col k)))])) 69 ((fun i => [some (.ref 0), some (.int (nI col)), some (.int (nI p)), some (.int (nI (i)))]) 0) ((fun _ => []) 0) ((fun i => [.inr (.inr (1, [.ref 1, .int (nI k)])), .inl (row 42 (nf (rwC c k col i)))]) 0) 0 0 := by
  refine x_for k (fun _ => True) (fun i => [some (.ref 0), some (.int (nI col)), some (.int (nI p)), some (.int (nI (i)))]) (fun _ => []) (fun i => [.inr (.inr (1, [.ref 1, .int (nI k)])), .inl (row 42 (nf (rwC c k col i)))]) trivial (fun i hi hp ih => ?_) (fun hp => ?_)
  · refine x_iload_n dX1_eliminate_69 rfl ?_
    refine x_aload_n dX1_eliminate_70 rfl ?_
    refine x_getf dX1_eliminate_71 flX1_19 rfl rfl ?_
    refine x_icmp_ge_f (tgt := 105) dX1_eliminate_74 (by decide) (nI_ge hi (by omega)) ?_
    refine x_iload_n dX1_eliminate_77 rfl ?_
    refine x_iload_n dX1_eliminate_78 rfl ?_
    refine x_icmp_eq (tgt := 99) dX1_eliminate_79 (by decide) (fun c_79 => ?_) (fun c_79 => ?_)
    · first | refine x_iinc dX1_eliminate_99 (by decide) rfl (nI_inc _) ?_ | refine x_iinc dX1_eliminate_99 (by decide) rfl (inc_1 _) ?_
      refine x_goto (tgt := 69) dX1_eliminate_102 (by decide) ?_
      have e0 : i = col := nI_inj' c_79 (by omega) (by omega)
      refine x_eq (ih trivial) rfl rfl ?_
      rw [show rwC c k col (i + 1) = rwC c k col i by rw [rwC, if_pos e0]]
    · refine x_aload_n dX1_eliminate_82 rfl ?_
      refine x_iload_n dX1_eliminate_83 rfl ?_
      refine x_aload_n dX1_eliminate_84 rfl ?_
      refine x_getf dX1_eliminate_85 flX1_11 rfl rfl ?_
      refine x_iload_n dX1_eliminate_88 rfl ?_
      refine x_bipush (v := 7) dX1_eliminate_89 (by decide) ?_
      refine x_imul dX1_eliminate_91 ?_
      refine x_iload_n dX1_eliminate_92 rfl ?_
      refine x_iadd dX1_eliminate_93 ?_
      refine x_iar dX1_eliminate_94 rfl (ix7 (by omega)) ?_
      refine x_iload_n dX1_eliminate_95 rfl ?_
      refine x_callv [0, 1] (x_iV dX1_eliminate_96 mlX1_58 lbX1_subtractRow rfl rfl rfl rfl) (kX1_subtractRow l g (rwC c k col i) col (rwC c k col i (7 * i + col)) i k (by omega) (by omega) (fun z => c_79 (by rw [z])) hk (lt_rwC hc k col i _) (lt_rwC hc k col i)) (by decide) (by decide) (by decide) (by simp [Value.category]) rfl rfl (by decide +kernel) (fun w1 h1 => ?_)
      obtain rfl := h1
      first | refine x_iinc dX1_eliminate_99 (by decide) rfl (nI_inc _) ?_ | refine x_iinc dX1_eliminate_99 (by decide) rfl (inc_1 _) ?_
      refine x_goto (tgt := 69) dX1_eliminate_102 (by decide) ?_
      have e0 : ¬ i = col := fun z => c_79 (by rw [z])
      refine x_eq (ih trivial) rfl rfl ?_
      rw [show rwC c k col (i + 1) = sbC (rwC c k col i) col (rwC c k col i (7 * i + col)) i (k + 1) by rw [rwC, if_neg e0]] <;> rfl
  · refine x_iload_n dX1_eliminate_69 rfl ?_
    refine x_aload_n dX1_eliminate_70 rfl ?_
    refine x_getf dX1_eliminate_71 flX1_19 rfl rfl ?_
    refine x_icmp_ge_t (tgt := 105) dX1_eliminate_74 (by decide) (nI_le (Nat.le_refl _) (by omega)) ?_
    exact x_retv dX1_eliminate_105 rfl rfl rfl (⟨rfl, rfl⟩)

set_option maxRecDepth 100000 in
set_option maxHeartbeats 4000000 in
theorem lpX1_eliminate (l : Launch) (g : XG) (c : Nat → Nat) (k col : Nat) (hcol : col < k) (hk : k ≤ 6) (hc : lt257 c) (hpv : pvC c k col < k) : XA l g MX1_eliminate (Qv (fun w1 => w1 = [.inr (.inr (1, [.ref 1, .int (nI k)])), .inl (row 42 (nf (elC c k col)))])) 2 ((fun i => [some (.ref 0), some (.int (nI col)), some (.int (nI (col + (i)))), none]) 0) ((fun _ => []) 0) ((fun _ => [.inr (.inr (1, [.ref 1, .int (nI k)])), .inl (row 42 (nf c))]) 0) 0 0 := by
  refine x_for (pvC c k col - col) (fun _ => True) (fun i => [some (.ref 0), some (.int (nI col)), some (.int (nI (col + (i)))), none]) (fun _ => []) (fun _ => [.inr (.inr (1, [.ref 1, .int (nI k)])), .inl (row 42 (nf c))]) trivial (fun i hi hp ih => ?_) (fun hp => ?_)
  · have hi2 : col + i < k := by have := hpv; omega
    have hz : c (7 * (col + i) + col) = 0 := of_decide_eq_true (fsN_lt (fun r => decide (c (7 * r + col) = 0)) (k - col) col (col + i) (by omega) (show col + i < pvC c k col by omega))
    refine x_iload_n dX1_eliminate_2 rfl ?_
    refine x_aload_n dX1_eliminate_3 rfl ?_
    refine x_getf dX1_eliminate_4 flX1_19 rfl rfl ?_
    refine x_icmp_ge_f (tgt := 30) dX1_eliminate_7 (by decide) (nI_ge hi2 (by omega)) ?_
    refine x_aload_n dX1_eliminate_10 rfl ?_
    refine x_getf dX1_eliminate_11 flX1_11 rfl rfl ?_
    refine x_iload_n dX1_eliminate_14 rfl ?_
    refine x_bipush (v := 7) dX1_eliminate_15 (by decide) ?_
    refine x_imul dX1_eliminate_17 ?_
    refine x_iload_n dX1_eliminate_18 rfl ?_
    refine x_iadd dX1_eliminate_19 ?_
    refine x_iar dX1_eliminate_20 rfl (ix7 (by omega)) ?_
    refine x_if_ne_f (tgt := 30) dX1_eliminate_21 (by decide) (show nI (c (7 * (col + i) + col)) = 0 from by rw [hz]; rfl) ?_
    first | refine x_iinc dX1_eliminate_24 (by decide) rfl (nI_inc _) ?_ | refine x_iinc dX1_eliminate_24 (by decide) rfl (inc_1 _) ?_
    refine x_goto (tgt := 2) dX1_eliminate_27 (by decide) ?_
    exact x_eq (ih trivial) rfl rfl rfl
  · have hge : col ≤ pvC c k col := (fsN_le (fun r => decide (c (7 * r + col) = 0)) (k - col) col).1
    have hz : ¬ c (7 * (pvC c k col) + col) = 0 := of_decide_eq_false (fsN_at (fun r => decide (c (7 * r + col) = 0)) (k - col) col (show pvC c k col < col + (k - col) by omega))
    rw [show col + (pvC c k col - col) = pvC c k col by omega]
    refine x_iload_n dX1_eliminate_2 rfl ?_
    refine x_aload_n dX1_eliminate_3 rfl ?_
    refine x_getf dX1_eliminate_4 flX1_19 rfl rfl ?_
    refine x_icmp_ge_f (tgt := 30) dX1_eliminate_7 (by decide) (nI_ge hpv (by omega)) ?_
    refine x_aload_n dX1_eliminate_10 rfl ?_
    refine x_getf dX1_eliminate_11 flX1_11 rfl rfl ?_
    refine x_iload_n dX1_eliminate_14 rfl ?_
    refine x_bipush (v := 7) dX1_eliminate_15 (by decide) ?_
    refine x_imul dX1_eliminate_17 ?_
    refine x_iload_n dX1_eliminate_18 rfl ?_
    refine x_iadd dX1_eliminate_19 ?_
    refine x_iar dX1_eliminate_20 rfl (ix7 (by omega)) ?_
    refine x_if_ne_t (tgt := 30) dX1_eliminate_21 (by decide) (show ¬ nI (c (7 * (pvC c k col) + col)) = 0 from nI_n0 (by have := hc (7 * (pvC c k col) + col); omega) hz) ?_
    refine x_iload_n dX1_eliminate_30 rfl ?_
    refine x_aload_n dX1_eliminate_31 rfl ?_
    refine x_getf dX1_eliminate_32 flX1_19 rfl rfl ?_
    refine x_icmp_lt_t (tgt := 39) dX1_eliminate_35 (by decide) (show nI _ < nI _ from by rw [nI_ltc (by omega) (by omega)]; omega) ?_
    refine x_aload_n dX1_eliminate_39 rfl ?_
    refine x_iload_n dX1_eliminate_40 rfl ?_
    refine x_iload_n dX1_eliminate_41 rfl ?_
    refine x_callv [0, 1] (x_iV dX1_eliminate_42 mlX1_51 lbX1_swapRows rfl rfl rfl rfl) (kX1_swapRows l g c (pvC c k col) col (nI k) (by omega) (by omega)) (by decide) (by decide) (by decide) (by simp [Value.category]) rfl rfl (by decide +kernel) (fun w1 h1 => ?_)
    obtain rfl := h1
    refine x_aload_n dX1_eliminate_45 rfl ?_
    refine x_iload_n dX1_eliminate_46 rfl ?_
    refine x_aload_n dX1_eliminate_47 rfl ?_
    refine x_getf dX1_eliminate_48 flX1_11 rfl rfl ?_
    refine x_iload_n dX1_eliminate_51 rfl ?_
    refine x_bipush (v := 7) dX1_eliminate_52 (by decide) ?_
    refine x_imul dX1_eliminate_54 ?_
    refine x_iload_n dX1_eliminate_55 rfl ?_
    refine x_iadd dX1_eliminate_56 ?_
    refine x_iar dX1_eliminate_57 rfl (ix7 (by omega)) ?_
    refine x_sipush (v := 255) dX1_eliminate_58 (by decide) ?_
    refine x_callp [] (x_iSN dX1_eliminate_61 mlX1_48 lbX6_power rfl) (kX6_power l g (swC c (pvC c k col) col 7 (7 * col + col)) 255 (lt_swC hc _ _ _ _) (by decide)) (by decide) rfl rfl (by decide) (by decide) (by simp [Value.category]) rfl rfl (by decide +kernel) ?_
    refine x_callv [0, 1] (x_iV dX1_eliminate_64 mlX1_55 lbX1_scaleRow rfl rfl rfl rfl) (kX1_scaleRow l g (swC c (pvC c k col) col 7) col (inC (swC c (pvC c k col) col 7) col) k (by omega) hk (Nat.mod_lt _ (by decide)) (lt_swC hc _ _ _)) (by decide) (by decide) (by decide) (by simp [Value.category]) rfl rfl (by decide +kernel) (fun w1 h1 => ?_)
    obtain rfl := h1
    refine x_iconst (v := 0) dX1_eliminate_67 (by decide) ?_
    refine x_istore_n dX1_eliminate_68 (by decide) ?_
    exact lqX1_eliminate l g (scC (swC c (pvC c k col) col 7) col (inC (swC c (pvC c k col) col 7) col) (k + 1)) k col (pvC c k col) hcol hk (lt_scC (lt_swC hc _ _ _) _ _ _)

set_option maxRecDepth 100000 in
set_option maxHeartbeats 4000000 in
theorem kX1_eliminate (l : Launch) (g : XG) (c : Nat → Nat) (k col : Nat) (hcol : col < k) (hk : k ≤ 6) (hc : lt257 c) (hpv : pvC c k col < k) : Ct l g MX1_eliminate [.ref 0, .int (nI col)] ([.inr (.inr (1, [.ref 1, .int (nI k)])), .inl (row 42 (nf c))]) (Qv (fun w1 => w1 = [.inr (.inr (1, [.ref 1, .int (nI k)])), .inl (row 42 (nf (elC c k col)))])) := by
  refine Ct_of (by decide) (by simp [Value.category]) (Nat.le_of_ble_eq_true rfl) ?_
  refine x_iload_n dX1_eliminate_0 rfl ?_
  refine x_istore_n dX1_eliminate_1 (by decide) ?_
  exact lpX1_eliminate l g c k col hcol hk hc hpv

def facN (k i j : Nat) : Nat := if i < k then (if i = j then 1 else 0) else (j + 1) ^ (i - k) % 257
theorem facN_lt (k i j : Nat) : facN k i j < 257 := by
  rw [facN]; split
  · split <;> decide
  · exact Nat.mod_lt _ (by decide)

set_option maxRecDepth 100000 in
set_option maxHeartbeats 4000000 in
theorem kX1_factor (l : Launch) (g : XG) (i j k : Nat) (hi : i < 10) (hj : j < 6) (hk : k ≤ 6) : Ct l g MX1_factor [.int (nI i), .int (nI j), .int (nI k)] ([]) (Qp (nI (facN k i j)) []) := by
  refine Ct_of (by decide) (by simp [Value.category]) (Nat.le_of_ble_eq_true rfl) ?_
  refine x_iload_n dX1_factor_0 rfl ?_
  refine x_iload_n dX1_factor_1 rfl ?_
  refine x_icmp_ge (tgt := 16) dX1_factor_2 (by decide) (fun c_2 => ?_) (fun c_2 => ?_)
  · refine x_iload_n dX1_factor_16 rfl ?_
    refine x_iconst (v := 1) dX1_factor_17 (by decide) ?_
    refine x_iadd dX1_factor_18 ?_
    rw [nI_1]
    refine x_iload_n dX1_factor_19 rfl ?_
    refine x_iload_n dX1_factor_20 rfl ?_
    refine x_isub dX1_factor_21 ?_
    rw [pk_sub (Nat.not_lt.mp fun z => nI_ge z (by omega) c_2)]
    refine x_callp [] (x_iSN dX1_factor_22 mlX1_48 lbX6_power rfl) (kX6_power l g (j + 1) (i - k) (by omega) (by omega)) (by decide) rfl rfl (by decide) (by decide) (by simp [Value.category]) rfl rfl (by decide +kernel) ?_
    exact x_reti dX1_factor_25 rfl rfl rfl (⟨by rw [facN, if_neg (fun z => nI_ge z (by omega) c_2)], rfl⟩)
  · refine x_iload_n dX1_factor_5 rfl ?_
    refine x_iload_n dX1_factor_6 rfl ?_
    refine x_icmp_ne (tgt := 14) dX1_factor_7 (by decide) (fun c_7 => ?_) (fun c_7 => ?_)
    · refine x_iconst (v := 0) dX1_factor_14 (by decide) ?_
      exact x_reti dX1_factor_15 rfl rfl rfl (⟨by have h1 : i < k := Nat.not_le.mp fun z => c_2 (nI_le z (by omega)); rw [facN, if_pos h1]; first | (rw [if_pos (nI_inj' c_7 (by omega) (by omega))] <;> rfl) | (rw [if_neg (fun z => c_7 (by rw [z]))] <;> rfl), rfl⟩)
    · refine x_iconst (v := 1) dX1_factor_10 (by decide) ?_
      refine x_goto (tgt := 15) dX1_factor_11 (by decide) ?_
      exact x_reti dX1_factor_15 rfl rfl rfl (⟨by have h1 : i < k := Nat.not_le.mp fun z => c_2 (nI_le z (by omega)); rw [facN, if_pos h1]; first | (rw [if_pos (nI_inj' c_7 (by omega) (by omega))] <;> rfl) | (rw [if_neg (fun z => c_7 (by rw [z]))] <;> rfl), rfl⟩)
