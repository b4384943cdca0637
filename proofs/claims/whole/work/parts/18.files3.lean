theorem rem257 {a : Nat} (h : a < 2 ^ 31) : nI a - nI a / 257 * 257 = nI (a % 257) := pk_rem (d := 257) h (by decide) (by decide)
theorem sh31 : ∀ i : Fin 32, ((nI i.val &&& 31).toBitVec.smod 32).toNat = i.val := by decide
theorem shr_nI {e i : Nat} (he : e < 2 ^ 31) (hi : i < 32) : nI e >>> (nI i &&& 31) = nI (e / 2 ^ i) := pk_shrN he _ i (sh31 ⟨i, hi⟩)
theorem and1_nI {n : Nat} (h : n < 2 ^ 32) : nI n &&& 1 = nI (n % 2) := pk_andN h 1 (by decide)
theorem shr_bit {e i : Nat} (he : e < 2 ^ 31) (hi : i < 32) : (nI e >>> (nI i &&& 31)) &&& 1 = nI (e / 2 ^ i % 2) := by
  rw [shr_nI he hi, and1_nI (by have := Nat.div_le_self e (2 ^ i); omega)]
theorem nI_is1 {n : Nat} (h : n < 2 ^ 31) : nI n = 1 ↔ n = 1 := nI_eq h (by decide)
theorem mul257 {a b : Nat} (ha : a < 257) (hb : b < 257) : nI a * nI b - nI a * nI b / 257 * 257 = nI (a * b % 257) := by
  rw [pk_mul]
  refine rem257 ?_
  have : a * b ≤ 256 * 256 := Nat.mul_le_mul (by omega) (by omega)
  omega
theorem mod_bit1 {e i : Nat} (h : e / 2 ^ i % 2 = 1) : e % 2 ^ (i + 1) = e % 2 ^ i + 2 ^ i := by rw [Nat.pow_succ, Nat.mod_mul, h]; omega
theorem mod_bit0 {e i : Nat} (h : ¬ e / 2 ^ i % 2 = 1) : e % 2 ^ (i + 1) = e % 2 ^ i := by
  have : e / 2 ^ i % 2 = 0 := by omega
  rw [Nat.pow_succ, Nat.mod_mul, this]; omega

set_option maxRecDepth 100000 in
set_option maxHeartbeats 4000000 in
theorem lpX6_power (l : Launch) (g : XG) (b e : Nat) (hb : b < 257) (he : e < 256) : XA l g MX6_power (Qp (nI (b ^ e % 257)) []) 7 ((fun i => [some (.int (nI b)), some (.int (nI e)), some (.int (nI (b ^ (e % 2 ^ i) % 257))), some (.int (nI (b ^ (2 ^ i) % 257))), some (.int (nI i))]) 0) ((fun _ => []) 0) ((fun _ => []) 0) 0 0 := by
  refine x_for 8 (fun _ => True) (fun i => [some (.int (nI b)), some (.int (nI e)), some (.int (nI (b ^ (e % 2 ^ i) % 257))), some (.int (nI (b ^ (2 ^ i) % 257))), some (.int (nI i))]) (fun _ => []) (fun _ => []) trivial (fun i hi hp ih => ?_) (fun hp => ?_)
  · refine x_iload dX6_power_7 rfl ?_
    refine x_bipush (v := 8) dX6_power_9 (by decide) ?_
    refine x_icmp_ge_f (tgt := 46) dX6_power_11 (by decide) (nI_nle_of rfl (by decide) hi) ?_
    refine x_iload_n dX6_power_14 rfl ?_
    refine x_iload dX6_power_15 rfl ?_
    refine x_ishr dX6_power_17 ?_
    refine x_iconst (v := 1) dX6_power_18 (by decide) ?_
    refine x_iand dX6_power_19 ?_
    refine x_iconst (v := 1) dX6_power_20 (by decide) ?_
    rw [shr_bit (by omega) (by omega)]
    refine x_icmp_ne (tgt := 32) dX6_power_21 (by decide) (fun c_21 => ?_) (fun c_21 => ?_)
    · refine x_iload_n dX6_power_32 rfl ?_
      refine x_iload_n dX6_power_33 rfl ?_
      refine x_imul dX6_power_34 ?_
      refine x_sipush (v := 257) dX6_power_35 (by decide) ?_
      refine x_irem dX6_power_38 (by decide) ?_
      rw [mul257 (Nat.mod_lt _ (by decide)) (Nat.mod_lt _ (by decide))]
      refine x_istore_n dX6_power_39 (by decide) ?_
      first | refine x_iinc dX6_power_40 (by decide) rfl (nI_inc _) ?_ | refine x_iinc dX6_power_40 (by decide) rfl (inc_1 _) ?_
      refine x_goto (tgt := 7) dX6_power_43 (by decide) ?_
      refine x_eq (ih trivial) ?_ rfl rfl
      rw [nI_is1 (by omega)] at c_21
      first | rw [mod_bit1 c_21] | rw [mod_bit0 c_21]
      simp only [Nat.pow_add, Nat.pow_succ, Nat.mul_mod, Nat.mod_mod, Nat.pow_mul, Nat.pow_two, Nat.pow_one, Nat.pow_zero, Nat.one_mul, Nat.mul_two]
      rfl
    · refine x_iload_n dX6_power_24 rfl ?_
      refine x_iload_n dX6_power_25 rfl ?_
      refine x_imul dX6_power_26 ?_
      refine x_sipush (v := 257) dX6_power_27 (by decide) ?_
      refine x_irem dX6_power_30 (by decide) ?_
      rw [mul257 (Nat.mod_lt _ (by decide)) (Nat.mod_lt _ (by decide))]
      refine x_istore_n dX6_power_31 (by decide) ?_
      refine x_iload_n dX6_power_32 rfl ?_
      refine x_iload_n dX6_power_33 rfl ?_
      refine x_imul dX6_power_34 ?_
      refine x_sipush (v := 257) dX6_power_35 (by decide) ?_
      refine x_irem dX6_power_38 (by decide) ?_
      rw [mul257 (Nat.mod_lt _ (by decide)) (Nat.mod_lt _ (by decide))]
      refine x_istore_n dX6_power_39 (by decide) ?_
      first | refine x_iinc dX6_power_40 (by decide) rfl (nI_inc _) ?_ | refine x_iinc dX6_power_40 (by decide) rfl (inc_1 _) ?_
      refine x_goto (tgt := 7) dX6_power_43 (by decide) ?_
      refine x_eq (ih trivial) ?_ rfl rfl
      rw [nI_is1 (by omega)] at c_21
      first | rw [mod_bit1 c_21] | rw [mod_bit0 c_21]
      simp only [Nat.pow_add, Nat.pow_succ, Nat.mul_mod, Nat.mod_mod, Nat.pow_mul, Nat.pow_two, Nat.pow_one, Nat.pow_zero, Nat.one_mul, Nat.mul_two]
      rfl
  · refine x_iload dX6_power_7 rfl ?_
    refine x_bipush (v := 8) dX6_power_9 (by decide) ?_
    refine x_icmp_ge_t (tgt := 46) dX6_power_11 (by decide) (nI_le_of rfl (by decide) (Nat.le_refl _)) ?_
    refine x_iload_n dX6_power_46 rfl ?_
    exact x_reti dX6_power_47 rfl rfl rfl (⟨by rw [Nat.mod_eq_of_lt (show e < 2 ^ 8 from he)], rfl⟩)

set_option maxRecDepth 100000 in
set_option maxHeartbeats 4000000 in
theorem kX6_power (l : Launch) (g : XG) (b e : Nat) (hb : b < 257) (he : e < 256) : Ct l g MX6_power [.int (nI b), .int (nI e)] ([]) (Qp (nI (b ^ e % 257)) []) := by
  refine Ct_of (by decide) (by simp [Value.category]) (Nat.le_of_ble_eq_true rfl) ?_
  refine x_iconst (v := 1) dX6_power_0 (by decide) ?_
  refine x_istore_n dX6_power_1 (by decide) ?_
  refine x_iload_n dX6_power_2 rfl ?_
  refine x_istore_n dX6_power_3 (by decide) ?_
  refine x_iconst (v := 0) dX6_power_4 (by decide) ?_
  refine x_istore dX6_power_5 (by decide) ?_
  exact x_eq (lpX6_power l g b e hb he) (by simp [Nat.mod_one, Nat.mod_eq_of_lt hb, nI]; rfl) rfl rfl

def sumN (f : Nat → Nat) : Nat → Nat
  | 0 => 0
  | n + 1 => sumN f n + f n
theorem sumN_le {f : Nat → Nat} {c : Nat} : ∀ {n : Nat}, (∀ k, k < n → f k ≤ c) → sumN f n ≤ n * c
  | 0, _ => by simp [sumN]
  | n + 1, h => by
    have h1 := sumN_le (f := f) (c := c) (n := n) (fun k hk => h k (by omega))
    have h2 := h n (by omega)
    rw [sumN, Nat.succ_mul]; omega
theorem sumN_congr {f f' : Nat → Nat} : ∀ {n : Nat}, (∀ k, k < n → f k = f' k) → sumN f n = sumN f' n
  | 0, _ => rfl
  | n + 1, h => by simp only [sumN]; rw [sumN_congr (fun k hk => h k (by omega)), h n (by omega)]
/-- parity word j of k data words -/
def parS (wd : Nat → Nat) (j n : Nat) : Nat := sumN (fun d => wd d * ((d + 1) ^ j % 257)) n
def parW (wd : Nat → Nat) (k j : Nat) : Nat := parS wd j k % 257
theorem parS_le {wd : Nat → Nat} {j k n : Nat} (hk : k ≤ 6) (hw : ∀ d, d < k → wd d < 256) (hn : n ≤ k) : parS wd j n ≤ 6 * 65280 := by
  refine Nat.le_trans (sumN_le (c := 65280) (fun d hd => ?_)) (Nat.mul_le_mul_right _ (by omega))
  have h1 := hw d (by omega)
  have h2 := Nat.mod_lt ((d + 1) ^ j) (show 257 > 0 by decide)
  exact Nat.mul_le_mul (show wd d ≤ 255 by omega) (show _ ≤ 256 by omega)

set_option maxRecDepth 100000 in
set_option maxHeartbeats 4000000 in
theorem lpX2_parityWord (l : Launch) (g : XG) (wd : Nat → Nat) (k j : Nat) (hk : k ≤ 6) (hj : j < 256) (hw : ∀ d, d < k → wd d < 256) : XA l g MX2_parityWord (Qp (nI (parW wd k j)) [.inl (row 6 (fun d => nI (wd d)))]) 5 ((fun i => [some (.ref 0), some (.int (nI k)), some (.int (nI j)), some (.int (nI (parS wd j i))), some (.int (nI i))]) 0) ((fun _ => []) 0) ((fun _ => [.inl (row 6 (fun d => nI (wd d)))]) 0) 0 0 := by
  refine x_for k (fun _ => True) (fun i => [some (.ref 0), some (.int (nI k)), some (.int (nI j)), some (.int (nI (parS wd j i))), some (.int (nI i))]) (fun _ => []) (fun _ => [.inl (row 6 (fun d => nI (wd d)))]) trivial (fun i hi hp ih => ?_) (fun hp => ?_)
  · refine x_iload dX2_parityWord_5 rfl ?_
    refine x_iload_n dX2_parityWord_7 rfl ?_
    refine x_icmp_ge_f (tgt := 40) dX2_parityWord_8 (by decide) (nI_ge hi (by omega)) ?_
    refine x_iload dX2_parityWord_11 rfl ?_
    refine x_aload_n dX2_parityWord_13 rfl ?_
    refine x_alr dX2_parityWord_14 rfl ?_
    refine x_icmp_ge_f (tgt := 40) dX2_parityWord_15 (by decide) (nI_ge (show i < 6 by omega) (by decide)) ?_
    refine x_iload_n dX2_parityWord_18 rfl ?_
    refine x_aload_n dX2_parityWord_19 rfl ?_
    refine x_iload dX2_parityWord_20 rfl ?_
    refine x_iar dX2_parityWord_22 rfl (ix_nI (show i < 6 by omega) (by decide)) ?_
    refine x_iload dX2_parityWord_23 rfl ?_
    refine x_iconst (v := 1) dX2_parityWord_25 (by decide) ?_
    refine x_iadd dX2_parityWord_26 ?_
    rw [nI_1]
    refine x_iload_n dX2_parityWord_27 rfl ?_
    refine x_callp [] (x_iSN dX2_parityWord_28 mlX2_94 lbX6_power rfl) (kX6_power l g (i + 1) j (by omega) hj) (by decide) rfl rfl (by decide) (by decide) (by simp [Value.category]) rfl rfl (by decide +kernel) ?_
    refine x_imul dX2_parityWord_31 ?_
    rw [pk_mul]
    refine x_iadd dX2_parityWord_32 ?_
    rw [nI_add]
    refine x_istore_n dX2_parityWord_33 (by decide) ?_
    first | refine x_iinc dX2_parityWord_34 (by decide) rfl (nI_inc _) ?_ | refine x_iinc dX2_parityWord_34 (by decide) rfl (inc_1 _) ?_
    refine x_goto (tgt := 5) dX2_parityWord_37 (by decide) ?_
    exact ih trivial
  · refine x_iload dX2_parityWord_5 rfl ?_
    refine x_iload_n dX2_parityWord_7 rfl ?_
    refine x_icmp_ge_t (tgt := 40) dX2_parityWord_8 (by decide) (nI_le (Nat.le_refl _) (by omega)) ?_
    refine x_iload_n dX2_parityWord_40 rfl ?_
    refine x_sipush (v := 257) dX2_parityWord_41 (by decide) ?_
    refine x_irem dX2_parityWord_44 (by decide) ?_
    rw [rem257 (by have := parS_le (j := j) hk hw (Nat.le_refl _); omega)]
    exact x_reti dX2_parityWord_45 rfl rfl rfl (⟨rfl, rfl⟩)

set_option maxRecDepth 100000 in
set_option maxHeartbeats 4000000 in
theorem kX2_parityWord (l : Launch) (g : XG) (wd : Nat → Nat) (k j : Nat) (hk : k ≤ 6) (hj : j < 256) (hw : ∀ d, d < k → wd d < 256) : Ct l g MX2_parityWord [.ref 0, .int (nI k), .int (nI j)] ([.inl (row 6 (fun d => nI (wd d)))]) (Qp (nI (parW wd k j)) [.inl (row 6 (fun d => nI (wd d)))]) := by
  refine Ct_of (by decide) (by simp [Value.category]) (Nat.le_of_ble_eq_true rfl) ?_
  refine x_iconst (v := 0) dX2_parityWord_0 (by decide) ?_
  refine x_istore_n dX2_parityWord_1 (by decide) ?_
  refine x_iconst (v := 0) dX2_parityWord_2 (by decide) ?_
  refine x_istore dX2_parityWord_3 (by decide) ?_
  exact lpX2_parityWord l g wd k j hk hj hw

theorem min6 {k : Nat} (hk : k ≤ 6) : (if nI 6 < nI k then nI 6 else nI k) = nI k := if_neg (nI_nlt hk (by decide))
theorem min6l {k : Nat} (hk : k ≤ 6) : (if (6 : Int32) < nI k then 6 else nI k) = nI k := min6 hk
def coW (c : Nat → Int32) (wd : Nat → Nat) (f i : Nat) : Nat → Int32 := fun x => if 10 * f ≤ x ∧ x < 10 * f + i then nI (wd (x - 10 * f)) else c x
def coP (c : Nat → Int32) (wd : Nat → Nat) (f k i : Nat) : Nat → Int32 := fun x => if 10 * f + k ≤ x ∧ x < 10 * f + k + i then nI (parW wd k (x - (10 * f + k))) else c x
theorem coW_0 (c : Nat → Int32) (wd : Nat → Nat) (f : Nat) : row 80 c = row 80 (coW c wd f 0) := row_congr fun x _ => by simp only [coW]; rw [if_neg (by omega)]
theorem coP_0 (c : Nat → Int32) (wd : Nat → Nat) (f k : Nat) : row 80 c = row 80 (coP c wd f k 0) := row_congr fun x _ => by simp only [coP]; rw [if_neg (by omega)]
theorem coW_s (c : Nat → Int32) (wd : Nat → Nat) (f i : Nat) : row 80 (upd (coW c wd f i) (10 * f + i) (nI (wd i))) = row 80 (coW c wd f (i + 1)) := row_congr fun x _ => by
  simp only [upd, coW]
  by_cases h : x = 10 * f + i
  · rw [if_pos h, if_pos (by omega)]; subst h; simp
  · rw [if_neg h]
    by_cases h2 : 10 * f ≤ x ∧ x < 10 * f + i
    · rw [if_pos h2, if_pos (by omega)]
    · rw [if_neg h2, if_neg (by omega)]
theorem coP_s (c : Nat → Int32) (wd : Nat → Nat) (f k i : Nat) : row 80 (upd (coP c wd f k i) (10 * f + k + i) (nI (parW wd k i))) = row 80 (coP c wd f k (i + 1)) := row_congr fun x _ => by
  simp only [upd, coP]
  by_cases h : x = 10 * f + k + i
  · rw [if_pos h, if_pos (by omega)]; subst h; simp
  · rw [if_neg h]
    by_cases h2 : 10 * f + k ≤ x ∧ x < 10 * f + k + i
    · rw [if_pos h2, if_pos (by omega)]
    · rw [if_neg h2, if_neg (by omega)]
/-- the head of a new file, and its correct values c -/
def sFile (S : MS) (f : Nat) (o : Int32) (k m : Nat) (c : Nat → Int32) : MS := fun t => if t = 8 then c else us (us (us S 7 f o) 5 f (nI k)) 6 f (nI m) t
def sAddF (S : MS) (f : Nat) (o : Int32) (wd : Nat → Nat) (k m : Nat) : MS := sFile S f o k m (coP (coW (S 8) wd f k) wd f k m)

set_option maxRecDepth 100000 in
set_option maxHeartbeats 4000000 in
theorem lqX2_add (l : Launch) (g : XG) (S : MS) (f : Nat) (o : Int32) (wd : Nat → Nat) (k m : Nat) (hf : f < 8) (hk : k ≤ 6) (hm : m ≤ 4) (hw : ∀ d, d < k → wd d < 256) : XA l g MX2_add (Qv (fun w1 => w1 = wF (sAddF S f o wd k m) ++ [(Sum.inl (row 6 (fun d => nI (wd d))) : XC)])) 98 ((fun i => [some (.ref 0), some (.int (nI f)), some (.int o), some (.ref 7), some (.int (nI k)), some (.int (nI m)), some (.int (nI k)), some (.int (nI f * 10)), some (.int (nI i))]) 0) ((fun _ => []) 0) ((fun i => wF (sFile S f o k m (coP (coW (S 8) wd f k) wd f k i)) ++ [(Sum.inl (row 6 (fun d => nI (wd d))) : XC)]) 0) 0 0 := by
  refine x_for m (fun _ => True) (fun i => [some (.ref 0), some (.int (nI f)), some (.int o), some (.ref 7), some (.int (nI k)), some (.int (nI m)), some (.int (nI k)), some (.int (nI f * 10)), some (.int (nI i))]) (fun _ => []) (fun i => wF (sFile S f o k m (coP (coW (S 8) wd f k) wd f k i)) ++ [(Sum.inl (row 6 (fun d => nI (wd d))) : XC)]) trivial (fun i hi hp ih => ?_) (fun hp => ?_)
  · refine x_iload dX2_add_98 rfl ?_
    refine x_iload dX2_add_100 rfl ?_
    refine x_icmp_ge_f (tgt := 132) dX2_add_102 (by decide) (nI_ge hi (by omega)) ?_
    refine x_aload_n dX2_add_105 rfl ?_
    refine x_getf dX2_add_106 flX2_21 rfl rfl ?_
    refine x_iload dX2_add_109 rfl ?_
    refine x_iload dX2_add_111 rfl ?_
    refine x_iadd dX2_add_113 ?_
    refine x_iload dX2_add_114 rfl ?_
    refine x_iadd dX2_add_116 ?_
    refine x_aload_n dX2_add_117 rfl ?_
    refine x_iload dX2_add_118 rfl ?_
    refine x_iload dX2_add_120 rfl ?_
    refine x_callp [7] (x_iS dX2_add_122 mlX2_90 lbX2_parityWord rfl) (kX2_parityWord l g wd k i hk (by omega) hw) (by decide) rfl rfl (by decide) (by decide) (by simp [Value.category]) rfl rfl (by decide +kernel) ?_
    refine x_iaw dX2_add_125 rfl (show ix (nI f * 10 + nI k + nI i) (10 * f + k + i) 80 from by rw [show nI f * 10 = nI (f * 10) from pk_mul f 10, nI_add, nI_add, Nat.mul_comm f 10]; exact ix_nI (by omega) (by decide)) ?_
    first | refine x_iinc dX2_add_126 (by decide) rfl (nI_inc _) ?_ | refine x_iinc dX2_add_126 (by decide) rfl (inc_1 _) ?_
    refine x_goto (tgt := 98) dX2_add_129 (by decide) ?_
    refine x_eq (ih trivial) rfl rfl ?_
    exact congrArg (fun z => (wF (sFile S f o k m (coP (coW (S 8) wd f k) wd f k i)) ++ [(Sum.inl (row 6 (fun d => nI (wd d))) : XC)]).set 4 (Sum.inl z)) (coP_s (coW (S 8) wd f k) wd f k i)
  · refine x_iload dX2_add_98 rfl ?_
    refine x_iload dX2_add_100 rfl ?_
    refine x_icmp_ge_t (tgt := 132) dX2_add_102 (by decide) (nI_le (Nat.le_refl _) (by omega)) ?_
    exact x_retv dX2_add_132 rfl rfl rfl (⟨rfl, rfl⟩)

set_option maxRecDepth 100000 in
set_option maxHeartbeats 4000000 in
theorem lpX2_add (l : Launch) (g : XG) (S : MS) (f : Nat) (o : Int32) (wd : Nat → Nat) (k m : Nat) (hf : f < 8) (hk : k ≤ 6) (hm : m ≤ 4) (hw : ∀ d, d < k → wd d < 256) : XA l g MX2_add (Qv (fun w1 => w1 = wF (sAddF S f o wd k m) ++ [(Sum.inl (row 6 (fun d => nI (wd d))) : XC)])) 68 ((fun i => [some (.ref 0), some (.int (nI f)), some (.int o), some (.ref 7), some (.int (nI k)), some (.int (nI m)), some (.int (nI k)), some (.int (nI f * 10)), some (.int (nI i))]) 0) ((fun _ => []) 0) ((fun i => wF (sFile S f o k m (coW (S 8) wd f i)) ++ [(Sum.inl (row 6 (fun d => nI (wd d))) : XC)]) 0) 0 0 := by
  refine x_for k (fun _ => True) (fun i => [some (.ref 0), some (.int (nI f)), some (.int o), some (.ref 7), some (.int (nI k)), some (.int (nI m)), some (.int (nI k)), some (.int (nI f * 10)), some (.int (nI i))]) (fun _ => []) (fun i => wF (sFile S f o k m (coW (S 8) wd f i)) ++ [(Sum.inl (row 6 (fun d => nI (wd d))) : XC)]) trivial (fun i hi hp ih => ?_) (fun hp => ?_)
  · refine x_iload dX2_add_68 rfl ?_
    refine x_iload dX2_add_70 rfl ?_
    refine x_icmp_ge_f (tgt := 95) dX2_add_72 (by decide) (nI_ge hi (by omega)) ?_
    refine x_aload_n dX2_add_75 rfl ?_
    refine x_getf dX2_add_76 flX2_21 rfl rfl ?_
    refine x_iload dX2_add_79 rfl ?_
    refine x_iload dX2_add_81 rfl ?_
    refine x_iadd dX2_add_83 ?_
    refine x_aload_n dX2_add_84 rfl ?_
    refine x_iload dX2_add_85 rfl ?_
    refine x_iar dX2_add_87 rfl (ix_nI (show i < 6 by omega) (by decide)) ?_
    refine x_iaw dX2_add_88 rfl (show ix (nI f * 10 + nI i) (10 * f + i) 80 from ix_fi hf (by omega)) ?_
    first | refine x_iinc dX2_add_89 (by decide) rfl (nI_inc _) ?_ | refine x_iinc dX2_add_89 (by decide) rfl (inc_1 _) ?_
    refine x_goto (tgt := 68) dX2_add_92 (by decide) ?_
    refine x_eq (ih trivial) rfl rfl ?_
    exact congrArg (fun z => (wF (sFile S f o k m (coW (S 8) wd f i)) ++ [(Sum.inl (row 6 (fun d => nI (wd d))) : XC)]).set 4 (Sum.inl z)) (coW_s (S 8) wd f i)
  · refine x_iload dX2_add_68 rfl ?_
    refine x_iload dX2_add_70 rfl ?_
    refine x_icmp_ge_t (tgt := 95) dX2_add_72 (by decide) (nI_le (Nat.le_refl _) (by omega)) ?_
    refine x_iconst (v := 0) dX2_add_95 (by decide) ?_
    refine x_istore dX2_add_96 (by decide) ?_
    refine x_eq (lqX2_add l g S f o wd k m hf hk hm hw) rfl rfl ?_
    exact congrArg (fun z => (wF (sFile S f o k m (coW (S 8) wd f k)) ++ [(Sum.inl (row 6 (fun d => nI (wd d))) : XC)]).set 4 (Sum.inl z)) (coP_0 (coW (S 8) wd f k) wd f k)

set_option maxRecDepth 100000 in
set_option maxHeartbeats 4000000 in
theorem kX2_add (l : Launch) (g : XG) (S : MS) (f : Nat) (o : Int32) (wd : Nat → Nat) (k m : Nat) (hf : f < 8) (hk : k ≤ 6) (hm : m ≤ 4) (hw : ∀ d, d < k → wd d < 256) : Ct l g MX2_add [.ref 0, .int (nI f), .int o, .ref 7, .int (nI k), .int (nI m)] (wF S ++ [(Sum.inl (row 6 (fun d => nI (wd d))) : XC)]) (Qv (fun w1 => w1 = wF (sAddF S f o wd k m) ++ [(Sum.inl (row 6 (fun d => nI (wd d))) : XC)])) := by
  refine Ct_of (by decide) (by simp [Value.category]) (Nat.le_of_ble_eq_true rfl) ?_
  refine x_iload dX2_add_0 rfl ?_
  refine x_aload_n dX2_add_2 rfl ?_
  refine x_alr dX2_add_3 rfl ?_
  refine x_min dX2_add_4 mlX2_85 w_min1 w_math w_min3 (by decide) (by decide) (by decide) (by simp [Value.category]) ?_
  rw [min6 hk]
  refine x_bipush (v := 6) dX2_add_7 (by decide) ?_
  refine x_min dX2_add_9 mlX2_85 w_min1 w_math w_min3 (by decide) (by decide) (by decide) (by simp [Value.category]) ?_
  rw [min6l hk]
  refine x_istore dX2_add_12 (by decide) ?_
  refine x_iload_n dX2_add_14 rfl ?_
  refine x_if_lt_f (tgt := 35) dX2_add_15 (by decide) (nI_pos (by omega)) ?_
  refine x_iload_n dX2_add_18 rfl ?_
  refine x_bipush (v := 8) dX2_add_19 (by decide) ?_
  refine x_icmp_ge_f (tgt := 35) dX2_add_21 (by decide) (nI_ge hf (by decide)) ?_
  refine x_iload dX2_add_24 rfl ?_
  refine x_if_lt_f (tgt := 35) dX2_add_26 (by decide) (nI_pos (by omega)) ?_
  refine x_iload dX2_add_29 rfl ?_
  refine x_iconst (v := 4) dX2_add_31 (by decide) ?_
  refine x_icmp_le_t (tgt := 36) dX2_add_32 (by decide) (nI_le hm (by decide)) ?_
  refine x_aload_n dX2_add_36 rfl ?_
  refine x_getf dX2_add_37 flX2_18 rfl rfl ?_
  refine x_iload_n dX2_add_40 rfl ?_
  refine x_iload_n dX2_add_41 rfl ?_
  refine x_iaw dX2_add_42 rfl (ix_nI hf (by decide)) ?_
  refine x_aload_n dX2_add_43 rfl ?_
  refine x_getf dX2_add_44 flX2_9 rfl rfl ?_
  refine x_iload_n dX2_add_47 rfl ?_
  refine x_iload dX2_add_48 rfl ?_
  refine x_iaw dX2_add_50 rfl (ix_nI hf (by decide)) ?_
  refine x_aload_n dX2_add_51 rfl ?_
  refine x_getf dX2_add_52 flX2_15 rfl rfl ?_
  refine x_iload_n dX2_add_55 rfl ?_
  refine x_iload dX2_add_56 rfl ?_
  refine x_iaw dX2_add_58 rfl (ix_nI hf (by decide)) ?_
  refine x_iload_n dX2_add_59 rfl ?_
  refine x_bipush (v := 10) dX2_add_60 (by decide) ?_
  refine x_imul dX2_add_62 ?_
  refine x_istore dX2_add_63 (by decide) ?_
  refine x_iconst (v := 0) dX2_add_65 (by decide) ?_
  refine x_istore dX2_add_66 (by decide) ?_
  refine x_eq (lpX2_add l g S f o wd k m hf hk hm hw) rfl rfl ?_
  exact congrArg (fun z => (wF (sFile S f o k m (S 8)) ++ [(Sum.inl (row 6 (fun d => nI (wd d))) : XC)]).set 4 (Sum.inl z)) (coW_0 (S 8) wd f)

def sRemF (S : MS) (f : Int32) : MS := cond (exF S f) (us (us (us S 5 (cl f) 0) 6 (cl f) 0) 7 (cl f) (-1)) S
def sSet (S : MS) (f i p e : Int32) : MS := cond (irB f i) (us (us S 9 (10 * cl f + cl i) p) 10 (10 * cl f + cl i) e) S
def sErr (S : MS) (f i a : Int32) : MS := cond (irB f i) (us S 10 (10 * cl f + cl i) (remI (S 10 (10 * cl f + cl i) + a) 257)) S

set_option maxRecDepth 100000 in
set_option maxHeartbeats 4000000 in
theorem kX2_remove (l : Launch) (g : XG) (S : MS) (f : Int32) : Ct l g MX2_remove [.ref 0, .int f] (wF S) (Qv (fun w1 => w1 = wF (sRemF S f))) := by
  refine Ct_of (by decide) (by simp [Value.category]) (Nat.le_of_ble_eq_true rfl) ?_
  refine x_aload_n dX2_remove_0 rfl ?_
  refine x_iload_n dX2_remove_1 rfl ?_
  refine x_callp [0, 1, 2, 3, 4, 5, 6] (x_iV dX2_remove_2 mlX2_64 lbX2_exists rfl rfl rfl rfl) (kX2_exists l g _ _) (by decide) rfl rfl (by decide) (by decide) (by simp [Value.category]) rfl rfl (by decide +kernel) ?_
  refine x_if_eq (tgt := 29) dX2_remove_5 (by decide) (fun c_5 => ?_) (fun c_5 => ?_)
  · exact x_retv dX2_remove_29 rfl rfl rfl (⟨rfl, by (try simp only [b2i_eq0, b2i_ne0] at *); first | (rw [sRemF, show (exF S f) = true by simp [*]] <;> rfl) | (rw [sRemF, show (exF S f) = false by simp [*]] <;> rfl)⟩)
  · refine x_aload_n dX2_remove_8 rfl ?_
    refine x_getf dX2_remove_9 flX2_9 rfl rfl ?_
    refine x_iload_n dX2_remove_12 rfl ?_
    refine x_iconst (v := 0) dX2_remove_13 (by decide) ?_
    refine x_iaw dX2_remove_14 rfl (ix_of (exF_in (b2i_t' c_5))) ?_
    refine x_aload_n dX2_remove_15 rfl ?_
    refine x_getf dX2_remove_16 flX2_15 rfl rfl ?_
    refine x_iload_n dX2_remove_19 rfl ?_
    refine x_iconst (v := 0) dX2_remove_20 (by decide) ?_
    refine x_iaw dX2_remove_21 rfl (ix_of (exF_in (b2i_t' c_5))) ?_
    refine x_aload_n dX2_remove_22 rfl ?_
    refine x_getf dX2_remove_23 flX2_18 rfl rfl ?_
    refine x_iload_n dX2_remove_26 rfl ?_
    refine x_iconst (v := -1) dX2_remove_27 (by decide) ?_
    refine x_iaw dX2_remove_28 rfl (ix_of (exF_in (b2i_t' c_5))) ?_
    exact x_retv dX2_remove_29 rfl rfl rfl (⟨rfl, by (try simp only [b2i_eq0, b2i_ne0] at *); first | (rw [sRemF, show (exF S f) = true by simp [*]] <;> rfl) | (rw [sRemF, show (exF S f) = false by simp [*]] <;> rfl)⟩)

set_option maxRecDepth 100000 in
set_option maxHeartbeats 4000000 in
theorem kX2_setFragment (l : Launch) (g : XG) (S : MS) (f i p e : Int32) : Ct l g MX2_setFragment [.ref 0, .int f, .int i, .int p, .int e] (wF S) (Qv (fun w1 => w1 = wF (sSet S f i p e))) := by
  refine Ct_of (by decide) (by simp [Value.category]) (Nat.le_of_ble_eq_true rfl) ?_
  refine x_iload_n dX2_setFragment_0 rfl ?_
  refine x_iload_n dX2_setFragment_1 rfl ?_
  refine x_callp [] (x_iS dX2_setFragment_2 mlX2_47 lbX2_isInRows rfl) (kX2_isInRows l g _ _) (by decide) rfl rfl (by decide) (by decide) (by simp [Value.category]) rfl rfl (by decide +kernel) ?_
  refine x_if_eq (tgt := 33) dX2_setFragment_5 (by decide) (fun c_5 => ?_) (fun c_5 => ?_)
  · exact x_retv dX2_setFragment_33 rfl rfl rfl (⟨rfl, by (try simp only [b2i_eq0, b2i_ne0] at *); first | (rw [sSet, show (irB f i) = true by simp [*]] <;> rfl) | (rw [sSet, show (irB f i) = false by simp [*]] <;> rfl)⟩)
  · refine x_aload_n dX2_setFragment_8 rfl ?_
    refine x_getf dX2_setFragment_9 flX2_24 rfl rfl ?_
    refine x_iload_n dX2_setFragment_12 rfl ?_
    refine x_bipush (v := 10) dX2_setFragment_13 (by decide) ?_
    refine x_imul dX2_setFragment_15 ?_
    refine x_iload_n dX2_setFragment_16 rfl ?_
    refine x_iadd dX2_setFragment_17 ?_
    refine x_iload_n dX2_setFragment_18 rfl ?_
    refine x_iaw dX2_setFragment_19 rfl ((ix_2 8 10 80 rfl rfl (by decide) (irB_1 (b2i_t' c_5)) (irB_2 (b2i_t' c_5)))) ?_
    refine x_aload_n dX2_setFragment_20 rfl ?_
    refine x_getf dX2_setFragment_21 flX2_27 rfl rfl ?_
    refine x_iload_n dX2_setFragment_24 rfl ?_
    refine x_bipush (v := 10) dX2_setFragment_25 (by decide) ?_
    refine x_imul dX2_setFragment_27 ?_
    refine x_iload_n dX2_setFragment_28 rfl ?_
    refine x_iadd dX2_setFragment_29 ?_
    refine x_iload dX2_setFragment_30 rfl ?_
    refine x_iaw dX2_setFragment_32 rfl ((ix_2 8 10 80 rfl rfl (by decide) (irB_1 (b2i_t' c_5)) (irB_2 (b2i_t' c_5)))) ?_
    exact x_retv dX2_setFragment_33 rfl rfl rfl (⟨rfl, by (try simp only [b2i_eq0, b2i_ne0] at *); first | (rw [sSet, show (irB f i) = true by simp [*]] <;> rfl) | (rw [sSet, show (irB f i) = false by simp [*]] <;> rfl)⟩)

set_option maxRecDepth 100000 in
set_option maxHeartbeats 4000000 in
theorem kX2_addError (l : Launch) (g : XG) (S : MS) (f i a : Int32) : Ct l g MX2_addError [.ref 0, .int f, .int i, .int a] (wF S) (Qv (fun w1 => w1 = wF (sErr S f i a))) := by
  refine Ct_of (by decide) (by simp [Value.category]) (Nat.le_of_ble_eq_true rfl) ?_
  refine x_iload_n dX2_addError_0 rfl ?_
  refine x_iload_n dX2_addError_1 rfl ?_
  refine x_callp [] (x_iS dX2_addError_2 mlX2_47 lbX2_isInRows rfl) (kX2_isInRows l g _ _) (by decide) rfl rfl (by decide) (by decide) (by simp [Value.category]) rfl rfl (by decide +kernel) ?_
  refine x_if_eq (tgt := 36) dX2_addError_5 (by decide) (fun c_5 => ?_) (fun c_5 => ?_)
  · exact x_retv dX2_addError_36 rfl rfl rfl (⟨rfl, by (try simp only [b2i_eq0, b2i_ne0] at *); first | (rw [sErr, show (irB f i) = true by simp [*]] <;> rfl) | (rw [sErr, show (irB f i) = false by simp [*]] <;> rfl)⟩)
  · refine x_iload_n dX2_addError_8 rfl ?_
    refine x_bipush (v := 10) dX2_addError_9 (by decide) ?_
    refine x_imul dX2_addError_11 ?_
    refine x_iload_n dX2_addError_12 rfl ?_
    refine x_iadd dX2_addError_13 ?_
    refine x_istore dX2_addError_14 (by decide) ?_
    refine x_aload_n dX2_addError_16 rfl ?_
    refine x_getf dX2_addError_17 flX2_27 rfl rfl ?_
    refine x_iload dX2_addError_20 rfl ?_
    refine x_aload_n dX2_addError_22 rfl ?_
    refine x_getf dX2_addError_23 flX2_27 rfl rfl ?_
    refine x_iload dX2_addError_26 rfl ?_
    refine x_iar dX2_addError_28 rfl ((ix_2 8 10 80 rfl rfl (by decide) (irB_1 (b2i_t' c_5)) (irB_2 (b2i_t' c_5)))) ?_
    refine x_iload_n dX2_addError_29 rfl ?_
    refine x_iadd dX2_addError_30 ?_
    refine x_sipush (v := 257) dX2_addError_31 (by decide) ?_
    refine x_irem dX2_addError_34 (by decide) ?_
    refine x_iaw dX2_addError_35 rfl ((ix_2 8 10 80 rfl rfl (by decide) (irB_1 (b2i_t' c_5)) (irB_2 (b2i_t' c_5)))) ?_
    exact x_retv dX2_addError_36 rfl rfl rfl (⟨rfl, by (try simp only [b2i_eq0, b2i_ne0] at *); first | (rw [sErr, show (irB f i) = true by simp [*]] <;> rfl) | (rw [sErr, show (irB f i) = false by simp [*]] <;> rfl)⟩)

set_option maxRecDepth 100000 in
set_option maxHeartbeats 4000000 in
theorem kX2_copyFrom (l : Launch) (g : XG) (S S2 : MS) : Ct l g MX2_copyFrom [.ref 0, .ref 7] (wF S ++ [.inr (.inr (2, [.ref 8, .ref 9, .ref 10, .ref 11, .ref 12, .ref 13])), .inl (row 8 (S2 5)), .inl (row 8 (S2 6)), .inl (row 8 (S2 7)), .inl (row 80 (S2 8)), .inl (row 80 (S2 9)), .inl (row 80 (S2 10))]) (Qv (fun w1 => w1 = wF S2 ++ [.inr (.inr (2, [.ref 8, .ref 9, .ref 10, .ref 11, .ref 12, .ref 13])), .inl (row 8 (S2 5)), .inl (row 8 (S2 6)), .inl (row 8 (S2 7)), .inl (row 80 (S2 8)), .inl (row 80 (S2 9)), .inl (row 80 (S2 10))])) := by
  refine Ct_of (by decide) (by simp [Value.category]) (Nat.le_of_ble_eq_true rfl) ?_
  refine x_aload_n dX2_copyFrom_0 rfl ?_
  refine x_getf dX2_copyFrom_1 flX2_9 rfl rfl ?_
  refine x_aload_n dX2_copyFrom_4 rfl ?_
  refine x_getf dX2_copyFrom_5 flX2_9 rfl rfl ?_
  refine x_callv [8, 1] (x_iSN dX2_copyFrom_8 mlX2_36 lbX6_copyRow rfl) (kX6_copyRow l g 8 (by decide) (S2 5) (S 5)) (by decide) (by decide) (by decide) (by simp [Value.category]) rfl rfl (by decide +kernel) (fun w1 h1 => ?_)
  obtain rfl := h1
  show XA _ _ _ _ _ _ _ ([.inr (.inr (2, [.ref 1, .ref 2, .ref 3, .ref 4, .ref 5, .ref 6])), .inl (row 8 (S2 5)), .inl (row 8 (S 6)), .inl (row 8 (S 7)), .inl (row 80 (S 8)), .inl (row 80 (S 9)), .inl (row 80 (S 10))] ++ [.inr (.inr (2, [.ref 8, .ref 9, .ref 10, .ref 11, .ref 12, .ref 13])), .inl (row 8 (S2 5)), .inl (row 8 (S2 6)), .inl (row 8 (S2 7)), .inl (row 80 (S2 8)), .inl (row 80 (S2 9)), .inl (row 80 (S2 10))]) _ _
  refine x_aload_n dX2_copyFrom_11 rfl ?_
  refine x_getf dX2_copyFrom_12 flX2_15 rfl rfl ?_
  refine x_aload_n dX2_copyFrom_15 rfl ?_
  refine x_getf dX2_copyFrom_16 flX2_15 rfl rfl ?_
  refine x_callv [9, 2] (x_iSN dX2_copyFrom_19 mlX2_36 lbX6_copyRow rfl) (kX6_copyRow l g 8 (by decide) (S2 6) (S 6)) (by decide) (by decide) (by decide) (by simp [Value.category]) rfl rfl (by decide +kernel) (fun w1 h1 => ?_)
  obtain rfl := h1
  show XA _ _ _ _ _ _ _ ([.inr (.inr (2, [.ref 1, .ref 2, .ref 3, .ref 4, .ref 5, .ref 6])), .inl (row 8 (S2 5)), .inl (row 8 (S2 6)), .inl (row 8 (S 7)), .inl (row 80 (S 8)), .inl (row 80 (S 9)), .inl (row 80 (S 10))] ++ [.inr (.inr (2, [.ref 8, .ref 9, .ref 10, .ref 11, .ref 12, .ref 13])), .inl (row 8 (S2 5)), .inl (row 8 (S2 6)), .inl (row 8 (S2 7)), .inl (row 80 (S2 8)), .inl (row 80 (S2 9)), .inl (row 80 (S2 10))]) _ _
  refine x_aload_n dX2_copyFrom_22 rfl ?_
  refine x_getf dX2_copyFrom_23 flX2_18 rfl rfl ?_
  refine x_aload_n dX2_copyFrom_26 rfl ?_
  refine x_getf dX2_copyFrom_27 flX2_18 rfl rfl ?_
  refine x_callv [10, 3] (x_iSN dX2_copyFrom_30 mlX2_36 lbX6_copyRow rfl) (kX6_copyRow l g 8 (by decide) (S2 7) (S 7)) (by decide) (by decide) (by decide) (by simp [Value.category]) rfl rfl (by decide +kernel) (fun w1 h1 => ?_)
  obtain rfl := h1
  show XA _ _ _ _ _ _ _ ([.inr (.inr (2, [.ref 1, .ref 2, .ref 3, .ref 4, .ref 5, .ref 6])), .inl (row 8 (S2 5)), .inl (row 8 (S2 6)), .inl (row 8 (S2 7)), .inl (row 80 (S 8)), .inl (row 80 (S 9)), .inl (row 80 (S 10))] ++ [.inr (.inr (2, [.ref 8, .ref 9, .ref 10, .ref 11, .ref 12, .ref 13])), .inl (row 8 (S2 5)), .inl (row 8 (S2 6)), .inl (row 8 (S2 7)), .inl (row 80 (S2 8)), .inl (row 80 (S2 9)), .inl (row 80 (S2 10))]) _ _
  refine x_aload_n dX2_copyFrom_33 rfl ?_
  refine x_getf dX2_copyFrom_34 flX2_21 rfl rfl ?_
  refine x_aload_n dX2_copyFrom_37 rfl ?_
  refine x_getf dX2_copyFrom_38 flX2_21 rfl rfl ?_
  refine x_callv [11, 4] (x_iSN dX2_copyFrom_41 mlX2_36 lbX6_copyRow rfl) (kX6_copyRow l g 80 (by decide) (S2 8) (S 8)) (by decide) (by decide) (by decide) (by simp [Value.category]) rfl rfl (by decide +kernel) (fun w1 h1 => ?_)
  obtain rfl := h1
  show XA _ _ _ _ _ _ _ ([.inr (.inr (2, [.ref 1, .ref 2, .ref 3, .ref 4, .ref 5, .ref 6])), .inl (row 8 (S2 5)), .inl (row 8 (S2 6)), .inl (row 8 (S2 7)), .inl (row 80 (S2 8)), .inl (row 80 (S 9)), .inl (row 80 (S 10))] ++ [.inr (.inr (2, [.ref 8, .ref 9, .ref 10, .ref 11, .ref 12, .ref 13])), .inl (row 8 (S2 5)), .inl (row 8 (S2 6)), .inl (row 8 (S2 7)), .inl (row 80 (S2 8)), .inl (row 80 (S2 9)), .inl (row 80 (S2 10))]) _ _
  refine x_aload_n dX2_copyFrom_44 rfl ?_
  refine x_getf dX2_copyFrom_45 flX2_24 rfl rfl ?_
  refine x_aload_n dX2_copyFrom_48 rfl ?_
  refine x_getf dX2_copyFrom_49 flX2_24 rfl rfl ?_
  refine x_callv [12, 5] (x_iSN dX2_copyFrom_52 mlX2_36 lbX6_copyRow rfl) (kX6_copyRow l g 80 (by decide) (S2 9) (S 9)) (by decide) (by decide) (by decide) (by simp [Value.category]) rfl rfl (by decide +kernel) (fun w1 h1 => ?_)
  obtain rfl := h1
  show XA _ _ _ _ _ _ _ ([.inr (.inr (2, [.ref 1, .ref 2, .ref 3, .ref 4, .ref 5, .ref 6])), .inl (row 8 (S2 5)), .inl (row 8 (S2 6)), .inl (row 8 (S2 7)), .inl (row 80 (S2 8)), .inl (row 80 (S2 9)), .inl (row 80 (S 10))] ++ [.inr (.inr (2, [.ref 8, .ref 9, .ref 10, .ref 11, .ref 12, .ref 13])), .inl (row 8 (S2 5)), .inl (row 8 (S2 6)), .inl (row 8 (S2 7)), .inl (row 80 (S2 8)), .inl (row 80 (S2 9)), .inl (row 80 (S2 10))]) _ _
  refine x_aload_n dX2_copyFrom_55 rfl ?_
  refine x_getf dX2_copyFrom_56 flX2_27 rfl rfl ?_
  refine x_aload_n dX2_copyFrom_59 rfl ?_
  refine x_getf dX2_copyFrom_60 flX2_27 rfl rfl ?_
  refine x_callv [13, 6] (x_iSN dX2_copyFrom_63 mlX2_36 lbX6_copyRow rfl) (kX6_copyRow l g 80 (by decide) (S2 10) (S 10)) (by decide) (by decide) (by decide) (by simp [Value.category]) rfl rfl (by decide +kernel) (fun w1 h1 => ?_)
  obtain rfl := h1
  show XA _ _ _ _ _ _ _ ([.inr (.inr (2, [.ref 1, .ref 2, .ref 3, .ref 4, .ref 5, .ref 6])), .inl (row 8 (S2 5)), .inl (row 8 (S2 6)), .inl (row 8 (S2 7)), .inl (row 80 (S2 8)), .inl (row 80 (S2 9)), .inl (row 80 (S2 10))] ++ [.inr (.inr (2, [.ref 8, .ref 9, .ref 10, .ref 11, .ref 12, .ref 13])), .inl (row 8 (S2 5)), .inl (row 8 (S2 6)), .inl (row 8 (S2 7)), .inl (row 80 (S2 8)), .inl (row 80 (S2 9)), .inl (row 80 (S2 10))]) _ _
  exact x_retv dX2_copyFrom_66 rfl rfl rfl (⟨rfl, rfl⟩)
