set_option maxRecDepth 100000 in
set_option maxHeartbeats 4000000 in
theorem kX7_valueOf (l : Launch) (g : XG) (N A Z B : Nat → Int32) (u : Int32) (L : Nat → Int32) (f k i e : Nat) (wd : Nat → Nat) (hf : f < 8) (hi : i < 10) (hw : fW N f k wd) (he : N (192 + 30 * f + (20 + i)) = nI e) (hel : e < 257) : Ct l g MX7_valueOf [.ref 0, .int (nI f), .int (nI i)] (wM N A Z B u L) (Qp (nI ((corN wd k i + e) % 257)) (wM N A Z B u L)) := by
  refine Ct_of (by decide) (by simp [Value.category]) (Nat.le_of_ble_eq_true rfl) ?_
  refine x_aload_n dX7_valueOf_0 rfl ?_
  refine x_iload_n dX7_valueOf_1 rfl ?_
  refine x_iload_n dX7_valueOf_2 rfl ?_
  refine x_callp [0, 1, 2, 3, 4, 5] (x_iV dX7_valueOf_3 mlX7_64 lbX7_correct rfl rfl rfl rfl) (kX7_correct l g _ _ _ _ _ _ f k i wd hf (by omega) hw) (by decide) rfl rfl (by decide) (by decide) (by simp [Value.category]) rfl rfl (by decide +kernel) ?_
  refine x_aload_n dX7_valueOf_6 rfl ?_
  refine x_iload_n dX7_valueOf_7 rfl ?_
  refine x_bipush (v := 20) dX7_valueOf_8 (by decide) ?_
  refine x_iload_n dX7_valueOf_10 rfl ?_
  refine x_iadd dX7_valueOf_11 ?_
  rw [ad20]
  refine x_callp [0, 1, 2, 3, 4, 5] (x_iV dX7_valueOf_12 mlX7_29 lbX7_of rfl rfl rfl rfl) (kX7_of l g _ _ _ _ _ _ f (20 + i) hf (by omega)) (by decide) rfl rfl (by decide) (by decide) (by simp [Value.category]) rfl rfl (by decide +kernel) ?_
  refine x_iadd dX7_valueOf_15 ?_
  rw [he, nI_add]
  refine x_sipush (v := 257) dX7_valueOf_16 (by decide) ?_
  refine x_irem dX7_valueOf_19 (by decide) ?_
  rw [rem257 (by have := corN_lt (i := i) (fun d hd => (hw.2.2 d hd).2); omega)]
  exact x_reti dX7_valueOf_20 rfl rfl rfl (⟨rfl, rfl⟩)

theorem ix_bal {p q : Int32} (hp : vp_in p 12) (hq : vp_in q 12) : ix (48 + 12 * p + q) (48 + (12 * cl p + cl q)) 439 := by
  obtain ⟨p1, p2⟩ := vin_iff.mp hp
  obtain ⟨q1, q2⟩ := vin_iff.mp hq
  have e : (48 : Int32) + 12 * p + q = nI (48 + (12 * cl p + cl q)) := by
    conv => lhs; rw [nI_cl p1, nI_cl q1, show (12 : Int32) * nI (cl p) = nI (12 * cl p) from pk_mul 12 (cl p), show (48 : Int32) + nI (12 * cl p) = nI (48 + 12 * cl p) from nI_add 48 _, nI_add, Nat.add_assoc]
  rw [e]; exact ix_nI (by omega) (by decide)
def mOwe (N : Nat → Int32) (p q a : Int32) : Nat → Int32 := cond (decide (p = q)) N (upd (upd N (48 + (12 * cl p + cl q)) (N (48 + (12 * cl p + cl q)) + a)) (48 + (12 * cl q + cl p)) ((upd N (48 + (12 * cl p + cl q)) (N (48 + (12 * cl p + cl q)) + a)) (48 + (12 * cl q + cl p)) - a))
/-- the first i cells from b on are 0 -/
def zN (N : Nat → Int32) (b i : Nat) : Nat → Int32 := fun x => if b ≤ x ∧ x < b + i then 0 else N x
theorem zN_0 (n : Nat) (N : Nat → Int32) (b : Nat) : row n N = row n (zN N b 0) := row_congr fun x _ => by simp only [zN]; rw [if_neg (by omega)]
theorem zN_s (n : Nat) (N : Nat → Int32) (b i : Nat) : row n (upd (zN N b i) (b + i) 0) = row n (zN N b (i + 1)) := row_congr fun x _ => by
  simp only [upd, zN]
  by_cases h : x = b + i
  · rw [if_pos h, if_pos (by omega)]
  · rw [if_neg h]
    by_cases h2 : b ≤ x ∧ x < b + i
    · rw [if_pos h2, if_pos (by omega)]
    · rw [if_neg h2, if_neg (by omega)]
/-- row p and column p of the balances, as far as i, are 0 -/
def zB (N : Nat → Int32) (p i : Nat) : Nat → Int32 := fun x => if 48 ≤ x ∧ x < 192 ∧ (((x - 48) / 12 = p ∧ (x - 48) % 12 < i) ∨ ((x - 48) % 12 = p ∧ (x - 48) / 12 < i)) then 0 else N x
theorem zB_0 (N : Nat → Int32) (p : Nat) : row 439 N = row 439 (zB N p 0) := row_congr fun x _ => by simp only [zB]; rw [if_neg (by omega)]
theorem zB_s (N : Nat → Int32) {p i : Nat} (hp : p < 12) (hi : i < 12) : row 439 (upd (upd (zB N p i) (48 + (12 * p + i)) 0) (48 + (12 * i + p)) 0) = row 439 (zB N p (i + 1)) := row_congr fun x _ => by
  simp only [upd, zB]
  by_cases h1 : x = 48 + (12 * i + p)
  · rw [if_pos h1, if_pos (by omega)]
  · by_cases h2 : x = 48 + (12 * p + i)
    · rw [if_neg h1, if_pos h2, if_pos (by omega)]
    · rw [if_neg h1, if_neg h2]
      by_cases h3 : 48 ≤ x ∧ x < 192 ∧ (((x - 48) / 12 = p ∧ (x - 48) % 12 < i) ∨ ((x - 48) % 12 = p ∧ (x - 48) / 12 < i))
      · rw [if_pos h3, if_pos (by omega)]
      · rw [if_neg h3, if_neg (by omega)]
def mGo (N : Nat → Int32) (p : Nat) : Nat → Int32 := zB (zN N (4 * p) 4) p 12
def mDe (N : Nat → Int32) (f : Nat) : Nat → Int32 := zN N (192 + 30 * f) 30

set_option maxRecDepth 100000 in
set_option maxHeartbeats 4000000 in
theorem kX7_owes (l : Launch) (g : XG) (N A Z B : Nat → Int32) (u : Int32) (L : Nat → Int32) (p q a : Int32) (hp : vp_in p 12) (hq : vp_in q 12) : Ct l g MX7_owes [.ref 0, .int p, .int q, .int a] (wM N A Z B u L) (Qv (fun w1 => w1 = wM (mOwe N p q a) A Z B u L)) := by
  refine Ct_of (by decide) (by simp [Value.category]) (Nat.le_of_ble_eq_true rfl) ?_
  refine x_iload_n dX7_owes_0 rfl ?_
  refine x_iload_n dX7_owes_1 rfl ?_
  refine x_icmp_eq (tgt := 33) dX7_owes_2 (by decide) (fun c_2 => ?_) (fun c_2 => ?_)
  · exact x_retv dX7_owes_33 rfl rfl rfl (⟨rfl, by first | (rw [mOwe, show decide (p = q) = true by simp [*]] <;> rfl) | (rw [mOwe, show decide (p = q) = false by simp [*]] <;> rfl)⟩)
  · refine x_aload_n dX7_owes_5 rfl ?_
    refine x_getf dX7_owes_6 flX7_7 rfl rfl ?_
    refine x_iload_n dX7_owes_9 rfl ?_
    refine x_iload_n dX7_owes_10 rfl ?_
    refine x_callp [] (x_iS dX7_owes_11 mlX7_40 lbX7_balanceAt rfl) (kX7_balanceAt l g _ _) (by decide) rfl rfl (by decide) (by decide) (by simp [Value.category]) rfl rfl (by decide +kernel) ?_
    refine x_dup2 dX7_owes_14 rfl rfl ?_
    refine x_iar dX7_owes_15 rfl (ix_bal hp hq) ?_
    refine x_iload_n dX7_owes_16 rfl ?_
    refine x_iadd dX7_owes_17 ?_
    refine x_iaw dX7_owes_18 rfl (ix_bal hp hq) ?_
    refine x_aload_n dX7_owes_19 rfl ?_
    refine x_getf dX7_owes_20 flX7_7 rfl rfl ?_
    refine x_iload_n dX7_owes_23 rfl ?_
    refine x_iload_n dX7_owes_24 rfl ?_
    refine x_callp [] (x_iS dX7_owes_25 mlX7_40 lbX7_balanceAt rfl) (kX7_balanceAt l g _ _) (by decide) rfl rfl (by decide) (by decide) (by simp [Value.category]) rfl rfl (by decide +kernel) ?_
    refine x_dup2 dX7_owes_28 rfl rfl ?_
    refine x_iar dX7_owes_29 rfl (ix_bal hq hp) ?_
    refine x_iload_n dX7_owes_30 rfl ?_
    refine x_isub dX7_owes_31 ?_
    refine x_iaw dX7_owes_32 rfl (ix_bal hq hp) ?_
    exact x_retv dX7_owes_33 rfl rfl rfl (⟨rfl, by first | (rw [mOwe, show decide (p = q) = true by simp [*]] <;> rfl) | (rw [mOwe, show decide (p = q) = false by simp [*]] <;> rfl)⟩)

set_option maxRecDepth 100000 in
set_option maxHeartbeats 4000000 in
theorem lpX7_deletes (l : Launch) (g : XG) (N A Z B : Nat → Int32) (u : Int32) (L : Nat → Int32) (f : Nat) (hf : f < 8) : XA l g MX7_deletes (Qv (fun w1 => w1 = wM (mDe N f) A Z B u L)) 2 ((fun i => [some (.ref 0), some (.int (nI f)), some (.int (nI i))]) 0) ((fun _ => []) 0) ((fun i => wM (zN N (192 + 30 * f) i) A Z B u L) 0) 0 0 := by
  refine x_for 30 (fun _ => True) (fun i => [some (.ref 0), some (.int (nI f)), some (.int (nI i))]) (fun _ => []) (fun i => wM (zN N (192 + 30 * f) i) A Z B u L) trivial (fun i hi hp ih => ?_) (fun hp => ?_)
  · refine x_iload_n dX7_deletes_2 rfl ?_
    refine x_bipush (v := 30) dX7_deletes_3 (by decide) ?_
    refine x_icmp_ge_f (tgt := 25) dX7_deletes_5 (by decide) (nI_nle_of rfl (by decide) hi) ?_
    refine x_aload_n dX7_deletes_8 rfl ?_
    refine x_getf dX7_deletes_9 flX7_7 rfl rfl ?_
    refine x_iload_n dX7_deletes_12 rfl ?_
    refine x_iload_n dX7_deletes_13 rfl ?_
    refine x_callp [] (x_iS dX7_deletes_14 mlX7_33 lbX7_at rfl) (kX7_at l g _ _) (by decide) rfl rfl (by decide) (by decide) (by simp [Value.category]) rfl rfl (by decide +kernel) ?_
    refine x_iconst (v := 0) dX7_deletes_17 (by decide) ?_
    refine x_iaw dX7_deletes_18 rfl (ix_at hf hi) ?_
    first | refine x_iinc dX7_deletes_19 (by decide) rfl (nI_inc _) ?_ | refine x_iinc dX7_deletes_19 (by decide) rfl (inc_1 _) ?_
    refine x_goto (tgt := 2) dX7_deletes_22 (by decide) ?_
    refine x_eq (ih trivial) rfl rfl ?_
    exact congrArg (fun z => List.set (wM (zN N (192 + 30 * f) i) A Z B u L) 1 (Sum.inl z)) (zN_s 439 N (192 + 30 * f) i)
  · refine x_iload_n dX7_deletes_2 rfl ?_
    refine x_bipush (v := 30) dX7_deletes_3 (by decide) ?_
    refine x_icmp_ge_t (tgt := 25) dX7_deletes_5 (by decide) (nI_le_of rfl (by decide) (Nat.le_refl _)) ?_
    exact x_retv dX7_deletes_25 rfl rfl rfl (⟨rfl, rfl⟩)

set_option maxRecDepth 100000 in
set_option maxHeartbeats 4000000 in
theorem kX7_deletes (l : Launch) (g : XG) (N A Z B : Nat → Int32) (u : Int32) (L : Nat → Int32) (f : Nat) (hf : f < 8) : Ct l g MX7_deletes [.ref 0, .int (nI f)] (wM N A Z B u L) (Qv (fun w1 => w1 = wM (mDe N f) A Z B u L)) := by
  refine Ct_of (by decide) (by simp [Value.category]) (Nat.le_of_ble_eq_true rfl) ?_
  refine x_iconst (v := 0) dX7_deletes_0 (by decide) ?_
  refine x_istore_n dX7_deletes_1 (by decide) ?_
  refine x_eq (lpX7_deletes l g N A Z B u L f hf) rfl rfl ?_
  exact congrArg (fun z => List.set (wM (N) A Z B u L) 1 (Sum.inl z)) (zN_0 439 N (192 + 30 * f))

set_option maxRecDepth 100000 in
set_option maxHeartbeats 4000000 in
theorem lqX7_goes (l : Launch) (g : XG) (N A Z B : Nat → Int32) (u : Int32) (L : Nat → Int32) (p : Nat) (hp2 : p < 12) : XA l g MX7_goes (Qv (fun w1 => w1 = wM (mGo N p) A Z B u L)) 26 ((fun i => [some (.ref 0), some (.int (nI p)), some (.int (nI i))]) 0) ((fun _ => []) 0) ((fun i => wM (zB (zN N (4 * p) 4) p i) A Z B u L) 0) 0 0 := by
  refine x_for 12 (fun _ => True) (fun i => [some (.ref 0), some (.int (nI p)), some (.int (nI i))]) (fun _ => []) (fun i => wM (zB (zN N (4 * p) 4) p i) A Z B u L) trivial (fun i hi hp ih => ?_) (fun hp => ?_)
  · refine x_iload_n dX7_goes_26 rfl ?_
    refine x_bipush (v := 12) dX7_goes_27 (by decide) ?_
    refine x_icmp_ge_f (tgt := 60) dX7_goes_29 (by decide) (nI_nle_of rfl (by decide) hi) ?_
    refine x_aload_n dX7_goes_32 rfl ?_
    refine x_getf dX7_goes_33 flX7_7 rfl rfl ?_
    refine x_iload_n dX7_goes_36 rfl ?_
    refine x_iload_n dX7_goes_37 rfl ?_
    refine x_callp [] (x_iS dX7_goes_38 mlX7_40 lbX7_balanceAt rfl) (kX7_balanceAt l g _ _) (by decide) rfl rfl (by decide) (by decide) (by simp [Value.category]) rfl rfl (by decide +kernel) ?_
    refine x_iconst (v := 0) dX7_goes_41 (by decide) ?_
    refine x_iaw dX7_goes_42 rfl (show ix (48 + 12 * nI p + nI i) (48 + (12 * p + i)) 439 from by have := ix_bal (vin_nI (by decide) hp2) (vin_nI (n := 12) (by decide) hi); rwa [cl_nI (by omega), cl_nI (by omega)] at this) ?_
    refine x_aload_n dX7_goes_43 rfl ?_
    refine x_getf dX7_goes_44 flX7_7 rfl rfl ?_
    refine x_iload_n dX7_goes_47 rfl ?_
    refine x_iload_n dX7_goes_48 rfl ?_
    refine x_callp [] (x_iS dX7_goes_49 mlX7_40 lbX7_balanceAt rfl) (kX7_balanceAt l g _ _) (by decide) rfl rfl (by decide) (by decide) (by simp [Value.category]) rfl rfl (by decide +kernel) ?_
    refine x_iconst (v := 0) dX7_goes_52 (by decide) ?_
    refine x_iaw dX7_goes_53 rfl (show ix (48 + 12 * nI i + nI p) (48 + (12 * i + p)) 439 from by have := ix_bal (vin_nI (n := 12) (by decide) hi) (vin_nI (by decide) hp2); rwa [cl_nI (by omega), cl_nI (by omega)] at this) ?_
    first | refine x_iinc dX7_goes_54 (by decide) rfl (nI_inc _) ?_ | refine x_iinc dX7_goes_54 (by decide) rfl (inc_1 _) ?_
    refine x_goto (tgt := 26) dX7_goes_57 (by decide) ?_
    refine x_eq (ih trivial) rfl rfl ?_
    exact congrArg (fun z => List.set (wM (zB (zN N (4 * p) 4) p i) A Z B u L) 1 (Sum.inl z)) (zB_s (zN N (4 * p) 4) hp2 hi)
  · refine x_iload_n dX7_goes_26 rfl ?_
    refine x_bipush (v := 12) dX7_goes_27 (by decide) ?_
    refine x_icmp_ge_t (tgt := 60) dX7_goes_29 (by decide) (nI_le_of rfl (by decide) (Nat.le_refl _)) ?_
    exact x_retv dX7_goes_60 rfl rfl rfl (⟨rfl, rfl⟩)

set_option maxRecDepth 100000 in
set_option maxHeartbeats 4000000 in
theorem lpX7_goes (l : Launch) (g : XG) (N A Z B : Nat → Int32) (u : Int32) (L : Nat → Int32) (p : Nat) (hp2 : p < 12) : XA l g MX7_goes (Qv (fun w1 => w1 = wM (mGo N p) A Z B u L)) 2 ((fun i => [some (.ref 0), some (.int (nI p)), some (.int (nI i))]) 0) ((fun _ => []) 0) ((fun i => wM (zN N (4 * p) i) A Z B u L) 0) 0 0 := by
  refine x_for 4 (fun _ => True) (fun i => [some (.ref 0), some (.int (nI p)), some (.int (nI i))]) (fun _ => []) (fun i => wM (zN N (4 * p) i) A Z B u L) trivial (fun i hi hp ih => ?_) (fun hp => ?_)
  · refine x_iload_n dX7_goes_2 rfl ?_
    refine x_iconst (v := 4) dX7_goes_3 (by decide) ?_
    refine x_icmp_ge_f (tgt := 24) dX7_goes_4 (by decide) (nI_nle_of rfl (by decide) hi) ?_
    refine x_aload_n dX7_goes_7 rfl ?_
    refine x_getf dX7_goes_8 flX7_7 rfl rfl ?_
    refine x_iconst (v := 4) dX7_goes_11 (by decide) ?_
    refine x_iload_n dX7_goes_12 rfl ?_
    refine x_imul dX7_goes_13 ?_
    refine x_iload_n dX7_goes_14 rfl ?_
    refine x_iadd dX7_goes_15 ?_
    refine x_iconst (v := 0) dX7_goes_16 (by decide) ?_
    refine x_iaw dX7_goes_17 rfl (show ix (4 * nI p + nI i) (4 * p + i) 439 from by have := ix_p4 (c := i) (vin_nI (n := 12) (by decide) hp2) hi; rwa [cl_nI (by omega)] at this) ?_
    first | refine x_iinc dX7_goes_18 (by decide) rfl (nI_inc _) ?_ | refine x_iinc dX7_goes_18 (by decide) rfl (inc_1 _) ?_
    refine x_goto (tgt := 2) dX7_goes_21 (by decide) ?_
    refine x_eq (ih trivial) rfl rfl ?_
    exact congrArg (fun z => List.set (wM (zN N (4 * p) i) A Z B u L) 1 (Sum.inl z)) (zN_s 439 N (4 * p) i)
  · refine x_iload_n dX7_goes_2 rfl ?_
    refine x_iconst (v := 4) dX7_goes_3 (by decide) ?_
    refine x_icmp_ge_t (tgt := 24) dX7_goes_4 (by decide) (nI_le_of rfl (by decide) (Nat.le_refl _)) ?_
    refine x_iconst (v := 0) dX7_goes_24 (by decide) ?_
    refine x_istore_n dX7_goes_25 (by decide) ?_
    refine x_eq (lqX7_goes l g N A Z B u L p hp2) rfl rfl ?_
    exact congrArg (fun z => List.set (wM (zN N (4 * p) 4) A Z B u L) 1 (Sum.inl z)) (zB_0 (zN N (4 * p) 4) p)

set_option maxRecDepth 100000 in
set_option maxHeartbeats 4000000 in
theorem kX7_goes (l : Launch) (g : XG) (N A Z B : Nat → Int32) (u : Int32) (L : Nat → Int32) (p : Nat) (hp2 : p < 12) : Ct l g MX7_goes [.ref 0, .int (nI p)] (wM N A Z B u L) (Qv (fun w1 => w1 = wM (mGo N p) A Z B u L)) := by
  refine Ct_of (by decide) (by simp [Value.category]) (Nat.le_of_ble_eq_true rfl) ?_
  refine x_iconst (v := 0) dX7_goes_0 (by decide) ?_
  refine x_istore_n dX7_goes_1 (by decide) ?_
  refine x_eq (lpX7_goes l g N A Z B u L p hp2) rfl rfl ?_
  exact congrArg (fun z => List.set (wM (N) A Z B u L) 1 (Sum.inl z)) (zN_0 439 N (4 * p))

def cpN (f t : Nat → Int32) (i : Nat) : Nat → Int32 := fun x => if x < i then f x else t x
theorem cpN_0 (n : Nat) (f t : Nat → Int32) : row n t = row n (cpN f t 0) := row_congr fun x _ => by simp [cpN]
theorem cpN_n (n : Nat) (f t : Nat → Int32) : row n (cpN f t n) = row n f := row_congr fun x hx => by simp [cpN, hx]
theorem cpN_s (n : Nat) (f t : Nat → Int32) (i : Nat) : row n (upd (cpN f t i) i (f i)) = row n (cpN f t (i + 1)) := row_congr fun x _ => by
  simp only [upd, cpN]
  by_cases h : x = i
  · rw [if_pos h, if_pos (by omega), h]
  · rw [if_neg h]
    by_cases h2 : x < i
    · rw [if_pos h2, if_pos (by omega)]
    · rw [if_neg h2, if_neg (by omega)]

set_option maxRecDepth 100000 in
set_option maxHeartbeats 4000000 in
theorem lpX7_puts (l : Launch) (g : XG) (f t : Nat → Int32)  : XA l g MX7_puts (Qv (fun w1 => w1 = [.inl (row 439 f), .inl (row 439 f)])) 2 ((fun i => [some (.ref 0), some (.ref 1), some (.int (nI i))]) 0) ((fun _ => []) 0) ((fun i => [.inl (row 439 f), .inl (row 439 (cpN f t i))]) 0) 0 0 := by
  refine x_for 439 (fun _ => True) (fun i => [some (.ref 0), some (.ref 1), some (.int (nI i))]) (fun _ => []) (fun i => [.inl (row 439 f), .inl (row 439 (cpN f t i))]) trivial (fun i hi hp ih => ?_) (fun hp => ?_)
  · refine x_iload_n dX7_puts_2 rfl ?_
    refine x_sipush (v := 439) dX7_puts_3 (by decide) ?_
    refine x_icmp_ge_f (tgt := 21) dX7_puts_6 (by decide) (nI_nle_of rfl (by decide) hi) ?_
    refine x_aload_n dX7_puts_9 rfl ?_
    refine x_iload_n dX7_puts_10 rfl ?_
    refine x_aload_n dX7_puts_11 rfl ?_
    refine x_iload_n dX7_puts_12 rfl ?_
    refine x_iar dX7_puts_13 rfl (ix_nI hi (by decide)) ?_
    refine x_iaw dX7_puts_14 rfl (ix_nI hi (by decide)) ?_
    first | refine x_iinc dX7_puts_15 (by decide) rfl (nI_inc _) ?_ | refine x_iinc dX7_puts_15 (by decide) rfl (inc_1 _) ?_
    refine x_goto (tgt := 2) dX7_puts_18 (by decide) ?_
    refine x_eq (ih trivial) rfl rfl ?_
    exact congrArg (fun z => [(Sum.inl (row 439 f) : XC), Sum.inl z]) (cpN_s 439 f t i)
  · refine x_iload_n dX7_puts_2 rfl ?_
    refine x_sipush (v := 439) dX7_puts_3 (by decide) ?_
    refine x_icmp_ge_t (tgt := 21) dX7_puts_6 (by decide) (nI_le_of rfl (by decide) (Nat.le_refl _)) ?_
    exact x_retv dX7_puts_21 rfl rfl rfl (⟨rfl, congrArg (fun z => [(Sum.inl (row 439 f) : XC), Sum.inl z]) (cpN_n 439 f t)⟩)

set_option maxRecDepth 100000 in
set_option maxHeartbeats 4000000 in
theorem kX7_puts (l : Launch) (g : XG) (f t : Nat → Int32) : Ct l g MX7_puts [.ref 0, .ref 1] ([.inl (row 439 f), .inl (row 439 t)]) (Qv (fun w1 => w1 = [.inl (row 439 f), .inl (row 439 f)])) := by
  refine Ct_of (by decide) (by simp [Value.category]) (Nat.le_of_ble_eq_true rfl) ?_
  refine x_iconst (v := 0) dX7_puts_0 (by decide) ?_
  refine x_istore_n dX7_puts_1 (by decide) ?_
  refine x_eq (lpX7_puts l g f t) rfl rfl ?_
  exact congrArg (fun z => [(Sum.inl (row 439 f) : XC), Sum.inl z]) (cpN_0 439 f t)
