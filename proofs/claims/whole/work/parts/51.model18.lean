/-! ===== the reference: how many in a set ===== -/
def lfS (s : Int32) : Nat → Int32
  | 0 => s
  | i + 1 => lfS s i &&& (lfS s i - 1)
def c1N (s : Int32) : Nat := fsN (fun i => decide (¬ lfS s i = 0)) 0 13
theorem lfS_12a : ∀ a, a < 64 → ∀ b, b < 64 → lfS (nI (64 * a + b)) 12 = 0 := by decide +kernel
theorem lfS_12 {m : Nat} (h : m < 4096) : lfS (nI m) 12 = 0 := by
  have h1 := lfS_12a (m / 64) (by omega) (m % 64) (by omega)
  rwa [show 64 * (m / 64) + m % 64 = m by omega] at h1
theorem c1N_lt {m : Nat} (h : m < 4096) : c1N (nI m) < 13 := by
  rcases Nat.lt_or_ge (c1N (nI m)) 13 with h1 | h1
  · exact h1
  · have h2 := fsN_lt (fun i => decide (¬ lfS (nI m) i = 0)) 13 0 12 (by omega) (show 12 < c1N (nI m) by omega)
    simp [lfS_12 h] at h2

set_option maxRecDepth 100000 in
set_option maxHeartbeats 4000000 in
theorem lpX7_count1 (l : Launch) (g : XG) (m : Nat) (hm : m < 4096) : XA l g MX7_count1 (Qp (nI (c1N (nI m))) ([])) 4 ((fun i => [some (.int (nI m)), some (.int (nI i)), some (.int (lfS (nI m) i))]) 0) ((fun _ => []) 0) ((fun _ => []) 0) 0 0 := by
  refine x_for (c1N (nI m)) (fun _ => True) (fun i => [some (.int (nI m)), some (.int (nI i)), some (.int (lfS (nI m) i))]) (fun _ => []) (fun _ => []) trivial (fun i hi hp ih => ?_) (fun hp => ?_)
  · refine x_iload_n dX7_count1_4 rfl ?_
    refine x_if_eq_f (tgt := 20) dX7_count1_5 (by decide) (of_decide_eq_true (fsN_lt (fun i => decide (¬ lfS (nI m) i = 0)) 13 0 i (Nat.zero_le _) hi)) ?_
    first | refine x_iinc dX7_count1_8 (by decide) rfl (nI_inc _) ?_ | refine x_iinc dX7_count1_8 (by decide) rfl (inc_1 _) ?_
    refine x_iload_n dX7_count1_11 rfl ?_
    refine x_iload_n dX7_count1_12 rfl ?_
    refine x_iconst (v := 1) dX7_count1_13 (by decide) ?_
    refine x_isub dX7_count1_14 ?_
    refine x_iand dX7_count1_15 ?_
    refine x_istore_n dX7_count1_16 (by decide) ?_
    refine x_goto (tgt := 4) dX7_count1_17 (by decide) ?_
    exact x_eq (ih trivial) rfl rfl rfl
  · refine x_iload_n dX7_count1_4 rfl ?_
    refine x_if_eq_t (tgt := 20) dX7_count1_5 (by decide) (Decidable.of_not_not (of_decide_eq_false (fsN_at (fun i => decide (¬ lfS (nI m) i = 0)) 13 0 (c1N_lt hm)))) ?_
    refine x_iload_n dX7_count1_20 rfl ?_
    exact x_reti dX7_count1_21 rfl rfl rfl (⟨rfl, rfl⟩)

set_option maxRecDepth 100000 in
set_option maxHeartbeats 4000000 in
theorem kX7_count1 (l : Launch) (g : XG) (m : Nat) (hm : m < 4096) : Ct l g MX7_count1 [.int (nI m)] ([]) (Qp (nI (c1N (nI m))) ([])) := by
  refine Ct_of (by decide) (by simp [Value.category]) (Nat.le_of_ble_eq_true rfl) ?_
  refine x_iconst (v := 0) dX7_count1_0 (by decide) ?_
  refine x_istore_n dX7_count1_1 (by decide) ?_
  refine x_iload_n dX7_count1_2 rfl ?_
  refine x_istore_n dX7_count1_3 (by decide) ?_
  exact lpX7_count1 l g m hm
