/-! ===== sets of peers as numbers; count ===== -/
def setN (b : Nat → Bool) : Nat → Nat
  | 0 => 0
  | n + 1 => setN b n + (if b n then 2 ^ n else 0)
theorem setN_lt (b : Nat → Bool) : ∀ n, setN b n < 2 ^ n
  | 0 => Nat.zero_lt_one
  | n + 1 => by have := setN_lt b n; rw [setN, Nat.pow_succ]; split <;> omega
theorem setN_bit (b : Nat → Bool) : ∀ n p, p < n → (setN b n).testBit p = b p
  | 0, p, h => absurd h (Nat.not_lt_zero _)
  | n + 1, p, h => by
    have hl := setN_lt b n
    rw [setN]
    cases hb : b n with
    | false =>
      rw [if_neg (by decide), Nat.add_zero]
      by_cases e : p = n
      · subst e; rw [hb]; exact Nat.testBit_lt_two_pow hl
      · exact setN_bit b n p (by omega)
    | true =>
      rw [if_pos rfl, Nat.add_comm]
      by_cases e : p = n
      · subst e; rw [Nat.testBit_two_pow_add_eq, Nat.testBit_lt_two_pow hl, hb]; rfl
      · rw [Nat.testBit_two_pow_add_gt (by omega)]; exact setN_bit b n p (by omega)
theorem mPs_set (N : Nat → Int32) : ∀ p, p ≤ 12 → mPs N p = nI (setN (fun q => mPe N (nI q)) p)
  | 0, _ => rfl
  | p + 1, hp => by
    have hl := setN_lt (fun q => mPe N (nI q)) p
    have h12 : 2 ^ p ≤ 2 ^ 11 := Nat.pow_le_pow_right (by decide) (by omega)
    rw [mPs, mPs_set N p (by omega), setN]
    by_cases h : mPe N (nI p) = true
    · rw [if_pos h, if_pos h]
      have h1 := or_bit p (by omega) (setN (fun q => mPe N (nI q)) p / 64) (by omega) (setN (fun q => mPe N (nI q)) p % 64) (by omega) (by omega)
      rw [show 64 * (setN (fun q => mPe N (nI q)) p / 64) + setN (fun q => mPe N (nI q)) p % 64 = setN (fun q => mPe N (nI q)) p by omega] at h1
      exact h1
    · rw [if_neg h, if_neg h, Int32.or_zero]; rfl
theorem pop_a : ∀ a, a < 64 → ∀ b, b < 64 → c1N (nI (64 * a + b)) = cntB (fun p => (64 * a + b).testBit p) 12 := by decide +kernel
theorem pop12 {m : Nat} (h : m < 4096) : c1N (nI m) = cntB (fun p => m.testBit p) 12 := by
  have h1 := pop_a (m / 64) (by omega) (m % 64) (by omega)
  rwa [show 64 * (m / 64) + m % 64 = m by omega] at h1
theorem pop_set (b : Nat → Bool) : c1N (nI (setN b 12)) = cntB b 12 := by
  rw [pop12 (setN_lt b 12)]
  exact cntB_congr fun p hp => setN_bit b 12 p hp
/-- the set of the peers -/
def pSet (S : MS) : Nat := setN (fun q => exB S (nI q)) 12
theorem pSet_lt (S : MS) : pSet S < 4096 := setN_lt _ 12
theorem setN_congr {b b' : Nat → Bool} : ∀ {n}, (∀ k, k < n → b k = b' k) → setN b n = setN b' n
  | 0, _ => rfl
  | n + 1, h => by rw [setN, setN, setN_congr (fun k hk => h k (by omega)), h n (by omega)]
theorem r_ps {S : MS} {N : Nat → Int32} (h : RR S N) : mPs N 12 = nI (pSet S) := by
  rw [mPs_set N 12 (Nat.le_refl _), pSet]
  exact congrArg nI (setN_congr fun k _ => r_pe h _)
theorem sp_eq {S : MS} {N : Nat → Int32} (h : RR S N) : ∀ f, f ≤ 8 → sumI (fun f => spN S (nI f)) f = nI (sumN (cnP N) f)
  | 0, _ => rfl
  | f + 1, hf => by
    have hf8 : f < 8 := by omega
    have h1 := (h.f hf8).1
    rw [sumI, sumN, sp_eq h f (by omega), ← nI_add]
    congr 1
    rw [spN, cnP, r_fi h, exF_nI h hf8, cl_fn h hf8, r_fr h hf8, cl_fn h hf8]
    rcases Nat.eq_zero_or_pos (dk S f) with e | hx
    · rw [e, ((h.f hf8).2.1 e).1]; rfl
    · rw [decide_eq_true hx, if_pos rfl]
      refine congrArg nI (cntB_congr fun i hi => ?_)
      rw [spB, stB, pl_nI S hf8 (by omega), er_nI S hf8 (by omega), cnPi, ((h.f hf8).2.2.1 hx).2.2.2.2.2.2.1 i (by omega)]
      rcases (h.f hf8).2.2.2.1 i (by omega) with e3 | ⟨-, p, e, hp, he, e9, -, e10⟩
      · rw [e3.1, e3.2]; rfl
      · rw [e9, e10, decide_eq_true (nI_nm1 (by omega)), Bool.true_and, decide_eq_decide, nI_is0 (by omega), show (0 : Int32) = nI 0 from rfl, nI_leI (by omega) (by decide)]
        omega
theorem q_cn_e0 (S : MS) : nI (c1N (nI (pSet S))) = nI (cntB (fun p => exB S (nI p)) 12) := by rw [pSet, pop_set]
theorem q_cn_e1 {S : MS} {N : Nat → Int32} (h : RR S N) : mFs N = nI (cntB (fun f => exF S (nI f)) 8) := by rw [mFs, cntB_congr fun f _ => r_fi h (nI f)]
theorem q_cn_e2 {S : MS} {N : Nat → Int32} (h : RR S N) : cntB (cnS N) 8 = cntB (fun f => sfB S (nI f)) 8 := cntB_congr fun f hf => by
  rw [cnS, r_fi h, exF_nI h hf]
  rcases Nat.eq_zero_or_pos (dk S f) with e | hx
  · rw [sfB, exF_nI h hf, e, show decide (0 < 0) = false from rfl]; simp
  · rw [decide_eq_true hx, Bool.true_and, r_sf h hf hx]
theorem q_cn_e3 {S : MS} {N : Nat → Int32} (h : RR S N) : sumI (cnT N) 8 = sumI (fun f => stN S (nI f)) 8 := sumI_congr fun f hf => by
  rw [cnT, r_fi h, exF_nI h hf]
  rcases Nat.eq_zero_or_pos (dk S f) with e | hx
  · rw [e, stN, cl_fn h hf, e, ((h.f hf).2.1 e).1]; rfl
  · rw [decide_eq_true hx, if_pos rfl, q_end0 h hf hx]
theorem q_cn_e5 {S : MS} {N : Nat → Int32} (h : RR S N) : sumI (cnR N) 12 = sumI (fun p => if onB S (nI p) then frI S (nI p) else 0) 12 := sumI_congr fun p hp => by
  rw [cnR, r_pe h, r_on h hp, r_fe h hp]
  cases ho : onB S (nI p) with
  | false => rw [Bool.and_false]
  | true => rw [on_ex h hp ho]; rfl
theorem q_cn_e6 {S : MS} {N : Nat → Int32} (h : RR S N) : N 432 = S 12 0 := by obtain ⟨k, -, q1, q2⟩ := r_432 h; rw [q1, q2]
theorem q_cn_e8 {S : MS} {N : Nat → Int32} (h : RR S N) : sumI (cnO N) 144 = sumI (fun k => if S 4 k < 0 then 0 else S 4 k) 144 := sumI_congr fun k hk => by
  rw [cnO, h.2.1.1 k hk]
  by_cases c1 : S 4 k < 0
  · rw [if_pos c1, if_pos (Int32.le_of_lt c1)]
  · rw [if_neg c1]
    by_cases c2 : S 4 k ≤ 0
    · rw [if_pos c2]
      exact (Int32.le_antisymm c2 (Int32.not_lt.mp c1)).symm
    · rw [if_neg c2]
theorem q_cn {S : MS} {N : Nat → Int32} (h : RR S N) (n : Nat) (w : Int32) : vCnm N (pSet S) (nI n) w = vCnt S n w := by
  rw [vCnm, vCnt]
  cases hr : rgB w 0 8 with
  | false =>
    have hn := rg_not (n := 8) rfl (by decide) hr
    rw [if_neg (by decide), if_neg (show ¬ w = 0 from hn 0 (by decide)), if_neg (show ¬ w = 1 from hn 1 (by decide)), if_neg (show ¬ w = 2 from hn 2 (by decide)), if_neg (show ¬ w = 3 from hn 3 (by decide)), if_neg (show ¬ w = 4 from hn 4 (by decide)), if_neg (show ¬ w = 5 from hn 5 (by decide)), if_neg (show ¬ w = 6 from hn 6 (by decide)), if_neg (show ¬ w = 7 from hn 7 (by decide)), if_neg (show ¬ w = 8 from hn 8 (by decide))]
  | true =>
    obtain ⟨j, hj, rfl⟩ := rgx (n := 8) rfl (by decide) hr
    rw [if_pos rfl, cnV, q_cn_e0, q_cn_e1 h, q_cn_e2 h, q_cn_e3 h, q_cn_e5 h, q_cn_e6 h, q_cn_e8 h, ← sp_eq h 8 (Nat.le_refl _)]
    generalize sumI (fun k => if S 4 k < 0 then 0 else S 4 k) 144 = z8
    generalize sumI (fun p => if onB S (nI p) then frI S (nI p) else 0) 12 = z5
    generalize sumI (fun f => spN S (nI f)) 8 = z4
    generalize sumI (fun f => stN S (nI f)) 8 = z3
    rcases (show j = 0 ∨ j = 1 ∨ j = 2 ∨ j = 3 ∨ j = 4 ∨ j = 5 ∨ j = 6 ∨ j = 7 ∨ j = 8 by omega) with rfl | rfl | rfl | rfl | rfl | rfl | rfl | rfl | rfl
    · simp [show nI 0 = (0 : Int32) from rfl]
    · simp [show nI 1 = (1 : Int32) from rfl]
    · simp [show nI 2 = (2 : Int32) from rfl]
    · simp [show nI 3 = (3 : Int32) from rfl]
    · simp [show nI 4 = (4 : Int32) from rfl]
    · simp [show nI 5 = (5 : Int32) from rfl]
    · simp [show nI 6 = (6 : Int32) from rfl]
    · simp [show nI 7 = (7 : Int32) from rfl]
    · simp [show nI 8 = (8 : Int32) from rfl]
