/-! ===== decode ===== -/
theorem bc_a : ∀ a, a < 32 → ∀ b, b < 32 → bcI (nI (32 * a + b)) = nI (cntB (fun i => (32 * a + b).testBit i) 10) := by decide +kernel
theorem bc10 {s : Nat} (h : s < 1024) : bcI (nI s) = nI (cntB (fun i => s.testBit i) 10) := by
  have h1 := bc_a (s / 32) (by omega) (s % 32) (by omega)
  rwa [show 32 * (s / 32) + s % 32 = s by omega] at h1
theorem chk10 {k s : Nat} (hk : k ≤ 6) (h : s < 2 ^ (k + 4)) (hc : cntB (fun i => s.testBit i) 10 = k) : chk k k 0 (pkN (mX k s) 42) = true := by
  have h10 : 2 ^ (k + 4) ≤ 2 ^ 10 := Nat.pow_le_pow_right (by decide) (by omega)
  have e : 32 * (s / 32) + s % 32 = s := by omega
  have h1 := chk_all k (by omega) (s / 32) (by omega) (s % 32) (by omega)
  rw [e] at h1
  exact h1 h hc
theorem mX_lt (k s x : Nat) : mX k s x < 257 := by
  rw [mX]; split
  · exact lt_suC (fun _ => by decide) (fun _ _ => by decide) k 10 (Nat.le_refl _) x
  · decide
theorem piv_ok {k s : Nat} (hk : k ≤ 6) (hs : s < 2 ^ (k + 4)) (hc : cntB (bitB (nI s)) 10 = k) (c sv : Nat → Nat) : ∀ i, i < k → pvC (elI (suC c (bitB (nI s)) sv k 10) k i) k i < k := by
  have h10 : 2 ^ (k + 4) ≤ 2 ^ 10 := Nat.pow_le_pow_right (by decide) (by omega)
  have hb : ∀ i, i < 10 → bitB (nI s) i = s.testBit i := fun i hi => bitB_tb (by omega) (by omega)
  have hc' : cntB (fun i => s.testBit i) 10 = k := by rw [← hc]; exact cntB_congr fun i hi => (hb i hi).symm
  refine chk_piv hk (chk10 hk hs hc') fun r j hr hj => ?_
  rw [unp_pk (fun x _ => mX_lt k s x) _ (by omega), mX, if_pos (by omega)]
  exact su_ind c _ sv _ hk hb 10 (Nat.le_refl _) r j (by omega) hj
theorem ls_ss {S : MS} {N : Nat → Int32} (h : RR S N) {f : Nat} (hf : f < 8) (hx : 0 < dk S f) (s : Int32) : ∀ n, n ≤ 10 → allB (fun i => !(bitB s i && !stB S (nI f) (nI i))) n = !lsB N f s n
  | 0, _ => rfl
  | n + 1, hn => by
    rw [allB, lsB, ls_ss h hf hx s n (by omega), Bool.not_or]
    congr 2
    congr 1
    rw [stB, pl_nI S hf (by omega), ((h.f hf).2.2.1 hx).2.2.2.2.2.1 n (by omega), ← decide_not, decide_eq_decide, pl_neg h hf (by omega)]
theorem r_sh {n : Nat} (hn : n < 12) (s : Int32) : rgB s 0 ((1 <<< (nI n &&& 31)) - 1) = (decide (¬ s < 0) && decide (¬ 1 <<< (nI n &&& 31) ≤ s)) := by
  rw [sh_bit n hn]
  have : 2 ^ n ≤ 2 ^ 11 := Nat.pow_le_pow_right (by decide) (by omega)
  exact rg_fn (by omega) (Nat.pow_pos (by decide))
/-- the set, where it is one -/
theorem set_ex {s : Int32} {n : Nat} (hn : n < 12) (h : (decide (¬ s < 0) && decide (¬ 1 <<< (nI n &&& 31) ≤ s)) = true) : ∃ t, t < 2 ^ n ∧ s = nI t := by
  rw [sh_bit n hn] at h
  simp only [Bool.and_eq_true, decide_eq_true_eq] at h
  have hp : 2 ^ n ≤ 2 ^ 11 := Nat.pow_le_pow_right (by decide) (by omega)
  have h2 := h.2
  rw [nI_cl h.1, nI_leI (by omega) (cl_lt s)] at h2
  exact ⟨cl s, by omega, nI_cl h.1⟩
theorem cut_bits {t n : Nat} (hn : n ≤ 10) (ht : t < 2 ^ n) : cntB (bitB (nI t)) 10 = cntB (bitB (nI t)) n ∧ ∀ i, n ≤ i → i < 10 → bitB (nI t) i = false := by
  have hp : 2 ^ n ≤ 2 ^ 10 := Nat.pow_le_pow_right (by decide) hn
  have hz : ∀ i, n ≤ i → i < 10 → bitB (nI t) i = false := fun i h1 h2 => by
    rw [bitB_tb (by omega) (by omega)]
    exact Nat.testBit_lt_two_pow (Nat.lt_of_lt_of_le ht (Nat.pow_le_pow_right (by decide) h1))
  exact ⟨cntB_cut hn hz, hz⟩
theorem r_dc {S : MS} {N : Nat → Int32} (h : RR S N) (f s i : Int32) : okDec S f s i = (dcA N f s i && dcC N f s) := by
  rw [okDec, dcA, r_iv h, Bool.and_assoc]
  cases hh : hdB S f i with
  | false => rfl
  | true =>
    obtain ⟨a, b, ha, hb, rfl, rfl, hb6⟩ := hd_ex h hh
    have hx : 0 < dk S a := by omega
    have h1 := (h.f ha).1
    rw [Bool.true_and, Bool.true_and, dsB, exF_nI h ha, decide_eq_true hx, Bool.true_and, dcC, cl_nI (by omega), r_fr h ha, fn_nI h ha, cl_nI (by omega), r_sh (by omega), da_nI S ha, ((h.f ha).2.2.1 hx).2.2.1, h1.1]
    cases hs : (decide (¬ s < 0) && decide (¬ 1 <<< (nI (dk S a + dm S a) &&& 31) ≤ s)) with
    | false => rfl
    | true =>
      obtain ⟨t, ht, rfl⟩ := set_ex (by omega) hs
      have hp : 2 ^ (dk S a + dm S a) ≤ 2 ^ 10 := Nat.pow_le_pow_right (by decide) (by omega)
      rw [Bool.true_and, Bool.true_and, bc10 (by omega), ← (cut_bits (show dk S a + dm S a ≤ 10 by omega) ht).1]
      rw [cntB_congr (f' := bitB (nI t)) (fun i hi => (bitB_tb (by omega) (by omega)).symm)]
theorem suL_cut (c : Nat → Nat) {b : Nat → Bool} (sv : Nat → Nat) (k : Nat) {n : Nat} (hz : ∀ i, n ≤ i → i < 10 → b i = false) : ∀ m, n + m ≤ 10 → suL c b sv k (n + m) = suL c b sv k n
  | 0, _ => rfl
  | m + 1, hm => by rw [show n + (m + 1) = (n + m) + 1 from rfl, suL, if_neg (by rw [hz (n + m) (by omega) (by omega)]; decide), suL_cut c sv k hz m (by omega)]
theorem q_dc {S : MS} {N : Nat → Int32} (h : RR S N) {f s i : Int32} (hok : (okDec S f s i && ssB S f s) = true) : ∃ a k x, f = nI a ∧ i = nI x ∧ a < 8 ∧ k ≤ 6 ∧ x < k ∧ bcI s = nI k ∧ cntB (bitB s) 10 = k ∧ (∀ j, j < 10 → bitB s j = true → svI S (nI a) (nI j) = nI (mVn N a j)) ∧ N (192 + 30 * a + 2) = nI k ∧ dcA N f s i = true ∧ cntB (bitB s) (cl (mFr N a)) = k ∧ lsB N a s (cl (mFr N a)) = false ∧ ∀ c c' : Nat → Nat, (∀ j, j < k → pvC (elI (suC c (bitB s) (mVn N a) k 10) k j) k j < k) ∧ (∀ j, j < k → pvC (slI (suL c' (bitB s) (mVn N a) k (cl (mFr N a))) k j) k j < k) ∧ elI (suC c (bitB s) (mVn N a) k 10) k k (7 * x + k) = slI (suL c' (bitB s) (mVn N a) k (cl (mFr N a))) k k (7 * x + 6) := by
  rw [Bool.and_eq_true] at hok
  obtain ⟨hd, hss⟩ := hok
  have hdc := hd
  rw [r_dc h, Bool.and_eq_true] at hdc
  simp only [okDec, Bool.and_eq_true] at hd
  obtain ⟨a, x, ha, hx, rfl, rfl, hx6⟩ := hd_ex h hd.1
  have hk : 0 < dk S a := by omega
  have h1 := (h.f ha).1
  have hds := hd.2
  rw [dsB, exF_nI h ha, decide_eq_true hk, Bool.true_and, fn_nI h ha, da_nI S ha, h1.1, Bool.and_eq_true] at hds
  obtain ⟨t, ht, rfl⟩ := set_ex (by omega) hds.1
  have hbc : bcI (nI t) = nI (dk S a) := of_decide_eq_true hds.2
  have hp : 2 ^ (dk S a + dm S a) ≤ 2 ^ 10 := Nat.pow_le_pow_right (by decide) (by omega)
  have hp4 : 2 ^ (dk S a + dm S a) ≤ 2 ^ (dk S a + 4) := Nat.pow_le_pow_right (by decide) (by omega)
  obtain ⟨hcut, hz⟩ := cut_bits (show dk S a + dm S a ≤ 10 by omega) ht
  have hfr : cl (mFr N a) = dk S a + dm S a := by rw [r_fr h ha, cl_fn h ha]
  have hcn : cntB (bitB (nI t)) 10 = dk S a := by
    have := hbc
    rw [bc10 (by omega), cntB_congr (f' := bitB (nI t)) (fun i hi => (bitB_tb (by omega) (by omega)).symm)] at this
    exact nI_inj' this (by have := cntB_le (bitB (nI t)) 10; omega) (by omega)
  refine ⟨a, dk S a, x, rfl, rfl, ha, h1.2.1, hx, hbc, hcn, fun j hj hb => ?_, by rw [((h.f ha).2.2.1 hk).2.2.1, h1.1], hdc.1, by rw [hfr, ← hcut]; exact hcn, ?_, fun c c' => ?_⟩
  · have hjn : j < dk S a + dm S a := by
      rcases Nat.lt_or_ge j (dk S a + dm S a) with z | z
      · exact z
      · rw [hz j z hj] at hb; exact absurd hb (by decide)
    exact (r_vn h ha hjn hk).1
  · rw [ssB, cl_fn h ha, ls_ss h ha hk _ _ (by omega)] at hss
    rw [hfr]; simpa using hss
  · have hpv := piv_ok h1.2.1 (by omega) hcn c (mVn N a)
    have hEQ : EQa (dk S a) (suC c (bitB (nI t)) (mVn N a) (dk S a) 10) (suL c' (bitB (nI t)) (mVn N a) (dk S a) (cl (mFr N a))) := by
      have e10 : suL c' (bitB (nI t)) (mVn N a) (dk S a) (cl (mFr N a)) = suL c' (bitB (nI t)) (mVn N a) (dk S a) 10 := by
        have := suL_cut c' (mVn N a) (dk S a) hz (10 - (dk S a + dm S a)) (by omega)
        rw [show dk S a + dm S a + (10 - (dk S a + dm S a)) = 10 by omega] at this
        rw [hfr]; exact this.symm
      rw [e10]
      intro r hr
      exact su_EQ c c' (bitB (nI t)) (mVn N a) h1.2.1 10 r (by omega)
    have hb := pv_both hEQ h1.2.1 hpv
    exact ⟨hpv, hb.1, hb.2 x hx⟩
