/-! ===== tolerance ===== -/
theorem sub_bits {s M : Nat} (hs : s < 4096) (hM : M < 4096) : nI s &&& (nI M ^^^ (-1)) = 0 ↔ ∀ p, p < 12 → s.testBit p = true → M.testBit p = true := by
  have e1 : (nI s &&& (nI M ^^^ (-1))).toBitVec = BitVec.ofNat 32 s &&& (BitVec.ofNat 32 M ^^^ BitVec.allOnes 32) := by
    rw [Int32.toBitVec_and, Int32.toBitVec_xor]; rfl
  constructor
  · intro h p hp hb
    have h2 : (BitVec.ofNat 32 s &&& (BitVec.ofNat 32 M ^^^ BitVec.allOnes 32)).getLsbD p = false := by rw [← e1, h]; exact BitVec.getLsbD_zero
    rw [BitVec.getLsbD_and, BitVec.getLsbD_xor, BitVec.getLsbD_ofNat, BitVec.getLsbD_ofNat, BitVec.getLsbD_allOnes, decide_eq_true (show p < 32 by omega), hb] at h2
    cases hm : M.testBit p with
    | true => rfl
    | false => rw [hm] at h2; exact absurd h2 (by decide)
  · intro h
    apply Int32.toBitVec_inj.mp
    rw [e1]
    apply BitVec.eq_of_getLsbD_eq
    intro i hi
    rw [BitVec.getLsbD_and, BitVec.getLsbD_xor, BitVec.getLsbD_ofNat, BitVec.getLsbD_ofNat, BitVec.getLsbD_allOnes, decide_eq_true hi]
    show _ = (0#32).getLsbD i
    rw [BitVec.getLsbD_zero]
    cases hb : s.testBit i with
    | false => simp
    | true =>
      have hi12 : i < 12 := by
        rcases Nat.lt_or_ge i 12 with z | z
        · exact z
        · rw [Nat.testBit_lt_two_pow (Nat.lt_of_lt_of_le hs (Nat.pow_le_pow_right (n := 2) (i := 12) (by decide) z))] at hb
          exact absurd hb (by decide)
      rw [h i hi12 hb]; rfl
theorem setN_tb {s : Nat} (h : s < 4096) : setN (fun p => s.testBit p) 12 = s := by
  apply Nat.eq_of_testBit_eq
  intro i
  rcases Nat.lt_or_ge i 12 with hi | hi
  · rw [setN_bit _ 12 i hi]
  · rw [Nat.testBit_lt_two_pow (Nat.lt_of_lt_of_le (setN_lt _ 12) (Nat.pow_le_pow_right (by decide) hi)), Nat.testBit_lt_two_pow (Nat.lt_of_lt_of_le h (Nat.pow_le_pow_right (n := 2) (i := 12) (by decide) hi))]
theorem setN_mono {b b' : Nat → Bool} : ∀ {n}, (∀ k, k < n → b k = true → b' k = true) → setN b n ≤ setN b' n
  | 0, _ => Nat.le_refl _
  | n + 1, h => by
    have ih := setN_mono (n := n) fun k hk => h k (by omega)
    rw [setN, setN]
    cases hb : b n with
    | false => rw [if_neg (by decide)]; omega
    | true => rw [h n (by omega) hb]; exact Nat.add_le_add ih (Nat.le_refl _)
/-- a set with c members in G and n - c outside -/
theorem pick (A G : Nat → Bool) : ∀ m c d, (∀ i, i < m → G i = true → A i = true) → c ≤ cntB G m → d ≤ cntB (fun i => A i && !G i) m → ∃ b : Nat → Bool, (∀ i, i < m → b i = true → A i = true) ∧ cntB b m = c + d ∧ cntB (fun i => b i && G i) m = c
  | 0, c, d, _, hc, hd => by
    have e1 : c = 0 := Nat.le_zero.mp hc
    have e2 : d = 0 := Nat.le_zero.mp hd
    subst e1 e2
    exact ⟨fun _ => false, fun i hi => absurd hi (Nat.not_lt_zero _), rfl, rfl⟩
  | m + 1, c, d, hG, hc, hd => by
    rw [cntB] at hc hd
    have key : ∀ (c' d' : Nat) (v : Bool), c' ≤ cntB G m → d' ≤ cntB (fun i => A i && !G i) m → (v = true → A m = true) → c' + d' + (if v then 1 else 0) = c + d → c' + (if v && G m then 1 else 0) = c → ∃ b : Nat → Bool, (∀ i, i < m + 1 → b i = true → A i = true) ∧ cntB b (m + 1) = c + d ∧ cntB (fun i => b i && G i) (m + 1) = c := by
      intro c' d' v h1 h2 h3 h4 h5
      obtain ⟨b, q1, q2, q3⟩ := pick A G m c' d' (fun i hi => hG i (by omega)) h1 h2
      refine ⟨fun i => if i = m then v else b i, fun i hi hb => ?_, ?_, ?_⟩
      · by_cases e : i = m
        · subst e; simp only [if_true] at hb; exact h3 hb
        · simp only [if_neg e] at hb; exact q1 i (by omega) hb
      · rw [cntB, cntB_congr (f' := b) (fun k hk => if_neg (by omega)), q2]; simpa using h4
      · rw [cntB, cntB_congr (f' := fun i => b i && G i) (fun k hk => by show ((if k = m then v else b k) && G k) = _; rw [if_neg (show ¬ k = m by omega)]), q3]; simpa using h5
    cases hg : G m with
    | true =>
      have ha := hG m (by omega) hg
      rw [hg] at hc hd
      simp only [Bool.not_true, Bool.and_false, if_true] at hc hd
      rcases Nat.eq_zero_or_pos c with e | e
      · exact key 0 d false (Nat.zero_le _) (by simpa using hd) (fun z => absurd z (by decide)) (by rw [e]; simp) (by rw [e]; rfl)
      · exact key (c - 1) d true (by omega) (by simpa using hd) (fun _ => ha) (by simp; omega) (by rw [hg]; simp; omega)
    | false =>
      rw [hg] at hc hd
      simp only [Bool.not_false, Bool.and_true] at hc hd
      have hc' : c ≤ cntB G m := by simpa using hc
      rcases Nat.lt_or_ge (cntB (fun i => A i && !G i) m) d with e | e
      · cases ha : A m with
        | false => rw [ha] at hd; simp at hd; omega
        | true =>
          rw [ha] at hd
          simp at hd
          exact key c (d - 1) true hc' (by omega) (fun _ => ha) (by simp; omega) (by rw [hg]; simp)
      · exact key c d false hc' e (fun z => absurd z (by decide)) (by simp) (by simp)
