/-! ===== repair: who reads is owed ===== -/
def dD (o : Nat) (R : Nat → Bool) (x : Nat) : Int32 := if x / 12 = o ∧ ¬ x % 12 = o ∧ R (x % 12) = true then 1 else if x % 12 = o ∧ ¬ x / 12 = o ∧ R (x / 12) = true then -1 else 0
def addD (N : Nat → Int32) (o : Nat) (R : Nat → Bool) : Nat → Int32 := fun x => if 48 ≤ x ∧ x < 192 then N x + dD o R (x - 48) else N x
theorem addD_congr (N : Nat → Int32) (o : Nat) {R R' : Nat → Bool} (h : ∀ p, p < 12 → R p = R' p) : addD N o R = addD N o R' := by
  funext x
  simp only [addD]
  by_cases c : 48 ≤ x ∧ x < 192
  · rw [if_pos c, if_pos c, dD, dD, h _ (Nat.mod_lt _ (by decide)), h _ (show (x - 48) / 12 < 12 by omega)]
  · rw [if_neg c, if_neg c]
theorem addD_none (N : Nat → Int32) (o : Nat) : addD N o (fun _ => false) = N := by
  funext x
  simp only [addD, dD]
  simp
theorem addD_out (N : Nat → Int32) (o : Nat) (R : Nat → Bool) {x : Nat} (h : x < 48 ∨ 192 ≤ x) : addD N o R x = N x := if_neg (by omega)
/-- one debt more, cell by cell -/
def dE (o q : Nat) (x : Nat) : Int32 := if o = q then 0 else if x = 48 + (12 * q + o) then -1 else if x = 48 + (12 * o + q) then 1 else 0
theorem owe_pt (F : Nat → Int32) {o q : Nat} (ho : o < 12) (hq : q < 12) (x : Nat) : mOwe F (nI o) (nI q) 1 x = F x + dE o q x := by
  rw [mOwe, dE]
  by_cases e : o = q
  · subst e; rw [decide_eq_true rfl, cond_true, if_pos rfl, Int32.add_zero]
  · rw [decide_eq_false (fun z => e (nI_inj' z (by omega) (by omega))), cond_false, if_neg e, cl_nI (by omega), cl_nI (by omega)]
    by_cases c1 : x = 48 + (12 * q + o)
    · rw [if_pos c1, c1, pk_us, pk_un (by omega)]; exact Int32.sub_eq_add_neg _ _
    · rw [if_neg c1, pk_un c1]
      by_cases c2 : x = 48 + (12 * o + q)
      · rw [if_pos c2, c2, pk_us]
      · rw [if_neg c2, pk_un c2, Int32.add_zero]
theorem dD_add {o p : Nat} (ho : o < 12) (hp : p < 12) {R : Nat → Bool} (hR : R p = false) {x : Nat} (h1 : 48 ≤ x) (h2 : x < 192) : dD o R (x - 48) + dE o p x = dD o (fun q => R q || decide (q = p)) (x - 48) := by
  by_cases e : o = p
  · subst e
    rw [dE, if_pos rfl, Int32.add_zero, dD, dD]
    by_cases c1 : (x - 48) % 12 = o
    · by_cases c2 : (x - 48) / 12 = o
      · simp [c1, c2]
      · simp [c1, c2]
    · simp [c1]
  · rw [dE, if_neg e, dD, dD]
    by_cases c1 : x = 48 + (12 * p + o)
    · have a1 : (x - 48) / 12 = p := by omega
      have a2 : (x - 48) % 12 = o := by omega
      have e' : ¬ p = o := fun z => e z.symm
      rw [a1, a2, if_pos c1]
      simp [e', hR]
    · rw [if_neg c1]
      by_cases c2 : x = 48 + (12 * o + p)
      · have a1 : (x - 48) / 12 = o := by omega
        have a2 : (x - 48) % 12 = p := by omega
        have e' : ¬ p = o := fun z => e z.symm
        rw [a1, a2, if_pos c2]
        simp [e', hR]
      · rw [if_neg c2, Int32.add_zero]
        by_cases d1 : (x - 48) / 12 = o
        · have : ¬ (x - 48) % 12 = p := by omega
          by_cases d2 : (x - 48) % 12 = o
          · have : ¬ o = p := e
            simp [d1, d2]
          · simp [d1, d2, this]
        · by_cases d2 : (x - 48) % 12 = o
          · have : ¬ (x - 48) / 12 = p := by omega
            simp [d1, d2, this]
          · simp [d1, d2]
theorem owe_add (N : Nat → Int32) {o p : Nat} (ho : o < 12) (hp : p < 12) {R : Nat → Bool} (hR : R p = false) : mOwe (addD N o R) (nI o) (nI p) 1 = addD N o (fun q => R q || decide (q = p)) := by
  funext x
  rw [owe_pt _ ho hp]
  simp only [addD]
  by_cases c : 48 ≤ x ∧ x < 192
  · rw [if_pos c, if_pos c, Int32.add_assoc, dD_add ho hp hR c.1 c.2]
  · rw [if_neg c, if_neg c, dE]
    by_cases e : o = p
    · rw [if_pos e, Int32.add_zero]
    · rw [if_neg e, if_neg (by omega), if_neg (by omega), Int32.add_zero]
theorem mOl_add (N : Nat → Int32) {f o : Nat} (ho : o < 12) (hN : N (192 + 30 * f + 1) = nI o) (s : Int32) : ∀ i, i ≤ 12 → mOl N f s i = addD N o (fun p => decide (p < i) && bitB s p)
  | 0, _ => by
    rw [addD_congr N o (R' := fun _ => false) (fun p _ => by rw [decide_eq_false (Nat.not_lt_zero _), Bool.false_and]), addD_none]; rfl
  | i + 1, hi => by
    rw [mOl, mOl_add N ho hN s i (by omega), addD_out N o _ (by omega), hN]
    cases hb : bitB s i with
    | false =>
      rw [cond_false]
      refine addD_congr N o fun p hp => ?_
      by_cases e : p = i
      · rw [e, hb, Bool.and_false, Bool.and_false]
      · rw [show decide (p < i + 1) = decide (p < i) from decide_eq_decide.mpr (by omega)]
    | true =>
      rw [cond_true, owe_add N ho (by omega) (by rw [decide_eq_false (Nat.lt_irrefl _), Bool.false_and])]
      refine addD_congr N o fun p hp => ?_
      by_cases e : p = i
      · rw [e, hb, decide_eq_true rfl, decide_eq_true (Nat.lt_succ_self _), Bool.or_true]; rfl
      · rw [decide_eq_false e, Bool.or_false, show decide (p < i + 1) = decide (p < i) from decide_eq_decide.mpr (by omega)]
theorem nI_or (a b : Nat) : nI a ||| nI b = nI (a ||| b) := by
  apply Int32.toBitVec_inj.mp
  rw [Int32.toBitVec_or]
  exact (BitVec.ofNat_or).symm
theorem sh_bit : ∀ p, p < 12 → (1 : Int32) <<< (nI p &&& 31) = nI (2 ^ p) := by decide +kernel
theorem bitB_tb {s p : Nat} (hs : s < 4096) (hp : p < 12) : bitB (nI s) p = s.testBit p := by
  have := bit12 hs hp
  rw [bitI] at this
  rw [bitB, this]
  cases s.testBit p <;> rfl
theorem sOR_0 (S : MS) (f : Int32) : ∀ i t, ¬ t = 4 → (sOR S f i).1 t = S t
  | 0, _, _ => rfl
  | i + 1, t, ht => by
    rw [sOR]; split
    · show sOwe _ _ _ _ t = S t
      rw [owe_0 _ _ _ _ t ht]; exact sOR_0 S f i t ht
    · exact sOR_0 S f i t ht
theorem gd_4 {S S' : MS} (h : ∀ t, ¬ t = 4 → S' t = S t) (f i : Int32) : gdB S' f i = gdB S f i := by
  rw [gdB, gdB, erI, erI, plI, plI, onB, onB, h 10 (by decide), h 9 (by decide), h 1 (by decide)]
theorem rd_loop {S : MS} {N : Nat → Int32} (h : RR S N) {f : Nat} (hf : f < 8) (hx : 0 < dk S f) {o : Nat} (ho : o < 12) (h7 : S 7 f = nI o) (hox : ¬ S 0 o = 0) : ∀ i, i ≤ dk S f + dm S f → ∃ s, s < 4096 ∧ (mSr N f i).1 = nI s ∧ (sOR S (nI f) i).2 = (mSr N f i).2 ∧ RR (sOR S (nI f) i).1 (addD N o (fun p => s.testBit p)) ∧ ∀ p, s.testBit p = true → ∃ j, j < i ∧ S 9 (10 * f + j) = nI p ∧ p < 12
  | 0, _ => ⟨0, by decide, rfl, by
      show daI S (nI f) = N (192 + 30 * f + 2)
      rw [da_nI S hf, ((h.f hf).2.2.1 hx).2.2.1], by
      rw [show (fun p => Nat.testBit 0 p) = (fun _ => false) from funext fun p => Nat.zero_testBit p, addD_none]; exact h, fun p hp => by rw [Nat.zero_testBit] at hp; exact absurd hp (by decide)⟩
  | i + 1, hi => by
    obtain ⟨s, hs, i1, i2, i3, i4⟩ := rd_loop h hf hx ho h7 hox i (by omega)
    have h1 := (h.f hf).1
    have hi10 : i < 10 := by omega
    have e0 := sOR_0 S (nI f) i
    have eg : gdB (sOR S (nI f) i).1 (nI f) (nI i) = mGd N f i := by rw [gd_4 e0, r_gd h hf hi10 hx]
    rw [sOR, mSr, eg, i2]
    by_cases c : (!decide ((mSr N f i).2 ≤ 0) && mGd N f i) = true
    · rw [if_pos c, if_pos c]
      have hg : gdB S (nI f) (nI i) = true := by rw [← r_gd h hf hi10 hx]; simp only [Bool.and_eq_true] at c; exact c.2
      obtain ⟨p, hp, e9, -, hpx⟩ := gd_pl h hf hi10 hg
      have hnew : s.testBit p = false := by
        cases hb : s.testBit p with
        | false => rfl
        | true =>
          obtain ⟨j, hj, e, -⟩ := i4 p hb
          have := (h.f hf).2.2.2.2 j i (by omega) hi10 (by rw [e, e9]) (by rw [e]; exact nI_nm1 (by omega))
          omega
      have hbit : ∀ q, (s ||| 2 ^ p).testBit q = (s.testBit q || decide (q = p)) := fun q => by
        rw [Nat.testBit_or, Nat.testBit_two_pow]
        congr 1
        exact decide_eq_decide.mpr ⟨fun z => z.symm, fun z => z.symm⟩
      refine ⟨s ||| 2 ^ p, Nat.or_lt_two_pow (n := 12) hs (Nat.pow_lt_pow_right (by decide) hp), ?_, rfl, ?_, fun q hq => ?_⟩
      · show (mSr N f i).1 ||| (1 <<< (N (192 + 30 * f + (10 + i)) &&& 31)) = nI (s ||| 2 ^ p)
        rw [i1, ((h.f hf).2.2.1 hx).2.2.2.2.2.1 i hi10, e9, sh_bit p hp, nI_or]
      · show RR (sOwe (sOR S (nI f) i).1 (foI (sOR S (nI f) i).1 (nI f)) (plI (sOR S (nI f) i).1 (nI f) (nI i)) 1) _
        rw [fo_nI _ hf, pl_nI _ hf hi10, e0 7 (by decide), e0 9 (by decide), h7, e9]
        have := o_owe i3 ho hp (by rw [e0 0 (by decide)]; exact hox) (by rw [e0 0 (by decide)]; exact hpx) 1
        rw [owe_add N ho hp hnew] at this
        rw [show (fun q => (s ||| 2 ^ p).testBit q) = (fun q => s.testBit q || decide (q = p)) from funext hbit]
        exact this
      · rw [hbit q] at hq
        by_cases z : q = p
        · rw [z]; exact ⟨i, by omega, e9, hp⟩
        · rw [decide_eq_false z, Bool.or_false] at hq
          obtain ⟨j, hj, e, hq12⟩ := i4 q hq
          exact ⟨j, by omega, e, hq12⟩
    · rw [if_neg c, if_neg c]
      refine ⟨s, hs, i1, i2, i3, fun q hq => ?_⟩
      obtain ⟨j, hj, e⟩ := i4 q hq
      exact ⟨j, by omega, e⟩
theorem o_rd {S : MS} {N : Nat → Int32} (h : RR S N) {f : Nat} (hf : f < 8) (hx : 0 < dk S f) {o : Nat} (ho : o < 12) (h7 : S 7 f = nI o) (hox : ¬ S 0 o = 0) : ∃ s, s < 4096 ∧ mSo N f = nI s ∧ RR (sOweR S (nI f)) (addD N o (fun p => s.testBit p)) := by
  obtain ⟨s, hs, i1, -, i3, -⟩ := rd_loop h hf hx ho h7 hox (dk S f + dm S f) (Nat.le_refl _)
  refine ⟨s, hs, ?_, ?_⟩
  · rw [mSo, r_fr h hf, cl_fn h hf]; exact i1
  · rw [sOweR, cl_fn h hf]; exact i3
theorem mSr_congr {N N' : Nat → Int32} {f n : Nat} (h2 : N' (192 + 30 * f + 2) = N (192 + 30 * f + 2)) (hg : ∀ j, j < n → mGd N' f j = mGd N f j) (hp : ∀ j, j < n → mGd N f j = true → N' (192 + 30 * f + (10 + j)) = N (192 + 30 * f + (10 + j))) : ∀ j, j ≤ n → mSr N' f j = mSr N f j
  | 0, _ => by rw [mSr, mSr, h2]
  | j + 1, hj => by
    rw [mSr, mSr, mSr_congr h2 hg hp j (by omega), hg j (by omega)]
    by_cases c : (!decide ((mSr N f j).2 ≤ 0) && mGd N f j) = true
    · rw [if_pos c, if_pos c, hp j (by omega) (by simp only [Bool.and_eq_true] at c; exact c.2)]
    · rw [if_neg c, if_neg c]
