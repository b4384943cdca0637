theorem r_ow {S : MS} {N : Nat → Int32} (h : RR S N) (p : Int32) : mOw N p = obN S p := by
  rw [mOw, obN]
  refine congrArg nI (cntB_congr (fun f hf => ?_))
  rw [r_fi h, exF_nI h hf, fo_nI S hf]
  rcases Nat.eq_zero_or_pos (dk S f) with e | e
  · rw [e]; rfl
  · rw [((h.f hf).2.2.1 e).2.1]
theorem mTo_eq {S : MS} {N : Nat → Int32} (h : RR S N) {p : Nat} (hp : p < 12) : ∀ f, f ≤ 8 → mTo N (nI p) f = cntB (fun x => decide (S 9 x = nI p)) (10 * f)
  | 0, _ => rfl
  | f + 1, hf => by
    have ih := mTo_eq h hp f (by omega)
    have hf8 : f < 8 := by omega
    rw [mTo, ih, show 10 * (f + 1) = 10 * f + 10 from rfl, cntB_add, mCf, r_fi h, exF_nI h hf8, r_fr h hf8, cl_fn h hf8]
    have hno : ∀ i, i < 10 → dk S f + dm S f ≤ i → decide (S 9 (10 * f + i) = nI p) = false := fun i hi hge => by
      rcases (h.f hf8).2.2.2.1 i hi with e | ⟨hlt, -⟩
      · rw [e.1]; exact decide_eq_false (fun z => nI_nm1 (by omega) z.symm)
      · omega
    have h1 := (h.f hf8).1
    rcases Nat.eq_zero_or_pos (dk S f) with e | e
    · rw [if_neg (by rw [e]; decide), cntB_z (fun i hi => hno i hi (by rw [e, ((h.f hf8).2.1 e).1]; omega))]
    · rw [if_pos (decide_eq_true e), cntB_cut (a := dk S f + dm S f) (b := 10) (by omega) (fun i h1 h2 => hno i h2 h1)]
      congr 1
      exact cntB_congr (fun i hi => by rw [((h.f hf8).2.2.1 e).2.2.2.2.2.1 i (by omega)])
theorem r_fe {S : MS} {N : Nat → Int32} (h : RR S N) {p : Nat} (hp : p < 12) : mFe N (nI p) = frI S (nI p) := by
  rw [mFe, mTo_eq h hp 8 (by omega), frI, in12 hp, if_pos rfl, cl_nI (by omega), (h.p hp).2.2.2.1, (h.p hp).2.2.2.2.2.1]; rfl
theorem mHas_t {N : Nat → Int32} {p : Int32} {f : Nat} : ∀ {n : Nat}, mHas N p f n = true ↔ ∃ i, i < n ∧ N (192 + 30 * f + (10 + i)) = p
  | 0 => by simp [mHas]
  | n + 1 => by
    rw [mHas, Bool.or_eq_true, mHas_t (n := n), decide_eq_true_eq]
    constructor
    · rintro (⟨i, hi, e⟩ | e)
      · exact ⟨i, by omega, e⟩
      · exact ⟨n, by omega, e⟩
    · rintro ⟨i, hi, e⟩
      by_cases hin : i = n
      · subst hin; exact Or.inr e
      · exact Or.inl ⟨i, by omega, e⟩
theorem fstF_all {g : Nat → Bool} : ∀ {n i}, (fstF g i n = -1 ∧ ∀ j, i ≤ j → j < i + n → g j = true) ∨ ∃ j, i ≤ j ∧ j < i + n ∧ fstF g i n = nI j ∧ g j = false ∧ ∀ a, i ≤ a → a < j → g a = true
  | 0, i => Or.inl ⟨rfl, fun j h1 h2 => by omega⟩
  | n + 1, i => by
    cases hg : g i with
    | false => exact Or.inr ⟨i, Nat.le_refl _, by omega, fstF_at hg, hg, fun a h1 h2 => by omega⟩
    | true =>
      rw [fstF_go hg]
      rcases fstF_all (g := g) (n := n) (i := i + 1) with ⟨e, ha⟩ | ⟨j, h1, h2, e, hj, ha⟩
      · refine Or.inl ⟨e, fun j h1 h2 => ?_⟩
        by_cases hij : j = i
        · rw [hij]; exact hg
        · exact ha j (by omega) (by omega)
      · refine Or.inr ⟨j, by omega, by omega, e, hj, fun a h3 h4 => ?_⟩
        by_cases hia : a = i
        · rw [hia]; exact hg
        · exact ha a (by omega) h4
/-- where a peer's fragment of a file is -/
theorem fon_cases (S : MS) {f p : Nat} (hf : f < 8) (hp : p < 12) : (fonI S (nI f) (nI p) = -1 ∧ ∀ i, i < 10 → ¬ S 9 (10 * f + i) = nI p) ∨ ∃ i, i < 10 ∧ fonI S (nI f) (nI p) = nI i ∧ S 9 (10 * f + i) = nI p := by
  rw [fonI, in8 hf, Bool.true_and, if_pos (decide_eq_true (nI_nm1 (by omega))), cl_nI (by omega)]
  rcases fstF_all (g := fun i => decide (¬ S 9 (10 * f + i) = nI p)) (n := 10) (i := 0) with ⟨e, ha⟩ | ⟨j, -, h2, e, hj, -⟩
  · exact Or.inl ⟨e, fun i hi => of_decide_eq_true (ha i (Nat.zero_le _) (by omega))⟩
  · exact Or.inr ⟨j, by omega, e, Decidable.of_not_not (of_decide_eq_false hj)⟩
theorem r_ss {S : MS} {N : Nat → Int32} (h : RR S N) {f p : Nat} (hf : f < 8) (hp : p < 12) (hx : 0 < dk S f) : mSs N (nI p) f = !decide (fonI S (nI f) (nI p) = -1) := by
  have h1 := (h.f hf).2.2.1 hx
  have h3 := (h.f hf).1
  rw [mSs, r_fr h hf, cl_fn h hf]
  rcases fon_cases S hf hp with ⟨e, ha⟩ | ⟨i, hi, e, h9⟩
  · rw [decide_eq_true e, Bool.not_true]
    cases hm : mHas N (nI p) f (dk S f + dm S f) with
    | false => rfl
    | true =>
      obtain ⟨i, hi, e2⟩ := mHas_t.mp hm
      rw [h1.2.2.2.2.2.1 i (by omega)] at e2
      exact absurd e2 (ha i (by omega))
  · rw [e, decide_eq_false (nI_nm1 (by omega)), Bool.not_false]
    refine mHas_t.mpr ⟨i, ?_, by rw [h1.2.2.2.2.2.1 i hi, h9]⟩
    rcases (h.f hf).2.2.2.1 i hi with e3 | ⟨hlt, -⟩
    · rw [h9] at e3; exact absurd e3.1 (nI_nm1 (by omega))
    · exact hlt
theorem ld_le (S : MS) (p : Nat) : ldN S p ≤ 80 := cntB_le _ _
theorem fr_int {S : MS} {N : Nat → Int32} (h : RR S N) {p : Nat} (hp : p < 12) : (frI S (nI p)).toInt = (cl (S 0 p) : Int) - ldN S p ∧ cl (S 0 p) ≤ 40 := by
  obtain ⟨⟨h0, h40⟩, -, -, h3, -⟩ := h.p hp
  refine ⟨?_, h40⟩
  have hl := ld_le S p
  rw [frI, in12 hp, if_pos rfl, cl_nI (by omega), h3]
  conv => lhs; rw [h0]
  exact pk_sub_toInt (by omega) (by omega)
theorem sub_le0 {x y : Int32} (hx : -1000 ≤ x.toInt ∧ x.toInt ≤ 1000) (hy : -1000 ≤ y.toInt ∧ y.toInt ≤ 1000) : (x - y ≤ 0 ↔ ¬ y < x) ∧ (x - y = 0 ↔ x = y) := by
  have h1 : (x - y).toInt = x.toInt - y.toInt := by
    rw [Int32.toInt_sub, Int.bmod_eq_of_le (by omega) (by omega)]
  constructor
  · rw [Int32.le_iff_toInt_le, Int32.lt_iff_toInt_lt, h1, show (0 : Int32).toInt = 0 from rfl]; omega
  · rw [← Int32.toInt_inj, ← Int32.toInt_inj, h1, show (0 : Int32).toInt = 0 from rfl]; omega
theorem r_bst {S : MS} {N : Nat → Int32} (h : RR S N) {f : Nat} (hf : f < 8) (hx : 0 < dk S f) {but : Int32} (hb : but = -1 ∨ ∃ q, q < 12 ∧ but = nI q ∧ ¬ fonI S (nI f) (nI q) = -1) : ∀ p, p ≤ 12 → mBst N f but p = bstI S (nI f) p ∧ (bstI S (nI f) p = -1 ∨ ∃ q, q < 12 ∧ bstI S (nI f) p = nI q ∧ exB S (nI q) = true ∧ fonI S (nI f) (nI q) = -1 ∧ ¬ frI S (nI q) ≤ 0)
  | 0, _ => ⟨rfl, Or.inl rfl⟩
  | p + 1, hp => by
    obtain ⟨ih, hr⟩ := r_bst h hf hx hb p (by omega)
    have hp12 : p < 12 := by omega
    have hcan : mCan N f but p = (onB S (nI p) && decide (¬ frI S (nI p) ≤ 0) && decide (fonI S (nI f) (nI p) = -1)) := by
      rw [mCan, r_pe h, r_on h hp12, r_fe h hp12, r_ss h hf hp12 hx, Bool.not_not]
      cases ho : onB S (nI p) with
      | false => simp
      | true =>
        rw [on_ex h hp12 ho]
        cases hfo : decide (fonI S (nI f) (nI p) = -1) with
        | false => simp
        | true =>
          have hne : ¬ nI p = but := by
            rcases hb with e | ⟨q, hq, e, h2⟩
            · rw [e]; exact nI_nm1 (by omega)
            · rw [e, nI_eq (by omega) (by omega)]
              intro z; subst z; exact h2 (of_decide_eq_true hfo)
          rw [decide_eq_true hne]
          simp
    rw [mBst, bstI, plB, ih, hcan]
    cases hc : (onB S (nI p) && decide (¬ frI S (nI p) ≤ 0) && decide (fonI S (nI f) (nI p) = -1)) with
    | false => simp only [Bool.false_and, Bool.false_eq_true, if_false]; exact ⟨trivial, hr⟩
    | true =>
      simp only [Bool.and_eq_true, decide_eq_true_eq] at hc
      have hexp := on_ex h hp12 hc.1.1
      have hself : ∃ q, q < 12 ∧ nI p = nI q ∧ exB S (nI q) = true ∧ fonI S (nI f) (nI q) = -1 ∧ ¬ frI S (nI q) ≤ 0 := ⟨p, hp12, rfl, hexp, hc.2, hc.1.2⟩
      rw [Bool.true_and, if_pos rfl]
      rcases hr with e | ⟨q, hq, e, hexq, hfq, hfrq⟩
      · rw [e]
        have e0 : mA0 N p (-1) = 1 := if_neg (by decide)
        have e1 : mAh N p (-1) = 1 := by rw [mAh, e0]; rfl
        have e2 : betB S (nI p) (-1) = true := by rw [betB, show exB S (-1) = false from rfl]; rfl
        rw [e1, e2, if_neg (by decide), if_pos rfl]
        exact ⟨rfl, Or.inr hself⟩
      · rw [e]
        have t1 := (h.p hp12).2.2.1
        have t2 := (h.p hq).2.2.1
        have f1 := fr_int h hp12
        have f2 := fr_int h hq
        have l1 := ld_le S p
        have l2 := ld_le S q
        have eA : mA0 N p (nI q) = S 2 p - S 2 q := by
          rw [mA0, if_pos (nI_pos' (by omega)), cl_nI (by omega), (h.p hp12).2.2.2.2.2.2.2, (h.p hq).2.2.2.2.2.2.2]
        have b1 : (S 2 p).toInt = cl (S 2 p) := by conv => lhs; rw [t1.1]
                                                   exact nI_toInt (by omega)
        have b2 : (S 2 q).toInt = cl (S 2 q) := by conv => lhs; rw [t2.1]
                                                   exact nI_toInt (by omega)
        have k1 := sub_le0 (x := S 2 p) (y := S 2 q) (by omega) (by omega)
        have k2 := sub_le0 (x := frI S (nI p)) (y := frI S (nI q)) (by omega) (by omega)
        have key : mAh N p (nI q) ≤ 0 ↔ betB S (nI p) (nI q) = false := by
          rw [mAh, eA, r_fe h hp12, r_fe h hq, betB, if_pos hexq, if_pos hexp, cl_nI (by omega), cl_nI (by omega)]
          by_cases ez : S 2 p = S 2 q
          · rw [if_pos (k1.2.mpr ez), if_pos ez, k2.1]; simp
          · rw [if_neg (fun z => ez (k1.2.mp z)), if_neg ez, k1.1]; simp
        cases hbt : betB S (nI p) (nI q) with
        | true =>
          rw [if_neg (fun z => by rw [key.mp z] at hbt; exact absurd hbt (by decide)), if_pos rfl]
          exact ⟨rfl, Or.inr hself⟩
        | false =>
          rw [if_pos (key.mpr hbt), if_neg (by decide)]
          exact ⟨rfl, Or.inr ⟨q, hq, rfl, hexq, hfq, hfrq⟩⟩
