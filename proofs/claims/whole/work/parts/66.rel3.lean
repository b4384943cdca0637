/-! ===== what the relation gives the contracts; calls that only read ===== -/
theorem r_ok {S : MS} {N : Nat → Int32} (h : RR S N) : MOk N := fun f hf => by
  have h1 := (h.f hf).1
  refine ⟨?_, fun i hi => ?_⟩
  · have e : N (192 + 30 * f + 2) + N (192 + 30 * f + 3) = fnI S (nI f) := r_fr h hf
    rw [e, cl_fn h hf]; omega
  · rcases Nat.eq_zero_or_pos (dk S f) with e | e
    · rw [((h.f hf).2.1 e).2.2 (10 + i) (by omega)]; exact Or.inr (vin_nI (k := 0) (by decide) (by decide))
    · rw [((h.f hf).2.2.1 e).2.2.2.2.2.1 i hi]
      rcases (h.f hf).2.2.2.1 i hi with e3 | ⟨-, p, e, hp, -, e9, -⟩
      · rw [e3.1]; exact Or.inl (by decide)
      · rw [e9]; exact Or.inr (vin_nI (by decide) hp)
theorem r_ok2 {S : MS} {N : Nat → Int32} (h : RR S N) : MOk2 N := fun f hf => by
  have h1 := (h.f hf).1
  rw [r_fr h hf, fn_nI h hf]; exact nI_pos (by omega)
theorem r_okA {S : MS} {N : Nat → Int32} (h : RR S N) : MOkA N := ⟨r_ok h, fun f hf hfi => by
  rw [r_fi h, exF_nI h hf, decide_eq_true_eq] at hfi
  obtain ⟨-, h1, -, -, ⟨o, ho, e, -⟩, -⟩ := (h.f hf).2.2.1 hfi
  rw [h1, e]; exact vin_nI (by decide) ho⟩
theorem r_ok3 {S : MS} {N : Nat → Int32} (h : RR S N) : MOk3 N := fun f hf => by
  have h1 := (h.f hf).1
  rcases Nat.eq_zero_or_pos (dk S f) with e | e
  · have h0 := ((h.f hf).2.1 e).2.2
    refine ⟨⟨by rw [h0 2 (by decide)]; rfl, by rw [h0 2 (by decide)]; decide, fun d hd => ?_⟩, fun i hi => ?_⟩
    · rw [h0 2 (by decide)] at hd; exact absurd hd (by show ¬ d < 0; omega)
    · rw [h0 (20 + i) (by omega)]; decide
  · obtain ⟨-, -, e2, -, -, -, e20, wd, hw, -⟩ := (h.f hf).2.2.1 e
    have e2' : N (192 + 30 * f + 2) = nI (dk S f) := e2.trans h1.1
    have ec : cl (N (192 + 30 * f + 2)) = dk S f := by rw [e2', cl_nI (by omega)]
    refine ⟨⟨by rw [ec]; exact e2', by rw [ec]; exact h1.2.1, fun d hd => ?_⟩, fun i hi => ?_⟩
    · rw [ec] at hd
      obtain ⟨q1, q2⟩ := hw d hd
      show N (192 + 30 * f + (4 + d)) = nI (cl (N (192 + 30 * f + (4 + d)))) ∧ cl (N (192 + 30 * f + (4 + d))) < 256
      rw [q2, cl_nI (by omega)]; exact ⟨rfl, q1⟩
    · rw [e20 i hi]
      rcases (h.f hf).2.2.2.1 i hi with e3 | ⟨-, p, v, -, hv, -, -, e10⟩
      · rw [e3.2]; decide
      · rw [e10, cl_nI (by omega)]; exact ⟨rfl, hv⟩
theorem r_wt {S : MS} {N : Nat → Int32} (h : RR S N) : wtOk S := by
  obtain ⟨w, hw, e, -, h1, -⟩ := h.2.2.2
  exact ⟨⟨w, hw, e⟩, h1⟩
theorem r_432 {S : MS} {N : Nat → Int32} (h : RR S N) : ∃ k, k ≤ 6 ∧ N 432 = nI k ∧ S 12 0 = nI k := by
  obtain ⟨w, hw, e, e2, -⟩ := h.2.2.2
  exact ⟨w, hw, e2, e⟩
theorem r_er {S : MS} {N : Nat → Int32} (h : RR S N) : erOk S := fun x hx => by
  have := (h.f (show x / 10 < 8 by omega)).2.2.2.1 (x % 10) (by omega)
  rw [RLl, show 10 * (x / 10) + x % 10 = x by omega] at this
  rcases this with e | ⟨-, p, e, -, he, -, -, e10⟩
  · exact ⟨0, by decide, e.2⟩
  · exact ⟨e, he, e10⟩
theorem r_two {S : MS} {N : Nat → Int32} (h : RR S N) (p q : Int32) : mTw N p q = twoB S p q := by
  rw [mTw, twoB, r_pe h, r_pe h]
  cases exB S p <;> cases exB S q <;> simp
theorem ex_ex {S : MS} {p : Int32} (h : exB S p = true) : ∃ a, a < 12 ∧ p = nI a := vin_ex (exB_in h)
theorem exF_ex {S : MS} {p : Int32} (h : exF S p = true) : ∃ a, a < 8 ∧ p = nI a := vin_ex (exF_in h)
theorem two_ex {S : MS} {p q : Int32} (h : twoB S p q = true) : ∃ a b, a < 12 ∧ b < 12 ∧ ¬ a = b ∧ p = nI a ∧ q = nI b := by
  simp only [twoB, Bool.and_eq_true, decide_eq_true_eq] at h
  obtain ⟨a, ha, rfl⟩ := ex_ex h.1.2
  obtain ⟨b, hb, rfl⟩ := ex_ex h.2
  exact ⟨a, b, ha, hb, fun z => h.1.1 (by rw [z]), rfl, rfl⟩
theorem r_bal {S : MS} {N : Nat → Int32} (h : RR S N) {p q : Nat} (hp : p < 12) (hq : q < 12) : N (48 + (12 * p + q)) = S 4 (12 * p + q) := h.2.1.1 _ (by omega)
theorem q_bal {S : MS} {N : Nat → Int32} (h : RR S N) (p q : Int32) : vBm N p q = vBal S p q := by
  rw [vBm, vBal, r_two h]
  cases ht : twoB S p q with
  | false => rfl
  | true =>
    obtain ⟨a, b, ha, hb, -, rfl, rfl⟩ := two_ex ht
    rw [if_pos rfl, if_pos rfl, owI, ht, if_pos rfl, cl_nI (by omega), cl_nI (by omega), r_bal h ha hb]
theorem rgx {w c : Int32} {n : Nat} (hc : c = nI n) (hn : n < 2 ^ 31) (h : rgB w 0 c = true) : ∃ j, j ≤ n ∧ w = nI j := by
  subst hc
  simp only [rgB, Bool.and_eq_true, decide_eq_true_eq] at h
  refine ⟨cl w, ?_, nI_cl h.1⟩
  have h2 := h.2
  rw [nI_cl h.1, nI_ltI hn (cl_lt w)] at h2
  omega
theorem rg_not {w c : Int32} {n : Nat} (hc : c = nI n) (hn : n < 2 ^ 31) (h : rgB w 0 c = false) : ∀ j, j ≤ n → ¬ w = nI j := by
  rintro j hj rfl
  subst hc
  rw [rgB, decide_eq_true (nI_pos (by omega)), decide_eq_true (nI_nlt hj hn)] at h
  exact absurd h (by decide)
theorem q_pi {S : MS} {N : Nat → Int32} (h : RR S N) (p w : Int32) : vPIm N p w = vPI S p w := by
  rw [vPIm, vPI, r_pe h]
  cases he : exB S p with
  | false => rfl
  | true =>
    obtain ⟨a, ha, rfl⟩ := ex_ex he
    rw [Bool.true_and, if_pos rfl]
    cases hr : rgB w 0 5 with
    | false =>
      have hn := rg_not (n := 5) rfl (by decide) hr
      rw [if_neg (by decide), if_neg (show ¬ w = 0 from hn 0 (by decide)), if_neg (show ¬ w = 1 from hn 1 (by decide)), if_neg (show ¬ w = 2 from hn 2 (by decide)), if_neg (show ¬ w = 3 from hn 3 (by decide)), if_neg (show ¬ w = 4 from hn 4 (by decide)), if_neg (show ¬ w = 5 from hn 5 (by decide))]
    | true =>
      obtain ⟨j, hj, rfl⟩ := rgx (n := 5) rfl (by decide) hr
      rw [if_pos rfl, cl_nI (by omega)]
      obtain ⟨-, -, -, -, -, h1, h2, h3⟩ := h.p ha
      have hs : sumI (fun q => N (48 + (12 * a + q))) 12 = sumI (fun q => owI S (nI a) (nI q)) 12 := sumI_congr fun q hq => by
        rw [r_bal h ha hq, owI, twoB, he, ex_nI h hq, cl_nI (by omega), cl_nI (by omega), Bool.and_true]
        by_cases e : ¬ nI a = nI q ∧ ¬ S 0 q = 0
        · rw [if_pos (by rw [decide_eq_true e.1, decide_eq_true e.2]; rfl)]
        · rw [if_neg (by simpa using e)]
          refine h.2.1.2 a q ha hq (Or.inr ?_)
          by_cases e2 : nI a = nI q
          · exact Or.inr (nI_inj' e2 (by omega) (by omega))
          · exact Or.inl (Decidable.of_not_not fun z => e ⟨e2, z⟩)
      rw [r_fe h ha, r_ow h, h1, h2, h3, hs]
      rcases (show j = 0 ∨ j = 1 ∨ j = 2 ∨ j = 3 ∨ j = 4 ∨ j = 5 by omega) with rfl | rfl | rfl | rfl | rfl | rfl
      · simp [show nI 0 = (0 : Int32) from rfl]
      · simp [show nI 1 = (1 : Int32) from rfl]
      · simp [show nI 2 = (2 : Int32) from rfl]
      · simp [show nI 3 = (3 : Int32) from rfl]
      · simp [show nI 4 = (4 : Int32) from rfl]
      · simp [show nI 5 = (5 : Int32) from rfl]
theorem q_end0 {S : MS} {N : Nat → Int32} (h : RR S N) {f : Nat} (hf : f < 8) (hx : 0 < dk S f) : mSt N f = stN S (nI f) := by
  rw [mSt, stN, r_fr h hf, cl_fn h hf]
  have h1 := (h.f hf).1
  refine congrArg nI (cntB_congr (fun i hi => ?_))
  rw [stB, pl_nI S hf (by omega), ((h.f hf).2.2.1 hx).2.2.2.2.2.1 i (by omega), decide_eq_decide]
  rcases (h.f hf).2.2.2.1 i (by omega) with e3 | ⟨-, p, e, hp, -, e9, -⟩
  · rw [e3.1]; decide
  · rw [e9]; exact ⟨fun _ => nI_nm1 (by omega), fun _ => nI_pos (by omega)⟩
theorem q_fi {S : MS} {N : Nat → Int32} (h : RR S N) (f w : Int32) : vFIm N f w = vFI S f w := by
  rw [vFIm, vFI, r_fi h]
  cases he : exF S f with
  | false => rfl
  | true =>
    obtain ⟨a, ha, rfl⟩ := exF_ex he
    have hx : 0 < dk S a := of_decide_eq_true ((exF_nI h ha).symm.trans he)
    rw [Bool.true_and, if_pos rfl]
    cases hr : rgB w 0 6 with
    | false =>
      have hn := rg_not (n := 6) rfl (by decide) hr
      rw [if_neg (by decide), if_neg (show ¬ w = 0 from hn 0 (by decide)), if_neg (show ¬ w = 1 from hn 1 (by decide)), if_neg (show ¬ w = 2 from hn 2 (by decide)), if_neg (show ¬ w = 3 from hn 3 (by decide)), if_neg (show ¬ w = 4 from hn 4 (by decide)), if_neg (show ¬ w = 5 from hn 5 (by decide)), if_neg (show ¬ w = 6 from hn 6 (by decide))]
    | true =>
      obtain ⟨j, hj, rfl⟩ := rgx (n := 6) rfl (by decide) hr
      obtain ⟨-, h1, h2, h3, -⟩ := (h.f ha).2.2.1 hx
      rw [if_pos rfl, cl_nI (by omega), cl_nI (by omega), q_end0 h ha hx, r_gn h ha hx, r_sf h ha hx, h2, rsI, da_nI S ha]
      rcases (show j = 0 ∨ j = 1 ∨ j = 2 ∨ j = 3 ∨ j = 4 ∨ j = 5 ∨ j = 6 by omega) with rfl | rfl | rfl | rfl | rfl | rfl | rfl
      · simp [show nI 0 = (0 : Int32) from rfl, h1, h2, h3]
      · simp [show nI 1 = (1 : Int32) from rfl, h1, h2, h3]
      · simp [show nI 2 = (2 : Int32) from rfl, h1, h2, h3]
      · simp [show nI 3 = (3 : Int32) from rfl, h1, h2, h3]
      · simp [show nI 4 = (4 : Int32) from rfl, h1, h2, h3]
      · simp [show nI 5 = (5 : Int32) from rfl, h1, h2, h3]
      · simp [show nI 6 = (6 : Int32) from rfl, h1, h2, h3]
