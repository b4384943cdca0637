/-! ===== leave ===== -/
theorem pu_9 (S : MS) {f i : Nat} (p e : Int32) (hf : f < 8) (hi : i < 10) : sPut S (nI f) (nI i) p e 9 = upd (S 9) (10 * f + i) p := by
  rw [sPut, owe_0 _ _ _ _ 9 (by decide), sLoad]
  have e9 : sSet S (nI f) (nI i) p e 9 = upd (S 9) (10 * f + i) p := by rw [sSet, ir_t hf hi, cond_true, us_ne (by decide), us_eq, cl_nI (by omega), cl_nI (by omega)]
  cases exB (sSet S (nI f) (nI i) p e) p with
  | true => rw [cond_true, us_ne (by decide), e9]
  | false => rw [cond_false, e9]
theorem mv_hd (S : MS) (f i : Int32) : ∀ t, ¬ t = 3 → ¬ t = 4 → ¬ t = 9 → ¬ t = 10 → sMv S f i t = S t := fun t h3 h4 h9 h10 => by
  rw [sMv]
  cases mvB S f with
  | true => rw [cond_true, put_hd _ _ _ _ _ t h3 h4 h9 h10, tk_hd S f i t h3 h9 h10]
  | false => rw [cond_false, tk_hd S f i t h3 h9 h10]
theorem mv_9 (S : MS) {f i : Nat} (hf : f < 8) (hi : i < 10) : sMv S (nI f) (nI i) 9 = upd (S 9) (10 * f + i) (bstI S (nI f) 12) := by
  rw [sMv, mvB]
  by_cases e : bstI S (nI f) 12 = -1
  · rw [decide_eq_false (fun z => z e), cond_false, (tk_9 S hf hi).1, e]
  · rw [decide_eq_true e, cond_true, pu_9 _ _ _ hf hi, (tk_9 S hf hi).1]
    funext x; rw [upd2, updE]
    by_cases z : x = 10 * f + i
    · rw [if_pos z, if_pos z]
    · rw [if_neg z, if_neg z, if_neg z]
theorem lvC_eq {S : MS} {N : Nat → Int32} (h : RR S N) {f j q : Nat} (hf : f < 8) (hj : j < 10) (hq : q < 12) : lvC N (nI q) (10 * f + j) = decide (S 9 (10 * f + j) = nI q) := by
  have h1 := (h.f hf).1
  rw [lvC, show (10 * f + j) / 10 = f by omega, show (10 * f + j) % 10 = j by omega, r_fi h, exF_nI h hf, r_fr h hf, fn_nI h hf]
  rcases Nat.eq_zero_or_pos (dk S f) with e | hx
  · rw [e]
    have : ¬ S 9 (10 * f + j) = nI q := fun z => by
      rcases (h.f hf).2.2.2.1 j hj with e3 | ⟨hlt, -⟩
      · rw [z] at e3; exact absurd e3.1 (nI_nm1 (by omega))
      · have := ((h.f hf).2.1 e).1; omega
    rw [decide_eq_false this]; rfl
  · rw [((h.f hf).2.2.1 hx).2.2.2.2.2.1 j hj, decide_eq_true hx, Bool.true_and]
    by_cases e9 : S 9 (10 * f + j) = nI q
    · have hlt : j < dk S f + dm S f := by
        rcases (h.f hf).2.2.2.1 j hj with e3 | ⟨hlt, -⟩
        · rw [e9] at e3; exact absurd e3.1 (nI_nm1 (by omega))
        · exact hlt
      rw [decide_eq_true (nI_ge hlt (by omega)), Bool.true_and]
    · rw [decide_eq_false e9, Bool.and_false]
theorem mL_skip {N M : Nat → Int32} {p : Int32} {k0 : Nat} (h0 : mLN N p k0 = M) : ∀ {n}, (∀ j, j < n → lvC M p (k0 + j) = false) → mLN N p (k0 + n) = M ∧ mLc N p (k0 + n) = mLc N p k0
  | 0, _ => ⟨h0, rfl⟩
  | n + 1, h => by
    obtain ⟨i1, i2⟩ := mL_skip h0 (n := n) fun j hj => h j (by omega)
    rw [show k0 + (n + 1) = (k0 + n) + 1 from rfl, mLN, mLc, i1, h n (by omega), i2]
    exact ⟨rfl, rfl⟩
theorem mL_at {N M : Nat → Int32} {p : Int32} {k : Nat} (h0 : mLN N p k = M) (hc : lvC M p k = true) : mLN N p (k + 1) = mPlN M (k / 10) (k % 10) p ∧ mLc N p (k + 1) = mLc N p k + (if !mPlB M (k / 10) p then 1 else 0) := by
  rw [mLN, mLc, h0, hc]; exact ⟨rfl, rfl⟩
theorem fon_pl {S : MS} {N : Nat → Int32} (h : RR S N) {f b : Nat} (hf : f < 8) (hb : b < 12) {i : Nat} (hi : i < 10) (h9 : S 9 (10 * f + i) = nI b) : 0 < dk S f ∧ i < dk S f + dm S f := by
  rcases (h.f hf).2.2.2.1 i hi with e3 | ⟨hlt, -⟩
  · rw [h9] at e3; exact absurd e3.1 (nI_nm1 (by omega))
  · refine ⟨?_, hlt⟩
    rcases Nat.eq_zero_or_pos (dk S f) with e | e
    · have := ((h.f hf).2.1 e).1; omega
    · exact e
theorem lv_loop {S : MS} {N : Nat → Int32} (h : RR S N) {b : Nat} (hb : b < 12) : ∀ f, f ≤ 8 → RR (sLv S (nI b) f) (mLN N (nI b) (10 * f)) ∧ nLv S (nI b) f = mLc N (nI b) (10 * f) ∧ (∀ t, ¬ t = 3 → ¬ t = 4 → ¬ t = 9 → ¬ t = 10 → sLv S (nI b) f t = S t) ∧ ∀ g, g < f → ∀ i, i < 10 → ¬ sLv S (nI b) f 9 (10 * g + i) = nI b
  | 0, _ => ⟨h, rfl, fun t _ _ _ _ => rfl, fun g hg => absurd hg (Nat.not_lt_zero _)⟩
  | f + 1, hf => by
    obtain ⟨i1, i2, i3, i4⟩ := lv_loop h hb f (by omega)
    have hf8 : f < 8 := by omega
    rw [show 10 * (f + 1) = 10 * f + 10 from rfl, sLv, nLv]
    rcases fon_cases (sLv S (nI b) f) hf8 hb with ⟨ef, hno⟩ | ⟨i, hi, ef, h9⟩
    · obtain ⟨s1, s2⟩ := mL_skip (N := N) (p := nI b) (k0 := 10 * f) rfl (n := 10) fun j hj => by rw [lvC_eq i1 hf8 hj hb]; exact decide_eq_false (hno j hj)
      rw [ef, decide_eq_true rfl, cond_true, s1, s2]
      refine ⟨i1, by rw [i2]; rfl, i3, fun g hg i hi => ?_⟩
      by_cases e : g = f
      · rw [e]; exact hno i hi
      · exact i4 g (by omega) i hi
    · have hfo : ¬ fonI (sLv S (nI b) f) (nI f) (nI b) = -1 := by rw [ef]; exact nI_nm1 (by omega)
      have hpl := fon_pl i1 hf8 hb hi h9
      obtain ⟨m1, m2⟩ := o_mv i1 hf8 hi hpl.1 hb h9 hfo
      have hbst := (r_bst i1 hf8 hpl.1 (Or.inr ⟨b, hb, rfl, hfo⟩) 12 (Nat.le_refl _)).2
      have hbne : ¬ bstI (sLv S (nI b) f) (nI f) 12 = nI b := fun z => by
        rcases hbst with e | ⟨q, hq, e, -, hfq, -⟩
        · rw [e] at z; exact m1_ne (by omega) z
        · rw [e] at z
          have := nI_inj' z (by omega) (by omega)
          subst this; exact hfo hfq
      have h9' := mv_9 (sLv S (nI b) f) hf8 hi
      have hoth : ∀ j, j < 10 → ¬ j = i → ¬ sLv S (nI b) f 9 (10 * f + j) = nI b := fun j hj hji z => hji ((i1.f hf8).2.2.2.2 j i hj hi (by rw [z, h9]) (by rw [z]; exact nI_nm1 (by omega)))
      obtain ⟨s1, s2⟩ := mL_skip (N := N) (p := nI b) (k0 := 10 * f) rfl (n := i) fun j hj => by rw [lvC_eq i1 hf8 (by omega) hb]; exact decide_eq_false (hoth j (by omega) (by omega))
      obtain ⟨s3, s4⟩ := mL_at s1 (by rw [lvC_eq i1 hf8 hi hb]; exact decide_eq_true h9)
      rw [show (10 * f + i) / 10 = f by omega, show (10 * f + i) % 10 = i by omega] at s3
      rw [show (10 * f + i) / 10 = f by omega] at s4
      obtain ⟨s5, s6⟩ := mL_skip (N := N) (p := nI b) (k0 := 10 * f + i + 1) s3 (n := 9 - i) fun j hj => by
        rw [show 10 * f + i + 1 + j = 10 * f + (i + 1 + j) by omega, lvC_eq m1 hf8 (by omega) hb, h9', pk_un (by omega)]
        exact decide_eq_false (hoth (i + 1 + j) (by omega) (by omega))
      rw [show 10 * f + 10 = 10 * f + i + 1 + (9 - i) by omega, s5, s6, s4, s2, ef, decide_eq_false (nI_nm1 (by omega)), cond_false, i2, m2]
      refine ⟨m1, rfl, fun t h3 h4 h9 h10 => by rw [mv_hd _ _ _ t h3 h4 h9 h10]; exact i3 t h3 h4 h9 h10, fun g hg j hj => ?_⟩
      rw [h9']
      by_cases e : 10 * g + j = 10 * f + i
      · rw [e, pk_us]; exact hbne
      · rw [pk_un e]
        by_cases e2 : g = f
        · subst e2; exact hoth j hj (by omega)
        · exact i4 g (by omega) j hj
theorem ob_no {S : MS} {N : Nat → Int32} (h : RR S N) {b : Nat} (hb : b < 12) (h0 : obN S (nI b) = 0) : ∀ f, f < 8 → ¬ S 7 f = nI b := by
  intro f hf z
  have hc := cntB_le (fun f => exF S (nI f) && decide (foI S (nI f) = nI b)) 8
  have h1 : cntB (fun f => exF S (nI f) && decide (foI S (nI f) = nI b)) 8 = 0 := (nI_is0 (by omega)).mp h0
  have h2 := cnt_del (fun f => exF S (nI f) && decide (foI S (nI f) = nI b)) f 8 hf
  rw [h1] at h2
  have h3 : (exF S (nI f) && decide (foI S (nI f) = nI b)) = true := by
    rw [exF_nI h hf, fo_nI S hf, z]
    rcases Nat.eq_zero_or_pos (dk S f) with e | e
    · rw [((h.f hf).2.1 e).2.1] at z; exact absurd z (m1_ne (by omega))
    · rw [decide_eq_true e, decide_eq_true rfl]; rfl
  rw [if_pos h3] at h2; omega
theorem o_lv {S : MS} {N : Nat → Int32} (h : RR S N) {b : Nat} (hb : b < 12) (hx : exB S (nI b) = true) (h0 : obN S (nI b) = 0) : RR (sLeave S (nI b)) (mLvN N b) ∧ nLv S (nI b) 8 = mLc N (nI b) 80 := by
  obtain ⟨i1, i2, i3, i4⟩ := lv_loop h hb 8 (Nat.le_refl _)
  refine ⟨?_, i2⟩
  have hx' : ¬ S 0 b = 0 := by rw [ex_nI h hb, decide_eq_true_eq] at hx; exact hx
  rw [sLeave, mLvN]
  refine o_rem i1 hb (by rw [i3 0 (by decide) (by decide) (by decide) (by decide)]; exact hx') (fun f hf => ⟨by rw [i3 7 (by decide) (by decide) (by decide) (by decide)]; exact ob_no h hb h0 f hf, i4 f hf⟩)
theorem ow_0 {S : MS} {N : Nat → Int32} (h : RR S N) (p : Int32) : decide (¬ 0 < mOw N p) = decide (obN S p = 0) := by
  rw [r_ow h, decide_eq_decide, obN]
  have hc := cntB_le (fun f => exF S (nI f) && decide (foI S (nI f) = p)) 8
  rw [nI_is0 (by omega), show (0 : Int32) = nI 0 from rfl, nI_ltI (by decide) (by omega)]; omega
theorem r_onI {S : MS} {N : Nat → Int32} (h : RR S N) {p : Int32} (hx : exB S p = true) : mOn N p = onB S p := by
  obtain ⟨a, ha, rfl⟩ := ex_ex hx
  exact r_on h ha
theorem r_ml {S : MS} {N : Nat → Int32} (h : RR S N) {p : Int32} (hx : exB S p = true) : (decide (¬ 0 < mOw N p) && mOn N p) = mlB S p := by
  rw [ow_0 h, mlB, r_onI h hx, Bool.and_comm]
theorem q_lv {S : MS} {N : Nat → Int32} (h : RR S N) (p : Int32) : vLm N p = vLeave S p ∧ okLm N p = okLeave S p ∧ (okLeave S p = true → RR (sLeave S p) (mLvN N (cl p))) := by
  rw [vLm, vLeave, okLm, okLeave, r_pe h]
  cases hx : exB S p with
  | false => exact ⟨rfl, by rw [Bool.false_and, Bool.false_and, Bool.false_and], fun z => absurd z (by rw [Bool.false_and]; decide)⟩
  | true =>
    rw [Bool.true_and, Bool.true_and, r_ml h hx, if_pos rfl, if_pos rfl]
    obtain ⟨a, ha, rfl⟩ := ex_ex hx
    rw [cl_nI (by omega)]
    cases hm : mlB S (nI a) with
    | false => exact ⟨by rw [if_neg (by decide), if_neg (by decide)], rfl, fun z => absurd z (by decide)⟩
    | true =>
      have h0 : obN S (nI a) = 0 := by simp only [mlB, Bool.and_eq_true, decide_eq_true_eq] at hm; exact hm.2
      obtain ⟨q1, q2⟩ := o_lv h ha hx h0
      exact ⟨by rw [if_pos rfl, if_pos rfl, q2], rfl, fun _ => q1⟩
