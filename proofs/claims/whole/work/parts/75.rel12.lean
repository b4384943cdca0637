/-! ===== delete, crash ===== -/
theorem o_remF {S : MS} {N N' : Nat → Int32} (h : RR S N) {f : Nat} (hf : f < 8) (hx : 0 < dk S f) (hno : ∀ i, i < 10 → S 9 (10 * f + i) = -1) (hN : ∀ x, x < 192 + 30 * f ∨ 192 + 30 * f + 30 ≤ x → N' x = N x) (hz : ∀ j, j < 30 → N' (192 + 30 * f + j) = 0) : RR (sRemF S (nI f)) N' := by
  rw [sRemF, exF_nI h hf, decide_eq_true hx, cond_true, cl_nI (by omega)]
  have e3 : ∀ t, ¬ t = 5 → ¬ t = 6 → ¬ t = 7 → us (us (us S 5 f 0) 6 f 0) 7 f (-1) t = S t := fun t q5 q6 q7 => by rw [us_ne q7, us_ne q6, us_ne q5]
  have e5 : us (us (us S 5 f 0) 6 f 0) 7 f (-1) 5 = upd (S 5) f 0 := by rw [us_ne (by decide), us_ne (by decide), us_eq]
  have e6 : us (us (us S 5 f 0) 6 f 0) 7 f (-1) 6 = upd (S 6) f 0 := by rw [us_ne (by decide), us_eq, us_ne (by decide)]
  have e7 : us (us (us S 5 f 0) 6 f 0) 7 f (-1) 7 = upd (S 7) f (-1) := by rw [us_eq, us_ne (by decide), us_ne (by decide)]
  generalize us (us (us S 5 f 0) 6 f 0) 7 f (-1) = S' at e3 e5 e6 e7
  refine ⟨fun p hp => ?_, ⟨fun k hk => ?_, fun p q hp hq hh => ?_⟩, fun g hg => ?_, ?_⟩
  · exact RLp_congr (by rw [e3 0 (by decide) (by decide) (by decide)]) (by rw [e3 1 (by decide) (by decide) (by decide)]) (by rw [e3 2 (by decide) (by decide) (by decide)]) (by rw [e3 3 (by decide) (by decide) (by decide)]) (e3 9 (by decide) (by decide) (by decide)) (fun c hc => hN _ (by omega)) (h.p hp)
  · rw [hN _ (by omega), e3 4 (by decide) (by decide) (by decide)]; exact h.2.1.1 k hk
  · rw [e3 0 (by decide) (by decide) (by decide)] at hh
    rw [e3 4 (by decide) (by decide) (by decide)]; exact h.2.1.2 p q hp hq hh
  · by_cases e : g = f
    · subst e
      have k0 : dk S' g = 0 := by rw [dk, e5, pk_us]; rfl
      have m0 : dm S' g = 0 := by rw [dm, e6, pk_us]; rfl
      refine ⟨⟨by rw [k0, e5, pk_us]; rfl, by omega, by rw [m0, e6, pk_us]; rfl, by omega⟩, fun _ => ⟨m0, by rw [e7, pk_us], hz⟩, fun z => by omega, fun i hi => Or.inl ?_, fun i j hi hj _ e2 => ?_⟩
      · rw [e3 9 (by decide) (by decide) (by decide), e3 10 (by decide) (by decide) (by decide)]
        refine ⟨hno i hi, ?_⟩
        rcases (h.f hg).2.2.2.1 i hi with z | ⟨-, q, v, hq, -, e9, -⟩
        · exact z.2
        · rw [hno i hi] at e9; exact absurd e9 (m1_ne (by omega))
      · rw [e3 9 (by decide) (by decide) (by decide)] at e2; exact absurd (hno i hi) e2
    · exact RLf_congr (by rw [e5, pk_un e]) (by rw [e6, pk_un e]) (by rw [e7, pk_un e]) (fun i _ => by rw [e3 8 (by decide) (by decide) (by decide)]) (fun i _ => by rw [e3 9 (by decide) (by decide) (by decide)]) (fun i _ => by rw [e3 10 (by decide) (by decide) (by decide)]) (fun p _ hx _ => by rw [e3 0 (by decide) (by decide) (by decide)]; exact hx) (fun j _ => hN _ (by omega)) (h.f hg)
  · obtain ⟨w, hw, a1, a2, a3, a4⟩ := h.2.2.2
    exact ⟨w, hw, by rw [e3 12 (by decide) (by decide) (by decide)]; exact a1, by rw [hN _ (by omega)]; exact a2, fun d hd => by rw [e3 11 (by decide) (by decide) (by decide)]; exact a3 d hd, fun d hd => by rw [hN _ (by omega), e3 11 (by decide) (by decide) (by decide)]; exact a4 d hd⟩
theorem tkA {S : MS} {N : Nat → Int32} (h : RR S N) {f : Nat} (hf : f < 8) (hx : 0 < dk S f) : ∀ n, n ≤ 10 → ∃ M, RR (sTkA S (nI f) n) M ∧ (∀ x, x < 192 + 30 * f ∨ 192 + 30 * f + 30 ≤ x → M x = N x) ∧ (∀ t, ¬ t = 3 → ¬ t = 9 → ¬ t = 10 → sTkA S (nI f) n t = S t) ∧ ∀ i, i < 10 → (i < n ∨ S 9 (10 * f + i) = -1) → sTkA S (nI f) n 9 (10 * f + i) = -1
  | 0, _ => ⟨N, h, fun _ _ => rfl, fun _ _ _ _ => rfl, fun i _ hi => by rcases hi with z | z; exact absurd z (Nat.not_lt_zero _); exact z⟩
  | n + 1, hn => by
    obtain ⟨M, i1, i2, i3, i4⟩ := tkA h hf hx n (by omega)
    have k5 : dk (sTkA S (nI f) n) f = dk S f := by rw [dk, dk, i3 5 (by decide) (by decide) (by decide)]
    have hn10 : n < 10 := by omega
    refine ⟨mR1 M f n, o_take i1 hf hn10 (by rw [k5]; exact hx), fun x hx => ?_, fun t h3 h9 h10 => ?_, fun i hi hh => ?_⟩
    · rw [mR1, pk_un (by omega), pk_un (by omega)]; exact i2 x hx
    · rw [sTkA, tk_hd _ _ _ t h3 h9 h10]; exact i3 t h3 h9 h10
    · rw [sTkA, (tk_9 _ hf hn10).1]
      by_cases e : i = n
      · rw [e, pk_us]
      · rw [pk_un (by omega)]
        exact i4 i hi (by rcases hh with z | z; exact Or.inl (by omega); exact Or.inr z)
theorem o_del {S : MS} {N : Nat → Int32} (h : RR S N) {f : Nat} (hf : f < 8) (hx : 0 < dk S f) : RR (sDel S (nI f)) (mDe N f) ∧ (∀ t, t < 3 ∨ t = 11 ∨ t = 12 → sDel S (nI f) t = S t) ∧ (∀ g, ¬ g = f → sDel S (nI f) 7 g = S 7 g ∧ ∀ i, i < 10 → sDel S (nI f) 9 (10 * g + i) = S 9 (10 * g + i)) ∧ sDel S (nI f) 7 f = -1 ∧ ∀ i, i < 10 → sDel S (nI f) 9 (10 * f + i) = -1 := by
  have h1 := (h.f hf).1
  obtain ⟨M, i1, i2, i3, i4⟩ := tkA h hf hx (dk S f + dm S f) (by omega)
  have hall : ∀ i, i < 10 → sTkA S (nI f) (dk S f + dm S f) 9 (10 * f + i) = -1 := fun i hi => i4 i hi (by
    rcases (h.f hf).2.2.2.1 i hi with z | ⟨z, -⟩
    · exact Or.inr z.1
    · exact Or.inl z)
  have k5 : dk (sTkA S (nI f) (dk S f + dm S f)) f = dk S f := by
    show cl (sTkA S (nI f) (dk S f + dm S f) 5 f) = cl (S 5 f)
    rw [i3 5 (by decide) (by decide) (by decide)]
  have hr := o_remF (N' := mDe N f) i1 hf (by rw [k5]; exact hx) hall (fun x hx => by simp only [mDe, zN]; rw [if_neg (by omega)]; exact (i2 x hx).symm) (fun j hj => by simp only [mDe, zN]; rw [if_pos (by omega)])
  rw [sDel, cl_fn h hf]
  have e : sRemF (sTkA S (nI f) (dk S f + dm S f)) (nI f) = us (us (us (sTkA S (nI f) (dk S f + dm S f)) 5 f 0) 6 f 0) 7 f (-1) := by
    rw [sRemF, exF_nI i1 hf, k5, decide_eq_true hx, cond_true, cl_nI (by omega)]
  have t9 : ∀ n x, n ≤ 10 → (x < 10 * f ∨ 10 * f + 10 ≤ x) → sTkA S (nI f) n 9 x = S 9 x := by
    intro n
    induction n with
    | zero => intro x _ _; rfl
    | succ n ih => intro x hn hx; rw [sTkA, (tk_9 _ hf (by omega)).1, pk_un (by omega)]; exact ih x (by omega) hx
  refine ⟨hr, fun t ht => ?_, fun g hg => ?_, ?_, fun i hi => ?_⟩
  · rw [e, us_ne (by omega), us_ne (by omega), us_ne (by omega)]; exact i3 t (by omega) (by omega) (by omega)
  · rw [e, us_eq, pk_un hg, us_ne (by decide), us_ne (by decide), us_ne (by decide), us_ne (by decide), us_ne (by decide)]
    exact ⟨by rw [i3 7 (by decide) (by decide) (by decide)], fun i hi => t9 _ _ (by omega) (by omega)⟩
  · rw [e, us_eq, pk_us]
  · rw [e, us_ne (by decide), us_ne (by decide), us_ne (by decide)]; exact hall i hi
theorem q_del {S : MS} {N : Nat → Int32} (h : RR S N) (f : Int32) : vDm N f = vDel S f ∧ mFi N f = exF S f ∧ (exF S f = true → RR (sDel S f) (mDe N (cl f))) := by
  rw [vDm, vDel, r_fi h]
  cases hx : exF S f with
  | false => exact ⟨by rw [if_neg (by decide), if_neg (by decide)], rfl, fun z => absurd z (by decide)⟩
  | true =>
    obtain ⟨a, ha, rfl⟩ := exF_ex hx
    have hd : 0 < dk S a := by rw [exF_nI h ha, decide_eq_true_eq] at hx; exact hx
    have hr := (o_del h ha hd).1
    rw [cl_nI (by omega), if_pos rfl, if_pos rfl]
    exact ⟨congrArg nI (cntB_congr fun g _ => r_fi hr _), rfl, fun _ => hr⟩
theorem mCi_no {S : MS} {N : Nat → Int32} (h : RR S N) {f b : Nat} (hf : f < 8) (hx : 0 < dk S f) (hno : ∀ i, i < 10 → ¬ S 9 (10 * f + i) = nI b) : ∀ n, n ≤ 10 → mCi N (nI b) f n = N ∧ cCi N (nI b) f n = 0
  | 0, _ => ⟨rfl, rfl⟩
  | n + 1, hn => by
    obtain ⟨i1, i2⟩ := mCi_no h hf hx hno n (by omega)
    have : ¬ N (192 + 30 * f + (10 + n)) = nI b := by rw [((h.f hf).2.2.1 hx).2.2.2.2.2.1 n (by omega)]; exact hno n (by omega)
    rw [mCi, cCi, i1, i2, decide_eq_false this, if_neg this]; exact ⟨rfl, rfl⟩
theorem mCi_one {S : MS} {N : Nat → Int32} (h : RR S N) {f b i : Nat} (hf : f < 8) (hx : 0 < dk S f) (hi : i < 10) (hb : b < 12) (h9 : S 9 (10 * f + i) = nI b) : ∀ n, n ≤ 10 → mCi N (nI b) f n = (if i < n then mR1 N f i else N) ∧ cCi N (nI b) f n = (if i < n then 1 else 0)
  | 0, _ => ⟨by rw [if_neg (Nat.not_lt_zero _)]; rfl, by rw [if_neg (Nat.not_lt_zero _)]; rfl⟩
  | n + 1, hn => by
    obtain ⟨i1, i2⟩ := mCi_one h hf hx hi hb h9 n (by omega)
    have hpl : ∀ j, j < 10 → N (192 + 30 * f + (10 + j)) = S 9 (10 * f + j) := ((h.f hf).2.2.1 hx).2.2.2.2.2.1
    rw [mCi, cCi]
    by_cases c1 : i < n
    · rw [if_pos c1] at i1 i2
      rw [i1, i2, if_pos (show i < n + 1 by omega), if_pos (show i < n + 1 by omega)]
      have hne : ¬ mR1 N f i (192 + 30 * f + (10 + n)) = nI b := by
        rw [mR1, pk_un (by omega), pk_un (by omega), hpl n (by omega)]
        intro z
        have := (h.f hf).2.2.2.2 n i (by omega) hi (by rw [z, h9]) (by rw [z]; exact nI_nm1 (by omega))
        omega
      rw [decide_eq_false hne, if_neg hne]; exact ⟨rfl, rfl⟩
    · rw [if_neg c1] at i1 i2
      rw [i1, i2]
      by_cases c2 : i = n
      · subst c2
        rw [hpl i hi, h9, decide_eq_true rfl, if_pos rfl, if_pos (by omega), if_pos (by omega)]; exact ⟨rfl, rfl⟩
      · have hne : ¬ S 9 (10 * f + n) = nI b := fun z => c2 ((h.f hf).2.2.2.2 i n hi (by omega) (by rw [z, h9]) (by rw [h9]; exact nI_nm1 (by omega)))
        rw [hpl n (by omega), decide_eq_false hne, if_neg hne, if_neg (by omega), if_neg (by omega)]; exact ⟨rfl, rfl⟩
theorem cr_loop {S : MS} {N : Nat → Int32} (h : RR S N) {b : Nat} (hb : b < 12) : ∀ f, f ≤ 8 → RR (sCr S (nI b) f) (mCN N (nI b) f) ∧ nCr S (nI b) f = mCc N (nI b) f ∧ sCr S (nI b) f 0 = S 0 ∧ ∀ g, g < f → ¬ sCr S (nI b) f 7 g = nI b ∧ ∀ i, i < 10 → ¬ sCr S (nI b) f 9 (10 * g + i) = nI b
  | 0, _ => ⟨h, rfl, rfl, fun g hg => absurd hg (Nat.not_lt_zero _)⟩
  | f + 1, hf => by
    obtain ⟨i1, i2, i3, i4⟩ := cr_loop h hb f (by omega)
    have hf8 : f < 8 := by omega
    rw [sCr, nCr, mCN, mCc, r_fi i1, exF_nI i1 hf8, fo_nI _ hf8]
    generalize sCr S (nI b) f = U at i1 i3 i4
    generalize mCN N (nI b) f = M at i1
    rcases Nat.eq_zero_or_pos (dk U f) with e | hx
    · have h7 := ((i1.f hf8).2.1 e).2.1
      rcases fon_cases U hf8 hb with ⟨ef, hno⟩ | ⟨i, hi, -, h9⟩
      · rw [e, h7, decide_eq_false (m1_ne (by omega)), ef]
        refine ⟨i1, by rw [i2]; rfl, i3, fun g hg => ?_⟩
        by_cases z : g = f
        · subst z; exact ⟨by show ¬ U 7 g = nI b; rw [h7]; exact m1_ne (by omega), hno⟩
        · exact i4 g (by omega)
      · have := (fon_pl i1 hf8 hb hi h9).1; omega
    · rw [decide_eq_true hx, cond_true, ((i1.f hf8).2.2.1 hx).2.1]
      by_cases ho : U 7 f = nI b
      · rw [decide_eq_true ho, cond_true, cond_true]
        obtain ⟨d1, d2, d3, d4, d5⟩ := o_del i1 hf8 hx
        refine ⟨d1, by rw [i2]; rfl, by rw [d2 0 (Or.inl (by decide))]; exact i3, fun g hg => ?_⟩
        by_cases z : g = f
        · subst z; exact ⟨by rw [d4]; exact m1_ne (by omega), fun i hi => by rw [d5 i hi]; exact m1_ne (by omega)⟩
        · rw [(d3 g z).1]
          exact ⟨(i4 g (by omega)).1, fun i hi => by rw [(d3 g z).2 i hi]; exact (i4 g (by omega)).2 i hi⟩
      · rw [decide_eq_false ho, cond_false, cond_false]
        have h1 := (i1.f hf8).1
        rw [r_fr i1 hf8, cl_fn i1 hf8]
        rcases fon_cases U hf8 hb with ⟨ef, hno⟩ | ⟨i, hi, ef, h9⟩
        · obtain ⟨c1, c2⟩ := mCi_no i1 hf8 hx hno (dk U f + dm U f) (by omega)
          rw [ef, decide_eq_true rfl, cond_true, c1, c2]
          refine ⟨i1, by rw [i2]; rfl, i3, fun g hg => ?_⟩
          by_cases z : g = f
          · subst z; exact ⟨ho, hno⟩
          · exact i4 g (by omega)
        · obtain ⟨c1, c2⟩ := mCi_one i1 hf8 hx hi hb h9 (dk U f + dm U f) (by omega)
          have hlt := (fon_pl i1 hf8 hb hi h9).2
          rw [if_pos hlt] at c1 c2
          rw [ef, decide_eq_false (nI_nm1 (by omega)), cond_false, c1, c2]
          have t9 := (tk_9 U hf8 hi).1
          refine ⟨o_take i1 hf8 hi hx, by rw [i2]; rfl, by rw [tk_hd _ _ _ 0 (by decide) (by decide) (by decide)]; exact i3, fun g hg => ?_⟩
          rw [tk_hd _ _ _ 7 (by decide) (by decide) (by decide), t9]
          by_cases z : g = f
          · subst z
            refine ⟨ho, fun j hj => ?_⟩
            by_cases z2 : j = i
            · rw [z2, pk_us]; exact m1_ne (by omega)
            · rw [pk_un (by omega)]
              exact fun z => z2 ((i1.f hf8).2.2.2.2 j i hj hi (by rw [z, h9]) (by rw [z]; exact nI_nm1 (by omega)))
          · refine ⟨(i4 g (by omega)).1, fun j hj => ?_⟩
            rw [pk_un (by omega)]; exact (i4 g (by omega)).2 j hj
theorem q_cr {S : MS} {N : Nat → Int32} (h : RR S N) (p : Int32) : vCm N p = vCrash S p ∧ mPe N p = exB S p ∧ (exB S p = true → RR (sCrash S p) (mCrN N (cl p))) := by
  rw [vCm, vCrash, r_pe h]
  cases hx : exB S p with
  | false => exact ⟨by rw [if_neg (by decide), if_neg (by decide)], rfl, fun z => absurd z (by decide)⟩
  | true =>
    obtain ⟨a, ha, rfl⟩ := ex_ex hx
    have hx' : ¬ S 0 a = 0 := by rw [ex_nI h ha, decide_eq_true_eq] at hx; exact hx
    obtain ⟨i1, i2, i3, i4⟩ := cr_loop h ha 8 (Nat.le_refl _)
    rw [cl_nI (by omega), if_pos rfl, if_pos rfl, i2]
    exact ⟨rfl, rfl, fun _ => o_rem i1 ha (by rw [i3]; exact hx') i4⟩
