/-! ===== store ===== -/
theorem mSA_at (T : Nat → Int32) (f : Nat) : ∀ n, n ≤ 10 → ∀ x, mSA T f n x = if 192 + 30 * f + 10 ≤ x ∧ x < 192 + 30 * f + 10 + n then -1 else if 192 + 30 * f + 20 ≤ x ∧ x < 192 + 30 * f + 20 + n then 0 else T x
  | 0, _, x => by rw [mSA, if_neg (by omega), if_neg (by omega)]
  | n + 1, hn, x => by
    rw [mSA, upd2, mSA_at T f n (by omega) x]
    by_cases c1 : x = 192 + 30 * f + (20 + n)
    · rw [if_pos c1, if_neg (by omega), if_pos (by omega)]
    · rw [if_neg c1]
      by_cases c2 : x = 192 + 30 * f + (10 + n)
      · rw [if_pos c2, if_pos (by omega)]
      · rw [if_neg c2]
        by_cases c3 : 192 + 30 * f + 10 ≤ x ∧ x < 192 + 30 * f + 10 + n
        · rw [if_pos c3, if_pos (by omega)]
        · rw [if_neg c3, if_neg (show ¬ (192 + 30 * f + 10 ≤ x ∧ x < 192 + 30 * f + 10 + (n + 1)) by omega)]
          by_cases c4 : 192 + 30 * f + 20 ≤ x ∧ x < 192 + 30 * f + 20 + n
          · rw [if_pos c4, if_pos (by omega)]
          · rw [if_neg c4, if_neg (by omega)]
theorem mSB_at (T : Nat → Int32) {f : Nat} (hf : f < 8) : ∀ n, n ≤ 6 → ∀ x, mSB T f n x = if 192 + 30 * f + 4 ≤ x ∧ x < 192 + 30 * f + 4 + n then (if T 432 ≤ nI (x - (192 + 30 * f + 4)) then 0 else T (433 + (x - (192 + 30 * f + 4)))) else if 433 ≤ x ∧ x < 433 + n then 0 else T x
  | 0, _, x => by rw [mSB, if_neg (by omega), if_neg (by omega)]
  | n + 1, hn, x => by
    have e1 : mSB T f n 432 = T 432 := by rw [mSB_at T hf n (by omega) 432, if_neg (by omega), if_neg (by omega)]
    have e2 : mSB T f n (433 + n) = T (433 + n) := by rw [mSB_at T hf n (by omega) (433 + n), if_neg (by omega), if_neg (by omega)]
    rw [mSB, upd2, e1, e2, mSB_at T hf n (by omega) x]
    by_cases c1 : x = 433 + n
    · rw [if_pos c1, if_neg (by omega), if_pos (by omega)]
    · rw [if_neg c1]
      by_cases c2 : x = 192 + 30 * f + (4 + n)
      · rw [if_pos c2, if_pos (show 192 + 30 * f + 4 ≤ x ∧ x < 192 + 30 * f + 4 + (n + 1) by omega), show x - (192 + 30 * f + 4) = n by omega]
      · rw [if_neg c2]
        by_cases c3 : 192 + 30 * f + 4 ≤ x ∧ x < 192 + 30 * f + 4 + n
        · rw [if_pos c3, if_pos (show 192 + 30 * f + 4 ≤ x ∧ x < 192 + 30 * f + 4 + (n + 1) by omega)]
        · rw [if_neg c3, if_neg (show ¬ (192 + 30 * f + 4 ≤ x ∧ x < 192 + 30 * f + 4 + (n + 1)) by omega)]
          by_cases c4 : 433 ≤ x ∧ x < 433 + n
          · rw [if_pos c4, if_pos (by omega)]
          · rw [if_neg c4, if_neg (by omega)]
/-- the row of a new file, before its fragments are placed -/
theorem mSD_at (N : Nat → Int32) {f : Nat} (hf : f < 8) (o r : Int32) : (∀ x, x < 432 → (x < 192 + 30 * f ∨ 192 + 30 * f + 30 ≤ x) → mSD N f o r x = N x) ∧ mSD N f o r 432 = 0 ∧ mSD N f o r (192 + 30 * f + 0) = 1 ∧ mSD N f o r (192 + 30 * f + 1) = o ∧ mSD N f o r (192 + 30 * f + 2) = N 432 ∧ mSD N f o r (192 + 30 * f + 3) = r ∧ (∀ d, d < 6 → mSD N f o r (192 + 30 * f + (4 + d)) = if N 432 ≤ nI d then 0 else N (433 + d)) ∧ (∀ i, i < 10 → mSD N f o r (192 + 30 * f + (10 + i)) = -1) ∧ ∀ i, i < 10 → mSD N f o r (192 + 30 * f + (20 + i)) = 0 := by
  have e0 : ∀ x, mSA (mS0 N f o r) f 10 x = if 192 + 30 * f + 10 ≤ x ∧ x < 192 + 30 * f + 20 then -1 else if 192 + 30 * f + 20 ≤ x ∧ x < 192 + 30 * f + 30 then 0 else mS0 N f o r x := fun x => mSA_at _ f 10 (Nat.le_refl _) x
  have e1 : ∀ x, ¬ x = 432 → mSD N f o r x = if 192 + 30 * f + 4 ≤ x ∧ x < 192 + 30 * f + 10 then (if N 432 ≤ nI (x - (192 + 30 * f + 4)) then 0 else N (433 + (x - (192 + 30 * f + 4)))) else if 433 ≤ x ∧ x < 439 then 0 else mSA (mS0 N f o r) f 10 x := fun x hx => by
    have e432 : mSA (mS0 N f o r) f 10 432 = N 432 := by
      rw [e0, if_neg (by omega), if_neg (by omega), mS0, pk_un (by omega), pk_un (by omega), pk_un (by omega), pk_un (by omega)]
    rw [mSD, pk_un hx, mSB_at _ hf 6 (Nat.le_refl _) x, e432]
    by_cases c : 192 + 30 * f + 4 ≤ x ∧ x < 192 + 30 * f + 10
    · have ey : ∀ d, mSA (mS0 N f o r) f 10 (433 + d) = N (433 + d) := fun d => by rw [e0, if_neg (by omega), if_neg (by omega), mS0, pk_un (by omega), pk_un (by omega), pk_un (by omega), pk_un (by omega)]
      rw [if_pos c, if_pos (show 192 + 30 * f + 4 ≤ x ∧ x < 192 + 30 * f + 4 + 6 by omega), ey]
    · rw [if_neg c, if_neg (show ¬ (192 + 30 * f + 4 ≤ x ∧ x < 192 + 30 * f + 4 + 6) by omega)]
  refine ⟨fun x hx hh => ?_, ?_, ?_, ?_, ?_, ?_, fun d hd => ?_, fun i hi => ?_, fun i hi => ?_⟩
  · rw [e1 x (by omega), if_neg (by omega), if_neg (by omega), e0, if_neg (by omega), if_neg (by omega), mS0, pk_un (by omega), pk_un (by omega), pk_un (by omega), pk_un (by omega)]
  · rw [mSD, pk_us]
  · rw [e1 _ (by omega), if_neg (by omega), if_neg (by omega), e0, if_neg (by omega), if_neg (by omega), mS0, pk_un (by omega), pk_un (by omega), pk_un (by omega), pk_us]
  · rw [e1 _ (by omega), if_neg (by omega), if_neg (by omega), e0, if_neg (by omega), if_neg (by omega), mS0, pk_un (by omega), pk_un (by omega), pk_us]
  · rw [e1 _ (by omega), if_neg (by omega), if_neg (by omega), e0, if_neg (by omega), if_neg (by omega), mS0, pk_un (by omega), pk_us]
  · rw [e1 _ (by omega), if_neg (by omega), if_neg (by omega), e0, if_neg (by omega), if_neg (by omega), mS0, pk_us]
  · rw [e1 _ (by omega), if_pos (by omega), show 192 + 30 * f + (4 + d) - (192 + 30 * f + 4) = d by omega]
  · rw [e1 _ (by omega), if_neg (by omega), if_neg (by omega), e0, if_pos (by omega)]
  · rw [e1 _ (by omega), if_neg (by omega), if_neg (by omega), e0, if_neg (by omega), if_pos (by omega)]
theorem o_new {S : MS} {N : Nat → Int32} (h : RR S N) {f b k m : Nat} (hf : f < 8) (h0 : dk S f = 0) (hb : b < 12) (hbx : ¬ S 0 b = 0) (hk : S 12 0 = nI k) (hk1 : 1 ≤ k) (hk6 : k ≤ 6) (hm : m ≤ 4) : RR (us (sAddF S f (nI b) (fun d => cl (S 11 d)) k m) 12 0 0) (mSD N f (nI b) (nI m)) := by
  obtain ⟨w, hw, a12, a432, a11, a433⟩ := h.2.2.2
  have ewk : w = k := nI_inj' (a12.symm.trans hk) (by omega) (by omega)
  subst ewk
  obtain ⟨m1, m2, m3, m4, m5, m6, m7, m8, m9⟩ := mSD_at N hf (nI b) (nI m)
  generalize mSD N f (nI b) (nI m) = N' at m1 m2 m3 m4 m5 m6 m7 m8 m9
  have e12 : us (sAddF S f (nI b) (fun d => cl (S 11 d)) w m) 12 0 0 12 = upd (S 12) 0 0 := by
    rw [us_eq, sAddF, sFile, if_neg (by decide), us_ne (by decide), us_ne (by decide), us_ne (by decide)]
  have e8 : us (sAddF S f (nI b) (fun d => cl (S 11 d)) w m) 12 0 0 8 = coP (coW (S 8) (fun d => cl (S 11 d)) f w) (fun d => cl (S 11 d)) f w m := by
    rw [us_ne (by decide), sAddF, sFile, if_pos rfl]
  have e7 : us (sAddF S f (nI b) (fun d => cl (S 11 d)) w m) 12 0 0 7 = upd (S 7) f (nI b) := by
    rw [us_ne (by decide), sAddF, sFile, if_neg (by decide), us_ne (by decide), us_ne (by decide), us_eq]
  have e6 : us (sAddF S f (nI b) (fun d => cl (S 11 d)) w m) 12 0 0 6 = upd (S 6) f (nI m) := by
    rw [us_ne (by decide), sAddF, sFile, if_neg (by decide), us_eq, us_ne (by decide), us_ne (by decide)]
  have e5 : us (sAddF S f (nI b) (fun d => cl (S 11 d)) w m) 12 0 0 5 = upd (S 5) f (nI w) := by
    rw [us_ne (by decide), sAddF, sFile, if_neg (by decide), us_ne (by decide), us_eq, us_ne (by decide)]
  have eo : ∀ t, ¬ t = 5 → ¬ t = 6 → ¬ t = 7 → ¬ t = 8 → ¬ t = 12 → us (sAddF S f (nI b) (fun d => cl (S 11 d)) w m) 12 0 0 t = S t := fun t h5 h6 h7 h8 h12 => by
    rw [us_ne h12, sAddF, sFile, if_neg h8, us_ne h6, us_ne h5, us_ne h7]
  generalize us (sAddF S f (nI b) (fun d => cl (S 11 d)) w m) 12 0 0 = V at e12 e8 e7 e6 e5 eo
  have eo' : ∀ t, t < 5 → V t = S t := fun t ht => eo t (by omega) (by omega) (by omega) (by omega) (by omega)
  refine ⟨fun p hp => ?_, ⟨fun j hj => ?_, fun p q hp hq hh => ?_⟩, fun g hg => ?_, 0, by omega, by rw [e12, pk_us]; rfl, m2, fun d hd => ?_, fun d hd => absurd hd (Nat.not_lt_zero _)⟩
  · exact RLp_congr (by rw [eo' 0 (by decide)]) (by rw [eo' 1 (by decide)]) (by rw [eo' 2 (by decide)]) (by rw [eo' 3 (by decide)]) (eo 9 (by decide) (by decide) (by decide) (by decide) (by decide)) (fun c hc => m1 _ (by omega) (by omega)) (h.p hp)
  · rw [m1 _ (by omega) (by omega), eo' 4 (by decide)]; exact h.2.1.1 j hj
  · rw [eo' 0 (by decide)] at hh
    rw [eo' 4 (by decide)]; exact h.2.1.2 p q hp hq hh
  · have e9 : V 9 = S 9 := eo 9 (by decide) (by decide) (by decide) (by decide) (by decide)
    have e10 : V 10 = S 10 := eo 10 (by decide) (by decide) (by decide) (by decide) (by decide)
    by_cases e : g = f
    · subst e
      have kk : dk V g = w := by rw [dk, e5, pk_us, cl_nI (by omega)]
      have mm : dm V g = m := by rw [dm, e6, pk_us, cl_nI (by omega)]
      have hall : ∀ i, i < 10 → S 9 (10 * g + i) = -1 ∧ S 10 (10 * g + i) = 0 := fun i hi => by
        rcases (h.f hg).2.2.2.1 i hi with z | ⟨z, -⟩
        · exact z
        · have := ((h.f hg).2.1 h0).1; omega
      have hwd : ∀ d, d < 6 → cl (S 11 d) < 256 ∧ S 11 d = nI (cl (S 11 d)) := fun d hd => by
        obtain ⟨v, hv, ev⟩ := a11 d hd
        rw [ev, cl_nI (by omega)]; exact ⟨hv, rfl⟩
      refine ⟨⟨by rw [e5, pk_us, kk], by omega, by rw [e6, pk_us, mm], by omega⟩, fun z => by omega, fun _ => ?_, fun i hi => Or.inl (by rw [e9, e10]; exact hall i hi), fun i j hi hj _ z => by rw [e9] at z; exact absurd (hall i hi).1 z⟩
      refine ⟨m3, by rw [m4, e7, pk_us], by rw [m5, e5, pk_us, a432], by rw [m6, e6, pk_us], ⟨b, hb, by rw [e7, pk_us], by rw [eo' 0 (by decide)]; exact hbx⟩, fun i hi => by rw [m8 i hi, e9, (hall i hi).1], fun i hi => by rw [m9 i hi, e10, (hall i hi).2], fun d => cl (S 11 d), fun d hd => ?_, fun i hi => ?_⟩
      · rw [kk] at hd
        refine ⟨(hwd d (by omega)).1, ?_⟩
        rw [m7 d (by omega), a432, if_neg (nI_ge hd (by omega)), a433 d hd]; exact (hwd d (by omega)).2
      · rw [kk, mm] at hi
        rw [kk, e8]
        simp only [coP, coW, corN]
        by_cases c : i < w
        · rw [if_neg (by omega), if_pos (by omega), if_pos c, Nat.add_sub_cancel_left]
        · rw [if_pos (by omega), if_neg c, show 10 * g + i - (10 * g + w) = i - w by omega]
    · exact RLf_congr (by rw [e5, pk_un e]) (by rw [e6, pk_un e]) (by rw [e7, pk_un e]) (fun i hi => by
        rw [e8]; simp only [coP, coW]; rw [if_neg (by omega), if_neg (by omega)]) (fun i _ => by rw [e9]) (fun i _ => by rw [e10]) (fun p _ hx _ => by rw [eo' 0 (by decide)]; exact hx) (fun j hj => m1 _ (by omega) (by omega)) (h.f hg)
  · rw [eo 11 (by decide) (by decide) (by decide) (by decide) (by decide)]; exact a11 d hd
theorem plc_hd (S : MS) (f i : Int32) : ∀ t, ¬ t = 3 → ¬ t = 4 → ¬ t = 9 → ¬ t = 10 → sPlc S f i t = S t := fun t h3 h4 h9 h10 => by
  rw [sPlc]
  cases decide (bstI S f 12 = -1) with
  | true => rfl
  | false => rw [cond_false, put_hd _ _ _ _ _ t h3 h4 h9 h10]
theorem plc_9 (S : MS) {f i x : Nat} (hf : f < 8) (hi : i < 10) (hx : ¬ x = 10 * f + i) : sPlc S (nI f) (nI i) 9 x = S 9 x := by
  rw [sPlc]
  cases decide (bstI S (nI f) 12 = -1) with
  | true => rfl
  | false => rw [cond_false, pu_9 _ _ _ hf hi, pk_un hx]
theorem pl_loop {V : MS} {M : Nat → Int32} (h : RR V M) {f : Nat} (hf : f < 8) (hx : 0 < dk V f) (hno : ∀ i, i < 10 → V 9 (10 * f + i) = -1) : ∀ i, i ≤ dk V f + dm V f → RR (sPlA V (nI f) i) (mSC M f i) ∧ (∀ t, ¬ t = 3 → ¬ t = 4 → ¬ t = 9 → ¬ t = 10 → sPlA V (nI f) i t = V t) ∧ ∀ j, i ≤ j → j < 10 → sPlA V (nI f) i 9 (10 * f + j) = -1
  | 0, _ => ⟨h, fun _ _ _ _ _ => rfl, fun j _ hj => hno j hj⟩
  | i + 1, hi => by
    obtain ⟨i1, i2, i3⟩ := pl_loop h hf hx hno i (by omega)
    have h1 := (h.f hf).1
    have k5 : dk (sPlA V (nI f) i) f = dk V f := by rw [dk, dk, i2 5 (by decide) (by decide) (by decide) (by decide)]
    have k6 : dm (sPlA V (nI f) i) f = dm V f := by rw [dm, dm, i2 6 (by decide) (by decide) (by decide) (by decide)]
    refine ⟨(o_plc i1 hf (i := i) (by rw [k5, k6]; omega) (by rw [k5]; exact hx) (i3 i (Nat.le_refl _) (by omega))).1, fun t h3 h4 h9 h10 => ?_, fun j hj hj10 => ?_⟩
    · rw [sPlA, plc_hd _ _ _ t h3 h4 h9 h10]; exact i2 t h3 h4 h9 h10
    · rw [sPlA, plc_9 _ hf (by omega) (by omega)]; exact i3 j (by omega) hj10
theorem full8 (g : Nat → Bool) : nI (cntB g 8) = 8 ↔ fstF g 0 8 = -1 := by
  have hl := cntB_le g 8
  rw [show (8 : Int32) = nI 8 from rfl, nI_eq (by omega) (by decide)]
  have hs := cnt_split (fun _ => true) g 8
  have ht : cntB (fun _ => true) 8 = 8 := rfl
  rw [ht] at hs
  rcases fstF_all (g := g) (n := 8) (i := 0) with ⟨e, ha⟩ | ⟨j, -, h2, e, hj, -⟩
  · rw [e]
    have : cntB (fun i => true && !g i) 8 = 0 := cntB_z fun i hi => by rw [ha i (Nat.zero_le _) (by omega)]; rfl
    have e3 : cntB (fun i => true && g i) 8 = cntB g 8 := cntB_congr fun i _ => Bool.true_and _
    constructor
    · intro _; rfl
    · intro _; omega
  · rw [e]
    have e3 : cntB (fun i => true && g i) 8 = cntB g 8 := cntB_congr fun i _ => Bool.true_and _
    have := cnt_del (fun i => true && !g i) j 8 (by omega)
    rw [hj, if_pos (show (true && !false) = true from rfl)] at this
    constructor
    · intro z; omega
    · intro z; exact absurd z (nI_nm1 (by omega))
theorem q_st {S : MS} {N : Nat → Int32} (h : RR S N) (o m : Int32) : vSt N o m = vStore S o m ∧ okSt N o m = okStore S o m ∧ (okStore S o m = true → RR (sStore S o m) (mStN N (mLf N) o m)) := by
  obtain ⟨k, hk, e432, e12⟩ := r_432 h
  have e1 : (mPe N o && rgB m 0 4) = okSt0 S o m := by rw [okSt0, r_pe h, rg_le, ← Bool.and_assoc]
  have eg : (fun f => mFi N (nI f)) = (fun f => exF S (nI f)) := funext fun f => r_fi h _
  have e3 : decide (¬ mFs N = 8) = decide (¬ luF S = -1) := by
    rw [decide_eq_decide, mFs, luF, eg, full8]
  have e3' : mFs N = 8 ↔ luF S = -1 := by rw [mFs, luF, eg, full8]
  rw [vSt, vStore, okSt, okStore, e1]
  cases h0 : okSt0 S o m with
  | false => exact ⟨by rw [if_neg (by decide), if_neg (by decide)], by simp, fun z => absurd z (by simp)⟩
  | true =>
    have hox : exB S o = true := by simp only [okSt0, Bool.and_eq_true] at h0; exact h0.1.1
    have hrm : rgB m 0 4 = true := by rw [← e1, Bool.and_eq_true] at h0; exact h0.2
    obtain ⟨b, hb, rfl⟩ := ex_ex hox
    obtain ⟨r, hr, rfl⟩ := rgx (n := 4) rfl (by decide) hrm
    have e2 : (decide (¬ N 432 = 0) && mOn N (nI b)) = okSt1 S (nI b) := by rw [okSt1, e432, e12, r_on h hb]
    rw [if_pos rfl, if_pos rfl, Bool.true_and, Bool.true_and, e2, e3]
    cases h1 : okSt1 S (nI b) with
    | false => exact ⟨by rw [if_neg (by decide), if_neg (by decide)], rfl, fun z => absurd z (by simp)⟩
    | true =>
      rw [if_pos rfl, if_pos rfl, Bool.true_and]
      have hk0 : 1 ≤ k := by
        simp only [okSt1, Bool.and_eq_true, decide_eq_true_eq] at h1
        have := h1.1; rw [e12, nI_is0 (by omega)] at this; omega
      have eml : mLf N = fsN (fun f => exF S (nI f)) 0 8 := by rw [mLf, eg]
      rcases fst_fs (fun f => exF S (nI f)) 8 0 with ⟨x1, x2⟩ | ⟨x1, x2, x3⟩
      · have x2' : luF S = -1 := x2
        rw [x2', if_pos (e3'.mpr x2'), if_pos rfl]
        exact ⟨rfl, rfl, fun z => absurd z (by decide)⟩
      · have x2' : luF S = nI (mLf N) := by rw [eml]; exact x2
        have hf : mLf N < 8 := by rw [eml]; omega
        have hne : ¬ luF S = -1 := by rw [x2']; exact nI_nm1 (by omega)
        rw [if_neg hne, if_neg (fun z => hne (e3'.mp z)), x2', decide_eq_true (nI_nm1 (show mLf N < 2 ^ 31 by omega))]
        refine ⟨rfl, rfl, fun _ => ?_⟩
        have x3' : exF S (nI (mLf N)) = false := by rw [eml]; exact x3
        have hd0 : dk S (mLf N) = 0 := by
          rw [exF_nI h hf] at x3'
          have := of_decide_eq_false x3'; omega
        have hbx : ¬ S 0 b = 0 := by rw [ex_nI h hb, decide_eq_true_eq] at hox; exact hox
        have hnew := o_new h hf hd0 hb hbx e12 hk0 hk hr
        rw [sStore, x2', cl_nI (show mLf N < 2 ^ 31 by omega), e12, cl_nI (by omega), cl_nI (by omega), sMake, mStN]
        have hv9 : us (sAddF S (mLf N) (nI b) (fun d => cl (S 11 d)) k r) 12 0 0 9 = S 9 := by
          rw [us_ne (by decide), sAddF, sFile, if_neg (by decide), us_ne (by decide), us_ne (by decide), us_ne (by decide)]
        have hv5 : dk (us (sAddF S (mLf N) (nI b) (fun d => cl (S 11 d)) k r) 12 0 0) (mLf N) = k := by
          rw [dk, us_ne (by decide), sAddF, sFile, if_neg (by decide), us_ne (by decide), us_eq, pk_us, cl_nI (by omega)]
        rw [r_fr hnew hf, cl_fn hnew hf]
        refine (pl_loop hnew hf (by rw [hv5]; omega) (fun i hi => ?_) _ (Nat.le_refl _)).1
        rw [hv9]
        rcases (h.f hf).2.2.2.1 i hi with z | ⟨z, -⟩
        · exact z.1
        · have := ((h.f hf).2.1 hd0).1; omega
