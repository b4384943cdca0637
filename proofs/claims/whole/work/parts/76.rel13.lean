/-! ===== join, pay, setOnline, spoil, word, audit ===== -/
theorem fst_fs (g : Nat → Bool) : ∀ n i, (fsN g i n = i + n ∧ fstF g i n = -1) ∨ (fsN g i n < i + n ∧ fstF g i n = nI (fsN g i n) ∧ g (fsN g i n) = false)
  | 0, i => Or.inl ⟨rfl, rfl⟩
  | n + 1, i => by
    rw [fsN, fstF]
    cases hg : g i with
    | false => exact Or.inr ⟨by rw [if_neg (by decide)]; omega, by rw [if_neg (by decide), if_neg (by decide)], by rw [if_neg (by decide)]; exact hg⟩
    | true =>
      rw [if_pos rfl, if_pos rfl]
      rcases fst_fs g n (i + 1) with ⟨a, b⟩ | ⟨a, b, c⟩
      · exact Or.inl ⟨by omega, b⟩
      · exact Or.inr ⟨by omega, b, c⟩
theorem rg_le (v a b : Int32) : rgB v a b = (decide (¬ v < a) && decide (v ≤ b)) := by
  rw [rgB]; congr 1; rw [decide_eq_decide]; exact Int32.not_lt
theorem rg1_ex {v a b : Int32} {m n : Nat} (ha : a = nI m) (hb : b = nI n) (hm : m < 2 ^ 31) (hn : n < 2 ^ 31) (h : rgB v a b = true) : ∃ j, m ≤ j ∧ j ≤ n ∧ v = nI j := by
  subst ha hb
  simp only [rgB, Bool.and_eq_true, decide_eq_true_eq] at h
  obtain ⟨h1, h2⟩ := h
  have h0 : ¬ v < 0 := fun z => h1 (Int32.lt_of_lt_of_le z (nI_pos' hm))
  have h3 := h1
  rw [nI_cl h0, nI_ltI (cl_lt v) hm] at h3
  have h4 := h2
  rw [nI_cl h0, nI_ltI hn (cl_lt v)] at h4
  exact ⟨cl v, by omega, by omega, nI_cl h0⟩
theorem q_jo {S : MS} {N : Nat → Int32} (h : RR S N) (u : Int32) : vJm N u = vJoin S u ∧ okJm N u = okJoin S u ∧ (okJoin S u = true → RR (sAdd S (luP S) u) (mJoN N (mLp N) u)) := by
  have eg : mLp N = fsN (fun p => exB S (nI p)) 0 12 := by rw [mLp, show (fun p => mPe N (nI p)) = (fun p => exB S (nI p)) from funext fun p => r_pe h _]
  have eu : ∀ A B C : Int32, (if u < 1 then A else if u ≤ 40 then B else A) = (if rgB u 1 40 then B else A) := fun A B C => by
    rw [rg_le]
    by_cases c1 : u < 1
    · rw [if_pos c1, decide_eq_false (fun z => z c1), Bool.false_and, if_neg (by decide)]
    · rw [if_neg c1, decide_eq_true c1, Bool.true_and]
      by_cases c2 : u ≤ 40
      · rw [if_pos c2, decide_eq_true c2, if_pos rfl]
      · rw [if_neg c2, decide_eq_false c2, if_neg (by decide)]
  rw [vJm, vJoin, eu _ _ 0, okJm, okJoin, ← rg_le, luP, eg]
  cases hr : rgB u 1 40 with
  | false => exact ⟨by rw [if_neg (by decide), if_neg (by decide)], by rw [Bool.false_and, Bool.false_and], fun z => absurd z (by rw [Bool.false_and]; decide)⟩
  | true =>
    rw [if_pos rfl, if_pos rfl, Bool.true_and, Bool.true_and]
    rcases fst_fs (fun p => exB S (nI p)) 12 0 with ⟨a, b⟩ | ⟨a, b, c⟩
    · rw [b, show fsN (fun p => exB S (nI p)) 0 12 = 12 from a]
      exact ⟨rfl, rfl, fun z => absurd z (by decide)⟩
    · have hp12 : fsN (fun p => exB S (nI p)) 0 12 < 12 := by omega
      rw [b, if_neg (by omega), if_neg (nI_nm1 (by omega)), decide_eq_true (show ¬ fsN (fun p => exB S (nI p)) 0 12 = 12 by omega), decide_eq_true (nI_nm1 (by omega))]
      refine ⟨rfl, rfl, fun _ => ?_⟩
      obtain ⟨v, h1, h2, rfl⟩ := rg1_ex (m := 1) (n := 40) rfl rfl (by decide) (by decide) hr
      refine o_join h hp12 ?_ h1 h2
      have c' : exB S (nI (fsN (fun p => exB S (nI p)) 0 12)) = false := c
      rw [ex_nI h hp12] at c'
      exact Decidable.of_not_not (of_decide_eq_false c')
theorem q_pa {S : MS} {N : Nat → Int32} (h : RR S N) (p q a : Int32) : vPm N p q a = vPay S p q a ∧ okPm N p q a = okPay S p q a ∧ (okPay S p q a = true → RR (sOwe S p q (-a)) (mOwe N p q (-a))) := by
  rw [vPm, vPay, okPm, okPay, r_two h, rg_le, ← Bool.and_assoc]
  cases ht : (twoB S p q && decide (¬ a < 1) && decide (a ≤ 1000)) with
  | false => exact ⟨by rw [if_neg (by decide), if_neg (by decide)], by rw [Bool.false_and, Bool.false_and], fun z => absurd z (by rw [Bool.false_and]; decide)⟩
  | true =>
    have ht2 : twoB S p q = true := by simp only [Bool.and_eq_true] at ht; exact ht.1.1
    obtain ⟨x, y, hx, hy, hxy, rfl, rfl⟩ := two_ex ht2
    have hx0 : ¬ S 0 x = 0 ∧ ¬ S 0 y = 0 := by
      simp only [twoB, Bool.and_eq_true] at ht2
      rw [ex_nI h hx, ex_nI h hy] at ht2
      exact ⟨of_decide_eq_true ht2.1.2, of_decide_eq_true ht2.2⟩
    have hr := o_owe h hx hy hx0.1 hx0.2 (-a)
    rw [if_pos rfl, if_pos rfl, Bool.true_and, Bool.true_and, cl_nI (by omega), cl_nI (by omega), r_bal h hx hy, owI, ht2, if_pos rfl, cl_nI (by omega), cl_nI (by omega)]
    have et : twoB (sOwe S (nI x) (nI y) (-a)) (nI x) (nI y) = true := by
      have : sOwe S (nI x) (nI y) (-a) 0 = S 0 := owe_0 _ _ _ _ 0 (by decide)
      rw [twoB, exB, exB, this]; rw [twoB, exB, exB] at ht2; exact ht2
    refine ⟨?_, rfl, fun _ => hr⟩
    rw [owI, et, if_pos rfl, cl_nI (by omega), cl_nI (by omega), ← r_bal hr hx hy]
theorem q_on {S : MS} {N : Nat → Int32} (h : RR S N) (p o : Int32) : vOm N p o = vOnl S p o ∧ okOm N p o = okOnl S p o ∧ (okOnl S p o = true → RR (us S 1 (cl p) o) (upd N (4 * cl p + 2) o)) := by
  have e : okOm N p o = okOnl S p o := by rw [okOm, okOnl, r_pe h, rg_le, ← Bool.and_assoc]
  rw [vOm, vOnl, e]
  cases hk : okOnl S p o with
  | false => exact ⟨by rw [if_neg (by decide), if_neg (by decide)], rfl, fun z => absurd z (by decide)⟩
  | true =>
    rw [okOnl, Bool.and_assoc, ← rg_le, Bool.and_eq_true] at hk
    obtain ⟨a, ha, rfl⟩ := ex_ex hk.1
    rw [if_pos rfl, if_pos rfl, cl_nI (by omega)]
    refine ⟨(h.p ha).2.2.2.2.2.2.1, rfl, fun _ => o_onl h ha ?_ ?_⟩
    · have := hk.1; rw [ex_nI h ha, decide_eq_true_eq] at this; exact this
    · obtain ⟨j, hj, rfl⟩ := rgx (n := 1) rfl (by decide) hk.2
      rcases (show j = 0 ∨ j = 1 by omega) with rfl | rfl
      · exact Or.inl rfl
      · exact Or.inr rfl
theorem o_err {S : MS} {N : Nat → Int32} (h : RR S N) {f i v : Nat} (hf : f < 8) (hi : i < dk S f + dm S f) (hx : 0 < dk S f) (h9 : ¬ S 9 (10 * f + i) = -1) (hv : v < 257) : RR (us S 10 (10 * f + i) (nI v)) (upd N (192 + 30 * f + (20 + i)) (nI v)) := by
  have h1 := (h.f hf).1
  have hi10 : i < 10 := by omega
  have hX := (h.f hf).2.2.1 hx
  have e9 : us S 10 (10 * f + i) (nI v) 9 = S 9 := us_ne (by decide)
  refine RR_9 h hf hx (fun t _ _ h10 => us_ne h10) (fun x hx => ?_) (fun p hp => ?_) (fun x hx => pk_un (by omega)) (fun j hj => ?_) (fun j hj => ?_) (fun a b ha hb e1 e2 => ?_)
  · rw [e9, us_eq, pk_un (by omega)]; exact ⟨rfl, rfl⟩
  · rw [us_ne (by decide), (h.p hp).2.2.2.1, ldN, ldN, e9]
  · rw [e9, us_eq, pk_un (by omega)]
    refine ⟨hX.2.2.2.2.2.1 j hj, ?_⟩
    by_cases z : j = i
    · rw [z, pk_us, pk_us]
    · rw [pk_un (by omega), pk_un (by omega)]; exact hX.2.2.2.2.2.2.1 j hj
  · rw [RLl, e9, us_eq, dk, dm, us_ne (by decide), us_ne (by decide), us_ne (by decide)]
    by_cases z : j = i
    · subst z
      rw [pk_us]
      rcases (h.f hf).2.2.2.1 j hj with e3 | ⟨hlt, q, w, hq, -, e9, ex, -⟩
      · exact absurd e3.1 h9
      · exact Or.inr ⟨hlt, q, v, hq, hv, e9, ex, rfl⟩
    · rw [pk_un (by omega)]; exact (h.f hf).2.2.2.1 j hj
  · rw [e9] at e1 e2; exact (h.f hf).2.2.2.2 a b ha hb e1 e2
theorem q_sp {S : MS} {N : Nat → Int32} (h : RR S N) (f i a : Int32) : vSm N f i a = vSpoil S f i a ∧ okSm N f i a = okSpoil S f i a ∧ (okSpoil S f i a = true → RR (sErr S f i a) (upd N (192 + 30 * cl f + (20 + cl i)) (mSv N f i a))) := by
  have er : rgB a 1 256 = (decide (¬ a < 1) && decide (a < 257)) := by
    rw [rgB]; congr 1; rw [decide_eq_decide, Int32.lt_iff_toInt_lt, Int32.lt_iff_toInt_lt, show (256 : Int32).toInt = 256 from rfl, show (257 : Int32).toInt = 257 from rfl]; omega
  rw [vSm, vSpoil, okSm, okSpoil, r_if h, Bool.and_assoc (hfB S f i), ← er]
  cases hh : (hfB S f i && rgB a 1 256) with
  | false => exact ⟨by rw [if_neg (by decide), if_neg (by decide)], by rw [Bool.false_and, Bool.false_and], fun z => absurd z (by rw [Bool.false_and]; decide)⟩
  | true =>
    rw [Bool.and_eq_true] at hh
    obtain ⟨x, y, hx, hy, hd, rfl, rfl, hy10⟩ := hf_ex h hh.1
    obtain ⟨v, hv1, hv2, rfl⟩ := rg1_ex (m := 1) (n := 256) rfl rfl (by decide) (by decide) hh.2
    have hX := (h.f hx).2.2.1 hd
    obtain ⟨e, he, e10⟩ := r_er h (10 * x + y) (by omega)
    have hv : mSv N (nI x) (nI y) (nI v) = nI ((e + v) % 257) := by
      rw [mSv, cl_nI (by omega), cl_nI (by omega), hX.2.2.2.2.2.2.1 y hy10, e10, nI_add]; exact rem257 (by omega)
    have hs : sErr S (nI x) (nI y) (nI v) = us S 10 (10 * x + y) (nI ((e + v) % 257)) := by
      rw [sErr, ir_t hx hy10, cond_true, cl_nI (by omega), cl_nI (by omega), e10, remI, nI_add, rem257 (by omega)]
    have hlt := Nat.mod_lt (e + v) (show 257 > 0 by decide)
    rw [if_pos rfl, if_pos rfl, Bool.true_and, Bool.true_and, hv, hs, cl_nI (by omega), cl_nI (by omega), hX.2.2.2.2.2.1 y hy10, pl_nI S hx hy10, er_nI _ hx hy10, us_eq, pk_us]
    have hp := pl_neg h hx hy10
    by_cases c : S 9 (10 * x + y) = -1
    · rw [if_neg (fun z => hp.mp z c), if_pos c, decide_eq_false (fun z => hp.mp z c), decide_eq_false (fun z => z c)]
      exact ⟨rfl, rfl, fun z => absurd z (by decide)⟩
    · rw [if_pos (hp.mpr c), if_neg c, decide_eq_true (hp.mpr c), decide_eq_true c]
      refine ⟨?_, rfl, fun _ => o_err h hx hy hd c hlt⟩
      by_cases z : (e + v) % 257 = 0
      · rw [z]; rfl
      · rw [if_neg (fun y => nI_nle (by omega) (by omega) y), if_neg (fun y => z ((nI_is0 (by omega)).mp y))]
theorem q_wd {S : MS} {N : Nat → Int32} (h : RR S N) (w : Int32) : vWm N w = vWord S w ∧ RR (cond (okWord S w) (sWait S w) S) (cond (okWm N w) (mWo N w) N) := by
  obtain ⟨k, hk, e12, e432, h11, h433⟩ := h.2.2.2
  have eu : ∀ A B : Int32, (if w < 0 then A else if w ≤ 255 then B else A) = (if rgB w 0 255 then B else A) := fun A B => by
    rw [rg_le]
    by_cases c1 : w < 0
    · rw [if_pos c1, decide_eq_false (fun z => z c1), Bool.false_and, if_neg (by decide)]
    · rw [if_neg c1, decide_eq_true c1, Bool.true_and]
      by_cases c2 : w ≤ 255
      · rw [if_pos c2, decide_eq_true c2, if_pos rfl]
      · rw [if_neg c2, decide_eq_false c2, if_neg (by decide)]
  rw [vWm, vWord, eu, okWord, okWm, ← rg_le]
  cases hr : rgB w 0 255 with
  | false => exact ⟨by rw [if_neg (by decide), if_neg (by decide)], by rw [Bool.false_and, Bool.false_and]; exact h⟩
  | true =>
    obtain ⟨v, hv, rfl⟩ := rgx (n := 255) rfl (by decide) hr
    rw [if_pos rfl, if_pos rfl, Bool.true_and, Bool.true_and]
    by_cases c : k = 6
    · subst c
      rw [e12, e432, if_pos (show nI 6 = 6 from rfl), if_neg (show ¬ nI 6 < 6 by decide), decide_eq_false (show ¬ nI 6 < 6 by decide), decide_eq_false (fun z => z rfl : ¬ ¬ nI 6 = 6)]
      exact ⟨rfl, h⟩
    · have c6 : nI k < 6 := nI_lt (b := 6) (by omega) (by decide)
      have c7 : ¬ nI k = 6 := fun z => c (nI_inj' (b := 6) z (by omega) (by decide))
      have hin : inB (nI k) 6 = true := is_inB (nI_pos (by omega)) (nI_ge (b := 6) (by omega) (by decide))
      have hs : sWait S (nI v) = us (us S 11 k (nI v)) 12 0 (nI (k + 1)) := by rw [sWait, e12, hin, cond_true, cl_nI (by omega), nI_1]
      have hm : mWo N (nI v) = upd (upd N 432 (nI (k + 1))) (433 + k) (nI v) := by rw [mWo, e432, nI_1, cl_nI (by omega), show 432 + (k + 1) = 433 + k by omega]
      rw [hs, hm, e12, e432, if_neg c7, if_pos c6, decide_eq_true c6, decide_eq_true c7, cond_true, cond_true, us_eq, pk_us, pk_un (by omega), pk_us]
      refine ⟨rfl, ?_⟩
      have e3 : ∀ t, ¬ t = 11 → ¬ t = 12 → us (us S 11 k (nI v)) 12 0 (nI (k + 1)) t = S t := fun t a b => by rw [us_ne b, us_ne a]
      have eN : ∀ x, x < 432 → upd (upd N 432 (nI (k + 1))) (433 + k) (nI v) x = N x := fun x hx => by rw [pk_un (by omega), pk_un (by omega)]
      refine ⟨fun p hp => ?_, ⟨fun j hj => ?_, fun p q hp hq hh => ?_⟩, fun f hf => ?_, k + 1, by omega, ?_, ?_, fun d hd => ?_, fun d hd => ?_⟩
      · exact RLp_congr (by rw [e3 0 (by decide) (by decide)]) (by rw [e3 1 (by decide) (by decide)]) (by rw [e3 2 (by decide) (by decide)]) (by rw [e3 3 (by decide) (by decide)]) (e3 9 (by decide) (by decide)) (fun c hc => eN _ (by omega)) (h.p hp)
      · rw [eN _ (by omega), e3 4 (by decide) (by decide)]; exact h.2.1.1 j hj
      · rw [e3 0 (by decide) (by decide)] at hh
        rw [e3 4 (by decide) (by decide)]; exact h.2.1.2 p q hp hq hh
      · exact RLf_congr (by rw [e3 5 (by decide) (by decide)]) (by rw [e3 6 (by decide) (by decide)]) (by rw [e3 7 (by decide) (by decide)]) (fun i _ => by rw [e3 8 (by decide) (by decide)]) (fun i _ => by rw [e3 9 (by decide) (by decide)]) (fun i _ => by rw [e3 10 (by decide) (by decide)]) (fun p _ hx _ => by rw [e3 0 (by decide) (by decide)]; exact hx) (fun j _ => eN _ (by omega)) (h.f hf)
      · rw [us_eq, pk_us]
      · rw [pk_un (by omega), pk_us]
      · rw [us_ne (by decide), us_eq]
        by_cases z : d = k
        · rw [z, pk_us]; exact ⟨v, by omega, rfl⟩
        · rw [pk_un z]; exact h11 d hd
      · rw [us_ne (by decide), us_eq]
        by_cases z : d = k
        · rw [z, pk_us, pk_us]
        · rw [pk_un (by omega), pk_un (by omega), pk_un z]; exact h433 d (by omega)
theorem half100 : ∀ t, t < 101 → nI t / 2 = nI (t / 2) := by decide +kernel
theorem q_au {S : MS} {N : Nat → Int32} (h : RR S N) (a p s : Int32) : vAm N a p s = vAud S a p s ∧ (okAm N a p s && okAm2 N a p) = (okAud S a p s && okAud2 S a p) ∧ ((okAud S a p s && okAud2 S a p) = true → RR (sAud S a p s) (mAuN N a p s)) := by
  have er : rgB s 0 256 = (decide (¬ s < 0) && decide (s < 257)) := by
    rw [rgB]; congr 1; rw [decide_eq_decide, Int32.lt_iff_toInt_lt, Int32.lt_iff_toInt_lt, show (256 : Int32).toInt = 256 from rfl, show (257 : Int32).toInt = 257 from rfl]; omega
  have e1 : okAm N a p s = okAud S a p s := by rw [okAm, okAud, r_two h, er, ← Bool.and_assoc]
  rw [vAm, vAud, e1]
  cases hk : okAud S a p s with
  | false => exact ⟨by rw [if_neg (by decide), if_neg (by decide)], by rw [Bool.false_and, Bool.false_and], fun z => absurd z (by rw [Bool.false_and]; decide)⟩
  | true =>
    have ht : twoB S a p = true := by rw [okAud] at hk; simp only [Bool.and_eq_true] at hk; exact hk.1.1
    obtain ⟨x, y, hx, hy, hxy, rfl, rfl⟩ := two_ex ht
    have hyx : exB S (nI y) = true := by simp only [twoB, Bool.and_eq_true] at ht; exact ht.2
    have e2 : okAm2 N (nI x) (nI y) = okAud2 S (nI x) (nI y) := by rw [okAm2, okAud2, r_on h hx, r_on h hy]
    rw [if_pos rfl, if_pos rfl, Bool.true_and, Bool.true_and, e2]
    cases hk2 : okAud2 S (nI x) (nI y) with
    | false => exact ⟨by rw [if_neg (by decide), if_neg (by decide)], rfl, fun z => absurd z (by decide)⟩
    | true =>
      rw [if_pos rfl, if_pos rfl]
      obtain ⟨v, hv, o1, o2, o3⟩ := r_of h (nI x) hy (cl s)
      have hnc : chN S (nI x) (nI y) ≤ 8 := chE_le _ _ _ _ 8
      obtain ⟨-, -, ⟨t1, t2⟩, -, -, -, -, e4⟩ := h.p hy
      rw [mAuN, sAud, o1, o2, cl_nI (by omega), e4, t1]
      generalize cl (S 2 y) = t at t1 t2
      by_cases c0 : chN S (nI x) (nI y) = 0
      · rw [if_pos c0, o3 c0, c0]
        refine ⟨rfl, rfl, fun _ => ?_⟩
        rw [show mTr (nI t) (-1) = nI t from rfl, upd_id (by rw [e4, t1])]
        exact h
      · rw [if_neg c0, decide_eq_true (nI_nle (show 0 < chN S (nI x) (nI y) by omega) (by omega)), cond_true]
        by_cases cv : v = 0
        · subst cv
          rw [decide_eq_true rfl, cond_true]
          refine ⟨rfl, rfl, fun _ => ?_⟩
          rw [sRaise, hyx, cond_true, cl_nI (by omega), t1]
          by_cases c5 : t ≤ 95
          · have e5 : mTr (nI t) (nI 0) = nI (t + 5) := by
              rw [mTr, if_pos (by decide), if_pos (by decide), if_pos (show nI t ≤ 95 from nI_le (b := 95) c5 (by decide))]; exact nI_add t 5
            have e6 : cap100 (nI t + 5) = nI (t + 5) := by
              rw [cap100, show nI t + 5 = nI (t + 5) from nI_add t 5, if_neg (show ¬ 100 < nI (t + 5) from nI_nlt (a := 100) (by omega) (by decide))]
            rw [e5, e6]; exact o_tru h hy (by omega)
          · have e5 : mTr (nI t) (nI 0) = nI 100 := by
              rw [mTr, if_pos (by decide), if_pos (by decide), if_neg (show ¬ nI t ≤ 95 from nI_ge (a := 95) (by omega) (by omega))]; rfl
            have e6 : cap100 (nI t + 5) = nI 100 := by
              rw [cap100, show nI t + 5 = nI (t + 5) from nI_add t 5]
              by_cases z : t = 95
              · omega
              · rw [if_pos (show 100 < nI (t + 5) from nI_lt (a := 100) (by omega) (by omega))]; rfl
            rw [e5, e6]; exact o_tru h hy (by omega)
        · rw [decide_eq_false cv, cond_false]
          have hvle : ¬ nI v ≤ 0 := nI_nle (by omega) (by omega)
          refine ⟨by rw [if_neg hvle]; rfl, rfl, fun _ => ?_⟩
          rw [sHalve, hyx, cond_true, cl_nI (by omega), t1, mTr, if_pos (nI_pos' (by omega)), if_neg hvle, half100 t (by omega)]
          exact o_tru h hy (by omega)
