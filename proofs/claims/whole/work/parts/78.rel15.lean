/-! ===== repair, repairAll ===== -/
theorem owR_0 (S : MS) (f : Int32) : ∀ t, ¬ t = 4 → sOweR S f t = S t := fun t ht => sOR_0 S f _ t ht
theorem rn_hd (S : MS) (f i : Int32) : ∀ t, ¬ t = 3 → ¬ t = 4 → ¬ t = 9 → ¬ t = 10 → sRn S f i t = S t := fun t h3 h4 h9 h10 => by
  rw [sRn]
  cases rnB S f i with
  | true => rw [cond_true, put_hd _ _ _ _ _ t h3 h4 h9 h10, owR_0 _ _ t h4, tk_hd S f i t h3 h9 h10]
  | false => rw [cond_false, tk_hd S f i t h3 h9 h10]
theorem o_rn {S : MS} {N : Nat → Int32} (h : RR S N) {f i : Nat} (hf : f < 8) (hi : i < dk S f + dm S f) (hx : 0 < dk S f) (hg : gdB S (nI f) (nI i) = false) : RR (sRn S (nI f) (nI i)) (mR2 N f i) ∧ mPlB (mR1 N f i) f (-1) = rnB S (nI f) (nI i) := by
  have h1 := (h.f hf).1
  have hi10 : i < 10 := by omega
  obtain ⟨-, eow, e2, -, ⟨o, ho, h7, hox⟩, b6, b7, -⟩ := (h.f hf).2.2.1 hx
  have ht := o_take h hf hi10 hx
  obtain ⟨t9, t10⟩ := tk_9 S hf hi10
  have th := tk_hd S (nI f) (nI i)
  have k5 : dk (sTake S (nI f) (nI i)) f = dk S f := by rw [dk, dk, th 5 (by decide) (by decide) (by decide)]
  have k6 : dm (sTake S (nI f) (nI i)) f = dm S f := by rw [dm, dm, th 6 (by decide) (by decide) (by decide)]
  obtain ⟨p1, p2⟩ := o_plc ht hf (i := i) (by rw [k5, k6]; exact hi) (by rw [k5]; exact hx) (by rw [t9, pk_us])
  have hb := (r_bst ht hf (by rw [k5]; exact hx) (Or.inl rfl) 12 (Nat.le_refl _))
  rw [mR2, sRn, rnB, p2, show (!decide (bstI (sTake S (nI f) (nI i)) (nI f) 12 = -1)) = decide (¬ bstI (sTake S (nI f) (nI i)) (nI f) 12 = -1) from (decide_not).symm]
  refine ⟨?_, rfl⟩
  rcases hb.2 with e | ⟨q, hq, e, hexq, hfq, -⟩
  · rw [e, show decide (¬ (-1 : Int32) = -1) = false from rfl, cond_false, cond_false]
    rw [sPlc, e, decide_eq_true rfl, cond_true] at p1
    exact p1
  · rw [e, decide_eq_true (nI_nm1 (by omega)), cond_true, cond_true]
    -- the readers, before the fragment stands anew
    have h7' : sTake S (nI f) (nI i) 7 f = nI o := by rw [th 7 (by decide) (by decide) (by decide)]; exact h7
    obtain ⟨s, hs, s1, s2⟩ := o_rd ht hf (by rw [k5]; exact hx) ho h7' (by rw [th 0 (by decide) (by decide) (by decide)]; exact hox)
    have er := owR_0 (sTake S (nI f) (nI i)) (nI f)
    have hno : ∀ j, j < 10 → ¬ sTake S (nI f) (nI i) 9 (10 * f + j) = nI q := by
      rcases fon_cases (sTake S (nI f) (nI i)) hf hq with ⟨-, z⟩ | ⟨j, hj, z, -⟩
      · exact z
      · rw [hfq] at z; exact absurd z (m1_ne (by omega))
    have hqx : ¬ sTake S (nI f) (nI i) 0 q = 0 := by rw [ex_nI ht hq, decide_eq_true_eq] at hexq; exact hexq
    have l5 : dk (sOweR (sTake S (nI f) (nI i)) (nI f)) f = dk S f := by rw [dk, er 5 (by decide)]; exact k5
    have l6 : dm (sOweR (sTake S (nI f) (nI i)) (nI f)) f = dm S f := by rw [dm, er 6 (by decide)]; exact k6
    have hput := o_put s2 (e := 0) hf (i := i) (q := q) (by rw [l5, l6]; exact hi) (by rw [l5]; exact hx) hq (by rw [er 0 (by decide)]; exact hqx) (by decide) (by rw [er 9 (by decide), t9, pk_us]) (fun j hj => by rw [er 9 (by decide)]; exact hno j hj)
    rw [er 7 (by decide), h7'] at hput
    -- the two rows are one
    have hso : mSo N f = mSo (mR1 N f i) f := by
      have hgd : ∀ j, j < 10 → mGd (mR1 N f i) f j = mGd N f j := fun j hj => by
        by_cases z : j = i
        · subst z
          rw [r_gd h hf hj hx, hg, mGd]
          have : mR1 N f j (192 + 30 * f + (10 + j)) = -1 := by rw [mR1, pk_un (by omega), pk_us]
          rw [this]; rfl
        · rw [mGd, mGd]
          have z1 : mR1 N f i (192 + 30 * f + (10 + j)) = N (192 + 30 * f + (10 + j)) := by rw [mR1, pk_un (by omega), pk_un (by omega)]
          have z2 : mR1 N f i (192 + 30 * f + (20 + j)) = N (192 + 30 * f + (20 + j)) := by rw [mR1, pk_un (by omega), pk_un (by omega)]
          rw [z1, z2]
          rcases (h.f hf).2.2.2.1 j hj with e3 | ⟨-, p, v, hp, -, e9, -⟩
          · rw [b6 j hj, e3.1]; rfl
          · rw [b6 j hj, e9, mOn, mOn, cl_nI (by omega), mR1, pk_un (by omega), pk_un (by omega)]
      have hfr : mFr (mR1 N f i) f = mFr N f := by rw [mFr, mFr, mR1, pk_un (by omega), pk_un (by omega), pk_un (by omega), pk_un (by omega)]
      rw [mSo, mSo, hfr, r_fr h hf, cl_fn h hf]
      refine congrArg Prod.fst (mSr_congr (n := dk S f + dm S f) ?_ (fun j hj => hgd j (by omega)) (fun j hj hgj => ?_) _ (Nat.le_refl _)).symm
      · rw [mR1, pk_un (by omega), pk_un (by omega)]
      · by_cases z : j = i
        · rw [z, r_gd h hf hi10 hx, hg] at hgj; exact absurd hgj (by decide)
        · rw [mR1, pk_un (by omega), pk_un (by omega)]
    have eN1 : mR1 N f i (192 + 30 * f + 1) = nI o := by rw [mR1, pk_un (by omega), pk_un (by omega), eow, h7]
    have epl : mPlN (mR1 N f i) f i (-1) = mOwe (upd (mR1 N f i) (192 + 30 * f + (10 + i)) (nI q)) (nI o) (nI q) 1 := by
      rw [mPlN, hb.1, e, decide_eq_true (nI_pos' (by omega)), cond_true, pk_un (by omega), eN1]
    have eo2 : mOwe (upd (mR1 N f i) (192 + 30 * f + (10 + i)) (nI q)) (nI o) (nI q) 1 (192 + 30 * f + 1) = nI o := by
      rw [owe_pt _ ho hq, dE, pk_un (by omega), eN1]
      by_cases z : o = q
      · rw [if_pos z, Int32.add_zero]
      · rw [if_neg z, if_neg (by omega), if_neg (by omega), Int32.add_zero]
    rw [hso, s1, epl, mOl_add _ ho eo2 _ 12 (Nat.le_refl _)]
    rw [addD_congr _ o (R' := fun p => s.testBit p) (fun p hp => by rw [decide_eq_true hp, Bool.true_and, bitB_tb hs hp])]
    have efin : addD (mOwe (upd (mR1 N f i) (192 + 30 * f + (10 + i)) (nI q)) (nI o) (nI q) 1) o (fun p => s.testBit p) = mOwe (upd (upd (addD (mR1 N f i) o fun p => s.testBit p) (192 + 30 * f + (10 + i)) (nI q)) (192 + 30 * f + (20 + i)) (nI 0)) (nI o) (nI q) 1 := by
      funext x
      rw [owe_pt _ ho hq]
      simp only [addD]
      by_cases c : 48 ≤ x ∧ x < 192
      · rw [if_pos c, owe_pt _ ho hq, pk_un (by omega), pk_un (by omega), pk_un (by omega), show addD (mR1 N f i) o (fun p => s.testBit p) x = mR1 N f i x + dD o (fun p => s.testBit p) (x - 48) from if_pos c, Int32.add_assoc, Int32.add_assoc, Int32.add_comm (dE o q x)]
      · rw [if_neg c, owe_pt _ ho hq]
        congr 1
        rw [upd2, updE, addD_out _ _ _ (by omega)]
        by_cases z1 : x = 192 + 30 * f + (20 + i)
        · rw [if_pos z1, if_neg (by omega), z1, mR1, pk_us]; rfl
        · rw [if_neg z1]
    rw [efin]
    exact hput
theorem rf_loop {S : MS} {N : Nat → Int32} (h : RR S N) {f : Nat} (hf : f < 8) (hx : 0 < dk S f) : ∀ i, i ≤ dk S f + dm S f → RR (sRF S (nI f) i) (mRp N f i) ∧ nRF S (nI f) i = cRp N f i ∧ ∀ t, ¬ t = 3 → ¬ t = 4 → ¬ t = 9 → ¬ t = 10 → sRF S (nI f) i t = S t
  | 0, _ => ⟨h, rfl, fun _ _ _ _ _ => rfl⟩
  | i + 1, hi => by
    obtain ⟨i1, i2, i3⟩ := rf_loop h hf hx i (by omega)
    have h1 := (h.f hf).1
    have k5 : dk (sRF S (nI f) i) f = dk S f := by rw [dk, dk, i3 5 (by decide) (by decide) (by decide) (by decide)]
    have k6 : dm (sRF S (nI f) i) f = dm S f := by rw [dm, dm, i3 6 (by decide) (by decide) (by decide) (by decide)]
    rw [sRF, nRF, mRp, cRp, r_gd i1 hf (by omega) (by rw [k5]; exact hx), i2]
    cases hg : gdB (sRF S (nI f) i) (nI f) (nI i) with
    | true => exact ⟨i1, rfl, i3⟩
    | false =>
      obtain ⟨r1, r2⟩ := o_rn i1 hf (i := i) (by rw [k5, k6]; omega) (by rw [k5]; exact hx) hg
      rw [r2]
      exact ⟨r1, rfl, fun t h3 h4 h9 h10 => by rw [cond_false, rn_hd _ _ _ t h3 h4 h9 h10]; exact i3 t h3 h4 h9 h10⟩
theorem o_rf {S : MS} {N : Nat → Int32} (h : RR S N) {f : Nat} (hf : f < 8) (hx : 0 < dk S f) : RR (sRF S (nI f) (cl (fnI S (nI f)))) (mRr N f) ∧ nRF S (nI f) (cl (fnI S (nI f))) = cRr N f := by
  rw [mRr, cRr, r_fr h hf, cl_fn h hf]
  obtain ⟨i1, i2, -⟩ := rf_loop h hf hx _ (Nat.le_refl _)
  exact ⟨i1, i2⟩
theorem q_rp {S : MS} {N : Nat → Int32} (h : RR S N) (f : Int32) : vRpm N f = vRep S f ∧ okRm N f = okRep S f ∧ (okRep S f = true → RR (sRF S f (cl (fnI S f))) (mRr N (cl f))) := by
  rw [vRpm, vRep, okRm, okRep, r_fi h]
  cases hx : exF S f with
  | false => exact ⟨by rw [if_neg (by decide), if_neg (by decide)], by rw [Bool.false_and, Bool.false_and], fun z => absurd z (by rw [Bool.false_and]; decide)⟩
  | true =>
    obtain ⟨a, ha, rfl⟩ := exF_ex hx
    have hd : 0 < dk S a := by rw [exF_nI h ha, decide_eq_true_eq] at hx; exact hx
    obtain ⟨r1, r2⟩ := o_rf h ha hd
    rw [if_pos rfl, if_pos rfl, Bool.true_and, Bool.true_and, cl_nI (by omega), r_sf h ha hd, r2]
    exact ⟨rfl, rfl, fun _ => r1⟩
theorem ra_loop {S : MS} {N : Nat → Int32} (h : RR S N) (q : Int32) : ∀ f, f ≤ 8 → RR (sRA S q f) (mRA N q f) ∧ nRA S q f = nI (cRA N q f)
  | 0, _ => ⟨h, rfl⟩
  | f + 1, hf => by
    obtain ⟨i1, i2⟩ := ra_loop h q f (by omega)
    have hf8 : f < 8 := by omega
    have ec : rAC (mRA N q f) q f = (sfB (sRA S q f) (nI f) && decide (¬ q ≤ rsI (sRA S q f) (nI f))) := by
      rw [rAC, r_fi i1, exF_nI i1 hf8]
      rcases Nat.eq_zero_or_pos (dk (sRA S q f) f) with e | hx
      · rw [sfB, exF_nI i1 hf8, e, show decide (0 < 0) = false from rfl]; simp
      · rw [decide_eq_true hx, Bool.true_and, r_sf i1 hf8 hx, r_gn i1 hf8 hx, ((i1.f hf8).2.2.1 hx).2.2.1, rsI, da_nI _ hf8]
    rw [sRA, nRA, mRA, cRA, ec]
    cases hc : (sfB (sRA S q f) (nI f) && decide (¬ q ≤ rsI (sRA S q f) (nI f))) with
    | false => rw [cond_false, cond_false, if_neg (by decide), if_neg (by decide), Nat.add_zero]; exact ⟨i1, i2⟩
    | true =>
      have hx : 0 < dk (sRA S q f) f := by
        simp only [sfB, Bool.and_eq_true] at hc
        have := hc.1.1; rw [exF_nI i1 hf8, decide_eq_true_eq] at this; exact this
      obtain ⟨r1, r2⟩ := o_rf i1 hf8 hx
      rw [cond_true, cond_true, if_pos rfl, if_pos rfl, i2, r2, nI_add]
      exact ⟨r1, rfl⟩
theorem q_ra {S : MS} {N : Nat → Int32} (h : RR S N) (q : Int32) : vRAm N q = vRA S q ∧ rgB q 0 5 = okRA q ∧ RR (sRA S q 8) (mRA N q 8) := by
  obtain ⟨i1, i2⟩ := ra_loop h q 8 (Nat.le_refl _)
  rw [vRAm, vRA, okRA, ← rg_le, i2]
  exact ⟨rfl, rfl, i1⟩
