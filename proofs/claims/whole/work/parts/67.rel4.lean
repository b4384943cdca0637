/-! ===== fragment, read, endangered ===== -/
theorem rg_fn {i : Int32} {n : Nat} (hn : n < 2 ^ 31) (h0 : 0 < n) : rgB i 0 (nI n - 1) = (decide (¬ i < 0) && decide (¬ nI n ≤ i)) := by
  rw [show nI n = nI ((n - 1) + 1) by rw [Nat.sub_add_cancel h0], nI_pred, rgB]
  congr 1
  rw [decide_eq_decide, Int32.lt_iff_toInt_lt, Int32.le_iff_toInt_le, nI_toInt (by omega), nI_toInt (by omega)]
  omega
theorem no_rg {i : Int32} : (decide (¬ i < 0) && decide (¬ nI 0 ≤ i)) = false := by
  by_cases h : i < 0
  · simp [h]
  · have : nI 0 ≤ i := Int32.not_lt.mp h
    simp [this]
theorem r_if {S : MS} {N : Nat → Int32} (h : RR S N) (f i : Int32) : mIf N f i = hfB S f i := by
  rw [mIf, hfB, r_fi h]
  cases hi : inB f 8 with
  | false => rw [exF, hi, fnI, hi]; exact no_rg.symm
  | true =>
    obtain ⟨a, ha, rfl⟩ := in8_ex hi
    have h1 := (h.f ha).1
    rw [exF_nI h ha, fn_nI h ha, cl_nI (by omega), r_fr h ha, fn_nI h ha]
    rcases Nat.eq_zero_or_pos (dk S a) with e | e
    · rw [e, ((h.f ha).2.1 e).1]; exact no_rg.symm
    · rw [decide_eq_true e, Bool.true_and, rg_fn (by omega) (by omega)]
theorem r_iv {S : MS} {N : Nat → Int32} (h : RR S N) (f i : Int32) : mIv N f i = hdB S f i := by
  rw [mIv, hdB, r_fi h]
  cases hi : inB f 8 with
  | false => rw [exF, hi, daI, hi]; exact no_rg.symm
  | true =>
    obtain ⟨a, ha, rfl⟩ := in8_ex hi
    have h1 := (h.f ha).1
    rw [exF_nI h ha, da_nI S ha, cl_nI (by omega), h1.1]
    rcases Nat.eq_zero_or_pos (dk S a) with e | e
    · rw [e]; exact no_rg.symm
    · rw [decide_eq_true e, Bool.true_and, ((h.f ha).2.2.1 e).2.2.1, h1.1, rg_fn (by omega) (by omega)]
theorem hf_ex {S : MS} {N : Nat → Int32} (h : RR S N) {f i : Int32} (hh : hfB S f i = true) : ∃ a b, a < 8 ∧ b < dk S a + dm S a ∧ 0 < dk S a ∧ f = nI a ∧ i = nI b ∧ b < 10 := by
  obtain ⟨a, b, ha, hb, hb2, rfl, rfl⟩ := mIf_ex (r_ok h) (r_ok2 h) ((r_if h f i).trans hh)
  rw [r_fr h ha, cl_fn h ha] at hb
  refine ⟨a, b, ha, hb, ?_, rfl, rfl, hb2⟩
  rcases Nat.eq_zero_or_pos (dk S a) with e | e
  · have := ((h.f ha).2.1 e).1; omega
  · exact e
theorem hd_ex {S : MS} {N : Nat → Int32} (h : RR S N) {f i : Int32} (hh : hdB S f i = true) : ∃ a b, a < 8 ∧ b < dk S a ∧ f = nI a ∧ i = nI b ∧ b < 6 := by
  simp only [hdB, Bool.and_eq_true, decide_eq_true_eq] at hh
  cases hi : inB f 8 with
  | false => rw [daI, hi] at hh; exact absurd (Int32.not_lt.mp hh.1) hh.2
  | true =>
    obtain ⟨a, ha, rfl⟩ := in8_ex hi
    have h1 := (h.f ha).1
    rw [da_nI S ha, h1.1] at hh
    have h2 := hh.2
    rw [nI_cl hh.1, nI_leI (by omega) (cl_lt i)] at h2
    exact ⟨a, cl i, ha, by omega, rfl, nI_cl hh.1, by omega⟩
theorem corN_congr {wd wd' : Nat → Nat} {k i : Nat} (h : ∀ d, d < k → wd d = wd' d) : corN wd k i = corN wd' k i := by
  rw [corN, corN]
  by_cases hi : i < k
  · rw [if_pos hi, if_pos hi, h i hi]
  · rw [if_neg hi, if_neg hi, parW, parW, parS, parS, sumN_congr (fun d hd => by rw [h d hd])]
theorem r_vn {S : MS} {N : Nat → Int32} (h : RR S N) {f i : Nat} (hf : f < 8) (hi : i < dk S f + dm S f) (hx : 0 < dk S f) : svI S (nI f) (nI i) = nI (mVn N f i) ∧ mVn N f i < 257 := by
  have h1 := (h.f hf).1
  have hi10 : i < 10 := by omega
  obtain ⟨-, -, e2, -, -, -, e20, wd, hw, h8⟩ := (h.f hf).2.2.1 hx
  have ec : cl (N (192 + 30 * f + 2)) = dk S f := by rw [e2, h1.1, cl_nI (by omega)]
  have e3 : corN (fun d => cl (N (192 + 30 * f + (4 + d)))) (dk S f) i = corN wd (dk S f) i := corN_congr fun d hd => by
    have := hw d hd
    show cl (N (192 + 30 * f + (4 + d))) = wd d
    rw [this.2, cl_nI (by omega)]
  have e4 := r_er h (10 * f + i) (by omega)
  obtain ⟨v, hv, e4⟩ := e4
  have e5 : cl (N (192 + 30 * f + (20 + i))) = v := by rw [e20 i hi10, e4, cl_nI (by omega)]
  refine ⟨?_, Nat.mod_lt _ (by decide)⟩
  rw [svI, co_nI S hf hi10, er_nI S hf hi10, h8 i hi, e4, nI_add, remI, mVn, ec, e3, e5]
  have hlt := corN_lt (i := i) (fun d hd => (hw d hd).1)
  exact rem257 (by omega)
theorem rg01 (w : Int32) : rgB w 0 1 = (decide (¬ w < 0) && decide (w ≤ 1)) := by
  rw [rgB]; congr 1; rw [decide_eq_decide]; exact Int32.not_lt
theorem pl_neg {S : MS} {N : Nat → Int32} (h : RR S N) {f i : Nat} (hf : f < 8) (hi : i < 10) : 0 ≤ S 9 (10 * f + i) ↔ ¬ S 9 (10 * f + i) = -1 := by
  rcases (h.f hf).2.2.2.1 i hi with e3 | ⟨-, p, e, hp, -, e9, -⟩
  · rw [e3.1]; decide
  · rw [e9]; exact ⟨fun _ => nI_nm1 (by omega), fun _ => nI_pos' (by omega)⟩
theorem q_fr {S : MS} {N : Nat → Int32} (h : RR S N) (f i w : Int32) : vFm N f i w = vFrag S f i w := by
  rw [vFm, vFrag, r_if h, rg01, Bool.and_assoc]
  cases hh : hfB S f i with
  | false => rfl
  | true =>
    obtain ⟨a, b, ha, hb, hx, rfl, rfl, hb10⟩ := hf_ex h hh
    rw [cl_nI (by omega), cl_nI (by omega), ((h.f ha).2.2.1 hx).2.2.2.2.2.1 b hb10, pl_nI S ha hb10, (r_vn h ha hb hx).1, show mVal N a b = nI (mVn N a b) from rfl]
    have := pl_neg h ha hb10
    by_cases e : S 9 (10 * a + b) = -1
    · rw [if_neg (fun z => this.mp z e), if_pos e]
    · rw [if_pos (this.mpr e), if_neg e]
theorem q_rd {S : MS} {N : Nat → Int32} (h : RR S N) (f i : Int32) : vRm N f i = vRead S f i := by
  rw [vRm, vRead, r_iv h]
  cases hh : hdB S f i with
  | false => rfl
  | true =>
    obtain ⟨a, b, ha, hb, rfl, rfl, hb6⟩ := hd_ex h hh
    have hx : 0 < dk S a := by omega
    obtain ⟨-, -, -, -, -, -, -, wd, hw, h8⟩ := (h.f ha).2.2.1 hx
    rw [cl_nI (by omega), cl_nI (by omega), r_sf h ha hx, r_gd h ha (by omega) hx, co_nI S ha (by omega), h8 b (by omega), (hw b hb).2, corN, if_pos hb]
theorem cnt_del (g : Nat → Bool) (i : Nat) : ∀ n, i < n → cntB (fun j => g j && !decide (j = i)) n + (if g i then 1 else 0) = cntB g n
  | 0, h => absurd h (Nat.not_lt_zero _)
  | n + 1, h => by
    rw [cntB, cntB]
    by_cases e : i = n
    · subst e
      rw [cntB_congr (f' := g) (fun k hk => by rw [decide_eq_false (by omega)]; simp)]
      simp
    · have ih := cnt_del g i n (by omega)
      rw [decide_eq_false (show ¬ n = i by omega), Bool.not_false, Bool.and_true]; omega
theorem r_gd0 {S : MS} {N : Nat → Int32} (h : RR S N) {f i a : Nat} (hf : f < 8) (hi : i < 10) (ha : a < 12) (hx : 0 < dk S f) : mGd (upd N (4 * a + 2) 0) f i = (gdB S (nI f) (nI i) && !decide (S 9 (10 * f + i) = nI a)) := by
  rw [← r_gd h hf hi hx, mGd, mGd, pk_un (by omega), pk_un (by omega), ((h.f hf).2.2.1 hx).2.2.2.2.2.1 i hi]
  rcases (h.f hf).2.2.2.1 i hi with e3 | ⟨-, p, e, hp, -, e9, -⟩
  · rw [e3.1]; rfl
  · rw [e9, mOn, mOn, cl_nI (by omega)]
    by_cases e : p = a
    · subst e; rw [pk_us]; simp
    · rw [pk_un (by omega), decide_eq_false (show ¬ nI p = nI a by rw [nI_eq (by omega) (by omega)]; exact e)]; simp
theorem gd_neg (S : MS) (f : Int32) : gdB S f (-1) = false := by
  have : irB f (-1) = false := by rw [irB, show inB (-1) 10 = false from rfl, Bool.and_false]
  rw [gdB, plI, this]
  exact Bool.and_false _
theorem gd_nN {S : MS} {N : Nat → Int32} (h : RR S N) {f : Nat} (hf : f < 8) : ∃ g, gdN S (nI f) = nI g ∧ g ≤ 10 ∧ g = cntB (fun i => gdB S (nI f) (nI i)) (dk S f + dm S f) := by
  have h1 := (h.f hf).1
  refine ⟨_, by rw [gdN, cl_fn h hf], ?_, rfl⟩
  have := cntB_le (fun i => gdB S (nI f) (nI i)) (dk S f + dm S f)
  omega
theorem q_en1 {S : MS} {N : Nat → Int32} (h : RR S N) {f a : Nat} (hf : f < 8) (ha : a < 12) : enC N (nI a) f = npB S (nI f) (nI a) := by
  rw [enC, npB, r_fi h, exF_nI h hf]
  rcases Nat.eq_zero_or_pos (dk S f) with e | hx
  · rw [sfB, exF_nI h hf, e]; rfl
  · rw [decide_eq_true hx, Bool.true_and, r_sf h hf hx, cl_nI (by omega)]
    obtain ⟨g, hg, hg10, hgd⟩ := gd_nN h hf
    have h1 := (h.f hf).1
    have e0 : mSf (upd N (4 * a + 2) 0) f = decide (¬ nI (cntB (fun i => gdB S (nI f) (nI i) && !decide (S 9 (10 * f + i) = nI a)) (dk S f + dm S f)) < nI (dk S f)) := by
      have e1 : mFr (upd N (4 * a + 2) 0) f = mFr N f := by rw [mFr, mFr, pk_un (by omega), pk_un (by omega)]
      rw [mSf, mGn, e1, r_fr h hf, cl_fn h hf, pk_un (by omega), ((h.f hf).2.2.1 hx).2.2.1, h1.1]
      rw [cntB_congr (fun i hi => r_gd0 h hf (show i < 10 by omega) ha hx)]
    rw [e0, sfB, exF_nI h hf, decide_eq_true hx, Bool.true_and, rsI, hg, da_nI S hf, h1.1]
    have hsub := sub_le0 (x := nI g) (y := nI (dk S f)) (by rw [nI_toInt (by omega)]; omega) (by rw [nI_toInt (by omega)]; omega)
    have hs2 : (¬ 0 < nI g - nI (dk S f)) ↔ ¬ dk S f < g := by
      rw [Int32.not_lt, hsub.1, nI_ltI (by omega) (by omega)]
    rcases fon_cases S hf ha with ⟨ef, hno⟩ | ⟨i, hi, ef, h9⟩
    · rw [ef, gd_neg, Bool.and_false]
      rw [cntB_congr (f' := fun i => gdB S (nI f) (nI i)) (fun i hi => by rw [decide_eq_false (hno i (by omega))]; simp), ← hgd]
      simp
    · rw [ef]
      have hin : i < dk S f + dm S f := by
        rcases (h.f hf).2.2.2.1 i hi with e3 | ⟨hlt, -⟩
        · rw [h9] at e3; exact absurd e3.1 (nI_nm1 (by omega))
        · exact hlt
      have hc := cnt_del (fun i => gdB S (nI f) (nI i)) i _ hin
      rw [← hgd] at hc
      rw [cntB_congr (f' := fun j => gdB S (nI f) (nI j) && !decide (j = i)) (fun j hj => by
        congr 2
        rw [decide_eq_decide]
        constructor
        · intro e
          exact (h.f hf).2.2.2.2 j i (by omega) hi (by rw [e, h9]) (by rw [e]; exact nI_nm1 (by omega))
        · intro e; rw [e]; exact h9)]
      have hcl := cntB_le (fun j => gdB S (nI f) (nI j) && !decide (j = i)) (dk S f + dm S f)
      generalize hq : cntB (fun j => gdB S (nI f) (nI j) && !decide (j = i)) (dk S f + dm S f) = q at hc hcl ⊢
      rw [show decide (¬ 0 < nI g - nI (dk S f)) = decide (¬ dk S f < g) from decide_eq_decide.mpr hs2, show decide (¬ nI g < nI (dk S f)) = decide (¬ g < dk S f) from decide_eq_decide.mpr (by rw [nI_ltI (by omega) (by omega)]), show decide (¬ nI q < nI (dk S f)) = decide (¬ q < dk S f) from decide_eq_decide.mpr (by rw [nI_ltI (by omega) (by omega)])]
      cases hgi : gdB S (nI f) (nI i) with
      | false =>
        simp only [hgi] at hc
        have : q = g := by simpa using hc
        subst this
        simp
      | true =>
        simp only [hgi, if_true] at hc
        rw [Bool.and_true]
        rw [show (!decide (¬ q < dk S f)) = decide (q < dk S f) by rw [decide_not, Bool.not_not]]
        by_cases c1 : g < dk S f
        · simp [c1]
        · rw [show decide (q < dk S f) = decide (¬ dk S f < g) from decide_eq_decide.mpr (by omega)]
theorem q_en {S : MS} {N : Nat → Int32} (h : RR S N) (p : Int32) : vEn N p = vEnd S p := by
  rw [vEn, vEnd, r_pe h]
  cases he : exB S p with
  | false => rfl
  | true =>
    obtain ⟨a, ha, rfl⟩ := ex_ex he
    rw [if_pos rfl, if_pos rfl]
    exact congrArg nI (cntB_congr fun f hf => q_en1 h hf ha)
