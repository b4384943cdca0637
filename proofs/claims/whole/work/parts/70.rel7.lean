theorem cnt_split (x y : Nat → Bool) : ∀ n, cntB (fun i => x i && y i) n + cntB (fun i => x i && !y i) n = cntB x n
  | 0 => rfl
  | n + 1 => by
    have ih := cnt_split x y n
    rw [cntB, cntB, cntB]
    cases x n <;> cases y n <;> simp <;> omega
theorem cnt_le {x y : Nat → Bool} : ∀ {n}, (∀ i, i < n → x i = true → y i = true) → cntB x n ≤ cntB y n
  | 0, _ => Nat.le_refl _
  | n + 1, h => by
    have ih := cnt_le (n := n) fun i hi => h i (by omega)
    rw [cntB, cntB]
    cases hx : x n with
    | false => simp; omega
    | true => rw [h n (by omega) hx]; omega
theorem cnt_set {g : Nat → Bool} {q : Nat} {v : Bool} (hg : g q = false) : ∀ n, q < n → cntB (fun p => if p = q then v else g p) n = cntB g n + (if v then 1 else 0)
  | 0, h => absurd h (Nat.not_lt_zero _)
  | n + 1, h => by
    rw [cntB, cntB]
    by_cases e : q = n
    · subst e
      rw [cntB_congr (f' := g) (fun k hk => if_neg (by omega)), if_pos rfl, hg]; simp
    · rw [cnt_set hg n (by omega), if_neg (show ¬ n = q by omega)]; omega
def anyB (g : Nat → Bool) : Nat → Bool
  | 0 => false
  | n + 1 => anyB g n || g n
theorem any_t {g : Nat → Bool} : ∀ {n}, anyB g n = true ↔ ∃ i, i < n ∧ g i = true
  | 0 => by simp [anyB]
  | n + 1 => by
    rw [anyB, Bool.or_eq_true, any_t (n := n)]
    constructor
    · rintro (⟨i, hi, e⟩ | e)
      · exact ⟨i, by omega, e⟩
      · exact ⟨n, by omega, e⟩
    · rintro ⟨i, hi, e⟩
      by_cases hin : i = n
      · subst hin; exact Or.inr e
      · exact Or.inl ⟨i, by omega, e⟩
/-- counted by fragments or by peers: the same -/
theorem two_cnt (gd : Nat → Bool) (pl : Nat → Nat) (P : Nat → Bool) : ∀ n, (∀ i, i < n → gd i = true → pl i < 12) → (∀ i j, i < n → j < n → gd i = true → gd j = true → pl i = pl j → i = j) → cntB (fun i => gd i && P (pl i)) n = cntB (fun p => anyB (fun i => gd i && decide (pl i = p)) n && P p) 12
  | 0, _, _ => (cntB_z (g := fun p => anyB (fun i => gd i && decide (pl i = p)) 0 && P p) (b := 12) (fun i _ => rfl)).symm
  | n + 1, h1, h2 => by
    have ih := two_cnt gd pl P n (fun i hi => h1 i (by omega)) (fun i j hi hj => h2 i j (by omega) (by omega))
    rw [cntB, ih]
    cases hg : gd n with
    | false =>
      rw [Bool.false_and, if_neg (by decide), Nat.add_zero]
      exact cntB_congr fun p _ => by rw [anyB, hg, Bool.false_and, Bool.or_false]
    | true =>
      have hq := h1 n (by omega) hg
      have hno : anyB (fun i => gd i && decide (pl i = pl n)) n = false := by
        cases ha : anyB (fun i => gd i && decide (pl i = pl n)) n with
        | false => rfl
        | true =>
          obtain ⟨i, hi, e⟩ := any_t.mp ha
          simp only [Bool.and_eq_true, decide_eq_true_eq] at e
          have := h2 i n (by omega) (by omega) e.1 hg e.2
          omega
      have hs := cnt_set (g := fun p => anyB (fun i => gd i && decide (pl i = p)) n && P p) (q := pl n) (v := P (pl n)) (by rw [hno]; rfl) 12 hq
      rw [Bool.true_and, ← hs]
      refine cntB_congr fun p _ => ?_
      by_cases e : p = pl n
      · rw [if_pos e, anyB, hg, e]; simp
      · rw [if_neg e, anyB, hg, decide_eq_false (fun z => e z.symm)]; simp
/-- whether a good fragment of a file is on a peer -/
def hP (S : MS) (f p : Nat) : Bool := anyB (fun i => gdB S (nI f) (nI i) && decide (cl (S 9 (10 * f + i)) = p)) (dk S f + dm S f)
theorem gd_pl {S : MS} {N : Nat → Int32} (h : RR S N) {f i : Nat} (hf : f < 8) (hi : i < 10) (hg : gdB S (nI f) (nI i) = true) : ∃ p, p < 12 ∧ S 9 (10 * f + i) = nI p ∧ cl (S 9 (10 * f + i)) = p ∧ ¬ S 0 p = 0 := by
  rcases (h.f hf).2.2.2.1 i hi with e3 | ⟨-, p, e, hp, -, e9, hx, -⟩
  · rw [gdB, pl_nI S hf hi, e3.1, show onB S (-1) = false from rfl, Bool.and_false] at hg; exact absurd hg (by decide)
  · exact ⟨p, hp, e9, by rw [e9, cl_nI (by omega)], hx⟩
theorem gd_cnt {S : MS} {N : Nat → Int32} (h : RR S N) {f : Nat} (hf : f < 8) (P : Nat → Bool) : cntB (fun i => gdB S (nI f) (nI i) && P (cl (S 9 (10 * f + i)))) (dk S f + dm S f) = cntB (fun p => hP S f p && P p) 12 := by
  have h1 := (h.f hf).1
  refine two_cnt (fun i => gdB S (nI f) (nI i)) (fun i => cl (S 9 (10 * f + i))) P (dk S f + dm S f) (fun i hi hg => ?_) (fun i j hi hj hgi hgj e => ?_)
  · obtain ⟨p, hp, -, e, -⟩ := gd_pl h hf (by omega) hg
    show cl (S 9 (10 * f + i)) < 12
    rw [e]; exact hp
  · obtain ⟨p, hp, ep, e1, -⟩ := gd_pl h hf (show i < 10 by omega) hgi
    obtain ⟨q, hq, eq, e2, -⟩ := gd_pl h hf (show j < 10 by omega) hgj
    have e' : cl (S 9 (10 * f + i)) = cl (S 9 (10 * f + j)) := e
    rw [e1, e2] at e'
    exact (h.f hf).2.2.2.2 i j (by omega) (by omega) (by rw [ep, eq, e']) (by rw [ep]; exact nI_nm1 (by omega))
theorem hP_fon {S : MS} {N : Nat → Int32} (h : RR S N) {f p : Nat} (hf : f < 8) (hp : p < 12) : gdB S (nI f) (fonI S (nI f) (nI p)) = hP S f p := by
  have h1 := (h.f hf).1
  rcases fon_cases S hf hp with ⟨ef, hno⟩ | ⟨i, hi, ef, h9⟩
  · rw [ef, gd_neg]
    cases ha : hP S f p with
    | false => rfl
    | true =>
      obtain ⟨i, hi, e⟩ := any_t.mp ha
      simp only [Bool.and_eq_true, decide_eq_true_eq] at e
      obtain ⟨q, hq, eq, e2, -⟩ := gd_pl h hf (show i < 10 by omega) e.1
      rw [e2] at e
      exact absurd (by rw [eq, e.2]) (hno i (by omega))
  · rw [ef]
    have hin : i < dk S f + dm S f := by
      rcases (h.f hf).2.2.2.1 i hi with e3 | ⟨hlt, -⟩
      · rw [h9] at e3; exact absurd e3.1 (nI_nm1 (by omega))
      · exact hlt
    cases hg : gdB S (nI f) (nI i) with
    | true => exact (any_t.mpr ⟨i, hin, by rw [hg, h9, cl_nI (by omega)]; simp⟩).symm
    | false =>
      cases ha : hP S f p with
      | false => rfl
      | true =>
        obtain ⟨j, hj, e⟩ := any_t.mp ha
        simp only [Bool.and_eq_true, decide_eq_true_eq] at e
        obtain ⟨q, hq, eq, e2, -⟩ := gd_pl h hf (show j < 10 by omega) e.1
        rw [e2] at e
        have := (h.f hf).2.2.2.2 i j hi (by omega) (by rw [h9, eq, e.2]) (by rw [h9]; exact nI_nm1 (by omega))
        subst this
        rw [hg] at e; exact absurd e.1 (by decide)
theorem hP_ex {S : MS} {N : Nat → Int32} (h : RR S N) {f p : Nat} (hf : f < 8) (hp : hP S f p = true) : exB S (nI p) = true := by
  have h1 := (h.f hf).1
  obtain ⟨i, hi, e⟩ := any_t.mp hp
  simp only [Bool.and_eq_true, decide_eq_true_eq] at e
  obtain ⟨q, hq, eq, e2, hx⟩ := gd_pl h hf (show i < 10 by omega) e.1
  rw [e2] at e
  obtain ⟨-, rfl⟩ := e
  rw [ex_nI h hq]; exact decide_eq_true hx
/-- one file: some set of n peers breaks it, said in both ways -/
theorem brk {S : MS} {N : Nat → Int32} (h : RR S N) {f n : Nat} (hf : f < 8) (hn : n < 13) : (∃ s, s < pSet S + 1 ∧ bnC (pSet S) (nI n) s = true ∧ mHt N f (nI s) = true) ↔ (sfB S (nI f) && cbB S (nI f) (nI n)) = true := by
  have h1 := (h.f hf).1
  rcases Nat.eq_zero_or_pos (dk S f) with e0 | hx
  · constructor
    · rintro ⟨s, -, -, hm⟩
      rw [mHt, r_fi h, exF_nI h hf, e0] at hm
      simp at hm
    · intro z; rw [sfB, exF_nI h hf, e0] at z; simp at z
  obtain ⟨-, eow, e2, -, ⟨o, ho, eo, hox⟩, -⟩ := (h.f hf).2.2.1 hx
  cases hsf : sfB S (nI f) with
  | false =>
    constructor
    · rintro ⟨s, -, -, hm⟩
      rw [mHt, r_sf h hf hx, hsf] at hm
      simp at hm
    · intro z; simp at z
  | true =>
    -- the numbers
    have eg : cntB (fun i => gdB S (nI f) (nI i)) (dk S f + dm S f) = cntB (fun p => hP S f p) 12 := by
      have := gd_cnt h hf (fun _ => true)
      simpa using this
    obtain ⟨g, hg, hg10, hgd⟩ := gd_nN h hf
    rw [eg] at hgd
    have hgk : dk S f ≤ g := by
      rw [sfB, hg, da_nI S hf, h1.1] at hsf
      simp only [Bool.and_eq_true, decide_eq_true_eq] at hsf
      have := hsf.2
      rw [nI_ltI (by omega) (by omega)] at this; omega
    have hw := cnt_del (fun p => hP S f p) o 12 ho
    rw [← hgd] at hw
    have hwle := cntB_le (fun p => hP S f p && !decide (p = o)) 12
    generalize hwd : cntB (fun p => hP S f p && !decide (p = o)) 12 = w at hw hwle
    have hA := cnt_del (fun p => exB S (nI p)) o 12 ho
    rw [show exB S (nI o) = true by rw [ex_nI h ho]; exact decide_eq_true hox, if_pos rfl] at hA
    have hAle := cntB_le (fun p => exB S (nI p)) 12
    have honO : onO S (nI f) = hP S f o := by rw [onO, fo_nI S hf, eo]; exact hP_fon h hf ho
    have ecb : cbB S (nI f) (nI n) = decide (n < cntB (fun p => exB S (nI p)) 12 ∧ g - dk S f < min n w) := by
      have eo2 : (if onO S (nI f) then gdN S (nI f) - 1 else gdN S (nI f)) = nI w := by
        rw [honO, hg]
        cases hh : hP S f o with
        | false => rw [if_neg (by decide)]; rw [hh] at hw; congr 1; simpa using hw.symm
        | true => rw [if_pos rfl]; rw [hh] at hw; rw [← hw, if_pos rfl, nI_pred]
      rw [cbB, eo2, hg, da_nI S hf, h1.1, pk_sub hgk]
      rcases Nat.lt_or_ge n (cntB (fun p => exB S (nI p)) 12) with c1 | c1
      · rw [if_neg (nI_ge c1 (by omega))]
        rw [decide_eq_decide]
        rcases Nat.lt_or_ge w n with c2 | c2
        · rw [if_pos (nI_lt c2 (by omega)), nI_leI (by omega) (by omega)]
          have : min n w = w := Nat.min_eq_right (by omega)
          omega
        · rw [if_neg (nI_nlt c2 (by omega)), nI_leI (by omega) (by omega)]
          have : min n w = n := Nat.min_eq_left (by omega)
          omega
      · rw [if_pos (nI_le c1 (by omega))]
        exact (decide_eq_false (by omega)).symm
    have hht : ∀ s, s < 4096 → (mHt N f (nI s) = true ↔ s.testBit o = false ∧ cntB (fun p => hP S f p && !s.testBit p) 12 < dk S f) := by
      intro s hs
      have ec : htC N f (nI s) (cl (mFr N f)) = cntB (fun p => hP S f p && !s.testBit p) 12 := by
        rw [← gd_cnt h hf (fun p => !s.testBit p), htC, r_fr h hf, cl_fn h hf]
        refine cntB_congr fun i hi => ?_
        rw [r_gd h hf (by omega) hx, ((h.f hf).2.2.1 hx).2.2.2.2.2.1 i (by omega)]
        cases hgi : gdB S (nI f) (nI i) with
        | false => rfl
        | true =>
          obtain ⟨p, hp, ep, e1, -⟩ := gd_pl h hf (show i < 10 by omega) hgi
          rw [e1, ep, bit12 hs hp]
          cases s.testBit p <;> rfl
      have hcl := cntB_le (fun p => hP S f p && !s.testBit p) 12
      rw [mHt, r_fi h, exF_nI h hf, r_sf h hf hx, hsf, eow, eo, bit12 hs ho, ec, e2, h1.1, decide_eq_true hx]
      simp only [Bool.true_and, Bool.and_eq_true, Bool.not_eq_true', decide_eq_true_eq, decide_eq_false_iff_not]
      rw [nI_leI (by omega) (by omega)]
      cases s.testBit o with
      | true => simp
      | false => simp
    rw [Bool.true_and, ecb, decide_eq_true_eq]
    have hpl := pSet_lt S
    constructor
    · rintro ⟨s, hs, hbn, hm⟩
      have hs4 : s < 4096 := by omega
      obtain ⟨hso, hlt⟩ := (hht s hs4).mp hm
      simp only [bnC, Bool.and_eq_true, decide_eq_true_eq] at hbn
      have hsub := (sub_bits hs4 hpl).mp hbn.1
      have hcs : cntB (fun p => s.testBit p) 12 = n := by
        have := hbn.2
        rw [pop12 hs4] at this
        exact nI_inj' this (by have := cntB_le (fun p => s.testBit p) 12; omega) (by omega)
      have hin : ∀ p, p < 12 → s.testBit p = true → exB S (nI p) = true := fun p hp hb => by
        have := hsub p hp hb
        rwa [pSet, setN_bit _ 12 p hp] at this
      have q1 : cntB (fun p => s.testBit p) 12 ≤ cntB (fun p => exB S (nI p) && !decide (p = o)) 12 := cnt_le fun p hp hb => by
        rw [hin p hp hb, decide_eq_false (fun z => by rw [z, hso] at hb; exact absurd hb (by decide))]; rfl
      have q2 : cntB (fun p => hP S f p && s.testBit p) 12 ≤ w := by
        rw [← hwd]
        exact cnt_le fun p hp hb => by
          simp only [Bool.and_eq_true] at hb
          rw [hb.1, decide_eq_false (fun z => by rw [z, hso] at hb; exact absurd hb.2 (by decide))]; rfl
      have q3 : cntB (fun p => hP S f p && s.testBit p) 12 ≤ cntB (fun p => s.testBit p) 12 := cnt_le fun p hp hb => by
        simp only [Bool.and_eq_true] at hb; exact hb.2
      have q4 := cnt_split (fun p => hP S f p) (fun p => s.testBit p) 12
      rw [← hgd] at q4
      refine ⟨by omega, ?_⟩
      have : cntB (fun p => hP S f p && s.testBit p) 12 ≤ min n w := Nat.le_min.mpr ⟨by omega, q2⟩
      omega
    · rintro ⟨hnA, hmin⟩
      have hGA : ∀ i, i < 12 → (hP S f i && !decide (i = o)) = true → (exB S (nI i) && !decide (i = o)) = true := fun i hi hb => by
        simp only [Bool.and_eq_true] at hb ⊢
        exact ⟨hP_ex h hf hb.1, hb.2⟩
      have hAG : cntB (fun i => (exB S (nI i) && !decide (i = o)) && !(hP S f i && !decide (i = o))) 12 + w = cntB (fun p => exB S (nI p) && !decide (p = o)) 12 := by
        have := cnt_split (fun p => exB S (nI p) && !decide (p = o)) (fun p => hP S f p && !decide (p = o)) 12
        rw [cntB_congr (f := fun i => (exB S (nI i) && !decide (i = o)) && (hP S f i && !decide (i = o))) (f' := fun p => hP S f p && !decide (p = o)) (fun p hp => by
          cases hh : (hP S f p && !decide (p = o)) with
          | false => rw [Bool.and_false]
          | true => rw [hGA p hp hh]; rfl), hwd] at this
        omega
      have hmw := Nat.min_le_right n w
      have hmn := Nat.min_le_left n w
      have hmm : min n w = n ∨ min n w = w := by rcases Nat.le_total n w with z | z; exact Or.inl (Nat.min_eq_left z); exact Or.inr (Nat.min_eq_right z)
      obtain ⟨b, b1, b2, b3⟩ := pick (fun p => exB S (nI p) && !decide (p = o)) (fun p => hP S f p && !decide (p = o)) 12 (min n w) (n - min n w) hGA (by rw [hwd]; exact hmw) (by rcases hmm with z | z <;> omega)
      have hbo : b o = false := by
        cases hh : b o with
        | false => rfl
        | true => have := b1 o ho hh; simp at this
      have hs4 := setN_lt b 12
      have hbit : ∀ p, p < 12 → (setN b 12).testBit p = b p := fun p hp => setN_bit b 12 p hp
      refine ⟨setN b 12, ?_, ?_, ?_⟩
      · have : setN b 12 ≤ pSet S := setN_mono fun k hk hb => by
          have := b1 k hk hb
          simp only [Bool.and_eq_true] at this
          exact this.1
        omega
      · simp only [bnC, Bool.and_eq_true, decide_eq_true_eq]
        refine ⟨(sub_bits hs4 hpl).mpr fun p hp hb => ?_, ?_⟩
        · rw [hbit p hp] at hb
          have := b1 p hp hb
          simp only [Bool.and_eq_true] at this
          rw [pSet, setN_bit _ 12 p hp]; exact this.1
        · rw [pop_set, b2]; congr 1; omega
      · refine (hht _ hs4).mpr ⟨by rw [hbit o ho]; exact hbo, ?_⟩
        have q4 := cnt_split (fun p => hP S f p) b 12
        rw [← hgd] at q4
        rw [cntB_congr (f := fun p => hP S f p && b p) (f' := fun i => b i && (hP S f i && !decide (i = o))) (fun p hp => by
          by_cases e : p = o
          · rw [e, hbo]; simp
          · rw [decide_eq_false e]; cases b p <;> cases hP S f p <;> rfl), b3] at q4
        rw [cntB_congr (f' := fun p => hP S f p && !b p) (fun p hp => by rw [hbit p hp])]
        omega
theorem all_f {g : Nat → Bool} {n : Nat} : allB g n = false ↔ ∃ k, k < n ∧ g k = false := by
  constructor
  · intro h
    refine Classical.byContradiction fun hc => ?_
    have : allB g n = true := allB_t.mpr fun k hk => by
      cases hg : g k with
      | true => rfl
      | false => exact absurd ⟨k, hk, hg⟩ hc
    rw [this] at h; exact absurd h (by decide)
  · rintro ⟨k, hk, hg⟩
    cases h : allB g n with
    | false => rfl
    | true => rw [allB_t.mp h k hk] at hg; exact absurd hg (by decide)
theorem borne {S : MS} {N : Nat → Int32} (h : RR S N) {n : Nat} (hn : n < 13) : mBn N (pSet S) (nI n) = bcB S (nI n) := by
  have key : mBn N (pSet S) (nI n) = false ↔ bcB S (nI n) = false := by
    rw [mBn, bcB, all_f, all_f]
    constructor
    · rintro ⟨s, hs, hb⟩
      simp only [Bool.or_eq_false_iff, Bool.not_eq_false'] at hb
      obtain ⟨f, hf, hm⟩ := all_f.mp hb.2
      exact ⟨f, hf, by rw [(brk h hf hn).mp ⟨s, hs, hb.1, by simpa using hm⟩]; rfl⟩
    · rintro ⟨f, hf, hb⟩
      obtain ⟨s, hs, h1, h2⟩ := (brk h hf hn).mpr (by simpa using hb)
      refine ⟨s, hs, ?_⟩
      rw [h1, show bnH N s 8 = false from all_f.mpr ⟨f, hf, by rw [h2]; rfl⟩]; rfl
  cases h1 : mBn N (pSet S) (nI n) with
  | false => exact (key.mp h1).symm
  | true =>
    cases h2 : bcB S (nI n) with
    | true => rfl
    | false => rw [key.mpr h2] at h1; exact absurd h1 (by decide)
theorem q_tl {S : MS} {N : Nat → Int32} (h : RR S N) : vTl N (pSet S) = vTol S := by
  have e1 : c1N (nI (pSet S)) = pnN S := pop_set _
  have hl := pSet_lt S
  have key : ∀ i, i < 13 → nI (tlB N (pSet S) i) = tolD S i := by
    intro i
    induction i with
    | zero => intro _; rfl
    | succ i ih =>
      intro hi
      rw [tlB, tolD, borne h hi]
      cases bcB S (nI (i + 1)) with
      | true => rfl
      | false => exact ih (by omega)
  rw [vTl, vTol, e1]
  have hz : nI (pSet S) = 0 ↔ pnN S = 0 := by
    rw [nI_is0 (by omega)]
    constructor
    · intro z; rw [← e1, z]; decide
    · intro z
      rw [pSet, setN_congr (b' := fun _ => false) (fun k hk => ?_)]
      · decide
      · cases hh : exB S (nI k) with
        | false => rfl
        | true =>
          have := cnt_del (fun p => exB S (nI p)) k 12 hk
          rw [hh, if_pos rfl] at this
          rw [pnN] at z; omega
  by_cases c : pnN S = 0
  · rw [if_pos c, if_pos (hz.mpr c)]
  · rw [if_neg c, if_neg (fun z => c (hz.mp z))]
    exact key _ (by have := Nat.min_le_left 4 (pnN S); omega)
