/-! ===== changes: what of the relation stays ===== -/
theorem RLf_congr {S S' : MS} {N N' : Nat → Int32} {f : Nat} (h5 : S' 5 f = S 5 f) (h6 : S' 6 f = S 6 f) (h7 : S' 7 f = S 7 f) (h8 : ∀ i, i < 10 → S' 8 (10 * f + i) = S 8 (10 * f + i)) (h9 : ∀ i, i < 10 → S' 9 (10 * f + i) = S 9 (10 * f + i)) (h10 : ∀ i, i < 10 → S' 10 (10 * f + i) = S 10 (10 * f + i)) (h0 : ∀ p, p < 12 → ¬ S 0 p = 0 → (S 7 f = nI p ∨ ∃ i, i < 10 ∧ S 9 (10 * f + i) = nI p) → ¬ S' 0 p = 0) (hN : ∀ j, j < 30 → N' (192 + 30 * f + j) = N (192 + 30 * f + j)) (h : RLf S N f) : RLf S' N' f := by
  have ek : dk S' f = dk S f := congrArg cl h5
  have em : dm S' f = dm S f := congrArg cl h6
  obtain ⟨a1, a2, a3, a4, a5⟩ := h
  refine ⟨by rw [ek, em, h5, h6]; exact a1, fun e => ?_, fun e => ?_, fun i hi => ?_, fun i j hi hj e1 e2 => ?_⟩
  · rw [ek] at e
    obtain ⟨b1, b2, b3⟩ := a2 e
    exact ⟨by rw [em]; exact b1, by rw [h7]; exact b2, fun j hj => by rw [hN j hj]; exact b3 j hj⟩
  · rw [ek] at e
    obtain ⟨b0, b1, b2, b3, ⟨o, ho, b4, b5⟩, b6, b7, wd, b8, b9⟩ := a3 e
    refine ⟨by rw [hN 0 (by decide)]; exact b0, by rw [hN 1 (by decide), h7]; exact b1, by rw [hN 2 (by decide), h5]; exact b2, by rw [hN 3 (by decide), h6]; exact b3, ⟨o, ho, by rw [h7]; exact b4, h0 o ho b5 (Or.inl b4)⟩, fun i hi => by rw [hN (10 + i) (by omega), h9 i hi]; exact b6 i hi, fun i hi => by rw [hN (20 + i) (by omega), h10 i hi]; exact b7 i hi, wd, fun d hd => ?_, fun i hi => ?_⟩
    · rw [ek] at hd
      rw [hN (4 + d) (by have := a1.2.1; omega)]; exact b8 d hd
    · rw [ek, em] at hi
      rw [ek, h8 i (by have := a1.2.1; have := a1.2.2.2; omega)]; exact b9 i hi
  · rcases a4 i hi with e | ⟨b1, p, e, hp, he, e9, ex, e10⟩
    · exact Or.inl ⟨by rw [h9 i hi]; exact e.1, by rw [h10 i hi]; exact e.2⟩
    · exact Or.inr ⟨by rw [ek, em]; exact b1, p, e, hp, he, by rw [h9 i hi]; exact e9, h0 p hp ex (Or.inr ⟨i, hi, e9⟩), by rw [h10 i hi]; exact e10⟩
  · rw [h9 i hi, h9 j hj] at e1
    rw [h9 i hi] at e2
    exact a5 i j hi hj e1 e2
theorem RLp_congr {S S' : MS} {N N' : Nat → Int32} {p : Nat} (h0 : S' 0 p = S 0 p) (h1 : S' 1 p = S 1 p) (h2 : S' 2 p = S 2 p) (h3 : S' 3 p = S 3 p) (hl : S' 9 = S 9) (hN : ∀ c, c < 4 → N' (4 * p + c) = N (4 * p + c)) (h : RLp S N p) : RLp S' N' p := by
  have e : ldN S' p = ldN S p := by rw [ldN, ldN, hl]
  rw [RLp, h0, h1, h2, h3, e, show N' (4 * p) = N (4 * p) from hN 0 (by decide), hN 1 (by decide), hN 2 (by decide), hN 3 (by decide)]
  exact h
/-- a change of peers alone -/
theorem RR_0 {S S' : MS} {N N' : Nat → Int32} (h : RR S N) (ht : ∀ t, 5 ≤ t → S' t = S t) (hN : ∀ x, 192 ≤ x → N' x = N x) (hp : ∀ p, p < 12 → RLp S' N' p) (hb : RLb S' N') (h0 : ∀ p, p < 12 → ¬ S 0 p = 0 → S' 0 p = 0 → ∀ f, f < 8 → ¬ S 7 f = nI p ∧ ∀ i, i < 10 → ¬ S 9 (10 * f + i) = nI p) : RR S' N' := by
  refine ⟨hp, hb, fun f hf => ?_, ?_⟩
  · refine RLf_congr (by rw [ht 5 (by decide)]) (by rw [ht 6 (by decide)]) (by rw [ht 7 (by decide)]) (fun i _ => by rw [ht 8 (by decide)]) (fun i _ => by rw [ht 9 (by decide)]) (fun i _ => by rw [ht 10 (by decide)]) (fun p hp hx hu hz => ?_) (fun j _ => hN _ (by omega)) (h.f hf)
    have := h0 p hp hx hz f hf
    rcases hu with e | ⟨i, hi, e⟩
    · exact this.1 e
    · exact this.2 i hi e
  · obtain ⟨w, hw, e1, e2, e3, e4⟩ := h.2.2.2
    exact ⟨w, hw, by rw [ht 12 (by decide)]; exact e1, by rw [hN _ (by decide)]; exact e2, fun d hd => by rw [ht 11 (by decide)]; exact e3 d hd, fun d hd => by rw [hN _ (by omega), ht 11 (by decide)]; exact e4 d hd⟩
/-- a change of the fragments of one file, and of loads -/
theorem RR_9 {S S' : MS} {N N' : Nat → Int32} {f : Nat} (h : RR S N) (hf : f < 8) (hx : 0 < dk S f) (ht : ∀ t, ¬ t = 3 → ¬ t = 9 → ¬ t = 10 → S' t = S t) (h9 : ∀ x, x < 10 * f ∨ 10 * f + 10 ≤ x → S' 9 x = S 9 x ∧ S' 10 x = S 10 x) (h3 : ∀ p, p < 12 → S' 3 p = nI (ldN S' p)) (hN : ∀ x, x < 192 + 30 * f + 10 ∨ 192 + 30 * f + 30 ≤ x → N' x = N x) (hP : ∀ i, i < 10 → N' (192 + 30 * f + (10 + i)) = S' 9 (10 * f + i) ∧ N' (192 + 30 * f + (20 + i)) = S' 10 (10 * f + i)) (hl : ∀ i, i < 10 → RLl S' f i) (hd : ∀ i j, i < 10 → j < 10 → S' 9 (10 * f + i) = S' 9 (10 * f + j) → ¬ S' 9 (10 * f + i) = -1 → i = j) : RR S' N' := by
  refine ⟨fun p hp => ?_, ⟨fun k hk => ?_, fun p q hp hq hh => ?_⟩, fun g hg => ?_, ?_⟩
  · obtain ⟨b0, b1, b2, -, b4, b5, b6, b7⟩ := h.p hp
    rw [RLp, ht 0 (by decide) (by decide) (by decide), ht 1 (by decide) (by decide) (by decide), ht 2 (by decide) (by decide) (by decide), hN _ (by omega), hN _ (by omega), hN _ (by omega), hN _ (by omega)]
    exact ⟨b0, b1, b2, h3 p hp, b4, b5, b6, b7⟩
  · rw [hN _ (by omega), ht 4 (by decide) (by decide) (by decide)]; exact h.2.1.1 k hk
  · rw [ht 0 (by decide) (by decide) (by decide)] at hh
    rw [ht 4 (by decide) (by decide) (by decide)]; exact h.2.1.2 p q hp hq hh
  · by_cases e : g = f
    · subst e
      have e5 : S' 5 = S 5 := ht 5 (by decide) (by decide) (by decide)
      have e6 : S' 6 = S 6 := ht 6 (by decide) (by decide) (by decide)
      have e7 : S' 7 = S 7 := ht 7 (by decide) (by decide) (by decide)
      have e8 : S' 8 = S 8 := ht 8 (by decide) (by decide) (by decide)
      have ek : dk S' g = dk S g := by rw [dk, dk, e5]
      have em : dm S' g = dm S g := by rw [dm, dm, e6]
      obtain ⟨a1, a2, a3, -, -⟩ := h.f hg
      obtain ⟨b0, b1, b2, b3, b4, -, -, wd, b8, b9⟩ := a3 hx
      refine ⟨by rw [ek, em, e5, e6]; exact a1, fun z => by rw [ek] at z; omega, fun _ => ?_, hl, hd⟩
      refine ⟨by rw [hN _ (by omega)]; exact b0, by rw [hN _ (by omega), e7]; exact b1, by rw [hN _ (by omega), e5]; exact b2, by rw [hN _ (by omega), e6]; exact b3, by rw [e7, ht 0 (by decide) (by decide) (by decide)]; exact b4, fun i hi => (hP i hi).1, fun i hi => (hP i hi).2, wd, fun d hd => ?_, fun i hi => ?_⟩
      · rw [ek] at hd
        rw [hN _ (by have := a1.2.1; omega)]; exact b8 d hd
      · rw [ek, em] at hi
        rw [ek, e8]; exact b9 i hi
    · refine RLf_congr (by rw [ht 5 (by decide) (by decide) (by decide)]) (by rw [ht 6 (by decide) (by decide) (by decide)]) (by rw [ht 7 (by decide) (by decide) (by decide)]) (fun i _ => by rw [ht 8 (by decide) (by decide) (by decide)]) (fun i _ => (h9 _ (by omega)).1) (fun i _ => (h9 _ (by omega)).2) (fun p _ hx _ => by rw [ht 0 (by decide) (by decide) (by decide)]; exact hx) (fun j _ => hN _ (by omega)) (h.f hg)
  · obtain ⟨w, hw, e1, e2, e3, e4⟩ := h.2.2.2
    have e12 : S' 12 = S 12 := ht 12 (by decide) (by decide) (by decide)
    have e11 : S' 11 = S 11 := ht 11 (by decide) (by decide) (by decide)
    exact ⟨w, hw, by rw [e12]; exact e1, by rw [hN _ (by omega)]; exact e2, fun d hd => by rw [e11]; exact e3 d hd, fun d hd => by rw [hN _ (by omega), e11]; exact e4 d hd⟩
/-! debts -/
theorem o_owe {S : MS} {N : Nat → Int32} (h : RR S N) {p q : Nat} (hp : p < 12) (hq : q < 12) (hpx : ¬ S 0 p = 0) (hqx : ¬ S 0 q = 0) (a : Int32) : RR (sOwe S (nI p) (nI q) a) (mOwe N (nI p) (nI q) a) := by
  rw [sOwe, mOwe, ex_nI h hp, ex_nI h hq, decide_eq_true hpx, decide_eq_true hqx, cl_nI (by omega), cl_nI (by omega), Bool.and_true, Bool.and_true]
  by_cases e : p = q
  · subst e
    rw [decide_eq_true rfl, decide_eq_false (fun z => z rfl)]; exact h
  · have en : ¬ nI p = nI q := fun z => e (nI_inj' z (by omega) (by omega))
    rw [decide_eq_true en, decide_eq_false en, cond_true, cond_false]
    have e4 : ∀ t, ¬ t = 4 → us (us S 4 (12 * p + q) (S 4 (12 * p + q) + a)) 4 (12 * q + p) ((us S 4 (12 * p + q) (S 4 (12 * p + q) + a)) 4 (12 * q + p) - a) t = S t := fun t ht => by rw [us_ne ht, us_ne ht]
    refine RR_0 h (fun t ht => e4 t (by omega)) (fun x hx => by rw [pk_un (by omega), pk_un (by omega)]) (fun r hr => ?_) ⟨fun k hk => ?_, fun x y hx hy hh => ?_⟩ (fun r _ hx hz => by rw [e4 0 (by decide)] at hz; exact absurd hz hx)
    · exact RLp_congr (by rw [e4 0 (by decide)]) (by rw [e4 1 (by decide)]) (by rw [e4 2 (by decide)]) (by rw [e4 3 (by decide)]) (e4 9 (by decide)) (fun c hc => by rw [pk_un (by omega), pk_un (by omega)]) (h.p hr)
    · rw [us_eq, us_eq]
      have hb := h.2.1.1
      by_cases k1 : k = 12 * q + p
      · subst k1
        rw [pk_us, pk_us, pk_un (by omega), pk_un (by omega), hb _ (by omega)]
      · rw [pk_un (by omega), pk_un (show k ≠ 12 * q + p from k1)]
        by_cases k2 : k = 12 * p + q
        · subst k2; rw [pk_us, pk_us, hb _ (by omega)]
        · rw [pk_un (by omega), pk_un k2, hb k hk]
    · rw [e4 0 (by decide)] at hh
      have n1 : ¬ 12 * x + y = 12 * q + p := fun z => by
        have : x = q ∧ y = p := by omega
        rcases hh with z | z | z
        · exact hqx (this.1 ▸ z)
        · exact hpx (this.2 ▸ z)
        · exact e (by omega)
      have n2 : ¬ 12 * x + y = 12 * p + q := fun z => by
        have : x = p ∧ y = q := by omega
        rcases hh with z | z | z
        · exact hpx (this.1 ▸ z)
        · exact hqx (this.2 ▸ z)
        · exact e (by omega)
      rw [us_eq, us_eq, pk_un n1, pk_un n2]
      exact h.2.1.2 x y hx hy hh
theorem owe_0 (S : MS) (x y a : Int32) : ∀ t, ¬ t = 4 → sOwe S x y a t = S t := fun t ht => by
  rw [sOwe]
  cases (decide (¬ x = y) && exB S x && exB S y) with
  | false => rfl
  | true => rw [cond_true, us_ne ht, us_ne ht]
/-! online, trust, a new peer -/
theorem o_onl {S : MS} {N : Nat → Int32} (h : RR S N) {p : Nat} (hp : p < 12) (hx : ¬ S 0 p = 0) {o : Int32} (ho : o = 0 ∨ o = 1) : RR (us S 1 p o) (upd N (4 * p + 2) o) := by
  refine RR_0 h (fun t ht => us_ne (by omega)) (fun x hx => pk_un (by omega)) (fun q hq => ?_) ⟨fun k hk => by rw [us_ne (by decide), pk_un (by omega)]; exact h.2.1.1 k hk, fun x y hx hy hh => by rw [us_ne (by decide)] at hh ⊢; exact h.2.1.2 x y hx hy hh⟩ (fun r _ hx hz => by rw [us_ne (by decide)] at hz; exact absurd hz hx)
  by_cases e : q = p
  · subst e
    obtain ⟨b0, b1, b2, b3, b4, b5, b6, b7⟩ := h.p hq
    rw [RLp, us_eq, us_ne (by decide), us_ne (by decide), us_ne (by decide), pk_us, pk_us, pk_un (by omega), pk_un (by omega), pk_un (by omega), show ldN (us S 1 q o) q = ldN S q by rw [ldN, ldN, us_ne (by decide)]]
    exact ⟨b0, by rcases ho with z | z; exact Or.inl z; exact Or.inr ⟨z, hx⟩, b2, b3, b4, b5, rfl, b7⟩
  · exact RLp_congr (by rw [us_ne (by decide)]) (by rw [us_eq, pk_un e]) (by rw [us_ne (by decide)]) (by rw [us_ne (by decide)]) (us_ne (by decide)) (fun c hc => pk_un (by omega)) (h.p hq)
theorem o_tru {S : MS} {N : Nat → Int32} (h : RR S N) {p : Nat} (hp : p < 12) {v : Nat} (hv : v ≤ 100) : RR (us S 2 p (nI v)) (upd N (4 * p + 3) (nI v)) := by
  refine RR_0 h (fun t ht => us_ne (by omega)) (fun x hx => pk_un (by omega)) (fun q hq => ?_) ⟨fun k hk => by rw [us_ne (by decide), pk_un (by omega)]; exact h.2.1.1 k hk, fun x y hx hy hh => by rw [us_ne (by decide)] at hh ⊢; exact h.2.1.2 x y hx hy hh⟩ (fun r _ hx hz => by rw [us_ne (by decide)] at hz; exact absurd hz hx)
  by_cases e : q = p
  · subst e
    obtain ⟨b0, b1, b2, b3, b4, b5, b6, b7⟩ := h.p hq
    rw [RLp, us_eq, us_ne (by decide), us_ne (by decide), us_ne (by decide), pk_us, pk_us, pk_un (by omega), pk_un (by omega), pk_un (by omega), show ldN (us S 2 q (nI v)) q = ldN S q by rw [ldN, ldN, us_ne (by decide)], cl_nI (by omega)]
    exact ⟨b0, b1, ⟨rfl, hv⟩, b3, b4, b5, b6, rfl⟩
  · exact RLp_congr (by rw [us_ne (by decide)]) (by rw [us_ne (by decide)]) (by rw [us_eq, pk_un e]) (by rw [us_ne (by decide)]) (us_ne (by decide)) (fun c hc => pk_un (by omega)) (h.p hq)
theorem no_pl {S : MS} {N : Nat → Int32} (h : RR S N) {p : Nat} (hp : p < 12) (hx : S 0 p = 0) : (∀ f, f < 8 → ¬ S 7 f = nI p ∧ ∀ i, i < 10 → ¬ S 9 (10 * f + i) = nI p) ∧ ldN S p = 0 := by
  have key : ∀ f, f < 8 → ¬ S 7 f = nI p ∧ ∀ i, i < 10 → ¬ S 9 (10 * f + i) = nI p := by
    intro f hf
    constructor
    · intro z
      rcases Nat.eq_zero_or_pos (dk S f) with e | e
      · rw [((h.f hf).2.1 e).2.1] at z; exact nI_nm1 (show p < 2 ^ 31 by omega) z.symm
      · obtain ⟨-, -, -, -, ⟨o, ho, b4, b5⟩, -⟩ := (h.f hf).2.2.1 e
        rw [b4] at z
        have := nI_inj' z (by omega) (by omega)
        subst this; exact b5 hx
    · intro i hi z
      rcases (h.f hf).2.2.2.1 i hi with e3 | ⟨-, q, e, hq, -, e9, ex, -⟩
      · rw [z] at e3; exact nI_nm1 (by omega) e3.1
      · rw [e9] at z
        have := nI_inj' z (by omega) (by omega)
        subst this; exact ex hx
  refine ⟨key, cntB_z fun x hx => decide_eq_false fun z => ?_⟩
  have := (key (x / 10) (by omega)).2 (x % 10) (by omega)
  rw [show 10 * (x / 10) + x % 10 = x by omega] at this
  exact this z
theorem o_join {S : MS} {N : Nat → Int32} (h : RR S N) {p : Nat} (hp : p < 12) (hx : S 0 p = 0) {v : Nat} (h1 : 1 ≤ v) (hv : v ≤ 40) : RR (sAdd S (nI p) (nI v)) (mJoN N p (nI v)) := by
  rw [sAdd, in12 hp, cond_true, cl_nI (by omega), mJoN]
  have hn := no_pl h hp hx
  have e3 : ∀ t, ¬ t = 0 → ¬ t = 1 → ¬ t = 2 → us (us (us S 0 p (nI v)) 1 p 1) 2 p 50 t = S t := fun t q0 q1 q2 => by rw [us_ne q2, us_ne q1, us_ne q0]
  have e0 : us (us (us S 0 p (nI v)) 1 p 1) 2 p 50 0 = upd (S 0) p (nI v) := by rw [us_ne (by decide), us_ne (by decide), us_eq]
  have e1 : us (us (us S 0 p (nI v)) 1 p 1) 2 p 50 1 = upd (S 1) p 1 := by rw [us_ne (by decide), us_eq, us_ne (by decide)]
  have e2 : us (us (us S 0 p (nI v)) 1 p 1) 2 p 50 2 = upd (S 2) p 50 := by rw [us_eq, us_ne (by decide), us_ne (by decide)]
  have hv0 : ¬ nI v = 0 := nI_ne0 (by omega) (by omega)
  refine RR_0 h (fun t ht => e3 t (by omega) (by omega) (by omega)) (fun x hx => by rw [pk_un (by omega), pk_un (by omega), pk_un (by omega), pk_un (by omega)]) (fun q hq => ?_) ⟨fun k hk => by rw [e3 4 (by decide) (by decide) (by decide), pk_un (by omega), pk_un (by omega), pk_un (by omega), pk_un (by omega)]; exact h.2.1.1 k hk, fun x y hx' hy hh => ?_⟩ (fun r hr hx' hz => ?_)
  · by_cases e : q = p
    · subst e
      rw [RLp, e0, e1, e2, e3 3 (by decide) (by decide) (by decide), pk_us, pk_us, pk_us, show ldN (us (us (us S 0 q (nI v)) 1 q 1) 2 q 50) q = ldN S q by rw [ldN, ldN, e3 9 (by decide) (by decide) (by decide)], cl_nI (by omega), if_neg hv0]
      refine ⟨⟨rfl, hv⟩, Or.inr ⟨rfl, hv0⟩, ⟨by decide, by decide⟩, (h.p hq).2.2.2.1, ?_, ?_, ?_, ?_⟩
      · rw [pk_un (by omega), pk_un (by omega), pk_un (by omega), pk_us]
      · rw [pk_un (by omega), pk_un (by omega), pk_us]
      · rw [pk_un (by omega), pk_us]
      · rw [pk_us]
    · exact RLp_congr (by rw [e0, pk_un e]) (by rw [e1, pk_un e]) (by rw [e2, pk_un e]) (by rw [e3 3 (by decide) (by decide) (by decide)]) (e3 9 (by decide) (by decide) (by decide)) (fun c hc => by rw [pk_un (by omega), pk_un (by omega), pk_un (by omega), pk_un (by omega)]) (h.p hq)
  · rw [e3 4 (by decide) (by decide) (by decide)]
    refine h.2.1.2 x y hx' hy ?_
    rw [e0] at hh
    have hback : ∀ r, upd (S 0) p (nI v) r = 0 → S 0 r = 0 := fun r hr => by
      by_cases e : r = p
      · rw [e]; exact hx
      · rwa [pk_un e] at hr
    rcases hh with z | z | z
    · exact Or.inl (hback x z)
    · exact Or.inr (Or.inl (hback y z))
    · exact Or.inr (Or.inr z)
  · rw [e0] at hz
    by_cases e : r = p
    · rw [e, pk_us] at hz; exact absurd hz hv0
    · rw [pk_un e] at hz; exact absurd hz hx'
/-- a peer goes that owns nothing and keeps nothing -/
theorem o_rem {S : MS} {N : Nat → Int32} (h : RR S N) {p : Nat} (hp : p < 12) (hx : ¬ S 0 p = 0) (hno : ∀ f, f < 8 → ¬ S 7 f = nI p ∧ ∀ i, i < 10 → ¬ S 9 (10 * f + i) = nI p) : RR (sRem S (nI p)) (mGo N p) := by
  rw [sRem, ex_nI h hp, decide_eq_true hx, cond_true, cl_nI (by omega), mGo]
  have hl : ldN S p = 0 := cntB_z fun x hx => decide_eq_false fun z => by
    have := (hno (x / 10) (by omega)).2 (x % 10) (by omega)
    rw [show 10 * (x / 10) + x % 10 = x by omega] at this
    exact this z
  refine RR_0 h (fun t ht => by rw [if_neg (by omega), if_neg (by omega)]) (fun x hx => by simp only [zB, zN]; rw [if_neg (by omega), if_neg (by omega)]) (fun q hq => ?_) ⟨fun k hk => ?_, fun x y hx' hy hh => ?_⟩ (fun r hr hx' hz f hf => ?_)
  · have hlo : ∀ c, c < 4 → zB (zN N (4 * p) 4) p 12 (4 * q + c) = if q = p then 0 else N (4 * q + c) := fun c hc => by
      simp only [zB, zN]
      rw [if_neg (by omega)]
      by_cases e : q = p
      · rw [if_pos e, if_pos (by omega)]
      · rw [if_neg e, if_neg (by omega)]
    by_cases e : q = p
    · subst e
      have hl' : ldN (fun t => if t = 4 then zRC (S 4) q 12 else if t < 4 then upd (S t) q 0 else S t) q = 0 := hl
      rw [RLp, hl', show zB (zN N (4 * q) 4) q 12 (4 * q) = 0 from (hlo 0 (by decide)).trans (if_pos rfl), hlo 1 (by decide), hlo 2 (by decide), hlo 3 (by decide), if_pos rfl]
      simp only [show ¬ (0 : Nat) = 4 by decide, show ¬ (1 : Nat) = 4 by decide, show ¬ (2 : Nat) = 4 by decide, show ¬ (3 : Nat) = 4 by decide, show (0 : Nat) < 4 by decide, show (1 : Nat) < 4 by decide, show (2 : Nat) < 4 by decide, show (3 : Nat) < 4 by decide, if_true, if_false]
      rw [pk_us, pk_us, pk_us, pk_us]
      exact ⟨by decide, Or.inl rfl, by decide, rfl, rfl, rfl, rfl, rfl⟩
    · refine RLp_congr (S := S) (N := N) ?_ ?_ ?_ ?_ ?_ (fun c hc => by rw [hlo c hc, if_neg e]) (h.p hq)
      · simp only [show ¬ (0 : Nat) = 4 by decide, show (0 : Nat) < 4 by decide, if_true, if_false]; exact pk_un e
      · simp only [show ¬ (1 : Nat) = 4 by decide, show (1 : Nat) < 4 by decide, if_true, if_false]; exact pk_un e
      · simp only [show ¬ (2 : Nat) = 4 by decide, show (2 : Nat) < 4 by decide, if_true, if_false]; exact pk_un e
      · simp only [show ¬ (3 : Nat) = 4 by decide, show (3 : Nat) < 4 by decide, if_true, if_false]; exact pk_un e
      · rfl
  · have hb := h.2.1.1 k hk
    simp only [if_true, zB, zN, zRC]
    by_cases c : (k / 12 = p ∧ k % 12 < 12) ∨ (k % 12 = p ∧ k / 12 < 12)
    · rw [if_pos c, if_pos (by omega)]
    · rw [if_neg c, if_neg (by omega), if_neg (by omega), hb]
  · simp only [if_true, show ¬ (0 : Nat) = 4 by decide, show (0 : Nat) < 4 by decide, if_false] at hh ⊢
    simp only [zRC]
    by_cases c : ((12 * x + y) / 12 = p ∧ (12 * x + y) % 12 < 12) ∨ ((12 * x + y) % 12 = p ∧ (12 * x + y) / 12 < 12)
    · rw [if_pos c]
    · rw [if_neg c]
      refine h.2.1.2 x y hx' hy ?_
      rw [pk_un (show x ≠ p by omega), pk_un (show y ≠ p by omega)] at hh
      exact hh
  · simp only [show ¬ (0 : Nat) = 4 by decide, show (0 : Nat) < 4 by decide, if_true, if_false] at hz
    by_cases e : r = p
    · rw [e]; exact hno f hf
    · rw [pk_un e] at hz; exact absurd hz hx'
