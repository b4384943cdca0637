/-! ===== changes: fragments ===== -/
theorem m1_ne {p : Nat} (h : p < 2 ^ 31) : ¬ (-1 : Int32) = nI p := fun z => nI_nm1 h z.symm
theorem tk_hd (S : MS) (f i : Int32) : ∀ t, ¬ t = 3 → ¬ t = 9 → ¬ t = 10 → sTake S f i t = S t := fun t h3 h9 h10 => by
  rw [sTake, sSet, sLoad]
  cases irB f i <;> cases exB S (plI S f i) <;> simp only [cond_true, cond_false, us_ne h3, us_ne h9, us_ne h10]
theorem tk_9 (S : MS) {f i : Nat} (hf : f < 8) (hi : i < 10) : sTake S (nI f) (nI i) 9 = upd (S 9) (10 * f + i) (-1) ∧ sTake S (nI f) (nI i) 10 = upd (S 10) (10 * f + i) 0 := by
  rw [sTake, sSet, ir_t hf hi, cond_true, cl_nI (by omega), cl_nI (by omega), sLoad]
  constructor
  · rw [us_ne (by decide), us_eq]
    cases exB S (plI S (nI f) (nI i)) with
    | true => rw [cond_true, us_ne (by decide)]
    | false => rfl
  · rw [us_eq, us_ne (by decide)]
    cases exB S (plI S (nI f) (nI i)) with
    | true => rw [cond_true, us_ne (by decide)]
    | false => rfl
theorem tk_3 {S : MS} {N : Nat → Int32} (h : RR S N) {f i : Nat} (hf : f < 8) (hi : i < 10) : ∀ p, p < 12 → sTake S (nI f) (nI i) 3 p = nI (ldN (sTake S (nI f) (nI i)) p) := by
  intro p hp
  have hc := cnt_upd (S 9) (10 * f + i) (-1) (nI p) 80 (by omega)
  rw [if_neg (m1_ne (show p < 2 ^ 31 by omega)), Nat.add_zero] at hc
  have e1 : ldN (sTake S (nI f) (nI i)) p = cntB (fun x => decide (upd (S 9) (10 * f + i) (-1) x = nI p)) 80 := by rw [ldN, (tk_9 S hf hi).1]
  rw [e1]
  have e2 : cntB (fun x => decide (S 9 x = nI p)) 80 = ldN S p := rfl
  rw [e2] at hc
  rw [sTake, sSet, ir_t hf hi, cond_true, us_ne (by decide), us_ne (by decide), sLoad, pl_nI S hf hi]
  have h3 := (h.p hp).2.2.2.1
  rcases (h.f hf).2.2.2.1 i hi with e3 | ⟨-, q, e, hq, -, e9, ex, -⟩
  · rw [e3.1, if_neg (m1_ne (by omega)), Nat.add_zero] at hc
    rw [e3.1, show exB S (-1) = false from rfl, cond_false, h3, hc]
  · rw [e9, ex_nI h hq, decide_eq_true ex, cond_true, us_eq, cl_nI (by omega)]
    by_cases z : p = q
    · subst z
      rw [e9, if_pos rfl] at hc
      rw [pk_us, h3, ← hc, pk_m1]
    · rw [e9, if_neg (fun y => z (nI_inj' y (by omega) (by omega)).symm), Nat.add_zero] at hc
      rw [pk_un z, h3, hc]
theorem upd2 {g : Nat → Int32} {x y : Nat} {v w : Int32} (z : Nat) : upd (upd g x v) y w z = if z = y then w else if z = x then v else g z := rfl
theorem updE {g : Nat → Int32} {x z : Nat} {v : Int32} : upd g x v z = if z = x then v else g z := rfl
theorem o_take {S : MS} {N : Nat → Int32} (h : RR S N) {f i : Nat} (hf : f < 8) (hi : i < 10) (hx : 0 < dk S f) : RR (sTake S (nI f) (nI i)) (mR1 N f i) := by
  obtain ⟨t9, t10⟩ := tk_9 S hf hi
  have hX := (h.f hf).2.2.1 hx
  refine RR_9 h hf hx (tk_hd S _ _) (fun x hx => ?_) (tk_3 h hf hi) (fun x hx => ?_) (fun j hj => ?_) (fun j hj => ?_) (fun a b ha hb e1 e2 => ?_)
  · rw [t9, t10, pk_un (by omega), pk_un (by omega)]; exact ⟨rfl, rfl⟩
  · rw [mR1, pk_un (by omega), pk_un (by omega)]
  · rw [mR1, t9, t10]
    by_cases e : j = i
    · subst e
      rw [pk_un (by omega), pk_us, pk_us, pk_us, pk_us]; exact ⟨rfl, rfl⟩
    · rw [pk_un (by omega), pk_un (by omega), pk_un (by omega), pk_un (by omega), pk_un (by omega), pk_un (by omega)]
      exact ⟨hX.2.2.2.2.2.1 j hj, hX.2.2.2.2.2.2.1 j hj⟩
  · rw [RLl, t9, t10, dk, dm, tk_hd S _ _ 5 (by decide) (by decide) (by decide), tk_hd S _ _ 6 (by decide) (by decide) (by decide), tk_hd S _ _ 0 (by decide) (by decide) (by decide)]
    by_cases e : j = i
    · subst e; rw [pk_us, pk_us]; exact Or.inl ⟨rfl, rfl⟩
    · rw [pk_un (by omega), pk_un (by omega)]; exact (h.f hf).2.2.2.1 j hj
  · rw [t9] at e1 e2
    by_cases za : a = i
    · subst za; rw [pk_us] at e2; exact absurd rfl e2
    · rw [pk_un (by omega)] at e1 e2
      by_cases zb : b = i
      · subst zb; rw [pk_us] at e1; exact absurd e1 e2
      · rw [pk_un (by omega)] at e1
        exact (h.f hf).2.2.2.2 a b ha hb e1 e2
/-- put: the fragment is nowhere, the peer is there and keeps none of the file -/
def sPu (S : MS) (f i p e : Int32) : MS := sLoad (sSet S f i p e) p 1
theorem pu_hd (S : MS) (f i p e : Int32) : ∀ t, ¬ t = 3 → ¬ t = 9 → ¬ t = 10 → sPu S f i p e t = S t := fun t h3 h9 h10 => by
  rw [sPu, sLoad, sSet]
  cases irB f i <;> simp only [cond_true, cond_false]
  · cases exB S p <;> simp only [cond_true, cond_false, us_ne h3]
  · cases exB (us (us S 9 (10 * cl f + cl i) p) 10 (10 * cl f + cl i) e) p <;> simp only [cond_true, cond_false, us_ne h3, us_ne h9, us_ne h10]
theorem o_pu {S : MS} {N : Nat → Int32} (h : RR S N) {f i q e : Nat} (hf : f < 8) (hi : i < dk S f + dm S f) (hx : 0 < dk S f) (hq : q < 12) (hqx : ¬ S 0 q = 0) (he : e < 257) (h9 : S 9 (10 * f + i) = -1) (hno : ∀ j, j < 10 → ¬ S 9 (10 * f + j) = nI q) : RR (sPu S (nI f) (nI i) (nI q) (nI e)) (upd (upd N (192 + 30 * f + (10 + i)) (nI q)) (192 + 30 * f + (20 + i)) (nI e)) := by
  have h1 := (h.f hf).1
  have hi10 : i < 10 := by omega
  have hX := (h.f hf).2.2.1 hx
  have e0 : sSet S (nI f) (nI i) (nI q) (nI e) 0 = S 0 := by rw [sSet, ir_t hf hi10, cond_true, us_ne (by decide), us_ne (by decide)]
  have hex : exB (sSet S (nI f) (nI i) (nI q) (nI e)) (nI q) = true := by
    have := ex_nI h hq
    rw [exB, e0]; rw [exB] at this; rw [this]; exact decide_eq_true hqx
  have t9 : sPu S (nI f) (nI i) (nI q) (nI e) 9 = upd (S 9) (10 * f + i) (nI q) := by
    rw [sPu, sLoad, hex, cond_true, us_ne (by decide), sSet, ir_t hf hi10, cond_true, us_ne (by decide), us_eq, cl_nI (by omega), cl_nI (by omega)]
  have t10 : sPu S (nI f) (nI i) (nI q) (nI e) 10 = upd (S 10) (10 * f + i) (nI e) := by
    rw [sPu, sLoad, hex, cond_true, us_ne (by decide), sSet, ir_t hf hi10, cond_true, us_eq, us_ne (by decide), cl_nI (by omega), cl_nI (by omega)]
  have t3 : sPu S (nI f) (nI i) (nI q) (nI e) 3 = upd (S 3) q (S 3 q + 1) := by
    rw [sPu, sLoad, hex, cond_true, us_eq, sSet, ir_t hf hi10, cond_true, us_ne (by decide), us_ne (by decide), cl_nI (by omega)]
  refine RR_9 h hf hx (pu_hd S _ _ _ _) (fun x hx => ?_) (fun p hp => ?_) (fun x hx => ?_) (fun j hj => ?_) (fun j hj => ?_) (fun a b ha hb e1 e2 => ?_)
  · rw [t9, t10, pk_un (by omega), pk_un (by omega)]; exact ⟨rfl, rfl⟩
  · have hc := cnt_upd (S 9) (10 * f + i) (nI q) (nI p) 80 (by omega)
    rw [h9, if_neg (m1_ne (show p < 2 ^ 31 by omega)), Nat.add_zero] at hc
    have el : ldN (sPu S (nI f) (nI i) (nI q) (nI e)) p = cntB (fun x => decide (upd (S 9) (10 * f + i) (nI q) x = nI p)) 80 := by rw [ldN, t9]
    have e3 : cntB (fun x => decide (S 9 x = nI p)) 80 = ldN S p := rfl
    rw [e3] at hc
    rw [el, hc, t3]
    have h3 := (h.p hp).2.2.2.1
    by_cases z : p = q
    · subst z; rw [pk_us, h3, if_pos rfl, nI_1]
    · rw [pk_un z, h3, if_neg (fun y => z (nI_inj' y (by omega) (by omega)).symm), Nat.add_zero]
  · rw [pk_un (by omega), pk_un (by omega)]
  · rw [t9, t10]
    by_cases z : j = i
    · subst z
      rw [pk_un (by omega), pk_us, pk_us, pk_us, pk_us]; exact ⟨rfl, rfl⟩
    · rw [pk_un (by omega), pk_un (by omega), pk_un (by omega), pk_un (by omega), pk_un (by omega), pk_un (by omega)]
      exact ⟨hX.2.2.2.2.2.1 j hj, hX.2.2.2.2.2.2.1 j hj⟩
  · rw [RLl, t9, t10, dk, dm, pu_hd S _ _ _ _ 5 (by decide) (by decide) (by decide), pu_hd S _ _ _ _ 6 (by decide) (by decide) (by decide), pu_hd S _ _ _ _ 0 (by decide) (by decide) (by decide)]
    by_cases z : j = i
    · subst z; rw [pk_us, pk_us]; exact Or.inr ⟨hi, q, e, hq, he, rfl, hqx, rfl⟩
    · rw [pk_un (by omega), pk_un (by omega)]; exact (h.f hf).2.2.2.1 j hj
  · rw [t9] at e1 e2
    by_cases za : a = i
    · subst za
      by_cases zb : b = a
      · exact zb.symm
      · rw [pk_us, pk_un (by omega)] at e1; exact absurd e1.symm (hno b hb)
    · rw [pk_un (by omega)] at e1 e2
      by_cases zb : b = i
      · subst zb; rw [pk_us] at e1; exact absurd e1 (hno a ha)
      · rw [pk_un (by omega)] at e1
        exact (h.f hf).2.2.2.2 a b ha hb e1 e2
theorem put_hd (S : MS) (f i p e : Int32) : ∀ t, ¬ t = 3 → ¬ t = 4 → ¬ t = 9 → ¬ t = 10 → sPut S f i p e t = S t := fun t h3 h4 h9 h10 => by
  rw [sPut, owe_0 _ _ _ _ t h4]; exact pu_hd S f i p e t h3 h9 h10
theorem o_put {S : MS} {N : Nat → Int32} (h : RR S N) {f i q e : Nat} (hf : f < 8) (hi : i < dk S f + dm S f) (hx : 0 < dk S f) (hq : q < 12) (hqx : ¬ S 0 q = 0) (he : e < 257) (h9 : S 9 (10 * f + i) = -1) (hno : ∀ j, j < 10 → ¬ S 9 (10 * f + j) = nI q) : RR (sPut S (nI f) (nI i) (nI q) (nI e)) (mOwe (upd (upd N (192 + 30 * f + (10 + i)) (nI q)) (192 + 30 * f + (20 + i)) (nI e)) (S 7 f) (nI q) 1) := by
  obtain ⟨-, -, -, -, ⟨o, ho, b4, b5⟩, -⟩ := (h.f hf).2.2.1 hx
  have hu := o_pu h hf hi hx hq hqx he h9 hno
  have e0 := pu_hd S (nI f) (nI i) (nI q) (nI e) 0 (by decide) (by decide) (by decide)
  have e7 := pu_hd S (nI f) (nI i) (nI q) (nI e) 7 (by decide) (by decide) (by decide)
  have ef : foI (sPu S (nI f) (nI i) (nI q) (nI e)) (nI f) = nI o := by rw [fo_nI _ hf, e7, b4]
  rw [b4]
  show RR (sOwe (sPu S (nI f) (nI i) (nI q) (nI e)) (foI (sPu S (nI f) (nI i) (nI q) (nI e)) (nI f)) (nI q) 1) _
  rw [ef]
  exact o_owe hu ho hq (by rw [e0]; exact b5) (by rw [e0]; exact hqx) 1
theorem upd_id {g : Nat → Int32} {x : Nat} {v : Int32} (h : g x = v) : upd g x v = g := by
  funext z; rw [updE]; by_cases e : z = x
  · rw [if_pos e, e, h]
  · rw [if_neg e]
/-- a fragment that is nowhere is placed, as far as that goes -/
theorem o_plc {S : MS} {N : Nat → Int32} (h : RR S N) {f i : Nat} (hf : f < 8) (hi : i < dk S f + dm S f) (hx : 0 < dk S f) (h9 : S 9 (10 * f + i) = -1) : RR (sPlc S (nI f) (nI i)) (mPlN N f i (-1)) ∧ mPlB N f (-1) = !decide (bstI S (nI f) 12 = -1) := by
  have h1 := (h.f hf).1
  have hi10 : i < 10 := by omega
  obtain ⟨-, eow, -, -, -, b6, b7, -⟩ := (h.f hf).2.2.1 hx
  have h10 : S 10 (10 * f + i) = 0 := by
    rcases (h.f hf).2.2.2.1 i hi10 with e3 | ⟨-, q, e, hq, -, e9, -⟩
    · exact e3.2
    · rw [h9] at e9; exact absurd e9 (m1_ne (by omega))
  obtain ⟨eb, hr⟩ := r_bst h hf hx (Or.inl rfl) 12 (Nat.le_refl _)
  rw [sPlc, mPlN, mPlB, eb]
  rcases hr with e | ⟨q, hq, e, hexq, hfq, -⟩
  · rw [e, decide_eq_true rfl, show decide ((0 : Int32) ≤ -1) = false from rfl, cond_true, cond_false]
    rw [upd_id (g := N) (by rw [b6 i hi10, h9]), upd_id (g := N) (by rw [b7 i hi10, h10])]
    exact ⟨h, rfl⟩
  · rw [e, decide_eq_false (nI_nm1 (by omega)), decide_eq_true (nI_pos' (by omega)), cond_false, cond_true]
    refine ⟨?_, rfl⟩
    have hno : ∀ j, j < 10 → ¬ S 9 (10 * f + j) = nI q := by
      rcases fon_cases S hf hq with ⟨-, z⟩ | ⟨j, hj, z, -⟩
      · exact z
      · rw [hfq] at z; exact absurd z (m1_ne (by omega))
    have := o_put h (e := 0) hf hi hx hq (by rw [ex_nI h hq, decide_eq_true_eq] at hexq; exact hexq) (by decide) h9 hno
    rw [upd_id (g := upd N (192 + 30 * f + (10 + i)) (nI q)) (x := 192 + 30 * f + (20 + i)) (by rw [pk_un (by omega), b7 i hi10, h10]; rfl)] at this
    rw [pk_un (by omega), eow]
    exact this
/-- a fragment on a peer goes elsewhere, as far as that goes -/
theorem o_mv {S : MS} {N : Nat → Int32} (h : RR S N) {f i b : Nat} (hf : f < 8) (hi : i < 10) (hx : 0 < dk S f) (hb : b < 12) (h9 : S 9 (10 * f + i) = nI b) (hfo : ¬ fonI S (nI f) (nI b) = -1) : RR (sMv S (nI f) (nI i)) (mPlN N f i (nI b)) ∧ mPlB N f (nI b) = mvB S (nI f) := by
  obtain ⟨-, eow, -, -, -, b6, b7, -⟩ := (h.f hf).2.2.1 hx
  obtain ⟨eb, hr⟩ := r_bst h hf hx (Or.inr ⟨b, hb, rfl, hfo⟩) 12 (Nat.le_refl _)
  have ht := o_take h hf hi hx
  have hin : i < dk S f + dm S f ∧ ∃ v, v < 257 ∧ S 10 (10 * f + i) = nI v := by
    rcases (h.f hf).2.2.2.1 i hi with e3 | ⟨hlt, q, e, hq, he, e9, -, e10⟩
    · rw [h9] at e3; exact absurd e3.1 (nI_nm1 (by omega))
    · exact ⟨hlt, e, he, e10⟩
  obtain ⟨hlt, v, hv, e10⟩ := hin
  rw [sMv, mvB, mPlN, mPlB, eb]
  rcases hr with e | ⟨q, hq, e, hexq, hfq, -⟩
  · rw [e, show decide (¬ (-1 : Int32) = -1) = false from rfl, show decide ((0 : Int32) ≤ -1) = false from rfl, cond_false, cond_false]
    exact ⟨ht, rfl⟩
  · rw [e, decide_eq_true (nI_nm1 (by omega)), decide_eq_true (nI_pos' (by omega)), cond_true, cond_true, er_nI S hf hi, e10]
    refine ⟨?_, rfl⟩
    have hqx : ¬ S 0 q = 0 := by rw [ex_nI h hq, decide_eq_true_eq] at hexq; exact hexq
    have hno : ∀ j, j < 10 → ¬ S 9 (10 * f + j) = nI q := by
      rcases fon_cases S hf hq with ⟨-, z⟩ | ⟨j, hj, z, -⟩
      · exact z
      · rw [hfq] at z; exact absurd z (m1_ne (by omega))
    obtain ⟨t9, t10⟩ := tk_9 S hf hi
    have k5 : dk (sTake S (nI f) (nI i)) f = dk S f := by rw [dk, dk, tk_hd S _ _ 5 (by decide) (by decide) (by decide)]
    have k6 : dm (sTake S (nI f) (nI i)) f = dm S f := by rw [dm, dm, tk_hd S _ _ 6 (by decide) (by decide) (by decide)]
    have := o_put ht (e := v) hf (by rw [k5, k6]; exact hlt) (by rw [k5]; exact hx) hq (by rw [tk_hd S _ _ 0 (by decide) (by decide) (by decide)]; exact hqx) hv (by rw [t9, pk_us]) (fun j hj => by
      rw [t9]
      by_cases z : j = i
      · rw [z, pk_us]; exact m1_ne (by omega)
      · rw [pk_un (by omega)]; exact hno j hj)
    rw [tk_hd S _ _ 7 (by decide) (by decide) (by decide)] at this
    have ef : upd (upd (mR1 N f i) (192 + 30 * f + (10 + i)) (nI q)) (192 + 30 * f + (20 + i)) (nI v) = upd N (192 + 30 * f + (10 + i)) (nI q) := by
      funext z
      rw [upd2, mR1, upd2, updE]
      by_cases z1 : z = 192 + 30 * f + (20 + i)
      · rw [if_pos z1, if_neg (by omega), z1, b7 i hi, e10]
      · rw [if_neg z1]
        by_cases z2 : z = 192 + 30 * f + (10 + i)
        · rw [if_pos z2, if_pos z2]
        · rw [if_neg z2, if_neg z2, if_neg z1, if_neg z2]
    rw [ef] at this
    rw [pk_un (by omega), eow]
    exact this
