/-! ===== the plan of leaving ===== -/
theorem fstT_congr {f g : Nat → Bool} : ∀ {n i}, (∀ k, i ≤ k → k < i + n → f k = g k) → fstT f i n = fstT g i n
  | 0, _, _ => rfl
  | n + 1, i, h => by
    rw [fstT, fstT, h i (Nat.le_refl _) (by omega), fstT_congr (n := n) (i := i + 1) fun k h1 h2 => h k (by omega) (by omega)]
theorem fstT_some {f : Nat → Bool} : ∀ {n i p}, fstT f i n = some p → i ≤ p ∧ p < i + n ∧ f p = true
  | 0, i, p, h => by rw [fstT] at h; exact absurd h (by simp)
  | n + 1, i, p, h => by
    rw [fstT] at h
    by_cases c : f i = true
    · rw [if_pos c] at h
      have : i = p := Option.some.inj h
      subst this; exact ⟨Nat.le_refl _, by omega, c⟩
    · rw [if_neg c] at h
      obtain ⟨a, b, d⟩ := fstT_some h
      exact ⟨by omega, by omega, d⟩
theorem r_cg {S : MS} {N : Nat → Int32} (h : RR S N) {p : Nat} (hp : p < 12) : cgB N p = goB S p := by
  rw [cgB, goB, cgC, r_pe h]
  cases hx : exB S (nI p) with
  | false => rw [Bool.false_and, Bool.false_and, Bool.false_and, Bool.false_and, Bool.false_and]
  | true =>
    rw [Bool.true_and, Bool.true_and, ← r_ml h hx, show (!decide (0 < mOw N (nI p))) = decide (¬ 0 < mOw N (nI p)) from (decide_not).symm]
    cases hm : (decide (¬ 0 < mOw N (nI p)) && mOn N (nI p)) with
    | false => rw [Bool.false_and, Bool.false_and]
    | true =>
      rw [r_ml h hx, mlB, Bool.and_eq_true, decide_eq_true_eq] at hm
      rw [(o_lv h hp hx hm.2).2]
theorem r_lo {S : MS} {N : Nat → Int32} (h : RR S N) : mlO N = lvO S := fstT_congr fun k _ hk => r_cg h (by omega)
theorem go_ok {S : MS} {N : Nat → Int32} (h : RR S N) {p : Nat} (hl : lvO S = some p) : p < 12 ∧ exB S (nI p) = true ∧ RR (pnlS S) (mlS N) ∧ pnlS S = sLeave S (nI p) := by
  obtain ⟨-, hp, hg⟩ := fstT_some hl
  have hp12 : p < 12 := by omega
  simp only [goB, mlB, Bool.and_eq_true, decide_eq_true_eq] at hg
  refine ⟨hp12, hg.1.1, ?_, (pnl_some hl).2⟩
  rw [(pnl_some hl).2, mlS, r_lo h, hl]
  exact (o_lv h hp12 hg.1.1 hg.1.2.2).1
theorem lv_cnt {S : MS} {N : Nat → Int32} (h : RR S N) {p : Nat} (hp : p < 12) (hx : exB S (nI p) = true) (hr : RR (sLeave S (nI p)) (mLvN N p)) : pnN (sLeave S (nI p)) + 1 = pnN S := by
  have h0 : (sLeave S (nI p)) 0 = upd (S 0) p 0 := by
    obtain ⟨i1, -, i3, -⟩ := lv_loop h hp 8 (Nat.le_refl _)
    have e0 := i3 0 (by decide) (by decide) (by decide) (by decide)
    rw [sLeave, sRem, ex_nI i1 hp, e0]
    rw [ex_nI h hp] at hx
    rw [hx, cond_true, cl_nI (by omega)]
    simp only [show ¬ (0 : Nat) = 4 by decide, show (0 : Nat) < 4 by decide, if_true, if_false]
    rw [e0]
  have hc := cnt_del (fun q => exB S (nI q)) p 12 hp
  rw [hx, if_pos rfl] at hc
  rw [pnN, pnN, ← hc]
  congr 1
  refine cntB_congr fun q hq => ?_
  rw [ex_nI hr hq, ex_nI h hq, h0]
  by_cases e : q = p
  · rw [e, pk_us]; simp
  · rw [pk_un e, decide_eq_false e]; simp
theorem mlP_sh (N : Nat → Int32) : ∀ k, mlP (mlS N) k = mlP N (k + 1)
  | 0 => rfl
  | k + 1 => by rw [mlP, mlP_sh N k]; rfl
theorem q_lvs : ∀ n {S : MS} {N : Nat → Int32}, RR S N → pnN S ≤ n → (∀ j, j < lvrs S n → (mlO (mlP N j)).isSome = true) ∧ mlO (mlP N (lvrs S n)) = none ∧ ∀ j, j ≤ lvrs S n → MOkA (mlP N j)
  | n, S, N, h, hn => by
    cases hl : lvO S with
    | none =>
      have hK : lvrs S n = 0 := by
        cases n with
        | zero => rfl
        | succ n => rw [lvrs, (pnl_none hl).1]; rfl
      rw [hK]
      refine ⟨fun j hj => absurd hj (Nat.not_lt_zero _), by show mlO N = none; rw [r_lo h, hl], fun j hj => ?_⟩
      rw [Nat.le_zero.mp hj]; exact r_okA h
    | some p =>
      obtain ⟨hp, hx, hr, he⟩ := go_ok h hl
      have hms : mlS N = mLvN N p := by rw [mlS, r_lo h, hl]
      have hc := lv_cnt h hp hx (by rw [← he, ← hms]; exact hr)
      cases n with
      | zero => omega
      | succ n =>
        have hK : lvrs S (n + 1) = lvrs (pnlS S) n + 1 := by rw [lvrs, (pnl_some hl).1]; rfl
        obtain ⟨i1, i2, i3⟩ := q_lvs n hr (by rw [he]; omega)
        rw [hK]
        refine ⟨fun j hj => ?_, by rw [← mlP_sh]; exact i2, fun j hj => ?_⟩
        · cases j with
          | zero => show (mlO N).isSome = true; rw [r_lo h, hl]; rfl
          | succ j => rw [← mlP_sh]; exact i1 j (by omega)
        · cases j with
          | zero => exact r_okA h
          | succ j => rw [← mlP_sh]; exact i3 j (by omega)
/-! ===== the saved states ===== -/
theorem RR_ext {S : MS} {N N' : Nat → Int32} (h : RR S N) (e : ∀ x, x < 439 → N' x = N x) : RR S N' := by
  refine ⟨fun p hp => ?_, ⟨fun k hk => ?_, h.2.1.2⟩, fun f hf => ?_, ?_⟩
  · exact RLp_congr rfl rfl rfl rfl rfl (fun c hc => e _ (by omega)) (h.p hp)
  · rw [e _ (by omega)]; exact h.2.1.1 k hk
  · exact RLf_congr rfl rfl rfl (fun _ _ => rfl) (fun _ _ => rfl) (fun _ _ => rfl) (fun _ _ hx _ => hx) (fun j hj => e _ (by omega)) (h.f hf)
  · obtain ⟨w, hw, e1, e2, e3, e4⟩ := h.2.2.2
    exact ⟨w, hw, e1, by rw [e _ (by decide)]; exact e2, e3, fun d hd => by rw [e _ (by omega)]; exact e4 d hd⟩
def HH (G : Nat → MS) (r n : Nat) (B : Nat → Int32) : Prop := ∀ j, j < n → RR (G ((j + r) % 5)) (fun x => B (439 * j + x))
theorem HH_rec {S : MS} {N : Nat → Int32} {G : Nat → MS} {r n : Nat} {B : Nat → Int32} (h : RR S N) (hh : HH G r n B) (hr : r < 5) (hn : n ≤ 5) : HH (recG G r n S) (recR r n) (recN n) (mKB B N n) ∧ recR r n < 5 ∧ recN n ≤ 5 := by
  by_cases c : n < 5
  · rw [recR, if_pos c, recN, if_pos c]
    refine ⟨fun j hj => ?_, hr, by omega⟩
    rw [recG, if_pos c]
    by_cases e : j = n
    · subst e
      rw [if_pos rfl]
      refine RR_ext h fun x hx => ?_
      simp only [mKB]; rw [if_pos c]; simp only [kpB]; rw [if_pos (by omega), Nat.add_sub_cancel_left]
    · rw [if_neg (by omega)]
      refine RR_ext (hh j (by omega)) fun x hx => ?_
      simp only [mKB]; rw [if_pos c]; simp only [kpB]; rw [if_neg (by omega)]
  · rw [recR, if_neg c, recN, if_neg c]
    have hn5 : n = 5 := by omega
    subst hn5
    refine ⟨fun j hj => ?_, Nat.mod_lt _ (by decide), by decide⟩
    rw [recG, if_neg c]
    by_cases e : j = 4
    · subst e
      rw [if_pos (by omega)]
      refine RR_ext h fun x hx => ?_
      simp only [mKB]; rw [if_neg c]; simp only [kpB]; rw [if_pos (by omega), Nat.add_sub_cancel_left]
    · rw [if_neg (by omega)]
      have hj := hh (j + 1) (by omega)
      rw [show (j + (r + 1) % 5) % 5 = (j + 1 + r) % 5 by omega]
      refine RR_ext hj fun x hx => ?_
      simp only [mKB]; rw [if_neg c]; simp only [kpB]; rw [if_neg (by omega)]; simp only [shB]; rw [if_pos (by omega)]; congr 1; omega
/-! ===== the first states ===== -/
theorem RR_z : RR zS (fun _ => 0) := by
  have h9 : ∀ x, zS 9 x = -1 := fun x => rfl
  refine ⟨fun p hp => ?_, ⟨fun k hk => rfl, fun _ _ _ _ _ => rfl⟩, fun f hf => ?_, 0, by decide, rfl, rfl, fun d hd => ⟨0, by decide, rfl⟩, fun d hd => absurd hd (Nat.not_lt_zero _)⟩
  · refine ⟨⟨rfl, by show (0 : Nat) ≤ 40; decide⟩, Or.inl rfl, ⟨rfl, by show (0 : Nat) ≤ 100; decide⟩, ?_, rfl, rfl, rfl, rfl⟩
    have : ldN zS p = 0 := cntB_z fun x _ => decide_eq_false (m1_ne (by omega))
    rw [this]; rfl
  · exact ⟨⟨rfl, by show (0 : Nat) ≤ 6; decide, rfl, by show (0 : Nat) ≤ 4; decide⟩, fun _ => ⟨rfl, rfl, fun _ _ => rfl⟩, fun z => absurd z (by show ¬ 0 < 0; decide), fun i _ => Or.inl ⟨rfl, rfl⟩, fun i j _ _ _ z => absurd rfl z⟩
