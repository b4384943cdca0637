/-! ===== decode: both eliminate in the same way ===== -/
theorem fsN_congr {f g : Nat → Bool} : ∀ {n i}, (∀ k, i ≤ k → k < i + n → f k = g k) → fsN f i n = fsN g i n
  | 0, _, _ => rfl
  | n + 1, i, h => by rw [fsN, fsN, h i (Nat.le_refl _) (by omega), fsN_congr (n := n) (i := i + 1) fun k h1 h2 => h k (by omega) (by omega)]
theorem rw_at (T : Nat → Nat) {k col : Nat} (hk : k ≤ 6) (hcol : col ≤ k) : ∀ n r j, j < 7 → rwC T k col n (7 * r + j) = if r < n ∧ ¬ r = col ∧ j ≤ k then (T (7 * r + j) + (257 - T (7 * r + col)) * T (7 * col + j)) % 257 else T (7 * r + j)
  | 0, r, j, _ => by rw [rwC, if_neg (by omega)]
  | n + 1, r, j, hj => by
    rw [rwC]
    by_cases e : n = col
    · rw [if_pos e, rw_at T hk hcol n r j hj]
      by_cases c : r < n ∧ ¬ r = col ∧ j ≤ k
      · rw [if_pos c, if_pos (by omega)]
      · rw [if_neg c, if_neg (by omega)]
    · rw [if_neg e]
      simp only [sbC]
      by_cases c : 7 * n ≤ 7 * r + j ∧ 7 * r + j < 7 * n + (k + 1)
      · have hr : r = n := by omega
        subst hr
        rw [if_pos c, Nat.add_sub_cancel_left, rw_at T hk hcol r r j hj, rw_at T hk hcol r r col (by omega), rw_at T hk hcol r col j hj]
        have n1 : ¬ (r < r ∧ ¬ r = col ∧ j ≤ k) := by omega
        have n2 : ¬ (r < r ∧ ¬ r = col ∧ col ≤ k) := by omega
        have n3 : ¬ (col < r ∧ ¬ col = col ∧ j ≤ k) := by omega
        have n4 : r < r + 1 ∧ ¬ r = col ∧ j ≤ k := by omega
        rw [if_neg n1, if_neg n2, if_neg n3, if_pos n4]
      · rw [if_neg c, rw_at T hk hcol n r j hj]
        by_cases c2 : r < n ∧ ¬ r = col ∧ j ≤ k
        · rw [if_pos c2, if_pos (by omega)]
        · rw [if_neg c2, if_neg (by omega)]
def gb (c : Nat → Nat) (p col iv r j : Nat) : Nat := if r = col then c (7 * p + j) * iv % 257 else if r = p then c (7 * col + j) else c (7 * r + j)
def gF (c : Nat → Nat) (p col iv r j : Nat) : Nat := if r = col then gb c p col iv r j else (gb c p col iv r j + (257 - gb c p col iv r col) * gb c p col iv col j) % 257
theorem sw_at (c : Nat → Nat) (p q r : Nat) {j : Nat} (hj : j < 7) : swC c p q 7 (7 * r + j) = if r = p then c (7 * q + j) else if r = q then c (7 * p + j) else c (7 * r + j) := by
  simp only [swC]
  by_cases e1 : r = p
  · subst e1; rw [if_pos (by omega), if_pos rfl, Nat.add_sub_cancel_left]
  · rw [if_neg (by omega), if_neg e1]
    by_cases e2 : r = q
    · subst e2; rw [if_pos (by omega), if_pos rfl, Nat.add_sub_cancel_left]
    · rw [if_neg (by omega), if_neg e2]
theorem sw_col (c : Nat → Nat) (p q : Nat) {j : Nat} (hj : j < 7) : swC c p q 7 (7 * q + j) = c (7 * p + j) := by
  rw [sw_at c p q q hj]
  by_cases e : q = p
  · rw [if_pos e, e]
  · rw [if_neg e, if_pos rfl]
theorem tC_at (c : Nat → Nat) {p col k r j : Nat} (hk : k ≤ 6) (hcol : col ≤ k) (hj : j ≤ k) : scC (swC c p col 7) col (inC (swC c p col 7) col) (k + 1) (7 * r + j) = gb c p col (c (7 * p + col) ^ 255 % 257) r j := by
  have ei : inC (swC c p col 7) col = c (7 * p + col) ^ 255 % 257 := by rw [inC, sw_col c p col (by omega)]
  rw [ei]
  simp only [scC, gb]
  by_cases e : r = col
  · subst e; rw [if_pos (by omega), if_pos rfl, sw_col c p r (by omega)]
  · rw [if_neg (by omega), if_neg e, sw_at c p col r (by omega)]
    by_cases e2 : r = p
    · rw [if_pos e2, if_pos e2]
    · rw [if_neg e2, if_neg e, if_neg e2]
theorem tL_at (c : Nat → Nat) {p col iv r j : Nat} (hj : j < 7) : ssC c p col iv 7 (7 * r + j) = gb c p col iv r j := by
  simp only [ssC, gb]
  by_cases e : r = col
  · subst e; rw [if_pos (by omega), if_pos rfl, Nat.add_sub_cancel_left]
  · rw [if_neg (by omega), if_neg e]
    by_cases e2 : r = p
    · subst e2; rw [if_pos (by omega), if_pos rfl, Nat.add_sub_cancel_left]
    · rw [if_neg (by omega), if_neg e2]
theorem elC_at (c : Nat → Nat) {k col r j : Nat} (hk : k ≤ 6) (hcol : col < k) (hr : r < k) (hj : j ≤ k) : elC c k col (7 * r + j) = gF c (pvC c k col) col (c (7 * pvC c k col + col) ^ 255 % 257) r j := by
  rw [elC, rw_at _ hk (by omega) k r j (by omega), gF, tC_at c hk (by omega) hj, tC_at c hk (by omega) (show col ≤ k by omega), tC_at c hk (by omega) hj]
  by_cases e : r = col
  · rw [if_neg (by omega), if_pos e]
  · rw [if_pos (by omega), if_neg e]
theorem elL_at (c : Nat → Nat) {k col r j : Nat} (hk : k ≤ 6) (hcol : col < k) (hr : r < k) (hj : j < 7) : elL c k col (7 * r + j) = gF c (pvC c k col) col (c (7 * pvC c k col + col) ^ 255 % 257) r j := by
  rw [elL, rw_at _ (by decide) (by omega) k r j hj, gF, tL_at c hj, tL_at c (show col < 7 by omega), tL_at c hj, ivL]
  by_cases e : r = col
  · rw [if_neg (by omega), if_pos e]
  · rw [if_pos (by omega), if_neg e]
theorem gF_congr {c c' : Nat → Nat} {k p col iv r j j' : Nat} (hp : p < k) (hcol : col < k) (hr : r < k) (h1 : ∀ r, r < k → c (7 * r + j) = c' (7 * r + j')) (h2 : ∀ r, r < k → c (7 * r + col) = c' (7 * r + col)) : gF c p col iv r j = gF c' p col iv r j' := by
  have g1 : ∀ r, r < k → gb c p col iv r j = gb c' p col iv r j' := fun r hr => by rw [gb, gb, h1 p hp, h1 col hcol, h1 r hr]
  have g2 : gb c p col iv r col = gb c' p col iv r col := by rw [gb, gb, h2 p hp, h2 col hcol, h2 r hr]
  rw [gF, gF, g1 r hr, g2, g1 col hcol]
theorem pv_congr {c c' : Nat → Nat} {k col : Nat} (h : ∀ r, r < k → c (7 * r + col) = c' (7 * r + col)) : pvC c k col = pvC c' k col := by
  rcases Nat.lt_or_ge col k with hc | hc
  · exact fsN_congr fun r h1 h2 => by rw [h r (by omega)]
  · rw [pvC, pvC, show k - col = 0 by omega]; rfl
def EQa (k : Nat) (c c' : Nat → Nat) : Prop := ∀ r, r < k → (∀ j, j < k → c (7 * r + j) = c' (7 * r + j)) ∧ c (7 * r + k) = c' (7 * r + 6)
theorem EQa_step {k col : Nat} {c c' : Nat → Nat} (h : EQa k c c') (hk : k ≤ 6) (hcol : col < k) (hpv : pvC c k col < k) : EQa k (elC c k col) (elL c' k col) := by
  have hc : ∀ r, r < k → c (7 * r + col) = c' (7 * r + col) := fun r hr => (h r hr).1 col hcol
  have ep := pv_congr hc
  intro r hr
  refine ⟨fun j hj => ?_, ?_⟩
  · rw [elC_at c hk hcol hr (by omega), elL_at c' hk hcol hr (by omega), ← ep, ← hc _ hpv]
    exact gF_congr hpv hcol hr (fun r hr => (h r hr).1 j hj) hc
  · rw [elC_at c hk hcol hr (Nat.le_refl _), elL_at c' hk hcol hr (by decide), ← ep, ← hc _ hpv]
    exact gF_congr hpv hcol hr (fun r hr => (h r hr).2) hc
theorem EQa_all {k : Nat} {c c' : Nat → Nat} (h : EQa k c c') (hk : k ≤ 6) (hpv : ∀ i, i < k → pvC (elI c k i) k i < k) : ∀ i, i ≤ k → EQa k (elI c k i) (slI c' k i)
  | 0, _ => h
  | i + 1, hi => EQa_step (EQa_all h hk hpv i (by omega)) hk (by omega) (hpv i (by omega))
theorem pv_both {k : Nat} {c c' : Nat → Nat} (h : EQa k c c') (hk : k ≤ 6) (hpv : ∀ i, i < k → pvC (elI c k i) k i < k) : (∀ i, i < k → pvC (slI c' k i) k i < k) ∧ ∀ x, x < k → elI c k k (7 * x + k) = slI c' k k (7 * x + 6) := by
  refine ⟨fun i hi => ?_, fun x hx => (EQa_all h hk hpv k (Nat.le_refl _) x hx).2⟩
  rw [← pv_congr fun r hr => (EQa_all h hk hpv i (by omega) r hr).1 i hi]; exact hpv i hi
/-! the rows at the beginning -/
theorem su_EQ (c c' : Nat → Nat) (b : Nat → Bool) (sv : Nat → Nat) {k : Nat} (hk : k ≤ 6) : ∀ n r, r < cntB b n → (∀ j, j < k → suC c b sv k n (7 * r + j) = suL c' b sv k n (7 * r + j)) ∧ suC c b sv k n (7 * r + k) = suL c' b sv k n (7 * r + 6)
  | 0, r, h => absurd h (Nat.not_lt_zero _)
  | n + 1, r, h => by
    rw [cntB] at h
    rw [suC, suL]
    cases hb : b n with
    | false =>
      rw [hb] at h
      rw [if_neg (by decide), if_neg (by decide)]
      exact su_EQ c c' b sv hk n r (by simpa using h)
    | true =>
      rw [hb, if_pos rfl] at h
      rw [if_pos rfl, if_pos rfl]
      by_cases e : r = cntB b n
      · subst e
        refine ⟨fun j hj => ?_, ?_⟩
        · simp only [fiC, fiL]
          rw [if_pos (by omega), if_pos (by omega), Nat.add_sub_cancel_left, fcL, if_pos hj]
        · simp only [fiC, fiL]
          rw [if_neg (by omega), if_pos trivial, if_neg (by omega), if_pos trivial]
      · have ih := su_EQ c c' b sv hk n r (by omega)
        refine ⟨fun j hj => ?_, ?_⟩
        · simp only [fiC, fiL]
          rw [if_neg (by omega), if_neg (by omega), if_neg (by omega), if_neg (by omega)]; exact ih.1 j hj
        · simp only [fiC, fiL]
          rw [if_neg (by omega), if_neg (by omega), if_neg (by omega), if_neg (by omega)]; exact ih.2
theorem su_ind (c c' : Nat → Nat) {b b' : Nat → Bool} (sv sv' : Nat → Nat) {k : Nat} (hk : k ≤ 6) (hbb : ∀ i, i < 10 → b i = b' i) : ∀ n, n ≤ 10 → ∀ r j, r < cntB b n → j < k → suC c b sv k n (7 * r + j) = suC c' b' sv' k n (7 * r + j)
  | 0, _, r, j, h, _ => absurd h (Nat.not_lt_zero _)
  | n + 1, hn, r, j, h, hj => by
    have ec : cntB b n = cntB b' n := cntB_congr fun i hi => hbb i (by omega)
    rw [cntB] at h
    rw [suC, suC, ← hbb n (by omega), ← ec]
    cases hb : b n with
    | false =>
      rw [hb] at h
      rw [if_neg (by decide), if_neg (by decide)]
      exact su_ind c c' sv sv' hk hbb n (by omega) r j (by simpa using h) hj
    | true =>
      rw [hb, if_pos rfl] at h
      rw [if_pos rfl, if_pos rfl]
      simp only [fiC]
      by_cases e : r = cntB b n
      · subst e
        rw [if_pos (by omega), if_pos (by omega)]
      · rw [if_neg (by omega), if_neg (by omega), if_neg (by omega), if_neg (by omega)]
        exact su_ind c c' sv sv' hk hbb n (by omega) r j (by omega) hj
/-! a pivot is always there: all sets are tried -/
def unp (n x : Nat) : Nat := n / 257 ^ x % 257
def pkN (f : Nat → Nat) : Nat → Nat
  | 0 => 0
  | n + 1 => pkN f n + f n * 257 ^ n
theorem pkN_lt {f : Nat → Nat} : ∀ {n}, (∀ x, x < n → f x < 257) → pkN f n < 257 ^ n
  | 0, _ => Nat.zero_lt_one
  | n + 1, h => by
    have ih := pkN_lt (n := n) fun x hx => h x (by omega)
    have h1 : f n * 257 ^ n ≤ 256 * 257 ^ n := Nat.mul_le_mul_right _ (by have := h n (by omega); omega)
    rw [pkN, Nat.pow_succ]; omega
theorem unp_pk {f : Nat → Nat} : ∀ {n}, (∀ x, x < n → f x < 257) → ∀ x, x < n → unp (pkN f n) x = f x
  | 0, _, x, hx => absurd hx (Nat.not_lt_zero _)
  | n + 1, h, x, hx => by
    have hl := pkN_lt (n := n) fun x hx => h x (by omega)
    rw [unp, pkN]
    by_cases e : x = n
    · subst e
      rw [Nat.add_mul_div_right _ _ (Nat.pow_pos (by decide)), Nat.div_eq_of_lt hl, Nat.zero_add, Nat.mod_eq_of_lt (h x (by omega))]
    · have ih := unp_pk (n := n) (fun x hx => h x (by omega)) x (by omega)
      have e1 : f n * 257 ^ n = f n * 257 ^ (n - x - 1) * 257 * 257 ^ x := by
        rw [Nat.mul_assoc, Nat.mul_assoc, ← Nat.pow_succ', ← Nat.pow_add]; congr 2; omega
      rw [e1, Nat.add_mul_div_right _ _ (Nat.pow_pos (by decide)), Nat.add_mul_mod_self_right]
      exact ih
def gX (m : Nat → Nat) (k p col iv : Nat) (x : Nat) : Nat := if x / 7 < k ∧ x % 7 < k then gF m p col iv (x / 7) (x % 7) else 0
theorem gF_lt {m : Nat → Nat} {p col iv r j : Nat} : gF m p col iv r j < 257 := by
  rw [gF]; split
  · rename_i h; rw [gb, if_pos h]; exact Nat.mod_lt _ (by decide)
  · exact Nat.mod_lt _ (by decide)
def frc (n : Nat) (K : Nat → Bool) : Bool := match n with
  | 0 => K 0
  | m + 1 => K (m + 1)
theorem frc_eq (n : Nat) (K : Nat → Bool) : frc n K = K n := by cases n <;> rfl
def chk (k : Nat) : Nat → Nat → Nat → Bool
  | 0, _, _ => true
  | d + 1, i, n => frc (pvC (unp n) k i) fun p => decide (p < k) && frc (unp n (7 * p + i) ^ 255 % 257) fun iv => frc (pkN (gX (unp n) k p i iv) 42) fun n' => chk k d (i + 1) n'
def EQp (k : Nat) (c c' : Nat → Nat) : Prop := ∀ r j, r < k → j < k → c (7 * r + j) = c' (7 * r + j)
theorem chk_run {k n0 : Nat} {T : Nat → Nat} (hk : k ≤ 6) (h : chk k k 0 n0 = true) (h0 : EQp k T (unp n0)) : ∀ i, i ≤ k → ∃ n, EQp k (elI T k i) (unp n) ∧ chk k (k - i) i n = true
  | 0, _ => ⟨n0, h0, h⟩
  | i + 1, hi => by
    obtain ⟨n, i1, i2⟩ := chk_run hk h h0 i (by omega)
    rw [show k - i = (k - (i + 1)) + 1 by omega, chk, frc_eq, frc_eq, frc_eq, Bool.and_eq_true, decide_eq_true_eq] at i2
    have ep := pv_congr (c := elI T k i) (c' := unp n) (col := i) fun r hr => i1 r i hr (by omega)
    refine ⟨_, fun r j hr hj => ?_, i2.2⟩
    rw [elI, elC_at _ hk (by omega) hr (by omega), unp_pk (fun x _ => ?_) _ (by omega), gX, if_pos (by omega), show (7 * r + j) / 7 = r by omega, show (7 * r + j) % 7 = j by omega, ep, i1 _ i i2.1 (by omega)]
    · exact gF_congr i2.1 (by omega) hr (fun r hr => i1 r j hr hj) (fun r hr => i1 r i hr (by omega))
    · rw [gX]; split
      · exact gF_lt
      · decide
theorem chk_piv {k n0 : Nat} {T : Nat → Nat} (hk : k ≤ 6) (h : chk k k 0 n0 = true) (h0 : EQp k T (unp n0)) : ∀ i, i < k → pvC (elI T k i) k i < k := by
  intro i hi
  obtain ⟨n, i1, i2⟩ := chk_run hk h h0 i (by omega)
  rw [show k - i = (k - (i + 1)) + 1 by omega, chk, frc_eq, Bool.and_eq_true, decide_eq_true_eq] at i2
  rw [pv_congr (c := elI T k i) (c' := unp n) (col := i) fun r hr => i1 r i hr (by omega)]
  exact i2.1
def mX (k s x : Nat) : Nat := if x / 7 < k ∧ x % 7 < k then suC (fun _ => 0) (fun i => s.testBit i) (fun _ => 0) k 10 x else 0
