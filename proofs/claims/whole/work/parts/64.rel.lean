/-! ===== the relation between the storage and the reference ===== -/
def dk (S : MS) (f : Nat) : Nat := cl (S 5 f)
def dm (S : MS) (f : Nat) : Nat := cl (S 6 f)
def ldN (S : MS) (p : Nat) : Nat := cntB (fun x => decide (S 9 x = nI p)) 80
def RLp (S : MS) (N : Nat → Int32) (p : Nat) : Prop := (S 0 p = nI (cl (S 0 p)) ∧ cl (S 0 p) ≤ 40) ∧ (S 1 p = 0 ∨ (S 1 p = 1 ∧ ¬ S 0 p = 0)) ∧ (S 2 p = nI (cl (S 2 p)) ∧ cl (S 2 p) ≤ 100) ∧ S 3 p = nI (ldN S p) ∧ N (4 * p) = (if S 0 p = 0 then 0 else 1) ∧ N (4 * p + 1) = S 0 p ∧ N (4 * p + 2) = S 1 p ∧ N (4 * p + 3) = S 2 p
def RLb (S : MS) (N : Nat → Int32) : Prop := (∀ k, k < 144 → N (48 + k) = S 4 k) ∧ ∀ p q, p < 12 → q < 12 → (S 0 p = 0 ∨ S 0 q = 0 ∨ p = q) → S 4 (12 * p + q) = 0
def RLc (S : MS) (N : Nat → Int32) (f : Nat) : Prop := ∃ wd : Nat → Nat, (∀ d, d < dk S f → wd d < 256 ∧ N (192 + 30 * f + (4 + d)) = nI (wd d)) ∧ ∀ i, i < dk S f + dm S f → S 8 (10 * f + i) = nI (corN wd (dk S f) i)
def RLx (S : MS) (N : Nat → Int32) (f : Nat) : Prop := N (192 + 30 * f + 0) = 1 ∧ N (192 + 30 * f + 1) = S 7 f ∧ N (192 + 30 * f + 2) = S 5 f ∧ N (192 + 30 * f + 3) = S 6 f ∧ (∃ o, o < 12 ∧ S 7 f = nI o ∧ ¬ S 0 o = 0) ∧ (∀ i, i < 10 → N (192 + 30 * f + (10 + i)) = S 9 (10 * f + i)) ∧ (∀ i, i < 10 → N (192 + 30 * f + (20 + i)) = S 10 (10 * f + i)) ∧ RLc S N f
def RLl (S : MS) (f i : Nat) : Prop := (S 9 (10 * f + i) = -1 ∧ S 10 (10 * f + i) = 0) ∨ (i < dk S f + dm S f ∧ ∃ p e, p < 12 ∧ e < 257 ∧ S 9 (10 * f + i) = nI p ∧ ¬ S 0 p = 0 ∧ S 10 (10 * f + i) = nI e)
def RLf (S : MS) (N : Nat → Int32) (f : Nat) : Prop := (S 5 f = nI (dk S f) ∧ dk S f ≤ 6 ∧ S 6 f = nI (dm S f) ∧ dm S f ≤ 4) ∧ (dk S f = 0 → dm S f = 0 ∧ S 7 f = -1 ∧ ∀ j, j < 30 → N (192 + 30 * f + j) = 0) ∧ (0 < dk S f → RLx S N f) ∧ (∀ i, i < 10 → RLl S f i) ∧ ∀ i j, i < 10 → j < 10 → S 9 (10 * f + i) = S 9 (10 * f + j) → ¬ S 9 (10 * f + i) = -1 → i = j
def RLw (S : MS) (N : Nat → Int32) : Prop := ∃ w, w ≤ 6 ∧ S 12 0 = nI w ∧ N 432 = nI w ∧ (∀ d, d < 6 → ∃ v, v < 256 ∧ S 11 d = nI v) ∧ ∀ d, d < w → N (433 + d) = S 11 d
def RR (S : MS) (N : Nat → Int32) : Prop := (∀ p, p < 12 → RLp S N p) ∧ RLb S N ∧ (∀ f, f < 8 → RLf S N f) ∧ RLw S N
/-! numbers -/
theorem nI_nm1 {a : Nat} (h : a < 2 ^ 31) : ¬ nI a = -1 := fun e => by
  have h1 := nI_pos h
  rw [e] at h1
  exact h1 (by decide)
theorem nI_n1 {a : Nat} (h : a < 2 ^ 31) : nI a = 1 ↔ a = 1 := nI_eq (b := 1) h (by decide)
theorem in12 {p : Nat} (h : p < 12) : inB (nI p) 12 = true := is_inB (nI_pos (by omega)) (nI_ge (b := 12) h (by decide))
theorem in8 {p : Nat} (h : p < 8) : inB (nI p) 8 = true := is_inB (nI_pos (by omega)) (nI_ge (b := 8) h (by decide))
theorem in10 {p : Nat} (h : p < 10) : inB (nI p) 10 = true := is_inB (nI_pos (by omega)) (nI_ge (b := 10) h (by decide))
theorem ir_t {f i : Nat} (hf : f < 8) (hi : i < 10) : irB (nI f) (nI i) = true := by rw [irB, in8 hf, in10 hi]; rfl
theorem rg_in {v c : Int32} {n : Nat} (hc : c = nI n) (hn : n + 1 < 2 ^ 31) (a : Int32) (ha : a = nI (n + 1)) : rgB v 0 c = inB v a := by
  subst hc ha
  rw [rgB, inB]
  congr 1
  rw [decide_eq_decide, Int32.lt_iff_toInt_lt, Int32.le_iff_toInt_le, nI_toInt (by omega), nI_toInt (by omega)]
  omega
theorem in12_ex {p : Int32} (h : inB p 12 = true) : ∃ a, a < 12 ∧ p = nI a := vin_ex (inB_v rfl (by decide) h)
theorem in8_ex {p : Int32} (h : inB p 8 = true) : ∃ a, a < 8 ∧ p = nI a := vin_ex (inB_v rfl (by decide) h)
theorem in10_ex {p : Int32} (h : inB p 10 = true) : ∃ a, a < 10 ∧ p = nI a := vin_ex (inB_v rfl (by decide) h)
/-! counts -/
theorem cntB_add (g : Nat → Bool) (a : Nat) : ∀ b, cntB g (a + b) = cntB g a + cntB (fun i => g (a + i)) b
  | 0 => rfl
  | b + 1 => by
    rw [show a + (b + 1) = (a + b) + 1 from rfl, cntB, cntB_add g a b, cntB]; omega
theorem cntB_z {g : Nat → Bool} : ∀ {b}, (∀ i, i < b → g i = false) → cntB g b = 0
  | 0, _ => rfl
  | b + 1, h => by rw [cntB, cntB_z (fun i hi => h i (by omega)), h b (by omega)]; rfl
theorem cntB_cut {g : Nat → Bool} {a b : Nat} (hab : a ≤ b) (h : ∀ i, a ≤ i → i < b → g i = false) : cntB g b = cntB g a := by
  have := cntB_add g a (b - a)
  rw [show a + (b - a) = b by omega, cntB_z (g := fun i => g (a + i)) (fun i hi => h (a + i) (by omega) (by omega))] at this
  exact this
theorem cnt_upd (g : Nat → Int32) (y : Nat) (v c : Int32) : ∀ n, y < n → cntB (fun x => decide (upd g y v x = c)) n + (if g y = c then 1 else 0) = cntB (fun x => decide (g x = c)) n + (if v = c then 1 else 0)
  | 0, h => absurd h (Nat.not_lt_zero _)
  | n + 1, h => by
    rw [cntB, cntB]
    by_cases e : y = n
    · subst e
      rw [cntB_congr (f' := fun x => decide (g x = c)) (fun k hk => by rw [pk_un (by omega)])]
      rw [pk_us]
      simp only [decide_eq_true_eq]
      omega
    · have ih := cnt_upd g y v c n (by omega)
      have e2 : upd g y v n = g n := pk_un (by omega)
      rw [e2]; omega
/-! what is read in both is the same -/
theorem RR.p {S : MS} {N : Nat → Int32} (h : RR S N) {p : Nat} (hp : p < 12) : RLp S N p := h.1 p hp
theorem RR.f {S : MS} {N : Nat → Int32} (h : RR S N) {f : Nat} (hf : f < 8) : RLf S N f := h.2.2.1 f hf
theorem ex_nI {S : MS} {N : Nat → Int32} (h : RR S N) {p : Nat} (hp : p < 12) : exB S (nI p) = decide (¬ S 0 p = 0) := by
  obtain ⟨⟨h0, h40⟩, -⟩ := h.p hp
  rw [exB, in12 hp, Bool.true_and, cl_nI (by omega), decide_eq_decide, h0, show (0 : Int32) = nI 0 from rfl, nI_leI (by omega) (by decide), nI_eq (by omega) (by decide)]
  omega
theorem r_pe {S : MS} {N : Nat → Int32} (h : RR S N) (p : Int32) : mPe N p = exB S p := by
  rw [mPe, rg_in (c := 11) (n := 11) rfl (by decide) 12 rfl]
  cases hi : inB p 12 with
  | false => rw [exB, hi]; rfl
  | true =>
    obtain ⟨a, ha, rfl⟩ := in12_ex hi
    rw [ex_nI h ha, Bool.true_and, cl_nI (by omega), (h.p ha).2.2.2.2.1, decide_eq_decide]
    by_cases e : S 0 a = 0
    · rw [if_pos e]; simp [e]
    · rw [if_neg e]; simp [e]
theorem r_on {S : MS} {N : Nat → Int32} (h : RR S N) {p : Nat} (hp : p < 12) : mOn N (nI p) = onB S (nI p) := by
  rw [mOn, onB, in12 hp, Bool.true_and, cl_nI (by omega), (h.p hp).2.2.2.2.2.2.1]
theorem on_ex {S : MS} {N : Nat → Int32} (h : RR S N) {p : Nat} (hp : p < 12) (ho : onB S (nI p) = true) : exB S (nI p) = true := by
  rw [ex_nI h hp]
  rw [onB, in12 hp, Bool.true_and, cl_nI (by omega), decide_eq_true_eq] at ho
  rcases (h.p hp).2.1 with e | e
  · rw [e] at ho; exact absurd ho (by decide)
  · exact decide_eq_true e.2
theorem exF_nI {S : MS} {N : Nat → Int32} (h : RR S N) {f : Nat} (hf : f < 8) : exF S (nI f) = decide (0 < dk S f) := by
  obtain ⟨⟨h5, h6, -⟩, -⟩ := h.f hf
  rw [exF, in8 hf, Bool.true_and, cl_nI (by omega), decide_eq_decide, h5, show (0 : Int32) = nI 0 from rfl, nI_leI (by omega) (by decide)]
  omega
theorem r_fi {S : MS} {N : Nat → Int32} (h : RR S N) (f : Int32) : mFi N f = exF S f := by
  rw [mFi, rg_in (c := 7) (n := 7) rfl (by decide) 8 rfl]
  cases hi : inB f 8 with
  | false => rw [exF, hi]; rfl
  | true =>
    obtain ⟨a, ha, rfl⟩ := in8_ex hi
    rw [exF_nI h ha, Bool.true_and, cl_nI (by omega), decide_eq_decide]
    rcases Nat.eq_zero_or_pos (dk S a) with e | e
    · rw [((h.f ha).2.1 e).2.2 0 (by decide), e]; decide
    · rw [((h.f ha).2.2.1 e).1]; simp [e]
theorem fn_nI {S : MS} {N : Nat → Int32} (h : RR S N) {f : Nat} (hf : f < 8) : fnI S (nI f) = nI (dk S f + dm S f) := by
  obtain ⟨⟨h5, -, h6, -⟩, -⟩ := h.f hf
  rw [fnI, in8 hf, if_pos rfl, cl_nI (by omega), h5, h6, nI_add]
theorem cl_fn {S : MS} {N : Nat → Int32} (h : RR S N) {f : Nat} (hf : f < 8) : cl (fnI S (nI f)) = dk S f + dm S f := by
  have h1 := (h.f hf).1
  rw [fn_nI h hf, cl_nI (by omega)]
theorem r_fr {S : MS} {N : Nat → Int32} (h : RR S N) {f : Nat} (hf : f < 8) : mFr N f = fnI S (nI f) := by
  rw [fn_nI h hf, mFr]
  rcases Nat.eq_zero_or_pos (dk S f) with e | e
  · have h0 := (h.f hf).2.1 e
    rw [h0.2.2 2 (by decide), h0.2.2 3 (by decide), e, h0.1]; rfl
  · have h1 := (h.f hf).2.2.1 e
    rw [h1.2.2.1, h1.2.2.2.1, (h.f hf).1.1, (h.f hf).1.2.2.1, nI_add]
theorem pl_nI (S : MS) {f i : Nat} (hf : f < 8) (hi : i < 10) : plI S (nI f) (nI i) = S 9 (10 * f + i) := by rw [plI, ir_t hf hi, if_pos rfl, cl_nI (by omega), cl_nI (by omega)]
theorem er_nI (S : MS) {f i : Nat} (hf : f < 8) (hi : i < 10) : erI S (nI f) (nI i) = S 10 (10 * f + i) := by rw [erI, ir_t hf hi, if_pos rfl, cl_nI (by omega), cl_nI (by omega)]
theorem co_nI (S : MS) {f i : Nat} (hf : f < 8) (hi : i < 10) : coI S (nI f) (nI i) = S 8 (10 * f + i) := by rw [coI, ir_t hf hi, if_pos rfl, cl_nI (by omega), cl_nI (by omega)]
theorem da_nI (S : MS) {f : Nat} (hf : f < 8) : daI S (nI f) = S 5 f := by rw [daI, in8 hf, if_pos rfl, cl_nI (by omega)]
theorem fo_nI (S : MS) {f : Nat} (hf : f < 8) : foI S (nI f) = S 7 f := by rw [foI, in8 hf, if_pos rfl, cl_nI (by omega)]
theorem r_gd {S : MS} {N : Nat → Int32} (h : RR S N) {f i : Nat} (hf : f < 8) (hi : i < 10) (hx : 0 < dk S f) : mGd N f i = gdB S (nI f) (nI i) := by
  have h1 := (h.f hf).2.2.1 hx
  rw [mGd, gdB, h1.2.2.2.2.2.1 i hi, h1.2.2.2.2.2.2.1 i hi, pl_nI S hf hi, er_nI S hf hi]
  rcases (h.f hf).2.2.2.1 i hi with e | ⟨-, p, e, hp, -, e9, -, -⟩
  · rw [e.1, e.2]; rfl
  · rw [e9, r_on h hp, decide_eq_true (nI_pos (by omega)), Bool.true_and]
theorem r_gn {S : MS} {N : Nat → Int32} (h : RR S N) {f : Nat} (hf : f < 8) (hx : 0 < dk S f) : mGn N f = gdN S (nI f) := by
  rw [mGn, gdN, r_fr h hf, cl_fn h hf]
  have h1 := (h.f hf).1
  exact congrArg nI (cntB_congr (fun i hi => r_gd h hf (by omega) hx))
theorem r_sf {S : MS} {N : Nat → Int32} (h : RR S N) {f : Nat} (hf : f < 8) (hx : 0 < dk S f) : mSf N f = sfB S (nI f) := by
  rw [mSf, sfB, exF_nI h hf, decide_eq_true hx, Bool.true_and, r_gn h hf hx, da_nI S hf, ((h.f hf).2.2.1 hx).2.2.1]
