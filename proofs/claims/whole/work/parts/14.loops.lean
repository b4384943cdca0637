theorem nI_inc (i : Nat) : nI i + Int32.ofInt 1 = nI (i + 1) := nI_1 i
theorem inc_1 (x : Int32) : x + Int32.ofInt 1 = x + 1 := rfl
theorem nI_dec (i : Nat) : nI (i + 1) + Int32.ofInt (-1) = nI i := pk_m1 i
def lvle : List (Option Value) → List (Option Value) → Prop
  | [], _ => True
  | none :: a, _ :: b => lvle a b
  | some v :: a, o :: b => o = some v ∧ lvle a b
  | _ :: _, [] => False
theorem lvle_get : ∀ (a b : List (Option Value)), lvle a b → ∀ (k : Nat) (v : Value), a[k]? = some (some v) → b[k]? = some (some v)
  | [], _, _, k, v, h => by simp at h
  | none :: a, _ :: b, hl, k, v, h => by
    cases k with
    | zero => simp at h
    | succ k => simpa using lvle_get a b hl k v (by simpa using h)
  | some u :: a, o :: b, hl, k, v, h => by
    cases k with
    | zero => simp at h; subst h; simpa using hl.1
    | succ k => simpa using lvle_get a b hl.2 k v (by simpa using h)
  | none :: _, [], hl, _, _, _ => hl.elim
  | some _ :: _, [], hl, _, _, _ => hl.elim
section XLOOP
variable {l : Launch} {g : XG} {M : XM} {Q : Option Value → XW → Prop} {pc : Nat} {lv : List (Option Value)} {st : List Value} {w : XW} {kc ks : Nat}
theorem x_eq {lv' : List (Option Value)} {st' : List Value} {w' : XW} (h : XA l g M Q pc lv' st' w' kc ks) (h1 : lv = lv') (h2 : st = st') (h3 : w = w') : XA l g M Q pc lv st w kc ks := by
  subst h1; subst h2; subst h3; exact h
/-- to another list of locals, of which less is said -/
theorem x_le {lv' : List (Option Value)} (h : XA l g M Q pc lv' st w kc ks) (hl : lvle lv' lv) : XA l g M Q pc lv st w kc ks := x_drop (lvle_get lv' lv hl) h
theorem x_alr {a n : Nat} {f : Nat → Int32} (hd : decode M.2.1 pc = .ok (.arraylength, 1)) (hw : w[a]? = some (.inl (row n f))) (h : XA l g M Q (pc + 1) lv (.int (nI n) :: st) w kc ks) : XA l g M Q pc lv (.ref a :: st) w kc ks := x_alen hd hw (by rw [row_len]; rfl) h
/-- a loop that counts up to N -/
theorem x_for (N : Nat) (P : Nat → Prop) (lF : Nat → List (Option Value)) (sF : Nat → List Value) (wF : Nat → XW) (h0 : P 0) (hs : ∀ i, i < N → P i → (P (i + 1) → XA l g M Q pc (lF (i + 1)) (sF (i + 1)) (wF (i + 1)) kc ks) → XA l g M Q pc (lF i) (sF i) (wF i) kc ks) (he : P N → XA l g M Q pc (lF N) (sF N) (wF N) kc ks) : XA l g M Q pc (lF 0) (sF 0) (wF 0) kc ks := by
  have key : ∀ n i, i ≤ N → N - i = n → P i → XA l g M Q pc (lF i) (sF i) (wF i) kc ks := by
    intro n
    induction n with
    | zero =>
      intro i h1 h2 hp
      have : i = N := by omega
      subst this
      exact he hp
    | succ n ih =>
      intro i h1 h2 hp
      exact hs i (by omega) hp (fun hp' => ih (i + 1) (by omega) (by omega) hp')
  exact key N 0 (Nat.zero_le _) rfl h0
end XLOOP
/-! counts and sums -/
def cntB (f : Nat → Bool) : Nat → Nat
  | 0 => 0
  | n + 1 => cntB f n + (if f n then 1 else 0)
theorem cntB_le (f : Nat → Bool) : ∀ n, cntB f n ≤ n
  | 0 => Nat.le_refl _
  | n + 1 => by
    have := cntB_le f n
    simp only [cntB]
    split <;> omega
theorem cntB_t {f : Nat → Bool} {n : Nat} (h : f n = true) : cntB f (n + 1) = cntB f n + 1 := by simp [cntB, h]
theorem cntB_f {f : Nat → Bool} {n : Nat} (h : f n = false) : cntB f (n + 1) = cntB f n := by simp [cntB, h]
theorem cntB_congr {f f' : Nat → Bool} : ∀ {n : Nat}, (∀ k, k < n → f k = f' k) → cntB f n = cntB f' n
  | 0, _ => rfl
  | n + 1, h => by simp only [cntB]; rw [cntB_congr (fun k hk => h k (by omega)), h n (by omega)]
def sumI (f : Nat → Int32) : Nat → Int32
  | 0 => 0
  | n + 1 => sumI f n + f n
theorem sumI_congr {f f' : Nat → Int32} : ∀ {n : Nat}, (∀ k, k < n → f k = f' k) → sumI f n = sumI f' n
  | 0, _ => rfl
  | n + 1, h => by simp only [sumI]; rw [sumI_congr (fun k hk => h k (by omega)), h n (by omega)]
/-- the first place below N where f is false, else -1 -/
def fstF (f : Nat → Bool) : Nat → Nat → Int32
  | _, 0 => -1
  | i, n + 1 => if f i then fstF f (i + 1) n else nI i
theorem fstF_at {f : Nat → Bool} {i n : Nat} (h : f i = false) : fstF f i (n + 1) = nI i := by simp [fstF, h]
theorem fstF_go {f : Nat → Bool} {i n : Nat} (h : f i = true) : fstF f i (n + 1) = fstF f (i + 1) n := by simp [fstF, h]
theorem nI_lt_iff {a b : Nat} {c : Int32} (hc : c = nI b) (ha : a < 2 ^ 31) (hb : b < 2 ^ 31) : c ≤ nI a ↔ b ≤ a := by subst hc; exact nI_leI hb ha
theorem nI_nle_of {a b : Nat} {c : Int32} (hc : c = nI b) (hb : b < 2 ^ 31) (h : a < b) : ¬ c ≤ nI a := by subst hc; exact nI_ge h hb
theorem nI_le_of {a b : Nat} {c : Int32} (hc : c = nI b) (ha : a < 2 ^ 31) (h : b ≤ a) : c ≤ nI a := by subst hc; exact nI_le h ha
theorem b2i_f' {b : Bool} (h : b2i b = 0) : b = false := (b2i_eq0 b).mp h
theorem b2i_t' {b : Bool} (h : ¬ b2i b = 0) : b = true := (b2i_ne0 b).mp h
