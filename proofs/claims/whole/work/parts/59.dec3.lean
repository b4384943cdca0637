/-! ===== the decoder: its rows out of a set of fragments ===== -/
def flC (T : Nat → Nat) (r k i j : Nat) : Nat → Nat := fun x => if 7 * r ≤ x ∧ x < 7 * r + j then facN k i (x - 7 * r) else T x
def fiC (T : Nat → Nat) (r k i v : Nat) : Nat → Nat := fun x => if 7 * r ≤ x ∧ x < 7 * r + k then facN k i (x - 7 * r) else if x = 7 * r + k then v else T x
theorem flC_0 (T : Nat → Nat) (r k i : Nat) : row 42 (nf T) = row 42 (nf (flC T r k i 0)) := row_congr fun x _ => by simp only [nf, flC]; rw [if_neg (by omega)]
theorem flC_s (T : Nat → Nat) (r k i j : Nat) : row 42 (upd (nf (flC T r k i j)) (7 * r + j) (nI (facN k i j))) = row 42 (nf (flC T r k i (j + 1))) := row_congr fun x _ => by
  simp only [upd, nf, flC]
  by_cases e1 : x = 7 * r + j
  · rw [if_pos e1, if_pos (by omega), e1, Nat.add_sub_cancel_left]
  · rw [if_neg e1]
    by_cases e3 : 7 * r ≤ x ∧ x < 7 * r + j
    · rw [if_pos e3, if_pos (by omega)]
    · rw [if_neg e3, if_neg (by omega)]
theorem flC_e (T : Nat → Nat) (r k i v : Nat) : row 42 (upd (nf (flC T r k i k)) (7 * r + k) (nI v)) = row 42 (nf (fiC T r k i v)) := row_congr fun x _ => by
  simp only [upd, nf, flC, fiC]
  by_cases e1 : x = 7 * r + k
  · rw [if_pos e1, if_neg (by omega), if_pos e1]
  · simp only [if_neg e1]
def suC (c : Nat → Nat) (b : Nat → Bool) (sv : Nat → Nat) (k : Nat) : Nat → (Nat → Nat)
  | 0 => c
  | i + 1 => if b i then fiC (suC c b sv k i) (cntB b i) k i (sv i) else suC c b sv k i
theorem lt_suC {c : Nat → Nat} {b : Nat → Bool} {sv : Nat → Nat} (hc : lt257 c) (hs : ∀ i, i < 10 → sv i < 257) (k : Nat) : ∀ i, i ≤ 10 → lt257 (suC c b sv k i)
  | 0, _ => hc
  | i + 1, hi => by
    rw [suC]; split
    · intro x
      simp only [fiC]
      split
      · exact facN_lt _ _ _
      · split
        · exact hs i (by omega)
        · exact lt_suC hc hs k i (by omega) x
    · exact lt_suC hc hs k i (by omega)
def suE (b : Nat → Bool) (k : Nat) : Nat := fsN (fun i => decide (cntB b i < k)) 0 10
theorem cntB_mono (b : Nat → Bool) {i : Nat} : ∀ {j}, i ≤ j → cntB b i ≤ cntB b j := by
  intro j h
  induction j with
  | zero => rw [Nat.le_zero.mp h]; exact Nat.le_refl _
  | succ j ih =>
    by_cases e : i = j + 1
    · rw [e]; exact Nat.le_refl _
    · have := ih (by omega); rw [cntB]; omega
theorem su_end {c : Nat → Nat} {b : Nat → Bool} {sv : Nat → Nat} {k : Nat} (hk : cntB b 10 = k) : cntB b (suE b k) = k ∧ suC c b sv k (suE b k) = suC c b sv k 10 := by
  have hle : suE b k ≤ 10 := by have := (fsN_le (fun i => decide (cntB b i < k)) 10 0).2; simpa [suE] using this
  have hcn : cntB b (suE b k) = k := by
    rcases Nat.lt_or_ge (suE b k) 10 with h | h
    · have h1 := of_decide_eq_false (fsN_at (fun i => decide (cntB b i < k)) 10 0 (show suE b k < 0 + 10 by omega))
      have h2 := cntB_mono b hle
      have h3 : ¬ cntB b (suE b k) < k := h1
      omega
    · rw [show suE b k = 10 by omega]; exact hk
  refine ⟨hcn, ?_⟩
  have key : ∀ n, suE b k + n ≤ 10 → suC c b sv k (suE b k + n) = suC c b sv k (suE b k) := by
    intro n
    induction n with
    | zero => intro _; rfl
    | succ n ih =>
      intro hn
      have h1 := cntB_mono b (show suE b k ≤ suE b k + n by omega)
      have h2 := cntB_mono b (show suE b k + n + 1 ≤ 10 by omega)
      have h3 : cntB b (suE b k + n + 1) = cntB b (suE b k + n) + (if b (suE b k + n) then 1 else 0) := rfl
      have h4 : b (suE b k + n) = false := by
        cases hb : b (suE b k + n) with
        | false => rfl
        | true => rw [hb, if_pos rfl] at h3; omega
      rw [← ih (by omega), show suE b k + (n + 1) = (suE b k + n) + 1 from rfl, suC, if_neg (by rw [h4]; decide)]
  have := key (10 - suE b k) (by omega)
  rw [show suE b k + (10 - suE b k) = 10 by omega] at this
  exact this.symm
theorem mn6 {n : Nat} (h : n ≤ 6) : (if (6 : Int32) < nI n then 6 else nI n) = nI n := if_neg (nI_nlt (a := 6) h (by decide))

set_option maxRecDepth 100000 in
set_option maxHeartbeats 4000000 in
theorem lqX1_setUp (l : Launch) (g : XG) (S : MS) (T : Nat → Nat) (f k i0 r : Nat) (s : Int32) (Q0 : Option Value → XW → Prop) (hi0 : i0 < 10) (hk : k ≤ 6) (hr : r < 6) (hk2 : XA l g MX1_setUp Q0 89 ([some (.ref 0), some (.ref 2), some (.int (nI f)), some (.int s), some (.int (nI k)), some (.int (nI (i0))), some (.int (nI r * 7)), some (.int (nI k))]) [] ([.inr (.inr (1, [.ref 1, .int (nI r)])), .inl (row 42 (nf (flC T r k i0 k))), .inr (.inr (2, [.ref 3, .ref 4, .ref 5, .ref 6, .ref 7, .ref 8])), .inl (row 8 (S 5)), .inl (row 8 (S 6)), .inl (row 8 (S 7)), .inl (row 80 (S 8)), .inl (row 80 (S 9)), .inl (row 80 (S 10))]) 0 0) : XA l g MX1_setUp Q0 57 ((fun i => [some (.ref 0), some (.ref 2), some (.int (nI f)), some (.int s), some (.int (nI k)), some (.int (nI (i0))), some (.int (nI r * 7)), some (.int (nI i))]) 0) ((fun _ => []) 0) ((fun i => [.inr (.inr (1, [.ref 1, .int (nI r)])), .inl (row 42 (nf (flC T r k i0 i))), .inr (.inr (2, [.ref 3, .ref 4, .ref 5, .ref 6, .ref 7, .ref 8])), .inl (row 8 (S 5)), .inl (row 8 (S 6)), .inl (row 8 (S 7)), .inl (row 80 (S 8)), .inl (row 80 (S 9)), .inl (row 80 (S 10))]) 0) 0 0 := by
  refine x_for k (fun _ => True) (fun i => [some (.ref 0), some (.ref 2), some (.int (nI f)), some (.int s), some (.int (nI k)), some (.int (nI (i0))), some (.int (nI r * 7)), some (.int (nI i))]) (fun _ => []) (fun i => [.inr (.inr (1, [.ref 1, .int (nI r)])), .inl (row 42 (nf (flC T r k i0 i))), .inr (.inr (2, [.ref 3, .ref 4, .ref 5, .ref 6, .ref 7, .ref 8])), .inl (row 8 (S 5)), .inl (row 8 (S 6)), .inl (row 8 (S 7)), .inl (row 80 (S 8)), .inl (row 80 (S 9)), .inl (row 80 (S 10))]) trivial (fun i hi hp ih => ?_) (fun hp => ?_)
  · refine x_iload dX1_setUp_57 rfl ?_
    refine x_iload dX1_setUp_59 rfl ?_
    refine x_icmp_ge_f (tgt := 89) dX1_setUp_61 (by decide) (nI_ge hi (by omega)) ?_
    refine x_aload_n dX1_setUp_64 rfl ?_
    refine x_getf dX1_setUp_65 flX1_11 rfl rfl ?_
    refine x_iload dX1_setUp_68 rfl ?_
    refine x_iload dX1_setUp_70 rfl ?_
    refine x_iadd dX1_setUp_72 ?_
    refine x_iload dX1_setUp_73 rfl ?_
    refine x_iload dX1_setUp_75 rfl ?_
    refine x_iload dX1_setUp_77 rfl ?_
    refine x_callp [] (x_iS dX1_setUp_79 mlX1_39 lbX1_factor rfl) (kX1_factor l g i0 i k hi0 (by omega) hk) (by decide) rfl rfl (by decide) (by decide) (by simp [Value.category]) rfl rfl (by decide +kernel) ?_
    refine x_iaw dX1_setUp_82 rfl (ix7 (by omega)) ?_
    first | refine x_iinc dX1_setUp_83 (by decide) rfl (nI_inc _) ?_ | refine x_iinc dX1_setUp_83 (by decide) rfl (inc_1 _) ?_
    refine x_goto (tgt := 57) dX1_setUp_86 (by decide) ?_
    refine x_eq (ih trivial) rfl rfl ?_
    exact congrArg (fun zz => [(Sum.inr (Sum.inr (1, [.ref 1, .int (nI r)])) : XC), Sum.inl zz, (Sum.inr (Sum.inr (2, [.ref 3, .ref 4, .ref 5, .ref 6, .ref 7, .ref 8])) : XC), Sum.inl (row 8 (S 5)), Sum.inl (row 8 (S 6)), Sum.inl (row 8 (S 7)), Sum.inl (row 80 (S 8)), Sum.inl (row 80 (S 9)), Sum.inl (row 80 (S 10))]) (flC_s T r k i0 i)
  · refine x_iload dX1_setUp_57 rfl ?_
    refine x_iload dX1_setUp_59 rfl ?_
    refine x_icmp_ge_t (tgt := 89) dX1_setUp_61 (by decide) (nI_le (Nat.le_refl _) (by omega)) ?_
    exact hk2

set_option maxRecDepth 100000 in
set_option maxHeartbeats 4000000 in
theorem lpX1_setUp (l : Launch) (g : XG) (S : MS) (c : Nat → Nat) (f k : Nat) (s : Int32) (sv : Nat → Nat) (hf : f < 8) (hk : k ≤ 6) (hbc : bcI s = nI k) (hcn : cntB (bitB s) 10 = k) (hsv : ∀ i, i < 10 → bitB s i = true → svI S (nI f) (nI i) = nI (sv i)) : XA l g MX1_setUp (Qv (fun w1 => w1 = [.inr (.inr (1, [.ref 1, .int (nI k)])), .inl (row 42 (nf (suC c (bitB s) sv k (10)))), .inr (.inr (2, [.ref 3, .ref 4, .ref 5, .ref 6, .ref 7, .ref 8])), .inl (row 8 (S 5)), .inl (row 8 (S 6)), .inl (row 8 (S 7)), .inl (row 80 (S 8)), .inl (row 80 (S 9)), .inl (row 80 (S 10))])) 19 ([some (.ref 0), some (.ref 2), some (.int (nI f)), some (.int s), some (.int (nI k)), some (.int (nI (0))), none, none]) [] ([.inr (.inr (1, [.ref 1, .int (nI 0)])), .inl (row 42 (nf c)), .inr (.inr (2, [.ref 3, .ref 4, .ref 5, .ref 6, .ref 7, .ref 8])), .inl (row 8 (S 5)), .inl (row 8 (S 6)), .inl (row 8 (S 7)), .inl (row 80 (S 8)), .inl (row 80 (S 9)), .inl (row 80 (S 10))]) 0 0 := by
  refine x_for (suE (bitB s) k) (fun _ => True) (fun i => [some (.ref 0), some (.ref 2), some (.int (nI f)), some (.int s), some (.int (nI k)), some (.int (nI (i))), none, none]) (fun _ => []) (fun i => [.inr (.inr (1, [.ref 1, .int (nI (cntB (bitB s) (i)))])), .inl (row 42 (nf (suC c (bitB s) sv k (i)))), .inr (.inr (2, [.ref 3, .ref 4, .ref 5, .ref 6, .ref 7, .ref 8])), .inl (row 8 (S 5)), .inl (row 8 (S 6)), .inl (row 8 (S 7)), .inl (row 80 (S 8)), .inl (row 80 (S 9)), .inl (row 80 (S 10))]) trivial (fun i hi hp ih => ?_) (fun hp => ?_)
  · have hle : suE (bitB s) k ≤ 10 := by have := (fsN_le (fun i => decide (cntB (bitB s) i < k)) 10 0).2; simpa [suE] using this
    have hi10 : i < 10 := by omega
    have hlt : cntB (bitB s) i < k := of_decide_eq_true (fsN_lt (fun i => decide (cntB (bitB s) i < k)) 10 0 i (Nat.zero_le _) hi)
    refine x_iload dX1_setUp_19 rfl ?_
    refine x_bipush (v := 10) dX1_setUp_21 (by decide) ?_
    refine x_icmp_ge_f (tgt := 122) dX1_setUp_23 (by decide) (nI_nle_of rfl (by decide) hi10) ?_
    refine x_aload_n dX1_setUp_26 rfl ?_
    refine x_getf dX1_setUp_27 flX1_19 rfl rfl ?_
    refine x_iload dX1_setUp_30 rfl ?_
    refine x_icmp_ge_f (tgt := 122) dX1_setUp_32 (by decide) (nI_ge hlt (by omega)) ?_
    refine x_iload_n dX1_setUp_35 rfl ?_
    refine x_iload dX1_setUp_36 rfl ?_
    refine x_ishr dX1_setUp_38 ?_
    refine x_iconst (v := 1) dX1_setUp_39 (by decide) ?_
    refine x_iand dX1_setUp_40 ?_
    refine x_iconst (v := 1) dX1_setUp_41 (by decide) ?_
    refine x_icmp_ne (tgt := 116) dX1_setUp_42 (by decide) (fun c_42 => ?_) (fun c_42 => ?_)
    · first | refine x_iinc dX1_setUp_116 (by decide) rfl (nI_inc _) ?_ | refine x_iinc dX1_setUp_116 (by decide) rfl (inc_1 _) ?_
      refine x_goto (tgt := 19) dX1_setUp_119 (by decide) ?_
      have hb : bitB s i = false := decide_eq_false c_42
      refine x_eq (x_le (lv' := [some (.ref 0), some (.ref 2), some (.int (nI f)), some (.int s), some (.int (nI k)), some (.int (nI (i + 1))), none, none]) (ih trivial) (lv := [some (.ref 0), some (.ref 2), some (.int (nI f)), some (.int s), some (.int (nI k)), some (.int (nI (i + 1))), none, none]) (by simp [lvle])) rfl rfl ?_
      rw [show cntB (bitB s) (i + 1) = cntB (bitB s) (i) from cntB_f (f := bitB s) (n := i) hb, show suC c (bitB s) sv k (i + 1) = suC c (bitB s) sv k (i) by rw [suC, if_neg (by rw [hb]; decide)]] <;> rfl
    · refine x_aload_n dX1_setUp_45 rfl ?_
      refine x_getf dX1_setUp_46 flX1_19 rfl rfl ?_
      refine x_bipush (v := 7) dX1_setUp_49 (by decide) ?_
      refine x_imul dX1_setUp_51 ?_
      refine x_istore dX1_setUp_52 (by decide) ?_
      refine x_iconst (v := 0) dX1_setUp_54 (by decide) ?_
      refine x_istore dX1_setUp_55 (by decide) ?_
      have hb : bitB s i = true := decide_eq_true c_42
      have hct : cntB (bitB s) (i + 1) = cntB (bitB s) (i) + 1 := cntB_t (f := bitB s) (n := i) hb
      have hsu : suC c (bitB s) sv k (i + 1) = fiC (suC c (bitB s) sv k (i)) (cntB (bitB s) (i)) k i (sv i) := by rw [suC, if_pos hb]
      refine x_eq (lv' := [some (.ref 0), some (.ref 2), some (.int (nI f)), some (.int s), some (.int (nI k)), some (.int (nI (i))), some (.int (nI (cntB (bitB s) (i)) * 7)), some (.int (nI 0))]) (st' := []) (w' := [.inr (.inr (1, [.ref 1, .int (nI (cntB (bitB s) (i)))])), .inl (row 42 (nf (flC (suC c (bitB s) sv k (i)) (cntB (bitB s) (i)) k i 0))), .inr (.inr (2, [.ref 3, .ref 4, .ref 5, .ref 6, .ref 7, .ref 8])), .inl (row 8 (S 5)), .inl (row 8 (S 6)), .inl (row 8 (S 7)), .inl (row 80 (S 8)), .inl (row 80 (S 9)), .inl (row 80 (S 10))]) ?_ rfl rfl (by exact congrArg (fun zz => [(Sum.inr (Sum.inr (1, [.ref 1, .int (nI (cntB (bitB s) (i)))])) : XC), Sum.inl zz, (Sum.inr (Sum.inr (2, [.ref 3, .ref 4, .ref 5, .ref 6, .ref 7, .ref 8])) : XC), Sum.inl (row 8 (S 5)), Sum.inl (row 8 (S 6)), Sum.inl (row 8 (S 7)), Sum.inl (row 80 (S 8)), Sum.inl (row 80 (S 9)), Sum.inl (row 80 (S 10))]) (flC_0 (suC c (bitB s) sv k (i)) (cntB (bitB s) (i)) k i))
      refine lqX1_setUp l g S (suC c (bitB s) sv k (i)) f k i (cntB (bitB s) (i)) s _ hi10 hk (by omega) ?_
      refine x_aload_n dX1_setUp_89 rfl ?_
      refine x_getf dX1_setUp_90 flX1_11 rfl rfl ?_
      refine x_iload dX1_setUp_93 rfl ?_
      refine x_iload dX1_setUp_95 rfl ?_
      refine x_iadd dX1_setUp_97 ?_
      refine x_aload_n dX1_setUp_98 rfl ?_
      refine x_iload_n dX1_setUp_99 rfl ?_
      refine x_iload dX1_setUp_100 rfl ?_
      refine x_callp [2, 3, 4, 5, 6, 7, 8] (x_iV dX1_setUp_102 mlX1_43 lbX2_storedValue rfl rfl rfl rfl) (kX2_storedValue l g _ _ _) (by decide) rfl rfl (by decide) (by decide) (by simp [Value.category]) rfl rfl (by decide +kernel) ?_
      rw [hsv i hi10 hb]
      refine x_iaw dX1_setUp_105 rfl (ix7 (by omega)) ?_
      refine x_aload_n dX1_setUp_106 rfl ?_
      refine x_dup dX1_setUp_107 rfl ?_
      refine x_getf dX1_setUp_108 flX1_19 rfl rfl ?_
      refine x_iconst (v := 1) dX1_setUp_111 (by decide) ?_
      refine x_iadd dX1_setUp_112 ?_
      rw [nI_1]
      refine x_puti dX1_setUp_113 flX1_19 xfi_1_1 rfl (Nat.le_of_ble_eq_true rfl) ?_
      first | refine x_iinc dX1_setUp_116 (by decide) rfl (nI_inc _) ?_ | refine x_iinc dX1_setUp_116 (by decide) rfl (inc_1 _) ?_
      refine x_goto (tgt := 19) dX1_setUp_119 (by decide) ?_
      refine x_eq (x_le (lv' := [some (.ref 0), some (.ref 2), some (.int (nI f)), some (.int s), some (.int (nI k)), some (.int (nI (i + 1))), none, none]) (ih trivial) (lv := [some (.ref 0), some (.ref 2), some (.int (nI f)), some (.int s), some (.int (nI k)), some (.int (nI (i + 1))), some (.int (nI (cntB (bitB s) (i)) * 7)), some (.int (nI k))]) (by simp [lvle])) rfl rfl ?_
      rw [hct, hsu]
      exact congrArg (fun zz => [(Sum.inr (Sum.inr (1, [.ref 1, .int (nI (cntB (bitB s) (i) + 1))])) : XC), Sum.inl zz, (Sum.inr (Sum.inr (2, [.ref 3, .ref 4, .ref 5, .ref 6, .ref 7, .ref 8])) : XC), Sum.inl (row 8 (S 5)), Sum.inl (row 8 (S 6)), Sum.inl (row 8 (S 7)), Sum.inl (row 80 (S 8)), Sum.inl (row 80 (S 9)), Sum.inl (row 80 (S 10))]) (flC_e (suC c (bitB s) sv k (i)) (cntB (bitB s) (i)) k i (sv i))
  · rcases Nat.lt_or_ge (suE (bitB s) k) 10 with hx | hx
    · refine x_iload dX1_setUp_19 rfl ?_
      refine x_bipush (v := 10) dX1_setUp_21 (by decide) ?_
      refine x_icmp_ge_f (tgt := 122) dX1_setUp_23 (by decide) (nI_nle_of rfl (by decide) hx) ?_
      refine x_aload_n dX1_setUp_26 rfl ?_
      refine x_getf dX1_setUp_27 flX1_19 rfl rfl ?_
      refine x_iload dX1_setUp_30 rfl ?_
      refine x_icmp_ge_t (tgt := 122) dX1_setUp_32 (by decide) (nI_le (by rw [(su_end (c := c) (sv := sv) hcn).1]; exact Nat.le_refl _) (by rw [(su_end (c := c) (sv := sv) hcn).1]; omega)) ?_
      exact x_retv dX1_setUp_122 rfl rfl rfl (⟨rfl, by rw [(su_end (c := c) (sv := sv) hcn).1, (su_end (c := c) (sv := sv) hcn).2]⟩)
    · refine x_iload dX1_setUp_19 rfl ?_
      refine x_bipush (v := 10) dX1_setUp_21 (by decide) ?_
      refine x_icmp_ge_t (tgt := 122) dX1_setUp_23 (by decide) (nI_le_of rfl (by have := (fsN_le (fun i => decide (cntB (bitB s) i < k)) 10 0).2; have h9 : suE (bitB s) k ≤ 0 + 10 := this; omega) hx) ?_
      exact x_retv dX1_setUp_122 rfl rfl rfl (⟨rfl, by rw [(su_end (c := c) (sv := sv) hcn).1, (su_end (c := c) (sv := sv) hcn).2]⟩)

set_option maxRecDepth 100000 in
set_option maxHeartbeats 4000000 in
theorem kX1_setUp (l : Launch) (g : XG) (S : MS) (c : Nat → Nat) (f k : Nat) (s : Int32) (sv : Nat → Nat) (z : Int32) (hf : f < 8) (hk : k ≤ 6) (hbc : bcI s = nI k) (hcn : cntB (bitB s) 10 = k) (hsv : ∀ i, i < 10 → bitB s i = true → svI S (nI f) (nI i) = nI (sv i)) : Ct l g MX1_setUp [.ref 0, .ref 2, .int (nI f), .int s] ([.inr (.inr (1, [.ref 1, .int (z)])), .inl (row 42 (nf c)), .inr (.inr (2, [.ref 3, .ref 4, .ref 5, .ref 6, .ref 7, .ref 8])), .inl (row 8 (S 5)), .inl (row 8 (S 6)), .inl (row 8 (S 7)), .inl (row 80 (S 8)), .inl (row 80 (S 9)), .inl (row 80 (S 10))]) (Qv (fun w1 => w1 = [.inr (.inr (1, [.ref 1, .int (nI k)])), .inl (row 42 (nf (suC c (bitB s) sv k (10)))), .inr (.inr (2, [.ref 3, .ref 4, .ref 5, .ref 6, .ref 7, .ref 8])), .inl (row 8 (S 5)), .inl (row 8 (S 6)), .inl (row 8 (S 7)), .inl (row 80 (S 8)), .inl (row 80 (S 9)), .inl (row 80 (S 10))])) := by
  refine Ct_of (by decide) (by simp [Value.category]) (Nat.le_of_ble_eq_true rfl) ?_
  refine x_iload_n dX1_setUp_0 rfl ?_
  refine x_callp [] (x_iS dX1_setUp_1 mlX1_27 lbJ6_bitCount_0f7a4 rfl) (kJ6_bitCount_0f7a4 l g _) (by decide) rfl rfl (by decide) (by decide) (by simp [Value.category]) rfl rfl (by decide +kernel) ?_
  refine x_bipush (v := 6) dX1_setUp_4 (by decide) ?_
  refine x_min dX1_setUp_6 mlX1_33 w_min1 w_math w_min3 (by decide) (by decide) (by decide) (by simp [Value.category]) ?_
  rw [hbc, mn6 hk]
  refine x_istore dX1_setUp_9 (by decide) ?_
  refine x_aload_n dX1_setUp_11 rfl ?_
  refine x_iconst (v := 0) dX1_setUp_12 (by decide) ?_
  refine x_puti dX1_setUp_13 flX1_19 xfi_1_1 rfl (Nat.le_of_ble_eq_true rfl) ?_
  refine x_iconst (v := 0) dX1_setUp_16 (by decide) ?_
  refine x_istore dX1_setUp_17 (by decide) ?_
  exact lpX1_setUp l g S c f k s sv hf hk hbc hcn hsv
