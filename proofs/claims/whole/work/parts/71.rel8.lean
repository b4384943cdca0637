/-! ===== audits: one polynomial, summed up in two ways ===== -/
theorem sumN_shift (g : Nat → Nat) : ∀ k, sumN g (k + 1) = g 0 + sumN (fun j => g (j + 1)) k
  | 0 => by rw [sumN, sumN, sumN]; omega
  | k + 1 => by rw [sumN, sumN_shift g k, sumN]; omega
theorem sumN_mul (g : Nat → Nat) (s : Nat) : ∀ k, sumN (fun j => g j * s) k = sumN g k * s
  | 0 => by rw [sumN, sumN, Nat.zero_mul]
  | k + 1 => by rw [sumN, sumN, sumN_mul g s k, Nat.add_mul]
theorem hr_mod (ev : Nat → Nat) (s n : Nat) : ∀ k, k ≤ n → hrN ev s n k = sumN (fun j => ev (n - k + j) * s ^ j) k % 257
  | 0, _ => rfl
  | k + 1, hk => by
    rw [hrN, hr_mod ev s n k (by omega), sumN_shift, Nat.add_mod, Nat.mul_mod, Nat.mod_mod, ← Nat.mul_mod, ← Nat.add_mod, Nat.add_comm, ← sumN_mul]
    rw [show n - (k + 1) + 0 = n - 1 - k by omega, Nat.pow_zero, Nat.mul_one]
    rw [sumN_congr (f := fun j => ev (n - (k + 1) + (j + 1)) * s ^ (j + 1)) (f' := fun j => ev (n - k + j) * s ^ j * s) (fun j hj => by rw [Nat.pow_succ, Nat.mul_assoc, show n - (k + 1) + (j + 1) = n - k + j by omega])]
theorem hr_all (ev : Nat → Nat) (s n : Nat) : hrN ev s n n = sumN (fun j => ev j * s ^ j) n % 257 := by
  rw [hr_mod ev s n n (Nat.le_refl _)]
  rw [sumN_congr (f' := fun j => ev j * s ^ j) (fun j _ => by rw [Nat.sub_self, Nat.zero_add])]
theorem ofS_skip {N : Nat → Int32} {a p : Int32} {s k0 : Nat} : ∀ {n}, (∀ j, j < n → ofC N a p (k0 + j) = false) → ofS N a p s (k0 + n) = ofS N a p s k0
  | 0, _ => rfl
  | n + 1, h => by
    rw [show k0 + (n + 1) = (k0 + n) + 1 from rfl, ofS, if_neg (by rw [h n (by omega)]; decide)]
    exact ofS_skip fun j hj => h j (by omega)
theorem ofC_eq {S : MS} {N : Nat → Int32} (h : RR S N) (a : Int32) {f j q : Nat} (hf : f < 8) (hj : j < 10) (hq : q < 12) : ofC N a (nI q) (10 * f + j) = (decide (0 < dk S f) && decide (foI S (nI f) = a) && decide (S 9 (10 * f + j) = nI q)) := by
  have h1 := (h.f hf).1
  rw [ofC, show (10 * f + j) / 10 = f by omega, show (10 * f + j) % 10 = j by omega, r_fi h, exF_nI h hf, r_fr h hf, fn_nI h hf, fo_nI S hf]
  rcases Nat.eq_zero_or_pos (dk S f) with e | hx
  · rw [e]; simp
  · rw [((h.f hf).2.2.1 hx).2.1, ((h.f hf).2.2.1 hx).2.2.2.2.2.1 j hj]
    by_cases e9 : S 9 (10 * f + j) = nI q
    · have hlt : j < dk S f + dm S f := by
        rcases (h.f hf).2.2.2.1 j hj with e3 | ⟨hlt, -⟩
        · rw [e9] at e3; exact absurd e3.1 (nI_nm1 (by omega))
        · exact hlt
      rw [decide_eq_true (nI_ge hlt (by omega)), Bool.and_true]
    · rw [decide_eq_false e9, Bool.and_false, Bool.and_false]
theorem of_ch {S : MS} {N : Nat → Int32} (h : RR S N) (a : Int32) {q : Nat} (hq : q < 12) (s : Nat) : ∀ f, f ≤ 8 → (ofS N a (nI q) s (10 * f)).2 = (chE S a (nI q) (fun _ => 0) f).2 ∧ (ofS N a (nI q) s (10 * f)).1 = sumN (fun j => cl ((chE S a (nI q) (fun _ => 0) f).1 j) * s ^ j) (chE S a (nI q) (fun _ => 0) f).2 % 257
  | 0, _ => ⟨rfl, rfl⟩
  | f + 1, hf => by
    obtain ⟨i1, i2⟩ := of_ch h a hq s f (by omega)
    have hf8 : f < 8 := by omega
    have hno : (¬ (0 < dk S f ∧ foI S (nI f) = a) ∨ fonI S (nI f) (nI q) = -1) → chE S a (nI q) (fun _ => 0) (f + 1) = chE S a (nI q) (fun _ => 0) f ∧ ofS N a (nI q) s (10 * f + 10) = ofS N a (nI q) s (10 * f) := by
      intro hc
      have hall : ∀ i, i < 10 → (decide (0 < dk S f) && decide (foI S (nI f) = a) && decide (S 9 (10 * f + i) = nI q)) = false := by
        intro i hi
        rcases hc with z | z
        · by_cases z1 : 0 < dk S f
          · rw [decide_eq_false (fun z2 => z ⟨z1, z2⟩)]; simp
          · rw [decide_eq_false z1]; rfl
        · rcases fon_cases S hf8 hq with ⟨-, hn⟩ | ⟨i0, hi0, e0, -⟩
          · rw [decide_eq_false (hn i hi), Bool.and_false]
          · rw [e0] at z; exact absurd z (nI_nm1 (by omega))
      refine ⟨?_, ofS_skip fun j hj => by rw [ofC_eq h a hf8 hj hq]; exact hall j hj⟩
      rw [chE]
      rcases hc with z | z
      · by_cases z1 : foI S (nI f) = a
        · have z2 : dk S f = 0 := by rcases Nat.eq_zero_or_pos (dk S f) with e | e; exact e; exact absurd ⟨e, z1⟩ z
          have z3 : fonI S (nI f) (nI q) = -1 := by
            rcases fon_cases S hf8 hq with ⟨e, -⟩ | ⟨i0, hi0, e0, h9⟩
            · exact e
            · rcases (h.f hf8).2.2.2.1 i0 hi0 with e3 | ⟨hlt, -⟩
              · rw [h9] at e3; exact absurd e3.1 (nI_nm1 (by omega))
              · have := ((h.f hf8).2.1 z2).1; omega
          rw [decide_eq_true z3]; rfl
        · rw [decide_eq_false z1, Bool.and_false]; rfl
      · rw [decide_eq_true z]; rfl
    rw [show 10 * (f + 1) = 10 * f + 10 from rfl]
    by_cases hc : (0 < dk S f ∧ foI S (nI f) = a) ∧ ¬ fonI S (nI f) (nI q) = -1
    · obtain ⟨⟨hx, hoa⟩, hfo⟩ := hc
      rcases fon_cases S hf8 hq with ⟨e, -⟩ | ⟨i, hi, ef, h9⟩
      · exact absurd e hfo
      have hch : chE S a (nI q) (fun _ => 0) (f + 1) = (upd (chE S a (nI q) (fun _ => 0) f).1 (chE S a (nI q) (fun _ => 0) f).2 (S 10 (10 * f + i)), (chE S a (nI q) (fun _ => 0) f).2 + 1) := by
        rw [chE, decide_eq_false hfo, decide_eq_true hoa, ef, er_nI S hf8 hi]; rfl
      have s1 : ofS N a (nI q) s (10 * f + i) = ofS N a (nI q) s (10 * f) := ofS_skip fun j hj => by
        have hz : ¬ S 9 (10 * f + j) = nI q := fun z => by
          have := (h.f hf8).2.2.2.2 j i (by omega) hi (by rw [z, h9]) (by rw [z]; exact nI_nm1 (by omega))
          omega
        rw [ofC_eq h a hf8 (by omega) hq, decide_eq_false hz, Bool.and_false]
      have s2 : ofS N a (nI q) s (10 * f + i + 1) = (((ofS N a (nI q) s (10 * f)).1 + cl (S 10 (10 * f + i)) * (s ^ (ofS N a (nI q) s (10 * f)).2 % 257)) % 257, (ofS N a (nI q) s (10 * f)).2 + 1) := by
        rw [ofS, if_pos (by rw [ofC_eq h a hf8 hi hq, decide_eq_true hx, decide_eq_true hoa, decide_eq_true h9]; rfl), s1, show (10 * f + i) / 10 = f by omega, show (10 * f + i) % 10 = i by omega, ((h.f hf8).2.2.1 hx).2.2.2.2.2.2.1 i hi]
      have s3 : ofS N a (nI q) s (10 * f + i + 1 + (9 - i)) = ofS N a (nI q) s (10 * f + i + 1) := ofS_skip fun j hj => by
        have hz : ¬ S 9 (10 * f + (i + 1 + j)) = nI q := fun z => by
          have := (h.f hf8).2.2.2.2 (i + 1 + j) i (by omega) hi (by rw [z, h9]) (by rw [z]; exact nI_nm1 (by omega))
          omega
        rw [show 10 * f + i + 1 + j = 10 * f + (i + 1 + j) by omega, ofC_eq h a hf8 (by omega) hq, decide_eq_false hz, Bool.and_false]
      rw [show 10 * f + 10 = 10 * f + i + 1 + (9 - i) by omega, s3, s2, hch]
      refine ⟨by rw [i1], ?_⟩
      show ((ofS N a (nI q) s (10 * f)).1 + cl (S 10 (10 * f + i)) * (s ^ (ofS N a (nI q) s (10 * f)).2 % 257)) % 257 = sumN (fun j => cl (upd (chE S a (nI q) (fun _ => 0) f).1 (chE S a (nI q) (fun _ => 0) f).2 (S 10 (10 * f + i)) j) * s ^ j) ((chE S a (nI q) (fun _ => 0) f).2 + 1) % 257
      rw [sumN, sumN_congr (f' := fun j => cl ((chE S a (nI q) (fun _ => 0) f).1 j) * s ^ j) (fun j hj => by rw [pk_un (by omega)]), pk_us, i1, i2]
      rw [Nat.add_mod, Nat.mod_mod, Nat.mul_mod, Nat.mod_mod, ← Nat.mul_mod, ← Nat.add_mod]
    · have hc' : ¬ (0 < dk S f ∧ foI S (nI f) = a) ∨ fonI S (nI f) (nI q) = -1 := by
        by_cases z : 0 < dk S f ∧ foI S (nI f) = a
        · exact Or.inr (Decidable.of_not_not fun z2 => hc ⟨z, z2⟩)
        · exact Or.inl z
      obtain ⟨e1, e2⟩ := hno hc'
      rw [e1, e2]; exact ⟨i1, i2⟩
/-- what an audit sees, in both -/
theorem r_of {S : MS} {N : Nat → Int32} (h : RR S N) (a : Int32) {q : Nat} (hq : q < 12) (s : Nat) : ∃ v, v < 257 ∧ ofV N a (nI q) s = (if chN S a (nI q) = 0 then -1 else nI v) ∧ psB S a (nI q) s = decide (v = 0) ∧ (chN S a (nI q) = 0 → v = 0) := by
  obtain ⟨e1, e2⟩ := of_ch h a hq s 8 (Nat.le_refl _)
  refine ⟨(ofS N a (nI q) s 80).1, (ofS_le N a (nI q) s 80).1, ?_, ?_, ?_⟩
  · rw [ofV, show (ofS N a (nI q) s 80).2 = chN S a (nI q) from e1]
  · rw [psB, hr_all, show (ofS N a (nI q) s 80).1 = _ from e2]; rfl
  · intro z
    rw [show (ofS N a (nI q) s 80).1 = _ from e2, show (chE S a (nI q) (fun _ => 0) 8).2 = 0 from z]; rfl
theorem q_ps {S : MS} {N : Nat → Int32} (h : RR S N) (a p : Int32) : vPSm N a p = vPS S a p := by
  rw [vPSm, vPS, r_two h]
  cases ht : twoB S a p with
  | false => rw [if_neg (by decide), if_neg (by decide)]
  | true =>
    obtain ⟨x, y, hx, hy, -, rfl, rfl⟩ := two_ex ht
    rw [if_pos rfl, if_pos rfl]
    refine congrArg nI (cntB_congr fun s _ => ?_)
    obtain ⟨v, hv, e1, e2, e3⟩ := r_of h (nI x) hy s
    rw [e1, e2, decide_eq_decide]
    by_cases c : chN S (nI x) (nI y) = 0
    · rw [if_pos c, e3 c]; decide
    · rw [if_neg c, show (0 : Int32) = nI 0 from rfl, nI_ltI (by decide) (by omega)]; omega
