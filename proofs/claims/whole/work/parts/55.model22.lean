/-! ===== the reference: the set of peers is a small number; who may go ===== -/
theorem or_bit : ∀ p, p < 12 → ∀ a, a < 64 → ∀ b, b < 64 → 64 * a + b < 2 ^ p → nI (64 * a + b) ||| (1 <<< (nI p &&& 31)) = nI (64 * a + b + 2 ^ p) := by decide +kernel
theorem mPs_lt (N : Nat → Int32) : ∀ p, p ≤ 12 → ∃ M, M < 2 ^ p ∧ mPs N p = nI M
  | 0, _ => ⟨0, by decide, rfl⟩
  | p + 1, hp => by
    obtain ⟨M, hM, e⟩ := mPs_lt N p (by omega)
    have h12 : 2 ^ p ≤ 2 ^ 11 := Nat.pow_le_pow_right (by decide) (by omega)
    rw [mPs, e]
    by_cases h : mPe N (nI p) = true
    · rw [if_pos h]
      have h1 := or_bit p (by omega) (M / 64) (by omega) (M % 64) (by omega) (by omega)
      rw [show 64 * (M / 64) + M % 64 = M by omega] at h1
      exact ⟨M + 2 ^ p, by rw [Nat.pow_succ]; omega, h1⟩
    · rw [if_neg h, Int32.or_zero]
      exact ⟨M, by rw [Nat.pow_succ]; omega, rfl⟩
def cgC (N : Nat → Int32) (p : Nat) : Bool := mPe N (nI p) && !decide (0 < mOw N (nI p)) && mOn N (nI p)
def cgB (N : Nat → Int32) (p : Nat) : Bool := cgC N p && decide (nI (mLc N (nI p) 80) = 0)
def mlO (N : Nat → Int32) : Option Nat := fstT (cgB N) 0 12
def mlS (N : Nat → Int32) : Nat → Int32 := match mlO N with
  | some p => mLvN N p
  | none => N
def mlP (N : Nat → Int32) : Nat → (Nat → Int32)
  | 0 => N
  | k + 1 => mlS (mlP N k)

set_option maxRecDepth 100000 in
set_option maxHeartbeats 4000000 in
theorem kX7_canGo (l : Launch) (g : XG) (N A Z B : Nat → Int32) (u : Int32) (L : Nat → Int32) (p : Nat) (hp2 : p < 12) (hM : MOkA N) : Ct l g MX7_canGo [.ref 0, .int (nI p)] (wM N A Z B u L) (Qi (fun v w1 => ∃ Z2, v = b2i (cgB N p) ∧ w1 = wM (cond (cgB N p) (mLvN N p) N) A Z2 B u L)) := by
  refine Ct_of (by decide) (by simp [Value.category]) (Nat.le_of_ble_eq_true rfl) ?_
  refine x_aload_n dX7_canGo_0 rfl ?_
  refine x_iload_n dX7_canGo_1 rfl ?_
  refine x_callp [0, 1, 2, 3, 4, 5] (x_iV dX7_canGo_2 mlX7_67 lbX7_isPeer rfl rfl rfl rfl) (kX7_isPeer l g _ _ _ _ _ _ _) (by decide) rfl rfl (by decide) (by decide) (by simp [Value.category]) rfl rfl (by decide +kernel) ?_
  refine x_if_eq (tgt := 24) dX7_canGo_5 (by decide) (fun c_5 => ?_) (fun c_5 => ?_)
  · refine x_iconst (v := 0) dX7_canGo_24 (by decide) ?_
    exact x_retz dX7_canGo_25 rfl (rfl) rfl rfl (⟨_, rfl, Z, by (try simp only [b2i_eq0, b2i_ne0] at *); rw [show cgB N p = false by simp [cgB, cgC, *]]; exact ⟨rfl, rfl⟩⟩)
  · refine x_aload_n dX7_canGo_8 rfl ?_
    refine x_iload_n dX7_canGo_9 rfl ?_
    refine x_callp [0, 1, 2, 3, 4, 5] (x_iV dX7_canGo_10 mlX7_90 lbX7_owned rfl rfl rfl rfl) (kX7_owned l g _ _ _ _ _ _ _) (by decide) rfl rfl (by decide) (by decide) (by simp [Value.category]) rfl rfl (by decide +kernel) ?_
    refine x_if_gt (tgt := 24) dX7_canGo_13 (by decide) (fun c_13 => ?_) (fun c_13 => ?_)
    · refine x_iconst (v := 0) dX7_canGo_24 (by decide) ?_
      exact x_retz dX7_canGo_25 rfl (rfl) rfl rfl (⟨_, rfl, Z, by (try simp only [b2i_eq0, b2i_ne0] at *); rw [show cgB N p = false by simp [cgB, cgC, *]]; exact ⟨rfl, rfl⟩⟩)
    · refine x_aload_n dX7_canGo_16 rfl ?_
      refine x_iload_n dX7_canGo_17 rfl ?_
      refine x_callp [0, 1, 2, 3, 4, 5] (x_iV dX7_canGo_18 mlX7_51 lbX7_isOnline rfl rfl rfl rfl) (kX7_isOnline l g _ _ _ _ _ _ _ (vin_nI (by decide) hp2)) (by decide) rfl rfl (by decide) (by decide) (by simp [Value.category]) rfl rfl (by decide +kernel) ?_
      refine x_if_ne (tgt := 26) dX7_canGo_21 (by decide) (fun c_21 => ?_) (fun c_21 => ?_)
      · refine x_aload_n dX7_canGo_26 rfl ?_
        refine x_getf dX7_canGo_27 flX7_7 rfl rfl ?_
        refine x_aload_n dX7_canGo_30 rfl ?_
        refine x_getf dX7_canGo_31 flX7_16 rfl rfl ?_
        refine x_callv [1, 3] (x_iS dX7_canGo_34 mlX7_143 lbX7_puts rfl) (kX7_puts l g N Z) (by decide) (by decide) (by decide) (by simp [Value.category]) rfl rfl (by decide +kernel) (fun w1 h1 => ?_)
        obtain rfl := h1
        refine x_eq (w' := wM (N) A (N) B u L) ?_ rfl rfl rfl
        refine x_aload_n dX7_canGo_37 rfl ?_
        refine x_iload_n dX7_canGo_38 rfl ?_
        refine x_calli [0, 1, 2, 3, 4, 5] (x_iV dX7_canGo_39 mlX7_93 lbX7_leaves rfl rfl rfl rfl) (kX7_leaves l g _ _ _ _ _ _ p hp2 hM) (by decide) rfl rfl (by decide) (by decide) (by simp [Value.category]) rfl rfl (by decide +kernel) (fun v1 w1 h1 => ?_)
        obtain ⟨rfl, rfl⟩ := h1
        refine x_eq (w' := wM (mLvN N p) A (N) B u L) ?_ rfl rfl rfl
        refine x_if_ne (tgt := 47) dX7_canGo_42 (by decide) (fun c_42 => ?_) (fun c_42 => ?_)
        · refine x_aload_n dX7_canGo_47 rfl ?_
          refine x_getf dX7_canGo_48 flX7_16 rfl rfl ?_
          refine x_aload_n dX7_canGo_51 rfl ?_
          refine x_getf dX7_canGo_52 flX7_7 rfl rfl ?_
          refine x_callv [3, 1] (x_iS dX7_canGo_55 mlX7_143 lbX7_puts rfl) (kX7_puts l g N (mLvN N p)) (by decide) (by decide) (by decide) (by simp [Value.category]) rfl rfl (by decide +kernel) (fun w1 h1 => ?_)
          obtain rfl := h1
          refine x_eq (w' := wM (N) A (N) B u L) ?_ rfl rfl rfl
          refine x_iconst (v := 0) dX7_canGo_58 (by decide) ?_
          exact x_retz dX7_canGo_59 rfl (rfl) rfl rfl (⟨_, rfl, N, by (try simp only [b2i_eq0, b2i_ne0] at *); rw [show cgB N p = false by simp [cgB, cgC, *]]; exact ⟨rfl, rfl⟩⟩)
        · refine x_iconst (v := 1) dX7_canGo_45 (by decide) ?_
          exact x_retz dX7_canGo_46 rfl (rfl) rfl rfl (⟨_, rfl, N, by (try simp only [b2i_eq0, b2i_ne0] at *); rw [show cgB N p = true by simp [cgB, cgC, *]]; exact ⟨rfl, rfl⟩⟩)
      · refine x_iconst (v := 0) dX7_canGo_24 (by decide) ?_
        exact x_retz dX7_canGo_25 rfl (rfl) rfl rfl (⟨_, rfl, Z, by (try simp only [b2i_eq0, b2i_ne0] at *); rw [show cgB N p = false by simp [cgB, cgC, *]]; exact ⟨rfl, rfl⟩⟩)

set_option maxRecDepth 100000 in
set_option maxHeartbeats 4000000 in
theorem lqX7_leavers (l : Launch) (g : XG) (T A B : Nat → Int32) (u : Int32) (L : Nat → Int32) (n : Int32) (Q0 : Option Value → XW → Prop) (hM : MOkA T) (hs : ∀ Z2, (mlO T).isSome = true → XA l g MX7_leavers Q0 45 [some (.ref 0), some (.int (n)), some (.int 1), none] [] (wM (mlS T) A Z2 B u L) 0 0) (hn : ∀ Z2, mlO T = none → XA l g MX7_leavers Q0 45 [some (.ref 0), some (.int (n)), some (.int 0), none] [] (wM T A Z2 B u L) 0 0) (Z : Nat → Int32) : XA l g MX7_leavers Q0 23 [some (.ref 0), some (.int (n)), some (.int 0), some (.int (nI 0))] [] (wM T A Z B u L) 0 0 := by
  refine x_forI 12 (fun i lv st w => ∃ Z2, lv = [some (.ref 0), some (.int (n)), some (.int 0), some (.int (nI i))] ∧ st = [] ∧ w = wM T A Z2 B u L ∧ mlO T = fstT (cgB T) i (12 - i)) ?_ ?_ _ _ _ ⟨Z, rfl, rfl, rfl, rfl⟩
  · rintro i lv st w hi ⟨Z2, rfl, rfl, rfl, hp⟩ ih
    have e1 : 12 - i = (12 - (i + 1)) + 1 := by omega
    refine x_iload_n dX7_leavers_23 rfl ?_
    refine x_bipush (v := 12) dX7_leavers_24 (by decide) ?_
    refine x_icmp_ge_f (tgt := 45) dX7_leavers_26 (by decide) (nI_nle_of rfl (by decide) hi) ?_
    refine x_iload_n dX7_leavers_29 rfl ?_
    refine x_if_ne_f (tgt := 45) dX7_leavers_30 (by decide) (rfl) ?_
    refine x_aload_n dX7_leavers_33 rfl ?_
    refine x_iload_n dX7_leavers_34 rfl ?_
    refine x_calli [0, 1, 2, 3, 4, 5] (x_iV dX7_leavers_35 mlX7_147 lbX7_canGo rfl rfl rfl rfl) (kX7_canGo l g _ _ _ _ _ _ i hi hM) (by decide) rfl rfl (by decide) (by decide) (by simp [Value.category]) rfl rfl (by decide +kernel) (fun v1 w1 h1 => ?_)
    obtain ⟨Z3, rfl, rfl⟩ := h1
    refine x_eq (w' := wM (cond (cgB T i) (mLvN T i) T) A Z3 B u L) ?_ rfl rfl rfl
    refine x_istore_n dX7_leavers_38 (by decide) ?_
    first | refine x_iinc dX7_leavers_39 (by decide) rfl (nI_inc _) ?_ | refine x_iinc dX7_leavers_39 (by decide) rfl (inc_1 _) ?_
    refine x_goto (tgt := 23) dX7_leavers_42 (by decide) ?_
    cases hc : cgB T i with
    | false =>
      refine ih _ _ _ ⟨Z3, rfl, rfl, rfl, by rw [hp, e1]; exact fstT_go hc⟩
    | true =>
      have hO : mlO T = some i := by rw [hp, e1]; exact fstT_at hc
      have hS : mlS T = mLvN T i := by simp [mlS, hO]
      refine x_eq (lv' := [some (.ref 0), some (.int (n)), some (.int 1), some (.int (nI (i + 1)))]) (st' := []) (w' := wM (mLvN T i) A Z3 B u L) ?_ rfl rfl rfl
      rw [← hS]
      refine x_iload_n dX7_leavers_23 rfl ?_
      refine x_bipush (v := 12) dX7_leavers_24 (by decide) ?_
      refine x_icmp_ge (tgt := 45) dX7_leavers_26 (by decide) (fun c_26 => ?_) (fun c_26 => ?_)
      · exact x_le (hs Z3 (by rw [hO]; rfl)) (by simp [lvle])
      · refine x_iload_n dX7_leavers_29 rfl ?_
        refine x_if_ne_t (tgt := 45) dX7_leavers_30 (by decide) (by decide) ?_
        exact x_le (hs Z3 (by rw [hO]; rfl)) (by simp [lvle])
  · rintro lv st w ⟨Z2, rfl, rfl, rfl, hp⟩
    refine x_iload_n dX7_leavers_23 rfl ?_
    refine x_bipush (v := 12) dX7_leavers_24 (by decide) ?_
    refine x_icmp_ge_t (tgt := 45) dX7_leavers_26 (by decide) (nI_le_of rfl (by decide) (Nat.le_refl _)) ?_
    exact x_le (hn Z2 hp) (by simp [lvle])

set_option maxRecDepth 100000 in
set_option maxHeartbeats 4000000 in
theorem kX7_leavers (l : Launch) (g : XG) (N A Z B : Nat → Int32) (u : Int32) (L : Nat → Int32) (K : Nat) (hgo : ∀ j, j < K → (mlO (mlP N j)).isSome = true) (hend : mlO (mlP N K) = none) (hM : ∀ j, j ≤ K → MOkA (mlP N j)) : Ct l g MX7_leavers [.ref 0] (wM N A Z B u L) (Qi (fun v w1 => ∃ Z2, v = nI K ∧ w1 = wM N N Z2 B u L)) := by
  refine Ct_of (by decide) (by simp [Value.category]) (Nat.le_of_ble_eq_true rfl) ?_
  refine x_aload_n dX7_leavers_0 rfl ?_
  refine x_getf dX7_leavers_1 flX7_7 rfl rfl ?_
  refine x_aload_n dX7_leavers_4 rfl ?_
  refine x_getf dX7_leavers_5 flX7_13 rfl rfl ?_
  refine x_callv [1, 2] (x_iS dX7_leavers_8 mlX7_143 lbX7_puts rfl) (kX7_puts l g N A) (by decide) (by decide) (by decide) (by simp [Value.category]) rfl rfl (by decide +kernel) (fun w1 h1 => ?_)
  obtain rfl := h1
  refine x_eq (w' := wM N N Z B u L) ?_ rfl rfl rfl
  refine x_iconst (v := 0) dX7_leavers_11 (by decide) ?_
  refine x_istore_n dX7_leavers_12 (by decide) ?_
  refine x_iconst (v := 1) dX7_leavers_13 (by decide) ?_
  refine x_istore_n dX7_leavers_14 (by decide) ?_
  refine x_le (lv' := [some (.ref 0), some (.int (nI 0)), some (.int 1), none]) ?_ (by simp [lvle, nI])
  refine x_forI K (fun i lv st w => ∃ Z2, lv = [some (.ref 0), some (.int (nI i)), some (.int 1), none] ∧ st = [] ∧ w = wM (mlP N i) N Z2 B u L) ?_ ?_ _ _ _ ⟨Z, rfl, rfl, rfl⟩
  · rintro i lv st w hi ⟨Z2, rfl, rfl, rfl⟩ ih
    refine x_iload_n dX7_leavers_15 rfl ?_
    refine x_if_eq_f (tgt := 60) dX7_leavers_16 (by decide) (by decide) ?_
    refine x_iconst (v := 0) dX7_leavers_19 (by decide) ?_
    refine x_istore_n dX7_leavers_20 (by decide) ?_
    refine x_iconst (v := 0) dX7_leavers_21 (by decide) ?_
    refine x_istore_n dX7_leavers_22 (by decide) ?_
    refine x_eq (lv' := [some (.ref 0), some (.int (nI i)), some (.int 0), some (.int (nI 0))]) ?_ rfl rfl rfl
    refine lqX7_leavers l g (mlP N i) N B u L (nI i) _ (hM i (by omega)) (fun Z3 hO => ?_) (fun Z3 hO => ?_) Z2
    · refine x_iload_n dX7_leavers_45 rfl ?_
      refine x_iload_n dX7_leavers_46 rfl ?_
      refine x_if_eq_f (tgt := 54) dX7_leavers_47 (by decide) (by decide) ?_
      refine x_iconst (v := 1) dX7_leavers_50 (by decide) ?_
      refine x_goto (tgt := 55) dX7_leavers_51 (by decide) ?_
      refine x_iadd dX7_leavers_55 ?_
      rw [nI_1]
      refine x_istore_n dX7_leavers_56 (by decide) ?_
      refine x_goto (tgt := 15) dX7_leavers_57 (by decide) ?_
      exact ih _ _ _ ⟨Z3, rfl, rfl, rfl⟩
    · have := hgo i hi; rw [hO] at this; exact absurd this (by decide)
  · rintro lv st w ⟨Z2, rfl, rfl, rfl⟩
    refine x_iload_n dX7_leavers_15 rfl ?_
    refine x_if_eq_f (tgt := 60) dX7_leavers_16 (by decide) (by decide) ?_
    refine x_iconst (v := 0) dX7_leavers_19 (by decide) ?_
    refine x_istore_n dX7_leavers_20 (by decide) ?_
    refine x_iconst (v := 0) dX7_leavers_21 (by decide) ?_
    refine x_istore_n dX7_leavers_22 (by decide) ?_
    refine x_eq (lv' := [some (.ref 0), some (.int (nI K)), some (.int 0), some (.int (nI 0))]) ?_ rfl rfl rfl
    refine lqX7_leavers l g (mlP N K) N B u L (nI K) _ (hM K (by omega)) (fun Z3 hO => ?_) (fun Z3 hO => ?_) Z2
    · rw [hend] at hO; exact absurd hO (by decide)
    · refine x_iload_n dX7_leavers_45 rfl ?_
      refine x_iload_n dX7_leavers_46 rfl ?_
      refine x_if_eq_t (tgt := 54) dX7_leavers_47 (by decide) rfl ?_
      refine x_iconst (v := 0) dX7_leavers_54 (by decide) ?_
      refine x_iadd dX7_leavers_55 ?_
      rw [Int32.add_zero]
      refine x_istore_n dX7_leavers_56 (by decide) ?_
      refine x_goto (tgt := 15) dX7_leavers_57 (by decide) ?_
      refine x_iload_n dX7_leavers_15 rfl ?_
      refine x_if_eq_t (tgt := 60) dX7_leavers_16 (by decide) rfl ?_
      refine x_aload_n dX7_leavers_60 rfl ?_
      refine x_getf dX7_leavers_61 flX7_13 rfl rfl ?_
      refine x_aload_n dX7_leavers_64 rfl ?_
      refine x_getf dX7_leavers_65 flX7_7 rfl rfl ?_
      refine x_callv [2, 1] (x_iS dX7_leavers_68 mlX7_143 lbX7_puts rfl) (kX7_puts l g N (mlP N K)) (by decide) (by decide) (by decide) (by simp [Value.category]) rfl rfl (by decide +kernel) (fun w1 h1 => ?_)
      obtain rfl := h1
      refine x_eq (w' := wM N N Z3 B u L) ?_ rfl rfl rfl
      refine x_iload_n dX7_leavers_71 rfl ?_
      exact x_reti dX7_leavers_72 rfl rfl rfl (⟨_, rfl, Z3, rfl, rfl⟩)
