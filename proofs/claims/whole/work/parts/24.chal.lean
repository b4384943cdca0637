/-! ===== what an audit sees ===== -/
def chE (S : MS) (a p : Int32) (E0 : Nat → Int32) : Nat → (Nat → Int32) × Nat
  | 0 => (E0, 0)
  | i + 1 => if !decide (fonI S (nI i) p = -1) && decide (foI S (nI i) = a) then (upd (chE S a p E0 i).1 (chE S a p E0 i).2 (erI S (nI i) (fonI S (nI i) p)), (chE S a p E0 i).2 + 1) else chE S a p E0 i
theorem chE_le (S : MS) (a p : Int32) (E0 : Nat → Int32) : ∀ i, (chE S a p E0 i).2 ≤ i
  | 0 => Nat.le_refl _
  | i + 1 => by
    have := chE_le S a p E0 i
    rw [chE]
    split
    · exact Nat.succ_le_succ this
    · omega
def hrN (ev : Nat → Nat) (s n : Nat) : Nat → Nat
  | 0 => 0
  | k + 1 => (hrN ev s n k * s + ev (n - 1 - k)) % 257
theorem hrN_lt (ev : Nat → Nat) (s n : Nat) : ∀ k, hrN ev s n k < 257
  | 0 => (show 0 < 257 by decide)
  | k + 1 => Nat.mod_lt _ (by decide)
theorem at_1 {n i : Nat} (h : i < n) : nI (n - i) - 1 = nI (n - 1 - i) := by
  rw [show n - i = (n - 1 - i) + 1 by omega]; exact nI_pred _
theorem at_2 {n i : Nat} (h : i < n) : nI (n - 1 - i) + Int32.ofInt (-1) = nI (n - (i + 1)) - 1 := by
  rw [show n - (i + 1) = n - 1 - i by omega, Int32.sub_eq_add_neg]; rfl
theorem min8 {n : Nat} (h : n ≤ 8) : (if (8 : Int32) < nI n then 8 else nI n) = nI n := if_neg (nI_nlt (a := 8) h (by decide))
theorem nI_is0 {n : Nat} (h : n < 2 ^ 31) : nI n = 0 ↔ n = 0 := nI_eq h (by decide)

set_option maxRecDepth 100000 in
set_option maxHeartbeats 4000000 in
theorem kX0_append (l : Launch) (g : XG) (n : Nat) (hn : n < 8) (E : Nat → Int32) (e : Int32) : Ct l g MX0_append [.ref 0, .int e] ([.inr (.inr (0, [.ref 1, .int (nI n)])), .inl (row 8 (E))]) (Qv (fun w1 => w1 = [.inr (.inr (0, [.ref 1, .int (nI (n + 1))])), .inl (row 8 (upd E n e))])) := by
  refine Ct_of (by decide) (by simp [Value.category]) (Nat.le_of_ble_eq_true rfl) ?_
  refine x_aload_n dX0_append_0 rfl ?_
  refine x_getf dX0_append_1 flX0_15 rfl rfl ?_
  refine x_if_lt_f (tgt := 36) dX0_append_4 (by decide) (nI_pos (by omega)) ?_
  refine x_aload_n dX0_append_7 rfl ?_
  refine x_getf dX0_append_8 flX0_15 rfl rfl ?_
  refine x_bipush (v := 8) dX0_append_11 (by decide) ?_
  refine x_icmp_ge_f (tgt := 36) dX0_append_13 (by decide) (nI_ge hn (by decide)) ?_
  refine x_aload_n dX0_append_16 rfl ?_
  refine x_getf dX0_append_17 flX0_9 rfl rfl ?_
  refine x_aload_n dX0_append_20 rfl ?_
  refine x_getf dX0_append_21 flX0_15 rfl rfl ?_
  refine x_iload_n dX0_append_24 rfl ?_
  refine x_iaw dX0_append_25 rfl (ix_nI hn (by decide)) ?_
  refine x_aload_n dX0_append_26 rfl ?_
  refine x_dup dX0_append_27 rfl ?_
  refine x_getf dX0_append_28 flX0_15 rfl rfl ?_
  refine x_iconst (v := 1) dX0_append_31 (by decide) ?_
  refine x_iadd dX0_append_32 ?_
  rw [nI_1]
  refine x_puti dX0_append_33 flX0_15 xfi_0_1 rfl (Nat.le_of_ble_eq_true rfl) ?_
  exact x_retv dX0_append_36 rfl rfl rfl (⟨rfl, rfl⟩)

set_option maxRecDepth 100000 in
set_option maxHeartbeats 4000000 in
theorem lpX0_lookAt (l : Launch) (g : XG) (S : MS) (a p : Int32) (E : Nat → Int32)  : XA l g MX0_lookAt (Qv (fun w1 => w1 = [.inr (.inr (0, [.ref 1, .int (nI (chE S a p E 8).2)])), .inl (row 8 ((chE S a p E 8).1)), .inr (.inr (2, [.ref 3, .ref 4, .ref 5, .ref 6, .ref 7, .ref 8])), .inl (row 8 (S 5)), .inl (row 8 (S 6)), .inl (row 8 (S 7)), .inl (row 80 (S 8)), .inl (row 80 (S 9)), .inl (row 80 (S 10))])) 8 ((fun i => [some (.ref 0), some (.ref 2), some (.int a), some (.int p), some (.int (nI i)), none]) 0) ((fun _ => []) 0) ((fun i => [.inr (.inr (0, [.ref 1, .int (nI (chE S a p E i).2)])), .inl (row 8 ((chE S a p E i).1)), .inr (.inr (2, [.ref 3, .ref 4, .ref 5, .ref 6, .ref 7, .ref 8])), .inl (row 8 (S 5)), .inl (row 8 (S 6)), .inl (row 8 (S 7)), .inl (row 80 (S 8)), .inl (row 80 (S 9)), .inl (row 80 (S 10))]) 0) 0 0 := by
  refine x_for 8 (fun _ => True) (fun i => [some (.ref 0), some (.ref 2), some (.int a), some (.int p), some (.int (nI i)), none]) (fun _ => []) (fun i => [.inr (.inr (0, [.ref 1, .int (nI (chE S a p E i).2)])), .inl (row 8 ((chE S a p E i).1)), .inr (.inr (2, [.ref 3, .ref 4, .ref 5, .ref 6, .ref 7, .ref 8])), .inl (row 8 (S 5)), .inl (row 8 (S 6)), .inl (row 8 (S 7)), .inl (row 80 (S 8)), .inl (row 80 (S 9)), .inl (row 80 (S 10))]) trivial (fun i hi hp ih => ?_) (fun hp => ?_)
  · refine x_iload dX0_lookAt_8 rfl ?_
    refine x_bipush (v := 8) dX0_lookAt_10 (by decide) ?_
    refine x_icmp_ge_f (tgt := 58) dX0_lookAt_12 (by decide) (nI_nle_of rfl (by decide) hi) ?_
    refine x_aload_n dX0_lookAt_15 rfl ?_
    refine x_iload dX0_lookAt_16 rfl ?_
    refine x_iload_n dX0_lookAt_18 rfl ?_
    refine x_callp [2, 3, 4, 5, 6, 7, 8] (x_iV dX0_lookAt_19 mlX0_19 lbX2_fragmentOn rfl rfl rfl rfl) (kX2_fragmentOn l g _ _ _) (by decide) rfl rfl (by decide) (by decide) (by simp [Value.category]) rfl rfl (by decide +kernel) ?_
    refine x_istore dX0_lookAt_22 (by decide) ?_
    refine x_iload dX0_lookAt_24 rfl ?_
    refine x_iconst (v := -1) dX0_lookAt_26 (by decide) ?_
    refine x_icmp_eq (tgt := 52) dX0_lookAt_27 (by decide) (fun c_27 => ?_) (fun c_27 => ?_)
    · first | refine x_iinc dX0_lookAt_52 (by decide) rfl (nI_inc _) ?_ | refine x_iinc dX0_lookAt_52 (by decide) rfl (inc_1 _) ?_
      refine x_goto (tgt := 8) dX0_lookAt_55 (by decide) ?_
      have e : chE S a p E (i + 1) = _ := chE.eq_2 S a p E i
      simp [*] at e
      refine x_le (lv' := [some (.ref 0), some (.ref 2), some (.int a), some (.int p), some (.int (nI (i + 1))), none]) (x_eq (ih trivial) rfl rfl ?_) (by simp [lvle])
      rw [e] <;> rfl
    · refine x_aload_n dX0_lookAt_30 rfl ?_
      refine x_iload dX0_lookAt_31 rfl ?_
      refine x_callp [2, 3, 4, 5, 6, 7, 8] (x_iV dX0_lookAt_33 mlX0_25 lbX2_ownerOf rfl rfl rfl rfl) (kX2_ownerOf l g _ _) (by decide) rfl rfl (by decide) (by decide) (by simp [Value.category]) rfl rfl (by decide +kernel) ?_
      refine x_iload_n dX0_lookAt_36 rfl ?_
      refine x_icmp_ne (tgt := 52) dX0_lookAt_37 (by decide) (fun c_37 => ?_) (fun c_37 => ?_)
      · first | refine x_iinc dX0_lookAt_52 (by decide) rfl (nI_inc _) ?_ | refine x_iinc dX0_lookAt_52 (by decide) rfl (inc_1 _) ?_
        refine x_goto (tgt := 8) dX0_lookAt_55 (by decide) ?_
        have e : chE S a p E (i + 1) = _ := chE.eq_2 S a p E i
        simp [*] at e
        refine x_le (lv' := [some (.ref 0), some (.ref 2), some (.int a), some (.int p), some (.int (nI (i + 1))), none]) (x_eq (ih trivial) rfl rfl ?_) (by simp [lvle])
        rw [e] <;> rfl
      · refine x_aload_n dX0_lookAt_40 rfl ?_
        refine x_aload_n dX0_lookAt_41 rfl ?_
        refine x_iload dX0_lookAt_42 rfl ?_
        refine x_iload dX0_lookAt_44 rfl ?_
        refine x_callp [2, 3, 4, 5, 6, 7, 8] (x_iV dX0_lookAt_46 mlX0_29 lbX2_errorOf rfl rfl rfl rfl) (kX2_errorOf l g _ _ _) (by decide) rfl rfl (by decide) (by decide) (by simp [Value.category]) rfl rfl (by decide +kernel) ?_
        refine x_callv [0, 1] (x_iV dX0_lookAt_49 mlX0_32 lbX0_append rfl rfl rfl rfl) (kX0_append l g (chE S a p E i).2 (by have := chE_le S a p E i; omega) _ _) (by decide) (by decide) (by decide) (by simp [Value.category]) rfl rfl (by decide +kernel) (fun w1 h1 => ?_)
        obtain rfl := h1
        first | refine x_iinc dX0_lookAt_52 (by decide) rfl (nI_inc _) ?_ | refine x_iinc dX0_lookAt_52 (by decide) rfl (inc_1 _) ?_
        refine x_goto (tgt := 8) dX0_lookAt_55 (by decide) ?_
        have e : chE S a p E (i + 1) = _ := chE.eq_2 S a p E i
        simp [*] at e
        refine x_le (lv' := [some (.ref 0), some (.ref 2), some (.int a), some (.int p), some (.int (nI (i + 1))), none]) (x_eq (ih trivial) rfl rfl ?_) (by simp [lvle])
        rw [e] <;> rfl
  · refine x_iload dX0_lookAt_8 rfl ?_
    refine x_bipush (v := 8) dX0_lookAt_10 (by decide) ?_
    refine x_icmp_ge_t (tgt := 58) dX0_lookAt_12 (by decide) (nI_le_of rfl (by decide) (Nat.le_refl _)) ?_
    exact x_retv dX0_lookAt_58 rfl rfl rfl (⟨rfl, rfl⟩)

set_option maxRecDepth 100000 in
set_option maxHeartbeats 4000000 in
theorem kX0_lookAt (l : Launch) (g : XG) (S : MS) (a p n0 : Int32) (E : Nat → Int32) : Ct l g MX0_lookAt [.ref 0, .ref 2, .int a, .int p] ([.inr (.inr (0, [.ref 1, .int (n0)])), .inl (row 8 (E)), .inr (.inr (2, [.ref 3, .ref 4, .ref 5, .ref 6, .ref 7, .ref 8])), .inl (row 8 (S 5)), .inl (row 8 (S 6)), .inl (row 8 (S 7)), .inl (row 80 (S 8)), .inl (row 80 (S 9)), .inl (row 80 (S 10))]) (Qv (fun w1 => w1 = [.inr (.inr (0, [.ref 1, .int (nI (chE S a p E 8).2)])), .inl (row 8 ((chE S a p E 8).1)), .inr (.inr (2, [.ref 3, .ref 4, .ref 5, .ref 6, .ref 7, .ref 8])), .inl (row 8 (S 5)), .inl (row 8 (S 6)), .inl (row 8 (S 7)), .inl (row 80 (S 8)), .inl (row 80 (S 9)), .inl (row 80 (S 10))])) := by
  refine Ct_of (by decide) (by simp [Value.category]) (Nat.le_of_ble_eq_true rfl) ?_
  refine x_aload_n dX0_lookAt_0 rfl ?_
  refine x_iconst (v := 0) dX0_lookAt_1 (by decide) ?_
  refine x_puti dX0_lookAt_2 flX0_15 xfi_0_1 rfl (Nat.le_of_ble_eq_true rfl) ?_
  refine x_iconst (v := 0) dX0_lookAt_5 (by decide) ?_
  refine x_istore dX0_lookAt_6 (by decide) ?_
  exact lpX0_lookAt l g S a p E

set_option maxRecDepth 100000 in
set_option maxHeartbeats 4000000 in
theorem lpX0_isPassedWith (l : Launch) (g : XG) (n s : Nat) (E : Nat → Int32) (ev : Nat → Nat) (hs : s < 257) (hn : n ≤ 8) (hE : ∀ j, j < n → E j = nI (ev j)) (he : ∀ j, j < n → ev j < 257) : XA l g MX0_isPassedWith (Qp (b2i (decide (hrN ev s n n = 0))) [.inr (.inr (0, [.ref 1, .int (nI n)])), .inl (row 8 (E))]) 14 ((fun i => [some (.ref 0), some (.int (nI s)), some (.int (nI (hrN ev s n i))), some (.int (nI (n - i) - 1))]) 0) ((fun _ => []) 0) ((fun _ => [.inr (.inr (0, [.ref 1, .int (nI n)])), .inl (row 8 (E))]) 0) 0 0 := by
  refine x_for n (fun _ => True) (fun i => [some (.ref 0), some (.int (nI s)), some (.int (nI (hrN ev s n i))), some (.int (nI (n - i) - 1))]) (fun _ => []) (fun _ => [.inr (.inr (0, [.ref 1, .int (nI n)])), .inl (row 8 (E))]) trivial (fun i hi hp ih => ?_) (fun hp => ?_)
  · rw [at_1 hi]
    refine x_iload_n dX0_isPassedWith_14 rfl ?_
    refine x_if_lt_f (tgt := 39) dX0_isPassedWith_15 (by decide) (nI_pos (by omega)) ?_
    refine x_iload_n dX0_isPassedWith_18 rfl ?_
    refine x_iload_n dX0_isPassedWith_19 rfl ?_
    refine x_imul dX0_isPassedWith_20 ?_
    rw [pk_mul]
    refine x_aload_n dX0_isPassedWith_21 rfl ?_
    refine x_getf dX0_isPassedWith_22 flX0_9 rfl rfl ?_
    refine x_iload_n dX0_isPassedWith_25 rfl ?_
    refine x_iar dX0_isPassedWith_26 rfl (ix_nI (show n - 1 - i < 8 by omega) (by decide)) ?_
    refine x_iadd dX0_isPassedWith_27 ?_
    rw [hE _ (by omega), nI_add]
    refine x_sipush (v := 257) dX0_isPassedWith_28 (by decide) ?_
    refine x_irem dX0_isPassedWith_31 (by decide) ?_
    rw [rem257 (by have h1 := hrN_lt ev s n i; have h2 := he (n - 1 - i) (by omega); have h3 : hrN ev s n i * s ≤ 256 * 256 := Nat.mul_le_mul (by omega) (by omega); omega)]
    refine x_istore_n dX0_isPassedWith_32 (by decide) ?_
    refine x_iinc dX0_isPassedWith_33 (by decide) rfl (at_2 hi) ?_
    refine x_goto (tgt := 14) dX0_isPassedWith_36 (by decide) ?_
    exact ih trivial
  · refine x_iload_n dX0_isPassedWith_14 rfl ?_
    refine x_if_lt_t (tgt := 39) dX0_isPassedWith_15 (by decide) (by rw [Nat.sub_self]; decide) ?_
    refine x_iload_n dX0_isPassedWith_39 rfl ?_
    refine x_if_ne (tgt := 47) dX0_isPassedWith_40 (by decide) (fun c_40 => ?_) (fun c_40 => ?_)
    · refine x_iconst (v := 0) dX0_isPassedWith_47 (by decide) ?_
      exact x_retz dX0_isPassedWith_48 rfl (rfl) rfl rfl (⟨by have h1 := hrN_lt ev s n n; (try rw [nI_is0 (by omega)] at c_40); simp [b2i, *], rfl⟩)
    · refine x_iconst (v := 1) dX0_isPassedWith_43 (by decide) ?_
      refine x_goto (tgt := 48) dX0_isPassedWith_44 (by decide) ?_
      exact x_retz dX0_isPassedWith_48 rfl (rfl) rfl rfl (⟨by have h1 := hrN_lt ev s n n; (try rw [nI_is0 (by omega)] at c_40); simp [b2i, *], rfl⟩)

set_option maxRecDepth 100000 in
set_option maxHeartbeats 4000000 in
theorem kX0_isPassedWith (l : Launch) (g : XG) (n s : Nat) (E : Nat → Int32) (ev : Nat → Nat) (hs : s < 257) (hn : n ≤ 8) (hE : ∀ j, j < n → E j = nI (ev j)) (he : ∀ j, j < n → ev j < 257) : Ct l g MX0_isPassedWith [.ref 0, .int (nI s)] ([.inr (.inr (0, [.ref 1, .int (nI n)])), .inl (row 8 (E))]) (Qp (b2i (decide (hrN ev s n n = 0))) [.inr (.inr (0, [.ref 1, .int (nI n)])), .inl (row 8 (E))]) := by
  refine Ct_of (by decide) (by simp [Value.category]) (Nat.le_of_ble_eq_true rfl) ?_
  refine x_iconst (v := 0) dX0_isPassedWith_0 (by decide) ?_
  refine x_istore_n dX0_isPassedWith_1 (by decide) ?_
  refine x_aload_n dX0_isPassedWith_2 rfl ?_
  refine x_getf dX0_isPassedWith_3 flX0_15 rfl rfl ?_
  refine x_bipush (v := 8) dX0_isPassedWith_6 (by decide) ?_
  refine x_min dX0_isPassedWith_8 mlX0_36 w_min1 w_math w_min3 (by decide) (by decide) (by decide) (by simp [Value.category]) ?_
  rw [min8 hn]
  refine x_iconst (v := 1) dX0_isPassedWith_11 (by decide) ?_
  refine x_isub dX0_isPassedWith_12 ?_
  refine x_istore_n dX0_isPassedWith_13 (by decide) ?_
  exact lpX0_isPassedWith l g n s E ev hs hn hE he
