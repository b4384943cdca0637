/-! ===== the reference: its calls ===== -/
noncomputable def mC (b : Bool) (N' N A Z B L : Nat → Int32) (n : Nat) : XW := cond b (wM N' A Z (mKB B N n) (nI (recN n)) L) (wM N A Z B (nI n) L)
def fsN (f : Nat → Bool) : Nat → Nat → Nat
  | i, 0 => i
  | i, n + 1 => if f i then fsN f (i + 1) n else i
theorem fsN_le (f : Nat → Bool) : ∀ n i, i ≤ fsN f i n ∧ fsN f i n ≤ i + n
  | 0, i => ⟨Nat.le_refl _, Nat.le_refl _⟩
  | n + 1, i => by
    rw [fsN]; split
    · have := fsN_le f n (i + 1); omega
    · omega
theorem mPe_in {N : Nat → Int32} {p : Int32} (h : mPe N p = true) : vp_in p 12 := rgB_v (n := 11) rfl (by decide) (by simp only [mPe, Bool.and_eq_true] at h; exact h.1)
theorem mFi_in {N : Nat → Int32} {f : Int32} (h : mFi N f = true) : vp_in f 8 := rgB_v (n := 7) rfl (by decide) (by simp only [mFi, Bool.and_eq_true] at h; exact h.1)
def mLp (N : Nat → Int32) : Nat := fsN (fun p => mPe N (nI p)) 0 12
def mJoN (N : Nat → Int32) (p : Nat) (u : Int32) : Nat → Int32 := upd (upd (upd (upd N (4 * p) 1) (4 * p + 1) u) (4 * p + 2) 1) (4 * p + 3) 50
def okJm (N : Nat → Int32) (u : Int32) : Bool := rgB u 1 40 && decide (¬ mLp N = 12)
def vJm (N : Nat → Int32) (u : Int32) : Int32 := if rgB u 1 40 then (if mLp N = 12 then -10003 else nI (mLp N)) else -10001
def mTw (N : Nat → Int32) (p q : Int32) : Bool := mPe N p && mPe N q && decide (¬ p = q)
def vBm (N : Nat → Int32) (p q : Int32) : Int32 := if mTw N p q then N (48 + (12 * cl p + cl q)) else -10001
def okPm (N : Nat → Int32) (p q a : Int32) : Bool := mTw N p q && rgB a 1 1000 && decide (a ≤ N (48 + (12 * cl p + cl q)))
def vPm (N : Nat → Int32) (p q a : Int32) : Int32 := if mTw N p q && rgB a 1 1000 then (if a ≤ N (48 + (12 * cl p + cl q)) then mOwe N p q (-a) (48 + (12 * cl p + cl q)) else -10002) else -10001
def okOm (N : Nat → Int32) (p o : Int32) : Bool := mPe N p && rgB o 0 1
def vOm (N : Nat → Int32) (p o : Int32) : Int32 := if okOm N p o then N (4 * cl p + 2) else -10001

set_option maxRecDepth 100000 in
set_option maxHeartbeats 4000000 in
theorem kX7_setOnline (l : Launch) (g : XG) (N A Z B L : Nat → Int32) (n : Nat) (p o : Int32) (hn : n ≤ 5)  : Ct l g MX7_setOnline [.ref 0, .int p, .int o] (wM N A Z B (nI n) L) (Qi (fun v w1 => v = vOm N p o ∧ w1 = mC (okOm N p o) (upd N (4 * cl p + 2) o) N A Z B L n)) := by
  refine Ct_of (by decide) (by simp [Value.category]) (Nat.le_of_ble_eq_true rfl) ?_
  refine x_aload_n dX7_setOnline_0 rfl ?_
  refine x_iload_n dX7_setOnline_1 rfl ?_
  refine x_callp [0, 1, 2, 3, 4, 5] (x_iV dX7_setOnline_2 mlX7_67 lbX7_isPeer rfl rfl rfl rfl) (kX7_isPeer l g _ _ _ _ _ _ _) (by decide) rfl rfl (by decide) (by decide) (by simp [Value.category]) rfl rfl (by decide +kernel) ?_
  refine x_if_eq (tgt := 17) dX7_setOnline_5 (by decide) (fun c_5 => ?_) (fun c_5 => ?_)
  · refine x_sipush (v := -10001) dX7_setOnline_17 (by decide) ?_
    exact x_reti dX7_setOnline_20 rfl rfl rfl (⟨_, rfl, by (try simp only [b2i_eq0, b2i_ne0] at *); first | (rw [mC, show (okOm N p o) = false by simp [okOm, *], cond_false] <;> exact ⟨by simp [vOm, okOm, *], rfl⟩) | (rw [mC, show (okOm N p o) = true by simp [okOm, *], cond_true] <;> exact ⟨by simp [vOm, okOm, *], rfl⟩)⟩)
  · refine x_iload_n dX7_setOnline_8 rfl ?_
    refine x_iconst (v := 0) dX7_setOnline_9 (by decide) ?_
    refine x_iconst (v := 1) dX7_setOnline_10 (by decide) ?_
    refine x_callp [] (x_iS dX7_setOnline_11 mlX7_25 lbX7_in rfl) (kX7_in l g _ _ _) (by decide) rfl rfl (by decide) (by decide) (by simp [Value.category]) rfl rfl (by decide +kernel) ?_
    refine x_if_ne (tgt := 21) dX7_setOnline_14 (by decide) (fun c_14 => ?_) (fun c_14 => ?_)
    · refine x_aload_n dX7_setOnline_21 rfl ?_
      refine x_callv [0, 1, 2, 3, 4, 5] (x_iV dX7_setOnline_22 mlX7_80 lbX7_keeps rfl rfl rfl rfl) (kX7_keeps l g N A Z B L n hn) (by decide) (by decide) (by decide) (by simp [Value.category]) rfl rfl (by decide +kernel) (fun w1 h1 => ?_)
      obtain rfl := h1
      refine x_eq (w' := wM (N) A Z (mKB B N n) (nI (recN n)) L) ?_ rfl rfl rfl
      refine x_aload_n dX7_setOnline_25 rfl ?_
      refine x_getf dX7_setOnline_26 flX7_7 rfl rfl ?_
      refine x_iconst (v := 4) dX7_setOnline_29 (by decide) ?_
      refine x_iload_n dX7_setOnline_30 rfl ?_
      refine x_imul dX7_setOnline_31 ?_
      refine x_iconst (v := 2) dX7_setOnline_32 (by decide) ?_
      refine x_iadd dX7_setOnline_33 ?_
      refine x_iar dX7_setOnline_34 rfl (ix_p4 (c := 2) (mPe_in (b2i_t' c_5)) (by decide)) ?_
      refine x_istore_n dX7_setOnline_35 (by decide) ?_
      refine x_aload_n dX7_setOnline_36 rfl ?_
      refine x_getf dX7_setOnline_37 flX7_7 rfl rfl ?_
      refine x_iconst (v := 4) dX7_setOnline_40 (by decide) ?_
      refine x_iload_n dX7_setOnline_41 rfl ?_
      refine x_imul dX7_setOnline_42 ?_
      refine x_iconst (v := 2) dX7_setOnline_43 (by decide) ?_
      refine x_iadd dX7_setOnline_44 ?_
      refine x_iload_n dX7_setOnline_45 rfl ?_
      refine x_iaw dX7_setOnline_46 rfl (ix_p4 (c := 2) (mPe_in (b2i_t' c_5)) (by decide)) ?_
      refine x_iload_n dX7_setOnline_47 rfl ?_
      exact x_reti dX7_setOnline_48 rfl rfl rfl (⟨_, rfl, by (try simp only [b2i_eq0, b2i_ne0] at *); first | (rw [mC, show (okOm N p o) = false by simp [okOm, *], cond_false] <;> exact ⟨by simp [vOm, okOm, *], rfl⟩) | (rw [mC, show (okOm N p o) = true by simp [okOm, *], cond_true] <;> exact ⟨by simp [vOm, okOm, *], rfl⟩)⟩)
    · refine x_sipush (v := -10001) dX7_setOnline_17 (by decide) ?_
      exact x_reti dX7_setOnline_20 rfl rfl rfl (⟨_, rfl, by (try simp only [b2i_eq0, b2i_ne0] at *); first | (rw [mC, show (okOm N p o) = false by simp [okOm, *], cond_false] <;> exact ⟨by simp [vOm, okOm, *], rfl⟩) | (rw [mC, show (okOm N p o) = true by simp [okOm, *], cond_true] <;> exact ⟨by simp [vOm, okOm, *], rfl⟩)⟩)

set_option maxRecDepth 100000 in
set_option maxHeartbeats 4000000 in
theorem kX7_pay (l : Launch) (g : XG) (N A Z B L : Nat → Int32) (n : Nat) (p q a : Int32) (hn : n ≤ 5)  : Ct l g MX7_pay [.ref 0, .int p, .int q, .int a] (wM N A Z B (nI n) L) (Qi (fun v w1 => v = vPm N p q a ∧ w1 = mC (okPm N p q a) (mOwe N p q (-a)) N A Z B L n)) := by
  refine Ct_of (by decide) (by simp [Value.category]) (Nat.le_of_ble_eq_true rfl) ?_
  refine x_aload_n dX7_pay_0 rfl ?_
  refine x_iload_n dX7_pay_1 rfl ?_
  refine x_callp [0, 1, 2, 3, 4, 5] (x_iV dX7_pay_2 mlX7_67 lbX7_isPeer rfl rfl rfl rfl) (kX7_isPeer l g _ _ _ _ _ _ _) (by decide) rfl rfl (by decide) (by decide) (by simp [Value.category]) rfl rfl (by decide +kernel) ?_
  refine x_if_eq (tgt := 32) dX7_pay_5 (by decide) (fun c_5 => ?_) (fun c_5 => ?_)
  · refine x_sipush (v := -10001) dX7_pay_32 (by decide) ?_
    exact x_reti dX7_pay_35 rfl rfl rfl (⟨_, rfl, by (try simp only [b2i_eq0, b2i_ne0] at *); first | (rw [mC, show (okPm N p q a) = false by simp [okPm, mTw, *], cond_false] <;> exact ⟨by simp [vPm, okPm, mTw, *], rfl⟩) | (rw [mC, show (okPm N p q a) = true by simp [okPm, mTw, *], cond_true] <;> exact ⟨by simp [vPm, okPm, mTw, *], rfl⟩)⟩)
  · refine x_aload_n dX7_pay_8 rfl ?_
    refine x_iload_n dX7_pay_9 rfl ?_
    refine x_callp [0, 1, 2, 3, 4, 5] (x_iV dX7_pay_10 mlX7_67 lbX7_isPeer rfl rfl rfl rfl) (kX7_isPeer l g _ _ _ _ _ _ _) (by decide) rfl rfl (by decide) (by decide) (by simp [Value.category]) rfl rfl (by decide +kernel) ?_
    refine x_if_eq (tgt := 32) dX7_pay_13 (by decide) (fun c_13 => ?_) (fun c_13 => ?_)
    · refine x_sipush (v := -10001) dX7_pay_32 (by decide) ?_
      exact x_reti dX7_pay_35 rfl rfl rfl (⟨_, rfl, by (try simp only [b2i_eq0, b2i_ne0] at *); first | (rw [mC, show (okPm N p q a) = false by simp [okPm, mTw, *], cond_false] <;> exact ⟨by simp [vPm, okPm, mTw, *], rfl⟩) | (rw [mC, show (okPm N p q a) = true by simp [okPm, mTw, *], cond_true] <;> exact ⟨by simp [vPm, okPm, mTw, *], rfl⟩)⟩)
    · refine x_iload_n dX7_pay_16 rfl ?_
      refine x_iload_n dX7_pay_17 rfl ?_
      refine x_icmp_eq (tgt := 32) dX7_pay_18 (by decide) (fun c_18 => ?_) (fun c_18 => ?_)
      · refine x_sipush (v := -10001) dX7_pay_32 (by decide) ?_
        exact x_reti dX7_pay_35 rfl rfl rfl (⟨_, rfl, by (try simp only [b2i_eq0, b2i_ne0] at *); first | (rw [mC, show (okPm N p q a) = false by simp [okPm, mTw, *], cond_false] <;> exact ⟨by simp [vPm, okPm, mTw, *], rfl⟩) | (rw [mC, show (okPm N p q a) = true by simp [okPm, mTw, *], cond_true] <;> exact ⟨by simp [vPm, okPm, mTw, *], rfl⟩)⟩)
      · refine x_iload_n dX7_pay_21 rfl ?_
        refine x_iconst (v := 1) dX7_pay_22 (by decide) ?_
        refine x_sipush (v := 1000) dX7_pay_23 (by decide) ?_
        refine x_callp [] (x_iS dX7_pay_26 mlX7_25 lbX7_in rfl) (kX7_in l g _ _ _) (by decide) rfl rfl (by decide) (by decide) (by simp [Value.category]) rfl rfl (by decide +kernel) ?_
        refine x_if_ne (tgt := 36) dX7_pay_29 (by decide) (fun c_29 => ?_) (fun c_29 => ?_)
        · refine x_aload_n dX7_pay_36 rfl ?_
          refine x_getf dX7_pay_37 flX7_7 rfl rfl ?_
          refine x_iload_n dX7_pay_40 rfl ?_
          refine x_iload_n dX7_pay_41 rfl ?_
          refine x_callp [] (x_iS dX7_pay_42 mlX7_40 lbX7_balanceAt rfl) (kX7_balanceAt l g _ _) (by decide) rfl rfl (by decide) (by decide) (by simp [Value.category]) rfl rfl (by decide +kernel) ?_
          refine x_iar dX7_pay_45 rfl (ix_bal (mPe_in (b2i_t' c_5)) (mPe_in (b2i_t' c_13))) ?_
          refine x_iload_n dX7_pay_46 rfl ?_
          refine x_icmp_ge (tgt := 54) dX7_pay_47 (by decide) (fun c_47 => ?_) (fun c_47 => ?_)
          · refine x_aload_n dX7_pay_54 rfl ?_
            refine x_callv [0, 1, 2, 3, 4, 5] (x_iV dX7_pay_55 mlX7_80 lbX7_keeps rfl rfl rfl rfl) (kX7_keeps l g N A Z B L n hn) (by decide) (by decide) (by decide) (by simp [Value.category]) rfl rfl (by decide +kernel) (fun w1 h1 => ?_)
            obtain rfl := h1
            refine x_eq (w' := wM (N) A Z (mKB B N n) (nI (recN n)) L) ?_ rfl rfl rfl
            refine x_aload_n dX7_pay_58 rfl ?_
            refine x_iload_n dX7_pay_59 rfl ?_
            refine x_iload_n dX7_pay_60 rfl ?_
            refine x_iload_n dX7_pay_61 rfl ?_
            refine x_ineg dX7_pay_62 ?_
            refine x_callv [0, 1, 2, 3, 4, 5] (x_iV dX7_pay_63 mlX7_76 lbX7_owes rfl rfl rfl rfl) (kX7_owes l g _ _ _ _ _ _ _ _ _ (mPe_in (b2i_t' c_5)) (mPe_in (b2i_t' c_13))) (by decide) (by decide) (by decide) (by simp [Value.category]) rfl rfl (by decide +kernel) (fun w1 h1 => ?_)
            obtain rfl := h1
            refine x_eq (w' := wM (mOwe N p q (-a)) A Z (mKB B N n) (nI (recN n)) L) ?_ rfl rfl rfl
            refine x_aload_n dX7_pay_66 rfl ?_
            refine x_getf dX7_pay_67 flX7_7 rfl rfl ?_
            refine x_iload_n dX7_pay_70 rfl ?_
            refine x_iload_n dX7_pay_71 rfl ?_
            refine x_callp [] (x_iS dX7_pay_72 mlX7_40 lbX7_balanceAt rfl) (kX7_balanceAt l g _ _) (by decide) rfl rfl (by decide) (by decide) (by simp [Value.category]) rfl rfl (by decide +kernel) ?_
            refine x_iar dX7_pay_75 rfl (ix_bal (mPe_in (b2i_t' c_5)) (mPe_in (b2i_t' c_13))) ?_
            exact x_reti dX7_pay_76 rfl rfl rfl (⟨_, rfl, by (try simp only [b2i_eq0, b2i_ne0] at *); first | (rw [mC, show (okPm N p q a) = false by simp [okPm, mTw, *], cond_false] <;> exact ⟨by simp [vPm, okPm, mTw, *], rfl⟩) | (rw [mC, show (okPm N p q a) = true by simp [okPm, mTw, *], cond_true] <;> exact ⟨by simp [vPm, okPm, mTw, *], rfl⟩)⟩)
          · refine x_sipush (v := -10002) dX7_pay_50 (by decide) ?_
            exact x_reti dX7_pay_53 rfl rfl rfl (⟨_, rfl, by (try simp only [b2i_eq0, b2i_ne0] at *); first | (rw [mC, show (okPm N p q a) = false by simp [okPm, mTw, *], cond_false] <;> exact ⟨by simp [vPm, okPm, mTw, *], rfl⟩) | (rw [mC, show (okPm N p q a) = true by simp [okPm, mTw, *], cond_true] <;> exact ⟨by simp [vPm, okPm, mTw, *], rfl⟩)⟩)
        · refine x_sipush (v := -10001) dX7_pay_32 (by decide) ?_
          exact x_reti dX7_pay_35 rfl rfl rfl (⟨_, rfl, by (try simp only [b2i_eq0, b2i_ne0] at *); first | (rw [mC, show (okPm N p q a) = false by simp [okPm, mTw, *], cond_false] <;> exact ⟨by simp [vPm, okPm, mTw, *], rfl⟩) | (rw [mC, show (okPm N p q a) = true by simp [okPm, mTw, *], cond_true] <;> exact ⟨by simp [vPm, okPm, mTw, *], rfl⟩)⟩)

set_option maxRecDepth 100000 in
set_option maxHeartbeats 4000000 in
theorem kX7_balance (l : Launch) (g : XG) (N A Z B : Nat → Int32) (u : Int32) (L : Nat → Int32) (p q : Int32) : Ct l g MX7_balance [.ref 0, .int p, .int q] (wM N A Z B u L) (Qp (vBm N p q) (wM N A Z B u L)) := by
  refine Ct_of (by decide) (by simp [Value.category]) (Nat.le_of_ble_eq_true rfl) ?_
  refine x_aload_n dX7_balance_0 rfl ?_
  refine x_iload_n dX7_balance_1 rfl ?_
  refine x_callp [0, 1, 2, 3, 4, 5] (x_iV dX7_balance_2 mlX7_67 lbX7_isPeer rfl rfl rfl rfl) (kX7_isPeer l g _ _ _ _ _ _ _) (by decide) rfl rfl (by decide) (by decide) (by simp [Value.category]) rfl rfl (by decide +kernel) ?_
  refine x_if_eq (tgt := 21) dX7_balance_5 (by decide) (fun c_5 => ?_) (fun c_5 => ?_)
  · refine x_sipush (v := -10001) dX7_balance_21 (by decide) ?_
    refine x_goto (tgt := 37) dX7_balance_24 (by decide) ?_
    exact x_reti dX7_balance_37 rfl rfl rfl (⟨by (try simp only [b2i_eq0, b2i_ne0] at *); simp [vBm, mTw, b2i, *], rfl⟩)
  · refine x_aload_n dX7_balance_8 rfl ?_
    refine x_iload_n dX7_balance_9 rfl ?_
    refine x_callp [0, 1, 2, 3, 4, 5] (x_iV dX7_balance_10 mlX7_67 lbX7_isPeer rfl rfl rfl rfl) (kX7_isPeer l g _ _ _ _ _ _ _) (by decide) rfl rfl (by decide) (by decide) (by simp [Value.category]) rfl rfl (by decide +kernel) ?_
    refine x_if_eq (tgt := 21) dX7_balance_13 (by decide) (fun c_13 => ?_) (fun c_13 => ?_)
    · refine x_sipush (v := -10001) dX7_balance_21 (by decide) ?_
      refine x_goto (tgt := 37) dX7_balance_24 (by decide) ?_
      exact x_reti dX7_balance_37 rfl rfl rfl (⟨by (try simp only [b2i_eq0, b2i_ne0] at *); simp [vBm, mTw, b2i, *], rfl⟩)
    · refine x_iload_n dX7_balance_16 rfl ?_
      refine x_iload_n dX7_balance_17 rfl ?_
      refine x_icmp_ne (tgt := 27) dX7_balance_18 (by decide) (fun c_18 => ?_) (fun c_18 => ?_)
      · refine x_aload_n dX7_balance_27 rfl ?_
        refine x_getf dX7_balance_28 flX7_7 rfl rfl ?_
        refine x_iload_n dX7_balance_31 rfl ?_
        refine x_iload_n dX7_balance_32 rfl ?_
        refine x_callp [] (x_iS dX7_balance_33 mlX7_40 lbX7_balanceAt rfl) (kX7_balanceAt l g _ _) (by decide) rfl rfl (by decide) (by decide) (by simp [Value.category]) rfl rfl (by decide +kernel) ?_
        refine x_iar dX7_balance_36 rfl (ix_bal (mPe_in (b2i_t' c_5)) (mPe_in (b2i_t' c_13))) ?_
        exact x_reti dX7_balance_37 rfl rfl rfl (⟨by (try simp only [b2i_eq0, b2i_ne0] at *); simp [vBm, mTw, b2i, *], rfl⟩)
      · refine x_sipush (v := -10001) dX7_balance_21 (by decide) ?_
        refine x_goto (tgt := 37) dX7_balance_24 (by decide) ?_
        exact x_reti dX7_balance_37 rfl rfl rfl (⟨by (try simp only [b2i_eq0, b2i_ne0] at *); simp [vBm, mTw, b2i, *], rfl⟩)

set_option maxRecDepth 100000 in
set_option maxHeartbeats 4000000 in
theorem lqX7_join (l : Launch) (g : XG) (N A Z B : Nat → Int32) (u : Int32) (L : Nat → Int32) (w : Int32) (Q0 : Option Value → XW → Prop)  (hk : XA l g MX7_join Q0 36 ([some (.ref 0), some (.int w), some (.int (nI (mLp N)))]) [] (wM N A Z B u L) 0 0) : XA l g MX7_join Q0 16 ((fun i => [some (.ref 0), some (.int w), some (.int (nI i))]) 0) ((fun _ => []) 0) ((fun _ => wM N A Z B u L) 0) 0 0 := by
  refine x_for 12 (fun i => mLp N = fsN (fun p => mPe N (nI p)) i (12 - i)) (fun i => [some (.ref 0), some (.int w), some (.int (nI i))]) (fun _ => []) (fun _ => wM N A Z B u L) rfl (fun i hi hp ih => ?_) (fun hp => ?_)
  · refine x_iload_n dX7_join_16 rfl ?_
    refine x_bipush (v := 12) dX7_join_17 (by decide) ?_
    refine x_icmp_ge_f (tgt := 36) dX7_join_19 (by decide) (nI_nle_of rfl (by decide) hi) ?_
    refine x_aload_n dX7_join_22 rfl ?_
    refine x_iload_n dX7_join_23 rfl ?_
    refine x_callp [0, 1, 2, 3, 4, 5] (x_iV dX7_join_24 mlX7_67 lbX7_isPeer rfl rfl rfl rfl) (kX7_isPeer l g _ _ _ _ _ _ _) (by decide) rfl rfl (by decide) (by decide) (by simp [Value.category]) rfl rfl (by decide +kernel) ?_
    refine x_if_eq (tgt := 36) dX7_join_27 (by decide) (fun c_27 => ?_) (fun c_27 => ?_)
    · refine x_eq hk ?_ rfl rfl
      rw [hp, show 12 - i = (12 - (i + 1)) + 1 by omega, fsN, if_neg (by simp [b2i_f' c_27])]
    · first | refine x_iinc dX7_join_30 (by decide) rfl (nI_inc _) ?_ | refine x_iinc dX7_join_30 (by decide) rfl (inc_1 _) ?_
      refine x_goto (tgt := 16) dX7_join_33 (by decide) ?_
      exact ih (by rw [hp, show 12 - i = (12 - (i + 1)) + 1 by omega, fsN, if_pos (b2i_t' c_27)])
  · refine x_iload_n dX7_join_16 rfl ?_
    refine x_bipush (v := 12) dX7_join_17 (by decide) ?_
    refine x_icmp_ge_t (tgt := 36) dX7_join_19 (by decide) (nI_le_of rfl (by decide) (Nat.le_refl _)) ?_
    refine x_eq hk ?_ rfl rfl
    rw [hp] <;> rfl

set_option maxRecDepth 100000 in
set_option maxHeartbeats 4000000 in
theorem kX7_join (l : Launch) (g : XG) (N A Z B L : Nat → Int32) (n : Nat) (w : Int32) (hn : n ≤ 5) : Ct l g MX7_join [.ref 0, .int w] (wM N A Z B (nI n) L) (Qi (fun v w1 => v = vJm N w ∧ w1 = mC (okJm N w) (mJoN N (mLp N) w) N A Z B L n)) := by
  refine Ct_of (by decide) (by simp [Value.category]) (Nat.le_of_ble_eq_true rfl) ?_
  refine x_iload_n dX7_join_0 rfl ?_
  refine x_iconst (v := 1) dX7_join_1 (by decide) ?_
  refine x_bipush (v := 40) dX7_join_2 (by decide) ?_
  refine x_callp [] (x_iS dX7_join_4 mlX7_25 lbX7_in rfl) (kX7_in l g _ _ _) (by decide) rfl rfl (by decide) (by decide) (by simp [Value.category]) rfl rfl (by decide +kernel) ?_
  refine x_if_ne (tgt := 14) dX7_join_7 (by decide) (fun c_7 => ?_) (fun c_7 => ?_)
  · refine x_iconst (v := 0) dX7_join_14 (by decide) ?_
    refine x_istore_n dX7_join_15 (by decide) ?_
    refine lqX7_join l g N A Z B (nI n) L w _ ?_
    refine x_iload_n dX7_join_36 rfl ?_
    refine x_bipush (v := 12) dX7_join_37 (by decide) ?_
    refine x_icmp_ne (tgt := 46) dX7_join_39 (by decide) (fun c_39 => ?_) (fun c_39 => ?_)
    · have hq : ¬ mLp N = 12 := fun z => c_39 (by rw [z]; rfl)
      have hl : mLp N < 12 := by have := (fsN_le (fun p => mPe N (nI p)) 12 0).2; have h2 : mLp N ≤ 0 + 12 := this; omega
      refine x_aload_n dX7_join_46 rfl ?_
      refine x_callv [0, 1, 2, 3, 4, 5] (x_iV dX7_join_47 mlX7_80 lbX7_keeps rfl rfl rfl rfl) (kX7_keeps l g N A Z B L n hn) (by decide) (by decide) (by decide) (by simp [Value.category]) rfl rfl (by decide +kernel) (fun w1 h1 => ?_)
      obtain rfl := h1
      refine x_eq (w' := wM (N) A Z (mKB B N n) (nI (recN n)) L) ?_ rfl rfl rfl
      refine x_aload_n dX7_join_50 rfl ?_
      refine x_getf dX7_join_51 flX7_7 rfl rfl ?_
      refine x_iconst (v := 4) dX7_join_54 (by decide) ?_
      refine x_iload_n dX7_join_55 rfl ?_
      refine x_imul dX7_join_56 ?_
      refine x_iconst (v := 1) dX7_join_57 (by decide) ?_
      refine x_iaw dX7_join_58 rfl (show ix (4 * nI (mLp N)) (4 * mLp N) 439 from by have := ix_p0 (vin_nI (n := 12) (by decide) hl); rwa [cl_nI (by omega)] at this) ?_
      refine x_aload_n dX7_join_59 rfl ?_
      refine x_getf dX7_join_60 flX7_7 rfl rfl ?_
      refine x_iconst (v := 4) dX7_join_63 (by decide) ?_
      refine x_iload_n dX7_join_64 rfl ?_
      refine x_imul dX7_join_65 ?_
      refine x_iconst (v := 1) dX7_join_66 (by decide) ?_
      refine x_iadd dX7_join_67 ?_
      refine x_iload_n dX7_join_68 rfl ?_
      refine x_iaw dX7_join_69 rfl (ix_n4 (c := 1) hl (by decide)) ?_
      refine x_aload_n dX7_join_70 rfl ?_
      refine x_getf dX7_join_71 flX7_7 rfl rfl ?_
      refine x_iconst (v := 4) dX7_join_74 (by decide) ?_
      refine x_iload_n dX7_join_75 rfl ?_
      refine x_imul dX7_join_76 ?_
      refine x_iconst (v := 2) dX7_join_77 (by decide) ?_
      refine x_iadd dX7_join_78 ?_
      refine x_iconst (v := 1) dX7_join_79 (by decide) ?_
      refine x_iaw dX7_join_80 rfl (ix_n4 (c := 2) hl (by decide)) ?_
      refine x_aload_n dX7_join_81 rfl ?_
      refine x_getf dX7_join_82 flX7_7 rfl rfl ?_
      refine x_iconst (v := 4) dX7_join_85 (by decide) ?_
      refine x_iload_n dX7_join_86 rfl ?_
      refine x_imul dX7_join_87 ?_
      refine x_iconst (v := 3) dX7_join_88 (by decide) ?_
      refine x_iadd dX7_join_89 ?_
      refine x_bipush (v := 50) dX7_join_90 (by decide) ?_
      refine x_iaw dX7_join_92 rfl (ix_n4 (c := 3) hl (by decide)) ?_
      refine x_iload_n dX7_join_93 rfl ?_
      exact x_reti dX7_join_94 rfl rfl rfl (⟨_, rfl, by rw [mC, show okJm N w = true by simp [okJm, hq, b2i_t' c_7], cond_true]; exact ⟨by simp [vJm, hq, b2i_t' c_7], rfl⟩⟩)
    · refine x_sipush (v := -10003) dX7_join_42 (by decide) ?_
      exact x_reti dX7_join_45 rfl rfl rfl (⟨_, rfl, by have hq : mLp N = 12 := (nI_eq (by have := (fsN_le (fun p => mPe N (nI p)) 12 0).2; have h2 : mLp N ≤ 0 + 12 := this; omega) (by decide)).mp c_39; rw [mC, show okJm N w = false by simp [okJm, hq], cond_false]; exact ⟨by simp [vJm, hq, b2i_t' c_7], rfl⟩⟩)

  · refine x_sipush (v := -10001) dX7_join_10 (by decide) ?_
    exact x_reti dX7_join_13 rfl rfl rfl (⟨_, rfl, by rw [mC, show okJm N w = false by simp [okJm, b2i_f' c_7], cond_false]; exact ⟨by simp [vJm, b2i_f' c_7], rfl⟩⟩)
