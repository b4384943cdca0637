theorem xfi_5_3 : xfi 5 3 := fun q h => by cases h; exact ⟨rfl, by decide +kernel⟩
theorem xfi_3_1 : xfi 3 1 := fun q h => by cases h; exact ⟨rfl, by decide +kernel⟩
theorem xfi_0_1 : xfi 0 1 := fun q h => by cases h; exact ⟨rfl, by decide +kernel⟩
theorem xfi_1_1 : xfi 1 1 := fun q h => by cases h; exact ⟨rfl, by decide +kernel⟩
theorem xfi_7_4 : xfi 7 4 := fun q h => by cases h; exact ⟨rfl, by decide +kernel⟩
/-! ===== a state: changes ===== -/
/-- nothing but the peers' rows differs; nothing but the files' rows differs -/
def agP (S' S : MS) : Prop := ∀ t, 5 ≤ t → S' t = S t
def agF (S' S : MS) : Prop := ∀ t, t < 5 ∨ 10 < t → S' t = S t
theorem wS_P {S S' : MS} (h : agP S' S) : ([.inr (.inr (5, [.ref 1, .ref 7, .ref 14, .int (S 12 0)])), .inr (.inr (4, [.ref 2, .ref 3, .ref 4, .ref 5, .ref 6])), .inl (row 12 (S' 0)), .inl (row 12 (S' 1)), .inl (row 12 (S' 2)), .inl (row 12 (S' 3)), .inl (row 144 (S' 4)), .inr (.inr (2, [.ref 8, .ref 9, .ref 10, .ref 11, .ref 12, .ref 13])), .inl (row 8 (S 5)), .inl (row 8 (S 6)), .inl (row 8 (S 7)), .inl (row 80 (S 8)), .inl (row 80 (S 9)), .inl (row 80 (S 10)), .inl (row 6 (S 11))] : XW) = wS S' := by
  rw [← h 5 (by decide), ← h 6 (by decide), ← h 7 (by decide), ← h 8 (by decide), ← h 9 (by decide), ← h 10 (by decide), ← h 11 (by decide), ← h 12 (by decide)]
theorem wS_F {S S' : MS} (h : agF S' S) : ([.inr (.inr (5, [.ref 1, .ref 7, .ref 14, .int (S 12 0)])), .inr (.inr (4, [.ref 2, .ref 3, .ref 4, .ref 5, .ref 6])), .inl (row 12 (S 0)), .inl (row 12 (S 1)), .inl (row 12 (S 2)), .inl (row 12 (S 3)), .inl (row 144 (S 4)), .inr (.inr (2, [.ref 8, .ref 9, .ref 10, .ref 11, .ref 12, .ref 13])), .inl (row 8 (S' 5)), .inl (row 8 (S' 6)), .inl (row 8 (S' 7)), .inl (row 80 (S' 8)), .inl (row 80 (S' 9)), .inl (row 80 (S' 10)), .inl (row 6 (S 11))] : XW) = wS S' := by
  rw [← h 0 (by decide), ← h 1 (by decide), ← h 2 (by decide), ← h 3 (by decide), ← h 4 (by decide), ← h 11 (by decide), ← h 12 (by decide)]
theorem us_ne {S : MS} {t t' k : Nat} {v : Int32} (h : ¬ t' = t) : us S t k v t' = S t' := if_neg h
theorem us_eq {S : MS} {t k : Nat} {v : Int32} : us S t k v t = upd (S t) k v := if_pos rfl
theorem agP_load (S : MS) (p n : Int32) : agP (sLoad S p n) S := fun t ht => by
  rw [sLoad]; cases exB S p
  · rfl
  · exact us_ne (by omega)
theorem agP_owe (S : MS) (d c a : Int32) : agP (sOwe S d c a) S := fun t ht => by
  rw [sOwe]; cases (decide (¬ d = c) && exB S d && exB S c)
  · rfl
  · exact (us_ne (by omega)).trans (us_ne (by omega))
theorem agP_add (S : MS) (p u : Int32) : agP (sAdd S p u) S := fun t ht => by
  rw [sAdd]; cases inB p 12
  · rfl
  · exact (us_ne (by omega)).trans ((us_ne (by omega)).trans (us_ne (by omega)))
theorem agP_raise (S : MS) (p : Int32) : agP (sRaise S p) S := fun t ht => by
  rw [sRaise]; cases exB S p
  · rfl
  · exact us_ne (by omega)
theorem agP_halve (S : MS) (p : Int32) : agP (sHalve S p) S := fun t ht => by
  rw [sHalve]; cases exB S p
  · rfl
  · exact us_ne (by omega)
theorem agP_rem (S : MS) (p : Int32) : agP (sRem S p) S := fun t ht => by
  rw [sRem]; cases exB S p
  · rfl
  · show (if t = 4 then _ else if t < 4 then _ else S t) = S t
    rw [if_neg (by omega), if_neg (by omega)]
theorem agF_set (S : MS) (f i p e : Int32) : agF (sSet S f i p e) S := fun t ht => by
  rw [sSet]; cases irB f i
  · rfl
  · exact (us_ne (by omega)).trans (us_ne (by omega))
theorem agF_err (S : MS) (f i a : Int32) : agF (sErr S f i a) S := fun t ht => by
  rw [sErr]; cases irB f i
  · rfl
  · exact us_ne (by omega)
theorem agF_rem (S : MS) (f : Int32) : agF (sRemF S f) S := fun t ht => by
  rw [sRemF]; cases exF S f
  · rfl
  · exact (us_ne (by omega)).trans ((us_ne (by omega)).trans (us_ne (by omega)))
theorem agF_file (S : MS) (f : Nat) (o : Int32) (k m : Nat) (c : Nat → Int32) : agF (sFile S f o k m c) S := fun t ht => by
  show (if t = 8 then c else _) = S t
  rw [if_neg (by omega)]
  exact (us_ne (by omega)).trans ((us_ne (by omega)).trans (us_ne (by omega)))
def sPut (S : MS) (f i p e : Int32) : MS := sOwe (sLoad (sSet S f i p e) p 1) (foI (sLoad (sSet S f i p e) p 1) f) p 1
def sTake (S : MS) (f i : Int32) : MS := sSet (sLoad S (plI S f i) (-1)) f i (-1) 0
def sWait (S : MS) (w : Int32) : MS := cond (inB (S 12 0) 6) (us (us S 11 (cl (S 12 0)) w) 12 0 (S 12 0 + 1)) S
def mvB (S : MS) (f : Int32) : Bool := decide (¬ bstI S f 12 = -1)
def sMv (S : MS) (f i : Int32) : MS := cond (mvB S f) (sPut (sTake S f i) f i (bstI S f 12) (erI S f i)) (sTake S f i)
def sTkA (S : MS) (f : Int32) : Nat → MS
  | 0 => S
  | i + 1 => sTake (sTkA S f i) f (nI i)
def sDel (S : MS) (f : Int32) : MS := sRemF (sTkA S f (cl (fnI S f))) f
def sLv (S : MS) (p : Int32) : Nat → MS
  | 0 => S
  | i + 1 => cond (decide (fonI (sLv S p i) (nI i) p = -1)) (sLv S p i) (sMv (sLv S p i) (nI i) (fonI (sLv S p i) (nI i) p))
def nLv (S : MS) (p : Int32) : Nat → Nat
  | 0 => 0
  | i + 1 => nLv S p i + (if !decide (fonI (sLv S p i) (nI i) p = -1) && !mvB (sLv S p i) (nI i) then 1 else 0)
def sLeave (S : MS) (p : Int32) : MS := sRem (sLv S p 8) p
def sCr (S : MS) (p : Int32) : Nat → MS
  | 0 => S
  | i + 1 => cond (decide (foI (sCr S p i) (nI i) = p)) (sDel (sCr S p i) (nI i)) (cond (decide (fonI (sCr S p i) (nI i) p = -1)) (sCr S p i) (sTake (sCr S p i) (nI i) (fonI (sCr S p i) (nI i) p)))
def nCr (S : MS) (p : Int32) : Nat → Nat
  | 0 => 0
  | i + 1 => nCr S p i + (if !decide (foI (sCr S p i) (nI i) = p) && !decide (fonI (sCr S p i) (nI i) p = -1) then 1 else 0)
def sCrash (S : MS) (p : Int32) : MS := sRem (sCr S p 8) p

set_option maxRecDepth 100000 in
set_option maxHeartbeats 4000000 in
theorem kX5_addWaiting (l : Launch) (g : XG) (S : MS) (w : Int32) : Ct l g MX5_addWaiting [.ref 0, .int w] (wS S) (Qi (fun v w1 => v = sWait S w 12 0 ∧ w1 = wS (sWait S w))) := by
  refine Ct_of (by decide) (by simp [Value.category]) (Nat.le_of_ble_eq_true rfl) ?_
  refine x_aload_n dX5_addWaiting_0 rfl ?_
  refine x_getf dX5_addWaiting_1 flX5_40 rfl rfl ?_
  refine x_if_lt (tgt := 36) dX5_addWaiting_4 (by decide) (fun c_4 => ?_) (fun c_4 => ?_)
  · refine x_aload_n dX5_addWaiting_36 rfl ?_
    refine x_getf dX5_addWaiting_37 flX5_40 rfl rfl ?_
    exact x_reti dX5_addWaiting_40 rfl rfl rfl (⟨_, rfl, by first | (rw [sWait, show inB (S 12 0) 6 = true by simp [inB, *]] <;> exact ⟨rfl, rfl⟩) | (rw [sWait, show inB (S 12 0) 6 = false by simp [inB, *]] <;> exact ⟨rfl, rfl⟩)⟩)
  · refine x_aload_n dX5_addWaiting_7 rfl ?_
    refine x_getf dX5_addWaiting_8 flX5_40 rfl rfl ?_
    refine x_bipush (v := 6) dX5_addWaiting_11 (by decide) ?_
    refine x_icmp_ge (tgt := 36) dX5_addWaiting_13 (by decide) (fun c_13 => ?_) (fun c_13 => ?_)
    · refine x_aload_n dX5_addWaiting_36 rfl ?_
      refine x_getf dX5_addWaiting_37 flX5_40 rfl rfl ?_
      exact x_reti dX5_addWaiting_40 rfl rfl rfl (⟨_, rfl, by first | (rw [sWait, show inB (S 12 0) 6 = true by simp [inB, *]] <;> exact ⟨rfl, rfl⟩) | (rw [sWait, show inB (S 12 0) 6 = false by simp [inB, *]] <;> exact ⟨rfl, rfl⟩)⟩)
    · refine x_aload_n dX5_addWaiting_16 rfl ?_
      refine x_getf dX5_addWaiting_17 flX5_25 rfl rfl ?_
      refine x_aload_n dX5_addWaiting_20 rfl ?_
      refine x_getf dX5_addWaiting_21 flX5_40 rfl rfl ?_
      refine x_iload_n dX5_addWaiting_24 rfl ?_
      refine x_iaw dX5_addWaiting_25 rfl (ix_of (vin_of 6 (by decide) rfl c_4 c_13)) ?_
      refine x_aload_n dX5_addWaiting_26 rfl ?_
      refine x_dup dX5_addWaiting_27 rfl ?_
      refine x_getf dX5_addWaiting_28 flX5_40 rfl rfl ?_
      refine x_iconst (v := 1) dX5_addWaiting_31 (by decide) ?_
      refine x_iadd dX5_addWaiting_32 ?_
      refine x_puti dX5_addWaiting_33 flX5_40 xfi_5_3 rfl (Nat.le_of_ble_eq_true rfl) ?_
      refine x_aload_n dX5_addWaiting_36 rfl ?_
      refine x_getf dX5_addWaiting_37 flX5_40 rfl rfl ?_
      exact x_reti dX5_addWaiting_40 rfl rfl rfl (⟨_, rfl, by first | (rw [sWait, show inB (S 12 0) 6 = true by simp [inB, *]] <;> exact ⟨rfl, rfl⟩) | (rw [sWait, show inB (S 12 0) 6 = false by simp [inB, *]] <;> exact ⟨rfl, rfl⟩)⟩)

set_option maxRecDepth 100000 in
set_option maxHeartbeats 4000000 in
theorem kX5_putOn (l : Launch) (g : XG) (S : MS) (f i p e : Int32) : Ct l g MX5_putOn [.ref 0, .int f, .int i, .int p, .int e] (wS S) (Qv (fun w1 => w1 = wS (sPut S f i p e))) := by
  refine Ct_of (by decide) (by simp [Value.category]) (Nat.le_of_ble_eq_true rfl) ?_
  refine x_aload_n dX5_putOn_0 rfl ?_
  refine x_getf dX5_putOn_1 flX5_21 rfl rfl ?_
  refine x_iload_n dX5_putOn_4 rfl ?_
  refine x_iload_n dX5_putOn_5 rfl ?_
  refine x_iload_n dX5_putOn_6 rfl ?_
  refine x_iload dX5_putOn_7 rfl ?_
  refine x_callv [7, 8, 9, 10, 11, 12, 13] (x_iV dX5_putOn_9 mlX5_84 lbX2_setFragment rfl rfl rfl rfl) (kX2_setFragment l g _ _ _ _ _) (by decide) (by decide) (by decide) (by simp [Value.category]) rfl rfl (by decide +kernel) (fun w1 h1 => ?_)
  obtain rfl := h1
  refine x_eq ?_ rfl rfl (wS_F (agF_set _ _ _ _ _))
  refine x_aload_n dX5_putOn_12 rfl ?_
  refine x_getf dX5_putOn_13 flX5_12 rfl rfl ?_
  refine x_iload_n dX5_putOn_16 rfl ?_
  refine x_iconst (v := 1) dX5_putOn_17 (by decide) ?_
  refine x_callv [1, 2, 3, 4, 5, 6] (x_iV dX5_putOn_18 mlX5_88 lbX4_addLoad rfl rfl rfl rfl) (kX4_addLoad l g _ _ _) (by decide) (by decide) (by decide) (by simp [Value.category]) rfl rfl (by decide +kernel) (fun w1 h1 => ?_)
  obtain rfl := h1
  refine x_eq ?_ rfl rfl (wS_P (agP_load _ _ _))
  refine x_aload_n dX5_putOn_21 rfl ?_
  refine x_getf dX5_putOn_22 flX5_12 rfl rfl ?_
  refine x_aload_n dX5_putOn_25 rfl ?_
  refine x_getf dX5_putOn_26 flX5_21 rfl rfl ?_
  refine x_iload_n dX5_putOn_29 rfl ?_
  refine x_callp [7, 8, 9, 10, 11, 12, 13] (x_iV dX5_putOn_30 mlX5_92 lbX2_ownerOf rfl rfl rfl rfl) (kX2_ownerOf l g _ _) (by decide) rfl rfl (by decide) (by decide) (by simp [Value.category]) rfl rfl (by decide +kernel) ?_
  refine x_iload_n dX5_putOn_33 rfl ?_
  refine x_iconst (v := 1) dX5_putOn_34 (by decide) ?_
  refine x_callv [1, 2, 3, 4, 5, 6] (x_iV dX5_putOn_35 mlX5_95 lbX4_owe rfl rfl rfl rfl) (kX4_owe l g _ _ _ _) (by decide) (by decide) (by decide) (by simp [Value.category]) rfl rfl (by decide +kernel) (fun w1 h1 => ?_)
  obtain rfl := h1
  refine x_eq ?_ rfl rfl (wS_P (agP_owe _ _ _ _))
  exact x_retv dX5_putOn_38 rfl rfl rfl (⟨rfl, rfl⟩)

set_option maxRecDepth 100000 in
set_option maxHeartbeats 4000000 in
theorem kX5_takeOff (l : Launch) (g : XG) (S : MS) (f i : Int32) : Ct l g MX5_takeOff [.ref 0, .int f, .int i] (wS S) (Qv (fun w1 => w1 = wS (sTake S f i))) := by
  refine Ct_of (by decide) (by simp [Value.category]) (Nat.le_of_ble_eq_true rfl) ?_
  refine x_aload_n dX5_takeOff_0 rfl ?_
  refine x_getf dX5_takeOff_1 flX5_12 rfl rfl ?_
  refine x_aload_n dX5_takeOff_4 rfl ?_
  refine x_getf dX5_takeOff_5 flX5_21 rfl rfl ?_
  refine x_iload_n dX5_takeOff_8 rfl ?_
  refine x_iload_n dX5_takeOff_9 rfl ?_
  refine x_callp [7, 8, 9, 10, 11, 12, 13] (x_iV dX5_takeOff_10 mlX5_48 lbX2_placeOf rfl rfl rfl rfl) (kX2_placeOf l g _ _ _) (by decide) rfl rfl (by decide) (by decide) (by simp [Value.category]) rfl rfl (by decide +kernel) ?_
  refine x_iconst (v := -1) dX5_takeOff_13 (by decide) ?_
  refine x_callv [1, 2, 3, 4, 5, 6] (x_iV dX5_takeOff_14 mlX5_88 lbX4_addLoad rfl rfl rfl rfl) (kX4_addLoad l g _ _ _) (by decide) (by decide) (by decide) (by simp [Value.category]) rfl rfl (by decide +kernel) (fun w1 h1 => ?_)
  obtain rfl := h1
  refine x_eq ?_ rfl rfl (wS_P (agP_load _ _ _))
  refine x_aload_n dX5_takeOff_17 rfl ?_
  refine x_getf dX5_takeOff_18 flX5_21 rfl rfl ?_
  refine x_iload_n dX5_takeOff_21 rfl ?_
  refine x_iload_n dX5_takeOff_22 rfl ?_
  refine x_iconst (v := -1) dX5_takeOff_23 (by decide) ?_
  refine x_iconst (v := 0) dX5_takeOff_24 (by decide) ?_
  refine x_callv [7, 8, 9, 10, 11, 12, 13] (x_iV dX5_takeOff_25 mlX5_84 lbX2_setFragment rfl rfl rfl rfl) (kX2_setFragment l g _ _ _ _ _) (by decide) (by decide) (by decide) (by simp [Value.category]) rfl rfl (by decide +kernel) (fun w1 h1 => ?_)
  obtain rfl := h1
  refine x_eq ?_ rfl rfl (wS_F (agF_set _ _ _ _ _))
  exact x_retv dX5_takeOff_28 rfl rfl rfl (⟨rfl, rfl⟩)

theorem wS_of {S S' : MS} (h : S = S') : wS S = wS S' := by rw [h]
def qMv (S : MS) (f i : Int32) : Int32 → XW → Prop := fun v w1 => v = b2i (mvB S f) ∧ w1 = wS (sMv S f i)

set_option maxRecDepth 100000 in
set_option maxHeartbeats 4000000 in
theorem kX5_move (l : Launch) (g : XG) (S : MS) (f i : Int32) : Ct l g MX5_move [.ref 0, .int f, .int i] (wS S) (Qi (qMv S f i)) := by
  refine Ct_of (by decide) (by simp [Value.category]) (Nat.le_of_ble_eq_true rfl) ?_
  refine x_aload_n dX5_move_0 rfl ?_
  refine x_iload_n dX5_move_1 rfl ?_
  refine x_callp [0, 1, 2, 3, 4, 5, 6, 7, 8, 9, 10, 11, 12, 13, 14] (x_iV dX5_move_2 mlX5_103 lbX5_findPlace rfl rfl rfl rfl) (kX5_findPlace l g _ _) (by decide) rfl rfl (by decide) (by decide) (by simp [Value.category]) rfl rfl (by decide +kernel) ?_
  refine x_istore_n dX5_move_5 (by decide) ?_
  refine x_aload_n dX5_move_6 rfl ?_
  refine x_getf dX5_move_7 flX5_21 rfl rfl ?_
  refine x_iload_n dX5_move_10 rfl ?_
  refine x_iload_n dX5_move_11 rfl ?_
  refine x_callp [7, 8, 9, 10, 11, 12, 13] (x_iV dX5_move_12 mlX5_44 lbX2_errorOf rfl rfl rfl rfl) (kX2_errorOf l g _ _ _) (by decide) rfl rfl (by decide) (by decide) (by simp [Value.category]) rfl rfl (by decide +kernel) ?_
  refine x_istore dX5_move_15 (by decide) ?_
  refine x_aload_n dX5_move_17 rfl ?_
  refine x_iload_n dX5_move_18 rfl ?_
  refine x_iload_n dX5_move_19 rfl ?_
  refine x_callv [0, 1, 2, 3, 4, 5, 6, 7, 8, 9, 10, 11, 12, 13, 14] (x_iV dX5_move_20 mlX5_109 lbX5_takeOff rfl rfl rfl rfl) (kX5_takeOff l g _ _ _) (by decide) (by decide) (by decide) (by simp [Value.category]) rfl rfl (by decide +kernel) (fun w1 h1 => ?_)
  obtain rfl := h1
  refine x_eq (w' := wS _) ?_ rfl rfl rfl
  refine x_iload_n dX5_move_23 rfl ?_
  refine x_iconst (v := -1) dX5_move_24 (by decide) ?_
  refine x_icmp_ne (tgt := 30) dX5_move_25 (by decide) (fun c_25 => ?_) (fun c_25 => ?_)
  · refine x_aload_n dX5_move_30 rfl ?_
    refine x_iload_n dX5_move_31 rfl ?_
    refine x_iload_n dX5_move_32 rfl ?_
    refine x_iload_n dX5_move_33 rfl ?_
    refine x_iload dX5_move_34 rfl ?_
    refine x_callv [0, 1, 2, 3, 4, 5, 6, 7, 8, 9, 10, 11, 12, 13, 14] (x_iV dX5_move_36 mlX5_106 lbX5_putOn rfl rfl rfl rfl) (kX5_putOn l g _ _ _ _ _) (by decide) (by decide) (by decide) (by simp [Value.category]) rfl rfl (by decide +kernel) (fun w1 h1 => ?_)
    obtain rfl := h1
    refine x_eq (w' := wS _) ?_ rfl rfl rfl
    refine x_iconst (v := 1) dX5_move_39 (by decide) ?_
    exact x_retz dX5_move_40 rfl (rfl) rfl rfl (⟨_, rfl, by rw [qMv, sMv, show mvB S f = true by simp [mvB, *]]; exact ⟨rfl, rfl⟩⟩)
  · refine x_iconst (v := 0) dX5_move_28 (by decide) ?_
    exact x_retz dX5_move_29 rfl (rfl) rfl rfl (⟨_, rfl, by rw [qMv, sMv, show mvB S f = false by simp [mvB, *]]; exact ⟨rfl, rfl⟩⟩)

set_option maxRecDepth 100000 in
set_option maxHeartbeats 4000000 in
theorem lpX5_removeFile (l : Launch) (g : XG) (S : MS) (f : Int32)  : XA l g MX5_removeFile (Qv (fun w1 => w1 = wS (sDel S f))) 11 ((fun i => [some (.ref 0), some (.int f), some (.int (fnI S f)), some (.int (nI i))]) 0) ((fun _ => []) 0) ((fun i => wS (sTkA S f i)) 0) 0 0 := by
  refine x_for (cl (fnI S f)) (fun _ => True) (fun i => [some (.ref 0), some (.int f), some (.int (fnI S f)), some (.int (nI i))]) (fun _ => []) (fun i => wS (sTkA S f i)) trivial (fun i hi hp ih => ?_) (fun hp => ?_)
  · refine x_iload_n dX5_removeFile_11 rfl ?_
    refine x_iload_n dX5_removeFile_12 rfl ?_
    refine x_icmp_ge_f (tgt := 28) dX5_removeFile_13 (by decide) (nge_cl hi) ?_
    refine x_aload_n dX5_removeFile_16 rfl ?_
    refine x_iload_n dX5_removeFile_17 rfl ?_
    refine x_iload_n dX5_removeFile_18 rfl ?_
    refine x_callv [0, 1, 2, 3, 4, 5, 6, 7, 8, 9, 10, 11, 12, 13, 14] (x_iV dX5_removeFile_19 mlX5_109 lbX5_takeOff rfl rfl rfl rfl) (kX5_takeOff l g _ _ _) (by decide) (by decide) (by decide) (by simp [Value.category]) rfl rfl (by decide +kernel) (fun w1 h1 => ?_)
    obtain rfl := h1
    refine x_eq (w' := wS _) ?_ rfl rfl rfl
    first | refine x_iinc dX5_removeFile_22 (by decide) rfl (nI_inc _) ?_ | refine x_iinc dX5_removeFile_22 (by decide) rfl (inc_1 _) ?_
    refine x_goto (tgt := 11) dX5_removeFile_25 (by decide) ?_
    exact ih trivial
  · refine x_iload_n dX5_removeFile_11 rfl ?_
    refine x_iload_n dX5_removeFile_12 rfl ?_
    refine x_icmp_ge_t (tgt := 28) dX5_removeFile_13 (by decide) (ge_cl) ?_
    refine x_aload_n dX5_removeFile_28 rfl ?_
    refine x_getf dX5_removeFile_29 flX5_21 rfl rfl ?_
    refine x_iload_n dX5_removeFile_32 rfl ?_
    refine x_callv [7, 8, 9, 10, 11, 12, 13] (x_iV dX5_removeFile_33 mlX5_112 lbX2_remove rfl rfl rfl rfl) (kX2_remove l g _ _) (by decide) (by decide) (by decide) (by simp [Value.category]) rfl rfl (by decide +kernel) (fun w1 h1 => ?_)
    obtain rfl := h1
    refine x_eq ?_ rfl rfl (wS_F (agF_rem _ _))
    exact x_retv dX5_removeFile_36 rfl rfl rfl (⟨rfl, rfl⟩)

set_option maxRecDepth 100000 in
set_option maxHeartbeats 4000000 in
theorem kX5_removeFile (l : Launch) (g : XG) (S : MS) (f : Int32) : Ct l g MX5_removeFile [.ref 0, .int f] (wS S) (Qv (fun w1 => w1 = wS (sDel S f))) := by
  refine Ct_of (by decide) (by simp [Value.category]) (Nat.le_of_ble_eq_true rfl) ?_
  refine x_aload_n dX5_removeFile_0 rfl ?_
  refine x_getf dX5_removeFile_1 flX5_21 rfl rfl ?_
  refine x_iload_n dX5_removeFile_4 rfl ?_
  refine x_callp [7, 8, 9, 10, 11, 12, 13] (x_iV dX5_removeFile_5 mlX5_55 lbX2_fragmentNumber rfl rfl rfl rfl) (kX2_fragmentNumber l g _ _) (by decide) rfl rfl (by decide) (by decide) (by simp [Value.category]) rfl rfl (by decide +kernel) ?_
  refine x_istore_n dX5_removeFile_8 (by decide) ?_
  refine x_iconst (v := 0) dX5_removeFile_9 (by decide) ?_
  refine x_istore_n dX5_removeFile_10 (by decide) ?_
  exact lpX5_removeFile l g S f

set_option maxRecDepth 100000 in
set_option maxHeartbeats 4000000 in
theorem lpX5_leaveInOrder (l : Launch) (g : XG) (S : MS) (p : Int32)  : XA l g MX5_leaveInOrder (Qi (fun v w1 => v = nI (nLv S p 8) ∧ w1 = wS (sLeave S p))) 4 ((fun i => [some (.ref 0), some (.int p), some (.int (nI (nLv S p i))), some (.int (nI i)), none]) 0) ((fun _ => []) 0) ((fun i => wS (sLv S p i)) 0) 0 0 := by
  refine x_for 8 (fun _ => True) (fun i => [some (.ref 0), some (.int p), some (.int (nI (nLv S p i))), some (.int (nI i)), none]) (fun _ => []) (fun i => wS (sLv S p i)) trivial (fun i hi hp ih => ?_) (fun hp => ?_)
  · refine x_iload_n dX5_leaveInOrder_4 rfl ?_
    refine x_bipush (v := 8) dX5_leaveInOrder_5 (by decide) ?_
    refine x_icmp_ge_f (tgt := 46) dX5_leaveInOrder_7 (by decide) (nI_nle_of rfl (by decide) hi) ?_
    refine x_aload_n dX5_leaveInOrder_10 rfl ?_
    refine x_getf dX5_leaveInOrder_11 flX5_21 rfl rfl ?_
    refine x_iload_n dX5_leaveInOrder_14 rfl ?_
    refine x_iload_n dX5_leaveInOrder_15 rfl ?_
    refine x_callp [7, 8, 9, 10, 11, 12, 13] (x_iV dX5_leaveInOrder_16 mlX5_78 lbX2_fragmentOn rfl rfl rfl rfl) (kX2_fragmentOn l g _ _ _) (by decide) rfl rfl (by decide) (by decide) (by simp [Value.category]) rfl rfl (by decide +kernel) ?_
    refine x_istore dX5_leaveInOrder_19 (by decide) ?_
    refine x_iload dX5_leaveInOrder_21 rfl ?_
    refine x_iconst (v := -1) dX5_leaveInOrder_23 (by decide) ?_
    refine x_icmp_eq (tgt := 40) dX5_leaveInOrder_24 (by decide) (fun c_24 => ?_) (fun c_24 => ?_)
    · first | refine x_iinc dX5_leaveInOrder_40 (by decide) rfl (nI_inc _) ?_ | refine x_iinc dX5_leaveInOrder_40 (by decide) rfl (inc_1 _) ?_
      refine x_goto (tgt := 4) dX5_leaveInOrder_43 (by decide) ?_
      (try simp only [b2i_eq0, b2i_ne0] at *)
      refine x_le (lv' := [some (.ref 0), some (.int p), some (.int (nI (nLv S p (i + 1)))), some (.int (nI (i + 1))), none]) (x_eq (ih trivial) rfl rfl ?_) ?_
      · rw [sLv]; simp [*]
      · rw [nLv]; simp [lvle, *]
    · refine x_aload_n dX5_leaveInOrder_27 rfl ?_
      refine x_iload_n dX5_leaveInOrder_28 rfl ?_
      refine x_iload dX5_leaveInOrder_29 rfl ?_
      refine x_calli [0, 1, 2, 3, 4, 5, 6, 7, 8, 9, 10, 11, 12, 13, 14] (x_iV dX5_leaveInOrder_31 mlX5_119 lbX5_move rfl rfl rfl rfl) (kX5_move l g _ _ _) (by decide) rfl rfl (by decide) (by decide) (by simp [Value.category]) rfl rfl (by decide +kernel) (fun v1 w1 h1 => ?_)
      obtain ⟨rfl, rfl⟩ := h1
      refine x_eq (w' := wS _) ?_ rfl rfl rfl
      refine x_if_ne (tgt := 40) dX5_leaveInOrder_34 (by decide) (fun c_34 => ?_) (fun c_34 => ?_)
      · first | refine x_iinc dX5_leaveInOrder_40 (by decide) rfl (nI_inc _) ?_ | refine x_iinc dX5_leaveInOrder_40 (by decide) rfl (inc_1 _) ?_
        refine x_goto (tgt := 4) dX5_leaveInOrder_43 (by decide) ?_
        (try simp only [b2i_eq0, b2i_ne0] at *)
        refine x_le (lv' := [some (.ref 0), some (.int p), some (.int (nI (nLv S p (i + 1)))), some (.int (nI (i + 1))), none]) (x_eq (ih trivial) rfl rfl ?_) ?_
        · rw [sLv]; simp [*]
        · rw [nLv]; simp [lvle, *]
      · first | refine x_iinc dX5_leaveInOrder_37 (by decide) rfl (nI_inc _) ?_ | refine x_iinc dX5_leaveInOrder_37 (by decide) rfl (inc_1 _) ?_
        first | refine x_iinc dX5_leaveInOrder_40 (by decide) rfl (nI_inc _) ?_ | refine x_iinc dX5_leaveInOrder_40 (by decide) rfl (inc_1 _) ?_
        refine x_goto (tgt := 4) dX5_leaveInOrder_43 (by decide) ?_
        (try simp only [b2i_eq0, b2i_ne0] at *)
        refine x_le (lv' := [some (.ref 0), some (.int p), some (.int (nI (nLv S p (i + 1)))), some (.int (nI (i + 1))), none]) (x_eq (ih trivial) rfl rfl ?_) ?_
        · rw [sLv]; simp [*]
        · rw [nLv]; simp [lvle, *]
  · refine x_iload_n dX5_leaveInOrder_4 rfl ?_
    refine x_bipush (v := 8) dX5_leaveInOrder_5 (by decide) ?_
    refine x_icmp_ge_t (tgt := 46) dX5_leaveInOrder_7 (by decide) (nI_le_of rfl (by decide) (Nat.le_refl _)) ?_
    refine x_aload_n dX5_leaveInOrder_46 rfl ?_
    refine x_getf dX5_leaveInOrder_47 flX5_12 rfl rfl ?_
    refine x_iload_n dX5_leaveInOrder_50 rfl ?_
    refine x_callv [1, 2, 3, 4, 5, 6] (x_iV dX5_leaveInOrder_51 mlX5_122 lbX4_remove rfl rfl rfl rfl) (kX4_remove l g _ _) (by decide) (by decide) (by decide) (by simp [Value.category]) rfl rfl (by decide +kernel) (fun w1 h1 => ?_)
    obtain rfl := h1
    refine x_eq ?_ rfl rfl (wS_P (agP_rem _ _))
    refine x_iload_n dX5_leaveInOrder_54 rfl ?_
    exact x_reti dX5_leaveInOrder_55 rfl rfl rfl (⟨_, rfl, rfl, rfl⟩)

set_option maxRecDepth 100000 in
set_option maxHeartbeats 4000000 in
theorem kX5_leaveInOrder (l : Launch) (g : XG) (S : MS) (p : Int32) : Ct l g MX5_leaveInOrder [.ref 0, .int p] (wS S) (Qi (fun v w1 => v = nI (nLv S p 8) ∧ w1 = wS (sLeave S p))) := by
  refine Ct_of (by decide) (by simp [Value.category]) (Nat.le_of_ble_eq_true rfl) ?_
  refine x_iconst (v := 0) dX5_leaveInOrder_0 (by decide) ?_
  refine x_istore_n dX5_leaveInOrder_1 (by decide) ?_
  refine x_iconst (v := 0) dX5_leaveInOrder_2 (by decide) ?_
  refine x_istore_n dX5_leaveInOrder_3 (by decide) ?_
  exact lpX5_leaveInOrder l g S p

set_option maxRecDepth 100000 in
set_option maxHeartbeats 4000000 in
theorem lpX5_removeCrashed (l : Launch) (g : XG) (S : MS) (p : Int32)  : XA l g MX5_removeCrashed (Qi (fun v w1 => v = nI (nCr S p 8) ∧ w1 = wS (sCrash S p))) 4 ((fun i => [some (.ref 0), some (.int p), some (.int (nI (nCr S p i))), some (.int (nI i)), none]) 0) ((fun _ => []) 0) ((fun i => wS (sCr S p i)) 0) 0 0 := by
  refine x_for 8 (fun _ => True) (fun i => [some (.ref 0), some (.int p), some (.int (nI (nCr S p i))), some (.int (nI i)), none]) (fun _ => []) (fun i => wS (sCr S p i)) trivial (fun i hi hp ih => ?_) (fun hp => ?_)
  · refine x_iload_n dX5_removeCrashed_4 rfl ?_
    refine x_bipush (v := 8) dX5_removeCrashed_5 (by decide) ?_
    refine x_icmp_ge_f (tgt := 63) dX5_removeCrashed_7 (by decide) (nI_nle_of rfl (by decide) hi) ?_
    refine x_aload_n dX5_removeCrashed_10 rfl ?_
    refine x_getf dX5_removeCrashed_11 flX5_21 rfl rfl ?_
    refine x_iload_n dX5_removeCrashed_14 rfl ?_
    refine x_iload_n dX5_removeCrashed_15 rfl ?_
    refine x_callp [7, 8, 9, 10, 11, 12, 13] (x_iV dX5_removeCrashed_16 mlX5_78 lbX2_fragmentOn rfl rfl rfl rfl) (kX2_fragmentOn l g _ _ _) (by decide) rfl rfl (by decide) (by decide) (by simp [Value.category]) rfl rfl (by decide +kernel) ?_
    refine x_istore dX5_removeCrashed_19 (by decide) ?_
    refine x_aload_n dX5_removeCrashed_21 rfl ?_
    refine x_getf dX5_removeCrashed_22 flX5_21 rfl rfl ?_
    refine x_iload_n dX5_removeCrashed_25 rfl ?_
    refine x_callp [7, 8, 9, 10, 11, 12, 13] (x_iV dX5_removeCrashed_26 mlX5_92 lbX2_ownerOf rfl rfl rfl rfl) (kX2_ownerOf l g _ _) (by decide) rfl rfl (by decide) (by decide) (by simp [Value.category]) rfl rfl (by decide +kernel) ?_
    refine x_iload_n dX5_removeCrashed_29 rfl ?_
    refine x_icmp_ne (tgt := 41) dX5_removeCrashed_30 (by decide) (fun c_30 => ?_) (fun c_30 => ?_)
    · refine x_iload dX5_removeCrashed_41 rfl ?_
      refine x_iconst (v := -1) dX5_removeCrashed_43 (by decide) ?_
      refine x_icmp_eq (tgt := 57) dX5_removeCrashed_44 (by decide) (fun c_44 => ?_) (fun c_44 => ?_)
      · first | refine x_iinc dX5_removeCrashed_57 (by decide) rfl (nI_inc _) ?_ | refine x_iinc dX5_removeCrashed_57 (by decide) rfl (inc_1 _) ?_
        refine x_goto (tgt := 4) dX5_removeCrashed_60 (by decide) ?_
        (try simp only [b2i_eq0, b2i_ne0] at *)
        refine x_le (lv' := [some (.ref 0), some (.int p), some (.int (nI (nCr S p (i + 1)))), some (.int (nI (i + 1))), none]) (x_eq (ih trivial) rfl rfl ?_) ?_
        · rw [sCr]; simp [*]
        · rw [nCr]; simp [lvle, *]
      · refine x_aload_n dX5_removeCrashed_47 rfl ?_
        refine x_iload_n dX5_removeCrashed_48 rfl ?_
        refine x_iload dX5_removeCrashed_49 rfl ?_
        refine x_callv [0, 1, 2, 3, 4, 5, 6, 7, 8, 9, 10, 11, 12, 13, 14] (x_iV dX5_removeCrashed_51 mlX5_109 lbX5_takeOff rfl rfl rfl rfl) (kX5_takeOff l g _ _ _) (by decide) (by decide) (by decide) (by simp [Value.category]) rfl rfl (by decide +kernel) (fun w1 h1 => ?_)
        obtain rfl := h1
        refine x_eq (w' := wS _) ?_ rfl rfl rfl
        first | refine x_iinc dX5_removeCrashed_54 (by decide) rfl (nI_inc _) ?_ | refine x_iinc dX5_removeCrashed_54 (by decide) rfl (inc_1 _) ?_
        first | refine x_iinc dX5_removeCrashed_57 (by decide) rfl (nI_inc _) ?_ | refine x_iinc dX5_removeCrashed_57 (by decide) rfl (inc_1 _) ?_
        refine x_goto (tgt := 4) dX5_removeCrashed_60 (by decide) ?_
        (try simp only [b2i_eq0, b2i_ne0] at *)
        refine x_le (lv' := [some (.ref 0), some (.int p), some (.int (nI (nCr S p (i + 1)))), some (.int (nI (i + 1))), none]) (x_eq (ih trivial) rfl rfl ?_) ?_
        · rw [sCr]; simp [*]
        · rw [nCr]; simp [lvle, *]
    · refine x_aload_n dX5_removeCrashed_33 rfl ?_
      refine x_iload_n dX5_removeCrashed_34 rfl ?_
      refine x_callv [0, 1, 2, 3, 4, 5, 6, 7, 8, 9, 10, 11, 12, 13, 14] (x_iV dX5_removeCrashed_35 mlX5_123 lbX5_removeFile rfl rfl rfl rfl) (kX5_removeFile l g _ _) (by decide) (by decide) (by decide) (by simp [Value.category]) rfl rfl (by decide +kernel) (fun w1 h1 => ?_)
      obtain rfl := h1
      refine x_eq (w' := wS _) ?_ rfl rfl rfl
      refine x_goto (tgt := 57) dX5_removeCrashed_38 (by decide) ?_
      first | refine x_iinc dX5_removeCrashed_57 (by decide) rfl (nI_inc _) ?_ | refine x_iinc dX5_removeCrashed_57 (by decide) rfl (inc_1 _) ?_
      refine x_goto (tgt := 4) dX5_removeCrashed_60 (by decide) ?_
      (try simp only [b2i_eq0, b2i_ne0] at *)
      refine x_le (lv' := [some (.ref 0), some (.int p), some (.int (nI (nCr S p (i + 1)))), some (.int (nI (i + 1))), none]) (x_eq (ih trivial) rfl rfl ?_) ?_
      · rw [sCr]; simp [*]
      · rw [nCr]; simp [lvle, *]
  · refine x_iload_n dX5_removeCrashed_4 rfl ?_
    refine x_bipush (v := 8) dX5_removeCrashed_5 (by decide) ?_
    refine x_icmp_ge_t (tgt := 63) dX5_removeCrashed_7 (by decide) (nI_le_of rfl (by decide) (Nat.le_refl _)) ?_
    refine x_aload_n dX5_removeCrashed_63 rfl ?_
    refine x_getf dX5_removeCrashed_64 flX5_12 rfl rfl ?_
    refine x_iload_n dX5_removeCrashed_67 rfl ?_
    refine x_callv [1, 2, 3, 4, 5, 6] (x_iV dX5_removeCrashed_68 mlX5_122 lbX4_remove rfl rfl rfl rfl) (kX4_remove l g _ _) (by decide) (by decide) (by decide) (by simp [Value.category]) rfl rfl (by decide +kernel) (fun w1 h1 => ?_)
    obtain rfl := h1
    refine x_eq ?_ rfl rfl (wS_P (agP_rem _ _))
    refine x_iload_n dX5_removeCrashed_71 rfl ?_
    exact x_reti dX5_removeCrashed_72 rfl rfl rfl (⟨_, rfl, rfl, rfl⟩)

set_option maxRecDepth 100000 in
set_option maxHeartbeats 4000000 in
theorem kX5_removeCrashed (l : Launch) (g : XG) (S : MS) (p : Int32) : Ct l g MX5_removeCrashed [.ref 0, .int p] (wS S) (Qi (fun v w1 => v = nI (nCr S p 8) ∧ w1 = wS (sCrash S p))) := by
  refine Ct_of (by decide) (by simp [Value.category]) (Nat.le_of_ble_eq_true rfl) ?_
  refine x_iconst (v := 0) dX5_removeCrashed_0 (by decide) ?_
  refine x_istore_n dX5_removeCrashed_1 (by decide) ?_
  refine x_iconst (v := 0) dX5_removeCrashed_2 (by decide) ?_
  refine x_istore_n dX5_removeCrashed_3 (by decide) ?_
  exact lpX5_removeCrashed l g S p
