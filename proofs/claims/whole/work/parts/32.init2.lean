set_option maxRecDepth 100000 in
set_option maxHeartbeats 4000000 in
theorem kX5_init (l : Launch) (g : XG)  : Ct l g MX5_init [.ref 0] ([.inr (.inr (5, [.null, .null, .null, .int 0]))]) (Qv (fun w1 => w1 = wS zS)) := by
  refine Ct_of (by decide) (by simp [Value.category]) (Nat.le_of_ble_eq_true rfl) ?_
  refine x_aload_n dX5_init_0 rfl ?_
  refine x_objInit dX5_init_1 mlX5_3 w_oi1 w_oi2 (by decide) (by decide) ?_
  refine x_aload_n dX5_init_4 rfl ?_
  refine x_new (ci := 4) dX5_init_5 rfl clX5_9 xdf_4 (by decide) (by decide) ?_
  refine x_dup dX5_init_8 rfl ?_
  refine x_callv [1] (x_iIN dX5_init_9 mlX5_11 lbX4_init rfl) (kX4_init l g) (by decide) (by decide) (by decide) (by simp [Value.category]) rfl rfl (by decide +kernel) (fun w1 h1 => ?_)
  obtain rfl := h1
  show XA _ _ _ _ _ _ _ ([.inr (.inr (5, [.null, .null, .null, .int 0])), .inr (.inr (4, [.ref 2, .ref 3, .ref 4, .ref 5, .ref 6])), .inl (row 12 (zS 0)), .inl (row 12 (zS 1)), .inl (row 12 (zS 2)), .inl (row 12 (zS 3)), .inl (row 144 (zS 4))]) _ _
  refine x_putr dX5_init_12 flX5_12 xff_5_0 rfl rfl (Nat.le_of_ble_eq_true rfl) ?_
  refine x_aload_n dX5_init_15 rfl ?_
  refine x_new (ci := 2) dX5_init_16 rfl clX5_18 xdf_2 (by decide) (by decide) ?_
  refine x_dup dX5_init_19 rfl ?_
  refine x_callv [7] (x_iI dX5_init_20 mlX5_20 lbX2_init rfl) (kX2_init l g) (by decide) (by decide) (by decide) (by simp [Value.category]) rfl rfl (by decide +kernel) (fun w1 h1 => ?_)
  obtain rfl := h1
  show XA _ _ _ _ _ _ _ ([.inr (.inr (5, [.ref 1, .null, .null, .int 0])), .inr (.inr (4, [.ref 2, .ref 3, .ref 4, .ref 5, .ref 6])), .inl (row 12 (zS 0)), .inl (row 12 (zS 1)), .inl (row 12 (zS 2)), .inl (row 12 (zS 3)), .inl (row 144 (zS 4)), .inr (.inr (2, [.ref 8, .ref 9, .ref 10, .ref 11, .ref 12, .ref 13])), .inl (row 8 (zS 5)), .inl (row 8 (zS 6)), .inl (row 8 (zS 7)), .inl (row 80 (zS 8)), .inl (row 80 (zS 9)), .inl (row 80 (zS 10))]) _ _
  refine x_putr dX5_init_23 flX5_21 xff_5_1 rfl rfl (Nat.le_of_ble_eq_true rfl) ?_
  refine x_aload_n dX5_init_26 rfl ?_
  refine x_bipush (v := 6) dX5_init_27 (by decide) ?_
  refine x_newi (N := 6) dX5_init_29 w_ia (by decide) (by decide) (by decide) (by decide) (by decide) ?_
  rw [row_rep]
  refine x_putr dX5_init_31 flX5_25 xff_5_2 rfl rfl (Nat.le_of_ble_eq_true rfl) ?_
  exact x_retv dX5_init_34 rfl rfl rfl (⟨rfl, rfl⟩)

set_option maxRecDepth 100000 in
set_option maxHeartbeats 4000000 in
theorem kX0_init (l : Launch) (g : XG)  : Ct l g MX0_init [.ref 0] ([.inr (.inr (0, [.null, .int 0]))]) (Qv (fun w1 => w1 = [.inr (.inr (0, [.ref 1, .int 0])), .inl (row 8 (fun _ => (0 : Int32)))])) := by
  refine Ct_of (by decide) (by simp [Value.category]) (Nat.le_of_ble_eq_true rfl) ?_
  refine x_aload_n dX0_init_0 rfl ?_
  refine x_objInit dX0_init_1 mlX0_3 w_oi1 w_oi2 (by decide) (by decide) ?_
  refine x_aload_n dX0_init_4 rfl ?_
  refine x_bipush (v := 8) dX0_init_5 (by decide) ?_
  refine x_newi (N := 8) dX0_init_7 w_ia (by decide) (by decide) (by decide) (by decide) (by decide) ?_
  rw [row_rep]
  refine x_putr dX0_init_9 flX0_9 xff_0_0 rfl rfl (Nat.le_of_ble_eq_true rfl) ?_
  exact x_retv dX0_init_12 rfl rfl rfl (⟨rfl, rfl⟩)

set_option maxRecDepth 100000 in
set_option maxHeartbeats 4000000 in
theorem kX1_init (l : Launch) (g : XG)  : Ct l g MX1_init [.ref 0] ([.inr (.inr (1, [.null, .int 0]))]) (Qv (fun w1 => w1 = [.inr (.inr (1, [.ref 1, .int 0])), .inl (row 42 (fun _ => (0 : Int32)))])) := by
  refine Ct_of (by decide) (by simp [Value.category]) (Nat.le_of_ble_eq_true rfl) ?_
  refine x_aload_n dX1_init_0 rfl ?_
  refine x_objInit dX1_init_1 mlX1_3 w_oi1 w_oi2 (by decide) (by decide) ?_
  refine x_aload_n dX1_init_4 rfl ?_
  refine x_bipush (v := 42) dX1_init_5 (by decide) ?_
  refine x_newi (N := 42) dX1_init_7 w_ia (by decide) (by decide) (by decide) (by decide) (by decide) ?_
  rw [row_rep]
  refine x_putr dX1_init_9 flX1_11 xff_1_0 rfl rfl (Nat.le_of_ble_eq_true rfl) ?_
  exact x_retv dX1_init_12 rfl rfl rfl (⟨rfl, rfl⟩)

set_option maxRecDepth 100000 in
set_option maxHeartbeats 4000000 in
theorem kX3_init (l : Launch) (g : XG)  : Ct l g MX3_init [.ref 0] ([.inr (.inr (3, [.null, .int 0]))]) (Qv (fun w1 => w1 = [.inr (.inr (3, [.ref 1, .int 0])), .inr (.inl [some 2, some 17, some 32, some 47, some 62]), .inr (.inr (5, [.ref 3, .ref 9, .ref 16, .int (zS 12 0)])), .inr (.inr (4, [.ref 4, .ref 5, .ref 6, .ref 7, .ref 8])), .inl (row 12 (zS 0)), .inl (row 12 (zS 1)), .inl (row 12 (zS 2)), .inl (row 12 (zS 3)), .inl (row 144 (zS 4)), .inr (.inr (2, [.ref 10, .ref 11, .ref 12, .ref 13, .ref 14, .ref 15])), .inl (row 8 (zS 5)), .inl (row 8 (zS 6)), .inl (row 8 (zS 7)), .inl (row 80 (zS 8)), .inl (row 80 (zS 9)), .inl (row 80 (zS 10)), .inl (row 6 (zS 11)), .inr (.inr (5, [.ref 18, .ref 24, .ref 31, .int (zS 12 0)])), .inr (.inr (4, [.ref 19, .ref 20, .ref 21, .ref 22, .ref 23])), .inl (row 12 (zS 0)), .inl (row 12 (zS 1)), .inl (row 12 (zS 2)), .inl (row 12 (zS 3)), .inl (row 144 (zS 4)), .inr (.inr (2, [.ref 25, .ref 26, .ref 27, .ref 28, .ref 29, .ref 30])), .inl (row 8 (zS 5)), .inl (row 8 (zS 6)), .inl (row 8 (zS 7)), .inl (row 80 (zS 8)), .inl (row 80 (zS 9)), .inl (row 80 (zS 10)), .inl (row 6 (zS 11)), .inr (.inr (5, [.ref 33, .ref 39, .ref 46, .int (zS 12 0)])), .inr (.inr (4, [.ref 34, .ref 35, .ref 36, .ref 37, .ref 38])), .inl (row 12 (zS 0)), .inl (row 12 (zS 1)), .inl (row 12 (zS 2)), .inl (row 12 (zS 3)), .inl (row 144 (zS 4)), .inr (.inr (2, [.ref 40, .ref 41, .ref 42, .ref 43, .ref 44, .ref 45])), .inl (row 8 (zS 5)), .inl (row 8 (zS 6)), .inl (row 8 (zS 7)), .inl (row 80 (zS 8)), .inl (row 80 (zS 9)), .inl (row 80 (zS 10)), .inl (row 6 (zS 11)), .inr (.inr (5, [.ref 48, .ref 54, .ref 61, .int (zS 12 0)])), .inr (.inr (4, [.ref 49, .ref 50, .ref 51, .ref 52, .ref 53])), .inl (row 12 (zS 0)), .inl (row 12 (zS 1)), .inl (row 12 (zS 2)), .inl (row 12 (zS 3)), .inl (row 144 (zS 4)), .inr (.inr (2, [.ref 55, .ref 56, .ref 57, .ref 58, .ref 59, .ref 60])), .inl (row 8 (zS 5)), .inl (row 8 (zS 6)), .inl (row 8 (zS 7)), .inl (row 80 (zS 8)), .inl (row 80 (zS 9)), .inl (row 80 (zS 10)), .inl (row 6 (zS 11)), .inr (.inr (5, [.ref 63, .ref 69, .ref 76, .int (zS 12 0)])), .inr (.inr (4, [.ref 64, .ref 65, .ref 66, .ref 67, .ref 68])), .inl (row 12 (zS 0)), .inl (row 12 (zS 1)), .inl (row 12 (zS 2)), .inl (row 12 (zS 3)), .inl (row 144 (zS 4)), .inr (.inr (2, [.ref 70, .ref 71, .ref 72, .ref 73, .ref 74, .ref 75])), .inl (row 8 (zS 5)), .inl (row 8 (zS 6)), .inl (row 8 (zS 7)), .inl (row 80 (zS 8)), .inl (row 80 (zS 9)), .inl (row 80 (zS 10)), .inl (row 6 (zS 11))])) := by
  refine Ct_of (by decide) (by simp [Value.category]) (Nat.le_of_ble_eq_true rfl) ?_
  refine x_aload_n dX3_init_0 rfl ?_
  refine x_objInit dX3_init_1 mlX3_3 w_oi1 w_oi2 (by decide) (by decide) ?_
  refine x_aload_n dX3_init_4 rfl ?_
  refine x_iconst (v := 5) dX3_init_5 (by decide) ?_
  refine x_newr (N := 5) dX3_init_6 clX3_9 (by decide) (by decide) (by decide) (by decide) (by decide) ?_
  refine x_putr dX3_init_9 flX3_11 xff_3_0 rfl rfl (Nat.le_of_ble_eq_true rfl) ?_
  refine x_iconst (v := 0) dX3_init_12 (by decide) ?_
  refine x_istore_n dX3_init_13 (by decide) ?_
  refine x_iload_n dX3_init_14 rfl ?_
  refine x_iconst (v := 5) dX3_init_15 (by decide) ?_
  refine x_icmp_ge_f (tgt := 38) dX3_init_16 (by decide) (by decide) ?_
  refine x_aload_n dX3_init_19 rfl ?_
  refine x_getf dX3_init_20 flX3_11 rfl rfl ?_
  refine x_iload_n dX3_init_23 rfl ?_
  refine x_new (ci := 5) dX3_init_24 rfl clX3_9 xdf_5 (by decide) (by decide) ?_
  refine x_dup dX3_init_27 rfl ?_
  refine x_callv [2] (x_iIN dX3_init_28 mlX3_17 lbX5_init rfl) (kX5_init l g) (by decide) (by decide) (by decide) (by simp [Value.category]) rfl rfl (by decide +kernel) (fun w1 h1 => ?_)
  obtain rfl := h1
  show XA _ _ _ _ _ _ _ ([.inr (.inr (3, [.ref 1, .int 0])), .inr (.inl [none, none, none, none, none]), .inr (.inr (5, [.ref 3, .ref 9, .ref 16, .int (zS 12 0)])), .inr (.inr (4, [.ref 4, .ref 5, .ref 6, .ref 7, .ref 8])), .inl (row 12 (zS 0)), .inl (row 12 (zS 1)), .inl (row 12 (zS 2)), .inl (row 12 (zS 3)), .inl (row 144 (zS 4)), .inr (.inr (2, [.ref 10, .ref 11, .ref 12, .ref 13, .ref 14, .ref 15])), .inl (row 8 (zS 5)), .inl (row 8 (zS 6)), .inl (row 8 (zS 7)), .inl (row 80 (zS 8)), .inl (row 80 (zS 9)), .inl (row 80 (zS 10)), .inl (row 6 (zS 11))]) _ _
  refine x_aask dX3_init_31 rfl (⟨ixl (k := 0) (by decide) (by decide) (by decide), rfl⟩) rfl ?_
  refine x_iinc dX3_init_32 (by decide) rfl (show (0 : Int32) + Int32.ofInt 1 = 1 by decide) ?_
  refine x_goto (tgt := 14) dX3_init_35 (by decide) ?_
  refine x_iload_n dX3_init_14 rfl ?_
  refine x_iconst (v := 5) dX3_init_15 (by decide) ?_
  refine x_icmp_ge_f (tgt := 38) dX3_init_16 (by decide) (by decide) ?_
  refine x_aload_n dX3_init_19 rfl ?_
  refine x_getf dX3_init_20 flX3_11 rfl rfl ?_
  refine x_iload_n dX3_init_23 rfl ?_
  refine x_new (ci := 5) dX3_init_24 rfl clX3_9 xdf_5 (by decide) (by decide) ?_
  refine x_dup dX3_init_27 rfl ?_
  refine x_callv [17] (x_iIN dX3_init_28 mlX3_17 lbX5_init rfl) (kX5_init l g) (by decide) (by decide) (by decide) (by simp [Value.category]) rfl rfl (by decide +kernel) (fun w1 h1 => ?_)
  obtain rfl := h1
  show XA _ _ _ _ _ _ _ ([.inr (.inr (3, [.ref 1, .int 0])), .inr (.inl [some 2, none, none, none, none]), .inr (.inr (5, [.ref 3, .ref 9, .ref 16, .int (zS 12 0)])), .inr (.inr (4, [.ref 4, .ref 5, .ref 6, .ref 7, .ref 8])), .inl (row 12 (zS 0)), .inl (row 12 (zS 1)), .inl (row 12 (zS 2)), .inl (row 12 (zS 3)), .inl (row 144 (zS 4)), .inr (.inr (2, [.ref 10, .ref 11, .ref 12, .ref 13, .ref 14, .ref 15])), .inl (row 8 (zS 5)), .inl (row 8 (zS 6)), .inl (row 8 (zS 7)), .inl (row 80 (zS 8)), .inl (row 80 (zS 9)), .inl (row 80 (zS 10)), .inl (row 6 (zS 11)), .inr (.inr (5, [.ref 18, .ref 24, .ref 31, .int (zS 12 0)])), .inr (.inr (4, [.ref 19, .ref 20, .ref 21, .ref 22, .ref 23])), .inl (row 12 (zS 0)), .inl (row 12 (zS 1)), .inl (row 12 (zS 2)), .inl (row 12 (zS 3)), .inl (row 144 (zS 4)), .inr (.inr (2, [.ref 25, .ref 26, .ref 27, .ref 28, .ref 29, .ref 30])), .inl (row 8 (zS 5)), .inl (row 8 (zS 6)), .inl (row 8 (zS 7)), .inl (row 80 (zS 8)), .inl (row 80 (zS 9)), .inl (row 80 (zS 10)), .inl (row 6 (zS 11))]) _ _
  refine x_aask dX3_init_31 rfl (⟨ixl (k := 1) (by decide) (by decide) (by decide), rfl⟩) rfl ?_
  refine x_iinc dX3_init_32 (by decide) rfl (show (1 : Int32) + Int32.ofInt 1 = 2 by decide) ?_
  refine x_goto (tgt := 14) dX3_init_35 (by decide) ?_
  refine x_iload_n dX3_init_14 rfl ?_
  refine x_iconst (v := 5) dX3_init_15 (by decide) ?_
  refine x_icmp_ge_f (tgt := 38) dX3_init_16 (by decide) (by decide) ?_
  refine x_aload_n dX3_init_19 rfl ?_
  refine x_getf dX3_init_20 flX3_11 rfl rfl ?_
  refine x_iload_n dX3_init_23 rfl ?_
  refine x_new (ci := 5) dX3_init_24 rfl clX3_9 xdf_5 (by decide) (by decide) ?_
  refine x_dup dX3_init_27 rfl ?_
  refine x_callv [32] (x_iIN dX3_init_28 mlX3_17 lbX5_init rfl) (kX5_init l g) (by decide) (by decide) (by decide) (by simp [Value.category]) rfl rfl (by decide +kernel) (fun w1 h1 => ?_)
  obtain rfl := h1
  show XA _ _ _ _ _ _ _ ([.inr (.inr (3, [.ref 1, .int 0])), .inr (.inl [some 2, some 17, none, none, none]), .inr (.inr (5, [.ref 3, .ref 9, .ref 16, .int (zS 12 0)])), .inr (.inr (4, [.ref 4, .ref 5, .ref 6, .ref 7, .ref 8])), .inl (row 12 (zS 0)), .inl (row 12 (zS 1)), .inl (row 12 (zS 2)), .inl (row 12 (zS 3)), .inl (row 144 (zS 4)), .inr (.inr (2, [.ref 10, .ref 11, .ref 12, .ref 13, .ref 14, .ref 15])), .inl (row 8 (zS 5)), .inl (row 8 (zS 6)), .inl (row 8 (zS 7)), .inl (row 80 (zS 8)), .inl (row 80 (zS 9)), .inl (row 80 (zS 10)), .inl (row 6 (zS 11)), .inr (.inr (5, [.ref 18, .ref 24, .ref 31, .int (zS 12 0)])), .inr (.inr (4, [.ref 19, .ref 20, .ref 21, .ref 22, .ref 23])), .inl (row 12 (zS 0)), .inl (row 12 (zS 1)), .inl (row 12 (zS 2)), .inl (row 12 (zS 3)), .inl (row 144 (zS 4)), .inr (.inr (2, [.ref 25, .ref 26, .ref 27, .ref 28, .ref 29, .ref 30])), .inl (row 8 (zS 5)), .inl (row 8 (zS 6)), .inl (row 8 (zS 7)), .inl (row 80 (zS 8)), .inl (row 80 (zS 9)), .inl (row 80 (zS 10)), .inl (row 6 (zS 11)), .inr (.inr (5, [.ref 33, .ref 39, .ref 46, .int (zS 12 0)])), .inr (.inr (4, [.ref 34, .ref 35, .ref 36, .ref 37, .ref 38])), .inl (row 12 (zS 0)), .inl (row 12 (zS 1)), .inl (row 12 (zS 2)), .inl (row 12 (zS 3)), .inl (row 144 (zS 4)), .inr (.inr (2, [.ref 40, .ref 41, .ref 42, .ref 43, .ref 44, .ref 45])), .inl (row 8 (zS 5)), .inl (row 8 (zS 6)), .inl (row 8 (zS 7)), .inl (row 80 (zS 8)), .inl (row 80 (zS 9)), .inl (row 80 (zS 10)), .inl (row 6 (zS 11))]) _ _
  refine x_aask dX3_init_31 rfl (⟨ixl (k := 2) (by decide) (by decide) (by decide), rfl⟩) rfl ?_
  refine x_iinc dX3_init_32 (by decide) rfl (show (2 : Int32) + Int32.ofInt 1 = 3 by decide) ?_
  refine x_goto (tgt := 14) dX3_init_35 (by decide) ?_
  refine x_iload_n dX3_init_14 rfl ?_
  refine x_iconst (v := 5) dX3_init_15 (by decide) ?_
  refine x_icmp_ge_f (tgt := 38) dX3_init_16 (by decide) (by decide) ?_
  refine x_aload_n dX3_init_19 rfl ?_
  refine x_getf dX3_init_20 flX3_11 rfl rfl ?_
  refine x_iload_n dX3_init_23 rfl ?_
  refine x_new (ci := 5) dX3_init_24 rfl clX3_9 xdf_5 (by decide) (by decide) ?_
  refine x_dup dX3_init_27 rfl ?_
  refine x_callv [47] (x_iIN dX3_init_28 mlX3_17 lbX5_init rfl) (kX5_init l g) (by decide) (by decide) (by decide) (by simp [Value.category]) rfl rfl (by decide +kernel) (fun w1 h1 => ?_)
  obtain rfl := h1
  show XA _ _ _ _ _ _ _ ([.inr (.inr (3, [.ref 1, .int 0])), .inr (.inl [some 2, some 17, some 32, none, none]), .inr (.inr (5, [.ref 3, .ref 9, .ref 16, .int (zS 12 0)])), .inr (.inr (4, [.ref 4, .ref 5, .ref 6, .ref 7, .ref 8])), .inl (row 12 (zS 0)), .inl (row 12 (zS 1)), .inl (row 12 (zS 2)), .inl (row 12 (zS 3)), .inl (row 144 (zS 4)), .inr (.inr (2, [.ref 10, .ref 11, .ref 12, .ref 13, .ref 14, .ref 15])), .inl (row 8 (zS 5)), .inl (row 8 (zS 6)), .inl (row 8 (zS 7)), .inl (row 80 (zS 8)), .inl (row 80 (zS 9)), .inl (row 80 (zS 10)), .inl (row 6 (zS 11)), .inr (.inr (5, [.ref 18, .ref 24, .ref 31, .int (zS 12 0)])), .inr (.inr (4, [.ref 19, .ref 20, .ref 21, .ref 22, .ref 23])), .inl (row 12 (zS 0)), .inl (row 12 (zS 1)), .inl (row 12 (zS 2)), .inl (row 12 (zS 3)), .inl (row 144 (zS 4)), .inr (.inr (2, [.ref 25, .ref 26, .ref 27, .ref 28, .ref 29, .ref 30])), .inl (row 8 (zS 5)), .inl (row 8 (zS 6)), .inl (row 8 (zS 7)), .inl (row 80 (zS 8)), .inl (row 80 (zS 9)), .inl (row 80 (zS 10)), .inl (row 6 (zS 11)), .inr (.inr (5, [.ref 33, .ref 39, .ref 46, .int (zS 12 0)])), .inr (.inr (4, [.ref 34, .ref 35, .ref 36, .ref 37, .ref 38])), .inl (row 12 (zS 0)), .inl (row 12 (zS 1)), .inl (row 12 (zS 2)), .inl (row 12 (zS 3)), .inl (row 144 (zS 4)), .inr (.inr (2, [.ref 40, .ref 41, .ref 42, .ref 43, .ref 44, .ref 45])), .inl (row 8 (zS 5)), .inl (row 8 (zS 6)), .inl (row 8 (zS 7)), .inl (row 80 (zS 8)), .inl (row 80 (zS 9)), .inl (row 80 (zS 10)), .inl (row 6 (zS 11)), .inr (.inr (5, [.ref 48, .ref 54, .ref 61, .int (zS 12 0)])), .inr (.inr (4, [.ref 49, .ref 50, .ref 51, .ref 52, .ref 53])), .inl (row 12 (zS 0)), .inl (row 12 (zS 1)), .inl (row 12 (zS 2)), .inl (row 12 (zS 3)), .inl (row 144 (zS 4)), .inr (.inr (2, [.ref 55, .ref 56, .ref 57, .ref 58, .ref 59, .ref 60])), .inl (row 8 (zS 5)), .inl (row 8 (zS 6)), .inl (row 8 (zS 7)), .inl (row 80 (zS 8)), .inl (row 80 (zS 9)), .inl (row 80 (zS 10)), .inl (row 6 (zS 11))]) _ _
  refine x_aask dX3_init_31 rfl (⟨ixl (k := 3) (by decide) (by decide) (by decide), rfl⟩) rfl ?_
  refine x_iinc dX3_init_32 (by decide) rfl (show (3 : Int32) + Int32.ofInt 1 = 4 by decide) ?_
  refine x_goto (tgt := 14) dX3_init_35 (by decide) ?_
  refine x_iload_n dX3_init_14 rfl ?_
  refine x_iconst (v := 5) dX3_init_15 (by decide) ?_
  refine x_icmp_ge_f (tgt := 38) dX3_init_16 (by decide) (by decide) ?_
  refine x_aload_n dX3_init_19 rfl ?_
  refine x_getf dX3_init_20 flX3_11 rfl rfl ?_
  refine x_iload_n dX3_init_23 rfl ?_
  refine x_new (ci := 5) dX3_init_24 rfl clX3_9 xdf_5 (by decide) (by decide) ?_
  refine x_dup dX3_init_27 rfl ?_
  refine x_callv [62] (x_iIN dX3_init_28 mlX3_17 lbX5_init rfl) (kX5_init l g) (by decide) (by decide) (by decide) (by simp [Value.category]) rfl rfl (by decide +kernel) (fun w1 h1 => ?_)
  obtain rfl := h1
  show XA _ _ _ _ _ _ _ ([.inr (.inr (3, [.ref 1, .int 0])), .inr (.inl [some 2, some 17, some 32, some 47, none]), .inr (.inr (5, [.ref 3, .ref 9, .ref 16, .int (zS 12 0)])), .inr (.inr (4, [.ref 4, .ref 5, .ref 6, .ref 7, .ref 8])), .inl (row 12 (zS 0)), .inl (row 12 (zS 1)), .inl (row 12 (zS 2)), .inl (row 12 (zS 3)), .inl (row 144 (zS 4)), .inr (.inr (2, [.ref 10, .ref 11, .ref 12, .ref 13, .ref 14, .ref 15])), .inl (row 8 (zS 5)), .inl (row 8 (zS 6)), .inl (row 8 (zS 7)), .inl (row 80 (zS 8)), .inl (row 80 (zS 9)), .inl (row 80 (zS 10)), .inl (row 6 (zS 11)), .inr (.inr (5, [.ref 18, .ref 24, .ref 31, .int (zS 12 0)])), .inr (.inr (4, [.ref 19, .ref 20, .ref 21, .ref 22, .ref 23])), .inl (row 12 (zS 0)), .inl (row 12 (zS 1)), .inl (row 12 (zS 2)), .inl (row 12 (zS 3)), .inl (row 144 (zS 4)), .inr (.inr (2, [.ref 25, .ref 26, .ref 27, .ref 28, .ref 29, .ref 30])), .inl (row 8 (zS 5)), .inl (row 8 (zS 6)), .inl (row 8 (zS 7)), .inl (row 80 (zS 8)), .inl (row 80 (zS 9)), .inl (row 80 (zS 10)), .inl (row 6 (zS 11)), .inr (.inr (5, [.ref 33, .ref 39, .ref 46, .int (zS 12 0)])), .inr (.inr (4, [.ref 34, .ref 35, .ref 36, .ref 37, .ref 38])), .inl (row 12 (zS 0)), .inl (row 12 (zS 1)), .inl (row 12 (zS 2)), .inl (row 12 (zS 3)), .inl (row 144 (zS 4)), .inr (.inr (2, [.ref 40, .ref 41, .ref 42, .ref 43, .ref 44, .ref 45])), .inl (row 8 (zS 5)), .inl (row 8 (zS 6)), .inl (row 8 (zS 7)), .inl (row 80 (zS 8)), .inl (row 80 (zS 9)), .inl (row 80 (zS 10)), .inl (row 6 (zS 11)), .inr (.inr (5, [.ref 48, .ref 54, .ref 61, .int (zS 12 0)])), .inr (.inr (4, [.ref 49, .ref 50, .ref 51, .ref 52, .ref 53])), .inl (row 12 (zS 0)), .inl (row 12 (zS 1)), .inl (row 12 (zS 2)), .inl (row 12 (zS 3)), .inl (row 144 (zS 4)), .inr (.inr (2, [.ref 55, .ref 56, .ref 57, .ref 58, .ref 59, .ref 60])), .inl (row 8 (zS 5)), .inl (row 8 (zS 6)), .inl (row 8 (zS 7)), .inl (row 80 (zS 8)), .inl (row 80 (zS 9)), .inl (row 80 (zS 10)), .inl (row 6 (zS 11)), .inr (.inr (5, [.ref 63, .ref 69, .ref 76, .int (zS 12 0)])), .inr (.inr (4, [.ref 64, .ref 65, .ref 66, .ref 67, .ref 68])), .inl (row 12 (zS 0)), .inl (row 12 (zS 1)), .inl (row 12 (zS 2)), .inl (row 12 (zS 3)), .inl (row 144 (zS 4)), .inr (.inr (2, [.ref 70, .ref 71, .ref 72, .ref 73, .ref 74, .ref 75])), .inl (row 8 (zS 5)), .inl (row 8 (zS 6)), .inl (row 8 (zS 7)), .inl (row 80 (zS 8)), .inl (row 80 (zS 9)), .inl (row 80 (zS 10)), .inl (row 6 (zS 11))]) _ _
  refine x_aask dX3_init_31 rfl (⟨ixl (k := 4) (by decide) (by decide) (by decide), rfl⟩) rfl ?_
  refine x_iinc dX3_init_32 (by decide) rfl (show (4 : Int32) + Int32.ofInt 1 = 5 by decide) ?_
  refine x_goto (tgt := 14) dX3_init_35 (by decide) ?_
  refine x_iload_n dX3_init_14 rfl ?_
  refine x_iconst (v := 5) dX3_init_15 (by decide) ?_
  refine x_icmp_ge_t (tgt := 38) dX3_init_16 (by decide) (by decide) ?_
  exact x_retv dX3_init_38 rfl rfl rfl (⟨rfl, rfl⟩)

set_option maxRecDepth 100000 in
set_option maxHeartbeats 4000000 in
theorem kX7_init (l : Launch) (g : XG)  : Ct l g MX7_init [.ref 0] ([.inr (.inr (7, [.null, .null, .null, .null, .int 0, .null]))]) (Qv (fun w1 => w1 = [.inr (.inr (7, [.ref 1, .ref 2, .ref 3, .ref 4, .int 0, .ref 5])), .inl (row 439 (fun _ => (0 : Int32))), .inl (row 439 (fun _ => (0 : Int32))), .inl (row 439 (fun _ => (0 : Int32))), .inl (row 2195 (fun _ => (0 : Int32))), .inl (row 42 (fun _ => (0 : Int32)))])) := by
  refine Ct_of (by decide) (by simp [Value.category]) (Nat.le_of_ble_eq_true rfl) ?_
  refine x_aload_n dX7_init_0 rfl ?_
  refine x_objInit dX7_init_1 mlX7_1 w_oi1 w_oi2 (by decide) (by decide) ?_
  refine x_aload_n dX7_init_4 rfl ?_
  refine x_sipush (v := 439) dX7_init_5 (by decide) ?_
  refine x_newi (N := 439) dX7_init_8 w_ia (by decide) (by decide) (by decide) (by decide) (by decide) ?_
  rw [row_rep]
  refine x_putr dX7_init_10 flX7_7 xff_7_0 rfl rfl (Nat.le_of_ble_eq_true rfl) ?_
  refine x_aload_n dX7_init_13 rfl ?_
  refine x_sipush (v := 439) dX7_init_14 (by decide) ?_
  refine x_newi (N := 439) dX7_init_17 w_ia (by decide) (by decide) (by decide) (by decide) (by decide) ?_
  rw [row_rep]
  refine x_putr dX7_init_19 flX7_13 xff_7_1 rfl rfl (Nat.le_of_ble_eq_true rfl) ?_
  refine x_aload_n dX7_init_22 rfl ?_
  refine x_sipush (v := 439) dX7_init_23 (by decide) ?_
  refine x_newi (N := 439) dX7_init_26 w_ia (by decide) (by decide) (by decide) (by decide) (by decide) ?_
  rw [row_rep]
  refine x_putr dX7_init_28 flX7_16 xff_7_2 rfl rfl (Nat.le_of_ble_eq_true rfl) ?_
  refine x_aload_n dX7_init_31 rfl ?_
  refine x_sipush (v := 2195) dX7_init_32 (by decide) ?_
  refine x_newi (N := 2195) dX7_init_35 w_ia (by decide) (by decide) (by decide) (by decide) (by decide) ?_
  rw [row_rep]
  refine x_putr dX7_init_37 flX7_19 xff_7_3 rfl rfl (Nat.le_of_ble_eq_true rfl) ?_
  refine x_aload_n dX7_init_40 rfl ?_
  refine x_bipush (v := 42) dX7_init_41 (by decide) ?_
  refine x_newi (N := 42) dX7_init_43 w_ia (by decide) (by decide) (by decide) (by decide) (by decide) ?_
  rw [row_rep]
  refine x_putr dX7_init_45 flX7_22 xff_7_5 rfl rfl (Nat.le_of_ble_eq_true rfl) ?_
  exact x_retv dX7_init_48 rfl rfl rfl (⟨rfl, rfl⟩)
