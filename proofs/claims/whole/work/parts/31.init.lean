theorem xdf_0 : xdf 0 [.null, .int 0] := fun q h => by
  cases h
  refine ⟨(xt_in (List.mem_of_getElem? (i := 163) (by decide +kernel)) rfl), (xt_in (List.mem_of_getElem? (i := 53) (by decide +kernel)) rfl), by simp, tyX0, tyX0_ok, fun j hj => ?_⟩
  replace hj : j < 2 := hj
  rcases (show j = 0 ∨ j = 1 by omega) with rfl | rfl <;> rfl
theorem xff_0_0 : xff RX0 0 0 := fun q h => by cases h; exact ⟨rfl, rfl, .array .int, by decide +kernel, fun a => ⟨rfl, rfl⟩⟩
theorem xdf_1 : xdf 1 [.null, .int 0] := fun q h => by
  cases h
  refine ⟨(xt_in (List.mem_of_getElem? (i := 177) (by decide +kernel)) rfl), (xt_in (List.mem_of_getElem? (i := 54) (by decide +kernel)) rfl), by simp, tyX1, tyX1_ok, fun j hj => ?_⟩
  replace hj : j < 2 := hj
  rcases (show j = 0 ∨ j = 1 by omega) with rfl | rfl <;> rfl
theorem xff_1_0 : xff RX1 1 0 := fun q h => by cases h; exact ⟨rfl, rfl, .array .int, by decide +kernel, fun a => ⟨rfl, rfl⟩⟩
theorem xdf_2 : xdf 2 [.null, .null, .null, .null, .null, .null] := fun q h => by
  cases h
  refine ⟨(xt_in (List.mem_of_getElem? (i := 100) (by decide +kernel)) rfl), (xt_in (List.mem_of_getElem? (i := 50) (by decide +kernel)) rfl), by simp, tyX2, tyX2_ok, fun j hj => ?_⟩
  replace hj : j < 6 := hj
  rcases (show j = 0 ∨ j = 1 ∨ j = 2 ∨ j = 3 ∨ j = 4 ∨ j = 5 by omega) with rfl | rfl | rfl | rfl | rfl | rfl <;> rfl
theorem xff_2_0 : xff RX2 2 0 := fun q h => by cases h; exact ⟨rfl, rfl, .array .int, by decide +kernel, fun a => ⟨rfl, rfl⟩⟩
theorem xff_2_1 : xff RX2 2 1 := fun q h => by cases h; exact ⟨rfl, rfl, .array .int, by decide +kernel, fun a => ⟨rfl, rfl⟩⟩
theorem xff_2_2 : xff RX2 2 2 := fun q h => by cases h; exact ⟨rfl, rfl, .array .int, by decide +kernel, fun a => ⟨rfl, rfl⟩⟩
theorem xff_2_3 : xff RX2 2 3 := fun q h => by cases h; exact ⟨rfl, rfl, .array .int, by decide +kernel, fun a => ⟨rfl, rfl⟩⟩
theorem xff_2_4 : xff RX2 2 4 := fun q h => by cases h; exact ⟨rfl, rfl, .array .int, by decide +kernel, fun a => ⟨rfl, rfl⟩⟩
theorem xff_2_5 : xff RX2 2 5 := fun q h => by cases h; exact ⟨rfl, rfl, .array .int, by decide +kernel, fun a => ⟨rfl, rfl⟩⟩
theorem xdf_3 : xdf 3 [.null, .int 0] := fun q h => by
  cases h
  refine ⟨(xt_in (List.mem_of_getElem? (i := 146) (by decide +kernel)) rfl), (xt_in (List.mem_of_getElem? (i := 52) (by decide +kernel)) rfl), by simp, tyX3, tyX3_ok, fun j hj => ?_⟩
  replace hj : j < 2 := hj
  rcases (show j = 0 ∨ j = 1 by omega) with rfl | rfl <;> rfl
theorem xff_3_0 : xff RX3 3 0 := fun q h => by cases h; exact ⟨rfl, rfl, .array (.object "PeerStorage$State"), by decide +kernel, fun a => ⟨rfl, rfl⟩⟩
theorem xdf_4 : xdf 4 [.null, .null, .null, .null, .null] := fun q h => by
  cases h
  refine ⟨(xt_in (List.mem_of_getElem? (i := 74) (by decide +kernel)) rfl), (xt_in (List.mem_of_getElem? (i := 49) (by decide +kernel)) rfl), by simp, tyX4, tyX4_ok, fun j hj => ?_⟩
  replace hj : j < 5 := hj
  rcases (show j = 0 ∨ j = 1 ∨ j = 2 ∨ j = 3 ∨ j = 4 by omega) with rfl | rfl | rfl | rfl | rfl <;> rfl
theorem xff_4_0 : xff RX4 4 0 := fun q h => by cases h; exact ⟨rfl, rfl, .array .int, by decide +kernel, fun a => ⟨rfl, rfl⟩⟩
theorem xff_4_1 : xff RX4 4 1 := fun q h => by cases h; exact ⟨rfl, rfl, .array .int, by decide +kernel, fun a => ⟨rfl, rfl⟩⟩
theorem xff_4_2 : xff RX4 4 2 := fun q h => by cases h; exact ⟨rfl, rfl, .array .int, by decide +kernel, fun a => ⟨rfl, rfl⟩⟩
theorem xff_4_3 : xff RX4 4 3 := fun q h => by cases h; exact ⟨rfl, rfl, .array .int, by decide +kernel, fun a => ⟨rfl, rfl⟩⟩
theorem xff_4_4 : xff RX4 4 4 := fun q h => by cases h; exact ⟨rfl, rfl, .array .int, by decide +kernel, fun a => ⟨rfl, rfl⟩⟩
theorem xdf_5 : xdf 5 [.null, .null, .null, .int 0] := fun q h => by
  cases h
  refine ⟨(xt_in (List.mem_of_getElem? (i := 68) (by decide +kernel)) rfl), (xt_in (List.mem_of_getElem? (i := 48) (by decide +kernel)) rfl), by simp, tyX5, tyX5_ok, fun j hj => ?_⟩
  replace hj : j < 4 := hj
  rcases (show j = 0 ∨ j = 1 ∨ j = 2 ∨ j = 3 by omega) with rfl | rfl | rfl | rfl <;> rfl
theorem xff_5_0 : xff RX5 5 0 := fun q h => by cases h; exact ⟨rfl, rfl, .object "PeerStorage$Peers", by decide +kernel, fun a => ⟨rfl, rfl⟩⟩
theorem xff_5_1 : xff RX5 5 1 := fun q h => by cases h; exact ⟨rfl, rfl, .object "PeerStorage$Files", by decide +kernel, fun a => ⟨rfl, rfl⟩⟩
theorem xff_5_2 : xff RX5 5 2 := fun q h => by cases h; exact ⟨rfl, rfl, .array .int, by decide +kernel, fun a => ⟨rfl, rfl⟩⟩
theorem xdf_6 : xdf 6 [.null, .null, .null, .null, .null, .null] := fun q h => by
  cases h
  refine ⟨(xt_in (List.mem_of_getElem? (i := 60) (by decide +kernel)) rfl), (xt_in (List.mem_of_getElem? (i := 47) (by decide +kernel)) rfl), by simp, tyX6, tyX6_ok, fun j hj => ?_⟩
  replace hj : j < 6 := hj
  rcases (show j = 0 ∨ j = 1 ∨ j = 2 ∨ j = 3 ∨ j = 4 ∨ j = 5 by omega) with rfl | rfl | rfl | rfl | rfl | rfl <;> rfl
theorem xff_6_0 : xff RX6 6 0 := fun q h => by cases h; exact ⟨rfl, rfl, .object "PeerStorage$State", by decide +kernel, fun a => ⟨rfl, rfl⟩⟩
theorem xff_6_1 : xff RX6 6 1 := fun q h => by cases h; exact ⟨rfl, rfl, .object "PeerStorage$History", by decide +kernel, fun a => ⟨rfl, rfl⟩⟩
theorem xff_6_2 : xff RX6 6 2 := fun q h => by cases h; exact ⟨rfl, rfl, .object "PeerStorage$Challenge", by decide +kernel, fun a => ⟨rfl, rfl⟩⟩
theorem xff_6_3 : xff RX6 6 3 := fun q h => by cases h; exact ⟨rfl, rfl, .object "PeerStorage$Decoder", by decide +kernel, fun a => ⟨rfl, rfl⟩⟩
theorem xff_6_4 : xff RX6 6 4 := fun q h => by cases h; exact ⟨rfl, rfl, .object "PeerStorage$State", by decide +kernel, fun a => ⟨rfl, rfl⟩⟩
theorem xff_6_5 : xff RX6 6 5 := fun q h => by cases h; exact ⟨rfl, rfl, .object "PeerStorage$State", by decide +kernel, fun a => ⟨rfl, rfl⟩⟩
theorem xdf_7 : xdf 7 [.null, .null, .null, .null, .int 0, .null] := fun q h => by
  cases h
  refine ⟨(xt_in (List.mem_of_getElem? (i := 696) (by decide +kernel)) rfl), (xt_in (List.mem_of_getElem? (i := 55) (by decide +kernel)) rfl), by simp, tyX7, tyX7_ok, fun j hj => ?_⟩
  replace hj : j < 6 := hj
  rcases (show j = 0 ∨ j = 1 ∨ j = 2 ∨ j = 3 ∨ j = 4 ∨ j = 5 by omega) with rfl | rfl | rfl | rfl | rfl | rfl <;> rfl
theorem xff_7_0 : xff RX7 7 0 := fun q h => by cases h; exact ⟨rfl, rfl, .array .int, by decide +kernel, fun a => ⟨rfl, rfl⟩⟩
theorem xff_7_1 : xff RX7 7 1 := fun q h => by cases h; exact ⟨rfl, rfl, .array .int, by decide +kernel, fun a => ⟨rfl, rfl⟩⟩
theorem xff_7_2 : xff RX7 7 2 := fun q h => by cases h; exact ⟨rfl, rfl, .array .int, by decide +kernel, fun a => ⟨rfl, rfl⟩⟩
theorem xff_7_3 : xff RX7 7 3 := fun q h => by cases h; exact ⟨rfl, rfl, .array .int, by decide +kernel, fun a => ⟨rfl, rfl⟩⟩
theorem xff_7_5 : xff RX7 7 5 := fun q h => by cases h; exact ⟨rfl, rfl, .array .int, by decide +kernel, fun a => ⟨rfl, rfl⟩⟩
/-- the first state -/
def zS : MS := fun t _ => if t = 7 ∨ t = 9 then -1 else 0
def filF (f : Nat → Int32) (v : Int32) (i : Nat) : Nat → Int32 := fun k => if k < i then v else f k
theorem filF_0 (n : Nat) (f : Nat → Int32) (v : Int32) : row n f = row n (filF f v 0) := row_congr fun k _ => by simp [filF]
theorem filF_n (n : Nat) (f : Nat → Int32) (v : Int32) : row n (filF f v n) = row n (fun _ => v) := row_congr fun k hk => by simp [filF, hk]
theorem filF_s (n : Nat) (f : Nat → Int32) (v : Int32) (i : Nat) : row n (upd (filF f v i) i v) = row n (filF f v (i + 1)) := row_congr fun k hk => by
  simp only [upd, filF]
  by_cases h : k = i
  · rw [if_pos h, if_pos (by omega)]
  · rw [if_neg h]
    by_cases h2 : k < i
    · rw [if_pos h2, if_pos (by omega)]
    · rw [if_neg h2, if_neg (by omega)]

set_option maxRecDepth 100000 in
set_option maxHeartbeats 4000000 in
theorem lpJ7_fill (l : Launch) (g : XG) (n : Nat) (f : Nat → Int32) (v : Int32) (hn : n < 2 ^ 31) : XA l g MJ7_fill_53178 (Qv (fun w1 => w1 = [.inl (row n (fun _ => v))])) 5 ((fun i => [some (.ref 0), some (.int v), some (.int (nI i)), some (.int (nI n))]) 0) ((fun _ => []) 0) ((fun i => [.inl (row n (filF f v i))]) 0) 0 0 := by
  refine x_for n (fun _ => True) (fun i => [some (.ref 0), some (.int v), some (.int (nI i)), some (.int (nI n))]) (fun _ => []) (fun i => [.inl (row n (filF f v i))]) trivial (fun i hi hp ih => ?_) (fun hp => ?_)
  · refine x_iload_n dJ7_fill_53178_5 rfl ?_
    refine x_iload_n dJ7_fill_53178_6 rfl ?_
    refine x_icmp_ge_f (tgt := 20) dJ7_fill_53178_7 (by decide) (nI_ge hi hn) ?_
    refine x_aload_n dJ7_fill_53178_10 rfl ?_
    refine x_iload_n dJ7_fill_53178_11 rfl ?_
    refine x_iload_n dJ7_fill_53178_12 rfl ?_
    refine x_iaw dJ7_fill_53178_13 rfl (ix_nI hi hn) ?_
    first | refine x_iinc dJ7_fill_53178_14 (by decide) rfl (nI_inc _) ?_ | refine x_iinc dJ7_fill_53178_14 (by decide) rfl (inc_1 _) ?_
    refine x_goto (tgt := 5) dJ7_fill_53178_17 (by decide) ?_
    refine x_eq (ih trivial) rfl rfl ?_
    exact congrArg (fun z => [(Sum.inl z : XC)]) (filF_s n f v i)
  · refine x_iload_n dJ7_fill_53178_5 rfl ?_
    refine x_iload_n dJ7_fill_53178_6 rfl ?_
    refine x_icmp_ge_t (tgt := 20) dJ7_fill_53178_7 (by decide) (nI_le (Nat.le_refl _) hn) ?_
    exact x_retv dJ7_fill_53178_20 rfl rfl rfl (⟨rfl, congrArg (fun z => [(Sum.inl z : XC)]) (filF_n n f v)⟩)

set_option maxRecDepth 100000 in
set_option maxHeartbeats 4000000 in
theorem kJ7_fill_53178 (l : Launch) (g : XG) (n : Nat) (f : Nat → Int32) (v : Int32) (hn : n < 2 ^ 31) : Ct l g MJ7_fill_53178 [.ref 0, .int v] ([.inl (row n f)]) (Qv (fun w1 => w1 = [.inl (row n (fun _ => v))])) := by
  refine Ct_of (by decide) (by simp [Value.category]) (Nat.le_of_ble_eq_true rfl) ?_
  refine x_iconst (v := 0) dJ7_fill_53178_0 (by decide) ?_
  refine x_istore_n dJ7_fill_53178_1 (by decide) ?_
  refine x_aload_n dJ7_fill_53178_2 rfl ?_
  refine x_alr dJ7_fill_53178_3 rfl ?_
  refine x_istore_n dJ7_fill_53178_4 (by decide) ?_
  refine x_eq (lpJ7_fill l g n f v hn) rfl rfl ?_
  exact congrArg (fun z => [(Sum.inl z : XC)]) (filF_0 n f v)

set_option maxRecDepth 100000 in
set_option maxHeartbeats 4000000 in
theorem kX4_init (l : Launch) (g : XG)  : Ct l g MX4_init [.ref 0] ([.inr (.inr (4, [.null, .null, .null, .null, .null]))]) (Qv (fun w1 => w1 = wP zS)) := by
  refine Ct_of (by decide) (by simp [Value.category]) (Nat.le_of_ble_eq_true rfl) ?_
  refine x_aload_n dX4_init_0 rfl ?_
  refine x_objInit dX4_init_1 mlX4_3 w_oi1 w_oi2 (by decide) (by decide) ?_
  refine x_aload_n dX4_init_4 rfl ?_
  refine x_bipush (v := 12) dX4_init_5 (by decide) ?_
  refine x_newi (N := 12) dX4_init_7 w_ia (by decide) (by decide) (by decide) (by decide) (by decide) ?_
  rw [row_rep]
  refine x_putr dX4_init_9 flX4_9 xff_4_0 rfl rfl (Nat.le_of_ble_eq_true rfl) ?_
  refine x_aload_n dX4_init_12 rfl ?_
  refine x_bipush (v := 12) dX4_init_13 (by decide) ?_
  refine x_newi (N := 12) dX4_init_15 w_ia (by decide) (by decide) (by decide) (by decide) (by decide) ?_
  rw [row_rep]
  refine x_putr dX4_init_17 flX4_15 xff_4_1 rfl rfl (Nat.le_of_ble_eq_true rfl) ?_
  refine x_aload_n dX4_init_20 rfl ?_
  refine x_bipush (v := 12) dX4_init_21 (by decide) ?_
  refine x_newi (N := 12) dX4_init_23 w_ia (by decide) (by decide) (by decide) (by decide) (by decide) ?_
  rw [row_rep]
  refine x_putr dX4_init_25 flX4_18 xff_4_2 rfl rfl (Nat.le_of_ble_eq_true rfl) ?_
  refine x_aload_n dX4_init_28 rfl ?_
  refine x_bipush (v := 12) dX4_init_29 (by decide) ?_
  refine x_newi (N := 12) dX4_init_31 w_ia (by decide) (by decide) (by decide) (by decide) (by decide) ?_
  rw [row_rep]
  refine x_putr dX4_init_33 flX4_21 xff_4_3 rfl rfl (Nat.le_of_ble_eq_true rfl) ?_
  refine x_aload_n dX4_init_36 rfl ?_
  refine x_sipush (v := 144) dX4_init_37 (by decide) ?_
  refine x_newi (N := 144) dX4_init_40 w_ia (by decide) (by decide) (by decide) (by decide) (by decide) ?_
  rw [row_rep]
  refine x_putr dX4_init_42 flX4_24 xff_4_4 rfl rfl (Nat.le_of_ble_eq_true rfl) ?_
  exact x_retv dX4_init_45 rfl rfl rfl (⟨rfl, rfl⟩)

set_option maxRecDepth 100000 in
set_option maxHeartbeats 4000000 in
theorem kX2_init (l : Launch) (g : XG)  : Ct l g MX2_init [.ref 0] ([.inr (.inr (2, [.null, .null, .null, .null, .null, .null]))]) (Qv (fun w1 => w1 = wF zS)) := by
  refine Ct_of (by decide) (by simp [Value.category]) (Nat.le_of_ble_eq_true rfl) ?_
  refine x_aload_n dX2_init_0 rfl ?_
  refine x_objInit dX2_init_1 mlX2_3 w_oi1 w_oi2 (by decide) (by decide) ?_
  refine x_aload_n dX2_init_4 rfl ?_
  refine x_bipush (v := 8) dX2_init_5 (by decide) ?_
  refine x_newi (N := 8) dX2_init_7 w_ia (by decide) (by decide) (by decide) (by decide) (by decide) ?_
  rw [row_rep]
  refine x_putr dX2_init_9 flX2_9 xff_2_0 rfl rfl (Nat.le_of_ble_eq_true rfl) ?_
  refine x_aload_n dX2_init_12 rfl ?_
  refine x_bipush (v := 8) dX2_init_13 (by decide) ?_
  refine x_newi (N := 8) dX2_init_15 w_ia (by decide) (by decide) (by decide) (by decide) (by decide) ?_
  rw [row_rep]
  refine x_putr dX2_init_17 flX2_15 xff_2_1 rfl rfl (Nat.le_of_ble_eq_true rfl) ?_
  refine x_aload_n dX2_init_20 rfl ?_
  refine x_bipush (v := 8) dX2_init_21 (by decide) ?_
  refine x_newi (N := 8) dX2_init_23 w_ia (by decide) (by decide) (by decide) (by decide) (by decide) ?_
  rw [row_rep]
  refine x_putr dX2_init_25 flX2_18 xff_2_2 rfl rfl (Nat.le_of_ble_eq_true rfl) ?_
  refine x_aload_n dX2_init_28 rfl ?_
  refine x_bipush (v := 80) dX2_init_29 (by decide) ?_
  refine x_newi (N := 80) dX2_init_31 w_ia (by decide) (by decide) (by decide) (by decide) (by decide) ?_
  rw [row_rep]
  refine x_putr dX2_init_33 flX2_21 xff_2_3 rfl rfl (Nat.le_of_ble_eq_true rfl) ?_
  refine x_aload_n dX2_init_36 rfl ?_
  refine x_bipush (v := 80) dX2_init_37 (by decide) ?_
  refine x_newi (N := 80) dX2_init_39 w_ia (by decide) (by decide) (by decide) (by decide) (by decide) ?_
  rw [row_rep]
  refine x_putr dX2_init_41 flX2_24 xff_2_4 rfl rfl (Nat.le_of_ble_eq_true rfl) ?_
  refine x_aload_n dX2_init_44 rfl ?_
  refine x_bipush (v := 80) dX2_init_45 (by decide) ?_
  refine x_newi (N := 80) dX2_init_47 w_ia (by decide) (by decide) (by decide) (by decide) (by decide) ?_
  rw [row_rep]
  refine x_putr dX2_init_49 flX2_27 xff_2_5 rfl rfl (Nat.le_of_ble_eq_true rfl) ?_
  refine x_aload_n dX2_init_52 rfl ?_
  refine x_getf dX2_init_53 flX2_18 rfl rfl ?_
  refine x_iconst (v := -1) dX2_init_56 (by decide) ?_
  refine x_callv [3] (x_iS dX2_init_57 mlX2_30 lbJ7_fill_53178 rfl) (kJ7_fill_53178 l g 8 (fun _ => (0 : Int32)) (-1) (by decide)) (by decide) (by decide) (by decide) (by simp [Value.category]) rfl rfl (by decide +kernel) (fun w1 h1 => ?_)
  obtain rfl := h1
  show XA _ _ _ _ _ _ _ ([.inr (.inr (2, [.ref 1, .ref 2, .ref 3, .ref 4, .ref 5, .ref 6])), .inl (row 8 (fun _ => (0 : Int32))), .inl (row 8 (fun _ => (0 : Int32))), .inl (row 8 (fun _ => (-1 : Int32))), .inl (row 80 (fun _ => (0 : Int32))), .inl (row 80 (fun _ => (0 : Int32))), .inl (row 80 (fun _ => (0 : Int32)))]) _ _
  refine x_aload_n dX2_init_60 rfl ?_
  refine x_getf dX2_init_61 flX2_24 rfl rfl ?_
  refine x_iconst (v := -1) dX2_init_64 (by decide) ?_
  refine x_callv [5] (x_iS dX2_init_65 mlX2_30 lbJ7_fill_53178 rfl) (kJ7_fill_53178 l g 80 (fun _ => (0 : Int32)) (-1) (by decide)) (by decide) (by decide) (by decide) (by simp [Value.category]) rfl rfl (by decide +kernel) (fun w1 h1 => ?_)
  obtain rfl := h1
  show XA _ _ _ _ _ _ _ ([.inr (.inr (2, [.ref 1, .ref 2, .ref 3, .ref 4, .ref 5, .ref 6])), .inl (row 8 (fun _ => (0 : Int32))), .inl (row 8 (fun _ => (0 : Int32))), .inl (row 8 (fun _ => (-1 : Int32))), .inl (row 80 (fun _ => (0 : Int32))), .inl (row 80 (fun _ => (-1 : Int32))), .inl (row 80 (fun _ => (0 : Int32)))]) _ _
  exact x_retv dX2_init_68 rfl rfl rfl (⟨rfl, rfl⟩)
