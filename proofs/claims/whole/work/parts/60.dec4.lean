/-! ===== the decoder: a word; decode of the storage ===== -/
set_option maxRecDepth 100000 in
set_option maxHeartbeats 4000000 in
theorem lpX1_dataWord (l : Launch) (g : XG) (S : MS) (T : Nat → Nat) (f k x : Nat) (s : Int32) (hk : k ≤ 6) (hx : x < k) (hT : lt257 T) (hpv : ∀ i, i < k → pvC (elI T k i) k i < k) : XA l g MX1_dataWord (Qi (fun v w1 => v = nI (elI T k k (7 * x + k)) ∧ w1 = [.inr (.inr (1, [.ref 1, .int (nI k)])), .inl (row 42 (nf (elI T k k))), .inr (.inr (2, [.ref 3, .ref 4, .ref 5, .ref 6, .ref 7, .ref 8])), .inl (row 8 (S 5)), .inl (row 8 (S 6)), .inl (row 8 (S 7)), .inl (row 80 (S 8)), .inl (row 80 (S 9)), .inl (row 80 (S 10))])) 10 ((fun i => [some (.ref 0), some (.ref 2), some (.int (nI f)), some (.int s), some (.int (nI x)), some (.int (nI (i)))]) 0) ((fun _ => []) 0) ((fun i => [.inr (.inr (1, [.ref 1, .int (nI k)])), .inl (row 42 (nf (elI T k i))), .inr (.inr (2, [.ref 3, .ref 4, .ref 5, .ref 6, .ref 7, .ref 8])), .inl (row 8 (S 5)), .inl (row 8 (S 6)), .inl (row 8 (S 7)), .inl (row 80 (S 8)), .inl (row 80 (S 9)), .inl (row 80 (S 10))]) 0) 0 0 := by
  refine x_for k (fun _ => True) (fun i => [some (.ref 0), some (.ref 2), some (.int (nI f)), some (.int s), some (.int (nI x)), some (.int (nI (i)))]) (fun _ => []) (fun i => [.inr (.inr (1, [.ref 1, .int (nI k)])), .inl (row 42 (nf (elI T k i))), .inr (.inr (2, [.ref 3, .ref 4, .ref 5, .ref 6, .ref 7, .ref 8])), .inl (row 8 (S 5)), .inl (row 8 (S 6)), .inl (row 8 (S 7)), .inl (row 80 (S 8)), .inl (row 80 (S 9)), .inl (row 80 (S 10))]) trivial (fun i hi hp ih => ?_) (fun hp => ?_)
  · refine x_iload dX1_dataWord_10 rfl ?_
    refine x_aload_n dX1_dataWord_12 rfl ?_
    refine x_getf dX1_dataWord_13 flX1_19 rfl rfl ?_
    refine x_icmp_ge_f (tgt := 31) dX1_dataWord_16 (by decide) (nI_ge hi (by omega)) ?_
    refine x_aload_n dX1_dataWord_19 rfl ?_
    refine x_iload dX1_dataWord_20 rfl ?_
    refine x_callv [0, 1] (x_iV dX1_dataWord_22 mlX1_23 lbX1_eliminate rfl rfl rfl rfl) (kX1_eliminate l g (elI T k i) k i hi hk (lt_elI hT k i) (hpv i hi)) (by decide) (by decide) (by decide) (by simp [Value.category]) rfl rfl (by decide +kernel) (fun w1 h1 => ?_)
    obtain rfl := h1
    refine x_eq (w' := [.inr (.inr (1, [.ref 1, .int (nI k)])), .inl (row 42 (nf (elI T k (i + 1)))), .inr (.inr (2, [.ref 3, .ref 4, .ref 5, .ref 6, .ref 7, .ref 8])), .inl (row 8 (S 5)), .inl (row 8 (S 6)), .inl (row 8 (S 7)), .inl (row 80 (S 8)), .inl (row 80 (S 9)), .inl (row 80 (S 10))]) ?_ rfl rfl rfl
    first | refine x_iinc dX1_dataWord_25 (by decide) rfl (nI_inc _) ?_ | refine x_iinc dX1_dataWord_25 (by decide) rfl (inc_1 _) ?_
    refine x_goto (tgt := 10) dX1_dataWord_28 (by decide) ?_
    exact x_eq (ih trivial) rfl rfl rfl
  · refine x_iload dX1_dataWord_10 rfl ?_
    refine x_aload_n dX1_dataWord_12 rfl ?_
    refine x_getf dX1_dataWord_13 flX1_19 rfl rfl ?_
    refine x_icmp_ge_t (tgt := 31) dX1_dataWord_16 (by decide) (nI_le (Nat.le_refl _) (by omega)) ?_
    refine x_iload dX1_dataWord_31 rfl ?_
    refine x_if_lt_f (tgt := 63) dX1_dataWord_33 (by decide) (nI_pos (by omega)) ?_
    refine x_iload dX1_dataWord_36 rfl ?_
    refine x_aload_n dX1_dataWord_38 rfl ?_
    refine x_getf dX1_dataWord_39 flX1_19 rfl rfl ?_
    refine x_icmp_ge_f (tgt := 63) dX1_dataWord_42 (by decide) (nI_ge hx (by omega)) ?_
    refine x_aload_n dX1_dataWord_45 rfl ?_
    refine x_getf dX1_dataWord_46 flX1_11 rfl rfl ?_
    refine x_iload dX1_dataWord_49 rfl ?_
    refine x_bipush (v := 7) dX1_dataWord_51 (by decide) ?_
    refine x_imul dX1_dataWord_53 ?_
    refine x_aload_n dX1_dataWord_54 rfl ?_
    refine x_getf dX1_dataWord_55 flX1_19 rfl rfl ?_
    refine x_iadd dX1_dataWord_58 ?_
    refine x_iar dX1_dataWord_59 rfl (ix7 (by omega)) ?_
    refine x_goto (tgt := 64) dX1_dataWord_60 (by decide) ?_
    exact x_reti dX1_dataWord_64 rfl rfl rfl (⟨_, rfl, rfl, rfl⟩)

set_option maxRecDepth 100000 in
set_option maxHeartbeats 4000000 in
theorem kX1_dataWord (l : Launch) (g : XG) (S : MS) (c : Nat → Nat) (f k x : Nat) (s : Int32) (sv : Nat → Nat) (z : Int32) (hf : f < 8) (hk : k ≤ 6) (hbc : bcI s = nI k) (hcn : cntB (bitB s) 10 = k) (hsv : ∀ i, i < 10 → bitB s i = true → svI S (nI f) (nI i) = nI (sv i)) (hc : lt257 c) (hsl : ∀ i, i < 10 → sv i < 257) (hx : x < k) (hpv : ∀ i, i < k → pvC (elI (suC c (bitB s) sv k 10) k i) k i < k) : Ct l g MX1_dataWord [.ref 0, .ref 2, .int (nI f), .int s, .int (nI x)] ([.inr (.inr (1, [.ref 1, .int (z)])), .inl (row 42 (nf c)), .inr (.inr (2, [.ref 3, .ref 4, .ref 5, .ref 6, .ref 7, .ref 8])), .inl (row 8 (S 5)), .inl (row 8 (S 6)), .inl (row 8 (S 7)), .inl (row 80 (S 8)), .inl (row 80 (S 9)), .inl (row 80 (S 10))]) (Qi (fun v w1 => v = nI (elI (suC c (bitB s) sv k 10) k k (7 * x + k)) ∧ w1 = [.inr (.inr (1, [.ref 1, .int (nI k)])), .inl (row 42 (nf (elI (suC c (bitB s) sv k 10) k k))), .inr (.inr (2, [.ref 3, .ref 4, .ref 5, .ref 6, .ref 7, .ref 8])), .inl (row 8 (S 5)), .inl (row 8 (S 6)), .inl (row 8 (S 7)), .inl (row 80 (S 8)), .inl (row 80 (S 9)), .inl (row 80 (S 10))])) := by
  refine Ct_of (by decide) (by simp [Value.category]) (Nat.le_of_ble_eq_true rfl) ?_
  refine x_aload_n dX1_dataWord_0 rfl ?_
  refine x_aload_n dX1_dataWord_1 rfl ?_
  refine x_iload_n dX1_dataWord_2 rfl ?_
  refine x_iload_n dX1_dataWord_3 rfl ?_
  refine x_callv [0, 1, 2, 3, 4, 5, 6, 7, 8] (x_iV dX1_dataWord_4 mlX1_15 lbX1_setUp rfl rfl rfl rfl) (kX1_setUp l g S c f k s sv z hf hk hbc hcn hsv) (by decide) (by decide) (by decide) (by simp [Value.category]) rfl rfl (by decide +kernel) (fun w1 h1 => ?_)
  obtain rfl := h1
  refine x_eq (w' := [.inr (.inr (1, [.ref 1, .int (nI k)])), .inl (row 42 (nf (suC c (bitB s) sv k 10))), .inr (.inr (2, [.ref 3, .ref 4, .ref 5, .ref 6, .ref 7, .ref 8])), .inl (row 8 (S 5)), .inl (row 8 (S 6)), .inl (row 8 (S 7)), .inl (row 80 (S 8)), .inl (row 80 (S 9)), .inl (row 80 (S 10))]) ?_ rfl rfl rfl
  refine x_iconst (v := 0) dX1_dataWord_7 (by decide) ?_
  refine x_istore dX1_dataWord_8 (by decide) ?_
  exact lpX1_dataWord l g S (suC c (bitB s) sv k 10) f k x s hk hx (lt_suC hc hsl k 10 (Nat.le_refl _)) hpv

def okDec (S : MS) (f s i : Int32) : Bool := hdB S f i && dsB S f s

set_option maxRecDepth 100000 in
set_option maxHeartbeats 4000000 in
theorem kX6_decode_no (l : Launch) (g : XG) (S : MS) (G : Nat → MS) (r n : Nat) (E : Nat → Int32) (en : Int32) (C : Nat → Int32) (cs : Int32) (P T : MS) (f s i : Int32) (hno : (okDec S f s i && ssB S f s) = false) : Ct l g MX6_decode [.ref 0, .int f, .int s, .int i] (wN S (tX G r n E en C cs P T)) (Qp (if okDec S f s i then -10004 else -10001) (wN S (tX G r n E en C cs P T))) := by
  refine Ct_of (by decide) (by simp [Value.category]) (Nat.le_of_ble_eq_true rfl) ?_
  refine x_aload_n dX6_decode_0 rfl ?_
  refine x_getf dX6_decode_1 flX6_12 rfl rfl ?_
  refine x_getf dX6_decode_4 flX6_100 rfl rfl ?_
  refine x_iload_n dX6_decode_7 rfl ?_
  refine x_iload_n dX6_decode_8 rfl ?_
  refine x_callp [8, 9, 10, 11, 12, 13, 14] (x_iV dX6_decode_9 mlX6_164 lbX2_hasData rfl rfl rfl rfl) (kX2_hasData l g _ _ _) (by decide) rfl rfl (by decide) (by decide) (by simp [Value.category]) rfl rfl (by decide +kernel) ?_
  refine x_if_eq (tgt := 30) dX6_decode_12 (by decide) (fun c_12 => ?_) (fun c_12 => ?_)
  · refine x_sipush (v := -10001) dX6_decode_30 (by decide) ?_
    exact x_reti dX6_decode_33 rfl rfl rfl (⟨by (try simp only [b2i_eq0, b2i_ne0] at *); simp [okDec, *], rfl⟩)
  · refine x_aload_n dX6_decode_15 rfl ?_
    refine x_getf dX6_decode_16 flX6_12 rfl rfl ?_
    refine x_getf dX6_decode_19 flX6_100 rfl rfl ?_
    refine x_iload_n dX6_decode_22 rfl ?_
    refine x_iload_n dX6_decode_23 rfl ?_
    refine x_callp [8, 9, 10, 11, 12, 13, 14] (x_iV dX6_decode_24 mlX6_173 lbX2_isDecodingSet rfl rfl rfl rfl) (kX2_isDecodingSet l g _ _ _) (by decide) rfl rfl (by decide) (by decide) (by simp [Value.category]) rfl rfl (by decide +kernel) ?_
    refine x_if_ne (tgt := 34) dX6_decode_27 (by decide) (fun c_27 => ?_) (fun c_27 => ?_)
    · refine x_aload_n dX6_decode_34 rfl ?_
      refine x_getf dX6_decode_35 flX6_12 rfl rfl ?_
      refine x_getf dX6_decode_38 flX6_100 rfl rfl ?_
      refine x_iload_n dX6_decode_41 rfl ?_
      refine x_iload_n dX6_decode_42 rfl ?_
      refine x_callp [8, 9, 10, 11, 12, 13, 14] (x_iV dX6_decode_43 mlX6_176 lbX2_isStoredSet rfl rfl rfl rfl) (kX2_isStoredSet l g _ _ _) (by decide) rfl rfl (by decide) (by decide) (by simp [Value.category]) rfl rfl (by decide +kernel) ?_
      refine x_if_ne (tgt := 53) dX6_decode_46 (by decide) (fun c_46 => ?_) (fun c_46 => ?_)
      · exact absurd hno (by (try simp only [b2i_eq0, b2i_ne0] at *); simp [okDec, *])
      · refine x_sipush (v := -10004) dX6_decode_49 (by decide) ?_
        exact x_reti dX6_decode_52 rfl rfl rfl (⟨by (try simp only [b2i_eq0, b2i_ne0] at *); simp [okDec, *], rfl⟩)
    · refine x_sipush (v := -10001) dX6_decode_30 (by decide) ?_
      exact x_reti dX6_decode_33 rfl rfl rfl (⟨by (try simp only [b2i_eq0, b2i_ne0] at *); simp [okDec, *], rfl⟩)

set_option maxRecDepth 100000 in
set_option maxHeartbeats 4000000 in
theorem kX6_decode (l : Launch) (g : XG) (S : MS) (G : Nat → MS) (r n : Nat) (E : Nat → Int32) (en : Int32) (c : Nat → Nat) (cs : Int32) (P T : MS) (f k x : Nat) (s : Int32) (sv : Nat → Nat) (hf : f < 8) (hk : k ≤ 6) (hbc : bcI s = nI k) (hcn : cntB (bitB s) 10 = k) (hsv : ∀ i, i < 10 → bitB s i = true → svI S (nI f) (nI i) = nI (sv i)) (hc : lt257 c) (hsl : ∀ i, i < 10 → sv i < 257) (hx : x < k) (hpv : ∀ i, i < k → pvC (elI (suC c (bitB s) sv k 10) k i) k i < k) (hok : (okDec S (nI f) s (nI x) && ssB S (nI f) s) = true) : Ct l g MX6_decode [.ref 0, .int (nI f), .int s, .int (nI x)] (wN S (tX G r n E en (nf c) cs P T)) (Qi (fun v w1 => v = nI (elI (suC c (bitB s) sv k 10) k k (7 * x + k)) ∧ w1 = wN S (tX G r n E en (nf (elI (suC c (bitB s) sv k 10) k k)) (nI k) P T))) := by
  refine Ct_of (by decide) (by simp [Value.category]) (Nat.le_of_ble_eq_true rfl) ?_
  have h0 : hdB S (nI f) (nI x) = true ∧ dsB S (nI f) s = true ∧ ssB S (nI f) s = true := by simp only [okDec, Bool.and_eq_true] at hok; exact ⟨hok.1.1, hok.1.2, hok.2⟩
  refine x_aload_n dX6_decode_0 rfl ?_
  refine x_getf dX6_decode_1 flX6_12 rfl rfl ?_
  refine x_getf dX6_decode_4 flX6_100 rfl rfl ?_
  refine x_iload_n dX6_decode_7 rfl ?_
  refine x_iload_n dX6_decode_8 rfl ?_
  refine x_callp [8, 9, 10, 11, 12, 13, 14] (x_iV dX6_decode_9 mlX6_164 lbX2_hasData rfl rfl rfl rfl) (kX2_hasData l g _ _ _) (by decide) rfl rfl (by decide) (by decide) (by simp [Value.category]) rfl rfl (by decide +kernel) ?_
  refine x_if_eq_f (tgt := 30) dX6_decode_12 (by decide) (by rw [h0.1]; decide) ?_
  refine x_aload_n dX6_decode_15 rfl ?_
  refine x_getf dX6_decode_16 flX6_12 rfl rfl ?_
  refine x_getf dX6_decode_19 flX6_100 rfl rfl ?_
  refine x_iload_n dX6_decode_22 rfl ?_
  refine x_iload_n dX6_decode_23 rfl ?_
  refine x_callp [8, 9, 10, 11, 12, 13, 14] (x_iV dX6_decode_24 mlX6_173 lbX2_isDecodingSet rfl rfl rfl rfl) (kX2_isDecodingSet l g _ _ _) (by decide) rfl rfl (by decide) (by decide) (by simp [Value.category]) rfl rfl (by decide +kernel) ?_
  refine x_if_ne_t (tgt := 34) dX6_decode_27 (by decide) (by rw [h0.2.1]; decide) ?_
  refine x_aload_n dX6_decode_34 rfl ?_
  refine x_getf dX6_decode_35 flX6_12 rfl rfl ?_
  refine x_getf dX6_decode_38 flX6_100 rfl rfl ?_
  refine x_iload_n dX6_decode_41 rfl ?_
  refine x_iload_n dX6_decode_42 rfl ?_
  refine x_callp [8, 9, 10, 11, 12, 13, 14] (x_iV dX6_decode_43 mlX6_176 lbX2_isStoredSet rfl rfl rfl rfl) (kX2_isStoredSet l g _ _ _) (by decide) rfl rfl (by decide) (by decide) (by simp [Value.category]) rfl rfl (by decide +kernel) ?_
  refine x_if_ne_t (tgt := 53) dX6_decode_46 (by decide) (by rw [h0.2.2]; decide) ?_
  refine x_aload_n dX6_decode_53 rfl ?_
  refine x_getf dX6_decode_54 flX6_33 rfl rfl ?_
  refine x_aload_n dX6_decode_57 rfl ?_
  refine x_getf dX6_decode_58 flX6_12 rfl rfl ?_
  refine x_getf dX6_decode_61 flX6_100 rfl rfl ?_
  refine x_iload_n dX6_decode_64 rfl ?_
  refine x_iload_n dX6_decode_65 rfl ?_
  refine x_iload_n dX6_decode_66 rfl ?_
  refine x_calli [95, 96, 8, 9, 10, 11, 12, 13, 14] (x_iV dX6_decode_67 mlX6_179 lbX1_dataWord rfl rfl rfl rfl) (kX1_dataWord l g S c f k x s sv cs hf hk hbc hcn hsv hc hsl hx hpv) (by decide) rfl rfl (by decide) (by decide) (by simp [Value.category]) rfl rfl (by decide +kernel) (fun v1 w1 h1 => ?_)
  obtain ⟨rfl, rfl⟩ := h1
  refine x_eq (w' := wN S (tX G r n E en (nf (elI (suC c (bitB s) sv k 10) k k)) (nI k) P T)) ?_ rfl rfl (xset_eq (ir := [0, 1, 2, 3, 4, 5, 6, 7, 15, 16, 17, 18, 19, 20, 21, 22, 23, 24, 25, 26, 27, 28, 29, 30, 31, 32, 33, 34, 35, 36, 37, 38, 39, 40, 41, 42, 43, 44, 45, 46, 47, 48, 49, 50, 51, 52, 53, 54, 55, 56, 57, 58, 59, 60, 61, 62, 63, 64, 65, 66, 67, 68, 69, 70, 71, 72, 73, 74, 75, 76, 77, 78, 79, 80, 81, 82, 83, 84, 85, 86, 87, 88, 89, 90, 91, 92, 93, 94, 97, 98, 99, 100, 101, 102, 103, 104, 105, 106, 107, 108, 109, 110, 111, 112, 113, 114, 115, 116, 117, 118, 119, 120, 121, 122, 123, 124, 125, 126]) (cs := [.inr (.inr (6, [.ref 1, .ref 16, .ref 93, .ref 95, .ref 97, .ref 112])), .inr (.inr (5, [.ref 2, .ref 8, .ref 15, .int (S 12 0)])), .inr (.inr (4, [.ref 3, .ref 4, .ref 5, .ref 6, .ref 7])), .inl (row 12 (S 0)), .inl (row 12 (S 1)), .inl (row 12 (S 2)), .inl (row 12 (S 3)), .inl (row 144 (S 4)), .inl (row 6 (S 11)), .inr (.inr (3, [.ref 17, .int (nI n)])), .inr (.inl [some (18 + 15 * ((0 + r) % 5)), some (18 + 15 * ((1 + r) % 5)), some (18 + 15 * ((2 + r) % 5)), some (18 + 15 * ((3 + r) % 5)), some (18 + 15 * ((4 + r) % 5))]), .inr (.inr (5, [.ref 19, .ref 25, .ref 32, .int ((G 0) 12 0)])), .inr (.inr (4, [.ref 20, .ref 21, .ref 22, .ref 23, .ref 24])), .inl (row 12 ((G 0) 0)), .inl (row 12 ((G 0) 1)), .inl (row 12 ((G 0) 2)), .inl (row 12 ((G 0) 3)), .inl (row 144 ((G 0) 4)), .inr (.inr (2, [.ref 26, .ref 27, .ref 28, .ref 29, .ref 30, .ref 31])), .inl (row 8 ((G 0) 5)), .inl (row 8 ((G 0) 6)), .inl (row 8 ((G 0) 7)), .inl (row 80 ((G 0) 8)), .inl (row 80 ((G 0) 9)), .inl (row 80 ((G 0) 10)), .inl (row 6 ((G 0) 11)), .inr (.inr (5, [.ref 34, .ref 40, .ref 47, .int ((G 1) 12 0)])), .inr (.inr (4, [.ref 35, .ref 36, .ref 37, .ref 38, .ref 39])), .inl (row 12 ((G 1) 0)), .inl (row 12 ((G 1) 1)), .inl (row 12 ((G 1) 2)), .inl (row 12 ((G 1) 3)), .inl (row 144 ((G 1) 4)), .inr (.inr (2, [.ref 41, .ref 42, .ref 43, .ref 44, .ref 45, .ref 46])), .inl (row 8 ((G 1) 5)), .inl (row 8 ((G 1) 6)), .inl (row 8 ((G 1) 7)), .inl (row 80 ((G 1) 8)), .inl (row 80 ((G 1) 9)), .inl (row 80 ((G 1) 10)), .inl (row 6 ((G 1) 11)), .inr (.inr (5, [.ref 49, .ref 55, .ref 62, .int ((G 2) 12 0)])), .inr (.inr (4, [.ref 50, .ref 51, .ref 52, .ref 53, .ref 54])), .inl (row 12 ((G 2) 0)), .inl (row 12 ((G 2) 1)), .inl (row 12 ((G 2) 2)), .inl (row 12 ((G 2) 3)), .inl (row 144 ((G 2) 4)), .inr (.inr (2, [.ref 56, .ref 57, .ref 58, .ref 59, .ref 60, .ref 61])), .inl (row 8 ((G 2) 5)), .inl (row 8 ((G 2) 6)), .inl (row 8 ((G 2) 7)), .inl (row 80 ((G 2) 8)), .inl (row 80 ((G 2) 9)), .inl (row 80 ((G 2) 10)), .inl (row 6 ((G 2) 11)), .inr (.inr (5, [.ref 64, .ref 70, .ref 77, .int ((G 3) 12 0)])), .inr (.inr (4, [.ref 65, .ref 66, .ref 67, .ref 68, .ref 69])), .inl (row 12 ((G 3) 0)), .inl (row 12 ((G 3) 1)), .inl (row 12 ((G 3) 2)), .inl (row 12 ((G 3) 3)), .inl (row 144 ((G 3) 4)), .inr (.inr (2, [.ref 71, .ref 72, .ref 73, .ref 74, .ref 75, .ref 76])), .inl (row 8 ((G 3) 5)), .inl (row 8 ((G 3) 6)), .inl (row 8 ((G 3) 7)), .inl (row 80 ((G 3) 8)), .inl (row 80 ((G 3) 9)), .inl (row 80 ((G 3) 10)), .inl (row 6 ((G 3) 11)), .inr (.inr (5, [.ref 79, .ref 85, .ref 92, .int ((G 4) 12 0)])), .inr (.inr (4, [.ref 80, .ref 81, .ref 82, .ref 83, .ref 84])), .inl (row 12 ((G 4) 0)), .inl (row 12 ((G 4) 1)), .inl (row 12 ((G 4) 2)), .inl (row 12 ((G 4) 3)), .inl (row 144 ((G 4) 4)), .inr (.inr (2, [.ref 86, .ref 87, .ref 88, .ref 89, .ref 90, .ref 91])), .inl (row 8 ((G 4) 5)), .inl (row 8 ((G 4) 6)), .inl (row 8 ((G 4) 7)), .inl (row 80 ((G 4) 8)), .inl (row 80 ((G 4) 9)), .inl (row 80 ((G 4) 10)), .inl (row 6 ((G 4) 11)), .inr (.inr (0, [.ref 94, .int en])), .inl (row 8 E), .inr (.inr (5, [.ref 98, .ref 104, .ref 111, .int (P 12 0)])), .inr (.inr (4, [.ref 99, .ref 100, .ref 101, .ref 102, .ref 103])), .inl (row 12 (P 0)), .inl (row 12 (P 1)), .inl (row 12 (P 2)), .inl (row 12 (P 3)), .inl (row 144 (P 4)), .inr (.inr (2, [.ref 105, .ref 106, .ref 107, .ref 108, .ref 109, .ref 110])), .inl (row 8 (P 5)), .inl (row 8 (P 6)), .inl (row 8 (P 7)), .inl (row 80 (P 8)), .inl (row 80 (P 9)), .inl (row 80 (P 10)), .inl (row 6 (P 11)), .inr (.inr (5, [.ref 113, .ref 119, .ref 126, .int (T 12 0)])), .inr (.inr (4, [.ref 114, .ref 115, .ref 116, .ref 117, .ref 118])), .inl (row 12 (T 0)), .inl (row 12 (T 1)), .inl (row 12 (T 2)), .inl (row 12 (T 3)), .inl (row 144 (T 4)), .inr (.inr (2, [.ref 120, .ref 121, .ref 122, .ref 123, .ref 124, .ref 125])), .inl (row 8 (T 5)), .inl (row 8 (T 6)), .inl (row 8 (T 7)), .inl (row 80 (T 8)), .inl (row 80 (T 9)), .inl (row 80 (T 10)), .inl (row 6 (T 11))]) 127 rfl rfl rfl (by decide +kernel) rfl rfl (by decide +kernel) (by decide +kernel))
  exact x_reti dX6_decode_70 rfl rfl rfl (⟨_, rfl, rfl, rfl⟩)
