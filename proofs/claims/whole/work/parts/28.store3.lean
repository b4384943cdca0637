theorem min4 {p : Nat} (h : p < 2 ^ 31) : (if nI p < (4 : Int32) then nI p else 4) = nI (min 4 p) := by
  show (if nI p < nI 4 then nI p else nI 4) = _
  by_cases hp : p < 4
  · rw [if_pos (nI_lt hp (by decide)), Nat.min_eq_right (by omega)]
  · rw [if_neg (nI_nlt (by omega) h), Nat.min_eq_left (by omega)]
theorem fstF_in {f : Nat → Bool} : ∀ {n i : Nat}, ¬ fstF f i n = -1 → ∃ k, i ≤ k ∧ k < i + n ∧ fstF f i n = nI k
  | 0, i, h => absurd rfl h
  | n + 1, i, h => by
    rw [fstF] at h ⊢
    cases hf : f i with
    | true =>
      rw [hf] at h
      simp only [if_true] at h ⊢
      obtain ⟨k, h1, h2, h3⟩ := fstF_in h
      exact ⟨k, by omega, by omega, h3⟩
    | false => exact ⟨i, Nat.le_refl _, by omega, by simp⟩
def sStore (S : MS) (o m : Int32) : MS := sMake S (cl (luF S)) o (fun d => cl (S 11 d)) (cl (S 12 0)) (cl m)
def okSt0 (S : MS) (o m : Int32) : Bool := exB S o && decide (¬ m < 0) && decide (m ≤ 4)
def okSt1 (S : MS) (o : Int32) : Bool := decide (¬ S 12 0 = 0) && onB S o
def okStore (S : MS) (o m : Int32) : Bool := okSt0 S o m && okSt1 S o && decide (¬ luF S = -1)
def vStore (S : MS) (o m : Int32) : Int32 := if okSt0 S o m then (if okSt1 S o then (if luF S = -1 then -10003 else luF S) else -10002) else -10001
/-- what waits: k words, all numbers of the row being words -/
def wtOk (S : MS) : Prop := (∃ k, k ≤ 6 ∧ S 12 0 = nI k) ∧ ∀ d, d < 6 → ∃ v, v < 256 ∧ S 11 d = nI v
theorem wt_row {S : MS} (h : wtOk S) : row 6 (S 11) = row 6 (fun d => nI (cl (S 11 d))) := row_congr fun d hd => by
  obtain ⟨v, hv, he⟩ := h.2 d hd
  rw [he, cl_nI (by omega)]
theorem wt_lt {S : MS} (h : wtOk S) : ∀ d, d < 6 → cl (S 11 d) < 256 := fun d hd => by
  obtain ⟨v, hv, he⟩ := h.2 d hd
  rw [he, cl_nI (by omega)]; exact hv
theorem wt_k {S : MS} (h : wtOk S) : cl (S 12 0) ≤ 6 ∧ S 12 0 = nI (cl (S 12 0)) := by
  obtain ⟨k, hk, he⟩ := h.1
  rw [he, cl_nI (by omega)]; exact ⟨hk, rfl⟩
theorem m_nI {m : Int32} (h0 : ¬ m < 0) (h4 : m ≤ 4) : cl m ≤ 4 ∧ m = nI (cl m) := by
  refine ⟨?_, nI_cl h0⟩
  have := Int32.le_iff_toInt_le.mp h4
  rw [toInt_cl h0] at this
  have e : (4 : Int32).toInt = 4 := by decide
  omega
theorem lu_nI {S : MS} (h : ¬ luF S = -1) : cl (luF S) < 8 ∧ luF S = nI (cl (luF S)) := by
  obtain ⟨k, h1, h2, h3⟩ := fstF_in h
  have e : luF S = nI k := h3
  rw [e, cl_nI (by omega)]
  exact ⟨by omega, rfl⟩

set_option maxRecDepth 100000 in
set_option maxHeartbeats 4000000 in
theorem kX6_word (l : Launch) (g : XG) (S : MS) (G : Nat → MS) (r n : Nat) (E : Nat → Int32) (en : Int32) (C : Nat → Int32) (cs : Int32) (P T : MS) (w : Int32) : Ct l g MX6_word [.ref 0, .int w] (wN S (tX G r n E en C cs P T)) (Qi (fun v w1 => v = vWord S w ∧ w1 = wN (cond (okWord S w) (sWait S w) S) (tX G r n E en C cs P T))) := by
  refine Ct_of (by decide) (by simp [Value.category]) (Nat.le_of_ble_eq_true rfl) ?_
  refine x_iload_n dX6_word_0 rfl ?_
  refine x_if_lt (tgt := 11) dX6_word_1 (by decide) (fun c_1 => ?_) (fun c_1 => ?_)
  · refine x_sipush (v := -10001) dX6_word_11 (by decide) ?_
    exact x_reti dX6_word_14 rfl rfl rfl (⟨_, rfl, by first | (rw [show okWord S w = false by simp [okWord, *]] <;> exact ⟨by simp [vWord, *], rfl⟩) | (rw [show okWord S w = true by simp [okWord, *]] <;> exact ⟨by simp [vWord, *], rfl⟩)⟩)
  · refine x_iload_n dX6_word_4 rfl ?_
    refine x_sipush (v := 255) dX6_word_5 (by decide) ?_
    refine x_icmp_le (tgt := 15) dX6_word_8 (by decide) (fun c_8 => ?_) (fun c_8 => ?_)
    · refine x_aload_n dX6_word_15 rfl ?_
      refine x_getf dX6_word_16 flX6_12 rfl rfl ?_
      refine x_getf dX6_word_19 flX6_112 rfl rfl ?_
      refine x_bipush (v := 6) dX6_word_22 (by decide) ?_
      refine x_icmp_lt (tgt := 31) dX6_word_24 (by decide) (fun c_24 => ?_) (fun c_24 => ?_)
      · refine x_aload_n dX6_word_31 rfl ?_
        refine x_getf dX6_word_32 flX6_12 rfl rfl ?_
        refine x_iload_n dX6_word_35 rfl ?_
        refine x_calli [1, 2, 3, 4, 5, 6, 7, 8, 9, 10, 11, 12, 13, 14, 15] (x_iV dX6_word_36 mlX6_116 lbX5_addWaiting rfl rfl rfl rfl) (kX5_addWaiting l g S _) (by decide) rfl rfl (by decide) (by decide) (by simp [Value.category]) rfl rfl (by decide +kernel) (fun v1 w1 h1 => ?_)
        obtain ⟨rfl, rfl⟩ := h1
        refine x_eq (w' := wN (sWait S w) (tX G r n E en C cs P T)) ?_ rfl rfl rfl
        exact x_reti dX6_word_39 rfl rfl rfl (⟨_, rfl, by first | (rw [show okWord S w = false by simp [okWord, *]] <;> exact ⟨by simp [vWord, *], rfl⟩) | (rw [show okWord S w = true by simp [okWord, *]] <;> exact ⟨by simp [vWord, *], rfl⟩)⟩)
      · refine x_sipush (v := -10003) dX6_word_27 (by decide) ?_
        exact x_reti dX6_word_30 rfl rfl rfl (⟨_, rfl, by first | (rw [show okWord S w = false by simp [okWord, *]] <;> exact ⟨by simp [vWord, *], rfl⟩) | (rw [show okWord S w = true by simp [okWord, *]] <;> exact ⟨by simp [vWord, *], rfl⟩)⟩)
    · refine x_sipush (v := -10001) dX6_word_11 (by decide) ?_
      exact x_reti dX6_word_14 rfl rfl rfl (⟨_, rfl, by first | (rw [show okWord S w = false by simp [okWord, *]] <;> exact ⟨by simp [vWord, *], rfl⟩) | (rw [show okWord S w = true by simp [okWord, *]] <;> exact ⟨by simp [vWord, *], rfl⟩)⟩)

set_option maxRecDepth 100000 in
set_option maxHeartbeats 4000000 in
theorem kX6_store (l : Launch) (g : XG) (S : MS) (G : Nat → MS) (r n : Nat) (E : Nat → Int32) (en : Int32) (C : Nat → Int32) (cs : Int32) (P T : MS) (o m : Int32) (hw : wtOk S) (hr : r < 5) (hn : n ≤ 5) : Ct l g MX6_store [.ref 0, .int o, .int m] (wN S (tX G r n E en C cs P T)) (Qi (fun v w1 => v = vStore S o m ∧ w1 = wC (okStore S o m) (sStore S o m) S G r n E en C cs P T)) := by
  refine Ct_of (by decide) (by simp [Value.category]) (Nat.le_of_ble_eq_true rfl) ?_
  refine x_aload_n dX6_store_0 rfl ?_
  refine x_getf dX6_store_1 flX6_12 rfl rfl ?_
  refine x_getf dX6_store_4 flX6_43 rfl rfl ?_
  refine x_iload_n dX6_store_7 rfl ?_
  refine x_callp [2, 3, 4, 5, 6, 7] (x_iV dX6_store_8 mlX6_61 lbX4_exists rfl rfl rfl rfl) (kX4_exists l g _ _) (by decide) rfl rfl (by decide) (by decide) (by simp [Value.category]) rfl rfl (by decide +kernel) ?_
  refine x_if_eq (tgt := 23) dX6_store_11 (by decide) (fun c_11 => ?_) (fun c_11 => ?_)
  · refine x_sipush (v := -10001) dX6_store_23 (by decide) ?_
    exact x_reti dX6_store_26 rfl rfl rfl (⟨_, rfl, by (try simp only [b2i_eq0, b2i_ne0] at *); first | (rw [wC, show (okStore S o m) = false by simp [okStore, okSt0, okSt1, luF, *]] <;> exact ⟨by simp [vStore, okStore, okSt0, okSt1, luF, *], rfl⟩) | (rw [wC, show (okStore S o m) = true by simp [okStore, okSt0, okSt1, luF, *]] <;> exact ⟨by simp [vStore, okStore, okSt0, okSt1, luF, *], rfl⟩)⟩)
  · refine x_iload_n dX6_store_14 rfl ?_
    refine x_if_lt (tgt := 23) dX6_store_15 (by decide) (fun c_15 => ?_) (fun c_15 => ?_)
    · refine x_sipush (v := -10001) dX6_store_23 (by decide) ?_
      exact x_reti dX6_store_26 rfl rfl rfl (⟨_, rfl, by (try simp only [b2i_eq0, b2i_ne0] at *); first | (rw [wC, show (okStore S o m) = false by simp [okStore, okSt0, okSt1, luF, *]] <;> exact ⟨by simp [vStore, okStore, okSt0, okSt1, luF, *], rfl⟩) | (rw [wC, show (okStore S o m) = true by simp [okStore, okSt0, okSt1, luF, *]] <;> exact ⟨by simp [vStore, okStore, okSt0, okSt1, luF, *], rfl⟩)⟩)
    · refine x_iload_n dX6_store_18 rfl ?_
      refine x_iconst (v := 4) dX6_store_19 (by decide) ?_
      refine x_icmp_le (tgt := 27) dX6_store_20 (by decide) (fun c_20 => ?_) (fun c_20 => ?_)
      · refine x_aload_n dX6_store_27 rfl ?_
        refine x_getf dX6_store_28 flX6_12 rfl rfl ?_
        refine x_getf dX6_store_31 flX6_112 rfl rfl ?_
        refine x_if_eq (tgt := 51) dX6_store_34 (by decide) (fun c_34 => ?_) (fun c_34 => ?_)
        · refine x_sipush (v := -10002) dX6_store_51 (by decide) ?_
          exact x_reti dX6_store_54 rfl rfl rfl (⟨_, rfl, by (try simp only [b2i_eq0, b2i_ne0] at *); first | (rw [wC, show (okStore S o m) = false by simp [okStore, okSt0, okSt1, luF, *]] <;> exact ⟨by simp [vStore, okStore, okSt0, okSt1, luF, *], rfl⟩) | (rw [wC, show (okStore S o m) = true by simp [okStore, okSt0, okSt1, luF, *]] <;> exact ⟨by simp [vStore, okStore, okSt0, okSt1, luF, *], rfl⟩)⟩)
        · refine x_aload_n dX6_store_37 rfl ?_
          refine x_getf dX6_store_38 flX6_12 rfl rfl ?_
          refine x_getf dX6_store_41 flX6_43 rfl rfl ?_
          refine x_iload_n dX6_store_44 rfl ?_
          refine x_callp [2, 3, 4, 5, 6, 7] (x_iV dX6_store_45 mlX6_119 lbX4_isOnline rfl rfl rfl rfl) (kX4_isOnline l g _ _) (by decide) rfl rfl (by decide) (by decide) (by simp [Value.category]) rfl rfl (by decide +kernel) ?_
          refine x_if_ne (tgt := 55) dX6_store_48 (by decide) (fun c_48 => ?_) (fun c_48 => ?_)
          · refine x_aload_n dX6_store_55 rfl ?_
            refine x_getf dX6_store_56 flX6_12 rfl rfl ?_
            refine x_getf dX6_store_59 flX6_100 rfl rfl ?_
            refine x_callp [8, 9, 10, 11, 12, 13, 14] (x_iV dX6_store_62 mlX6_122 lbX2_lowestUnused rfl rfl rfl rfl) (kX2_lowestUnused l g _) (by decide) rfl rfl (by decide) (by decide) (by simp [Value.category]) rfl rfl (by decide +kernel) ?_
            refine x_istore_n dX6_store_65 (by decide) ?_
            refine x_iload_n dX6_store_66 rfl ?_
            refine x_iconst (v := -1) dX6_store_67 (by decide) ?_
            refine x_icmp_ne (tgt := 75) dX6_store_68 (by decide) (fun c_68 => ?_) (fun c_68 => ?_)
            · have hlu : ¬ luF S = -1 := c_68
              have hmm := m_nI c_15 c_20
              have hll := lu_nI hlu
              refine x_aload_n dX6_store_75 rfl ?_
              refine x_getf dX6_store_76 flX6_19 rfl rfl ?_
              refine x_aload_n dX6_store_79 rfl ?_
              refine x_getf dX6_store_80 flX6_12 rfl rfl ?_
              refine x_rec r n dX6_store_83 rfl (by decide) (by decide) (by decide) (by simp [Value.category]) hr hn ?_
              refine x_aload_n dX6_store_86 rfl ?_
              refine x_getf dX6_store_87 flX6_12 rfl rfl ?_
              refine x_iload_n dX6_store_90 rfl ?_
              refine x_iload_n dX6_store_91 rfl ?_
              refine x_iload_n dX6_store_92 rfl ?_
              refine x_eq (st' := [.int (nI (cl m)), .int o, .int (nI (cl (luF S))), .ref 1]) ?_ rfl (by rw [← hmm.2, ← hll.2]; rfl) rfl
              refine x_callv [1, 2, 3, 4, 5, 6, 7, 8, 9, 10, 11, 12, 13, 14, 15] (x_iV dX6_store_93 mlX6_123 lbX5_makeFile rfl rfl rfl rfl) (kX5_makeFile l g S (cl (luF S)) o (fun d => cl (S 11 d)) (cl (S 12 0)) (cl m) hll.1 (wt_k hw).1 hmm.1 (wt_k hw).2 (wt_lt hw) (wt_row hw)) (by decide) (by decide) (by decide) (by simp [Value.category]) rfl rfl (by decide +kernel) (fun w1 h1 => ?_)
              obtain rfl := h1
              refine x_eq (w' := wN (sStore S o m) (tX (recG G r n S) (recR r n) (recN n) E en C cs P T)) ?_ rfl rfl rfl
              clear hmm hll
              refine x_iload_n dX6_store_96 rfl ?_
              exact x_reti dX6_store_97 rfl rfl rfl (⟨_, rfl, by (try simp only [b2i_eq0, b2i_ne0] at *); first | (rw [wC, show (okStore S o m) = false by simp [okStore, okSt0, okSt1, luF, *]] <;> exact ⟨by simp [vStore, okStore, okSt0, okSt1, luF, *], rfl⟩) | (rw [wC, show (okStore S o m) = true by simp [okStore, okSt0, okSt1, luF, *]] <;> exact ⟨by simp [vStore, okStore, okSt0, okSt1, luF, *], rfl⟩)⟩)
            · refine x_sipush (v := -10003) dX6_store_71 (by decide) ?_
              exact x_reti dX6_store_74 rfl rfl rfl (⟨_, rfl, by (try simp only [b2i_eq0, b2i_ne0] at *); first | (rw [wC, show (okStore S o m) = false by simp [okStore, okSt0, okSt1, luF, *]] <;> exact ⟨by simp [vStore, okStore, okSt0, okSt1, luF, *], rfl⟩) | (rw [wC, show (okStore S o m) = true by simp [okStore, okSt0, okSt1, luF, *]] <;> exact ⟨by simp [vStore, okStore, okSt0, okSt1, luF, *], rfl⟩)⟩)
          · refine x_sipush (v := -10002) dX6_store_51 (by decide) ?_
            exact x_reti dX6_store_54 rfl rfl rfl (⟨_, rfl, by (try simp only [b2i_eq0, b2i_ne0] at *); first | (rw [wC, show (okStore S o m) = false by simp [okStore, okSt0, okSt1, luF, *]] <;> exact ⟨by simp [vStore, okStore, okSt0, okSt1, luF, *], rfl⟩) | (rw [wC, show (okStore S o m) = true by simp [okStore, okSt0, okSt1, luF, *]] <;> exact ⟨by simp [vStore, okStore, okSt0, okSt1, luF, *], rfl⟩)⟩)
      · refine x_sipush (v := -10001) dX6_store_23 (by decide) ?_
        exact x_reti dX6_store_26 rfl rfl rfl (⟨_, rfl, by (try simp only [b2i_eq0, b2i_ne0] at *); first | (rw [wC, show (okStore S o m) = false by simp [okStore, okSt0, okSt1, luF, *]] <;> exact ⟨by simp [vStore, okStore, okSt0, okSt1, luF, *], rfl⟩) | (rw [wC, show (okStore S o m) = true by simp [okStore, okSt0, okSt1, luF, *]] <;> exact ⟨by simp [vStore, okStore, okSt0, okSt1, luF, *], rfl⟩)⟩)

set_option maxRecDepth 100000 in
set_option maxHeartbeats 4000000 in
theorem lpX6_repairAll (l : Launch) (g : XG) (S : MS) (G : Nat → MS) (r n : Nat) (E : Nat → Int32) (en : Int32) (C : Nat → Int32) (cs : Int32) (P T : MS) (q : Int32) (hq : okRA q = true) : XA l g MX6_repairAll (Qi (fun v w1 => v = vRA S q ∧ w1 = wC (okRA q) (sRA S q 8) S G r n E en C cs P T)) 28 ((fun i => [some (.ref 0), some (.int q), some (.int (nRA S q i)), some (.int (nI i))]) 0) ((fun _ => []) 0) ((fun i => wN (sRA S q i) (tX (recG G r n S) (recR r n) (recN n) E en C cs P T)) 0) 0 0 := by
  refine x_for 8 (fun _ => True) (fun i => [some (.ref 0), some (.int q), some (.int (nRA S q i)), some (.int (nI i))]) (fun _ => []) (fun i => wN (sRA S q i) (tX (recG G r n S) (recR r n) (recN n) E en C cs P T)) trivial (fun i hi hp ih => ?_) (fun hp => ?_)
  · refine x_iload_n dX6_repairAll_28 rfl ?_
    refine x_bipush (v := 8) dX6_repairAll_29 (by decide) ?_
    refine x_icmp_ge_f (tgt := 74) dX6_repairAll_31 (by decide) (nI_nle_of rfl (by decide) hi) ?_
    refine x_aload_n dX6_repairAll_34 rfl ?_
    refine x_getf dX6_repairAll_35 flX6_12 rfl rfl ?_
    refine x_iload_n dX6_repairAll_38 rfl ?_
    refine x_callp [1, 2, 3, 4, 5, 6, 7, 8, 9, 10, 11, 12, 13, 14, 15] (x_iV dX6_repairAll_39 mlX6_149 lbX5_isSafe rfl rfl rfl rfl) (kX5_isSafe l g _ _) (by decide) rfl rfl (by decide) (by decide) (by simp [Value.category]) rfl rfl (by decide +kernel) ?_
    refine x_if_eq (tgt := 68) dX6_repairAll_42 (by decide) (fun c_42 => ?_) (fun c_42 => ?_)
    · first | refine x_iinc dX6_repairAll_68 (by decide) rfl (nI_inc _) ?_ | refine x_iinc dX6_repairAll_68 (by decide) rfl (inc_1 _) ?_
      refine x_goto (tgt := 28) dX6_repairAll_71 (by decide) ?_
      (try simp only [b2i_eq0, b2i_ne0] at *)
      refine x_eq (ih trivial) ?_ rfl ?_
      · rw [nRA]; simp [*]
      · rw [sRA]; simp [*]
    · refine x_aload_n dX6_repairAll_45 rfl ?_
      refine x_getf dX6_repairAll_46 flX6_12 rfl rfl ?_
      refine x_iload_n dX6_repairAll_49 rfl ?_
      refine x_callp [1, 2, 3, 4, 5, 6, 7, 8, 9, 10, 11, 12, 13, 14, 15] (x_iV dX6_repairAll_50 mlX6_152 lbX5_reserveOf rfl rfl rfl rfl) (kX5_reserveOf l g _ _) (by decide) rfl rfl (by decide) (by decide) (by simp [Value.category]) rfl rfl (by decide +kernel) ?_
      refine x_iload_n dX6_repairAll_53 rfl ?_
      refine x_icmp_ge (tgt := 68) dX6_repairAll_54 (by decide) (fun c_54 => ?_) (fun c_54 => ?_)
      · first | refine x_iinc dX6_repairAll_68 (by decide) rfl (nI_inc _) ?_ | refine x_iinc dX6_repairAll_68 (by decide) rfl (inc_1 _) ?_
        refine x_goto (tgt := 28) dX6_repairAll_71 (by decide) ?_
        (try simp only [b2i_eq0, b2i_ne0] at *)
        refine x_eq (ih trivial) ?_ rfl ?_
        · rw [nRA]; simp [*]
        · rw [sRA]; simp [*]
      · refine x_iload_n dX6_repairAll_57 rfl ?_
        refine x_aload_n dX6_repairAll_58 rfl ?_
        refine x_getf dX6_repairAll_59 flX6_12 rfl rfl ?_
        refine x_iload_n dX6_repairAll_62 rfl ?_
        refine x_calli [1, 2, 3, 4, 5, 6, 7, 8, 9, 10, 11, 12, 13, 14, 15] (x_iV dX6_repairAll_63 mlX6_204 lbX5_renewFile rfl rfl rfl rfl) (kX5_renewFile l g _ _) (by decide) rfl rfl (by decide) (by decide) (by simp [Value.category]) rfl rfl (by decide +kernel) (fun v1 w1 h1 => ?_)
        obtain ⟨rfl, rfl⟩ := h1
        refine x_eq (w' := wN (sRF (sRA S q i) (nI i) (cl (fnI (sRA S q i) (nI i)))) (tX (recG G r n S) (recR r n) (recN n) E en C cs P T)) ?_ rfl rfl rfl
        refine x_iadd dX6_repairAll_66 ?_
        refine x_istore_n dX6_repairAll_67 (by decide) ?_
        first | refine x_iinc dX6_repairAll_68 (by decide) rfl (nI_inc _) ?_ | refine x_iinc dX6_repairAll_68 (by decide) rfl (inc_1 _) ?_
        refine x_goto (tgt := 28) dX6_repairAll_71 (by decide) ?_
        (try simp only [b2i_eq0, b2i_ne0] at *)
        refine x_eq (ih trivial) ?_ rfl ?_
        · rw [nRA]; simp [*]
        · rw [sRA]; simp [*]
  · refine x_iload_n dX6_repairAll_28 rfl ?_
    refine x_bipush (v := 8) dX6_repairAll_29 (by decide) ?_
    refine x_icmp_ge_t (tgt := 74) dX6_repairAll_31 (by decide) (nI_le_of rfl (by decide) (Nat.le_refl _)) ?_
    refine x_iload_n dX6_repairAll_74 rfl ?_
    exact x_reti dX6_repairAll_75 rfl rfl rfl (⟨_, rfl, by rw [vRA, if_pos hq], by rw [wC, hq, cond_true]⟩)

set_option maxRecDepth 100000 in
set_option maxHeartbeats 4000000 in
theorem kX6_repairAll (l : Launch) (g : XG) (S : MS) (G : Nat → MS) (r n : Nat) (E : Nat → Int32) (en : Int32) (C : Nat → Int32) (cs : Int32) (P T : MS) (q : Int32) (hr : r < 5) (hn : n ≤ 5) : Ct l g MX6_repairAll [.ref 0, .int q] (wN S (tX G r n E en C cs P T)) (Qi (fun v w1 => v = vRA S q ∧ w1 = wC (okRA q) (sRA S q 8) S G r n E en C cs P T)) := by
  refine Ct_of (by decide) (by simp [Value.category]) (Nat.le_of_ble_eq_true rfl) ?_
  refine x_iload_n dX6_repairAll_0 rfl ?_
  refine x_if_lt (tgt := 9) dX6_repairAll_1 (by decide) (fun c_1 => ?_) (fun c_1 => ?_)
  · refine x_sipush (v := -10001) dX6_repairAll_9 (by decide) ?_
    exact x_reti dX6_repairAll_12 rfl rfl rfl (⟨_, rfl, by rw [wC, show okRA q = false by simp [okRA, *]] <;> exact ⟨by simp [vRA, okRA, *], rfl⟩⟩)
  · refine x_iload_n dX6_repairAll_4 rfl ?_
    refine x_iconst (v := 5) dX6_repairAll_5 (by decide) ?_
    refine x_icmp_le (tgt := 13) dX6_repairAll_6 (by decide) (fun c_6 => ?_) (fun c_6 => ?_)
    · refine x_aload_n dX6_repairAll_13 rfl ?_
      refine x_getf dX6_repairAll_14 flX6_19 rfl rfl ?_
      refine x_aload_n dX6_repairAll_17 rfl ?_
      refine x_getf dX6_repairAll_18 flX6_12 rfl rfl ?_
      refine x_rec r n dX6_repairAll_21 rfl (by decide) (by decide) (by decide) (by simp [Value.category]) hr hn ?_
      refine x_iconst (v := 0) dX6_repairAll_24 (by decide) ?_
      refine x_istore_n dX6_repairAll_25 (by decide) ?_
      refine x_iconst (v := 0) dX6_repairAll_26 (by decide) ?_
      refine x_istore_n dX6_repairAll_27 (by decide) ?_
      exact lpX6_repairAll l g S G r n E en C cs P T q (by simp [okRA, *])
    · refine x_sipush (v := -10001) dX6_repairAll_9 (by decide) ?_
      exact x_reti dX6_repairAll_12 rfl rfl rfl (⟨_, rfl, by rw [wC, show okRA q = false by simp [okRA, *]] <;> exact ⟨by simp [vRA, okRA, *], rfl⟩⟩)

set_option maxRecDepth 100000 in
set_option maxHeartbeats 4000000 in
theorem kX6_undo0 (l : Launch) (g : XG) (S : MS) (G : Nat → MS) (r : Nat) (E : Nat → Int32) (en : Int32) (C : Nat → Int32) (cs : Int32) (P T : MS) : Ct l g MX6_undo [.ref 0] (wN S (tX G r 0 E en C cs P T)) (Qp (-10002) (wN S (tX G r 0 E en C cs P T))) := by
  refine Ct_of (by decide) (by simp [Value.category]) (Nat.le_of_ble_eq_true rfl) ?_
  refine x_aload_n dX6_undo_0 rfl ?_
  refine x_getf dX6_undo_1 flX6_19 rfl rfl ?_
  refine x_getf dX6_undo_4 flX6_207 rfl rfl ?_
  refine x_if_ne_f (tgt := 14) dX6_undo_7 (by decide) (rfl) ?_
  refine x_sipush (v := -10002) dX6_undo_10 (by decide) ?_
  exact x_reti dX6_undo_13 rfl rfl rfl (⟨rfl, rfl⟩)

set_option maxRecDepth 100000 in
set_option maxHeartbeats 4000000 in
theorem kX6_undo (l : Launch) (g : XG) (S : MS) (G : Nat → MS) (r n : Nat) (E : Nat → Int32) (en : Int32) (C : Nat → Int32) (cs : Int32) (P T : MS) (hr : r < 5) (hn : n < 5) : Ct l g MX6_undo [.ref 0] (wN S (tX G r (n + 1) E en C cs P T)) (Qi (fun v w1 => v = nI n ∧ w1 = wN (G ((n + r) % 5)) (tX G r n E en C cs P T))) := by
  refine Ct_of (by decide) (by simp [Value.category]) (Nat.le_of_ble_eq_true rfl) ?_
  refine x_aload_n dX6_undo_0 rfl ?_
  refine x_getf dX6_undo_1 flX6_19 rfl rfl ?_
  refine x_getf dX6_undo_4 flX6_207 rfl rfl ?_
  refine x_if_ne_t (tgt := 14) dX6_undo_7 (by decide) (nI_ne0 (by omega) (by omega)) ?_
  refine x_aload_n dX6_undo_14 rfl ?_
  refine x_getf dX6_undo_15 flX6_19 rfl rfl ?_
  refine x_aload_n dX6_undo_18 rfl ?_
  refine x_getf dX6_undo_19 flX6_12 rfl rfl ?_
  refine x_res r n dX6_undo_22 rfl (by decide) (by decide) (by decide) (by simp [Value.category]) hr hn ?_
  refine x_aload_n dX6_undo_25 rfl ?_
  refine x_getf dX6_undo_26 flX6_19 rfl rfl ?_
  refine x_getf dX6_undo_29 flX6_207 rfl rfl ?_
  exact x_reti dX6_undo_32 rfl rfl rfl (⟨_, rfl, rfl, rfl⟩)

set_option maxRecDepth 100000 in
set_option maxHeartbeats 4000000 in
theorem lpX6_tolerance (l : Launch) (g : XG) (S : MS) (G : Nat → MS) (r n : Nat) (E : Nat → Int32) (en : Int32) (C : Nat → Int32) (cs : Int32) (P T : MS) (h0 : ¬ pnN S = 0) : XA l g MX6_tolerance (Qp (vTol S) (wN S (tX G r n E en C cs P T))) 25 ((fun i => [some (.ref 0), some (.int (nI (pnN S))), some (.int (nI (min 4 (pnN S) - i)))]) 0) ((fun _ => []) 0) ((fun _ => wN S (tX G r n E en C cs P T)) 0) 0 0 := by
  refine x_for (min 4 (pnN S)) (fun i => tolD S (min 4 (pnN S)) = tolD S (min 4 (pnN S) - i)) (fun i => [some (.ref 0), some (.int (nI (pnN S))), some (.int (nI (min 4 (pnN S) - i)))]) (fun _ => []) (fun _ => wN S (tX G r n E en C cs P T)) rfl (fun i hi hp ih => ?_) (fun hp => ?_)
  · have hm4 : min 4 (pnN S) ≤ 4 := Nat.min_le_left _ _
    obtain ⟨c, hc⟩ : ∃ c, min 4 (pnN S) - i = c + 1 := ⟨min 4 (pnN S) - i - 1, by omega⟩
    rw [hc] at hp ⊢
    refine x_iload_n dX6_tolerance_25 rfl ?_
    refine x_if_le_f (tgt := 48) dX6_tolerance_26 (by decide) (nI_nle (by omega) (by omega)) ?_
    refine x_aload_n dX6_tolerance_29 rfl ?_
    refine x_getf dX6_tolerance_30 flX6_12 rfl rfl ?_
    refine x_iload_n dX6_tolerance_33 rfl ?_
    refine x_callp [1, 2, 3, 4, 5, 6, 7, 8, 9, 10, 11, 12, 13, 14, 15] (x_iV dX6_tolerance_34 mlX6_217 lbX5_bearsCrashes rfl rfl rfl rfl) (kX5_bearsCrashes l g _ _) (by decide) rfl rfl (by decide) (by decide) (by simp [Value.category]) rfl rfl (by decide +kernel) ?_
    refine x_if_eq (tgt := 42) dX6_tolerance_37 (by decide) (fun c_37 => ?_) (fun c_37 => ?_)
    · refine x_iinc dX6_tolerance_42 (by decide) rfl (nI_dec _) ?_
      refine x_goto (tgt := 25) dX6_tolerance_45 (by decide) ?_
      have e1 : min 4 (pnN S) - (i + 1) = c := by omega
      rw [e1] at ih
      exact ih (by rw [hp, tolD]; simp [b2i_f' c_37])
    · refine x_iload_n dX6_tolerance_40 rfl ?_
      exact x_reti dX6_tolerance_41 rfl rfl rfl (⟨by rw [vTol, if_neg h0, hp, tolD]; simp [b2i_t' c_37], rfl⟩)
  · refine x_iload_n dX6_tolerance_25 rfl ?_
    refine x_if_le_t (tgt := 48) dX6_tolerance_26 (by decide) (by rw [Nat.sub_self]; decide) ?_
    refine x_iconst (v := 0) dX6_tolerance_48 (by decide) ?_
    exact x_reti dX6_tolerance_49 rfl rfl rfl (⟨by rw [vTol, if_neg h0, hp, Nat.sub_self]; rfl, rfl⟩)

set_option maxRecDepth 100000 in
set_option maxHeartbeats 4000000 in
theorem kX6_tolerance (l : Launch) (g : XG) (S : MS) (G : Nat → MS) (r n : Nat) (E : Nat → Int32) (en : Int32) (C : Nat → Int32) (cs : Int32) (P T : MS) : Ct l g MX6_tolerance [.ref 0] (wN S (tX G r n E en C cs P T)) (Qp (vTol S) (wN S (tX G r n E en C cs P T))) := by
  refine Ct_of (by decide) (by simp [Value.category]) (Nat.le_of_ble_eq_true rfl) ?_
  refine x_aload_n dX6_tolerance_0 rfl ?_
  refine x_getf dX6_tolerance_1 flX6_12 rfl rfl ?_
  refine x_getf dX6_tolerance_4 flX6_43 rfl rfl ?_
  refine x_callp [2, 3, 4, 5, 6, 7] (x_iV dX6_tolerance_7 mlX6_211 lbX4_number rfl rfl rfl rfl) (kX4_number l g _) (by decide) rfl rfl (by decide) (by decide) (by simp [Value.category]) rfl rfl (by decide +kernel) ?_
  refine x_istore_n dX6_tolerance_10 (by decide) ?_
  refine x_iload_n dX6_tolerance_11 rfl ?_
  refine x_if_ne (tgt := 19) dX6_tolerance_12 (by decide) (fun c_12 => ?_) (fun c_12 => ?_)
  · refine x_iconst (v := 4) dX6_tolerance_19 (by decide) ?_
    refine x_iload_n dX6_tolerance_20 rfl ?_
    refine x_min dX6_tolerance_21 mlX6_212 w_min1 w_math w_min3 (by decide) (by decide) (by decide) (by simp [Value.category]) ?_
    rw [min4 (p := cntB (fun p => exB S (nI p)) 12) (by have := cntB_le (fun p => exB S (nI p)) 12; omega)]
    refine x_istore_n dX6_tolerance_24 (by decide) ?_
    exact lpX6_tolerance l g S G r n E en C cs P T (fun z => c_12 (by rw [show cntB (fun p => exB S (nI p)) 12 = 0 from z]; rfl))
  · refine x_sipush (v := -10002) dX6_tolerance_15 (by decide) ?_
    exact x_reti dX6_tolerance_18 rfl rfl rfl (⟨by rw [vTol, if_pos (show pnN S = 0 from (nI_is0 (n := pnN S) (by have h1 : pnN S ≤ 12 := cntB_le _ 12; omega)).mp c_12)], rfl⟩)

set_option maxRecDepth 100000 in
set_option maxHeartbeats 4000000 in
theorem lpX6_endangered (l : Launch) (g : XG) (S : MS) (G : Nat → MS) (r n : Nat) (E : Nat → Int32) (en : Int32) (C : Nat → Int32) (cs : Int32) (P T : MS) (p : Int32) (hx : exB S p = true) : XA l g MX6_endangered (Qp (vEnd S p) (wN S (tX G r n E en C cs P T))) 22 ((fun i => [some (.ref 0), some (.int p), some (.int (nI (cntB (fun f => npB S (nI f) p) i))), some (.int (nI i))]) 0) ((fun _ => []) 0) ((fun _ => wN S (tX G r n E en C cs P T)) 0) 0 0 := by
  refine x_for 8 (fun _ => True) (fun i => [some (.ref 0), some (.int p), some (.int (nI (cntB (fun f => npB S (nI f) p) i))), some (.int (nI i))]) (fun _ => []) (fun _ => wN S (tX G r n E en C cs P T)) trivial (fun i hi hp ih => ?_) (fun hp => ?_)
  · refine x_iload_n dX6_endangered_22 rfl ?_
    refine x_bipush (v := 8) dX6_endangered_23 (by decide) ?_
    refine x_icmp_ge_f (tgt := 49) dX6_endangered_25 (by decide) (nI_nle_of rfl (by decide) hi) ?_
    refine x_aload_n dX6_endangered_28 rfl ?_
    refine x_getf dX6_endangered_29 flX6_12 rfl rfl ?_
    refine x_iload_n dX6_endangered_32 rfl ?_
    refine x_iload_n dX6_endangered_33 rfl ?_
    refine x_callp [1, 2, 3, 4, 5, 6, 7, 8, 9, 10, 11, 12, 13, 14, 15] (x_iV dX6_endangered_34 mlX6_220 lbX5_needsPeer rfl rfl rfl rfl) (kX5_needsPeer l g _ _ _) (by decide) rfl rfl (by decide) (by decide) (by simp [Value.category]) rfl rfl (by decide +kernel) ?_
    refine x_if_eq (tgt := 43) dX6_endangered_37 (by decide) (fun c_37 => ?_) (fun c_37 => ?_)
    · first | refine x_iinc dX6_endangered_43 (by decide) rfl (nI_inc _) ?_ | refine x_iinc dX6_endangered_43 (by decide) rfl (inc_1 _) ?_
      refine x_goto (tgt := 22) dX6_endangered_46 (by decide) ?_
      (try simp only [b2i_eq0, b2i_ne0] at *)
      exact x_eq (ih trivial) (by simp [cntB, *]) rfl rfl
    · first | refine x_iinc dX6_endangered_40 (by decide) rfl (nI_inc _) ?_ | refine x_iinc dX6_endangered_40 (by decide) rfl (inc_1 _) ?_
      first | refine x_iinc dX6_endangered_43 (by decide) rfl (nI_inc _) ?_ | refine x_iinc dX6_endangered_43 (by decide) rfl (inc_1 _) ?_
      refine x_goto (tgt := 22) dX6_endangered_46 (by decide) ?_
      (try simp only [b2i_eq0, b2i_ne0] at *)
      exact x_eq (ih trivial) (by simp [cntB, *]) rfl rfl
  · refine x_iload_n dX6_endangered_22 rfl ?_
    refine x_bipush (v := 8) dX6_endangered_23 (by decide) ?_
    refine x_icmp_ge_t (tgt := 49) dX6_endangered_25 (by decide) (nI_le_of rfl (by decide) (Nat.le_refl _)) ?_
    refine x_iload_n dX6_endangered_49 rfl ?_
    exact x_reti dX6_endangered_50 rfl rfl rfl (⟨by rw [vEnd, if_pos hx], rfl⟩)

set_option maxRecDepth 100000 in
set_option maxHeartbeats 4000000 in
theorem kX6_endangered (l : Launch) (g : XG) (S : MS) (G : Nat → MS) (r n : Nat) (E : Nat → Int32) (en : Int32) (C : Nat → Int32) (cs : Int32) (P T : MS) (p : Int32) : Ct l g MX6_endangered [.ref 0, .int p] (wN S (tX G r n E en C cs P T)) (Qp (vEnd S p) (wN S (tX G r n E en C cs P T))) := by
  refine Ct_of (by decide) (by simp [Value.category]) (Nat.le_of_ble_eq_true rfl) ?_
  refine x_aload_n dX6_endangered_0 rfl ?_
  refine x_getf dX6_endangered_1 flX6_12 rfl rfl ?_
  refine x_getf dX6_endangered_4 flX6_43 rfl rfl ?_
  refine x_iload_n dX6_endangered_7 rfl ?_
  refine x_callp [2, 3, 4, 5, 6, 7] (x_iV dX6_endangered_8 mlX6_61 lbX4_exists rfl rfl rfl rfl) (kX4_exists l g _ _) (by decide) rfl rfl (by decide) (by decide) (by simp [Value.category]) rfl rfl (by decide +kernel) ?_
  refine x_if_ne (tgt := 18) dX6_endangered_11 (by decide) (fun c_11 => ?_) (fun c_11 => ?_)
  · refine x_iconst (v := 0) dX6_endangered_18 (by decide) ?_
    refine x_istore_n dX6_endangered_19 (by decide) ?_
    refine x_iconst (v := 0) dX6_endangered_20 (by decide) ?_
    refine x_istore_n dX6_endangered_21 (by decide) ?_
    exact lpX6_endangered l g S G r n E en C cs P T p (b2i_t' c_11)
  · refine x_sipush (v := -10001) dX6_endangered_14 (by decide) ?_
    exact x_reti dX6_endangered_17 rfl rfl rfl (⟨by rw [vEnd, if_neg (by simp [b2i_f' c_11])], rfl⟩)

set_option maxRecDepth 100000 in
set_option maxHeartbeats 4000000 in
theorem kX6_count (l : Launch) (g : XG) (S : MS) (G : Nat → MS) (r n : Nat) (E : Nat → Int32) (en : Int32) (C : Nat → Int32) (cs : Int32) (P T : MS) (w : Int32) : Ct l g MX6_count [.ref 0, .int w] (wN S (tX G r n E en C cs P T)) (Qp (vCnt S n w) (wN S (tX G r n E en C cs P T))) := by
  refine Ct_of (by decide) (by simp [Value.category]) (Nat.le_of_ble_eq_true rfl) ?_
  refine x_iload_n dX6_count_0 rfl ?_
  rcases swcase w 8 with hsw | ⟨j, hj, hx⟩
  · have nsw : ∀ i : Nat, i ≤ 8 → ¬ w = nI i := fun i hi' e => by subst e; rw [nI_toInt (by omega)] at hsw; omega
    have q0 : ¬ w = 0 := nsw 0 (by decide)
    have q1 : ¬ w = 1 := nsw 1 (by decide)
    have q2 : ¬ w = 2 := nsw 2 (by decide)
    have q3 : ¬ w = 3 := nsw 3 (by decide)
    have q4 : ¬ w = 4 := nsw 4 (by decide)
    have q5 : ¬ w = 5 := nsw 5 (by decide)
    have q6 : ¬ w = 6 := nsw 6 (by decide)
    have q7 : ¬ w = 7 := nsw 7 (by decide)
    have q8 : ¬ w = 8 := nsw 8 (by decide)
    refine x_switchOut (tgt := 142) dX6_count_1 hsw (by decide) ?_
    refine x_sipush (v := -10001) dX6_count_142 (by decide) ?_
    exact x_reti dX6_count_145 rfl rfl rfl (⟨by (try simp only [b2i_eq0, b2i_ne0] at *); simp [vCnt, *], rfl⟩)
  · rcases (show j = 0 ∨ j = 1 ∨ j = 2 ∨ j = 3 ∨ j = 4 ∨ j = 5 ∨ j = 6 ∨ j = 7 ∨ j = 8 by omega) with rfl | rfl | rfl | rfl | rfl | rfl | rfl | rfl | rfl
    · replace hx : w = 0 := hx
      subst hx
      refine x_switchIn (tgt := 52) (off := 51) dX6_count_1 (by decide) (by decide) (by decide) (by decide) ?_
      refine x_aload_n dX6_count_52 rfl ?_
      refine x_getf dX6_count_53 flX6_12 rfl rfl ?_
      refine x_getf dX6_count_56 flX6_43 rfl rfl ?_
      refine x_callp [2, 3, 4, 5, 6, 7] (x_iV dX6_count_59 mlX6_211 lbX4_number rfl rfl rfl rfl) (kX4_number l g _) (by decide) rfl rfl (by decide) (by decide) (by simp [Value.category]) rfl rfl (by decide +kernel) ?_
      exact x_reti dX6_count_62 rfl rfl rfl (⟨by (try simp only [b2i_eq0, b2i_ne0] at *); simp [vCnt, *], rfl⟩)
    · replace hx : w = 1 := hx
      subst hx
      refine x_switchIn (tgt := 63) (off := 62) dX6_count_1 (by decide) (by decide) (by decide) (by decide) ?_
      refine x_aload_n dX6_count_63 rfl ?_
      refine x_getf dX6_count_64 flX6_12 rfl rfl ?_
      refine x_getf dX6_count_67 flX6_100 rfl rfl ?_
      refine x_callp [8, 9, 10, 11, 12, 13, 14] (x_iV dX6_count_70 mlX6_131 lbX2_number rfl rfl rfl rfl) (kX2_number l g _) (by decide) rfl rfl (by decide) (by decide) (by simp [Value.category]) rfl rfl (by decide +kernel) ?_
      exact x_reti dX6_count_73 rfl rfl rfl (⟨by (try simp only [b2i_eq0, b2i_ne0] at *); simp [vCnt, *], rfl⟩)
    · replace hx : w = 2 := hx
      subst hx
      refine x_switchIn (tgt := 74) (off := 73) dX6_count_1 (by decide) (by decide) (by decide) (by decide) ?_
      refine x_aload_n dX6_count_74 rfl ?_
      refine x_getf dX6_count_75 flX6_12 rfl rfl ?_
      refine x_callp [1, 2, 3, 4, 5, 6, 7, 8, 9, 10, 11, 12, 13, 14, 15] (x_iV dX6_count_78 mlX6_230 lbX5_safeNumber rfl rfl rfl rfl) (kX5_safeNumber l g _) (by decide) rfl rfl (by decide) (by decide) (by simp [Value.category]) rfl rfl (by decide +kernel) ?_
      exact x_reti dX6_count_81 rfl rfl rfl (⟨by (try simp only [b2i_eq0, b2i_ne0] at *); simp [vCnt, *], rfl⟩)
    · replace hx : w = 3 := hx
      subst hx
      refine x_switchIn (tgt := 82) (off := 81) dX6_count_1 (by decide) (by decide) (by decide) (by decide) ?_
      refine x_aload_n dX6_count_82 rfl ?_
      refine x_getf dX6_count_83 flX6_12 rfl rfl ?_
      refine x_getf dX6_count_86 flX6_100 rfl rfl ?_
      refine x_callp [8, 9, 10, 11, 12, 13, 14] (x_iV dX6_count_89 mlX6_233 lbX2_allStored rfl rfl rfl rfl) (kX2_allStored l g _) (by decide) rfl rfl (by decide) (by decide) (by simp [Value.category]) rfl rfl (by decide +kernel) ?_
      exact x_reti dX6_count_92 rfl rfl rfl (⟨by (try simp only [b2i_eq0, b2i_ne0] at *); simp [vCnt, *], rfl⟩)
    · replace hx : w = 4 := hx
      subst hx
      refine x_switchIn (tgt := 93) (off := 92) dX6_count_1 (by decide) (by decide) (by decide) (by decide) ?_
      refine x_aload_n dX6_count_93 rfl ?_
      refine x_getf dX6_count_94 flX6_12 rfl rfl ?_
      refine x_getf dX6_count_97 flX6_100 rfl rfl ?_
      refine x_callp [8, 9, 10, 11, 12, 13, 14] (x_iV dX6_count_100 mlX6_236 lbX2_allSpoiled rfl rfl rfl rfl) (kX2_allSpoiled l g _) (by decide) rfl rfl (by decide) (by decide) (by simp [Value.category]) rfl rfl (by decide +kernel) ?_
      exact x_reti dX6_count_103 rfl rfl rfl (⟨by (try simp only [b2i_eq0, b2i_ne0] at *); simp [vCnt, *], rfl⟩)
    · replace hx : w = 5 := hx
      subst hx
      refine x_switchIn (tgt := 104) (off := 103) dX6_count_1 (by decide) (by decide) (by decide) (by decide) ?_
      refine x_aload_n dX6_count_104 rfl ?_
      refine x_getf dX6_count_105 flX6_12 rfl rfl ?_
      refine x_getf dX6_count_108 flX6_43 rfl rfl ?_
      refine x_callp [2, 3, 4, 5, 6, 7] (x_iV dX6_count_111 mlX6_239 lbX4_onlineFreeSpace rfl rfl rfl rfl) (kX4_onlineFreeSpace l g _) (by decide) rfl rfl (by decide) (by decide) (by simp [Value.category]) rfl rfl (by decide +kernel) ?_
      exact x_reti dX6_count_114 rfl rfl rfl (⟨by (try simp only [b2i_eq0, b2i_ne0] at *); simp [vCnt, *], rfl⟩)
    · replace hx : w = 6 := hx
      subst hx
      refine x_switchIn (tgt := 115) (off := 114) dX6_count_1 (by decide) (by decide) (by decide) (by decide) ?_
      refine x_aload_n dX6_count_115 rfl ?_
      refine x_getf dX6_count_116 flX6_12 rfl rfl ?_
      refine x_getf dX6_count_119 flX6_112 rfl rfl ?_
      exact x_reti dX6_count_122 rfl rfl rfl (⟨by (try simp only [b2i_eq0, b2i_ne0] at *); simp [vCnt, *], rfl⟩)
    · replace hx : w = 7 := hx
      subst hx
      refine x_switchIn (tgt := 123) (off := 122) dX6_count_1 (by decide) (by decide) (by decide) (by decide) ?_
      refine x_aload_n dX6_count_123 rfl ?_
      refine x_getf dX6_count_124 flX6_19 rfl rfl ?_
      refine x_getf dX6_count_127 flX6_207 rfl rfl ?_
      exact x_reti dX6_count_130 rfl rfl rfl (⟨by (try simp only [b2i_eq0, b2i_ne0] at *); simp [vCnt, *], rfl⟩)
    · replace hx : w = 8 := hx
      subst hx
      refine x_switchIn (tgt := 131) (off := 130) dX6_count_1 (by decide) (by decide) (by decide) (by decide) ?_
      refine x_aload_n dX6_count_131 rfl ?_
      refine x_getf dX6_count_132 flX6_12 rfl rfl ?_
      refine x_getf dX6_count_135 flX6_43 rfl rfl ?_
      refine x_callp [2, 3, 4, 5, 6, 7] (x_iV dX6_count_138 mlX6_242 lbX4_sumOfDebts rfl rfl rfl rfl) (kX4_sumOfDebts l g _) (by decide) rfl rfl (by decide) (by decide) (by simp [Value.category]) rfl rfl (by decide +kernel) ?_
      exact x_reti dX6_count_141 rfl rfl rfl (⟨by (try simp only [b2i_eq0, b2i_ne0] at *); simp [vCnt, *], rfl⟩)
