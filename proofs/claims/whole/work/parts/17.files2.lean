def fonI (S : MS) (f p : Int32) : Int32 := if inB f 8 && decide (¬ p = -1) then fstF (fun i => decide (¬ S 9 (10 * cl f + i) = p)) 0 10 else -1
def stN (S : MS) (f : Int32) : Int32 := nI (cntB (fun i => stB S f (nI i)) (cl (fnI S f)))
def spN (S : MS) (f : Int32) : Int32 := nI (cntB (fun i => spB S f (nI i)) (cl (fnI S f)))
theorem ix_fi {f i : Nat} (hf : f < 8) (hi : i < 10) : ix (nI f * 10 + nI i) (10 * f + i) 80 := by
  have := ix_2 8 10 80 (i := nI f) (j := nI i) (c := 10) rfl rfl (by decide) (vin_nI (by decide) hf) (vin_nI (by decide) hi)
  rwa [cl_nI (by omega), cl_nI (by omega)] at this
theorem ix_2' {i : Int32} {j : Nat} (hi : vp_in i 8) (hj : j < 10) : ix (i * 10 + nI j) (10 * cl i + j) 80 := by
  have := ix_2 8 10 80 (i := i) (j := nI j) (c := 10) rfl rfl (by decide) hi (vin_nI (by decide) hj)
  rwa [cl_nI (by omega)] at this
theorem not_inB0 {p c : Int32} (h : p < 0) : inB p c = false := by simp [inB, h]
theorem not_inB1 {p c : Int32} (h : c ≤ p) : inB p c = false := by simp [inB, h]
theorem is_inB {p c : Int32} (h : ¬ p < 0) (h2 : ¬ c ≤ p) : inB p c = true := by simp [inB, h, h2]

set_option maxRecDepth 100000 in
set_option maxHeartbeats 4000000 in
theorem lpX2_fragmentOn (l : Launch) (g : XG) (S : MS) (f p : Int32) (h1 : inB f 8 = true) (h2 : ¬ p = -1) : XA l g MX2_fragmentOn (Qp (fonI S f p) (wF S)) 25 ((fun i => [some (.ref 0), some (.int f), some (.int p), some (.int (f * 10)), some (.int (nI i))]) 0) ((fun _ => []) 0) ((fun _ => wF S) 0) 0 0 := by
  refine x_for 10 (fun i => fonI S f p = fstF (fun i => decide (¬ S 9 (10 * cl f + i) = p)) i (10 - i)) (fun i => [some (.ref 0), some (.int f), some (.int p), some (.int (f * 10)), some (.int (nI i))]) (fun _ => []) (fun _ => wF S) (by rw [fonI, if_pos (by rw [h1]; simp [h2])]) (fun i hi hp ih => ?_) (fun hp => ?_)
  · refine x_iload dX2_fragmentOn_25 rfl ?_
    refine x_bipush (v := 10) dX2_fragmentOn_27 (by decide) ?_
    refine x_icmp_ge_f (tgt := 54) dX2_fragmentOn_29 (by decide) (nI_nle_of rfl (by decide) hi) ?_
    refine x_aload_n dX2_fragmentOn_32 rfl ?_
    refine x_getf dX2_fragmentOn_33 flX2_24 rfl rfl ?_
    refine x_iload_n dX2_fragmentOn_36 rfl ?_
    refine x_iload dX2_fragmentOn_37 rfl ?_
    refine x_iadd dX2_fragmentOn_39 ?_
    refine x_iar dX2_fragmentOn_40 rfl (ix_2' (inB_v rfl (by decide) h1) hi) ?_
    refine x_iload_n dX2_fragmentOn_41 rfl ?_
    refine x_icmp_ne (tgt := 48) dX2_fragmentOn_42 (by decide) (fun c_42 => ?_) (fun c_42 => ?_)
    · first | refine x_iinc dX2_fragmentOn_48 (by decide) rfl (nI_inc _) ?_ | refine x_iinc dX2_fragmentOn_48 (by decide) rfl (inc_1 _) ?_
      refine x_goto (tgt := 25) dX2_fragmentOn_51 (by decide) ?_
      exact ih (by rw [hp, show 10 - i = (10 - (i + 1)) + 1 by omega]; exact fstF_go (by simp [*]))
    · refine x_iload dX2_fragmentOn_45 rfl ?_
      exact x_reti dX2_fragmentOn_47 rfl rfl rfl (⟨by rw [hp, show 10 - i = (10 - (i + 1)) + 1 by omega, fstF_at (by simp [*])], rfl⟩)
  · refine x_iload dX2_fragmentOn_25 rfl ?_
    refine x_bipush (v := 10) dX2_fragmentOn_27 (by decide) ?_
    refine x_icmp_ge_t (tgt := 54) dX2_fragmentOn_29 (by decide) (nI_le_of rfl (by decide) (Nat.le_refl _)) ?_
    refine x_iconst (v := -1) dX2_fragmentOn_54 (by decide) ?_
    exact x_reti dX2_fragmentOn_55 rfl rfl rfl (⟨by rw [hp]; rfl, rfl⟩)

set_option maxRecDepth 100000 in
set_option maxHeartbeats 4000000 in
theorem kX2_fragmentOn (l : Launch) (g : XG) (S : MS) (f p : Int32) : Ct l g MX2_fragmentOn [.ref 0, .int f, .int p] (wF S) (Qp (fonI S f p) (wF S)) := by
  refine Ct_of (by decide) (by simp [Value.category]) (Nat.le_of_ble_eq_true rfl) ?_
  refine x_iload_n dX2_fragmentOn_0 rfl ?_
  refine x_if_lt (tgt := 15) dX2_fragmentOn_1 (by decide) (fun c_1 => ?_) (fun c_1 => ?_)
  · refine x_iconst (v := -1) dX2_fragmentOn_15 (by decide) ?_
    exact x_reti dX2_fragmentOn_16 rfl rfl rfl (⟨by simp [fonI, inB, *], rfl⟩)
  · refine x_iload_n dX2_fragmentOn_4 rfl ?_
    refine x_bipush (v := 8) dX2_fragmentOn_5 (by decide) ?_
    refine x_icmp_ge (tgt := 15) dX2_fragmentOn_7 (by decide) (fun c_7 => ?_) (fun c_7 => ?_)
    · refine x_iconst (v := -1) dX2_fragmentOn_15 (by decide) ?_
      exact x_reti dX2_fragmentOn_16 rfl rfl rfl (⟨by simp [fonI, inB, *], rfl⟩)
    · refine x_iload_n dX2_fragmentOn_10 rfl ?_
      refine x_iconst (v := -1) dX2_fragmentOn_11 (by decide) ?_
      refine x_icmp_ne (tgt := 17) dX2_fragmentOn_12 (by decide) (fun c_12 => ?_) (fun c_12 => ?_)
      · refine x_iload_n dX2_fragmentOn_17 rfl ?_
        refine x_bipush (v := 10) dX2_fragmentOn_18 (by decide) ?_
        refine x_imul dX2_fragmentOn_20 ?_
        refine x_istore_n dX2_fragmentOn_21 (by decide) ?_
        refine x_iconst (v := 0) dX2_fragmentOn_22 (by decide) ?_
        refine x_istore dX2_fragmentOn_23 (by decide) ?_
        exact lpX2_fragmentOn l g S f p (is_inB c_1 c_7) c_12
      · refine x_iconst (v := -1) dX2_fragmentOn_15 (by decide) ?_
        exact x_reti dX2_fragmentOn_16 rfl rfl rfl (⟨by simp [fonI, inB, *], rfl⟩)

set_option maxRecDepth 100000 in
set_option maxHeartbeats 4000000 in
theorem lpX2_number (l : Launch) (g : XG) (S : MS)  : XA l g MX2_number (Qp (nI (cntB (fun f => exF S (nI f)) 8)) (wF S)) 4 ((fun i => [some (.ref 0), some (.int (nI (cntB (fun f => exF S (nI f)) i))), some (.int (nI i))]) 0) ((fun _ => []) 0) ((fun _ => wF S) 0) 0 0 := by
  refine x_for 8 (fun _ => True) (fun i => [some (.ref 0), some (.int (nI (cntB (fun f => exF S (nI f)) i))), some (.int (nI i))]) (fun _ => []) (fun _ => wF S) trivial (fun i hi hp ih => ?_) (fun hp => ?_)
  · refine x_iload_n dX2_number_4 rfl ?_
    refine x_bipush (v := 8) dX2_number_5 (by decide) ?_
    refine x_icmp_ge_f (tgt := 27) dX2_number_7 (by decide) (nI_nle_of rfl (by decide) hi) ?_
    refine x_aload_n dX2_number_10 rfl ?_
    refine x_iload_n dX2_number_11 rfl ?_
    refine x_callp [0, 1, 2, 3, 4, 5, 6] (x_iV dX2_number_12 mlX2_64 lbX2_exists rfl rfl rfl rfl) (kX2_exists l g _ _) (by decide) rfl rfl (by decide) (by decide) (by simp [Value.category]) rfl rfl (by decide +kernel) ?_
    refine x_if_eq (tgt := 21) dX2_number_15 (by decide) (fun c_15 => ?_) (fun c_15 => ?_)
    · first | refine x_iinc dX2_number_21 (by decide) rfl (nI_inc _) ?_ | refine x_iinc dX2_number_21 (by decide) rfl (inc_1 _) ?_
      refine x_goto (tgt := 4) dX2_number_24 (by decide) ?_
      (try simp only [b2i_eq0, b2i_ne0] at *)
      exact x_eq (ih trivial) (by simp [cntB, *]) rfl rfl
    · first | refine x_iinc dX2_number_18 (by decide) rfl (nI_inc _) ?_ | refine x_iinc dX2_number_18 (by decide) rfl (inc_1 _) ?_
      first | refine x_iinc dX2_number_21 (by decide) rfl (nI_inc _) ?_ | refine x_iinc dX2_number_21 (by decide) rfl (inc_1 _) ?_
      refine x_goto (tgt := 4) dX2_number_24 (by decide) ?_
      (try simp only [b2i_eq0, b2i_ne0] at *)
      exact x_eq (ih trivial) (by simp [cntB, *]) rfl rfl
  · refine x_iload_n dX2_number_4 rfl ?_
    refine x_bipush (v := 8) dX2_number_5 (by decide) ?_
    refine x_icmp_ge_t (tgt := 27) dX2_number_7 (by decide) (nI_le_of rfl (by decide) (Nat.le_refl _)) ?_
    refine x_iload_n dX2_number_27 rfl ?_
    exact x_reti dX2_number_28 rfl rfl rfl (⟨rfl, rfl⟩)

set_option maxRecDepth 100000 in
set_option maxHeartbeats 4000000 in
theorem kX2_number (l : Launch) (g : XG) (S : MS) : Ct l g MX2_number [.ref 0] (wF S) (Qp (nI (cntB (fun f => exF S (nI f)) 8)) (wF S)) := by
  refine Ct_of (by decide) (by simp [Value.category]) (Nat.le_of_ble_eq_true rfl) ?_
  refine x_iconst (v := 0) dX2_number_0 (by decide) ?_
  refine x_istore_n dX2_number_1 (by decide) ?_
  refine x_iconst (v := 0) dX2_number_2 (by decide) ?_
  refine x_istore_n dX2_number_3 (by decide) ?_
  exact lpX2_number l g S

set_option maxRecDepth 100000 in
set_option maxHeartbeats 4000000 in
theorem lpX2_lowestUnused (l : Launch) (g : XG) (S : MS)  : XA l g MX2_lowestUnused (Qp (fstF (fun f => exF S (nI f)) 0 8) (wF S)) 2 ((fun i => [some (.ref 0), some (.int (nI i))]) 0) ((fun _ => []) 0) ((fun _ => wF S) 0) 0 0 := by
  refine x_for 8 (fun i => fstF (fun f => exF S (nI f)) 0 8 = fstF (fun f => exF S (nI f)) i (8 - i)) (fun i => [some (.ref 0), some (.int (nI i))]) (fun _ => []) (fun _ => wF S) rfl (fun i hi hp ih => ?_) (fun hp => ?_)
  · refine x_iload_n dX2_lowestUnused_2 rfl ?_
    refine x_bipush (v := 8) dX2_lowestUnused_3 (by decide) ?_
    refine x_icmp_ge_f (tgt := 24) dX2_lowestUnused_5 (by decide) (nI_nle_of rfl (by decide) hi) ?_
    refine x_aload_n dX2_lowestUnused_8 rfl ?_
    refine x_iload_n dX2_lowestUnused_9 rfl ?_
    refine x_callp [0, 1, 2, 3, 4, 5, 6] (x_iV dX2_lowestUnused_10 mlX2_64 lbX2_exists rfl rfl rfl rfl) (kX2_exists l g _ _) (by decide) rfl rfl (by decide) (by decide) (by simp [Value.category]) rfl rfl (by decide +kernel) ?_
    refine x_if_ne (tgt := 18) dX2_lowestUnused_13 (by decide) (fun c_13 => ?_) (fun c_13 => ?_)
    · first | refine x_iinc dX2_lowestUnused_18 (by decide) rfl (nI_inc _) ?_ | refine x_iinc dX2_lowestUnused_18 (by decide) rfl (inc_1 _) ?_
      refine x_goto (tgt := 2) dX2_lowestUnused_21 (by decide) ?_
      (try simp only [b2i_eq0, b2i_ne0] at *)
      exact ih (by rw [hp, show 8 - i = (8 - (i + 1)) + 1 by omega]; exact fstF_go (by simp [*]))
    · (try simp only [b2i_eq0, b2i_ne0] at *)
      refine x_iload_n dX2_lowestUnused_16 rfl ?_
      exact x_reti dX2_lowestUnused_17 rfl rfl rfl (⟨by rw [hp, show 8 - i = (8 - (i + 1)) + 1 by omega, fstF_at (by simp [*])], rfl⟩)
  · refine x_iload_n dX2_lowestUnused_2 rfl ?_
    refine x_bipush (v := 8) dX2_lowestUnused_3 (by decide) ?_
    refine x_icmp_ge_t (tgt := 24) dX2_lowestUnused_5 (by decide) (nI_le_of rfl (by decide) (Nat.le_refl _)) ?_
    refine x_iconst (v := -1) dX2_lowestUnused_24 (by decide) ?_
    exact x_reti dX2_lowestUnused_25 rfl rfl rfl (⟨by rw [hp]; rfl, rfl⟩)

set_option maxRecDepth 100000 in
set_option maxHeartbeats 4000000 in
theorem kX2_lowestUnused (l : Launch) (g : XG) (S : MS) : Ct l g MX2_lowestUnused [.ref 0] (wF S) (Qp (fstF (fun f => exF S (nI f)) 0 8) (wF S)) := by
  refine Ct_of (by decide) (by simp [Value.category]) (Nat.le_of_ble_eq_true rfl) ?_
  refine x_iconst (v := 0) dX2_lowestUnused_0 (by decide) ?_
  refine x_istore_n dX2_lowestUnused_1 (by decide) ?_
  exact lpX2_lowestUnused l g S

set_option maxRecDepth 100000 in
set_option maxHeartbeats 4000000 in
theorem lpX2_ownedBy (l : Launch) (g : XG) (S : MS) (p : Int32)  : XA l g MX2_ownedBy (Qp (nI (cntB (fun f => exF S (nI f) && decide (foI S (nI f) = p)) 8)) (wF S)) 4 ((fun i => [some (.ref 0), some (.int p), some (.int (nI (cntB (fun f => exF S (nI f) && decide (foI S (nI f) = p)) i))), some (.int (nI i))]) 0) ((fun _ => []) 0) ((fun _ => wF S) 0) 0 0 := by
  refine x_for 8 (fun _ => True) (fun i => [some (.ref 0), some (.int p), some (.int (nI (cntB (fun f => exF S (nI f) && decide (foI S (nI f) = p)) i))), some (.int (nI i))]) (fun _ => []) (fun _ => wF S) trivial (fun i hi hp ih => ?_) (fun hp => ?_)
  · refine x_iload_n dX2_ownedBy_4 rfl ?_
    refine x_bipush (v := 8) dX2_ownedBy_5 (by decide) ?_
    refine x_icmp_ge_f (tgt := 36) dX2_ownedBy_7 (by decide) (nI_nle_of rfl (by decide) hi) ?_
    refine x_aload_n dX2_ownedBy_10 rfl ?_
    refine x_iload_n dX2_ownedBy_11 rfl ?_
    refine x_callp [0, 1, 2, 3, 4, 5, 6] (x_iV dX2_ownedBy_12 mlX2_64 lbX2_exists rfl rfl rfl rfl) (kX2_exists l g _ _) (by decide) rfl rfl (by decide) (by decide) (by simp [Value.category]) rfl rfl (by decide +kernel) ?_
    refine x_if_eq (tgt := 30) dX2_ownedBy_15 (by decide) (fun c_15 => ?_) (fun c_15 => ?_)
    · first | refine x_iinc dX2_ownedBy_30 (by decide) rfl (nI_inc _) ?_ | refine x_iinc dX2_ownedBy_30 (by decide) rfl (inc_1 _) ?_
      refine x_goto (tgt := 4) dX2_ownedBy_33 (by decide) ?_
      (try simp only [b2i_eq0, b2i_ne0] at *)
      exact x_eq (ih trivial) (by simp [cntB, *]) rfl rfl
    · refine x_aload_n dX2_ownedBy_18 rfl ?_
      refine x_iload_n dX2_ownedBy_19 rfl ?_
      refine x_callp [0, 1, 2, 3, 4, 5, 6] (x_iV dX2_ownedBy_20 mlX2_68 lbX2_ownerOf rfl rfl rfl rfl) (kX2_ownerOf l g _ _) (by decide) rfl rfl (by decide) (by decide) (by simp [Value.category]) rfl rfl (by decide +kernel) ?_
      refine x_iload_n dX2_ownedBy_23 rfl ?_
      refine x_icmp_ne (tgt := 30) dX2_ownedBy_24 (by decide) (fun c_24 => ?_) (fun c_24 => ?_)
      · first | refine x_iinc dX2_ownedBy_30 (by decide) rfl (nI_inc _) ?_ | refine x_iinc dX2_ownedBy_30 (by decide) rfl (inc_1 _) ?_
        refine x_goto (tgt := 4) dX2_ownedBy_33 (by decide) ?_
        (try simp only [b2i_eq0, b2i_ne0] at *)
        exact x_eq (ih trivial) (by simp [cntB, *]) rfl rfl
      · first | refine x_iinc dX2_ownedBy_27 (by decide) rfl (nI_inc _) ?_ | refine x_iinc dX2_ownedBy_27 (by decide) rfl (inc_1 _) ?_
        first | refine x_iinc dX2_ownedBy_30 (by decide) rfl (nI_inc _) ?_ | refine x_iinc dX2_ownedBy_30 (by decide) rfl (inc_1 _) ?_
        refine x_goto (tgt := 4) dX2_ownedBy_33 (by decide) ?_
        (try simp only [b2i_eq0, b2i_ne0] at *)
        exact x_eq (ih trivial) (by simp [cntB, *]) rfl rfl
  · refine x_iload_n dX2_ownedBy_4 rfl ?_
    refine x_bipush (v := 8) dX2_ownedBy_5 (by decide) ?_
    refine x_icmp_ge_t (tgt := 36) dX2_ownedBy_7 (by decide) (nI_le_of rfl (by decide) (Nat.le_refl _)) ?_
    refine x_iload_n dX2_ownedBy_36 rfl ?_
    exact x_reti dX2_ownedBy_37 rfl rfl rfl (⟨rfl, rfl⟩)

set_option maxRecDepth 100000 in
set_option maxHeartbeats 4000000 in
theorem kX2_ownedBy (l : Launch) (g : XG) (S : MS) (p : Int32) : Ct l g MX2_ownedBy [.ref 0, .int p] (wF S) (Qp (nI (cntB (fun f => exF S (nI f) && decide (foI S (nI f) = p)) 8)) (wF S)) := by
  refine Ct_of (by decide) (by simp [Value.category]) (Nat.le_of_ble_eq_true rfl) ?_
  refine x_iconst (v := 0) dX2_ownedBy_0 (by decide) ?_
  refine x_istore_n dX2_ownedBy_1 (by decide) ?_
  refine x_iconst (v := 0) dX2_ownedBy_2 (by decide) ?_
  refine x_istore_n dX2_ownedBy_3 (by decide) ?_
  exact lpX2_ownedBy l g S p

set_option maxRecDepth 100000 in
set_option maxHeartbeats 4000000 in
theorem lpX2_storedNumber (l : Launch) (g : XG) (S : MS) (f : Int32)  : XA l g MX2_storedNumber (Qp (stN S f) (wF S)) 11 ((fun i => [some (.ref 0), some (.int f), some (.int (nI (cntB (fun i => stB S f (nI i)) i))), some (.int (fnI S f)), some (.int (nI i))]) 0) ((fun _ => []) 0) ((fun _ => wF S) 0) 0 0 := by
  refine x_for (cl (fnI S f)) (fun _ => True) (fun i => [some (.ref 0), some (.int f), some (.int (nI (cntB (fun i => stB S f (nI i)) i))), some (.int (fnI S f)), some (.int (nI i))]) (fun _ => []) (fun _ => wF S) trivial (fun i hi hp ih => ?_) (fun hp => ?_)
  · refine x_iload dX2_storedNumber_11 rfl ?_
    refine x_iload_n dX2_storedNumber_13 rfl ?_
    refine x_icmp_ge_f (tgt := 36) dX2_storedNumber_14 (by decide) (nge_cl hi) ?_
    refine x_aload_n dX2_storedNumber_17 rfl ?_
    refine x_iload_n dX2_storedNumber_18 rfl ?_
    refine x_iload dX2_storedNumber_19 rfl ?_
    refine x_callp [0, 1, 2, 3, 4, 5, 6] (x_iV dX2_storedNumber_21 mlX2_61 lbX2_isStored rfl rfl rfl rfl) (kX2_isStored l g _ _ _) (by decide) rfl rfl (by decide) (by decide) (by simp [Value.category]) rfl rfl (by decide +kernel) ?_
    refine x_if_eq (tgt := 30) dX2_storedNumber_24 (by decide) (fun c_24 => ?_) (fun c_24 => ?_)
    · first | refine x_iinc dX2_storedNumber_30 (by decide) rfl (nI_inc _) ?_ | refine x_iinc dX2_storedNumber_30 (by decide) rfl (inc_1 _) ?_
      refine x_goto (tgt := 11) dX2_storedNumber_33 (by decide) ?_
      (try simp only [b2i_eq0, b2i_ne0] at *)
      exact x_eq (ih trivial) (by simp [cntB, *]) rfl rfl
    · first | refine x_iinc dX2_storedNumber_27 (by decide) rfl (nI_inc _) ?_ | refine x_iinc dX2_storedNumber_27 (by decide) rfl (inc_1 _) ?_
      first | refine x_iinc dX2_storedNumber_30 (by decide) rfl (nI_inc _) ?_ | refine x_iinc dX2_storedNumber_30 (by decide) rfl (inc_1 _) ?_
      refine x_goto (tgt := 11) dX2_storedNumber_33 (by decide) ?_
      (try simp only [b2i_eq0, b2i_ne0] at *)
      exact x_eq (ih trivial) (by simp [cntB, *]) rfl rfl
  · refine x_iload dX2_storedNumber_11 rfl ?_
    refine x_iload_n dX2_storedNumber_13 rfl ?_
    refine x_icmp_ge_t (tgt := 36) dX2_storedNumber_14 (by decide) (ge_cl) ?_
    refine x_iload_n dX2_storedNumber_36 rfl ?_
    exact x_reti dX2_storedNumber_37 rfl rfl rfl (⟨rfl, rfl⟩)

set_option maxRecDepth 100000 in
set_option maxHeartbeats 4000000 in
theorem kX2_storedNumber (l : Launch) (g : XG) (S : MS) (f : Int32) : Ct l g MX2_storedNumber [.ref 0, .int f] (wF S) (Qp (stN S f) (wF S)) := by
  refine Ct_of (by decide) (by simp [Value.category]) (Nat.le_of_ble_eq_true rfl) ?_
  refine x_iconst (v := 0) dX2_storedNumber_0 (by decide) ?_
  refine x_istore_n dX2_storedNumber_1 (by decide) ?_
  refine x_aload_n dX2_storedNumber_2 rfl ?_
  refine x_iload_n dX2_storedNumber_3 rfl ?_
  refine x_callp [0, 1, 2, 3, 4, 5, 6] (x_iV dX2_storedNumber_4 mlX2_40 lbX2_fragmentNumber rfl rfl rfl rfl) (kX2_fragmentNumber l g _ _) (by decide) rfl rfl (by decide) (by decide) (by simp [Value.category]) rfl rfl (by decide +kernel) ?_
  refine x_istore_n dX2_storedNumber_7 (by decide) ?_
  refine x_iconst (v := 0) dX2_storedNumber_8 (by decide) ?_
  refine x_istore dX2_storedNumber_9 (by decide) ?_
  exact lpX2_storedNumber l g S f

set_option maxRecDepth 100000 in
set_option maxHeartbeats 4000000 in
theorem lpX2_spoiledNumber (l : Launch) (g : XG) (S : MS) (f : Int32)  : XA l g MX2_spoiledNumber (Qp (spN S f) (wF S)) 11 ((fun i => [some (.ref 0), some (.int f), some (.int (nI (cntB (fun i => spB S f (nI i)) i))), some (.int (fnI S f)), some (.int (nI i))]) 0) ((fun _ => []) 0) ((fun _ => wF S) 0) 0 0 := by
  refine x_for (cl (fnI S f)) (fun _ => True) (fun i => [some (.ref 0), some (.int f), some (.int (nI (cntB (fun i => spB S f (nI i)) i))), some (.int (fnI S f)), some (.int (nI i))]) (fun _ => []) (fun _ => wF S) trivial (fun i hi hp ih => ?_) (fun hp => ?_)
  · refine x_iload dX2_spoiledNumber_11 rfl ?_
    refine x_iload_n dX2_spoiledNumber_13 rfl ?_
    refine x_icmp_ge_f (tgt := 36) dX2_spoiledNumber_14 (by decide) (nge_cl hi) ?_
    refine x_aload_n dX2_spoiledNumber_17 rfl ?_
    refine x_iload_n dX2_spoiledNumber_18 rfl ?_
    refine x_iload dX2_spoiledNumber_19 rfl ?_
    refine x_callp [0, 1, 2, 3, 4, 5, 6] (x_iV dX2_spoiledNumber_21 mlX2_71 lbX2_isSpoiled rfl rfl rfl rfl) (kX2_isSpoiled l g _ _ _) (by decide) rfl rfl (by decide) (by decide) (by simp [Value.category]) rfl rfl (by decide +kernel) ?_
    refine x_if_eq (tgt := 30) dX2_spoiledNumber_24 (by decide) (fun c_24 => ?_) (fun c_24 => ?_)
    · first | refine x_iinc dX2_spoiledNumber_30 (by decide) rfl (nI_inc _) ?_ | refine x_iinc dX2_spoiledNumber_30 (by decide) rfl (inc_1 _) ?_
      refine x_goto (tgt := 11) dX2_spoiledNumber_33 (by decide) ?_
      (try simp only [b2i_eq0, b2i_ne0] at *)
      exact x_eq (ih trivial) (by simp [cntB, *]) rfl rfl
    · first | refine x_iinc dX2_spoiledNumber_27 (by decide) rfl (nI_inc _) ?_ | refine x_iinc dX2_spoiledNumber_27 (by decide) rfl (inc_1 _) ?_
      first | refine x_iinc dX2_spoiledNumber_30 (by decide) rfl (nI_inc _) ?_ | refine x_iinc dX2_spoiledNumber_30 (by decide) rfl (inc_1 _) ?_
      refine x_goto (tgt := 11) dX2_spoiledNumber_33 (by decide) ?_
      (try simp only [b2i_eq0, b2i_ne0] at *)
      exact x_eq (ih trivial) (by simp [cntB, *]) rfl rfl
  · refine x_iload dX2_spoiledNumber_11 rfl ?_
    refine x_iload_n dX2_spoiledNumber_13 rfl ?_
    refine x_icmp_ge_t (tgt := 36) dX2_spoiledNumber_14 (by decide) (ge_cl) ?_
    refine x_iload_n dX2_spoiledNumber_36 rfl ?_
    exact x_reti dX2_spoiledNumber_37 rfl rfl rfl (⟨rfl, rfl⟩)

set_option maxRecDepth 100000 in
set_option maxHeartbeats 4000000 in
theorem kX2_spoiledNumber (l : Launch) (g : XG) (S : MS) (f : Int32) : Ct l g MX2_spoiledNumber [.ref 0, .int f] (wF S) (Qp (spN S f) (wF S)) := by
  refine Ct_of (by decide) (by simp [Value.category]) (Nat.le_of_ble_eq_true rfl) ?_
  refine x_iconst (v := 0) dX2_spoiledNumber_0 (by decide) ?_
  refine x_istore_n dX2_spoiledNumber_1 (by decide) ?_
  refine x_aload_n dX2_spoiledNumber_2 rfl ?_
  refine x_iload_n dX2_spoiledNumber_3 rfl ?_
  refine x_callp [0, 1, 2, 3, 4, 5, 6] (x_iV dX2_spoiledNumber_4 mlX2_40 lbX2_fragmentNumber rfl rfl rfl rfl) (kX2_fragmentNumber l g _ _) (by decide) rfl rfl (by decide) (by decide) (by simp [Value.category]) rfl rfl (by decide +kernel) ?_
  refine x_istore_n dX2_spoiledNumber_7 (by decide) ?_
  refine x_iconst (v := 0) dX2_spoiledNumber_8 (by decide) ?_
  refine x_istore dX2_spoiledNumber_9 (by decide) ?_
  exact lpX2_spoiledNumber l g S f

set_option maxRecDepth 100000 in
set_option maxHeartbeats 4000000 in
theorem lpX2_allStored (l : Launch) (g : XG) (S : MS)  : XA l g MX2_allStored (Qp (sumI (fun f => stN S (nI f)) 8) (wF S)) 4 ((fun i => [some (.ref 0), some (.int (sumI (fun f => stN S (nI f)) i)), some (.int (nI i))]) 0) ((fun _ => []) 0) ((fun _ => wF S) 0) 0 0 := by
  refine x_for 8 (fun _ => True) (fun i => [some (.ref 0), some (.int (sumI (fun f => stN S (nI f)) i)), some (.int (nI i))]) (fun _ => []) (fun _ => wF S) trivial (fun i hi hp ih => ?_) (fun hp => ?_)
  · refine x_iload_n dX2_allStored_4 rfl ?_
    refine x_bipush (v := 8) dX2_allStored_5 (by decide) ?_
    refine x_icmp_ge_f (tgt := 24) dX2_allStored_7 (by decide) (nI_nle_of rfl (by decide) hi) ?_
    refine x_iload_n dX2_allStored_10 rfl ?_
    refine x_aload_n dX2_allStored_11 rfl ?_
    refine x_iload_n dX2_allStored_12 rfl ?_
    refine x_callp [0, 1, 2, 3, 4, 5, 6] (x_iV dX2_allStored_13 mlX2_74 lbX2_storedNumber rfl rfl rfl rfl) (kX2_storedNumber l g _ _) (by decide) rfl rfl (by decide) (by decide) (by simp [Value.category]) rfl rfl (by decide +kernel) ?_
    refine x_iadd dX2_allStored_16 ?_
    refine x_istore_n dX2_allStored_17 (by decide) ?_
    first | refine x_iinc dX2_allStored_18 (by decide) rfl (nI_inc _) ?_ | refine x_iinc dX2_allStored_18 (by decide) rfl (inc_1 _) ?_
    refine x_goto (tgt := 4) dX2_allStored_21 (by decide) ?_
    exact x_eq (ih trivial) (by simp [sumI]) rfl rfl
  · refine x_iload_n dX2_allStored_4 rfl ?_
    refine x_bipush (v := 8) dX2_allStored_5 (by decide) ?_
    refine x_icmp_ge_t (tgt := 24) dX2_allStored_7 (by decide) (nI_le_of rfl (by decide) (Nat.le_refl _)) ?_
    refine x_iload_n dX2_allStored_24 rfl ?_
    exact x_reti dX2_allStored_25 rfl rfl rfl (⟨rfl, rfl⟩)

set_option maxRecDepth 100000 in
set_option maxHeartbeats 4000000 in
theorem kX2_allStored (l : Launch) (g : XG) (S : MS) : Ct l g MX2_allStored [.ref 0] (wF S) (Qp (sumI (fun f => stN S (nI f)) 8) (wF S)) := by
  refine Ct_of (by decide) (by simp [Value.category]) (Nat.le_of_ble_eq_true rfl) ?_
  refine x_iconst (v := 0) dX2_allStored_0 (by decide) ?_
  refine x_istore_n dX2_allStored_1 (by decide) ?_
  refine x_iconst (v := 0) dX2_allStored_2 (by decide) ?_
  refine x_istore_n dX2_allStored_3 (by decide) ?_
  exact lpX2_allStored l g S

set_option maxRecDepth 100000 in
set_option maxHeartbeats 4000000 in
theorem lpX2_allSpoiled (l : Launch) (g : XG) (S : MS)  : XA l g MX2_allSpoiled (Qp (sumI (fun f => spN S (nI f)) 8) (wF S)) 4 ((fun i => [some (.ref 0), some (.int (sumI (fun f => spN S (nI f)) i)), some (.int (nI i))]) 0) ((fun _ => []) 0) ((fun _ => wF S) 0) 0 0 := by
  refine x_for 8 (fun _ => True) (fun i => [some (.ref 0), some (.int (sumI (fun f => spN S (nI f)) i)), some (.int (nI i))]) (fun _ => []) (fun _ => wF S) trivial (fun i hi hp ih => ?_) (fun hp => ?_)
  · refine x_iload_n dX2_allSpoiled_4 rfl ?_
    refine x_bipush (v := 8) dX2_allSpoiled_5 (by decide) ?_
    refine x_icmp_ge_f (tgt := 24) dX2_allSpoiled_7 (by decide) (nI_nle_of rfl (by decide) hi) ?_
    refine x_iload_n dX2_allSpoiled_10 rfl ?_
    refine x_aload_n dX2_allSpoiled_11 rfl ?_
    refine x_iload_n dX2_allSpoiled_12 rfl ?_
    refine x_callp [0, 1, 2, 3, 4, 5, 6] (x_iV dX2_allSpoiled_13 mlX2_77 lbX2_spoiledNumber rfl rfl rfl rfl) (kX2_spoiledNumber l g _ _) (by decide) rfl rfl (by decide) (by decide) (by simp [Value.category]) rfl rfl (by decide +kernel) ?_
    refine x_iadd dX2_allSpoiled_16 ?_
    refine x_istore_n dX2_allSpoiled_17 (by decide) ?_
    first | refine x_iinc dX2_allSpoiled_18 (by decide) rfl (nI_inc _) ?_ | refine x_iinc dX2_allSpoiled_18 (by decide) rfl (inc_1 _) ?_
    refine x_goto (tgt := 4) dX2_allSpoiled_21 (by decide) ?_
    exact x_eq (ih trivial) (by simp [sumI]) rfl rfl
  · refine x_iload_n dX2_allSpoiled_4 rfl ?_
    refine x_bipush (v := 8) dX2_allSpoiled_5 (by decide) ?_
    refine x_icmp_ge_t (tgt := 24) dX2_allSpoiled_7 (by decide) (nI_le_of rfl (by decide) (Nat.le_refl _)) ?_
    refine x_iload_n dX2_allSpoiled_24 rfl ?_
    exact x_reti dX2_allSpoiled_25 rfl rfl rfl (⟨rfl, rfl⟩)

set_option maxRecDepth 100000 in
set_option maxHeartbeats 4000000 in
theorem kX2_allSpoiled (l : Launch) (g : XG) (S : MS) : Ct l g MX2_allSpoiled [.ref 0] (wF S) (Qp (sumI (fun f => spN S (nI f)) 8) (wF S)) := by
  refine Ct_of (by decide) (by simp [Value.category]) (Nat.le_of_ble_eq_true rfl) ?_
  refine x_iconst (v := 0) dX2_allSpoiled_0 (by decide) ?_
  refine x_istore_n dX2_allSpoiled_1 (by decide) ?_
  refine x_iconst (v := 0) dX2_allSpoiled_2 (by decide) ?_
  refine x_istore_n dX2_allSpoiled_3 (by decide) ?_
  exact lpX2_allSpoiled l g S

def ush (x : Int32) (y : Int32) : Int32 := (x.toUInt32 >>> (y.toUInt32 &&& Int32.toUInt32 31)).toInt32
def bc1 (x : Int32) : Int32 := x - (ush x 1 &&& 1431655765)
def bc2 (x : Int32) : Int32 := (bc1 x &&& 858993459) + (ush (bc1 x) 2 &&& 858993459)
def bc3 (x : Int32) : Int32 := (bc2 x + ush (bc2 x) 4) &&& 252645135
def bc4 (x : Int32) : Int32 := bc3 x + ush (bc3 x) 8
def bcI (x : Int32) : Int32 := (bc4 x + ush (bc4 x) 16) &&& 63

set_option maxRecDepth 100000 in
set_option maxHeartbeats 4000000 in
theorem kJ6_bitCount_0f7a4 (l : Launch) (g : XG) (x : Int32) : Ct l g MJ6_bitCount_0f7a4 [.int x] ([]) (Qp (bcI x) []) := by
  refine Ct_of (by decide) (by simp [Value.category]) (Nat.le_of_ble_eq_true rfl) ?_
  refine x_iload_n dJ6_bitCount_0f7a4_0 rfl ?_
  refine x_iload_n dJ6_bitCount_0f7a4_1 rfl ?_
  refine x_iconst (v := 1) dJ6_bitCount_0f7a4_2 (by decide) ?_
  refine x_iushr dJ6_bitCount_0f7a4_3 rfl ?_
  refine x_ldc_w dJ6_bitCount_0f7a4_4 w_c265 ?_
  refine x_iand dJ6_bitCount_0f7a4_7 ?_
  refine x_isub dJ6_bitCount_0f7a4_8 ?_
  refine x_istore_n dJ6_bitCount_0f7a4_9 (by decide) ?_
  refine x_iload_n dJ6_bitCount_0f7a4_10 rfl ?_
  refine x_ldc_w dJ6_bitCount_0f7a4_11 w_c266 ?_
  refine x_iand dJ6_bitCount_0f7a4_14 ?_
  refine x_iload_n dJ6_bitCount_0f7a4_15 rfl ?_
  refine x_iconst (v := 2) dJ6_bitCount_0f7a4_16 (by decide) ?_
  refine x_iushr dJ6_bitCount_0f7a4_17 rfl ?_
  refine x_ldc_w dJ6_bitCount_0f7a4_18 w_c266 ?_
  refine x_iand dJ6_bitCount_0f7a4_21 ?_
  refine x_iadd dJ6_bitCount_0f7a4_22 ?_
  refine x_istore_n dJ6_bitCount_0f7a4_23 (by decide) ?_
  refine x_iload_n dJ6_bitCount_0f7a4_24 rfl ?_
  refine x_iload_n dJ6_bitCount_0f7a4_25 rfl ?_
  refine x_iconst (v := 4) dJ6_bitCount_0f7a4_26 (by decide) ?_
  refine x_iushr dJ6_bitCount_0f7a4_27 rfl ?_
  refine x_iadd dJ6_bitCount_0f7a4_28 ?_
  refine x_ldc_w dJ6_bitCount_0f7a4_29 w_c267 ?_
  refine x_iand dJ6_bitCount_0f7a4_32 ?_
  refine x_istore_n dJ6_bitCount_0f7a4_33 (by decide) ?_
  refine x_iload_n dJ6_bitCount_0f7a4_34 rfl ?_
  refine x_iload_n dJ6_bitCount_0f7a4_35 rfl ?_
  refine x_bipush (v := 8) dJ6_bitCount_0f7a4_36 (by decide) ?_
  refine x_iushr dJ6_bitCount_0f7a4_38 rfl ?_
  refine x_iadd dJ6_bitCount_0f7a4_39 ?_
  refine x_istore_n dJ6_bitCount_0f7a4_40 (by decide) ?_
  refine x_iload_n dJ6_bitCount_0f7a4_41 rfl ?_
  refine x_iload_n dJ6_bitCount_0f7a4_42 rfl ?_
  refine x_bipush (v := 16) dJ6_bitCount_0f7a4_43 (by decide) ?_
  refine x_iushr dJ6_bitCount_0f7a4_45 rfl ?_
  refine x_iadd dJ6_bitCount_0f7a4_46 ?_
  refine x_istore_n dJ6_bitCount_0f7a4_47 (by decide) ?_
  refine x_iload_n dJ6_bitCount_0f7a4_48 rfl ?_
  refine x_bipush (v := 63) dJ6_bitCount_0f7a4_49 (by decide) ?_
  refine x_iand dJ6_bitCount_0f7a4_51 ?_
  exact x_reti dJ6_bitCount_0f7a4_52 rfl rfl rfl (⟨rfl, rfl⟩)

def dsB (S : MS) (f s : Int32) : Bool := exF S f && decide (¬ s < 0) && decide (¬ 1 <<< (fnI S f &&& 31) ≤ s) && decide (bcI s = daI S f)
def bitB (s : Int32) (i : Nat) : Bool := decide ((s >>> (nI i &&& 31)) &&& 1 = 1)
def ssB (S : MS) (f s : Int32) : Bool := allB (fun i => !(bitB s i && !stB S f (nI i))) (cl (fnI S f))

set_option maxRecDepth 100000 in
set_option maxHeartbeats 4000000 in
theorem kX2_isDecodingSet (l : Launch) (g : XG) (S : MS) (f s : Int32) : Ct l g MX2_isDecodingSet [.ref 0, .int f, .int s] (wF S) (Qp (b2i (dsB S f s)) (wF S)) := by
  refine Ct_of (by decide) (by simp [Value.category]) (Nat.le_of_ble_eq_true rfl) ?_
  refine x_aload_n dX2_isDecodingSet_0 rfl ?_
  refine x_iload_n dX2_isDecodingSet_1 rfl ?_
  refine x_callp [0, 1, 2, 3, 4, 5, 6] (x_iV dX2_isDecodingSet_2 mlX2_64 lbX2_exists rfl rfl rfl rfl) (kX2_exists l g _ _) (by decide) rfl rfl (by decide) (by decide) (by simp [Value.category]) rfl rfl (by decide +kernel) ?_
  refine x_if_eq (tgt := 39) dX2_isDecodingSet_5 (by decide) (fun c_5 => ?_) (fun c_5 => ?_)
  · refine x_iconst (v := 0) dX2_isDecodingSet_39 (by decide) ?_
    exact x_retz dX2_isDecodingSet_40 rfl (rfl) rfl rfl (⟨by (try simp only [b2i_eq0, b2i_ne0] at *); simp [dsB, b2i, *], rfl⟩)
  · refine x_iload_n dX2_isDecodingSet_8 rfl ?_
    refine x_if_lt (tgt := 39) dX2_isDecodingSet_9 (by decide) (fun c_9 => ?_) (fun c_9 => ?_)
    · refine x_iconst (v := 0) dX2_isDecodingSet_39 (by decide) ?_
      exact x_retz dX2_isDecodingSet_40 rfl (rfl) rfl rfl (⟨by (try simp only [b2i_eq0, b2i_ne0] at *); simp [dsB, b2i, *], rfl⟩)
    · refine x_iload_n dX2_isDecodingSet_12 rfl ?_
      refine x_iconst (v := 1) dX2_isDecodingSet_13 (by decide) ?_
      refine x_aload_n dX2_isDecodingSet_14 rfl ?_
      refine x_iload_n dX2_isDecodingSet_15 rfl ?_
      refine x_callp [0, 1, 2, 3, 4, 5, 6] (x_iV dX2_isDecodingSet_16 mlX2_40 lbX2_fragmentNumber rfl rfl rfl rfl) (kX2_fragmentNumber l g _ _) (by decide) rfl rfl (by decide) (by decide) (by simp [Value.category]) rfl rfl (by decide +kernel) ?_
      refine x_ishl dX2_isDecodingSet_19 ?_
      refine x_icmp_ge (tgt := 39) dX2_isDecodingSet_20 (by decide) (fun c_20 => ?_) (fun c_20 => ?_)
      · refine x_iconst (v := 0) dX2_isDecodingSet_39 (by decide) ?_
        exact x_retz dX2_isDecodingSet_40 rfl (rfl) rfl rfl (⟨by (try simp only [b2i_eq0, b2i_ne0] at *); simp [dsB, b2i, *], rfl⟩)
      · refine x_iload_n dX2_isDecodingSet_23 rfl ?_
        refine x_callp [] (x_iS dX2_isDecodingSet_24 mlX2_80 lbJ6_bitCount_0f7a4 rfl) (kJ6_bitCount_0f7a4 l g _) (by decide) rfl rfl (by decide) (by decide) (by simp [Value.category]) rfl rfl (by decide +kernel) ?_
        refine x_aload_n dX2_isDecodingSet_27 rfl ?_
        refine x_iload_n dX2_isDecodingSet_28 rfl ?_
        refine x_callp [0, 1, 2, 3, 4, 5, 6] (x_iV dX2_isDecodingSet_29 mlX2_44 lbX2_dataOf rfl rfl rfl rfl) (kX2_dataOf l g _ _) (by decide) rfl rfl (by decide) (by decide) (by simp [Value.category]) rfl rfl (by decide +kernel) ?_
        refine x_icmp_ne (tgt := 39) dX2_isDecodingSet_32 (by decide) (fun c_32 => ?_) (fun c_32 => ?_)
        · refine x_iconst (v := 0) dX2_isDecodingSet_39 (by decide) ?_
          exact x_retz dX2_isDecodingSet_40 rfl (rfl) rfl rfl (⟨by (try simp only [b2i_eq0, b2i_ne0] at *); simp [dsB, b2i, *], rfl⟩)
        · refine x_iconst (v := 1) dX2_isDecodingSet_35 (by decide) ?_
          refine x_goto (tgt := 40) dX2_isDecodingSet_36 (by decide) ?_
          exact x_retz dX2_isDecodingSet_40 rfl (rfl) rfl rfl (⟨by (try simp only [b2i_eq0, b2i_ne0] at *); simp [dsB, b2i, *], rfl⟩)

set_option maxRecDepth 100000 in
set_option maxHeartbeats 4000000 in
theorem lpX2_isStoredSet (l : Launch) (g : XG) (S : MS) (f s : Int32)  : XA l g MX2_isStoredSet (Qp (b2i (ssB S f s)) (wF S)) 9 ((fun i => [some (.ref 0), some (.int f), some (.int s), some (.int (fnI S f)), some (.int (nI i))]) 0) ((fun _ => []) 0) ((fun _ => wF S) 0) 0 0 := by
  refine x_for (cl (fnI S f)) (fun i => allB (fun i => !(bitB s i && !stB S f (nI i))) i = true) (fun i => [some (.ref 0), some (.int f), some (.int s), some (.int (fnI S f)), some (.int (nI i))]) (fun _ => []) (fun _ => wF S) rfl (fun i hi hp ih => ?_) (fun hp => ?_)
  · refine x_iload dX2_isStoredSet_9 rfl ?_
    refine x_iload_n dX2_isStoredSet_11 rfl ?_
    refine x_icmp_ge_f (tgt := 43) dX2_isStoredSet_12 (by decide) (nge_cl hi) ?_
    refine x_iload_n dX2_isStoredSet_15 rfl ?_
    refine x_iload dX2_isStoredSet_16 rfl ?_
    refine x_ishr dX2_isStoredSet_18 ?_
    refine x_iconst (v := 1) dX2_isStoredSet_19 (by decide) ?_
    refine x_iand dX2_isStoredSet_20 ?_
    refine x_iconst (v := 1) dX2_isStoredSet_21 (by decide) ?_
    refine x_icmp_ne (tgt := 37) dX2_isStoredSet_22 (by decide) (fun c_22 => ?_) (fun c_22 => ?_)
    · first | refine x_iinc dX2_isStoredSet_37 (by decide) rfl (nI_inc _) ?_ | refine x_iinc dX2_isStoredSet_37 (by decide) rfl (inc_1 _) ?_
      refine x_goto (tgt := 9) dX2_isStoredSet_40 (by decide) ?_
      (try simp only [b2i_eq0, b2i_ne0] at *)
      exact ih (by rw [allB, hp]; simp [bitB, *])
    · refine x_aload_n dX2_isStoredSet_25 rfl ?_
      refine x_iload_n dX2_isStoredSet_26 rfl ?_
      refine x_iload dX2_isStoredSet_27 rfl ?_
      refine x_callp [0, 1, 2, 3, 4, 5, 6] (x_iV dX2_isStoredSet_29 mlX2_61 lbX2_isStored rfl rfl rfl rfl) (kX2_isStored l g _ _ _) (by decide) rfl rfl (by decide) (by decide) (by simp [Value.category]) rfl rfl (by decide +kernel) ?_
      refine x_if_ne (tgt := 37) dX2_isStoredSet_32 (by decide) (fun c_32 => ?_) (fun c_32 => ?_)
      · first | refine x_iinc dX2_isStoredSet_37 (by decide) rfl (nI_inc _) ?_ | refine x_iinc dX2_isStoredSet_37 (by decide) rfl (inc_1 _) ?_
        refine x_goto (tgt := 9) dX2_isStoredSet_40 (by decide) ?_
        (try simp only [b2i_eq0, b2i_ne0] at *)
        exact ih (by rw [allB, hp]; simp [bitB, *])
      · (try simp only [b2i_eq0, b2i_ne0] at *)
        refine x_iconst (v := 0) dX2_isStoredSet_35 (by decide) ?_
        exact x_retz dX2_isStoredSet_36 rfl (rfl) rfl rfl (⟨by rw [ssB, allB_f hi (by simp [bitB, *])]; rfl, rfl⟩)
  · refine x_iload dX2_isStoredSet_9 rfl ?_
    refine x_iload_n dX2_isStoredSet_11 rfl ?_
    refine x_icmp_ge_t (tgt := 43) dX2_isStoredSet_12 (by decide) (ge_cl) ?_
    refine x_iconst (v := 1) dX2_isStoredSet_43 (by decide) ?_
    exact x_retz dX2_isStoredSet_44 rfl (rfl) rfl rfl (⟨by rw [ssB, hp]; rfl, rfl⟩)

set_option maxRecDepth 100000 in
set_option maxHeartbeats 4000000 in
theorem kX2_isStoredSet (l : Launch) (g : XG) (S : MS) (f s : Int32) : Ct l g MX2_isStoredSet [.ref 0, .int f, .int s] (wF S) (Qp (b2i (ssB S f s)) (wF S)) := by
  refine Ct_of (by decide) (by simp [Value.category]) (Nat.le_of_ble_eq_true rfl) ?_
  refine x_aload_n dX2_isStoredSet_0 rfl ?_
  refine x_iload_n dX2_isStoredSet_1 rfl ?_
  refine x_callp [0, 1, 2, 3, 4, 5, 6] (x_iV dX2_isStoredSet_2 mlX2_40 lbX2_fragmentNumber rfl rfl rfl rfl) (kX2_fragmentNumber l g _ _) (by decide) rfl rfl (by decide) (by decide) (by simp [Value.category]) rfl rfl (by decide +kernel) ?_
  refine x_istore_n dX2_isStoredSet_5 (by decide) ?_
  refine x_iconst (v := 0) dX2_isStoredSet_6 (by decide) ?_
  refine x_istore dX2_isStoredSet_7 (by decide) ?_
  exact lpX2_isStoredSet l g S f s
