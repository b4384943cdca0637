/-! ===== the reference: losses ===== -/
def mPs (N : Nat → Int32) : Nat → Int32
  | 0 => 0
  | p + 1 => mPs N p ||| (if mPe N (nI p) then 1 <<< (nI p &&& 31) else 0)
def bitI (s p : Int32) : Int32 := (s >>> (p &&& 31)) &&& 1
def htC (N : Nat → Int32) (f : Nat) (s : Int32) : Nat → Nat := cntB (fun i => mGd N f i && decide (bitI s (N (192 + 30 * f + (10 + i))) = 0))
def mHt (N : Nat → Int32) (f : Nat) (s : Int32) : Bool := mFi N (nI f) && mSf N f && !decide (bitI s (N (192 + 30 * f + 1)) = 1) && decide (¬ N (192 + 30 * f + 2) ≤ nI (htC N f s (cl (mFr N f))))

set_option maxRecDepth 100000 in
set_option maxHeartbeats 4000000 in
theorem lpX7_peerSet (l : Launch) (g : XG) (N A Z B : Nat → Int32) (u : Int32) (L : Nat → Int32)  : XA l g MX7_peerSet (Qp (mPs N 12) (wM N A Z B u L)) 4 ((fun i => [some (.ref 0), some (.int (mPs N i)), some (.int (nI i))]) 0) ((fun _ => []) 0) ((fun _ => wM N A Z B u L) 0) 0 0 := by
  refine x_for 12 (fun _ => True) (fun i => [some (.ref 0), some (.int (mPs N i)), some (.int (nI i))]) (fun _ => []) (fun _ => wM N A Z B u L) trivial (fun i hi hp ih => ?_) (fun hp => ?_)
  · refine x_iload_n dX7_peerSet_4 rfl ?_
    refine x_bipush (v := 12) dX7_peerSet_5 (by decide) ?_
    refine x_icmp_ge_f (tgt := 34) dX7_peerSet_7 (by decide) (nI_nle_of rfl (by decide) hi) ?_
    refine x_iload_n dX7_peerSet_10 rfl ?_
    refine x_aload_n dX7_peerSet_11 rfl ?_
    refine x_iload_n dX7_peerSet_12 rfl ?_
    refine x_callp [0, 1, 2, 3, 4, 5] (x_iV dX7_peerSet_13 mlX7_67 lbX7_isPeer rfl rfl rfl rfl) (kX7_isPeer l g _ _ _ _ _ _ _) (by decide) rfl rfl (by decide) (by decide) (by simp [Value.category]) rfl rfl (by decide +kernel) ?_
    refine x_if_eq (tgt := 25) dX7_peerSet_16 (by decide) (fun c_16 => ?_) (fun c_16 => ?_)
    · refine x_iconst (v := 0) dX7_peerSet_25 (by decide) ?_
      refine x_ior dX7_peerSet_26 ?_
      refine x_istore_n dX7_peerSet_27 (by decide) ?_
      first | refine x_iinc dX7_peerSet_28 (by decide) rfl (nI_inc _) ?_ | refine x_iinc dX7_peerSet_28 (by decide) rfl (inc_1 _) ?_
      refine x_goto (tgt := 4) dX7_peerSet_31 (by decide) ?_
      (try simp only [b2i_eq0, b2i_ne0] at *)
      refine x_eq (ih trivial) ?_ rfl rfl
      rw [mPs]; simp [*] <;> rfl
    · refine x_iconst (v := 1) dX7_peerSet_19 (by decide) ?_
      refine x_iload_n dX7_peerSet_20 rfl ?_
      refine x_ishl dX7_peerSet_21 ?_
      refine x_goto (tgt := 26) dX7_peerSet_22 (by decide) ?_
      refine x_ior dX7_peerSet_26 ?_
      refine x_istore_n dX7_peerSet_27 (by decide) ?_
      first | refine x_iinc dX7_peerSet_28 (by decide) rfl (nI_inc _) ?_ | refine x_iinc dX7_peerSet_28 (by decide) rfl (inc_1 _) ?_
      refine x_goto (tgt := 4) dX7_peerSet_31 (by decide) ?_
      (try simp only [b2i_eq0, b2i_ne0] at *)
      refine x_eq (ih trivial) ?_ rfl rfl
      rw [mPs]; simp [*] <;> rfl
  · refine x_iload_n dX7_peerSet_4 rfl ?_
    refine x_bipush (v := 12) dX7_peerSet_5 (by decide) ?_
    refine x_icmp_ge_t (tgt := 34) dX7_peerSet_7 (by decide) (nI_le_of rfl (by decide) (Nat.le_refl _)) ?_
    refine x_iload_n dX7_peerSet_34 rfl ?_
    exact x_reti dX7_peerSet_35 rfl rfl rfl (⟨rfl, rfl⟩)

set_option maxRecDepth 100000 in
set_option maxHeartbeats 4000000 in
theorem kX7_peerSet (l : Launch) (g : XG) (N A Z B : Nat → Int32) (u : Int32) (L : Nat → Int32) : Ct l g MX7_peerSet [.ref 0] (wM N A Z B u L) (Qp (mPs N 12) (wM N A Z B u L)) := by
  refine Ct_of (by decide) (by simp [Value.category]) (Nat.le_of_ble_eq_true rfl) ?_
  refine x_iconst (v := 0) dX7_peerSet_0 (by decide) ?_
  refine x_istore_n dX7_peerSet_1 (by decide) ?_
  refine x_iconst (v := 0) dX7_peerSet_2 (by decide) ?_
  refine x_istore_n dX7_peerSet_3 (by decide) ?_
  exact lpX7_peerSet l g N A Z B u L

set_option maxRecDepth 100000 in
set_option maxHeartbeats 4000000 in
theorem lpX7_isHurt (l : Launch) (g : XG) (N A Z B : Nat → Int32) (u : Int32) (L : Nat → Int32) (f : Nat) (s : Int32) (hf : f < 8) (hM : MOk N) (hx : (mFi N (nI f) && mSf N f && !decide (bitI s (N (192 + 30 * f + 1)) = 1)) = true) : XA l g MX7_isHurt (Qp (b2i (mHt N f s)) (wM N A Z B u L)) 37 ((fun i => [some (.ref 0), some (.int (nI f)), some (.int s), some (.int (nI (htC N f s i))), some (.int (nI i))]) 0) ((fun _ => []) 0) ((fun _ => wM N A Z B u L) 0) 0 0 := by
  refine x_for (cl (mFr N f)) (fun _ => True) (fun i => [some (.ref 0), some (.int (nI f)), some (.int s), some (.int (nI (htC N f s i))), some (.int (nI i))]) (fun _ => []) (fun _ => wM N A Z B u L) trivial (fun i hi hp ih => ?_) (fun hp => ?_)
  · have hi10 : i < 10 := by have h1 := (hM f hf).1; have h2 : i < cl (N (192 + 30 * f + 2) + N (192 + 30 * f + 3)) := hi; omega
    refine x_iload dX7_isHurt_37 rfl ?_
    refine x_aload_n dX7_isHurt_39 rfl ?_
    refine x_iload_n dX7_isHurt_40 rfl ?_
    refine x_callp [0, 1, 2, 3, 4, 5] (x_iV dX7_isHurt_41 mlX7_47 lbX7_fragments rfl rfl rfl rfl) (kX7_fragments l g _ _ _ _ _ _ f hf) (by decide) rfl rfl (by decide) (by decide) (by simp [Value.category]) rfl rfl (by decide +kernel) ?_
    refine x_icmp_ge_f (tgt := 88) dX7_isHurt_44 (by decide) (nge_cl hi) ?_
    refine x_iload_n dX7_isHurt_47 rfl ?_
    refine x_aload_n dX7_isHurt_48 rfl ?_
    refine x_iload_n dX7_isHurt_49 rfl ?_
    refine x_iload dX7_isHurt_50 rfl ?_
    refine x_callp [0, 1, 2, 3, 4, 5] (x_iV dX7_isHurt_52 mlX7_54 lbX7_isGood rfl rfl rfl rfl) (kX7_isGood l g _ _ _ _ _ _ f i hf hi10 hM) (by decide) rfl rfl (by decide) (by decide) (by simp [Value.category]) rfl rfl (by decide +kernel) ?_
    refine x_if_eq (tgt := 79) dX7_isHurt_55 (by decide) (fun c_55 => ?_) (fun c_55 => ?_)
    · refine x_iconst (v := 0) dX7_isHurt_79 (by decide) ?_
      refine x_iadd dX7_isHurt_80 ?_
      first | rw [nI_1] | rw [Int32.add_zero]
      refine x_istore_n dX7_isHurt_81 (by decide) ?_
      first | refine x_iinc dX7_isHurt_82 (by decide) rfl (nI_inc _) ?_ | refine x_iinc dX7_isHurt_82 (by decide) rfl (inc_1 _) ?_
      refine x_goto (tgt := 37) dX7_isHurt_85 (by decide) ?_
      (try simp only [b2i_eq0, b2i_ne0] at *)
      refine x_eq (ih trivial) ?_ rfl rfl
      first | (rw [htC, cntB_t (f := fun i => mGd N f i && decide (bitI s (N (192 + 30 * f + (10 + i))) = 0)) (n := i) (by simp [bitI, *])] <;> rfl) | (rw [htC, cntB_f (f := fun i => mGd N f i && decide (bitI s (N (192 + 30 * f + (10 + i))) = 0)) (n := i) (by simp [bitI, *])] <;> rfl)
    · refine x_iload_n dX7_isHurt_58 rfl ?_
      refine x_aload_n dX7_isHurt_59 rfl ?_
      refine x_iload_n dX7_isHurt_60 rfl ?_
      refine x_bipush (v := 10) dX7_isHurt_61 (by decide) ?_
      refine x_iload dX7_isHurt_63 rfl ?_
      refine x_iadd dX7_isHurt_65 ?_
      rw [ad10]
      refine x_callp [0, 1, 2, 3, 4, 5] (x_iV dX7_isHurt_66 mlX7_29 lbX7_of rfl rfl rfl rfl) (kX7_of l g _ _ _ _ _ _ f (10 + i) hf (by omega)) (by decide) rfl rfl (by decide) (by decide) (by simp [Value.category]) rfl rfl (by decide +kernel) ?_
      refine x_ishr dX7_isHurt_69 ?_
      refine x_iconst (v := 1) dX7_isHurt_70 (by decide) ?_
      refine x_iand dX7_isHurt_71 ?_
      refine x_if_ne (tgt := 79) dX7_isHurt_72 (by decide) (fun c_72 => ?_) (fun c_72 => ?_)
      · refine x_iconst (v := 0) dX7_isHurt_79 (by decide) ?_
        refine x_iadd dX7_isHurt_80 ?_
        first | rw [nI_1] | rw [Int32.add_zero]
        refine x_istore_n dX7_isHurt_81 (by decide) ?_
        first | refine x_iinc dX7_isHurt_82 (by decide) rfl (nI_inc _) ?_ | refine x_iinc dX7_isHurt_82 (by decide) rfl (inc_1 _) ?_
        refine x_goto (tgt := 37) dX7_isHurt_85 (by decide) ?_
        (try simp only [b2i_eq0, b2i_ne0] at *)
        refine x_eq (ih trivial) ?_ rfl rfl
        first | (rw [htC, cntB_t (f := fun i => mGd N f i && decide (bitI s (N (192 + 30 * f + (10 + i))) = 0)) (n := i) (by simp [bitI, *])] <;> rfl) | (rw [htC, cntB_f (f := fun i => mGd N f i && decide (bitI s (N (192 + 30 * f + (10 + i))) = 0)) (n := i) (by simp [bitI, *])] <;> rfl)
      · refine x_iconst (v := 1) dX7_isHurt_75 (by decide) ?_
        refine x_goto (tgt := 80) dX7_isHurt_76 (by decide) ?_
        refine x_iadd dX7_isHurt_80 ?_
        first | rw [nI_1] | rw [Int32.add_zero]
        refine x_istore_n dX7_isHurt_81 (by decide) ?_
        first | refine x_iinc dX7_isHurt_82 (by decide) rfl (nI_inc _) ?_ | refine x_iinc dX7_isHurt_82 (by decide) rfl (inc_1 _) ?_
        refine x_goto (tgt := 37) dX7_isHurt_85 (by decide) ?_
        (try simp only [b2i_eq0, b2i_ne0] at *)
        refine x_eq (ih trivial) ?_ rfl rfl
        first | (rw [htC, cntB_t (f := fun i => mGd N f i && decide (bitI s (N (192 + 30 * f + (10 + i))) = 0)) (n := i) (by simp [bitI, *])] <;> rfl) | (rw [htC, cntB_f (f := fun i => mGd N f i && decide (bitI s (N (192 + 30 * f + (10 + i))) = 0)) (n := i) (by simp [bitI, *])] <;> rfl)
  · refine x_iload dX7_isHurt_37 rfl ?_
    refine x_aload_n dX7_isHurt_39 rfl ?_
    refine x_iload_n dX7_isHurt_40 rfl ?_
    refine x_callp [0, 1, 2, 3, 4, 5] (x_iV dX7_isHurt_41 mlX7_47 lbX7_fragments rfl rfl rfl rfl) (kX7_fragments l g _ _ _ _ _ _ f hf) (by decide) rfl rfl (by decide) (by decide) (by simp [Value.category]) rfl rfl (by decide +kernel) ?_
    refine x_icmp_ge_t (tgt := 88) dX7_isHurt_44 (by decide) (ge_cl) ?_
    refine x_iload_n dX7_isHurt_88 rfl ?_
    refine x_aload_n dX7_isHurt_89 rfl ?_
    refine x_iload_n dX7_isHurt_90 rfl ?_
    refine x_iconst (v := 2) dX7_isHurt_91 (by decide) ?_
    refine x_callp [0, 1, 2, 3, 4, 5] (x_iV dX7_isHurt_92 mlX7_29 lbX7_of rfl rfl rfl rfl) (kX7_of l g _ _ _ _ _ _ f 2 hf (by omega)) (by decide) rfl rfl (by decide) (by decide) (by simp [Value.category]) rfl rfl (by decide +kernel) ?_
    refine x_icmp_ge (tgt := 102) dX7_isHurt_95 (by decide) (fun c_95 => ?_) (fun c_95 => ?_)
    · refine x_iconst (v := 0) dX7_isHurt_102 (by decide) ?_
      exact x_retz dX7_isHurt_103 rfl (rfl) rfl rfl (⟨by rw [mHt, hx]; simp [b2i, *], rfl⟩)
    · refine x_iconst (v := 1) dX7_isHurt_98 (by decide) ?_
      refine x_goto (tgt := 103) dX7_isHurt_99 (by decide) ?_
      exact x_retz dX7_isHurt_103 rfl (rfl) rfl rfl (⟨by rw [mHt, hx]; simp [b2i, *], rfl⟩)

set_option maxRecDepth 100000 in
set_option maxHeartbeats 4000000 in
theorem kX7_isHurt (l : Launch) (g : XG) (N A Z B : Nat → Int32) (u : Int32) (L : Nat → Int32) (f : Nat) (s : Int32) (hf : f < 8) (hM : MOk N) : Ct l g MX7_isHurt [.ref 0, .int (nI f), .int s] (wM N A Z B u L) (Qp (b2i (mHt N f s)) (wM N A Z B u L)) := by
  refine Ct_of (by decide) (by simp [Value.category]) (Nat.le_of_ble_eq_true rfl) ?_
  refine x_aload_n dX7_isHurt_0 rfl ?_
  refine x_iload_n dX7_isHurt_1 rfl ?_
  refine x_callp [0, 1, 2, 3, 4, 5] (x_iV dX7_isHurt_2 mlX7_43 lbX7_isFile rfl rfl rfl rfl) (kX7_isFile l g _ _ _ _ _ _ _) (by decide) rfl rfl (by decide) (by decide) (by simp [Value.category]) rfl rfl (by decide +kernel) ?_
  refine x_if_eq (tgt := 30) dX7_isHurt_5 (by decide) (fun c_5 => ?_) (fun c_5 => ?_)
  · refine x_iconst (v := 0) dX7_isHurt_30 (by decide) ?_
    exact x_retz dX7_isHurt_31 rfl (rfl) rfl rfl (⟨by (try simp only [b2i_eq0, b2i_ne0] at *); simp [mHt, bitI, b2i, *], rfl⟩)
  · refine x_aload_n dX7_isHurt_8 rfl ?_
    refine x_iload_n dX7_isHurt_9 rfl ?_
    refine x_callp [0, 1, 2, 3, 4, 5] (x_iV dX7_isHurt_10 mlX7_106 lbX7_isSafe rfl rfl rfl rfl) (kX7_isSafe l g _ _ _ _ _ _ f hf hM) (by decide) rfl rfl (by decide) (by decide) (by simp [Value.category]) rfl rfl (by decide +kernel) ?_
    refine x_if_eq (tgt := 30) dX7_isHurt_13 (by decide) (fun c_13 => ?_) (fun c_13 => ?_)
    · refine x_iconst (v := 0) dX7_isHurt_30 (by decide) ?_
      exact x_retz dX7_isHurt_31 rfl (rfl) rfl rfl (⟨by (try simp only [b2i_eq0, b2i_ne0] at *); simp [mHt, bitI, b2i, *], rfl⟩)
    · refine x_iload_n dX7_isHurt_16 rfl ?_
      refine x_aload_n dX7_isHurt_17 rfl ?_
      refine x_iload_n dX7_isHurt_18 rfl ?_
      refine x_iconst (v := 1) dX7_isHurt_19 (by decide) ?_
      refine x_callp [0, 1, 2, 3, 4, 5] (x_iV dX7_isHurt_20 mlX7_29 lbX7_of rfl rfl rfl rfl) (kX7_of l g _ _ _ _ _ _ f 1 hf (by omega)) (by decide) rfl rfl (by decide) (by decide) (by simp [Value.category]) rfl rfl (by decide +kernel) ?_
      refine x_ishr dX7_isHurt_23 ?_
      refine x_iconst (v := 1) dX7_isHurt_24 (by decide) ?_
      refine x_iand dX7_isHurt_25 ?_
      refine x_iconst (v := 1) dX7_isHurt_26 (by decide) ?_
      refine x_icmp_ne (tgt := 32) dX7_isHurt_27 (by decide) (fun c_27 => ?_) (fun c_27 => ?_)
      · refine x_iconst (v := 0) dX7_isHurt_32 (by decide) ?_
        refine x_istore_n dX7_isHurt_33 (by decide) ?_
        refine x_iconst (v := 0) dX7_isHurt_34 (by decide) ?_
        refine x_istore dX7_isHurt_35 (by decide) ?_
        exact lpX7_isHurt l g N A Z B u L f s hf hM (by (try simp only [b2i_eq0, b2i_ne0] at *); simp [bitI, *])
      · refine x_iconst (v := 0) dX7_isHurt_30 (by decide) ?_
        exact x_retz dX7_isHurt_31 rfl (rfl) rfl rfl (⟨by (try simp only [b2i_eq0, b2i_ne0] at *); simp [mHt, bitI, b2i, *], rfl⟩)
