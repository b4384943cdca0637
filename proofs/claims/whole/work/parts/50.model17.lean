/-! ===== the reference: losses ===== -/
def mPs (N : Nat → Int32) : Nat → Int32
  | 0 => 0
  | p + 1 => mPs N p ||| (if mPe N (nI p) then 1 <<< (nI p &&& 31) else 0)
def bitI (s p : Int32) : Int32 := (s >>> (p &&& 31)) &&& 1
def htC (N : Nat → Int32) (f : Nat) (s : Int32) : Nat → Nat := cntB (fun i => mGd N f i && decide (bitI s (N (192 + 30 * f + (10 + i))) = 0))
def mHt (N : Nat → Int32) (f : Nat) (s : Int32) : Bool := mFi N (nI f) && mSf N f && !decide (bitI s (N (192 + 30 * f + 1)) = 1) && decide (¬ N (192 + 30 * f + 2) ≤ nI (htC N f s (cl (mFr N f))))

set_option maxRecDepth 100000 in
set_option maxHeartbeats 4000000 in
theorem lpX7_peerSet (l : Launch) (g : XG) (N A Z B : Nat → Int32) (u : Int32) (L : Nat → Int32)  : XA l g MX7_peerSet (Qp (mPs N 12) (wM N A Z B u L)) 4 ((fun i => [some (.ref 0), some (.int (mPs N i)), some (.int (nI i))]) 0) ((fun _ => []) 0) ((fun _ => wM N A Z B u L) 0) 0 0 := by
  refine x_for 12 (fun _ => True) (fun i => [some (.ref 0), some (.int (mPs N i)), some (.int (nI i))]) (fun _ => []) (fun _ => wM N A Z B u L) trivial (fun i hi hp ih => ?_) (fun hp => ?_)
  · refine x_iload_n dX7_peerSet_4 rfl ?_
    refine x_bipush (v := 12) dX7_peerSet_5 (by decide) ?_
    refine x_icmp_ge_f (tgt := 34) dX7_peerSet_7 (by decide) (nI_nle_of rfl (by decide) hi) ?_
    refine x_iload_n dX7_peerSet_10 rfl ?_
    refine x_aload_n dX7_peerSet_11 rfl ?_
    refine x_iload_n dX7_peerSet_12 rfl ?_
    refine x_callp [0, 1, 2, 3, 4, 5] (x_iV dX7_peerSet_13 mlX7_67 lbX7_isPeer rfl rfl rfl rfl) (kX7_isPeer l g _ _ _ _ _ _ _) (by decide) rfl rfl (by decide) (by decide) (by simp [Value.category]) rfl rfl (by decide +kernel) ?_
    refine x_if_eq (tgt := 25) dX7_peerSet_16 (by decide) (fun c_16 => ?_) (fun c_16 => ?_)
    · refine x_iconst (v := 0) dX7_peerSet_25 (by decide) ?_
      refine x_ior dX7_peerSet_26 ?_
      refine x_istore_n dX7_peerSet_27 (by decide) ?_
      first | refine x_iinc dX7_peerSet_28 (by decide) rfl (nI_inc _) ?_ | refine x_iinc dX7_peerSet_28 (by decide) rfl (inc_1 _) ?_
      refine x_goto (tgt := 4) dX7_peerSet_31 (by decide) ?_
      (try simp only [b2i_eq0, b2i_ne0] at *)
      refine x_eq (ih trivial) ?_ rfl rfl
      rw [mPs]; simp [*] <;> rfl
    · refine x_iconst (v := 1) dX7_peerSet_19 (by decide) ?_
      refine x_iload_n dX7_peerSet_20 rfl ?_
      refine x_ishl dX7_peerSet_21 ?_
      refine x_goto (tgt := 26) dX7_peerSet_22 (by decide) ?_
      refine x_ior dX7_peerSet_26 ?_
      refine x_istore_n dX7_peerSet_27 (by decide) ?_
      first | refine x_iinc dX7_peerSet_28 (by decide) rfl (nI_inc _) ?_ | refine x_iinc dX7_peerSet_28 (by decide) rfl (inc_1 _) ?_
      refine x_goto (tgt := 4) dX7_peerSet_31 (by decide) ?_
      (try simp only [b2i_eq0, b2i_ne0] at *)
      refine x_eq (ih trivial) ?_ rfl rfl
      rw [mPs]; simp [*] <;> rfl
  · refine x_iload_n dX7_peerSet_4 rfl ?_
    refine x_bipush (v := 12) dX7_peerSet_5 (by decide) ?_
    refine x_icmp_ge_t (tgt := 34) dX7_peerSet_7 (by decide) (nI_le_of rfl (by decide) (Nat.le_refl _)) ?_
    refine x_iload_n dX7_peerSet_34 rfl ?_
    exact x_reti dX7_peerSet_35 rfl rfl rfl (⟨rfl, rfl⟩)

set_option maxRecDepth 100000 in
set_option maxHeartbeats 4000000 in
theorem kX7_peerSet (l : Launch) (g : XG) (N A Z B : Nat → Int32) (u : Int32) (L : Nat → Int32) : Ct l g MX7_peerSet [.ref 0] (wM N A Z B u L) (Qp (mPs N 12) (wM N A Z B u L)) := by
  refine Ct_of (by decide) (by simp [Value.category]) (Nat.le_of_ble_eq_true rfl) ?_
  refine x_iconst (v := 0) dX7_peerSet_0 (by decide) ?_
  refine x_istore_n dX7_peerSet_1 (by decide) ?_
  refine x_iconst (v := 0) dX7_peerSet_2 (by decide) ?_
  refine x_istore_n dX7_peerSet_3 (by decide) ?_
  exact lpX7_peerSet l g N A Z B u L
