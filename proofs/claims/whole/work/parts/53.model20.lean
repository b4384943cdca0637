/-! ===== the reference: tolerance ===== -/
theorem nI_ltc {a b : Nat} (ha : a < 2 ^ 31) (hb : b < 2 ^ 31) : nI a < nI b ↔ a < b := by
  rw [Int32.lt_iff_toInt_lt, nI_toInt ha, nI_toInt hb]; omega
def tlB (N : Nat → Int32) (M : Nat) : Nat → Nat
  | 0 => 0
  | i + 1 => if mBn N M (nI (i + 1)) then i + 1 else tlB N M i
def vTl (N : Nat → Int32) (M : Nat) : Int32 := if nI M = 0 then -10002 else nI (tlB N M (min 4 (c1N (nI M))))

set_option maxRecDepth 100000 in
set_option maxHeartbeats 4000000 in
theorem lpX7_tolerance (l : Launch) (g : XG) (N A Z B : Nat → Int32) (u : Int32) (L : Nat → Int32) (M : Nat) (hM : MOk N) (hM4 : M < 4096) (hA : mPs N 12 = nI M) (h0 : ¬ nI M = 0) : XA l g MX7_tolerance (Qp (vTl N M) (wM N A Z B u L)) 17 ((fun i => [some (.ref 0), some (.int (nI M)), some (.int (nI (tlB N M (i)))), some (.int (nI (i + 1)))]) 0) ((fun _ => []) 0) ((fun _ => wM N A Z B u L) 0) 0 0 := by
  refine x_for 4 (fun i => i ≤ c1N (nI M)) (fun i => [some (.ref 0), some (.int (nI M)), some (.int (nI (tlB N M (i)))), some (.int (nI (i + 1)))]) (fun _ => []) (fun _ => wM N A Z B u L) (Nat.zero_le _) (fun i hi hp ih => ?_) (fun hp => ?_)
  · have hc := c1N_lt hM4
    refine x_iload_n dX7_tolerance_17 rfl ?_
    refine x_iconst (v := 4) dX7_tolerance_18 (by decide) ?_
    refine x_icmp_gt_f (tgt := 50) dX7_tolerance_19 (by decide) (show ¬ nI 4 < nI (i + 1) from by rw [nI_ltc (by omega) (by omega)]; omega) ?_
    refine x_iload_n dX7_tolerance_22 rfl ?_
    refine x_iload_n dX7_tolerance_23 rfl ?_
    refine x_callp [] (x_iS dX7_tolerance_24 mlX7_134 lbX7_count1 rfl) (kX7_count1 l g M hM4) (by decide) rfl rfl (by decide) (by decide) (by simp [Value.category]) rfl rfl (by decide +kernel) ?_
    refine x_icmp_gt (tgt := 50) dX7_tolerance_27 (by decide) (fun c_27 => ?_) (fun c_27 => ?_)
    · refine x_iload_n dX7_tolerance_50 rfl ?_
      exact x_reti dX7_tolerance_51 rfl rfl rfl (⟨by rw [nI_ltc (by omega) (by omega)] at c_27; rw [vTl, if_neg h0, show min 4 (c1N (nI M)) = i by omega], rfl⟩)
    · refine x_aload_n dX7_tolerance_30 rfl ?_
      refine x_iload_n dX7_tolerance_31 rfl ?_
      refine x_callp [0, 1, 2, 3, 4, 5] (x_iV dX7_tolerance_32 mlX7_140 lbX7_isBorne rfl rfl rfl rfl) (kX7_isBorne l g _ _ _ _ _ _ _ M hM hM4 hA) (by decide) rfl rfl (by decide) (by decide) (by simp [Value.category]) rfl rfl (by decide +kernel) ?_
      refine x_if_eq (tgt := 42) dX7_tolerance_35 (by decide) (fun c_35 => ?_) (fun c_35 => ?_)
      · refine x_iload_n dX7_tolerance_42 rfl ?_
        refine x_istore_n dX7_tolerance_43 (by decide) ?_
        first | refine x_iinc dX7_tolerance_44 (by decide) rfl (nI_inc _) ?_ | refine x_iinc dX7_tolerance_44 (by decide) rfl (inc_1 _) ?_
        refine x_goto (tgt := 17) dX7_tolerance_47 (by decide) ?_
        rw [nI_ltc (by omega) (by omega)] at c_27
        (try simp only [b2i_eq0, b2i_ne0] at c_35)
        refine x_eq (ih (by omega)) ?_ rfl rfl
        rw [tlB]; simp [c_35] <;> rfl
      · refine x_iload_n dX7_tolerance_38 rfl ?_
        refine x_goto (tgt := 43) dX7_tolerance_39 (by decide) ?_
        refine x_istore_n dX7_tolerance_43 (by decide) ?_
        first | refine x_iinc dX7_tolerance_44 (by decide) rfl (nI_inc _) ?_ | refine x_iinc dX7_tolerance_44 (by decide) rfl (inc_1 _) ?_
        refine x_goto (tgt := 17) dX7_tolerance_47 (by decide) ?_
        rw [nI_ltc (by omega) (by omega)] at c_27
        (try simp only [b2i_eq0, b2i_ne0] at c_35)
        refine x_eq (ih (by omega)) ?_ rfl rfl
        rw [tlB]; simp [c_35] <;> rfl
  · refine x_iload_n dX7_tolerance_17 rfl ?_
    refine x_iconst (v := 4) dX7_tolerance_18 (by decide) ?_
    refine x_icmp_gt_t (tgt := 50) dX7_tolerance_19 (by decide) (show nI 4 < nI (4 + 1) from by decide) ?_
    refine x_iload_n dX7_tolerance_50 rfl ?_
    exact x_reti dX7_tolerance_51 rfl rfl rfl (⟨by rw [vTl, if_neg h0, show min 4 (c1N (nI M)) = 4 by omega], rfl⟩)

set_option maxRecDepth 100000 in
set_option maxHeartbeats 4000000 in
theorem kX7_tolerance (l : Launch) (g : XG) (N A Z B : Nat → Int32) (u : Int32) (L : Nat → Int32) (M : Nat) (hM : MOk N) (hM4 : M < 4096) (hA : mPs N 12 = nI M) : Ct l g MX7_tolerance [.ref 0] (wM N A Z B u L) (Qp (vTl N M) (wM N A Z B u L)) := by
  refine Ct_of (by decide) (by simp [Value.category]) (Nat.le_of_ble_eq_true rfl) ?_
  refine x_aload_n dX7_tolerance_0 rfl ?_
  refine x_callp [0, 1, 2, 3, 4, 5] (x_iV dX7_tolerance_1 mlX7_131 lbX7_peerSet rfl rfl rfl rfl) (kX7_peerSet l g _ _ _ _ _ _) (by decide) rfl rfl (by decide) (by decide) (by simp [Value.category]) rfl rfl (by decide +kernel) ?_
  refine x_istore_n dX7_tolerance_4 (by decide) ?_
  refine x_iload_n dX7_tolerance_5 rfl ?_
  refine x_if_ne (tgt := 13) dX7_tolerance_6 (by decide) (fun c_6 => ?_) (fun c_6 => ?_)
  · refine x_iconst (v := 0) dX7_tolerance_13 (by decide) ?_
    refine x_istore_n dX7_tolerance_14 (by decide) ?_
    refine x_iconst (v := 1) dX7_tolerance_15 (by decide) ?_
    refine x_istore_n dX7_tolerance_16 (by decide) ?_
    exact x_eq (lv' := [some (.ref 0), some (.int (nI M)), some (.int (nI (tlB N M (0)))), some (.int (nI (0 + 1)))]) (lpX7_tolerance l g N A Z B u L M hM hM4 hA (by rw [← hA]; exact c_6)) (by rw [hA] <;> rfl) rfl rfl
  · refine x_sipush (v := -10002) dX7_tolerance_9 (by decide) ?_
    exact x_reti dX7_tolerance_12 rfl rfl rfl (⟨by rw [vTl, if_pos (by rw [← hA]; exact c_6)], rfl⟩)
