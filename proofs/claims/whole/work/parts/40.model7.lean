theorem vin_ex {p : Int32} {n : Nat} (h : vp_in p n) : ∃ k, k < n ∧ p = nI k := by
  obtain ⟨h1, h2⟩ := vin_iff.mp h
  exact ⟨cl p, h2, nI_cl h1⟩
theorem mFi_ex {N : Nat → Int32} {f : Int32} (h : mFi N f = true) : ∃ k, k < 8 ∧ f = nI k := vin_ex (mFi_in h)
theorem mPe_ex {N : Nat → Int32} {f : Int32} (h : mPe N f = true) : ∃ k, k < 12 ∧ f = nI k := vin_ex (mPe_in h)
def MOk2 (N : Nat → Int32) : Prop := ∀ f, f < 8 → ¬ mFr N f < 0
def mIf (N : Nat → Int32) (f i : Int32) : Bool := mFi N f && rgB i 0 (mFr N (cl f) - 1)
theorem rg_ex {i x : Int32} {c : Nat} (hx : x = nI c) (hc : c < 2 ^ 30) (h : rgB i 0 (x - 1) = true) : ∃ k, k < c ∧ i = nI k := by
  simp only [rgB, Bool.and_eq_true, decide_eq_true_eq] at h
  subst hx
  refine ⟨cl i, ?_, nI_cl h.1⟩
  cases c with
  | zero =>
    exfalso
    apply h.2
    rw [show nI 0 - 1 = (-1 : Int32) by decide, Int32.lt_iff_toInt_lt, toInt_cl h.1]
    have : (-1 : Int32).toInt = -1 := by decide
    omega
  | succ c =>
    have h2 := h.2
    rw [nI_pred, Int32.lt_iff_toInt_lt, nI_toInt (by omega), toInt_cl h.1] at h2
    omega
theorem mIf_ex {N : Nat → Int32} {f i : Int32} (hM : MOk N) (hM2 : MOk2 N) (h : mIf N f i = true) : ∃ a b, a < 8 ∧ b < cl (mFr N a) ∧ b < 10 ∧ f = nI a ∧ i = nI b := by
  simp only [mIf, Bool.and_eq_true] at h
  obtain ⟨a, ha, rfl⟩ := mFi_ex h.1
  have h3 := h.2
  rw [cl_nI (by omega)] at h3
  have h4 : cl (mFr N a) ≤ 10 := (hM a ha).1
  obtain ⟨b, hb, rfl⟩ := rg_ex (nI_cl (hM2 a ha)) (by omega) h3
  exact ⟨a, b, ha, hb, by omega, rfl, rfl⟩
def mIv (N : Nat → Int32) (f i : Int32) : Bool := mFi N f && rgB i 0 (N (192 + 30 * cl f + 2) - 1)
def mVal (N : Nat → Int32) (f i : Nat) : Int32 := nI ((corN (fun d => cl (N (192 + 30 * f + (4 + d)))) (cl (N (192 + 30 * f + 2))) i + cl (N (192 + 30 * f + (20 + i)))) % 257)
def vFm (N : Nat → Int32) (f i w : Int32) : Int32 := if mIf N f i && rgB w 0 1 then (if 0 ≤ N (192 + 30 * cl f + (10 + cl i)) then (if w = 0 then N (192 + 30 * cl f + (10 + cl i)) else mVal N (cl f) (cl i)) else -10004) else -10001
/-- words and errors are numbers of their ranges -/
def MOk3 (N : Nat → Int32) : Prop := ∀ f, f < 8 → fW N f (cl (N (192 + 30 * f + 2))) (fun d => cl (N (192 + 30 * f + (4 + d)))) ∧ ∀ i, i < 10 → N (192 + 30 * f + (20 + i)) = nI (cl (N (192 + 30 * f + (20 + i)))) ∧ cl (N (192 + 30 * f + (20 + i))) < 257
def vRm (N : Nat → Int32) (f i : Int32) : Int32 := if mIv N f i then (if mSf N (cl f) || mGd N (cl f) (cl i) then N (192 + 30 * cl f + (4 + cl i)) else -10002) else -10001
def okSm (N : Nat → Int32) (f i a : Int32) : Bool := mIf N f i && rgB a 1 256 && decide (0 ≤ N (192 + 30 * cl f + (10 + cl i)))
def mSv (N : Nat → Int32) (f i a : Int32) : Int32 := N (192 + 30 * cl f + (20 + cl i)) + a - (N (192 + 30 * cl f + (20 + cl i)) + a) / 257 * 257
def vSm (N : Nat → Int32) (f i a : Int32) : Int32 := if mIf N f i && rgB a 1 256 then (if 0 ≤ N (192 + 30 * cl f + (10 + cl i)) then (if mSv N f i a ≤ 0 then 0 else 1) else -10002) else -10001
def vDm (N : Nat → Int32) (f : Int32) : Int32 := if mFi N f then mFs (mDe N (cl f)) else -10001
def vFIm (N : Nat → Int32) (f w : Int32) : Int32 := if mFi N f && rgB w 0 6 then (if 3 ≤ w then (if w = 3 then mSt N (cl f) else if w = 4 then mGn N (cl f) else if w = 5 then b2i (mSf N (cl f)) else mGn N (cl f) - N (192 + 30 * cl f + 2)) else N (192 + 30 * cl f + (cl w + 1))) else -10001

set_option maxRecDepth 100000 in
set_option maxHeartbeats 4000000 in
theorem kX7_delete (l : Launch) (g : XG) (N A Z B L : Nat → Int32) (n : Nat) (f : Int32) (hn : n ≤ 5)  : Ct l g MX7_delete [.ref 0, .int f] (wM N A Z B (nI n) L) (Qi (fun v w1 => v = vDm N f ∧ w1 = mC (mFi N f) (mDe N (cl f)) N A Z B L n)) := by
  refine Ct_of (by decide) (by simp [Value.category]) (Nat.le_of_ble_eq_true rfl) ?_
  refine x_aload_n dX7_delete_0 rfl ?_
  refine x_iload_n dX7_delete_1 rfl ?_
  refine x_callp [0, 1, 2, 3, 4, 5] (x_iV dX7_delete_2 mlX7_43 lbX7_isFile rfl rfl rfl rfl) (kX7_isFile l g _ _ _ _ _ _ _) (by decide) rfl rfl (by decide) (by decide) (by simp [Value.category]) rfl rfl (by decide +kernel) ?_
  refine x_if_ne (tgt := 12) dX7_delete_5 (by decide) (fun c_5 => ?_) (fun c_5 => ?_)
  · obtain ⟨f, hf, rfl⟩ := mFi_ex (b2i_t' c_5)
    refine x_aload_n dX7_delete_12 rfl ?_
    refine x_callv [0, 1, 2, 3, 4, 5] (x_iV dX7_delete_13 mlX7_80 lbX7_keeps rfl rfl rfl rfl) (kX7_keeps l g N A Z B L n hn) (by decide) (by decide) (by decide) (by simp [Value.category]) rfl rfl (by decide +kernel) (fun w1 h1 => ?_)
    obtain rfl := h1
    refine x_eq (w' := wM (N) A Z (mKB B N n) (nI (recN n)) L) ?_ rfl rfl rfl
    refine x_aload_n dX7_delete_16 rfl ?_
    refine x_iload_n dX7_delete_17 rfl ?_
    refine x_callv [0, 1, 2, 3, 4, 5] (x_iV dX7_delete_18 mlX7_96 lbX7_deletes rfl rfl rfl rfl) (kX7_deletes l g _ _ _ _ _ _ f hf) (by decide) (by decide) (by decide) (by simp [Value.category]) rfl rfl (by decide +kernel) (fun w1 h1 => ?_)
    obtain rfl := h1
    refine x_eq (w' := wM (mDe N f) A Z (mKB B N n) (nI (recN n)) L) ?_ rfl rfl rfl
    refine x_aload_n dX7_delete_21 rfl ?_
    refine x_callp [0, 1, 2, 3, 4, 5] (x_iV dX7_delete_22 mlX7_99 lbX7_files rfl rfl rfl rfl) (kX7_files l g _ _ _ _ _ _) (by decide) rfl rfl (by decide) (by decide) (by simp [Value.category]) rfl rfl (by decide +kernel) ?_
    exact x_reti dX7_delete_25 rfl rfl rfl (⟨_, rfl, by rw [mC, b2i_t' c_5, cond_true, vDm, if_pos (b2i_t' c_5), cl_nI (by omega)]; exact ⟨rfl, rfl⟩⟩)
  · refine x_sipush (v := -10001) dX7_delete_8 (by decide) ?_
    exact x_reti dX7_delete_11 rfl rfl rfl (⟨_, rfl, by rw [mC, b2i_f' c_5, cond_false]; exact ⟨by simp [vDm, b2i_f' c_5], rfl⟩⟩)

set_option maxRecDepth 100000 in
set_option maxHeartbeats 4000000 in
theorem kX7_isFragment (l : Launch) (g : XG) (N A Z B : Nat → Int32) (u : Int32) (L : Nat → Int32) (f i : Int32) : Ct l g MX7_isFragment [.ref 0, .int f, .int i] (wM N A Z B u L) (Qp (b2i (mIf N f i)) (wM N A Z B u L)) := by
  refine Ct_of (by decide) (by simp [Value.category]) (Nat.le_of_ble_eq_true rfl) ?_
  refine x_aload_n dX7_isFragment_0 rfl ?_
  refine x_iload_n dX7_isFragment_1 rfl ?_
  refine x_callp [0, 1, 2, 3, 4, 5] (x_iV dX7_isFragment_2 mlX7_43 lbX7_isFile rfl rfl rfl rfl) (kX7_isFile l g _ _ _ _ _ _ _) (by decide) rfl rfl (by decide) (by decide) (by simp [Value.category]) rfl rfl (by decide +kernel) ?_
  refine x_if_eq (tgt := 27) dX7_isFragment_5 (by decide) (fun c_5 => ?_) (fun c_5 => ?_)
  · refine x_iconst (v := 0) dX7_isFragment_27 (by decide) ?_
    exact x_retz dX7_isFragment_28 rfl (rfl) rfl rfl (⟨by (try have hcl : cl (nI f) = f := cl_nI (by omega)); (try simp only [b2i_eq0, b2i_ne0] at *); simp [mIf, b2i, *], rfl⟩)
  · obtain ⟨f, hf, rfl⟩ := mFi_ex (b2i_t' c_5)
    refine x_iload_n dX7_isFragment_8 rfl ?_
    refine x_iconst (v := 0) dX7_isFragment_9 (by decide) ?_
    refine x_aload_n dX7_isFragment_10 rfl ?_
    refine x_iload_n dX7_isFragment_11 rfl ?_
    refine x_callp [0, 1, 2, 3, 4, 5] (x_iV dX7_isFragment_12 mlX7_47 lbX7_fragments rfl rfl rfl rfl) (kX7_fragments l g _ _ _ _ _ _ f hf) (by decide) rfl rfl (by decide) (by decide) (by simp [Value.category]) rfl rfl (by decide +kernel) ?_
    refine x_iconst (v := 1) dX7_isFragment_15 (by decide) ?_
    refine x_isub dX7_isFragment_16 ?_
    refine x_callp [] (x_iS dX7_isFragment_17 mlX7_25 lbX7_in rfl) (kX7_in l g _ _ _) (by decide) rfl rfl (by decide) (by decide) (by simp [Value.category]) rfl rfl (by decide +kernel) ?_
    refine x_if_eq (tgt := 27) dX7_isFragment_20 (by decide) (fun c_20 => ?_) (fun c_20 => ?_)
    · refine x_iconst (v := 0) dX7_isFragment_27 (by decide) ?_
      exact x_retz dX7_isFragment_28 rfl (rfl) rfl rfl (⟨by (try have hcl : cl (nI f) = f := cl_nI (by omega)); (try simp only [b2i_eq0, b2i_ne0] at *); simp [mIf, b2i, *], rfl⟩)
    · refine x_iconst (v := 1) dX7_isFragment_23 (by decide) ?_
      refine x_goto (tgt := 28) dX7_isFragment_24 (by decide) ?_
      exact x_retz dX7_isFragment_28 rfl (rfl) rfl rfl (⟨by (try have hcl : cl (nI f) = f := cl_nI (by omega)); (try simp only [b2i_eq0, b2i_ne0] at *); simp [mIf, b2i, *], rfl⟩)

set_option maxRecDepth 100000 in
set_option maxHeartbeats 4000000 in
theorem kX7_arePeers (l : Launch) (g : XG) (N A Z B : Nat → Int32) (u : Int32) (L : Nat → Int32) (p q : Int32) : Ct l g MX7_arePeers [.ref 0, .int p, .int q] (wM N A Z B u L) (Qp (b2i (mTw N p q)) (wM N A Z B u L)) := by
  refine Ct_of (by decide) (by simp [Value.category]) (Nat.le_of_ble_eq_true rfl) ?_
  refine x_aload_n dX7_arePeers_0 rfl ?_
  refine x_iload_n dX7_arePeers_1 rfl ?_
  refine x_callp [0, 1, 2, 3, 4, 5] (x_iV dX7_arePeers_2 mlX7_67 lbX7_isPeer rfl rfl rfl rfl) (kX7_isPeer l g _ _ _ _ _ _ _) (by decide) rfl rfl (by decide) (by decide) (by simp [Value.category]) rfl rfl (by decide +kernel) ?_
  refine x_if_eq (tgt := 25) dX7_arePeers_5 (by decide) (fun c_5 => ?_) (fun c_5 => ?_)
  · refine x_iconst (v := 0) dX7_arePeers_25 (by decide) ?_
    exact x_retz dX7_arePeers_26 rfl (rfl) rfl rfl (⟨by (try simp only [b2i_eq0, b2i_ne0] at *); simp [mTw, b2i, *], rfl⟩)
  · refine x_aload_n dX7_arePeers_8 rfl ?_
    refine x_iload_n dX7_arePeers_9 rfl ?_
    refine x_callp [0, 1, 2, 3, 4, 5] (x_iV dX7_arePeers_10 mlX7_67 lbX7_isPeer rfl rfl rfl rfl) (kX7_isPeer l g _ _ _ _ _ _ _) (by decide) rfl rfl (by decide) (by decide) (by simp [Value.category]) rfl rfl (by decide +kernel) ?_
    refine x_if_eq (tgt := 25) dX7_arePeers_13 (by decide) (fun c_13 => ?_) (fun c_13 => ?_)
    · refine x_iconst (v := 0) dX7_arePeers_25 (by decide) ?_
      exact x_retz dX7_arePeers_26 rfl (rfl) rfl rfl (⟨by (try simp only [b2i_eq0, b2i_ne0] at *); simp [mTw, b2i, *], rfl⟩)
    · refine x_iload_n dX7_arePeers_16 rfl ?_
      refine x_iload_n dX7_arePeers_17 rfl ?_
      refine x_icmp_eq (tgt := 25) dX7_arePeers_18 (by decide) (fun c_18 => ?_) (fun c_18 => ?_)
      · refine x_iconst (v := 0) dX7_arePeers_25 (by decide) ?_
        exact x_retz dX7_arePeers_26 rfl (rfl) rfl rfl (⟨by (try simp only [b2i_eq0, b2i_ne0] at *); simp [mTw, b2i, *], rfl⟩)
      · refine x_iconst (v := 1) dX7_arePeers_21 (by decide) ?_
        refine x_goto (tgt := 26) dX7_arePeers_22 (by decide) ?_
        exact x_retz dX7_arePeers_26 rfl (rfl) rfl rfl (⟨by (try simp only [b2i_eq0, b2i_ne0] at *); simp [mTw, b2i, *], rfl⟩)

set_option maxRecDepth 100000 in
set_option maxHeartbeats 4000000 in
theorem kX7_spoil (l : Launch) (g : XG) (N A Z B L : Nat → Int32) (n : Nat) (f i a : Int32) (hn : n ≤ 5) (hM : MOk N) (hM2 : MOk2 N) : Ct l g MX7_spoil [.ref 0, .int f, .int i, .int a] (wM N A Z B (nI n) L) (Qi (fun v w1 => v = vSm N f i a ∧ w1 = mC (okSm N f i a) (upd N (192 + 30 * cl f + (20 + cl i)) (mSv N f i a)) N A Z B L n)) := by
  refine Ct_of (by decide) (by simp [Value.category]) (Nat.le_of_ble_eq_true rfl) ?_
  refine x_aload_n dX7_spoil_0 rfl ?_
  refine x_iload_n dX7_spoil_1 rfl ?_
  refine x_iload_n dX7_spoil_2 rfl ?_
  refine x_callp [0, 1, 2, 3, 4, 5] (x_iV dX7_spoil_3 mlX7_109 lbX7_isFragment rfl rfl rfl rfl) (kX7_isFragment l g _ _ _ _ _ _ _ _) (by decide) rfl rfl (by decide) (by decide) (by simp [Value.category]) rfl rfl (by decide +kernel) ?_
  refine x_if_eq (tgt := 20) dX7_spoil_6 (by decide) (fun c_6 => ?_) (fun c_6 => ?_)
  · refine x_sipush (v := -10001) dX7_spoil_20 (by decide) ?_
    exact x_reti dX7_spoil_23 rfl rfl rfl (⟨_, rfl, by (try simp only [b2i_eq0, b2i_ne0] at *); rw [mC, show (okSm N f i a) = false by simp [okSm, *], cond_false]; exact ⟨by simp [vSm, *], rfl⟩⟩)
  · refine x_iload_n dX7_spoil_9 rfl ?_
    refine x_iconst (v := 1) dX7_spoil_10 (by decide) ?_
    refine x_sipush (v := 256) dX7_spoil_11 (by decide) ?_
    refine x_callp [] (x_iS dX7_spoil_14 mlX7_25 lbX7_in rfl) (kX7_in l g _ _ _) (by decide) rfl rfl (by decide) (by decide) (by simp [Value.category]) rfl rfl (by decide +kernel) ?_
    refine x_if_ne (tgt := 24) dX7_spoil_17 (by decide) (fun c_17 => ?_) (fun c_17 => ?_)
    · obtain ⟨f, i, hf, hif, hi, rfl, rfl⟩ := mIf_ex hM hM2 (b2i_t' c_6)
      have hcf : cl (nI f) = f := cl_nI (by omega)
      have hci : cl (nI i) = i := cl_nI (by omega)
      refine x_aload_n dX7_spoil_24 rfl ?_
      refine x_iload_n dX7_spoil_25 rfl ?_
      refine x_bipush (v := 10) dX7_spoil_26 (by decide) ?_
      refine x_iload_n dX7_spoil_28 rfl ?_
      refine x_iadd dX7_spoil_29 ?_
      rw [ad10]
      refine x_callp [0, 1, 2, 3, 4, 5] (x_iV dX7_spoil_30 mlX7_29 lbX7_of rfl rfl rfl rfl) (kX7_of l g _ _ _ _ _ _ f (10 + i) hf (by omega)) (by decide) rfl rfl (by decide) (by decide) (by simp [Value.category]) rfl rfl (by decide +kernel) ?_
      refine x_if_ge (tgt := 40) dX7_spoil_33 (by decide) (fun c_33 => ?_) (fun c_33 => ?_)
      · refine x_aload_n dX7_spoil_40 rfl ?_
        refine x_callv [0, 1, 2, 3, 4, 5] (x_iV dX7_spoil_41 mlX7_80 lbX7_keeps rfl rfl rfl rfl) (kX7_keeps l g N A Z B L n hn) (by decide) (by decide) (by decide) (by simp [Value.category]) rfl rfl (by decide +kernel) (fun w1 h1 => ?_)
        obtain rfl := h1
        refine x_eq (w' := wM (N) A Z (mKB B N n) (nI (recN n)) L) ?_ rfl rfl rfl
        refine x_aload_n dX7_spoil_44 rfl ?_
        refine x_iload_n dX7_spoil_45 rfl ?_
        refine x_bipush (v := 20) dX7_spoil_46 (by decide) ?_
        refine x_iload_n dX7_spoil_48 rfl ?_
        refine x_iadd dX7_spoil_49 ?_
        rw [ad20]
        refine x_callp [0, 1, 2, 3, 4, 5] (x_iV dX7_spoil_50 mlX7_29 lbX7_of rfl rfl rfl rfl) (kX7_of l g _ _ _ _ _ _ f (20 + i) hf (by omega)) (by decide) rfl rfl (by decide) (by decide) (by simp [Value.category]) rfl rfl (by decide +kernel) ?_
        refine x_iload_n dX7_spoil_53 rfl ?_
        refine x_iadd dX7_spoil_54 ?_
        refine x_sipush (v := 257) dX7_spoil_55 (by decide) ?_
        refine x_irem dX7_spoil_58 (by decide) ?_
        refine x_istore dX7_spoil_59 (by decide) ?_
        refine x_aload_n dX7_spoil_61 rfl ?_
        refine x_getf dX7_spoil_62 flX7_7 rfl rfl ?_
        refine x_iload_n dX7_spoil_65 rfl ?_
        refine x_bipush (v := 20) dX7_spoil_66 (by decide) ?_
        refine x_iload_n dX7_spoil_68 rfl ?_
        refine x_iadd dX7_spoil_69 ?_
        refine x_callp [] (x_iS dX7_spoil_70 mlX7_33 lbX7_at rfl) (kX7_at l g _ _) (by decide) rfl rfl (by decide) (by decide) (by simp [Value.category]) rfl rfl (by decide +kernel) ?_
        refine x_iload dX7_spoil_73 rfl ?_
        refine x_iaw dX7_spoil_75 rfl (show ix (192 + 30 * nI f + (20 + nI i)) (192 + 30 * f + (20 + i)) 439 from by rw [ad20]; exact ix_at hf (by omega)) ?_
        refine x_iload dX7_spoil_76 rfl ?_
        refine x_if_le (tgt := 85) dX7_spoil_78 (by decide) (fun c_78 => ?_) (fun c_78 => ?_)
        · refine x_iconst (v := 0) dX7_spoil_85 (by decide) ?_
          exact x_reti dX7_spoil_86 rfl rfl rfl (⟨_, rfl, by (try simp only [b2i_eq0, b2i_ne0] at *); first | (rw [mC, show (okSm N (nI f) (nI i) a) = false by simp [okSm, hcf, hci, *], cond_false] <;> exact ⟨by simp [vSm, hcf, hci, *], rfl⟩) | (rw [mC, show (okSm N (nI f) (nI i) a) = true by simp [okSm, hcf, hci, *], cond_true] <;> exact ⟨by simp [vSm, mSv, hcf, hci, *], by simp [mSv, hcf, hci] <;> rfl⟩)⟩)
        · refine x_iconst (v := 1) dX7_spoil_81 (by decide) ?_
          refine x_goto (tgt := 86) dX7_spoil_82 (by decide) ?_
          exact x_reti dX7_spoil_86 rfl rfl rfl (⟨_, rfl, by (try simp only [b2i_eq0, b2i_ne0] at *); first | (rw [mC, show (okSm N (nI f) (nI i) a) = false by simp [okSm, hcf, hci, *], cond_false] <;> exact ⟨by simp [vSm, hcf, hci, *], rfl⟩) | (rw [mC, show (okSm N (nI f) (nI i) a) = true by simp [okSm, hcf, hci, *], cond_true] <;> exact ⟨by simp [vSm, mSv, hcf, hci, *], by simp [mSv, hcf, hci] <;> rfl⟩)⟩)
      · refine x_sipush (v := -10002) dX7_spoil_36 (by decide) ?_
        exact x_reti dX7_spoil_39 rfl rfl rfl (⟨_, rfl, by (try simp only [b2i_eq0, b2i_ne0] at *); first | (rw [mC, show (okSm N (nI f) (nI i) a) = false by simp [okSm, hcf, hci, *], cond_false] <;> exact ⟨by simp [vSm, hcf, hci, *], rfl⟩) | (rw [mC, show (okSm N (nI f) (nI i) a) = true by simp [okSm, hcf, hci, *], cond_true] <;> exact ⟨by simp [vSm, mSv, hcf, hci, *], by simp [mSv, hcf, hci] <;> rfl⟩)⟩)
    · refine x_sipush (v := -10001) dX7_spoil_20 (by decide) ?_
      exact x_reti dX7_spoil_23 rfl rfl rfl (⟨_, rfl, by (try simp only [b2i_eq0, b2i_ne0] at *); rw [mC, show (okSm N f i a) = false by simp [okSm, *], cond_false]; exact ⟨by simp [vSm, *], rfl⟩⟩)
