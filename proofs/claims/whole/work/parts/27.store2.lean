theorem swcase (x : Int32) (k : Nat) : (x.toInt < 0 ∨ (k : Int) < x.toInt) ∨ ∃ j : Nat, j ≤ k ∧ x = nI j := by
  by_cases h0 : x < 0
  · left; left; simpa using Int32.lt_iff_toInt_lt.mp h0
  · have h1 := toInt_cl h0
    by_cases h2 : cl x ≤ k
    · exact Or.inr ⟨cl x, h2, nI_cl h0⟩
    · left; right; omega
def vPI (S : MS) (p w : Int32) : Int32 := if exB S p then (if w = 0 then S 0 (cl p) else if w = 1 then frI S p else if w = 2 then S 1 (cl p) else if w = 3 then S 2 (cl p) else if w = 4 then obN S p else if w = 5 then sumI (fun q => owI S p (nI q)) 12 else -10001) else -10001
def vFI (S : MS) (f w : Int32) : Int32 := if exF S f then (if w = 0 then S 7 (cl f) else if w = 1 then daI S f else if w = 2 then S 6 (cl f) else if w = 3 then stN S f else if w = 4 then gdN S f else if w = 5 then b2i (sfB S f) else if w = 6 then rsI S f else -10001) else -10001
def vEnd (S : MS) (p : Int32) : Int32 := if exB S p then nI (cntB (fun f => npB S (nI f) p) 8) else -10001
def vCnt (S : MS) (n : Nat) (w : Int32) : Int32 := if w = 0 then nI (cntB (fun p => exB S (nI p)) 12) else if w = 1 then nI (cntB (fun f => exF S (nI f)) 8) else if w = 2 then nI (cntB (fun f => sfB S (nI f)) 8) else if w = 3 then sumI (fun f => stN S (nI f)) 8 else if w = 4 then sumI (fun f => spN S (nI f)) 8 else if w = 5 then sumI (fun p => if onB S (nI p) then frI S (nI p) else 0) 12 else if w = 6 then S 12 0 else if w = 7 then nI n else if w = 8 then sumI (fun k => if S 4 k < 0 then 0 else S 4 k) 144 else -10001
def tolD (S : MS) : Nat → Int32
  | 0 => 0
  | c + 1 => if bcB S (nI (c + 1)) then nI (c + 1) else tolD S c
def pnN (S : MS) : Nat := cntB (fun p => exB S (nI p)) 12
def vTol (S : MS) : Int32 := if pnN S = 0 then -10002 else tolD S (min 4 (pnN S))
def sRA (S : MS) (q : Int32) : Nat → MS
  | 0 => S
  | i + 1 => cond (sfB (sRA S q i) (nI i) && decide (¬ q ≤ rsI (sRA S q i) (nI i))) (sRF (sRA S q i) (nI i) (cl (fnI (sRA S q i) (nI i)))) (sRA S q i)
def nRA (S : MS) (q : Int32) : Nat → Int32
  | 0 => 0
  | i + 1 => if sfB (sRA S q i) (nI i) && decide (¬ q ≤ rsI (sRA S q i) (nI i)) then nRA S q i + nI (nRF (sRA S q i) (nI i) (cl (fnI (sRA S q i) (nI i)))) else nRA S q i
def okRA (q : Int32) : Bool := decide (¬ q < 0) && decide (q ≤ 5)
def vRA (S : MS) (q : Int32) : Int32 := if okRA q then nRA S q 8 else -10001

set_option maxRecDepth 100000 in
set_option maxHeartbeats 4000000 in
theorem kX6_setOnline (l : Launch) (g : XG) (S : MS) (G : Nat → MS) (r n : Nat) (E : Nat → Int32) (en : Int32) (C : Nat → Int32) (cs : Int32) (P T : MS) (p o : Int32) (hr : r < 5) (hn : n ≤ 5) : Ct l g MX6_setOnline [.ref 0, .int p, .int o] (wN S (tX G r n E en C cs P T)) (Qi (fun v w1 => v = vOnl S p o ∧ w1 = wC (okOnl S p o) (us S 1 (cl p) o) S G r n E en C cs P T)) := by
  refine Ct_of (by decide) (by simp [Value.category]) (Nat.le_of_ble_eq_true rfl) ?_
  refine x_aload_n dX6_setOnline_0 rfl ?_
  refine x_getf dX6_setOnline_1 flX6_12 rfl rfl ?_
  refine x_getf dX6_setOnline_4 flX6_43 rfl rfl ?_
  refine x_iload_n dX6_setOnline_7 rfl ?_
  refine x_callp [2, 3, 4, 5, 6, 7] (x_iV dX6_setOnline_8 mlX6_61 lbX4_exists rfl rfl rfl rfl) (kX4_exists l g _ _) (by decide) rfl rfl (by decide) (by decide) (by simp [Value.category]) rfl rfl (by decide +kernel) ?_
  refine x_if_eq (tgt := 23) dX6_setOnline_11 (by decide) (fun c_11 => ?_) (fun c_11 => ?_)
  · refine x_sipush (v := -10001) dX6_setOnline_23 (by decide) ?_
    exact x_reti dX6_setOnline_26 rfl rfl rfl (⟨_, rfl, by (try simp only [b2i_eq0, b2i_ne0] at *); first | (rw [wC, show (okOnl S p o) = false by simp [okOnl, *]] <;> exact ⟨by simp [vOnl, okOnl, *], rfl⟩) | (rw [wC, show (okOnl S p o) = true by simp [okOnl, *]] <;> exact ⟨by simp [vOnl, okOnl, *], rfl⟩)⟩)
  · refine x_iload_n dX6_setOnline_14 rfl ?_
    refine x_if_lt (tgt := 23) dX6_setOnline_15 (by decide) (fun c_15 => ?_) (fun c_15 => ?_)
    · refine x_sipush (v := -10001) dX6_setOnline_23 (by decide) ?_
      exact x_reti dX6_setOnline_26 rfl rfl rfl (⟨_, rfl, by (try simp only [b2i_eq0, b2i_ne0] at *); first | (rw [wC, show (okOnl S p o) = false by simp [okOnl, *]] <;> exact ⟨by simp [vOnl, okOnl, *], rfl⟩) | (rw [wC, show (okOnl S p o) = true by simp [okOnl, *]] <;> exact ⟨by simp [vOnl, okOnl, *], rfl⟩)⟩)
    · refine x_iload_n dX6_setOnline_18 rfl ?_
      refine x_iconst (v := 1) dX6_setOnline_19 (by decide) ?_
      refine x_icmp_le (tgt := 27) dX6_setOnline_20 (by decide) (fun c_20 => ?_) (fun c_20 => ?_)
      · refine x_aload_n dX6_setOnline_27 rfl ?_
        refine x_getf dX6_setOnline_28 flX6_19 rfl rfl ?_
        refine x_aload_n dX6_setOnline_31 rfl ?_
        refine x_getf dX6_setOnline_32 flX6_12 rfl rfl ?_
        refine x_rec r n dX6_setOnline_35 rfl (by decide) (by decide) (by decide) (by simp [Value.category]) hr hn ?_
        refine x_aload_n dX6_setOnline_38 rfl ?_
        refine x_getf dX6_setOnline_39 flX6_12 rfl rfl ?_
        refine x_getf dX6_setOnline_42 flX6_43 rfl rfl ?_
        refine x_getf dX6_setOnline_45 flX6_75 rfl rfl ?_
        refine x_iload_n dX6_setOnline_48 rfl ?_
        refine x_iar dX6_setOnline_49 rfl (ix_of (exB_in (b2i_t' c_11))) ?_
        refine x_istore_n dX6_setOnline_50 (by decide) ?_
        refine x_aload_n dX6_setOnline_51 rfl ?_
        refine x_getf dX6_setOnline_52 flX6_12 rfl rfl ?_
        refine x_getf dX6_setOnline_55 flX6_43 rfl rfl ?_
        refine x_getf dX6_setOnline_58 flX6_75 rfl rfl ?_
        refine x_iload_n dX6_setOnline_61 rfl ?_
        refine x_iload_n dX6_setOnline_62 rfl ?_
        refine x_iaw dX6_setOnline_63 rfl (ix_of (exB_in (b2i_t' c_11))) ?_
        refine x_iload_n dX6_setOnline_64 rfl ?_
        exact x_reti dX6_setOnline_65 rfl rfl rfl (⟨_, rfl, by (try simp only [b2i_eq0, b2i_ne0] at *); first | (rw [wC, show (okOnl S p o) = false by simp [okOnl, *]] <;> exact ⟨by simp [vOnl, okOnl, *], rfl⟩) | (rw [wC, show (okOnl S p o) = true by simp [okOnl, *]] <;> exact ⟨by simp [vOnl, okOnl, *], rfl⟩)⟩)
      · refine x_sipush (v := -10001) dX6_setOnline_23 (by decide) ?_
        exact x_reti dX6_setOnline_26 rfl rfl rfl (⟨_, rfl, by (try simp only [b2i_eq0, b2i_ne0] at *); first | (rw [wC, show (okOnl S p o) = false by simp [okOnl, *]] <;> exact ⟨by simp [vOnl, okOnl, *], rfl⟩) | (rw [wC, show (okOnl S p o) = true by simp [okOnl, *]] <;> exact ⟨by simp [vOnl, okOnl, *], rfl⟩)⟩)

set_option maxRecDepth 100000 in
set_option maxHeartbeats 4000000 in
theorem kX6_pay (l : Launch) (g : XG) (S : MS) (G : Nat → MS) (r n : Nat) (E : Nat → Int32) (en : Int32) (C : Nat → Int32) (cs : Int32) (P T : MS) (p q a : Int32) (hr : r < 5) (hn : n ≤ 5) : Ct l g MX6_pay [.ref 0, .int p, .int q, .int a] (wN S (tX G r n E en C cs P T)) (Qi (fun v w1 => v = vPay S p q a ∧ w1 = wC (okPay S p q a) (sOwe S p q (-a)) S G r n E en C cs P T)) := by
  refine Ct_of (by decide) (by simp [Value.category]) (Nat.le_of_ble_eq_true rfl) ?_
  refine x_aload_n dX6_pay_0 rfl ?_
  refine x_getf dX6_pay_1 flX6_12 rfl rfl ?_
  refine x_getf dX6_pay_4 flX6_43 rfl rfl ?_
  refine x_iload_n dX6_pay_7 rfl ?_
  refine x_iload_n dX6_pay_8 rfl ?_
  refine x_callp [2, 3, 4, 5, 6, 7] (x_iV dX6_pay_9 mlX6_79 lbX4_areTwo rfl rfl rfl rfl) (kX4_areTwo l g _ _ _) (by decide) rfl rfl (by decide) (by decide) (by simp [Value.category]) rfl rfl (by decide +kernel) ?_
  refine x_if_eq (tgt := 27) dX6_pay_12 (by decide) (fun c_12 => ?_) (fun c_12 => ?_)
  · refine x_sipush (v := -10001) dX6_pay_27 (by decide) ?_
    exact x_reti dX6_pay_30 rfl rfl rfl (⟨_, rfl, by (try simp only [b2i_eq0, b2i_ne0] at *); first | (rw [wC, show (okPay S p q a) = false by simp [okPay, *]] <;> exact ⟨by simp [vPay, okPay, *], rfl⟩) | (rw [wC, show (okPay S p q a) = true by simp [okPay, *]] <;> exact ⟨by simp [vPay, okPay, *], rfl⟩)⟩)
  · refine x_iload_n dX6_pay_15 rfl ?_
    refine x_iconst (v := 1) dX6_pay_16 (by decide) ?_
    refine x_icmp_lt (tgt := 27) dX6_pay_17 (by decide) (fun c_17 => ?_) (fun c_17 => ?_)
    · refine x_sipush (v := -10001) dX6_pay_27 (by decide) ?_
      exact x_reti dX6_pay_30 rfl rfl rfl (⟨_, rfl, by (try simp only [b2i_eq0, b2i_ne0] at *); first | (rw [wC, show (okPay S p q a) = false by simp [okPay, *]] <;> exact ⟨by simp [vPay, okPay, *], rfl⟩) | (rw [wC, show (okPay S p q a) = true by simp [okPay, *]] <;> exact ⟨by simp [vPay, okPay, *], rfl⟩)⟩)
    · refine x_iload_n dX6_pay_20 rfl ?_
      refine x_sipush (v := 1000) dX6_pay_21 (by decide) ?_
      refine x_icmp_le (tgt := 31) dX6_pay_24 (by decide) (fun c_24 => ?_) (fun c_24 => ?_)
      · refine x_aload_n dX6_pay_31 rfl ?_
        refine x_getf dX6_pay_32 flX6_12 rfl rfl ?_
        refine x_getf dX6_pay_35 flX6_43 rfl rfl ?_
        refine x_iload_n dX6_pay_38 rfl ?_
        refine x_iload_n dX6_pay_39 rfl ?_
        refine x_callp [2, 3, 4, 5, 6, 7] (x_iV dX6_pay_40 mlX6_83 lbX4_owedBy rfl rfl rfl rfl) (kX4_owedBy l g _ _ _) (by decide) rfl rfl (by decide) (by decide) (by simp [Value.category]) rfl rfl (by decide +kernel) ?_
        refine x_iload_n dX6_pay_43 rfl ?_
        refine x_icmp_ge (tgt := 51) dX6_pay_44 (by decide) (fun c_44 => ?_) (fun c_44 => ?_)
        · refine x_aload_n dX6_pay_51 rfl ?_
          refine x_getf dX6_pay_52 flX6_19 rfl rfl ?_
          refine x_aload_n dX6_pay_55 rfl ?_
          refine x_getf dX6_pay_56 flX6_12 rfl rfl ?_
          refine x_rec r n dX6_pay_59 rfl (by decide) (by decide) (by decide) (by simp [Value.category]) hr hn ?_
          refine x_aload_n dX6_pay_62 rfl ?_
          refine x_getf dX6_pay_63 flX6_12 rfl rfl ?_
          refine x_getf dX6_pay_66 flX6_43 rfl rfl ?_
          refine x_iload_n dX6_pay_69 rfl ?_
          refine x_iload_n dX6_pay_70 rfl ?_
          refine x_iload_n dX6_pay_71 rfl ?_
          refine x_ineg dX6_pay_72 ?_
          refine x_callv [2, 3, 4, 5, 6, 7] (x_iV dX6_pay_73 mlX6_87 lbX4_owe rfl rfl rfl rfl) (kX4_owe l g S _ _ _) (by decide) (by decide) (by decide) (by simp [Value.category]) rfl rfl (by decide +kernel) (fun w1 h1 => ?_)
          obtain rfl := h1
          refine x_eq ?_ rfl rfl (wN_P (agP_owe _ _ _ _))
          refine x_aload_n dX6_pay_76 rfl ?_
          refine x_getf dX6_pay_77 flX6_12 rfl rfl ?_
          refine x_getf dX6_pay_80 flX6_43 rfl rfl ?_
          refine x_iload_n dX6_pay_83 rfl ?_
          refine x_iload_n dX6_pay_84 rfl ?_
          refine x_callp [2, 3, 4, 5, 6, 7] (x_iV dX6_pay_85 mlX6_83 lbX4_owedBy rfl rfl rfl rfl) (kX4_owedBy l g _ _ _) (by decide) rfl rfl (by decide) (by decide) (by simp [Value.category]) rfl rfl (by decide +kernel) ?_
          exact x_reti dX6_pay_88 rfl rfl rfl (⟨_, rfl, by (try simp only [b2i_eq0, b2i_ne0] at *); first | (rw [wC, show (okPay S p q a) = false by simp [okPay, *]] <;> exact ⟨by simp [vPay, okPay, *], rfl⟩) | (rw [wC, show (okPay S p q a) = true by simp [okPay, *]] <;> exact ⟨by simp [vPay, okPay, *], rfl⟩)⟩)
        · refine x_sipush (v := -10002) dX6_pay_47 (by decide) ?_
          exact x_reti dX6_pay_50 rfl rfl rfl (⟨_, rfl, by (try simp only [b2i_eq0, b2i_ne0] at *); first | (rw [wC, show (okPay S p q a) = false by simp [okPay, *]] <;> exact ⟨by simp [vPay, okPay, *], rfl⟩) | (rw [wC, show (okPay S p q a) = true by simp [okPay, *]] <;> exact ⟨by simp [vPay, okPay, *], rfl⟩)⟩)
      · refine x_sipush (v := -10001) dX6_pay_27 (by decide) ?_
        exact x_reti dX6_pay_30 rfl rfl rfl (⟨_, rfl, by (try simp only [b2i_eq0, b2i_ne0] at *); first | (rw [wC, show (okPay S p q a) = false by simp [okPay, *]] <;> exact ⟨by simp [vPay, okPay, *], rfl⟩) | (rw [wC, show (okPay S p q a) = true by simp [okPay, *]] <;> exact ⟨by simp [vPay, okPay, *], rfl⟩)⟩)

set_option maxRecDepth 100000 in
set_option maxHeartbeats 4000000 in
theorem kX6_peerInfo (l : Launch) (g : XG) (S : MS) (G : Nat → MS) (r n : Nat) (E : Nat → Int32) (en : Int32) (C : Nat → Int32) (cs : Int32) (P T : MS) (p w : Int32) : Ct l g MX6_peerInfo [.ref 0, .int p, .int w] (wN S (tX G r n E en C cs P T)) (Qp (vPI S p w) (wN S (tX G r n E en C cs P T))) := by
  refine Ct_of (by decide) (by simp [Value.category]) (Nat.le_of_ble_eq_true rfl) ?_
  refine x_aload_n dX6_peerInfo_0 rfl ?_
  refine x_getf dX6_peerInfo_1 flX6_12 rfl rfl ?_
  refine x_getf dX6_peerInfo_4 flX6_43 rfl rfl ?_
  refine x_iload_n dX6_peerInfo_7 rfl ?_
  refine x_callp [2, 3, 4, 5, 6, 7] (x_iV dX6_peerInfo_8 mlX6_61 lbX4_exists rfl rfl rfl rfl) (kX4_exists l g _ _) (by decide) rfl rfl (by decide) (by decide) (by simp [Value.category]) rfl rfl (by decide +kernel) ?_
  refine x_if_ne (tgt := 18) dX6_peerInfo_11 (by decide) (fun c_11 => ?_) (fun c_11 => ?_)
  · refine x_iload_n dX6_peerInfo_18 rfl ?_
    rcases swcase w 5 with hsw | ⟨j, hj, hx⟩
    · have nsw : ∀ i : Nat, i ≤ 5 → ¬ w = nI i := fun i hi' e => by subst e; rw [nI_toInt (by omega)] at hsw; omega
      have q0 : ¬ w = 0 := nsw 0 (by decide)
      have q1 : ¬ w = 1 := nsw 1 (by decide)
      have q2 : ¬ w = 2 := nsw 2 (by decide)
      have q3 : ¬ w = 3 := nsw 3 (by decide)
      have q4 : ¬ w = 4 := nsw 4 (by decide)
      have q5 : ¬ w = 5 := nsw 5 (by decide)
      refine x_switchOut (tgt := 131) dX6_peerInfo_19 hsw (by decide) ?_
      refine x_sipush (v := -10001) dX6_peerInfo_131 (by decide) ?_
      exact x_reti dX6_peerInfo_134 rfl rfl rfl (⟨by (try simp only [b2i_eq0, b2i_ne0] at *); simp [vPI, obN, *], rfl⟩)
    · rcases (show j = 0 ∨ j = 1 ∨ j = 2 ∨ j = 3 ∨ j = 4 ∨ j = 5 by omega) with rfl | rfl | rfl | rfl | rfl | rfl
      · replace hx : w = 0 := hx
        subst hx
        refine x_switchIn (tgt := 56) (off := 37) dX6_peerInfo_19 (by decide) (by decide) (by decide) (by decide) ?_
        refine x_aload_n dX6_peerInfo_56 rfl ?_
        refine x_getf dX6_peerInfo_57 flX6_12 rfl rfl ?_
        refine x_getf dX6_peerInfo_60 flX6_43 rfl rfl ?_
        refine x_getf dX6_peerInfo_63 flX6_91 rfl rfl ?_
        refine x_iload_n dX6_peerInfo_66 rfl ?_
        refine x_iar dX6_peerInfo_67 rfl (ix_of (exB_in (b2i_t' c_11))) ?_
        exact x_reti dX6_peerInfo_68 rfl rfl rfl (⟨by (try simp only [b2i_eq0, b2i_ne0] at *); simp [vPI, obN, *], rfl⟩)
      · replace hx : w = 1 := hx
        subst hx
        refine x_switchIn (tgt := 69) (off := 50) dX6_peerInfo_19 (by decide) (by decide) (by decide) (by decide) ?_
        refine x_aload_n dX6_peerInfo_69 rfl ?_
        refine x_getf dX6_peerInfo_70 flX6_12 rfl rfl ?_
        refine x_getf dX6_peerInfo_73 flX6_43 rfl rfl ?_
        refine x_iload_n dX6_peerInfo_76 rfl ?_
        refine x_callp [2, 3, 4, 5, 6, 7] (x_iV dX6_peerInfo_77 mlX6_94 lbX4_freeSpace rfl rfl rfl rfl) (kX4_freeSpace l g _ _) (by decide) rfl rfl (by decide) (by decide) (by simp [Value.category]) rfl rfl (by decide +kernel) ?_
        exact x_reti dX6_peerInfo_80 rfl rfl rfl (⟨by (try simp only [b2i_eq0, b2i_ne0] at *); simp [vPI, obN, *], rfl⟩)
      · replace hx : w = 2 := hx
        subst hx
        refine x_switchIn (tgt := 81) (off := 62) dX6_peerInfo_19 (by decide) (by decide) (by decide) (by decide) ?_
        refine x_aload_n dX6_peerInfo_81 rfl ?_
        refine x_getf dX6_peerInfo_82 flX6_12 rfl rfl ?_
        refine x_getf dX6_peerInfo_85 flX6_43 rfl rfl ?_
        refine x_getf dX6_peerInfo_88 flX6_75 rfl rfl ?_
        refine x_iload_n dX6_peerInfo_91 rfl ?_
        refine x_iar dX6_peerInfo_92 rfl (ix_of (exB_in (b2i_t' c_11))) ?_
        exact x_reti dX6_peerInfo_93 rfl rfl rfl (⟨by (try simp only [b2i_eq0, b2i_ne0] at *); simp [vPI, obN, *], rfl⟩)
      · replace hx : w = 3 := hx
        subst hx
        refine x_switchIn (tgt := 94) (off := 75) dX6_peerInfo_19 (by decide) (by decide) (by decide) (by decide) ?_
        refine x_aload_n dX6_peerInfo_94 rfl ?_
        refine x_getf dX6_peerInfo_95 flX6_12 rfl rfl ?_
        refine x_getf dX6_peerInfo_98 flX6_43 rfl rfl ?_
        refine x_getf dX6_peerInfo_101 flX6_97 rfl rfl ?_
        refine x_iload_n dX6_peerInfo_104 rfl ?_
        refine x_iar dX6_peerInfo_105 rfl (ix_of (exB_in (b2i_t' c_11))) ?_
        exact x_reti dX6_peerInfo_106 rfl rfl rfl (⟨by (try simp only [b2i_eq0, b2i_ne0] at *); simp [vPI, obN, *], rfl⟩)
      · replace hx : w = 4 := hx
        subst hx
        refine x_switchIn (tgt := 107) (off := 88) dX6_peerInfo_19 (by decide) (by decide) (by decide) (by decide) ?_
        refine x_aload_n dX6_peerInfo_107 rfl ?_
        refine x_getf dX6_peerInfo_108 flX6_12 rfl rfl ?_
        refine x_getf dX6_peerInfo_111 flX6_100 rfl rfl ?_
        refine x_iload_n dX6_peerInfo_114 rfl ?_
        refine x_callp [8, 9, 10, 11, 12, 13, 14] (x_iV dX6_peerInfo_115 mlX6_104 lbX2_ownedBy rfl rfl rfl rfl) (kX2_ownedBy l g _ _) (by decide) rfl rfl (by decide) (by decide) (by simp [Value.category]) rfl rfl (by decide +kernel) ?_
        exact x_reti dX6_peerInfo_118 rfl rfl rfl (⟨by (try simp only [b2i_eq0, b2i_ne0] at *); simp [vPI, obN, *], rfl⟩)
      · replace hx : w = 5 := hx
        subst hx
        refine x_switchIn (tgt := 119) (off := 100) dX6_peerInfo_19 (by decide) (by decide) (by decide) (by decide) ?_
        refine x_aload_n dX6_peerInfo_119 rfl ?_
        refine x_getf dX6_peerInfo_120 flX6_12 rfl rfl ?_
        refine x_getf dX6_peerInfo_123 flX6_43 rfl rfl ?_
        refine x_iload_n dX6_peerInfo_126 rfl ?_
        refine x_callp [2, 3, 4, 5, 6, 7] (x_iV dX6_peerInfo_127 mlX6_109 lbX4_sumOwedBy rfl rfl rfl rfl) (kX4_sumOwedBy l g _ _) (by decide) rfl rfl (by decide) (by decide) (by simp [Value.category]) rfl rfl (by decide +kernel) ?_
        exact x_reti dX6_peerInfo_130 rfl rfl rfl (⟨by (try simp only [b2i_eq0, b2i_ne0] at *); simp [vPI, obN, *], rfl⟩)
  · refine x_sipush (v := -10001) dX6_peerInfo_14 (by decide) ?_
    exact x_reti dX6_peerInfo_17 rfl rfl rfl (⟨by (try simp only [b2i_eq0, b2i_ne0] at *); simp [vPI, obN, *], rfl⟩)

set_option maxRecDepth 100000 in
set_option maxHeartbeats 4000000 in
theorem kX6_balance (l : Launch) (g : XG) (S : MS) (G : Nat → MS) (r n : Nat) (E : Nat → Int32) (en : Int32) (C : Nat → Int32) (cs : Int32) (P T : MS) (p q : Int32) : Ct l g MX6_balance [.ref 0, .int p, .int q] (wN S (tX G r n E en C cs P T)) (Qp (vBal S p q) (wN S (tX G r n E en C cs P T))) := by
  refine Ct_of (by decide) (by simp [Value.category]) (Nat.le_of_ble_eq_true rfl) ?_
  refine x_aload_n dX6_balance_0 rfl ?_
  refine x_getf dX6_balance_1 flX6_12 rfl rfl ?_
  refine x_getf dX6_balance_4 flX6_43 rfl rfl ?_
  refine x_iload_n dX6_balance_7 rfl ?_
  refine x_iload_n dX6_balance_8 rfl ?_
  refine x_callp [2, 3, 4, 5, 6, 7] (x_iV dX6_balance_9 mlX6_79 lbX4_areTwo rfl rfl rfl rfl) (kX4_areTwo l g _ _ _) (by decide) rfl rfl (by decide) (by decide) (by simp [Value.category]) rfl rfl (by decide +kernel) ?_
  refine x_if_ne (tgt := 19) dX6_balance_12 (by decide) (fun c_12 => ?_) (fun c_12 => ?_)
  · refine x_aload_n dX6_balance_19 rfl ?_
    refine x_getf dX6_balance_20 flX6_12 rfl rfl ?_
    refine x_getf dX6_balance_23 flX6_43 rfl rfl ?_
    refine x_iload_n dX6_balance_26 rfl ?_
    refine x_iload_n dX6_balance_27 rfl ?_
    refine x_callp [2, 3, 4, 5, 6, 7] (x_iV dX6_balance_28 mlX6_83 lbX4_owedBy rfl rfl rfl rfl) (kX4_owedBy l g _ _ _) (by decide) rfl rfl (by decide) (by decide) (by simp [Value.category]) rfl rfl (by decide +kernel) ?_
    exact x_reti dX6_balance_31 rfl rfl rfl (⟨by (try simp only [b2i_eq0, b2i_ne0] at *); simp [vBal, *], rfl⟩)
  · refine x_sipush (v := -10001) dX6_balance_15 (by decide) ?_
    exact x_reti dX6_balance_18 rfl rfl rfl (⟨by (try simp only [b2i_eq0, b2i_ne0] at *); simp [vBal, *], rfl⟩)

set_option maxRecDepth 100000 in
set_option maxHeartbeats 4000000 in
theorem kX6_delete (l : Launch) (g : XG) (S : MS) (G : Nat → MS) (r n : Nat) (E : Nat → Int32) (en : Int32) (C : Nat → Int32) (cs : Int32) (P T : MS) (f : Int32) (hr : r < 5) (hn : n ≤ 5) : Ct l g MX6_delete [.ref 0, .int f] (wN S (tX G r n E en C cs P T)) (Qi (fun v w1 => v = vDel S f ∧ w1 = wC (exF S f) (sDel S f) S G r n E en C cs P T)) := by
  refine Ct_of (by decide) (by simp [Value.category]) (Nat.le_of_ble_eq_true rfl) ?_
  refine x_aload_n dX6_delete_0 rfl ?_
  refine x_getf dX6_delete_1 flX6_12 rfl rfl ?_
  refine x_getf dX6_delete_4 flX6_100 rfl rfl ?_
  refine x_iload_n dX6_delete_7 rfl ?_
  refine x_callp [8, 9, 10, 11, 12, 13, 14] (x_iV dX6_delete_8 mlX6_126 lbX2_exists rfl rfl rfl rfl) (kX2_exists l g _ _) (by decide) rfl rfl (by decide) (by decide) (by simp [Value.category]) rfl rfl (by decide +kernel) ?_
  refine x_if_ne (tgt := 18) dX6_delete_11 (by decide) (fun c_11 => ?_) (fun c_11 => ?_)
  · refine x_aload_n dX6_delete_18 rfl ?_
    refine x_getf dX6_delete_19 flX6_19 rfl rfl ?_
    refine x_aload_n dX6_delete_22 rfl ?_
    refine x_getf dX6_delete_23 flX6_12 rfl rfl ?_
    refine x_rec r n dX6_delete_26 rfl (by decide) (by decide) (by decide) (by simp [Value.category]) hr hn ?_
    refine x_aload_n dX6_delete_29 rfl ?_
    refine x_getf dX6_delete_30 flX6_12 rfl rfl ?_
    refine x_iload_n dX6_delete_33 rfl ?_
    refine x_callv [1, 2, 3, 4, 5, 6, 7, 8, 9, 10, 11, 12, 13, 14, 15] (x_iV dX6_delete_34 mlX6_127 lbX5_removeFile rfl rfl rfl rfl) (kX5_removeFile l g S _) (by decide) (by decide) (by decide) (by simp [Value.category]) rfl rfl (by decide +kernel) (fun w1 h1 => ?_)
    obtain rfl := h1
    refine x_eq (w' := wN (sDel S f) (tX (recG G r n S) (recR r n) (recN n) E en C cs P T)) ?_ rfl rfl rfl
    refine x_aload_n dX6_delete_37 rfl ?_
    refine x_getf dX6_delete_38 flX6_12 rfl rfl ?_
    refine x_getf dX6_delete_41 flX6_100 rfl rfl ?_
    refine x_callp [8, 9, 10, 11, 12, 13, 14] (x_iV dX6_delete_44 mlX6_131 lbX2_number rfl rfl rfl rfl) (kX2_number l g _) (by decide) rfl rfl (by decide) (by decide) (by simp [Value.category]) rfl rfl (by decide +kernel) ?_
    exact x_reti dX6_delete_47 rfl rfl rfl (⟨_, rfl, by (try simp only [b2i_eq0, b2i_ne0] at *); first | (rw [wC, show (exF S f) = false by simp [vDel, *]] <;> exact ⟨by simp [vDel, vDel, *], rfl⟩) | (rw [wC, show (exF S f) = true by simp [vDel, *]] <;> exact ⟨by simp [vDel, vDel, *], rfl⟩)⟩)
  · refine x_sipush (v := -10001) dX6_delete_14 (by decide) ?_
    exact x_reti dX6_delete_17 rfl rfl rfl (⟨_, rfl, by (try simp only [b2i_eq0, b2i_ne0] at *); first | (rw [wC, show (exF S f) = false by simp [vDel, *]] <;> exact ⟨by simp [vDel, vDel, *], rfl⟩) | (rw [wC, show (exF S f) = true by simp [vDel, *]] <;> exact ⟨by simp [vDel, vDel, *], rfl⟩)⟩)

set_option maxRecDepth 100000 in
set_option maxHeartbeats 4000000 in
theorem kX6_fileInfo (l : Launch) (g : XG) (S : MS) (G : Nat → MS) (r n : Nat) (E : Nat → Int32) (en : Int32) (C : Nat → Int32) (cs : Int32) (P T : MS) (f w : Int32) : Ct l g MX6_fileInfo [.ref 0, .int f, .int w] (wN S (tX G r n E en C cs P T)) (Qp (vFI S f w) (wN S (tX G r n E en C cs P T))) := by
  refine Ct_of (by decide) (by simp [Value.category]) (Nat.le_of_ble_eq_true rfl) ?_
  refine x_aload_n dX6_fileInfo_0 rfl ?_
  refine x_getf dX6_fileInfo_1 flX6_12 rfl rfl ?_
  refine x_getf dX6_fileInfo_4 flX6_100 rfl rfl ?_
  refine x_iload_n dX6_fileInfo_7 rfl ?_
  refine x_callp [8, 9, 10, 11, 12, 13, 14] (x_iV dX6_fileInfo_8 mlX6_126 lbX2_exists rfl rfl rfl rfl) (kX2_exists l g _ _) (by decide) rfl rfl (by decide) (by decide) (by simp [Value.category]) rfl rfl (by decide +kernel) ?_
  refine x_if_ne (tgt := 18) dX6_fileInfo_11 (by decide) (fun c_11 => ?_) (fun c_11 => ?_)
  · refine x_iload_n dX6_fileInfo_18 rfl ?_
    rcases swcase w 6 with hsw | ⟨j, hj, hx⟩
    · have nsw : ∀ i : Nat, i ≤ 6 → ¬ w = nI i := fun i hi' e => by subst e; rw [nI_toInt (by omega)] at hsw; omega
      have q0 : ¬ w = 0 := nsw 0 (by decide)
      have q1 : ¬ w = 1 := nsw 1 (by decide)
      have q2 : ¬ w = 2 := nsw 2 (by decide)
      have q3 : ¬ w = 3 := nsw 3 (by decide)
      have q4 : ¬ w = 4 := nsw 4 (by decide)
      have q5 : ¬ w = 5 := nsw 5 (by decide)
      have q6 : ¬ w = 6 := nsw 6 (by decide)
      refine x_switchOut (tgt := 145) dX6_fileInfo_19 hsw (by decide) ?_
      refine x_sipush (v := -10001) dX6_fileInfo_145 (by decide) ?_
      exact x_reti dX6_fileInfo_148 rfl rfl rfl (⟨by (try simp only [b2i_eq0, b2i_ne0] at *); simp [vFI, b2i, *], rfl⟩)
    · rcases (show j = 0 ∨ j = 1 ∨ j = 2 ∨ j = 3 ∨ j = 4 ∨ j = 5 ∨ j = 6 by omega) with rfl | rfl | rfl | rfl | rfl | rfl | rfl
      · replace hx : w = 0 := hx
        subst hx
        refine x_switchIn (tgt := 60) (off := 41) dX6_fileInfo_19 (by decide) (by decide) (by decide) (by decide) ?_
        refine x_aload_n dX6_fileInfo_60 rfl ?_
        refine x_getf dX6_fileInfo_61 flX6_12 rfl rfl ?_
        refine x_getf dX6_fileInfo_64 flX6_100 rfl rfl ?_
        refine x_getf dX6_fileInfo_67 flX6_134 rfl rfl ?_
        refine x_iload_n dX6_fileInfo_70 rfl ?_
        refine x_iar dX6_fileInfo_71 rfl (ix_of (exF_in (b2i_t' c_11))) ?_
        exact x_reti dX6_fileInfo_72 rfl rfl rfl (⟨by (try simp only [b2i_eq0, b2i_ne0] at *); simp [vFI, b2i, *], rfl⟩)
      · replace hx : w = 1 := hx
        subst hx
        refine x_switchIn (tgt := 73) (off := 54) dX6_fileInfo_19 (by decide) (by decide) (by decide) (by decide) ?_
        refine x_aload_n dX6_fileInfo_73 rfl ?_
        refine x_getf dX6_fileInfo_74 flX6_12 rfl rfl ?_
        refine x_getf dX6_fileInfo_77 flX6_100 rfl rfl ?_
        refine x_iload_n dX6_fileInfo_80 rfl ?_
        refine x_callp [8, 9, 10, 11, 12, 13, 14] (x_iV dX6_fileInfo_81 mlX6_137 lbX2_dataOf rfl rfl rfl rfl) (kX2_dataOf l g _ _) (by decide) rfl rfl (by decide) (by decide) (by simp [Value.category]) rfl rfl (by decide +kernel) ?_
        exact x_reti dX6_fileInfo_84 rfl rfl rfl (⟨by (try simp only [b2i_eq0, b2i_ne0] at *); simp [vFI, b2i, *], rfl⟩)
      · replace hx : w = 2 := hx
        subst hx
        refine x_switchIn (tgt := 85) (off := 66) dX6_fileInfo_19 (by decide) (by decide) (by decide) (by decide) ?_
        refine x_aload_n dX6_fileInfo_85 rfl ?_
        refine x_getf dX6_fileInfo_86 flX6_12 rfl rfl ?_
        refine x_getf dX6_fileInfo_89 flX6_100 rfl rfl ?_
        refine x_getf dX6_fileInfo_92 flX6_140 rfl rfl ?_
        refine x_iload_n dX6_fileInfo_95 rfl ?_
        refine x_iar dX6_fileInfo_96 rfl (ix_of (exF_in (b2i_t' c_11))) ?_
        exact x_reti dX6_fileInfo_97 rfl rfl rfl (⟨by (try simp only [b2i_eq0, b2i_ne0] at *); simp [vFI, b2i, *], rfl⟩)
      · replace hx : w = 3 := hx
        subst hx
        refine x_switchIn (tgt := 98) (off := 79) dX6_fileInfo_19 (by decide) (by decide) (by decide) (by decide) ?_
        refine x_aload_n dX6_fileInfo_98 rfl ?_
        refine x_getf dX6_fileInfo_99 flX6_12 rfl rfl ?_
        refine x_getf dX6_fileInfo_102 flX6_100 rfl rfl ?_
        refine x_iload_n dX6_fileInfo_105 rfl ?_
        refine x_callp [8, 9, 10, 11, 12, 13, 14] (x_iV dX6_fileInfo_106 mlX6_143 lbX2_storedNumber rfl rfl rfl rfl) (kX2_storedNumber l g _ _) (by decide) rfl rfl (by decide) (by decide) (by simp [Value.category]) rfl rfl (by decide +kernel) ?_
        exact x_reti dX6_fileInfo_109 rfl rfl rfl (⟨by (try simp only [b2i_eq0, b2i_ne0] at *); simp [vFI, b2i, *], rfl⟩)
      · replace hx : w = 4 := hx
        subst hx
        refine x_switchIn (tgt := 110) (off := 91) dX6_fileInfo_19 (by decide) (by decide) (by decide) (by decide) ?_
        refine x_aload_n dX6_fileInfo_110 rfl ?_
        refine x_getf dX6_fileInfo_111 flX6_12 rfl rfl ?_
        refine x_iload_n dX6_fileInfo_114 rfl ?_
        refine x_callp [1, 2, 3, 4, 5, 6, 7, 8, 9, 10, 11, 12, 13, 14, 15] (x_iV dX6_fileInfo_115 mlX6_146 lbX5_goodNumber rfl rfl rfl rfl) (kX5_goodNumber l g _ _) (by decide) rfl rfl (by decide) (by decide) (by simp [Value.category]) rfl rfl (by decide +kernel) ?_
        exact x_reti dX6_fileInfo_118 rfl rfl rfl (⟨by (try simp only [b2i_eq0, b2i_ne0] at *); simp [vFI, b2i, *], rfl⟩)
      · replace hx : w = 5 := hx
        subst hx
        refine x_switchIn (tgt := 119) (off := 100) dX6_fileInfo_19 (by decide) (by decide) (by decide) (by decide) ?_
        refine x_aload_n dX6_fileInfo_119 rfl ?_
        refine x_getf dX6_fileInfo_120 flX6_12 rfl rfl ?_
        refine x_iload_n dX6_fileInfo_123 rfl ?_
        refine x_callp [1, 2, 3, 4, 5, 6, 7, 8, 9, 10, 11, 12, 13, 14, 15] (x_iV dX6_fileInfo_124 mlX6_149 lbX5_isSafe rfl rfl rfl rfl) (kX5_isSafe l g _ _) (by decide) rfl rfl (by decide) (by decide) (by simp [Value.category]) rfl rfl (by decide +kernel) ?_
        refine x_if_eq (tgt := 134) dX6_fileInfo_127 (by decide) (fun c_127 => ?_) (fun c_127 => ?_)
        · refine x_iconst (v := 0) dX6_fileInfo_134 (by decide) ?_
          exact x_reti dX6_fileInfo_135 rfl rfl rfl (⟨by (try simp only [b2i_eq0, b2i_ne0] at *); simp [vFI, b2i, *], rfl⟩)
        · refine x_iconst (v := 1) dX6_fileInfo_130 (by decide) ?_
          refine x_goto (tgt := 135) dX6_fileInfo_131 (by decide) ?_
          exact x_reti dX6_fileInfo_135 rfl rfl rfl (⟨by (try simp only [b2i_eq0, b2i_ne0] at *); simp [vFI, b2i, *], rfl⟩)
      · replace hx : w = 6 := hx
        subst hx
        refine x_switchIn (tgt := 136) (off := 117) dX6_fileInfo_19 (by decide) (by decide) (by decide) (by decide) ?_
        refine x_aload_n dX6_fileInfo_136 rfl ?_
        refine x_getf dX6_fileInfo_137 flX6_12 rfl rfl ?_
        refine x_iload_n dX6_fileInfo_140 rfl ?_
        refine x_callp [1, 2, 3, 4, 5, 6, 7, 8, 9, 10, 11, 12, 13, 14, 15] (x_iV dX6_fileInfo_141 mlX6_152 lbX5_reserveOf rfl rfl rfl rfl) (kX5_reserveOf l g _ _) (by decide) rfl rfl (by decide) (by decide) (by simp [Value.category]) rfl rfl (by decide +kernel) ?_
        exact x_reti dX6_fileInfo_144 rfl rfl rfl (⟨by (try simp only [b2i_eq0, b2i_ne0] at *); simp [vFI, b2i, *], rfl⟩)
  · refine x_sipush (v := -10001) dX6_fileInfo_14 (by decide) ?_
    exact x_reti dX6_fileInfo_17 rfl rfl rfl (⟨by (try simp only [b2i_eq0, b2i_ne0] at *); simp [vFI, b2i, *], rfl⟩)

set_option maxRecDepth 100000 in
set_option maxHeartbeats 4000000 in
theorem kX6_fragment (l : Launch) (g : XG) (S : MS) (G : Nat → MS) (r n : Nat) (E : Nat → Int32) (en : Int32) (C : Nat → Int32) (cs : Int32) (P T : MS) (f i w : Int32) : Ct l g MX6_fragment [.ref 0, .int f, .int i, .int w] (wN S (tX G r n E en C cs P T)) (Qp (vFrag S f i w) (wN S (tX G r n E en C cs P T))) := by
  refine Ct_of (by decide) (by simp [Value.category]) (Nat.le_of_ble_eq_true rfl) ?_
  refine x_aload_n dX6_fragment_0 rfl ?_
  refine x_getf dX6_fragment_1 flX6_12 rfl rfl ?_
  refine x_getf dX6_fragment_4 flX6_100 rfl rfl ?_
  refine x_iload_n dX6_fragment_7 rfl ?_
  refine x_iload_n dX6_fragment_8 rfl ?_
  refine x_callp [8, 9, 10, 11, 12, 13, 14] (x_iV dX6_fragment_9 mlX6_155 lbX2_hasFragment rfl rfl rfl rfl) (kX2_hasFragment l g _ _ _) (by decide) rfl rfl (by decide) (by decide) (by simp [Value.category]) rfl rfl (by decide +kernel) ?_
  refine x_if_eq (tgt := 24) dX6_fragment_12 (by decide) (fun c_12 => ?_) (fun c_12 => ?_)
  · refine x_sipush (v := -10001) dX6_fragment_24 (by decide) ?_
    exact x_reti dX6_fragment_27 rfl rfl rfl (⟨by (try simp only [b2i_eq0, b2i_ne0] at *); simp [vFrag, *], rfl⟩)
  · refine x_iload_n dX6_fragment_15 rfl ?_
    refine x_if_lt (tgt := 24) dX6_fragment_16 (by decide) (fun c_16 => ?_) (fun c_16 => ?_)
    · refine x_sipush (v := -10001) dX6_fragment_24 (by decide) ?_
      exact x_reti dX6_fragment_27 rfl rfl rfl (⟨by (try simp only [b2i_eq0, b2i_ne0] at *); simp [vFrag, *], rfl⟩)
    · refine x_iload_n dX6_fragment_19 rfl ?_
      refine x_iconst (v := 1) dX6_fragment_20 (by decide) ?_
      refine x_icmp_le (tgt := 28) dX6_fragment_21 (by decide) (fun c_21 => ?_) (fun c_21 => ?_)
      · refine x_aload_n dX6_fragment_28 rfl ?_
        refine x_getf dX6_fragment_29 flX6_12 rfl rfl ?_
        refine x_getf dX6_fragment_32 flX6_100 rfl rfl ?_
        refine x_iload_n dX6_fragment_35 rfl ?_
        refine x_iload_n dX6_fragment_36 rfl ?_
        refine x_callp [8, 9, 10, 11, 12, 13, 14] (x_iV dX6_fragment_37 mlX6_158 lbX2_placeOf rfl rfl rfl rfl) (kX2_placeOf l g _ _ _) (by decide) rfl rfl (by decide) (by decide) (by simp [Value.category]) rfl rfl (by decide +kernel) ?_
        refine x_istore dX6_fragment_40 (by decide) ?_
        refine x_iload dX6_fragment_42 rfl ?_
        refine x_iconst (v := -1) dX6_fragment_44 (by decide) ?_
        refine x_icmp_ne (tgt := 52) dX6_fragment_45 (by decide) (fun c_45 => ?_) (fun c_45 => ?_)
        · refine x_iload_n dX6_fragment_52 rfl ?_
          refine x_if_ne (tgt := 61) dX6_fragment_53 (by decide) (fun c_53 => ?_) (fun c_53 => ?_)
          · refine x_aload_n dX6_fragment_61 rfl ?_
            refine x_getf dX6_fragment_62 flX6_12 rfl rfl ?_
            refine x_getf dX6_fragment_65 flX6_100 rfl rfl ?_
            refine x_iload_n dX6_fragment_68 rfl ?_
            refine x_iload_n dX6_fragment_69 rfl ?_
            refine x_callp [8, 9, 10, 11, 12, 13, 14] (x_iV dX6_fragment_70 mlX6_161 lbX2_storedValue rfl rfl rfl rfl) (kX2_storedValue l g _ _ _) (by decide) rfl rfl (by decide) (by decide) (by simp [Value.category]) rfl rfl (by decide +kernel) ?_
            exact x_reti dX6_fragment_73 rfl rfl rfl (⟨by (try simp only [b2i_eq0, b2i_ne0] at *); simp [vFrag, *], rfl⟩)
          · refine x_iload dX6_fragment_56 rfl ?_
            refine x_goto (tgt := 73) dX6_fragment_58 (by decide) ?_
            exact x_reti dX6_fragment_73 rfl rfl rfl (⟨by (try simp only [b2i_eq0, b2i_ne0] at *); simp [vFrag, *], rfl⟩)
        · refine x_sipush (v := -10004) dX6_fragment_48 (by decide) ?_
          exact x_reti dX6_fragment_51 rfl rfl rfl (⟨by (try simp only [b2i_eq0, b2i_ne0] at *); simp [vFrag, *], rfl⟩)
      · refine x_sipush (v := -10001) dX6_fragment_24 (by decide) ?_
        exact x_reti dX6_fragment_27 rfl rfl rfl (⟨by (try simp only [b2i_eq0, b2i_ne0] at *); simp [vFrag, *], rfl⟩)

set_option maxRecDepth 100000 in
set_option maxHeartbeats 4000000 in
theorem kX6_read (l : Launch) (g : XG) (S : MS) (G : Nat → MS) (r n : Nat) (E : Nat → Int32) (en : Int32) (C : Nat → Int32) (cs : Int32) (P T : MS) (f i : Int32) : Ct l g MX6_read [.ref 0, .int f, .int i] (wN S (tX G r n E en C cs P T)) (Qp (vRead S f i) (wN S (tX G r n E en C cs P T))) := by
  refine Ct_of (by decide) (by simp [Value.category]) (Nat.le_of_ble_eq_true rfl) ?_
  refine x_aload_n dX6_read_0 rfl ?_
  refine x_getf dX6_read_1 flX6_12 rfl rfl ?_
  refine x_getf dX6_read_4 flX6_100 rfl rfl ?_
  refine x_iload_n dX6_read_7 rfl ?_
  refine x_iload_n dX6_read_8 rfl ?_
  refine x_callp [8, 9, 10, 11, 12, 13, 14] (x_iV dX6_read_9 mlX6_164 lbX2_hasData rfl rfl rfl rfl) (kX2_hasData l g _ _ _) (by decide) rfl rfl (by decide) (by decide) (by simp [Value.category]) rfl rfl (by decide +kernel) ?_
  refine x_if_ne (tgt := 19) dX6_read_12 (by decide) (fun c_12 => ?_) (fun c_12 => ?_)
  · refine x_aload_n dX6_read_19 rfl ?_
    refine x_getf dX6_read_20 flX6_12 rfl rfl ?_
    refine x_iload_n dX6_read_23 rfl ?_
    refine x_callp [1, 2, 3, 4, 5, 6, 7, 8, 9, 10, 11, 12, 13, 14, 15] (x_iV dX6_read_24 mlX6_149 lbX5_isSafe rfl rfl rfl rfl) (kX5_isSafe l g _ _) (by decide) rfl rfl (by decide) (by decide) (by simp [Value.category]) rfl rfl (by decide +kernel) ?_
    refine x_if_ne (tgt := 46) dX6_read_27 (by decide) (fun c_27 => ?_) (fun c_27 => ?_)
    · refine x_aload_n dX6_read_46 rfl ?_
      refine x_getf dX6_read_47 flX6_12 rfl rfl ?_
      refine x_getf dX6_read_50 flX6_100 rfl rfl ?_
      refine x_iload_n dX6_read_53 rfl ?_
      refine x_iload_n dX6_read_54 rfl ?_
      refine x_callp [8, 9, 10, 11, 12, 13, 14] (x_iV dX6_read_55 mlX6_170 lbX2_correctValue rfl rfl rfl rfl) (kX2_correctValue l g _ _ _) (by decide) rfl rfl (by decide) (by decide) (by simp [Value.category]) rfl rfl (by decide +kernel) ?_
      exact x_reti dX6_read_58 rfl rfl rfl (⟨by (try simp only [b2i_eq0, b2i_ne0] at *); simp [vRead, *], rfl⟩)
    · refine x_aload_n dX6_read_30 rfl ?_
      refine x_getf dX6_read_31 flX6_12 rfl rfl ?_
      refine x_iload_n dX6_read_34 rfl ?_
      refine x_iload_n dX6_read_35 rfl ?_
      refine x_callp [1, 2, 3, 4, 5, 6, 7, 8, 9, 10, 11, 12, 13, 14, 15] (x_iV dX6_read_36 mlX6_167 lbX5_isGood rfl rfl rfl rfl) (kX5_isGood l g _ _ _) (by decide) rfl rfl (by decide) (by decide) (by simp [Value.category]) rfl rfl (by decide +kernel) ?_
      refine x_if_ne (tgt := 46) dX6_read_39 (by decide) (fun c_39 => ?_) (fun c_39 => ?_)
      · refine x_aload_n dX6_read_46 rfl ?_
        refine x_getf dX6_read_47 flX6_12 rfl rfl ?_
        refine x_getf dX6_read_50 flX6_100 rfl rfl ?_
        refine x_iload_n dX6_read_53 rfl ?_
        refine x_iload_n dX6_read_54 rfl ?_
        refine x_callp [8, 9, 10, 11, 12, 13, 14] (x_iV dX6_read_55 mlX6_170 lbX2_correctValue rfl rfl rfl rfl) (kX2_correctValue l g _ _ _) (by decide) rfl rfl (by decide) (by decide) (by simp [Value.category]) rfl rfl (by decide +kernel) ?_
        exact x_reti dX6_read_58 rfl rfl rfl (⟨by (try simp only [b2i_eq0, b2i_ne0] at *); simp [vRead, *], rfl⟩)
      · refine x_sipush (v := -10002) dX6_read_42 (by decide) ?_
        exact x_reti dX6_read_45 rfl rfl rfl (⟨by (try simp only [b2i_eq0, b2i_ne0] at *); simp [vRead, *], rfl⟩)
  · refine x_sipush (v := -10001) dX6_read_15 (by decide) ?_
    exact x_reti dX6_read_18 rfl rfl rfl (⟨by (try simp only [b2i_eq0, b2i_ne0] at *); simp [vRead, *], rfl⟩)

set_option maxRecDepth 100000 in
set_option maxHeartbeats 4000000 in
theorem kX6_spoil (l : Launch) (g : XG) (S : MS) (G : Nat → MS) (r n : Nat) (E : Nat → Int32) (en : Int32) (C : Nat → Int32) (cs : Int32) (P T : MS) (f i a : Int32) (hr : r < 5) (hn : n ≤ 5) : Ct l g MX6_spoil [.ref 0, .int f, .int i, .int a] (wN S (tX G r n E en C cs P T)) (Qi (fun v w1 => v = vSpoil S f i a ∧ w1 = wC (okSpoil S f i a) (sErr S f i a) S G r n E en C cs P T)) := by
  refine Ct_of (by decide) (by simp [Value.category]) (Nat.le_of_ble_eq_true rfl) ?_
  refine x_aload_n dX6_spoil_0 rfl ?_
  refine x_getf dX6_spoil_1 flX6_12 rfl rfl ?_
  refine x_getf dX6_spoil_4 flX6_100 rfl rfl ?_
  refine x_iload_n dX6_spoil_7 rfl ?_
  refine x_iload_n dX6_spoil_8 rfl ?_
  refine x_callp [8, 9, 10, 11, 12, 13, 14] (x_iV dX6_spoil_9 mlX6_155 lbX2_hasFragment rfl rfl rfl rfl) (kX2_hasFragment l g _ _ _) (by decide) rfl rfl (by decide) (by decide) (by simp [Value.category]) rfl rfl (by decide +kernel) ?_
  refine x_if_eq (tgt := 27) dX6_spoil_12 (by decide) (fun c_12 => ?_) (fun c_12 => ?_)
  · refine x_sipush (v := -10001) dX6_spoil_27 (by decide) ?_
    exact x_reti dX6_spoil_30 rfl rfl rfl (⟨_, rfl, by (try simp only [b2i_eq0, b2i_ne0] at *); first | (rw [wC, show (okSpoil S f i a) = false by simp [okSpoil, *]] <;> exact ⟨by simp [vSpoil, okSpoil, *], rfl⟩) | (rw [wC, show (okSpoil S f i a) = true by simp [okSpoil, *]] <;> exact ⟨by simp [vSpoil, okSpoil, *], rfl⟩)⟩)
  · refine x_iload_n dX6_spoil_15 rfl ?_
    refine x_iconst (v := 1) dX6_spoil_16 (by decide) ?_
    refine x_icmp_lt (tgt := 27) dX6_spoil_17 (by decide) (fun c_17 => ?_) (fun c_17 => ?_)
    · refine x_sipush (v := -10001) dX6_spoil_27 (by decide) ?_
      exact x_reti dX6_spoil_30 rfl rfl rfl (⟨_, rfl, by (try simp only [b2i_eq0, b2i_ne0] at *); first | (rw [wC, show (okSpoil S f i a) = false by simp [okSpoil, *]] <;> exact ⟨by simp [vSpoil, okSpoil, *], rfl⟩) | (rw [wC, show (okSpoil S f i a) = true by simp [okSpoil, *]] <;> exact ⟨by simp [vSpoil, okSpoil, *], rfl⟩)⟩)
    · refine x_iload_n dX6_spoil_20 rfl ?_
      refine x_sipush (v := 257) dX6_spoil_21 (by decide) ?_
      refine x_icmp_lt (tgt := 31) dX6_spoil_24 (by decide) (fun c_24 => ?_) (fun c_24 => ?_)
      · refine x_aload_n dX6_spoil_31 rfl ?_
        refine x_getf dX6_spoil_32 flX6_12 rfl rfl ?_
        refine x_getf dX6_spoil_35 flX6_100 rfl rfl ?_
        refine x_iload_n dX6_spoil_38 rfl ?_
        refine x_iload_n dX6_spoil_39 rfl ?_
        refine x_callp [8, 9, 10, 11, 12, 13, 14] (x_iV dX6_spoil_40 mlX6_158 lbX2_placeOf rfl rfl rfl rfl) (kX2_placeOf l g _ _ _) (by decide) rfl rfl (by decide) (by decide) (by simp [Value.category]) rfl rfl (by decide +kernel) ?_
        refine x_iconst (v := -1) dX6_spoil_43 (by decide) ?_
        refine x_icmp_ne (tgt := 51) dX6_spoil_44 (by decide) (fun c_44 => ?_) (fun c_44 => ?_)
        · refine x_aload_n dX6_spoil_51 rfl ?_
          refine x_getf dX6_spoil_52 flX6_19 rfl rfl ?_
          refine x_aload_n dX6_spoil_55 rfl ?_
          refine x_getf dX6_spoil_56 flX6_12 rfl rfl ?_
          refine x_rec r n dX6_spoil_59 rfl (by decide) (by decide) (by decide) (by simp [Value.category]) hr hn ?_
          refine x_aload_n dX6_spoil_62 rfl ?_
          refine x_getf dX6_spoil_63 flX6_12 rfl rfl ?_
          refine x_getf dX6_spoil_66 flX6_100 rfl rfl ?_
          refine x_iload_n dX6_spoil_69 rfl ?_
          refine x_iload_n dX6_spoil_70 rfl ?_
          refine x_iload_n dX6_spoil_71 rfl ?_
          refine x_callv [8, 9, 10, 11, 12, 13, 14] (x_iV dX6_spoil_72 mlX6_183 lbX2_addError rfl rfl rfl rfl) (kX2_addError l g S _ _ _) (by decide) (by decide) (by decide) (by simp [Value.category]) rfl rfl (by decide +kernel) (fun w1 h1 => ?_)
          obtain rfl := h1
          refine x_eq ?_ rfl rfl (wN_F (agF_err _ _ _ _))
          refine x_aload_n dX6_spoil_75 rfl ?_
          refine x_getf dX6_spoil_76 flX6_12 rfl rfl ?_
          refine x_getf dX6_spoil_79 flX6_100 rfl rfl ?_
          refine x_iload_n dX6_spoil_82 rfl ?_
          refine x_iload_n dX6_spoil_83 rfl ?_
          refine x_callp [8, 9, 10, 11, 12, 13, 14] (x_iV dX6_spoil_84 mlX6_186 lbX2_errorOf rfl rfl rfl rfl) (kX2_errorOf l g _ _ _) (by decide) rfl rfl (by decide) (by decide) (by simp [Value.category]) rfl rfl (by decide +kernel) ?_
          refine x_if_ne (tgt := 94) dX6_spoil_87 (by decide) (fun c_87 => ?_) (fun c_87 => ?_)
          · refine x_iconst (v := 1) dX6_spoil_94 (by decide) ?_
            exact x_reti dX6_spoil_95 rfl rfl rfl (⟨_, rfl, by (try simp only [b2i_eq0, b2i_ne0] at *); first | (rw [wC, show (okSpoil S f i a) = false by simp [okSpoil, *]] <;> exact ⟨by simp [vSpoil, okSpoil, *], rfl⟩) | (rw [wC, show (okSpoil S f i a) = true by simp [okSpoil, *]] <;> exact ⟨by simp [vSpoil, okSpoil, *], rfl⟩)⟩)
          · refine x_iconst (v := 0) dX6_spoil_90 (by decide) ?_
            refine x_goto (tgt := 95) dX6_spoil_91 (by decide) ?_
            exact x_reti dX6_spoil_95 rfl rfl rfl (⟨_, rfl, by (try simp only [b2i_eq0, b2i_ne0] at *); first | (rw [wC, show (okSpoil S f i a) = false by simp [okSpoil, *]] <;> exact ⟨by simp [vSpoil, okSpoil, *], rfl⟩) | (rw [wC, show (okSpoil S f i a) = true by simp [okSpoil, *]] <;> exact ⟨by simp [vSpoil, okSpoil, *], rfl⟩)⟩)
        · refine x_sipush (v := -10002) dX6_spoil_47 (by decide) ?_
          exact x_reti dX6_spoil_50 rfl rfl rfl (⟨_, rfl, by (try simp only [b2i_eq0, b2i_ne0] at *); first | (rw [wC, show (okSpoil S f i a) = false by simp [okSpoil, *]] <;> exact ⟨by simp [vSpoil, okSpoil, *], rfl⟩) | (rw [wC, show (okSpoil S f i a) = true by simp [okSpoil, *]] <;> exact ⟨by simp [vSpoil, okSpoil, *], rfl⟩)⟩)
      · refine x_sipush (v := -10001) dX6_spoil_27 (by decide) ?_
        exact x_reti dX6_spoil_30 rfl rfl rfl (⟨_, rfl, by (try simp only [b2i_eq0, b2i_ne0] at *); first | (rw [wC, show (okSpoil S f i a) = false by simp [okSpoil, *]] <;> exact ⟨by simp [vSpoil, okSpoil, *], rfl⟩) | (rw [wC, show (okSpoil S f i a) = true by simp [okSpoil, *]] <;> exact ⟨by simp [vSpoil, okSpoil, *], rfl⟩)⟩)

set_option maxRecDepth 100000 in
set_option maxHeartbeats 4000000 in
theorem kX6_repair (l : Launch) (g : XG) (S : MS) (G : Nat → MS) (r n : Nat) (E : Nat → Int32) (en : Int32) (C : Nat → Int32) (cs : Int32) (P T : MS) (f : Int32) (hr : r < 5) (hn : n ≤ 5) : Ct l g MX6_repair [.ref 0, .int f] (wN S (tX G r n E en C cs P T)) (Qi (fun v w1 => v = vRep S f ∧ w1 = wC (okRep S f) (sRF S f (cl (fnI S f))) S G r n E en C cs P T)) := by
  refine Ct_of (by decide) (by simp [Value.category]) (Nat.le_of_ble_eq_true rfl) ?_
  refine x_aload_n dX6_repair_0 rfl ?_
  refine x_getf dX6_repair_1 flX6_12 rfl rfl ?_
  refine x_getf dX6_repair_4 flX6_100 rfl rfl ?_
  refine x_iload_n dX6_repair_7 rfl ?_
  refine x_callp [8, 9, 10, 11, 12, 13, 14] (x_iV dX6_repair_8 mlX6_126 lbX2_exists rfl rfl rfl rfl) (kX2_exists l g _ _) (by decide) rfl rfl (by decide) (by decide) (by simp [Value.category]) rfl rfl (by decide +kernel) ?_
  refine x_if_ne (tgt := 18) dX6_repair_11 (by decide) (fun c_11 => ?_) (fun c_11 => ?_)
  · refine x_aload_n dX6_repair_18 rfl ?_
    refine x_getf dX6_repair_19 flX6_12 rfl rfl ?_
    refine x_iload_n dX6_repair_22 rfl ?_
    refine x_callp [1, 2, 3, 4, 5, 6, 7, 8, 9, 10, 11, 12, 13, 14, 15] (x_iV dX6_repair_23 mlX6_149 lbX5_isSafe rfl rfl rfl rfl) (kX5_isSafe l g _ _) (by decide) rfl rfl (by decide) (by decide) (by simp [Value.category]) rfl rfl (by decide +kernel) ?_
    refine x_if_ne (tgt := 33) dX6_repair_26 (by decide) (fun c_26 => ?_) (fun c_26 => ?_)
    · refine x_aload_n dX6_repair_33 rfl ?_
      refine x_getf dX6_repair_34 flX6_19 rfl rfl ?_
      refine x_aload_n dX6_repair_37 rfl ?_
      refine x_getf dX6_repair_38 flX6_12 rfl rfl ?_
      refine x_rec r n dX6_repair_41 rfl (by decide) (by decide) (by decide) (by simp [Value.category]) hr hn ?_
      refine x_aload_n dX6_repair_44 rfl ?_
      refine x_getf dX6_repair_45 flX6_12 rfl rfl ?_
      refine x_iload_n dX6_repair_48 rfl ?_
      refine x_calli [1, 2, 3, 4, 5, 6, 7, 8, 9, 10, 11, 12, 13, 14, 15] (x_iV dX6_repair_49 mlX6_204 lbX5_renewFile rfl rfl rfl rfl) (kX5_renewFile l g S _) (by decide) rfl rfl (by decide) (by decide) (by simp [Value.category]) rfl rfl (by decide +kernel) (fun v1 w1 h1 => ?_)
      obtain ⟨rfl, rfl⟩ := h1
      refine x_eq (w' := wN (sRF S f (cl (fnI S f))) (tX (recG G r n S) (recR r n) (recN n) E en C cs P T)) ?_ rfl rfl rfl
      exact x_reti dX6_repair_52 rfl rfl rfl (⟨_, rfl, by (try simp only [b2i_eq0, b2i_ne0] at *); first | (rw [wC, show (okRep S f) = false by simp [okRep, *]] <;> exact ⟨by simp [vRep, okRep, *], rfl⟩) | (rw [wC, show (okRep S f) = true by simp [okRep, *]] <;> exact ⟨by simp [vRep, okRep, *], rfl⟩)⟩)
    · refine x_sipush (v := -10002) dX6_repair_29 (by decide) ?_
      exact x_reti dX6_repair_32 rfl rfl rfl (⟨_, rfl, by (try simp only [b2i_eq0, b2i_ne0] at *); first | (rw [wC, show (okRep S f) = false by simp [okRep, *]] <;> exact ⟨by simp [vRep, okRep, *], rfl⟩) | (rw [wC, show (okRep S f) = true by simp [okRep, *]] <;> exact ⟨by simp [vRep, okRep, *], rfl⟩)⟩)
  · refine x_sipush (v := -10001) dX6_repair_14 (by decide) ?_
    exact x_reti dX6_repair_17 rfl rfl rfl (⟨_, rfl, by (try simp only [b2i_eq0, b2i_ne0] at *); first | (rw [wC, show (okRep S f) = false by simp [okRep, *]] <;> exact ⟨by simp [vRep, okRep, *], rfl⟩) | (rw [wC, show (okRep S f) = true by simp [okRep, *]] <;> exact ⟨by simp [vRep, okRep, *], rfl⟩)⟩)
