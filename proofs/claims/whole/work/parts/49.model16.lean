/-! ===== the reference: store ===== -/
theorem mSA_o {T : Nat → Int32} {f x : Nat} (hx : x < 192 + 30 * f + 10 ∨ 192 + 30 * f + 30 ≤ x) : ∀ i, i ≤ 10 → mSA T f i x = T x
  | 0, _ => rfl
  | i + 1, hi => by
    rw [mSA]; simp only [upd]
    rw [if_neg (by omega), if_neg (by omega)]
    exact mSA_o hx i (by omega)
theorem mSA_p {T : Nat → Int32} {f j : Nat} : ∀ i, i ≤ 10 → j < i → mSA T f i (192 + 30 * f + (10 + j)) = -1
  | 0, _, h => by omega
  | i + 1, hi, h => by
    rw [mSA]; simp only [upd]
    rw [if_neg (by omega)]
    by_cases e : j = i
    · rw [if_pos (by omega)]
    · rw [if_neg (by omega)]; exact mSA_p i (by omega) (by omega)
theorem mSB_o {T : Nat → Int32} {f x : Nat} (hx : x < 192 + 30 * f + 4 ∨ 192 + 30 * f + 10 ≤ x) (h2 : x < 433) : ∀ i, i ≤ 6 → mSB T f i x = T x
  | 0, _ => rfl
  | i + 1, hi => by
    rw [mSB]; simp only [upd]
    rw [if_neg (by omega), if_neg (by omega)]
    exact mSB_o hx h2 i (by omega)
def mSD (N : Nat → Int32) (f : Nat) (o r : Int32) : Nat → Int32 := upd (mSB (mSA (mS0 N f o r) f 10) f 6) 432 0
theorem mSD_h {N : Nat → Int32} {f w : Nat} {o r : Int32} (hf : f < 8) (hw : w < 4) : mSD N f o r (192 + 30 * f + w) = mS0 N f o r (192 + 30 * f + w) := by
  simp only [mSD, upd]
  rw [if_neg (by omega), mSB_o (by omega) (by omega) 6 (by omega), mSA_o (by omega) 10 (by omega)]
theorem mSD_p {N : Nat → Int32} {f i : Nat} {o r : Int32} (hf : f < 8) (hi : i < 10) : mSD N f o r (192 + 30 * f + (10 + i)) = -1 := by
  simp only [mSD, upd]
  rw [if_neg (by omega), mSB_o (by omega) (by omega) 6 (by omega), mSA_p 10 (by omega) hi]
theorem mSD_g {N : Nat → Int32} {f g w : Nat} {o r : Int32} (hf : f < 8) (hg : g < 8) (hw : w < 30) (e : ¬ g = f) : mSD N f o r (192 + 30 * g + w) = N (192 + 30 * g + w) := by
  simp only [mSD, upd]
  rw [if_neg (by omega), mSB_o (by omega) (by omega) 6 (by omega), mSA_o (by omega) 10 (by omega)]
  simp only [mS0, upd]
  rw [if_neg (by omega), if_neg (by omega), if_neg (by omega), if_neg (by omega)]
theorem mSD_1 {N : Nat → Int32} {f : Nat} {o r : Int32} (hf : f < 8) : mSD N f o r (192 + 30 * f + 1) = o := by
  rw [mSD_h hf (by decide)]; simp only [mS0, upd]
  rw [if_neg (by omega), if_neg (by omega), if_pos trivial]
theorem mSD_2 {N : Nat → Int32} {f : Nat} {o r : Int32} (hf : f < 8) : mSD N f o r (192 + 30 * f + 2) = N 432 := by
  rw [mSD_h hf (by decide)]; simp only [mS0, upd]
  rw [if_neg (by omega), if_pos trivial]
theorem mSD_3 {N : Nat → Int32} {f : Nat} {o r : Int32} (hf : f < 8) : mSD N f o r (192 + 30 * f + 3) = r := by
  rw [mSD_h hf (by decide)]; simp only [mS0, upd]
  rw [if_pos trivial]
theorem mSD_ok {N : Nat → Int32} {f : Nat} {o r : Int32} (h : MOkA N) (hf : f < 8) (ho : vp_in o 12) (hs : cl (N 432 + r) ≤ 10) : MOkA (mSD N f o r) := by
  refine ⟨fun g hg => ⟨?_, fun i hi => ?_⟩, fun g hg hfl => ?_⟩
  · by_cases e : g = f
    · rw [e, mSD_2 hf, mSD_3 hf]; exact hs
    · rw [mSD_g hf hg (by decide) e, mSD_g hf hg (by decide) e]; exact (h.1 g hg).1
  · by_cases e : g = f
    · rw [e, mSD_p hf hi]; exact Or.inl (by decide)
    · rw [mSD_g hf hg (by omega) e]; exact (h.1 g hg).2 i hi
  · by_cases e : g = f
    · rw [e, mSD_1 hf]; exact ho
    · rw [mFi_nI hg, mSD_g hf hg (by decide) e] at hfl
      rw [mSD_g hf hg (by decide) e]
      exact h.2 g hg (by rw [mFi_nI hg]; exact hfl)
def mStN (N : Nat → Int32) (f : Nat) (o r : Int32) : Nat → Int32 := mSC (mSD N f o r) f (cl (mFr (mSD N f o r) f))

set_option maxRecDepth 100000 in
set_option maxHeartbeats 4000000 in
theorem ttX7_store (l : Launch) (g : XG) (N A Z B : Nat → Int32) (u : Int32) (L : Nat → Int32) (o r : Int32) (f : Nat) (hf : f < 8) (hM : MOkA N) (ho : vp_in o 12) (hs : cl (N 432 + r) ≤ 10) : XA l g MX7_store (Qi (fun v w1 => v = nI f ∧ w1 = wM (mStN N f o r) A Z B u L)) 77 ([some (.ref 0), some (.int o), some (.int r), some (.int (nI f)), none]) [] (wM N A Z B u L) 0 0 := by
  refine x_aload_n dX7_store_77 rfl ?_
  refine x_getf dX7_store_78 flX7_7 rfl rfl ?_
  refine x_iload_n dX7_store_81 rfl ?_
  refine x_iconst (v := 0) dX7_store_82 (by decide) ?_
  refine x_callp [] (x_iS dX7_store_83 mlX7_33 lbX7_at rfl) (kX7_at l g _ _) (by decide) rfl rfl (by decide) (by decide) (by simp [Value.category]) rfl rfl (by decide +kernel) ?_
  refine x_iconst (v := 1) dX7_store_86 (by decide) ?_
  refine x_iaw dX7_store_87 rfl (show ix (192 + 30 * nI f + 0) (192 + 30 * f + 0) 439 from ix_at (w := 0) hf (by decide)) ?_
  refine x_aload_n dX7_store_88 rfl ?_
  refine x_getf dX7_store_89 flX7_7 rfl rfl ?_
  refine x_iload_n dX7_store_92 rfl ?_
  refine x_iconst (v := 1) dX7_store_93 (by decide) ?_
  refine x_callp [] (x_iS dX7_store_94 mlX7_33 lbX7_at rfl) (kX7_at l g _ _) (by decide) rfl rfl (by decide) (by decide) (by simp [Value.category]) rfl rfl (by decide +kernel) ?_
  refine x_iload_n dX7_store_97 rfl ?_
  refine x_iaw dX7_store_98 rfl (show ix (192 + 30 * nI f + 1) (192 + 30 * f + 1) 439 from ix_at (w := 1) hf (by decide)) ?_
  refine x_aload_n dX7_store_99 rfl ?_
  refine x_getf dX7_store_100 flX7_7 rfl rfl ?_
  refine x_iload_n dX7_store_103 rfl ?_
  refine x_iconst (v := 2) dX7_store_104 (by decide) ?_
  refine x_callp [] (x_iS dX7_store_105 mlX7_33 lbX7_at rfl) (kX7_at l g _ _) (by decide) rfl rfl (by decide) (by decide) (by simp [Value.category]) rfl rfl (by decide +kernel) ?_
  refine x_aload_n dX7_store_108 rfl ?_
  refine x_getf dX7_store_109 flX7_7 rfl rfl ?_
  refine x_sipush (v := 432) dX7_store_112 (by decide) ?_
  refine x_iar dX7_store_115 rfl (ixl (k := 432) (by decide) (by decide) (by decide)) ?_
  rw [show upd (upd N (192 + 30 * f + 0) 1) (192 + 30 * f + 1) o 432 = N 432 by simp only [upd]; rw [if_neg (by omega), if_neg (by omega)]]
  refine x_iaw dX7_store_116 rfl (show ix (192 + 30 * nI f + 2) (192 + 30 * f + 2) 439 from ix_at (w := 2) hf (by decide)) ?_
  refine x_aload_n dX7_store_117 rfl ?_
  refine x_getf dX7_store_118 flX7_7 rfl rfl ?_
  refine x_iload_n dX7_store_121 rfl ?_
  refine x_iconst (v := 3) dX7_store_122 (by decide) ?_
  refine x_callp [] (x_iS dX7_store_123 mlX7_33 lbX7_at rfl) (kX7_at l g _ _) (by decide) rfl rfl (by decide) (by decide) (by simp [Value.category]) rfl rfl (by decide +kernel) ?_
  refine x_iload_n dX7_store_126 rfl ?_
  refine x_iaw dX7_store_127 rfl (show ix (192 + 30 * nI f + 3) (192 + 30 * f + 3) 439 from ix_at (w := 3) hf (by decide)) ?_
  refine x_iconst (v := 0) dX7_store_128 (by decide) ?_
  refine x_istore dX7_store_129 (by decide) ?_
  refine x_eq (lv' := [some (.ref 0), some (.int o), some (.int r), some (.int (nI f)), some (.int (nI 0))]) (w' := wM (mSA (mS0 N f o r) f 0) A Z B u L) ?_ rfl rfl rfl
  refine lqX7_storeA l g _ A Z B L u o r f _ hf ?_
  refine x_iconst (v := 0) dX7_store_174 (by decide) ?_
  refine x_istore dX7_store_175 (by decide) ?_
  refine x_eq (lv' := [some (.ref 0), some (.int o), some (.int r), some (.int (nI f)), some (.int (nI 0))]) (w' := wM (mSB (mSA (mS0 N f o r) f 10) f 0) A Z B u L) ?_ rfl rfl rfl
  refine lqX7_storeB l g _ A Z B L u o r f _ hf ?_
  refine x_aload_n dX7_store_243 rfl ?_
  refine x_getf dX7_store_244 flX7_7 rfl rfl ?_
  refine x_sipush (v := 432) dX7_store_247 (by decide) ?_
  refine x_iconst (v := 0) dX7_store_250 (by decide) ?_
  refine x_iaw dX7_store_251 rfl (ixl (k := 432) (by decide) (by decide) (by decide)) ?_
  refine x_iconst (v := 0) dX7_store_252 (by decide) ?_
  refine x_istore dX7_store_253 (by decide) ?_
  refine x_eq (lv' := [some (.ref 0), some (.int o), some (.int r), some (.int (nI f)), some (.int (nI 0))]) (w' := wM (mSC (mSD N f o r) f 0) A Z B u L) ?_ rfl rfl rfl
  refine lqX7_storeC l g _ A Z B L u o r f _ hf (mSD_ok hM hf ho hs) (by rw [mSD_1 hf]; exact ho) ?_
  refine x_iload_n dX7_store_280 rfl ?_
  exact x_reti dX7_store_281 rfl rfl rfl (⟨_, rfl, rfl, rfl⟩)

theorem st_sum {N : Nat → Int32} {r : Int32} {k : Nat} (hk : k ≤ 6) (hN : N 432 = nI k) (h : rgB r 0 4 = true) : cl (N 432 + r) ≤ 10 := by
  obtain ⟨h2, h3⟩ := vin_iff.mp (rgB_v (n := 4) rfl (by decide) h)
  rw [hN, nI_cl h2, nI_add, cl_nI (by omega)]; omega
def okSt (N : Nat → Int32) (o r : Int32) : Bool := mPe N o && rgB r 0 4 && decide (¬ N 432 = 0) && mOn N o && decide (¬ mFs N = 8)
def vSt (N : Nat → Int32) (o r : Int32) : Int32 := if mPe N o && rgB r 0 4 then (if decide (¬ N 432 = 0) && mOn N o then (if mFs N = 8 then -10003 else nI (mLf N)) else -10002) else -10001

set_option maxRecDepth 100000 in
set_option maxHeartbeats 4000000 in
theorem kX7_store (l : Launch) (g : XG) (N A Z B L : Nat → Int32) (n : Nat) (o r : Int32) (k : Nat) (hn : n ≤ 5) (hM : MOkA N) (hk : k ≤ 6) (hN : N 432 = nI k) : Ct l g MX7_store [.ref 0, .int o, .int r] (wM N A Z B (nI n) L) (Qi (fun v w1 => v = vSt N o r ∧ w1 = mC (okSt N o r) (mStN N (mLf N) o r) N A Z B L n)) := by
  refine Ct_of (by decide) (by simp [Value.category]) (Nat.le_of_ble_eq_true rfl) ?_
  refine x_aload_n dX7_store_0 rfl ?_
  refine x_iload_n dX7_store_1 rfl ?_
  refine x_callp [0, 1, 2, 3, 4, 5] (x_iV dX7_store_2 mlX7_67 lbX7_isPeer rfl rfl rfl rfl) (kX7_isPeer l g _ _ _ _ _ _ _) (by decide) rfl rfl (by decide) (by decide) (by simp [Value.category]) rfl rfl (by decide +kernel) ?_
  refine x_if_eq (tgt := 17) dX7_store_5 (by decide) (fun c_5 => ?_) (fun c_5 => ?_)
  · refine x_sipush (v := -10001) dX7_store_17 (by decide) ?_
    exact x_reti dX7_store_20 rfl rfl rfl (⟨_, rfl, by clear hN; (try simp only [b2i_eq0, b2i_ne0] at *); rw [mC, show okSt N o r = false by simp [okSt, *], cond_false]; exact ⟨by simp [vSt, *], rfl⟩⟩)
  · refine x_iload_n dX7_store_8 rfl ?_
    refine x_iconst (v := 0) dX7_store_9 (by decide) ?_
    refine x_iconst (v := 4) dX7_store_10 (by decide) ?_
    refine x_callp [] (x_iS dX7_store_11 mlX7_25 lbX7_in rfl) (kX7_in l g _ _ _) (by decide) rfl rfl (by decide) (by decide) (by simp [Value.category]) rfl rfl (by decide +kernel) ?_
    refine x_if_ne (tgt := 21) dX7_store_14 (by decide) (fun c_14 => ?_) (fun c_14 => ?_)
    · refine x_aload_n dX7_store_21 rfl ?_
      refine x_getf dX7_store_22 flX7_7 rfl rfl ?_
      refine x_sipush (v := 432) dX7_store_25 (by decide) ?_
      refine x_iar dX7_store_28 rfl (ixl (k := 432) (by decide) (by decide) (by decide)) ?_
      refine x_if_eq (tgt := 40) dX7_store_29 (by decide) (fun c_29 => ?_) (fun c_29 => ?_)
      · refine x_sipush (v := -10002) dX7_store_40 (by decide) ?_
        exact x_reti dX7_store_43 rfl rfl rfl (⟨_, rfl, by clear hN; (try simp only [b2i_eq0, b2i_ne0] at *); rw [mC, show okSt N o r = false by simp [okSt, *], cond_false]; exact ⟨by simp [vSt, *], rfl⟩⟩)
      · refine x_aload_n dX7_store_32 rfl ?_
        refine x_iload_n dX7_store_33 rfl ?_
        refine x_callp [0, 1, 2, 3, 4, 5] (x_iV dX7_store_34 mlX7_51 lbX7_isOnline rfl rfl rfl rfl) (kX7_isOnline l g _ _ _ _ _ _ _ (mPe_in (b2i_t' c_5))) (by decide) rfl rfl (by decide) (by decide) (by simp [Value.category]) rfl rfl (by decide +kernel) ?_
        refine x_if_ne (tgt := 44) dX7_store_37 (by decide) (fun c_37 => ?_) (fun c_37 => ?_)
        · refine x_aload_n dX7_store_44 rfl ?_
          refine x_callp [0, 1, 2, 3, 4, 5] (x_iV dX7_store_45 mlX7_99 lbX7_files rfl rfl rfl rfl) (kX7_files l g _ _ _ _ _ _) (by decide) rfl rfl (by decide) (by decide) (by simp [Value.category]) rfl rfl (by decide +kernel) ?_
          refine x_bipush (v := 8) dX7_store_48 (by decide) ?_
          refine x_icmp_ne (tgt := 57) dX7_store_50 (by decide) (fun c_50 => ?_) (fun c_50 => ?_)
          · refine x_aload_n dX7_store_57 rfl ?_
            refine x_callv [0, 1, 2, 3, 4, 5] (x_iV dX7_store_58 mlX7_80 lbX7_keeps rfl rfl rfl rfl) (kX7_keeps l g N A Z B L n hn) (by decide) (by decide) (by decide) (by simp [Value.category]) rfl rfl (by decide +kernel) (fun w1 h1 => ?_)
            obtain rfl := h1
            refine x_eq (w' := wM (N) A Z (mKB B N n) (nI (recN n)) L) ?_ rfl rfl rfl
            refine x_iconst (v := 0) dX7_store_61 (by decide) ?_
            refine x_istore_n dX7_store_62 (by decide) ?_
            have hlt := mLf_lt c_50
            have hs := st_sum hk hN (b2i_t' c_14)
            have ho := mPe_in (b2i_t' c_5)
            refine x_eq (lv' := [some (.ref 0), some (.int o), some (.int r), some (.int (nI 0)), none]) ?_ rfl rfl rfl
            refine lqX7_storeF l g N A Z (mKB B N n) (nI (recN n)) L o r _ hlt ?_
            have K := ttX7_store l g N A Z (mKB B N n) (nI (recN n)) L o r (mLf N) hlt hM ho hs
            clear hs ho hlt hN
            (try simp only [b2i_eq0, b2i_ne0] at *)
            have e1 : okSt N o r = true := by simp [okSt, *]
            have e2 : vSt N o r = nI (mLf N) := by simp [vSt, *]
            rw [e1, e2, mC, cond_true]
            exact K
          · refine x_sipush (v := -10003) dX7_store_53 (by decide) ?_
            exact x_reti dX7_store_56 rfl rfl rfl (⟨_, rfl, by clear hN; (try simp only [b2i_eq0, b2i_ne0] at *); rw [mC, show okSt N o r = false by simp [okSt, *], cond_false]; exact ⟨by simp [vSt, *], rfl⟩⟩)
        · refine x_sipush (v := -10002) dX7_store_40 (by decide) ?_
          exact x_reti dX7_store_43 rfl rfl rfl (⟨_, rfl, by clear hN; (try simp only [b2i_eq0, b2i_ne0] at *); rw [mC, show okSt N o r = false by simp [okSt, *], cond_false]; exact ⟨by simp [vSt, *], rfl⟩⟩)
    · refine x_sipush (v := -10001) dX7_store_17 (by decide) ?_
      exact x_reti dX7_store_20 rfl rfl rfl (⟨_, rfl, by clear hN; (try simp only [b2i_eq0, b2i_ne0] at *); rw [mC, show okSt N o r = false by simp [okSt, *], cond_false]; exact ⟨by simp [vSt, *], rfl⟩⟩)
