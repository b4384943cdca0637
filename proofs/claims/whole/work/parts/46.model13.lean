/-! ===== the reference: repairs, walked ===== -/
set_option maxRecDepth 100000 in
set_option maxHeartbeats 4000000 in
theorem lqX7_repairs (l : Launch) (g : XG) (T A Z B L : Nat → Int32) (u s : Int32) (f k c0 : Nat) (Q0 : Option Value → XW → Prop) (hf : f < 8) (ho : vp_in (T (192 + 30 * f + 1)) 12) (hk : XA l g MX7_repairs Q0 110 ([some (.ref 0), some (.int (nI f)), some (.int (nI (c0))), some (.int (nI k)), some (.int s), some (.int (nI 12))]) [] (wM (mOl T f s 12) A Z B u L) 0 0) : XA l g MX7_repairs Q0 73 ((fun i => [some (.ref 0), some (.int (nI f)), some (.int (nI (c0))), some (.int (nI k)), some (.int s), some (.int (nI i))]) 0) ((fun _ => []) 0) ((fun i => wM (mOl T f s i) A Z B u L) 0) 0 0 := by
  refine x_for 12 (fun _ => True) (fun i => [some (.ref 0), some (.int (nI f)), some (.int (nI (c0))), some (.int (nI k)), some (.int s), some (.int (nI i))]) (fun _ => []) (fun i => wM (mOl T f s i) A Z B u L) trivial (fun i hi hp ih => ?_) (fun hp => ?_)
  · refine x_iload dX7_repairs_73 rfl ?_
    refine x_bipush (v := 12) dX7_repairs_75 (by decide) ?_
    refine x_icmp_ge_f (tgt := 110) dX7_repairs_77 (by decide) (nI_nle_of rfl (by decide) hi) ?_
    refine x_iload dX7_repairs_80 rfl ?_
    refine x_iload dX7_repairs_82 rfl ?_
    refine x_ishr dX7_repairs_84 ?_
    refine x_iconst (v := 1) dX7_repairs_85 (by decide) ?_
    refine x_iand dX7_repairs_86 ?_
    refine x_iconst (v := 1) dX7_repairs_87 (by decide) ?_
    refine x_icmp_ne (tgt := 104) dX7_repairs_88 (by decide) (fun c_88 => ?_) (fun c_88 => ?_)
    · first | refine x_iinc dX7_repairs_104 (by decide) rfl (nI_inc _) ?_ | refine x_iinc dX7_repairs_104 (by decide) rfl (inc_1 _) ?_
      refine x_goto (tgt := 73) dX7_repairs_107 (by decide) ?_
      refine x_eq (ih trivial) rfl rfl ?_
      rw [mOl]; simp [bitB, c_88] <;> rfl
    · refine x_aload_n dX7_repairs_91 rfl ?_
      refine x_aload_n dX7_repairs_92 rfl ?_
      refine x_iload_n dX7_repairs_93 rfl ?_
      refine x_iconst (v := 1) dX7_repairs_94 (by decide) ?_
      refine x_callp [0, 1, 2, 3, 4, 5] (x_iV dX7_repairs_95 mlX7_29 lbX7_of rfl rfl rfl rfl) (kX7_of l g _ _ _ _ _ _ f 1 hf (by omega)) (by decide) rfl rfl (by decide) (by decide) (by simp [Value.category]) rfl rfl (by decide +kernel) ?_
      refine x_iload dX7_repairs_98 rfl ?_
      refine x_iconst (v := 1) dX7_repairs_100 (by decide) ?_
      refine x_callv [0, 1, 2, 3, 4, 5] (x_iV dX7_repairs_101 mlX7_76 lbX7_owes rfl rfl rfl rfl) (kX7_owes l g _ _ _ _ _ _ _ _ _ (by rw [mOl_hi ho i (by omega) _ (by omega)]; exact ho) (vin_nI (by decide) hi)) (by decide) (by decide) (by decide) (by simp [Value.category]) rfl rfl (by decide +kernel) (fun w1 h1 => ?_)
      obtain rfl := h1
      refine x_eq (w' := wM _ A Z B u L) ?_ rfl rfl rfl
      first | refine x_iinc dX7_repairs_104 (by decide) rfl (nI_inc _) ?_ | refine x_iinc dX7_repairs_104 (by decide) rfl (inc_1 _) ?_
      refine x_goto (tgt := 73) dX7_repairs_107 (by decide) ?_
      refine x_eq (ih trivial) rfl rfl ?_
      rw [mOl]; simp [bitB, c_88] <;> rfl
  · refine x_iload dX7_repairs_73 rfl ?_
    refine x_bipush (v := 12) dX7_repairs_75 (by decide) ?_
    refine x_icmp_ge_t (tgt := 110) dX7_repairs_77 (by decide) (nI_le_of rfl (by decide) (Nat.le_refl _)) ?_
    exact hk

theorem mRp_fr {N : Nat → Int32} {f : Nat} (h : MOkA N) (hf : f < 8) (ho : vp_in (N (192 + 30 * f + 1)) 12) {i : Nat} (hi : i ≤ 10) : mFr (mRp N f i) f = mFr N f := by
  have h2 := (mRp_ok h hf ho i hi).2
  rw [mFr, mFr, h2 f 2 hf (by decide), h2 f 3 hf (by decide)]
theorem mRp_ow {N : Nat → Int32} {f : Nat} (h : MOkA N) (hf : f < 8) (ho : vp_in (N (192 + 30 * f + 1)) 12) {i : Nat} (hi : i ≤ 10) : vp_in (mRp N f i (192 + 30 * f + 1)) 12 := by
  rw [(mRp_ok h hf ho i hi).2 f 1 hf (by decide)]; exact ho
theorem mR1_ow {N : Nat → Int32} {f i : Nat} (hi : i < 10) (ho : vp_in (N (192 + 30 * f + 1)) 12) : vp_in (mR1 N f i (192 + 30 * f + 1)) 12 := by
  rw [mR1_hd hi (by decide)]; exact ho
theorem mRl_ow {N : Nat → Int32} {f i : Nat} (hf : f < 8) (hi : i < 10) (ho : vp_in (N (192 + 30 * f + 1)) 12) : vp_in (mPlN (mR1 N f i) f i (-1) (192 + 30 * f + 1)) 12 := by
  rw [mPlN_hi hi (mR1_ow hi ho) (by omega), if_neg (by omega), if_neg (by omega), mR1_hd hi (by decide)]; exact ho

set_option maxRecDepth 100000 in
set_option maxHeartbeats 4000000 in
theorem lpX7_repairs (l : Launch) (g : XG) (N A Z B : Nat → Int32) (u : Int32) (L : Nat → Int32) (f : Nat) (hf : f < 8) (hM : MOkA N) (ho : vp_in (N (192 + 30 * f + 1)) 12) : XA l g MX7_repairs (Qi (fun v w1 => v = nI (cRp N f (cl (mFr N f))) ∧ w1 = wM (mRp N f (cl (mFr N f))) A Z B u L)) 4 ((fun i => [some (.ref 0), some (.int (nI f)), some (.int (nI (cRp N f i))), some (.int (nI i)), none, none]) 0) ((fun _ => []) 0) ((fun i => wM (mRp N f i) A Z B u L) 0) 0 0 := by
  refine x_for (cl (mFr N f)) (fun _ => True) (fun i => [some (.ref 0), some (.int (nI f)), some (.int (nI (cRp N f i))), some (.int (nI i)), none, none]) (fun _ => []) (fun i => wM (mRp N f i) A Z B u L) trivial (fun i hi hp ih => ?_) (fun hp => ?_)
  · have hfr10 : cl (mFr N f) ≤ 10 := (hM.1 f hf).1
    have hi10 : i < 10 := by omega
    have hMi := (mRp_ok hM hf ho i (by omega)).1
    have how := mRp_ow hM hf ho (i := i) (by omega)
    refine x_iload_n dX7_repairs_4 rfl ?_
    refine x_aload_n dX7_repairs_5 rfl ?_
    refine x_iload_n dX7_repairs_6 rfl ?_
    refine x_callp [0, 1, 2, 3, 4, 5] (x_iV dX7_repairs_7 mlX7_47 lbX7_fragments rfl rfl rfl rfl) (kX7_fragments l g _ _ _ _ _ _ f hf) (by decide) rfl rfl (by decide) (by decide) (by simp [Value.category]) rfl rfl (by decide +kernel) ?_
    refine x_icmp_ge_f (tgt := 116) dX7_repairs_10 (by decide) (by rw [mRp_fr hM hf ho (by omega)]; exact nge_cl hi) ?_
    refine x_aload_n dX7_repairs_13 rfl ?_
    refine x_iload_n dX7_repairs_14 rfl ?_
    refine x_iload_n dX7_repairs_15 rfl ?_
    refine x_callp [0, 1, 2, 3, 4, 5] (x_iV dX7_repairs_16 mlX7_54 lbX7_isGood rfl rfl rfl rfl) (kX7_isGood l g _ _ _ _ _ _ f i hf hi10 hMi.1) (by decide) rfl rfl (by decide) (by decide) (by simp [Value.category]) rfl rfl (by decide +kernel) ?_
    refine x_if_ne (tgt := 110) dX7_repairs_19 (by decide) (fun c_19 => ?_) (fun c_19 => ?_)
    · first | refine x_iinc dX7_repairs_110 (by decide) rfl (nI_inc _) ?_ | refine x_iinc dX7_repairs_110 (by decide) rfl (inc_1 _) ?_
      refine x_goto (tgt := 4) dX7_repairs_113 (by decide) ?_
      (try simp only [b2i_eq0, b2i_ne0] at *)
      refine x_le (lv' := [some (.ref 0), some (.int (nI f)), some (.int (nI (cRp N f (i + 1)))), some (.int (nI (i + 1))), none, none]) (x_eq (ih trivial) rfl rfl ?_) ?_
      · rw [mRp]; simp [mR2, *] <;> rfl
      · rw [cRp]; simp [lvle, *]
    · refine x_aload_n dX7_repairs_22 rfl ?_
      refine x_iload_n dX7_repairs_23 rfl ?_
      refine x_callp [0, 1, 2, 3, 4, 5] (x_iV dX7_repairs_24 mlX7_125 lbX7_sources rfl rfl rfl rfl) (kX7_sources l g _ _ _ _ _ _ f hf hMi.1) (by decide) rfl rfl (by decide) (by decide) (by simp [Value.category]) rfl rfl (by decide +kernel) ?_
      refine x_istore dX7_repairs_27 (by decide) ?_
      refine x_aload_n dX7_repairs_29 rfl ?_
      refine x_getf dX7_repairs_30 flX7_7 rfl rfl ?_
      refine x_iload_n dX7_repairs_33 rfl ?_
      refine x_bipush (v := 10) dX7_repairs_34 (by decide) ?_
      refine x_iload_n dX7_repairs_36 rfl ?_
      refine x_iadd dX7_repairs_37 ?_
      refine x_callp [] (x_iS dX7_repairs_38 mlX7_33 lbX7_at rfl) (kX7_at l g _ _) (by decide) rfl rfl (by decide) (by decide) (by simp [Value.category]) rfl rfl (by decide +kernel) ?_
      refine x_iconst (v := -1) dX7_repairs_41 (by decide) ?_
      refine x_iaw dX7_repairs_42 rfl (show ix (192 + 30 * nI f + (10 + nI i)) (192 + 30 * f + (10 + i)) 439 from by rw [ad10]; exact ix_at hf (by omega)) ?_
      refine x_aload_n dX7_repairs_43 rfl ?_
      refine x_getf dX7_repairs_44 flX7_7 rfl rfl ?_
      refine x_iload_n dX7_repairs_47 rfl ?_
      refine x_bipush (v := 20) dX7_repairs_48 (by decide) ?_
      refine x_iload_n dX7_repairs_50 rfl ?_
      refine x_iadd dX7_repairs_51 ?_
      refine x_callp [] (x_iS dX7_repairs_52 mlX7_33 lbX7_at rfl) (kX7_at l g _ _) (by decide) rfl rfl (by decide) (by decide) (by simp [Value.category]) rfl rfl (by decide +kernel) ?_
      refine x_iconst (v := 0) dX7_repairs_55 (by decide) ?_
      refine x_iaw dX7_repairs_56 rfl (show ix (192 + 30 * nI f + (20 + nI i)) (192 + 30 * f + (20 + i)) 439 from by rw [ad20]; exact ix_at hf (by omega)) ?_
      refine x_aload_n dX7_repairs_57 rfl ?_
      refine x_iload_n dX7_repairs_58 rfl ?_
      refine x_iload_n dX7_repairs_59 rfl ?_
      refine x_iconst (v := -1) dX7_repairs_60 (by decide) ?_
      refine x_calli [0, 1, 2, 3, 4, 5] (x_iV dX7_repairs_61 mlX7_83 lbX7_places rfl rfl rfl rfl) (kX7_places l g (mR1 (mRp N f i) f i) _ _ _ _ _ f i (-1) hf hi10 (mR1_ok hMi hi10).1 (mR1_ow hi10 how)) (by decide) rfl rfl (by decide) (by decide) (by simp [Value.category]) rfl rfl (by decide +kernel) (fun v1 w1 h1 => ?_)
      obtain ⟨rfl, rfl⟩ := h1
      refine x_eq (w' := wM _ A Z B u L) ?_ rfl rfl rfl
      refine x_if_eq (tgt := 110) dX7_repairs_64 (by decide) (fun c_64 => ?_) (fun c_64 => ?_)
      · first | refine x_iinc dX7_repairs_110 (by decide) rfl (nI_inc _) ?_ | refine x_iinc dX7_repairs_110 (by decide) rfl (inc_1 _) ?_
        refine x_goto (tgt := 4) dX7_repairs_113 (by decide) ?_
        (try simp only [b2i_eq0, b2i_ne0] at *)
        refine x_le (lv' := [some (.ref 0), some (.int (nI f)), some (.int (nI (cRp N f (i + 1)))), some (.int (nI (i + 1))), none, none]) (x_eq (ih trivial) rfl rfl ?_) ?_
        · rw [mRp]; simp [mR2, *] <;> rfl
        · rw [cRp]; simp [lvle, *]
      · first | refine x_iinc dX7_repairs_67 (by decide) rfl (nI_inc _) ?_ | refine x_iinc dX7_repairs_67 (by decide) rfl (inc_1 _) ?_
        refine x_iconst (v := 0) dX7_repairs_70 (by decide) ?_
        refine x_istore dX7_repairs_71 (by decide) ?_
        refine lqX7_repairs l g _ A Z B L u _ f i (cRp N f i + 1) _ hf (mRl_ow hf hi10 how) ?_
        refine x_iinc dX7_repairs_110 (by decide) rfl (nI_inc _) ?_
        refine x_goto (tgt := 4) dX7_repairs_113 (by decide) ?_
        (try simp only [b2i_eq0, b2i_ne0] at *)
        refine x_le (lv' := [some (.ref 0), some (.int (nI f)), some (.int (nI (cRp N f (i + 1)))), some (.int (nI (i + 1))), none, none]) (x_eq (ih trivial) rfl rfl ?_) ?_
        · rw [mRp]; simp [mR2, *] <;> rfl
        · rw [cRp]; simp [lvle, *]
  · have hfr10 : cl (mFr N f) ≤ 10 := (hM.1 f hf).1
    refine x_iload_n dX7_repairs_4 rfl ?_
    refine x_aload_n dX7_repairs_5 rfl ?_
    refine x_iload_n dX7_repairs_6 rfl ?_
    refine x_callp [0, 1, 2, 3, 4, 5] (x_iV dX7_repairs_7 mlX7_47 lbX7_fragments rfl rfl rfl rfl) (kX7_fragments l g _ _ _ _ _ _ f hf) (by decide) rfl rfl (by decide) (by decide) (by simp [Value.category]) rfl rfl (by decide +kernel) ?_
    refine x_icmp_ge_t (tgt := 116) dX7_repairs_10 (by decide) (by rw [mRp_fr hM hf ho hfr10]; exact ge_cl) ?_
    refine x_iload_n dX7_repairs_116 rfl ?_
    exact x_reti dX7_repairs_117 rfl rfl rfl (⟨_, rfl, rfl, rfl⟩)

set_option maxRecDepth 100000 in
set_option maxHeartbeats 4000000 in
theorem kX7_repairs (l : Launch) (g : XG) (N A Z B : Nat → Int32) (u : Int32) (L : Nat → Int32) (f : Nat) (hf : f < 8) (hM : MOkA N) (ho : vp_in (N (192 + 30 * f + 1)) 12) : Ct l g MX7_repairs [.ref 0, .int (nI f)] (wM N A Z B u L) (Qi (fun v w1 => v = nI (cRp N f (cl (mFr N f))) ∧ w1 = wM (mRp N f (cl (mFr N f))) A Z B u L)) := by
  refine Ct_of (by decide) (by simp [Value.category]) (Nat.le_of_ble_eq_true rfl) ?_
  refine x_iconst (v := 0) dX7_repairs_0 (by decide) ?_
  refine x_istore_n dX7_repairs_1 (by decide) ?_
  refine x_iconst (v := 0) dX7_repairs_2 (by decide) ?_
  refine x_istore_n dX7_repairs_3 (by decide) ?_
  exact lpX7_repairs l g N A Z B u L f hf hM ho
