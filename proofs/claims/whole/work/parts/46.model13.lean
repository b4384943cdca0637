/-! ===== the reference: repairs, walked ===== -/
set_option maxRecDepth 100000 in
set_option maxHeartbeats 4000000 in
theorem lqX7_repairs (l : Launch) (g : XG) (T A Z B L : Nat → Int32) (u s : Int32) (f k c0 : Nat) (Q0 : Option Value → XW → Prop) (hf : f < 8) (ho : vp_in (T (192 + 30 * f + 1)) 12) (hk : XA l g MX7_repairs Q0 110 ([some (.ref 0), some (.int (nI f)), some (.int (nI (c0))), some (.int (nI k)), some (.int s), some (.int (nI 12))]) [] (wM (mOl T f s 12) A Z B u L) 0 0) : XA l g MX7_repairs Q0 73 ((fun i => [some (.ref 0), some (.int (nI f)), some (.int (nI (c0))), some (.int (nI k)), some (.int s), some (.int (nI i))]) 0) ((fun _ => []) 0) ((fun i => wM (mOl T f s i) A Z B u L) 0) 0 0 := by
  refine x_for 12 (fun _ => True) (fun i => [some (.ref 0), some (.int (nI f)), some (.int (nI (c0))), some (.int (nI k)), some (.int s), some (.int (nI i))]) (fun _ => []) (fun i => wM (mOl T f s i) A Z B u L) trivial (fun i hi hp ih => ?_) (fun hp => ?_)
  · refine x_iload dX7_repairs_73 rfl ?_
    refine x_bipush (v := 12) dX7_repairs_75 (by decide) ?_
    refine x_icmp_ge_f (tgt := 110) dX7_repairs_77 (by decide) (nI_nle_of rfl (by decide) hi) ?_
    refine x_iload dX7_repairs_80 rfl ?_
    refine x_iload dX7_repairs_82 rfl ?_
    refine x_ishr dX7_repairs_84 ?_
    refine x_iconst (v := 1) dX7_repairs_85 (by decide) ?_
    refine x_iand dX7_repairs_86 ?_
    refine x_iconst (v := 1) dX7_repairs_87 (by decide) ?_
    refine x_icmp_ne (tgt := 104) dX7_repairs_88 (by decide) (fun c_88 => ?_) (fun c_88 => ?_)
    · first | refine x_iinc dX7_repairs_104 (by decide) rfl (nI_inc _) ?_ | refine x_iinc dX7_repairs_104 (by decide) rfl (inc_1 _) ?_
      refine x_goto (tgt := 73) dX7_repairs_107 (by decide) ?_
      refine x_eq (ih trivial) rfl rfl ?_
      rw [mOl]; simp [bitB, c_88] <;> rfl
    · refine x_aload_n dX7_repairs_91 rfl ?_
      refine x_aload_n dX7_repairs_92 rfl ?_
      refine x_iload_n dX7_repairs_93 rfl ?_
      refine x_iconst (v := 1) dX7_repairs_94 (by decide) ?_
      refine x_callp [0, 1, 2, 3, 4, 5] (x_iV dX7_repairs_95 mlX7_29 lbX7_of rfl rfl rfl rfl) (kX7_of l g _ _ _ _ _ _ f 1 hf (by omega)) (by decide) rfl rfl (by decide) (by decide) (by simp [Value.category]) rfl rfl (by decide +kernel) ?_
      refine x_iload dX7_repairs_98 rfl ?_
      refine x_iconst (v := 1) dX7_repairs_100 (by decide) ?_
      refine x_callv [0, 1, 2, 3, 4, 5] (x_iV dX7_repairs_101 mlX7_76 lbX7_owes rfl rfl rfl rfl) (kX7_owes l g _ _ _ _ _ _ _ _ _ (by rw [mOl_hi ho i (by omega) _ (by omega)]; exact ho) (vin_nI (by decide) hi)) (by decide) (by decide) (by decide) (by simp [Value.category]) rfl rfl (by decide +kernel) (fun w1 h1 => ?_)
      obtain rfl := h1
      refine x_eq (w' := wM _ A Z B u L) ?_ rfl rfl rfl
      first | refine x_iinc dX7_repairs_104 (by decide) rfl (nI_inc _) ?_ | refine x_iinc dX7_repairs_104 (by decide) rfl (inc_1 _) ?_
      refine x_goto (tgt := 73) dX7_repairs_107 (by decide) ?_
      refine x_eq (ih trivial) rfl rfl ?_
      rw [mOl]; simp [bitB, c_88] <;> rfl
  · refine x_iload dX7_repairs_73 rfl ?_
    refine x_bipush (v := 12) dX7_repairs_75 (by decide) ?_
    refine x_icmp_ge_t (tgt := 110) dX7_repairs_77 (by decide) (nI_le_of rfl (by decide) (Nat.le_refl _)) ?_
    exact hk
