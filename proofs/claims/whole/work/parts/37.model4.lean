def kpB (B N : Nat → Int32) (n i : Nat) : Nat → Int32 := fun x => if 439 * n ≤ x ∧ x < 439 * n + i then N (x - 439 * n) else B x
def shB (B : Nat → Int32) (i : Nat) : Nat → Int32 := fun x => if x < i then B (439 + x) else B x
theorem kpB_0 (B N : Nat → Int32) (n : Nat) : row 2195 B = row 2195 (kpB B N n 0) := row_congr fun x _ => by simp only [kpB]; rw [if_neg (by omega)]
theorem kpB_s (B N : Nat → Int32) (n i : Nat) : row 2195 (upd (kpB B N n i) (439 * n + i) (N i)) = row 2195 (kpB B N n (i + 1)) := row_congr fun x _ => by
  simp only [upd, kpB]
  by_cases h : x = 439 * n + i
  · rw [if_pos h, if_pos (by omega)]; congr 1; omega
  · rw [if_neg h]
    by_cases h2 : 439 * n ≤ x ∧ x < 439 * n + i
    · rw [if_pos h2, if_pos (by omega)]
    · rw [if_neg h2, if_neg (by omega)]
theorem shB_0 (B : Nat → Int32) : row 2195 B = row 2195 (shB B 0) := row_congr fun x _ => by simp [shB]
theorem shB_s (B : Nat → Int32) (i : Nat) : row 2195 (upd (shB B i) i (shB B i (439 + i))) = row 2195 (shB B (i + 1)) := row_congr fun x _ => by
  simp only [upd, shB]
  by_cases h : x = i
  · rw [if_pos h, if_neg (by omega), if_pos (by omega), h]
  · rw [if_neg h]
    by_cases h2 : x < i
    · rw [if_pos h2, if_pos (by omega)]
    · rw [if_neg h2, if_neg (by omega)]
def mKB (B N : Nat → Int32) (n : Nat) : Nat → Int32 := if n < 5 then kpB B N n 439 else kpB (shB B 1756) N 4 439
theorem ix_kp {n i : Nat} (hn : n < 5) (hi : i < 439) : ix (439 * nI n + nI i) (439 * n + i) 2195 := by
  rw [show (439 : Int32) * nI n = nI (439 * n) from pk_mul 439 n, nI_add]
  exact ix_nI (by omega) (by decide)
theorem ix_sh {i : Nat} (hi : i < 1756) : ix (439 + nI i) (439 + i) 2195 := by
  rw [show (439 : Int32) + nI i = nI (439 + i) from nI_add 439 i]
  exact ix_nI (by omega) (by decide)

set_option maxRecDepth 100000 in
set_option maxHeartbeats 4000000 in
theorem lqX7_keeps (l : Launch) (g : XG) (N A Z B L : Nat → Int32) (n : Nat) (Q0 : Option Value → XW → Prop) (hn : n < 5) (hk : XA l g MX7_keeps Q0 85 ([some (.ref 0), some (.int (nI 439))]) [] (wM (N) A Z (kpB B N n 439) (nI n) L) 0 0) : XA l g MX7_keeps Q0 51 ((fun i => [some (.ref 0), some (.int (nI i))]) 0) ((fun _ => []) 0) ((fun i => wM (N) A Z (kpB B N n i) (nI n) L) 0) 0 0 := by
  refine x_for 439 (fun _ => True) (fun i => [some (.ref 0), some (.int (nI i))]) (fun _ => []) (fun i => wM (N) A Z (kpB B N n i) (nI n) L) trivial (fun i hi hp ih => ?_) (fun hp => ?_)
  · refine x_iload_n dX7_keeps_51 rfl ?_
    refine x_sipush (v := 439) dX7_keeps_52 (by decide) ?_
    refine x_icmp_ge_f (tgt := 85) dX7_keeps_55 (by decide) (nI_nle_of rfl (by decide) hi) ?_
    refine x_aload_n dX7_keeps_58 rfl ?_
    refine x_getf dX7_keeps_59 flX7_19 rfl rfl ?_
    refine x_sipush (v := 439) dX7_keeps_62 (by decide) ?_
    refine x_aload_n dX7_keeps_65 rfl ?_
    refine x_getf dX7_keeps_66 flX7_36 rfl rfl ?_
    refine x_imul dX7_keeps_69 ?_
    refine x_iload_n dX7_keeps_70 rfl ?_
    refine x_iadd dX7_keeps_71 ?_
    refine x_aload_n dX7_keeps_72 rfl ?_
    refine x_getf dX7_keeps_73 flX7_7 rfl rfl ?_
    refine x_iload_n dX7_keeps_76 rfl ?_
    refine x_iar dX7_keeps_77 rfl (ix_nI hi (by decide)) ?_
    refine x_iaw dX7_keeps_78 rfl (ix_kp hn hi) ?_
    first | refine x_iinc dX7_keeps_79 (by decide) rfl (nI_inc _) ?_ | refine x_iinc dX7_keeps_79 (by decide) rfl (inc_1 _) ?_
    refine x_goto (tgt := 51) dX7_keeps_82 (by decide) ?_
    refine x_eq (ih trivial) rfl rfl ?_
    exact congrArg (fun z => List.set (wM (N) A Z (kpB B N n i) (nI n) L) 4 (Sum.inl z)) (kpB_s B N n i)
  · refine x_iload_n dX7_keeps_51 rfl ?_
    refine x_sipush (v := 439) dX7_keeps_52 (by decide) ?_
    refine x_icmp_ge_t (tgt := 85) dX7_keeps_55 (by decide) (nI_le_of rfl (by decide) (Nat.le_refl _)) ?_
    exact hk

set_option maxRecDepth 100000 in
set_option maxHeartbeats 4000000 in
theorem lrX7_keeps (l : Launch) (g : XG) (N A Z B L : Nat → Int32) (Q0 : Option Value → XW → Prop)  (hk : XA l g MX7_keeps Q0 39 ([some (.ref 0), some (.int (nI 1756))]) [] (wM (N) A Z (shB B 1756) (5) L) 0 0) : XA l g MX7_keeps Q0 10 ((fun i => [some (.ref 0), some (.int (nI i))]) 0) ((fun _ => []) 0) ((fun i => wM (N) A Z (shB B i) (5) L) 0) 0 0 := by
  refine x_for 1756 (fun _ => True) (fun i => [some (.ref 0), some (.int (nI i))]) (fun _ => []) (fun i => wM (N) A Z (shB B i) (5) L) trivial (fun i hi hp ih => ?_) (fun hp => ?_)
  · refine x_iload_n dX7_keeps_10 rfl ?_
    refine x_sipush (v := 1756) dX7_keeps_11 (by decide) ?_
    refine x_icmp_ge_f (tgt := 39) dX7_keeps_14 (by decide) (nI_nle_of rfl (by decide) hi) ?_
    refine x_aload_n dX7_keeps_17 rfl ?_
    refine x_getf dX7_keeps_18 flX7_19 rfl rfl ?_
    refine x_iload_n dX7_keeps_21 rfl ?_
    refine x_aload_n dX7_keeps_22 rfl ?_
    refine x_getf dX7_keeps_23 flX7_19 rfl rfl ?_
    refine x_sipush (v := 439) dX7_keeps_26 (by decide) ?_
    refine x_iload_n dX7_keeps_29 rfl ?_
    refine x_iadd dX7_keeps_30 ?_
    refine x_iar dX7_keeps_31 rfl (ix_sh hi) ?_
    refine x_iaw dX7_keeps_32 rfl (ix_nI (show i < 2195 by omega) (by decide)) ?_
    first | refine x_iinc dX7_keeps_33 (by decide) rfl (nI_inc _) ?_ | refine x_iinc dX7_keeps_33 (by decide) rfl (inc_1 _) ?_
    refine x_goto (tgt := 10) dX7_keeps_36 (by decide) ?_
    refine x_eq (ih trivial) rfl rfl ?_
    exact congrArg (fun z => List.set (wM (N) A Z (shB B i) (5) L) 4 (Sum.inl z)) (shB_s B i)
  · refine x_iload_n dX7_keeps_10 rfl ?_
    refine x_sipush (v := 1756) dX7_keeps_11 (by decide) ?_
    refine x_icmp_ge_t (tgt := 39) dX7_keeps_14 (by decide) (nI_le_of rfl (by decide) (Nat.le_refl _)) ?_
    exact hk

set_option maxRecDepth 100000 in
set_option maxHeartbeats 4000000 in
theorem kX7_keeps_lt (l : Launch) (g : XG) (N A Z B L : Nat → Int32) (n : Nat) (hn : n < 5) : Ct l g MX7_keeps [.ref 0] (wM (N) A Z (B) (nI n) L) (Qv (fun w1 => w1 = wM (N) A Z (mKB B N n) (nI (recN n)) L)) := by
  refine Ct_of (by decide) (by simp [Value.category]) (Nat.le_of_ble_eq_true rfl) ?_
  refine x_aload_n dX7_keeps_0 rfl ?_
  refine x_getf dX7_keeps_1 flX7_36 rfl rfl ?_
  refine x_iconst (v := 5) dX7_keeps_4 (by decide) ?_
  refine x_icmp_ne_t (tgt := 49) dX7_keeps_5 (by decide) (fun z => by rw [show (5 : Int32) = nI 5 from rfl, nI_eq (by omega) (by decide)] at z; omega) ?_
  refine x_iconst (v := 0) dX7_keeps_49 (by decide) ?_
  refine x_istore_n dX7_keeps_50 (by decide) ?_
  refine x_eq (w' := wM (N) A Z (kpB B N n 0) (nI n) L) ?_ rfl rfl (congrArg (fun z => List.set (wM (N) A Z (B) (nI n) L) 4 (Sum.inl z)) (kpB_0 B N n))
  refine lqX7_keeps l g N A Z B L n _ hn ?_
  refine x_aload_n dX7_keeps_85 rfl ?_
  refine x_dup dX7_keeps_86 rfl ?_
  refine x_getf dX7_keeps_87 flX7_36 rfl rfl ?_
  refine x_iconst (v := 1) dX7_keeps_90 (by decide) ?_
  refine x_iadd dX7_keeps_91 ?_
  rw [show nI n + 1 = nI (n + 1) from nI_1 n]
  refine x_puti dX7_keeps_92 flX7_36 xfi_7_4 rfl (Nat.le_of_ble_eq_true rfl) ?_
  exact x_retv dX7_keeps_95 rfl rfl rfl (⟨rfl, by rw [mKB, if_pos hn, recN, if_pos hn]; rfl⟩)

set_option maxRecDepth 100000 in
set_option maxHeartbeats 4000000 in
theorem kX7_keeps_5 (l : Launch) (g : XG) (N A Z B L : Nat → Int32) : Ct l g MX7_keeps [.ref 0] (wM (N) A Z (B) (5) L) (Qv (fun w1 => w1 = wM (N) A Z (mKB B N 5) (nI (recN 5)) L)) := by
  refine Ct_of (by decide) (by simp [Value.category]) (Nat.le_of_ble_eq_true rfl) ?_
  refine x_aload_n dX7_keeps_0 rfl ?_
  refine x_getf dX7_keeps_1 flX7_36 rfl rfl ?_
  refine x_iconst (v := 5) dX7_keeps_4 (by decide) ?_
  refine x_icmp_ne_f (tgt := 49) dX7_keeps_5 (by decide) (rfl) ?_
  refine x_iconst (v := 0) dX7_keeps_8 (by decide) ?_
  refine x_istore_n dX7_keeps_9 (by decide) ?_
  refine x_eq (w' := wM (N) A Z (shB B 0) (5) L) ?_ rfl rfl (congrArg (fun z => List.set (wM (N) A Z (B) (5) L) 4 (Sum.inl z)) (shB_0 B))
  refine lrX7_keeps l g N A Z B L _ ?_
  refine x_aload_n dX7_keeps_39 rfl ?_
  refine x_dup dX7_keeps_40 rfl ?_
  refine x_getf dX7_keeps_41 flX7_36 rfl rfl ?_
  refine x_iconst (v := 1) dX7_keeps_44 (by decide) ?_
  refine x_isub dX7_keeps_45 ?_
  rw [show (5 : Int32) - 1 = nI 4 by decide]
  refine x_puti dX7_keeps_46 flX7_36 xfi_7_4 rfl (Nat.le_of_ble_eq_true rfl) ?_
  refine x_iconst (v := 0) dX7_keeps_49 (by decide) ?_
  refine x_istore_n dX7_keeps_50 (by decide) ?_
  refine x_eq (w' := wM (N) A Z (kpB (shB B 1756) N 4 0) (nI 4) L) ?_ rfl rfl (congrArg (fun z => List.set (wM (N) A Z (shB B 1756) (nI 4) L) 4 (Sum.inl z)) (kpB_0 (shB B 1756) N 4))
  refine lqX7_keeps l g N A Z (shB B 1756) L 4 _ (by decide) ?_
  refine x_aload_n dX7_keeps_85 rfl ?_
  refine x_dup dX7_keeps_86 rfl ?_
  refine x_getf dX7_keeps_87 flX7_36 rfl rfl ?_
  refine x_iconst (v := 1) dX7_keeps_90 (by decide) ?_
  refine x_iadd dX7_keeps_91 ?_
  rw [show nI 4 + 1 = nI (4 + 1) from nI_1 4]
  refine x_puti dX7_keeps_92 flX7_36 xfi_7_4 rfl (Nat.le_of_ble_eq_true rfl) ?_
  exact x_retv dX7_keeps_95 rfl rfl rfl (⟨rfl, rfl⟩)

theorem kX7_keeps (l : Launch) (g : XG) (N A Z B L : Nat → Int32) (n : Nat) (hn : n ≤ 5) : Ct l g MX7_keeps [.ref 0] (wM (N) A Z (B) (nI n) L) (Qv (fun w1 => w1 = wM (N) A Z (mKB B N n) (nI (recN n)) L)) := by
  rcases Nat.lt_or_eq_of_le hn with h | h
  · exact kX7_keeps_lt l g N A Z B L n h
  · subst h; exact kX7_keeps_5 l g N A Z B L