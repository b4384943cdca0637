/-! ===== the reference: endangered ===== -/
theorem MOk_low {N : Nat → Int32} {x : Nat} {v : Int32} (h : MOk N) (hx : x < 192) : MOk (upd N x v) := by
  intro f hf
  refine ⟨?_, fun i hi => ?_⟩
  · simp only [upd]; rw [if_neg (by omega), if_neg (by omega)]; exact (h f hf).1
  · simp only [upd]; rw [if_neg (by omega)]; exact (h f hf).2 i hi
theorem upd_back (N : Nat → Int32) (x : Nat) (v : Int32) : upd (upd N x v) x (N x) = N := by
  funext y
  simp only [upd]
  by_cases e : y = x
  · rw [if_pos e, e]
  · rw [if_neg e, if_neg e]
def enC (N : Nat → Int32) (p : Int32) (f : Nat) : Bool := mFi N (nI f) && mSf N f && !mSf (upd N (4 * cl p + 2) 0) f
def vEn (N : Nat → Int32) (p : Int32) : Int32 := if mPe N p then nI (cntB (enC N p) 8) else -10001

set_option maxRecDepth 100000 in
set_option maxHeartbeats 4000000 in
theorem lpX7_endangered (l : Launch) (g : XG) (N A Z B : Nat → Int32) (u : Int32) (L : Nat → Int32) (p : Int32) (hM : MOk N) (hx : mPe N p = true) : XA l g MX7_endangered (Qp (vEn N p) (wM N A Z B u L)) 28 ((fun i => [some (.ref 0), some (.int p), some (.int (N (4 * cl p + 2))), some (.int (nI (cntB (enC N p) (i)))), some (.int (nI (i))), none]) 0) ((fun _ => []) 0) ((fun _ => wM N A Z B u L) 0) 0 0 := by
  refine x_for 8 (fun _ => True) (fun i => [some (.ref 0), some (.int p), some (.int (N (4 * cl p + 2))), some (.int (nI (cntB (enC N p) (i)))), some (.int (nI (i))), none]) (fun _ => []) (fun _ => wM N A Z B u L) trivial (fun i hi hp ih => ?_) (fun hp => ?_)
  · refine x_iload dX7_endangered_28 rfl ?_
    refine x_bipush (v := 8) dX7_endangered_30 (by decide) ?_
    refine x_icmp_ge_f (tgt := 110) dX7_endangered_32 (by decide) (nI_nle_of rfl (by decide) hi) ?_
    refine x_aload_n dX7_endangered_35 rfl ?_
    refine x_iload dX7_endangered_36 rfl ?_
    refine x_callp [0, 1, 2, 3, 4, 5] (x_iV dX7_endangered_38 mlX7_43 lbX7_isFile rfl rfl rfl rfl) (kX7_isFile l g _ _ _ _ _ _ _) (by decide) rfl rfl (by decide) (by decide) (by simp [Value.category]) rfl rfl (by decide +kernel) ?_
    refine x_if_eq (tgt := 57) dX7_endangered_41 (by decide) (fun c_41 => ?_) (fun c_41 => ?_)
    · refine x_iconst (v := 0) dX7_endangered_57 (by decide) ?_
      refine x_istore dX7_endangered_58 (by decide) ?_
      refine x_aload_n dX7_endangered_60 rfl ?_
      refine x_getf dX7_endangered_61 flX7_7 rfl rfl ?_
      refine x_iconst (v := 4) dX7_endangered_64 (by decide) ?_
      refine x_iload_n dX7_endangered_65 rfl ?_
      refine x_imul dX7_endangered_66 ?_
      refine x_iconst (v := 2) dX7_endangered_67 (by decide) ?_
      refine x_iadd dX7_endangered_68 ?_
      refine x_iconst (v := 0) dX7_endangered_69 (by decide) ?_
      refine x_iaw dX7_endangered_70 rfl (ix_p4 (c := 2) (mPe_in hx) (by decide)) ?_
      refine x_iload_n dX7_endangered_71 rfl ?_
      refine x_iload dX7_endangered_72 rfl ?_
      refine x_if_eq_t (tgt := 90) dX7_endangered_74 (by decide) (rfl) ?_
      refine x_iconst (v := 0) dX7_endangered_90 (by decide) ?_
      refine x_iadd dX7_endangered_91 ?_
      first | rw [nI_1] | rw [Int32.add_zero]
      refine x_istore_n dX7_endangered_92 (by decide) ?_
      refine x_aload_n dX7_endangered_93 rfl ?_
      refine x_getf dX7_endangered_94 flX7_7 rfl rfl ?_
      refine x_iconst (v := 4) dX7_endangered_97 (by decide) ?_
      refine x_iload_n dX7_endangered_98 rfl ?_
      refine x_imul dX7_endangered_99 ?_
      refine x_iconst (v := 2) dX7_endangered_100 (by decide) ?_
      refine x_iadd dX7_endangered_101 ?_
      refine x_iload_n dX7_endangered_102 rfl ?_
      refine x_iaw dX7_endangered_103 rfl (ix_p4 (c := 2) (mPe_in hx) (by decide)) ?_
      first | refine x_iinc dX7_endangered_104 (by decide) rfl (nI_inc _) ?_ | refine x_iinc dX7_endangered_104 (by decide) rfl (inc_1 _) ?_
      refine x_goto (tgt := 28) dX7_endangered_107 (by decide) ?_
      (try simp only [b2i_eq0, b2i_ne0] at *)
      have he := cntB_f (f := enC N p) (n := i) (by simp [enC, *])
      refine x_eq (x_le (lv' := [some (.ref 0), some (.int p), some (.int (N (4 * cl p + 2))), some (.int (nI (cntB (enC N p) (i + 1)))), some (.int (nI (i + 1))), none]) (ih trivial) (lv := [some (.ref 0), some (.int p), some (.int (N (4 * cl p + 2))), some (.int (nI (cntB (enC N p) (i + 1)))), some (.int (nI (i + 1))), some (.int 0)]) (by simp [lvle])) (by rw [he] <;> rfl) rfl (by rw [upd_back] <;> rfl)
    · refine x_aload_n dX7_endangered_44 rfl ?_
      refine x_iload dX7_endangered_45 rfl ?_
      refine x_callp [0, 1, 2, 3, 4, 5] (x_iV dX7_endangered_47 mlX7_106 lbX7_isSafe rfl rfl rfl rfl) (kX7_isSafe l g _ _ _ _ _ _ i hi hM) (by decide) rfl rfl (by decide) (by decide) (by simp [Value.category]) rfl rfl (by decide +kernel) ?_
      refine x_if_eq (tgt := 57) dX7_endangered_50 (by decide) (fun c_50 => ?_) (fun c_50 => ?_)
      · refine x_iconst (v := 0) dX7_endangered_57 (by decide) ?_
        refine x_istore dX7_endangered_58 (by decide) ?_
        refine x_aload_n dX7_endangered_60 rfl ?_
        refine x_getf dX7_endangered_61 flX7_7 rfl rfl ?_
        refine x_iconst (v := 4) dX7_endangered_64 (by decide) ?_
        refine x_iload_n dX7_endangered_65 rfl ?_
        refine x_imul dX7_endangered_66 ?_
        refine x_iconst (v := 2) dX7_endangered_67 (by decide) ?_
        refine x_iadd dX7_endangered_68 ?_
        refine x_iconst (v := 0) dX7_endangered_69 (by decide) ?_
        refine x_iaw dX7_endangered_70 rfl (ix_p4 (c := 2) (mPe_in hx) (by decide)) ?_
        refine x_iload_n dX7_endangered_71 rfl ?_
        refine x_iload dX7_endangered_72 rfl ?_
        refine x_if_eq_t (tgt := 90) dX7_endangered_74 (by decide) (rfl) ?_
        refine x_iconst (v := 0) dX7_endangered_90 (by decide) ?_
        refine x_iadd dX7_endangered_91 ?_
        first | rw [nI_1] | rw [Int32.add_zero]
        refine x_istore_n dX7_endangered_92 (by decide) ?_
        refine x_aload_n dX7_endangered_93 rfl ?_
        refine x_getf dX7_endangered_94 flX7_7 rfl rfl ?_
        refine x_iconst (v := 4) dX7_endangered_97 (by decide) ?_
        refine x_iload_n dX7_endangered_98 rfl ?_
        refine x_imul dX7_endangered_99 ?_
        refine x_iconst (v := 2) dX7_endangered_100 (by decide) ?_
        refine x_iadd dX7_endangered_101 ?_
        refine x_iload_n dX7_endangered_102 rfl ?_
        refine x_iaw dX7_endangered_103 rfl (ix_p4 (c := 2) (mPe_in hx) (by decide)) ?_
        first | refine x_iinc dX7_endangered_104 (by decide) rfl (nI_inc _) ?_ | refine x_iinc dX7_endangered_104 (by decide) rfl (inc_1 _) ?_
        refine x_goto (tgt := 28) dX7_endangered_107 (by decide) ?_
        (try simp only [b2i_eq0, b2i_ne0] at *)
        have he := cntB_f (f := enC N p) (n := i) (by simp [enC, *])
        refine x_eq (x_le (lv' := [some (.ref 0), some (.int p), some (.int (N (4 * cl p + 2))), some (.int (nI (cntB (enC N p) (i + 1)))), some (.int (nI (i + 1))), none]) (ih trivial) (lv := [some (.ref 0), some (.int p), some (.int (N (4 * cl p + 2))), some (.int (nI (cntB (enC N p) (i + 1)))), some (.int (nI (i + 1))), some (.int 0)]) (by simp [lvle])) (by rw [he] <;> rfl) rfl (by rw [upd_back] <;> rfl)
      · refine x_iconst (v := 1) dX7_endangered_53 (by decide) ?_
        refine x_goto (tgt := 58) dX7_endangered_54 (by decide) ?_
        refine x_istore dX7_endangered_58 (by decide) ?_
        refine x_aload_n dX7_endangered_60 rfl ?_
        refine x_getf dX7_endangered_61 flX7_7 rfl rfl ?_
        refine x_iconst (v := 4) dX7_endangered_64 (by decide) ?_
        refine x_iload_n dX7_endangered_65 rfl ?_
        refine x_imul dX7_endangered_66 ?_
        refine x_iconst (v := 2) dX7_endangered_67 (by decide) ?_
        refine x_iadd dX7_endangered_68 ?_
        refine x_iconst (v := 0) dX7_endangered_69 (by decide) ?_
        refine x_iaw dX7_endangered_70 rfl (ix_p4 (c := 2) (mPe_in hx) (by decide)) ?_
        refine x_iload_n dX7_endangered_71 rfl ?_
        refine x_iload dX7_endangered_72 rfl ?_
        refine x_if_eq_f (tgt := 90) dX7_endangered_74 (by decide) (by decide) ?_
        refine x_aload_n dX7_endangered_77 rfl ?_
        refine x_iload dX7_endangered_78 rfl ?_
        refine x_callp [0, 1, 2, 3, 4, 5] (x_iV dX7_endangered_80 mlX7_106 lbX7_isSafe rfl rfl rfl rfl) (kX7_isSafe l g _ _ _ _ _ _ i hi (MOk_low hM (by have := (vin_iff.mp (mPe_in hx)).2; omega))) (by decide) rfl rfl (by decide) (by decide) (by simp [Value.category]) rfl rfl (by decide +kernel) ?_
        refine x_if_ne (tgt := 90) dX7_endangered_83 (by decide) (fun c_83 => ?_) (fun c_83 => ?_)
        · refine x_iconst (v := 0) dX7_endangered_90 (by decide) ?_
          refine x_iadd dX7_endangered_91 ?_
          first | rw [nI_1] | rw [Int32.add_zero]
          refine x_istore_n dX7_endangered_92 (by decide) ?_
          refine x_aload_n dX7_endangered_93 rfl ?_
          refine x_getf dX7_endangered_94 flX7_7 rfl rfl ?_
          refine x_iconst (v := 4) dX7_endangered_97 (by decide) ?_
          refine x_iload_n dX7_endangered_98 rfl ?_
          refine x_imul dX7_endangered_99 ?_
          refine x_iconst (v := 2) dX7_endangered_100 (by decide) ?_
          refine x_iadd dX7_endangered_101 ?_
          refine x_iload_n dX7_endangered_102 rfl ?_
          refine x_iaw dX7_endangered_103 rfl (ix_p4 (c := 2) (mPe_in hx) (by decide)) ?_
          first | refine x_iinc dX7_endangered_104 (by decide) rfl (nI_inc _) ?_ | refine x_iinc dX7_endangered_104 (by decide) rfl (inc_1 _) ?_
          refine x_goto (tgt := 28) dX7_endangered_107 (by decide) ?_
          (try simp only [b2i_eq0, b2i_ne0] at *)
          have he := cntB_f (f := enC N p) (n := i) (by simp [enC, *])
          refine x_eq (x_le (lv' := [some (.ref 0), some (.int p), some (.int (N (4 * cl p + 2))), some (.int (nI (cntB (enC N p) (i + 1)))), some (.int (nI (i + 1))), none]) (ih trivial) (lv := [some (.ref 0), some (.int p), some (.int (N (4 * cl p + 2))), some (.int (nI (cntB (enC N p) (i + 1)))), some (.int (nI (i + 1))), some (.int 1)]) (by simp [lvle])) (by rw [he] <;> rfl) rfl (by rw [upd_back] <;> rfl)
        · refine x_iconst (v := 1) dX7_endangered_86 (by decide) ?_
          refine x_goto (tgt := 91) dX7_endangered_87 (by decide) ?_
          refine x_iadd dX7_endangered_91 ?_
          first | rw [nI_1] | rw [Int32.add_zero]
          refine x_istore_n dX7_endangered_92 (by decide) ?_
          refine x_aload_n dX7_endangered_93 rfl ?_
          refine x_getf dX7_endangered_94 flX7_7 rfl rfl ?_
          refine x_iconst (v := 4) dX7_endangered_97 (by decide) ?_
          refine x_iload_n dX7_endangered_98 rfl ?_
          refine x_imul dX7_endangered_99 ?_
          refine x_iconst (v := 2) dX7_endangered_100 (by decide) ?_
          refine x_iadd dX7_endangered_101 ?_
          refine x_iload_n dX7_endangered_102 rfl ?_
          refine x_iaw dX7_endangered_103 rfl (ix_p4 (c := 2) (mPe_in hx) (by decide)) ?_
          first | refine x_iinc dX7_endangered_104 (by decide) rfl (nI_inc _) ?_ | refine x_iinc dX7_endangered_104 (by decide) rfl (inc_1 _) ?_
          refine x_goto (tgt := 28) dX7_endangered_107 (by decide) ?_
          (try simp only [b2i_eq0, b2i_ne0] at *)
          have he := cntB_t (f := enC N p) (n := i) (by simp [enC, *])
          refine x_eq (x_le (lv' := [some (.ref 0), some (.int p), some (.int (N (4 * cl p + 2))), some (.int (nI (cntB (enC N p) (i + 1)))), some (.int (nI (i + 1))), none]) (ih trivial) (lv := [some (.ref 0), some (.int p), some (.int (N (4 * cl p + 2))), some (.int (nI (cntB (enC N p) (i + 1)))), some (.int (nI (i + 1))), some (.int 1)]) (by simp [lvle])) (by rw [he] <;> rfl) rfl (by rw [upd_back] <;> rfl)
  · refine x_iload dX7_endangered_28 rfl ?_
    refine x_bipush (v := 8) dX7_endangered_30 (by decide) ?_
    refine x_icmp_ge_t (tgt := 110) dX7_endangered_32 (by decide) (nI_le_of rfl (by decide) (Nat.le_refl _)) ?_
    refine x_iload_n dX7_endangered_110 rfl ?_
    exact x_reti dX7_endangered_111 rfl rfl rfl (⟨by rw [vEn, if_pos hx], rfl⟩)

set_option maxRecDepth 100000 in
set_option maxHeartbeats 4000000 in
theorem kX7_endangered (l : Launch) (g : XG) (N A Z B : Nat → Int32) (u : Int32) (L : Nat → Int32) (p : Int32) (hM : MOk N) : Ct l g MX7_endangered [.ref 0, .int p] (wM N A Z B u L) (Qp (vEn N p) (wM N A Z B u L)) := by
  refine Ct_of (by decide) (by simp [Value.category]) (Nat.le_of_ble_eq_true rfl) ?_
  refine x_aload_n dX7_endangered_0 rfl ?_
  refine x_iload_n dX7_endangered_1 rfl ?_
  refine x_callp [0, 1, 2, 3, 4, 5] (x_iV dX7_endangered_2 mlX7_67 lbX7_isPeer rfl rfl rfl rfl) (kX7_isPeer l g _ _ _ _ _ _ _) (by decide) rfl rfl (by decide) (by decide) (by simp [Value.category]) rfl rfl (by decide +kernel) ?_
  refine x_if_ne (tgt := 12) dX7_endangered_5 (by decide) (fun c_5 => ?_) (fun c_5 => ?_)
  · refine x_aload_n dX7_endangered_12 rfl ?_
    refine x_getf dX7_endangered_13 flX7_7 rfl rfl ?_
    refine x_iconst (v := 4) dX7_endangered_16 (by decide) ?_
    refine x_iload_n dX7_endangered_17 rfl ?_
    refine x_imul dX7_endangered_18 ?_
    refine x_iconst (v := 2) dX7_endangered_19 (by decide) ?_
    refine x_iadd dX7_endangered_20 ?_
    refine x_iar dX7_endangered_21 rfl (ix_p4 (c := 2) (mPe_in (b2i_t' c_5)) (by decide)) ?_
    refine x_istore_n dX7_endangered_22 (by decide) ?_
    refine x_iconst (v := 0) dX7_endangered_23 (by decide) ?_
    refine x_istore_n dX7_endangered_24 (by decide) ?_
    refine x_iconst (v := 0) dX7_endangered_25 (by decide) ?_
    refine x_istore dX7_endangered_26 (by decide) ?_
    exact lpX7_endangered l g N A Z B u L p hM (b2i_t' c_5)
  · refine x_sipush (v := -10001) dX7_endangered_8 (by decide) ?_
    exact x_reti dX7_endangered_11 rfl rfl rfl (⟨by rw [vEn, if_neg (by simp [b2i_f' c_5])], rfl⟩)
