/-! ===== the reference: placing ===== -/
def mA0 (N : Nat → Int32) (p : Nat) (b : Int32) : Int32 := if 0 ≤ b then N (4 * p + 3) - N (4 * cl b + 3) else 1
def mAh (N : Nat → Int32) (p : Nat) (b : Int32) : Int32 := if mA0 N p b = 0 then mFe N (nI p) - mFe N b else mA0 N p b
def mCan (N : Nat → Int32) (f : Nat) (but : Int32) (p : Nat) : Bool := mPe N (nI p) && decide (¬ nI p = but) && mOn N (nI p) && decide (¬ mFe N (nI p) ≤ 0) && !mSs N (nI p) f
def mBst (N : Nat → Int32) (f : Nat) (but : Int32) : Nat → Int32
  | 0 => -1
  | p + 1 => if mCan N f but p then (if mAh N p (mBst N f but p) ≤ 0 then mBst N f but p else nI p) else mBst N f but p
theorem mBst_ok (N : Nat → Int32) (f : Nat) (but : Int32) : ∀ p, p ≤ 12 → mBst N f but p < 0 ∨ vp_in (mBst N f but p) 12
  | 0, _ => Or.inl (show (-1 : Int32) < 0 by decide)
  | p + 1, hp => by
    have ih := mBst_ok N f but p (by omega)
    rw [mBst]
    split
    · split
      · exact ih
      · exact Or.inr (vin_nI (by decide) (by omega))
    · exact ih
theorem mBst_in {N : Nat → Int32} {f : Nat} {but : Int32} {p : Nat} (hp : p ≤ 12) (h : 0 ≤ mBst N f but p) : vp_in (mBst N f but p) 12 := (mBst_ok N f but p hp).resolve_left (Int32.not_lt.mpr h)
def mPlN (N : Nat → Int32) (f i : Nat) (but : Int32) : Nat → Int32 := cond (decide (0 ≤ mBst N f but 12)) (mOwe (upd N (192 + 30 * f + (10 + i)) (mBst N f but 12)) ((upd N (192 + 30 * f + (10 + i)) (mBst N f but 12)) (192 + 30 * f + 1)) (mBst N f but 12) 1) (upd (upd N (192 + 30 * f + (10 + i)) (mBst N f but 12)) (192 + 30 * f + (20 + i)) 0)
def mPlB (N : Nat → Int32) (f : Nat) (but : Int32) : Bool := decide (0 ≤ mBst N f but 12)
theorem ix_n4 {p c : Nat} (hp : p < 12) (hc : c < 4) : ix (4 * nI p + nI c) (4 * p + c) 439 := by
  have := ix_p4 (c := c) (vin_nI (n := 12) (by decide) hp) hc
  rwa [cl_nI (by omega)] at this

set_option maxRecDepth 100000 in
set_option maxHeartbeats 4000000 in
theorem lpX7_places (l : Launch) (g : XG) (N A Z B : Nat → Int32) (u : Int32) (L : Nat → Int32) (f i0 : Nat) (but : Int32) (hf : f < 8) (hi0 : i0 < 10) (hM : MOk N) (ho : vp_in (N (192 + 30 * f + 1)) 12) : XA l g MX7_places (Qi (fun v w1 => v = b2i (mPlB N f but) ∧ w1 = wM (mPlN N f i0 but) A Z B u L)) 6 ((fun i => [some (.ref 0), some (.int (nI f)), some (.int (nI i0)), some (.int but), some (.int (mBst N f but i)), some (.int (nI i)), none]) 0) ((fun _ => []) 0) ((fun _ => wM N A Z B u L) 0) 0 0 := by
  refine x_for 12 (fun _ => True) (fun i => [some (.ref 0), some (.int (nI f)), some (.int (nI i0)), some (.int but), some (.int (mBst N f but i)), some (.int (nI i)), none]) (fun _ => []) (fun _ => wM N A Z B u L) trivial (fun i hi hp ih => ?_) (fun hp => ?_)
  · refine x_iload dX7_places_6 rfl ?_
    refine x_bipush (v := 12) dX7_places_8 (by decide) ?_
    refine x_icmp_ge_f (tgt := 135) dX7_places_10 (by decide) (nI_nle_of rfl (by decide) hi) ?_
    refine x_aload_n dX7_places_13 rfl ?_
    refine x_iload dX7_places_14 rfl ?_
    refine x_callp [0, 1, 2, 3, 4, 5] (x_iV dX7_places_16 mlX7_67 lbX7_isPeer rfl rfl rfl rfl) (kX7_isPeer l g _ _ _ _ _ _ _) (by decide) rfl rfl (by decide) (by decide) (by simp [Value.category]) rfl rfl (by decide +kernel) ?_
    refine x_if_eq (tgt := 129) dX7_places_19 (by decide) (fun c_19 => ?_) (fun c_19 => ?_)
    · first | refine x_iinc dX7_places_129 (by decide) rfl (nI_inc _) ?_ | refine x_iinc dX7_places_129 (by decide) rfl (inc_1 _) ?_
      refine x_goto (tgt := 6) dX7_places_132 (by decide) ?_
      (try simp only [b2i_eq0, b2i_ne0] at *)
      refine x_le (lv' := [some (.ref 0), some (.int (nI f)), some (.int (nI i0)), some (.int but), some (.int (mBst N f but (i + 1))), some (.int (nI (i + 1))), none]) (x_eq (ih trivial) rfl rfl rfl) ?_
      rw [mBst]
      simp [lvle, mCan, mAh, mA0, *]
    · refine x_iload dX7_places_22 rfl ?_
      refine x_iload_n dX7_places_24 rfl ?_
      refine x_icmp_eq (tgt := 129) dX7_places_25 (by decide) (fun c_25 => ?_) (fun c_25 => ?_)
      · first | refine x_iinc dX7_places_129 (by decide) rfl (nI_inc _) ?_ | refine x_iinc dX7_places_129 (by decide) rfl (inc_1 _) ?_
        refine x_goto (tgt := 6) dX7_places_132 (by decide) ?_
        (try simp only [b2i_eq0, b2i_ne0] at *)
        refine x_le (lv' := [some (.ref 0), some (.int (nI f)), some (.int (nI i0)), some (.int but), some (.int (mBst N f but (i + 1))), some (.int (nI (i + 1))), none]) (x_eq (ih trivial) rfl rfl rfl) ?_
        rw [mBst]
        simp [lvle, mCan, mAh, mA0, *]
      · refine x_aload_n dX7_places_28 rfl ?_
        refine x_iload dX7_places_29 rfl ?_
        refine x_callp [0, 1, 2, 3, 4, 5] (x_iV dX7_places_31 mlX7_51 lbX7_isOnline rfl rfl rfl rfl) (kX7_isOnline l g _ _ _ _ _ _ _ (vin_nI (by decide) hi)) (by decide) rfl rfl (by decide) (by decide) (by simp [Value.category]) rfl rfl (by decide +kernel) ?_
        refine x_if_eq (tgt := 129) dX7_places_34 (by decide) (fun c_34 => ?_) (fun c_34 => ?_)
        · first | refine x_iinc dX7_places_129 (by decide) rfl (nI_inc _) ?_ | refine x_iinc dX7_places_129 (by decide) rfl (inc_1 _) ?_
          refine x_goto (tgt := 6) dX7_places_132 (by decide) ?_
          (try simp only [b2i_eq0, b2i_ne0] at *)
          refine x_le (lv' := [some (.ref 0), some (.int (nI f)), some (.int (nI i0)), some (.int but), some (.int (mBst N f but (i + 1))), some (.int (nI (i + 1))), none]) (x_eq (ih trivial) rfl rfl rfl) ?_
          rw [mBst]
          simp [lvle, mCan, mAh, mA0, *]
        · refine x_aload_n dX7_places_37 rfl ?_
          refine x_iload dX7_places_38 rfl ?_
          refine x_callp [0, 1, 2, 3, 4, 5] (x_iV dX7_places_40 mlX7_70 lbX7_free rfl rfl rfl rfl) (kX7_free l g _ _ _ _ _ _ _ (vin_nI (by decide) hi) hM) (by decide) rfl rfl (by decide) (by decide) (by simp [Value.category]) rfl rfl (by decide +kernel) ?_
          refine x_if_le (tgt := 129) dX7_places_43 (by decide) (fun c_43 => ?_) (fun c_43 => ?_)
          · first | refine x_iinc dX7_places_129 (by decide) rfl (nI_inc _) ?_ | refine x_iinc dX7_places_129 (by decide) rfl (inc_1 _) ?_
            refine x_goto (tgt := 6) dX7_places_132 (by decide) ?_
            (try simp only [b2i_eq0, b2i_ne0] at *)
            refine x_le (lv' := [some (.ref 0), some (.int (nI f)), some (.int (nI i0)), some (.int but), some (.int (mBst N f but (i + 1))), some (.int (nI (i + 1))), none]) (x_eq (ih trivial) rfl rfl rfl) ?_
            rw [mBst]
            simp [lvle, mCan, mAh, mA0, *]
          · refine x_aload_n dX7_places_46 rfl ?_
            refine x_iload dX7_places_47 rfl ?_
            refine x_iload_n dX7_places_49 rfl ?_
            refine x_callp [0, 1, 2, 3, 4, 5] (x_iV dX7_places_50 mlX7_73 lbX7_stores rfl rfl rfl rfl) (kX7_stores l g _ _ _ _ _ _ _ f hf hM) (by decide) rfl rfl (by decide) (by decide) (by simp [Value.category]) rfl rfl (by decide +kernel) ?_
            refine x_if_ne (tgt := 129) dX7_places_53 (by decide) (fun c_53 => ?_) (fun c_53 => ?_)
            · first | refine x_iinc dX7_places_129 (by decide) rfl (nI_inc _) ?_ | refine x_iinc dX7_places_129 (by decide) rfl (inc_1 _) ?_
              refine x_goto (tgt := 6) dX7_places_132 (by decide) ?_
              (try simp only [b2i_eq0, b2i_ne0] at *)
              refine x_le (lv' := [some (.ref 0), some (.int (nI f)), some (.int (nI i0)), some (.int but), some (.int (mBst N f but (i + 1))), some (.int (nI (i + 1))), none]) (x_eq (ih trivial) rfl rfl rfl) ?_
              rw [mBst]
              simp [lvle, mCan, mAh, mA0, *]
            · refine x_iload dX7_places_56 rfl ?_
              refine x_if_ge (tgt := 65) dX7_places_58 (by decide) (fun c_58 => ?_) (fun c_58 => ?_)
              · refine x_aload_n dX7_places_65 rfl ?_
                refine x_getf dX7_places_66 flX7_7 rfl rfl ?_
                refine x_iconst (v := 4) dX7_places_69 (by decide) ?_
                refine x_iload dX7_places_70 rfl ?_
                refine x_imul dX7_places_72 ?_
                refine x_iconst (v := 3) dX7_places_73 (by decide) ?_
                refine x_iadd dX7_places_74 ?_
                refine x_iar dX7_places_75 rfl (ix_n4 (c := 3) hi (by decide)) ?_
                refine x_aload_n dX7_places_76 rfl ?_
                refine x_getf dX7_places_77 flX7_7 rfl rfl ?_
                refine x_iconst (v := 4) dX7_places_80 (by decide) ?_
                refine x_iload dX7_places_81 rfl ?_
                refine x_imul dX7_places_83 ?_
                refine x_iconst (v := 3) dX7_places_84 (by decide) ?_
                refine x_iadd dX7_places_85 ?_
                refine x_iar dX7_places_86 rfl (ix_p4 (c := 3) (mBst_in (by omega) c_58) (by decide)) ?_
                refine x_isub dX7_places_87 ?_
                refine x_istore dX7_places_88 (by decide) ?_
                refine x_iload dX7_places_90 rfl ?_
                refine x_if_ne (tgt := 111) dX7_places_92 (by decide) (fun c_92 => ?_) (fun c_92 => ?_)
                · refine x_iload dX7_places_111 rfl ?_
                  refine x_istore dX7_places_113 (by decide) ?_
                  refine x_iload dX7_places_115 rfl ?_
                  refine x_if_le (tgt := 125) dX7_places_117 (by decide) (fun c_117 => ?_) (fun c_117 => ?_)
                  · refine x_iload dX7_places_125 rfl ?_
                    refine x_istore dX7_places_127 (by decide) ?_
                    first | refine x_iinc dX7_places_129 (by decide) rfl (nI_inc _) ?_ | refine x_iinc dX7_places_129 (by decide) rfl (inc_1 _) ?_
                    refine x_goto (tgt := 6) dX7_places_132 (by decide) ?_
                    (try simp only [b2i_eq0, b2i_ne0] at *)
                    refine x_le (lv' := [some (.ref 0), some (.int (nI f)), some (.int (nI i0)), some (.int but), some (.int (mBst N f but (i + 1))), some (.int (nI (i + 1))), none]) (x_eq (ih trivial) rfl rfl rfl) ?_
                    rw [mBst]
                    simp [lvle, mCan, mAh, mA0, *]
                  · refine x_iload dX7_places_120 rfl ?_
                    refine x_goto (tgt := 127) dX7_places_122 (by decide) ?_
                    refine x_istore dX7_places_127 (by decide) ?_
                    first | refine x_iinc dX7_places_129 (by decide) rfl (nI_inc _) ?_ | refine x_iinc dX7_places_129 (by decide) rfl (inc_1 _) ?_
                    refine x_goto (tgt := 6) dX7_places_132 (by decide) ?_
                    (try simp only [b2i_eq0, b2i_ne0] at *)
                    refine x_le (lv' := [some (.ref 0), some (.int (nI f)), some (.int (nI i0)), some (.int but), some (.int (mBst N f but (i + 1))), some (.int (nI (i + 1))), none]) (x_eq (ih trivial) rfl rfl rfl) ?_
                    rw [mBst]
                    simp [lvle, mCan, mAh, mA0, *]
                · have hbb : 0 ≤ mBst N f but i := by
                    apply Decidable.byContradiction
                    intro hz
                    first | (exact absurd c_92 (by decide)) | exact hz c_58
                  refine x_aload_n dX7_places_95 rfl ?_
                  refine x_iload dX7_places_96 rfl ?_
                  refine x_callp [0, 1, 2, 3, 4, 5] (x_iV dX7_places_98 mlX7_70 lbX7_free rfl rfl rfl rfl) (kX7_free l g _ _ _ _ _ _ _ (vin_nI (by decide) hi) hM) (by decide) rfl rfl (by decide) (by decide) (by simp [Value.category]) rfl rfl (by decide +kernel) ?_
                  refine x_aload_n dX7_places_101 rfl ?_
                  refine x_iload dX7_places_102 rfl ?_
                  refine x_callp [0, 1, 2, 3, 4, 5] (x_iV dX7_places_104 mlX7_70 lbX7_free rfl rfl rfl rfl) (kX7_free l g _ _ _ _ _ _ _ (mBst_in (by omega) hbb) hM) (by decide) rfl rfl (by decide) (by decide) (by simp [Value.category]) rfl rfl (by decide +kernel) ?_
                  refine x_isub dX7_places_107 ?_
                  refine x_goto (tgt := 113) dX7_places_108 (by decide) ?_
                  refine x_istore dX7_places_113 (by decide) ?_
                  refine x_iload dX7_places_115 rfl ?_
                  refine x_if_le (tgt := 125) dX7_places_117 (by decide) (fun c_117 => ?_) (fun c_117 => ?_)
                  · refine x_iload dX7_places_125 rfl ?_
                    refine x_istore dX7_places_127 (by decide) ?_
                    first | refine x_iinc dX7_places_129 (by decide) rfl (nI_inc _) ?_ | refine x_iinc dX7_places_129 (by decide) rfl (inc_1 _) ?_
                    refine x_goto (tgt := 6) dX7_places_132 (by decide) ?_
                    (try simp only [b2i_eq0, b2i_ne0] at *)
                    refine x_le (lv' := [some (.ref 0), some (.int (nI f)), some (.int (nI i0)), some (.int but), some (.int (mBst N f but (i + 1))), some (.int (nI (i + 1))), none]) (x_eq (ih trivial) rfl rfl rfl) ?_
                    rw [mBst]
                    simp [lvle, mCan, mAh, mA0, *]
                  · refine x_iload dX7_places_120 rfl ?_
                    refine x_goto (tgt := 127) dX7_places_122 (by decide) ?_
                    refine x_istore dX7_places_127 (by decide) ?_
                    first | refine x_iinc dX7_places_129 (by decide) rfl (nI_inc _) ?_ | refine x_iinc dX7_places_129 (by decide) rfl (inc_1 _) ?_
                    refine x_goto (tgt := 6) dX7_places_132 (by decide) ?_
                    (try simp only [b2i_eq0, b2i_ne0] at *)
                    refine x_le (lv' := [some (.ref 0), some (.int (nI f)), some (.int (nI i0)), some (.int but), some (.int (mBst N f but (i + 1))), some (.int (nI (i + 1))), none]) (x_eq (ih trivial) rfl rfl rfl) ?_
                    rw [mBst]
                    simp [lvle, mCan, mAh, mA0, *]
              · refine x_iconst (v := 1) dX7_places_61 (by decide) ?_
                refine x_goto (tgt := 88) dX7_places_62 (by decide) ?_
                refine x_istore dX7_places_88 (by decide) ?_
                refine x_iload dX7_places_90 rfl ?_
                refine x_if_ne (tgt := 111) dX7_places_92 (by decide) (fun c_92 => ?_) (fun c_92 => ?_)
                · refine x_iload dX7_places_111 rfl ?_
                  refine x_istore dX7_places_113 (by decide) ?_
                  refine x_iload dX7_places_115 rfl ?_
                  refine x_if_le (tgt := 125) dX7_places_117 (by decide) (fun c_117 => ?_) (fun c_117 => ?_)
                  · refine x_iload dX7_places_125 rfl ?_
                    refine x_istore dX7_places_127 (by decide) ?_
                    first | refine x_iinc dX7_places_129 (by decide) rfl (nI_inc _) ?_ | refine x_iinc dX7_places_129 (by decide) rfl (inc_1 _) ?_
                    refine x_goto (tgt := 6) dX7_places_132 (by decide) ?_
                    (try simp only [b2i_eq0, b2i_ne0] at *)
                    refine x_le (lv' := [some (.ref 0), some (.int (nI f)), some (.int (nI i0)), some (.int but), some (.int (mBst N f but (i + 1))), some (.int (nI (i + 1))), none]) (x_eq (ih trivial) rfl rfl rfl) ?_
                    rw [mBst]
                    simp [lvle, mCan, mAh, mA0, *]
                  · refine x_iload dX7_places_120 rfl ?_
                    refine x_goto (tgt := 127) dX7_places_122 (by decide) ?_
                    refine x_istore dX7_places_127 (by decide) ?_
                    first | refine x_iinc dX7_places_129 (by decide) rfl (nI_inc _) ?_ | refine x_iinc dX7_places_129 (by decide) rfl (inc_1 _) ?_
                    refine x_goto (tgt := 6) dX7_places_132 (by decide) ?_
                    (try simp only [b2i_eq0, b2i_ne0] at *)
                    refine x_le (lv' := [some (.ref 0), some (.int (nI f)), some (.int (nI i0)), some (.int but), some (.int (mBst N f but (i + 1))), some (.int (nI (i + 1))), none]) (x_eq (ih trivial) rfl rfl rfl) ?_
                    rw [mBst]
                    simp [lvle, mCan, mAh, mA0, *]
                · have hbb : 0 ≤ mBst N f but i := by
                    apply Decidable.byContradiction
                    intro hz
                    first | (exact absurd c_92 (by decide)) | exact hz c_58
                  refine x_aload_n dX7_places_95 rfl ?_
                  refine x_iload dX7_places_96 rfl ?_
                  refine x_callp [0, 1, 2, 3, 4, 5] (x_iV dX7_places_98 mlX7_70 lbX7_free rfl rfl rfl rfl) (kX7_free l g _ _ _ _ _ _ _ (vin_nI (by decide) hi) hM) (by decide) rfl rfl (by decide) (by decide) (by simp [Value.category]) rfl rfl (by decide +kernel) ?_
                  refine x_aload_n dX7_places_101 rfl ?_
                  refine x_iload dX7_places_102 rfl ?_
                  refine x_callp [0, 1, 2, 3, 4, 5] (x_iV dX7_places_104 mlX7_70 lbX7_free rfl rfl rfl rfl) (kX7_free l g _ _ _ _ _ _ _ (mBst_in (by omega) hbb) hM) (by decide) rfl rfl (by decide) (by decide) (by simp [Value.category]) rfl rfl (by decide +kernel) ?_
                  refine x_isub dX7_places_107 ?_
                  refine x_goto (tgt := 113) dX7_places_108 (by decide) ?_
                  refine x_istore dX7_places_113 (by decide) ?_
                  refine x_iload dX7_places_115 rfl ?_
                  refine x_if_le (tgt := 125) dX7_places_117 (by decide) (fun c_117 => ?_) (fun c_117 => ?_)
                  · refine x_iload dX7_places_125 rfl ?_
                    refine x_istore dX7_places_127 (by decide) ?_
                    first | refine x_iinc dX7_places_129 (by decide) rfl (nI_inc _) ?_ | refine x_iinc dX7_places_129 (by decide) rfl (inc_1 _) ?_
                    refine x_goto (tgt := 6) dX7_places_132 (by decide) ?_
                    (try simp only [b2i_eq0, b2i_ne0] at *)
                    refine x_le (lv' := [some (.ref 0), some (.int (nI f)), some (.int (nI i0)), some (.int but), some (.int (mBst N f but (i + 1))), some (.int (nI (i + 1))), none]) (x_eq (ih trivial) rfl rfl rfl) ?_
                    rw [mBst]
                    simp [lvle, mCan, mAh, mA0, *]
                  · refine x_iload dX7_places_120 rfl ?_
                    refine x_goto (tgt := 127) dX7_places_122 (by decide) ?_
                    refine x_istore dX7_places_127 (by decide) ?_
                    first | refine x_iinc dX7_places_129 (by decide) rfl (nI_inc _) ?_ | refine x_iinc dX7_places_129 (by decide) rfl (inc_1 _) ?_
                    refine x_goto (tgt := 6) dX7_places_132 (by decide) ?_
                    (try simp only [b2i_eq0, b2i_ne0] at *)
                    refine x_le (lv' := [some (.ref 0), some (.int (nI f)), some (.int (nI i0)), some (.int but), some (.int (mBst N f but (i + 1))), some (.int (nI (i + 1))), none]) (x_eq (ih trivial) rfl rfl rfl) ?_
                    rw [mBst]
                    simp [lvle, mCan, mAh, mA0, *]
  · refine x_iload dX7_places_6 rfl ?_
    refine x_bipush (v := 12) dX7_places_8 (by decide) ?_
    refine x_icmp_ge_t (tgt := 135) dX7_places_10 (by decide) (nI_le_of rfl (by decide) (Nat.le_refl _)) ?_
    refine x_aload_n dX7_places_135 rfl ?_
    refine x_getf dX7_places_136 flX7_7 rfl rfl ?_
    refine x_iload_n dX7_places_139 rfl ?_
    refine x_bipush (v := 10) dX7_places_140 (by decide) ?_
    refine x_iload_n dX7_places_142 rfl ?_
    refine x_iadd dX7_places_143 ?_
    refine x_callp [] (x_iS dX7_places_144 mlX7_33 lbX7_at rfl) (kX7_at l g _ _) (by decide) rfl rfl (by decide) (by decide) (by simp [Value.category]) rfl rfl (by decide +kernel) ?_
    refine x_iload dX7_places_147 rfl ?_
    refine x_iaw dX7_places_149 rfl (show ix (192 + 30 * nI f + (10 + nI i0)) (192 + 30 * f + (10 + i0)) 439 from by rw [show (10 : Int32) + nI i0 = nI (10 + i0) from nI_add 10 i0]; exact ix_at hf (by omega)) ?_
    refine x_iload dX7_places_150 rfl ?_
    refine x_if_ge (tgt := 171) dX7_places_152 (by decide) (fun c_152 => ?_) (fun c_152 => ?_)
    · refine x_aload_n dX7_places_171 rfl ?_
      refine x_aload_n dX7_places_172 rfl ?_
      refine x_iload_n dX7_places_173 rfl ?_
      refine x_iconst (v := 1) dX7_places_174 (by decide) ?_
      refine x_callp [0, 1, 2, 3, 4, 5] (x_iV dX7_places_175 mlX7_29 lbX7_of rfl rfl rfl rfl) (kX7_of l g _ _ _ _ _ _ f 1 hf (by decide)) (by decide) rfl rfl (by decide) (by decide) (by simp [Value.category]) rfl rfl (by decide +kernel) ?_
      refine x_iload dX7_places_178 rfl ?_
      refine x_iconst (v := 1) dX7_places_180 (by decide) ?_
      refine x_callv [0, 1, 2, 3, 4, 5] (x_iV dX7_places_181 mlX7_76 lbX7_owes rfl rfl rfl rfl) (kX7_owes l g _ _ _ _ _ _ _ _ _ (by show vp_in (if 192 + 30 * f + 1 = 192 + 30 * f + (10 + i0) then _ else N (192 + 30 * f + 1)) 12; rw [if_neg (by omega)]; exact ho) (mBst_in (Nat.le_refl _) c_152)) (by decide) (by decide) (by decide) (by simp [Value.category]) rfl rfl (by decide +kernel) (fun w1 h1 => ?_)
      obtain rfl := h1
      refine x_eq (w' := wM _ A Z B u L) ?_ rfl rfl rfl
      refine x_iconst (v := 1) dX7_places_184 (by decide) ?_
      exact x_retz dX7_places_185 rfl (rfl) rfl rfl (⟨_, rfl, by rw [mPlB, mPlN, show decide (0 ≤ mBst N f but 12) = true by simp [*]] <;> exact ⟨rfl, rfl⟩⟩)
    · refine x_aload_n dX7_places_155 rfl ?_
      refine x_getf dX7_places_156 flX7_7 rfl rfl ?_
      refine x_iload_n dX7_places_159 rfl ?_
      refine x_bipush (v := 20) dX7_places_160 (by decide) ?_
      refine x_iload_n dX7_places_162 rfl ?_
      refine x_iadd dX7_places_163 ?_
      refine x_callp [] (x_iS dX7_places_164 mlX7_33 lbX7_at rfl) (kX7_at l g _ _) (by decide) rfl rfl (by decide) (by decide) (by simp [Value.category]) rfl rfl (by decide +kernel) ?_
      refine x_iconst (v := 0) dX7_places_167 (by decide) ?_
      refine x_iaw dX7_places_168 rfl (show ix (192 + 30 * nI f + (20 + nI i0)) (192 + 30 * f + (20 + i0)) 439 from by rw [show (20 : Int32) + nI i0 = nI (20 + i0) from nI_add 20 i0]; exact ix_at hf (by omega)) ?_
      refine x_iconst (v := 0) dX7_places_169 (by decide) ?_
      exact x_retz dX7_places_170 rfl (rfl) rfl rfl (⟨_, rfl, by rw [mPlB, mPlN, show decide (0 ≤ mBst N f but 12) = false by simp [*]] <;> exact ⟨rfl, rfl⟩⟩)

set_option maxRecDepth 100000 in
set_option maxHeartbeats 4000000 in
theorem kX7_places (l : Launch) (g : XG) (N A Z B : Nat → Int32) (u : Int32) (L : Nat → Int32) (f i0 : Nat) (but : Int32) (hf : f < 8) (hi0 : i0 < 10) (hM : MOk N) (ho : vp_in (N (192 + 30 * f + 1)) 12) : Ct l g MX7_places [.ref 0, .int (nI f), .int (nI i0), .int but] (wM N A Z B u L) (Qi (fun v w1 => v = b2i (mPlB N f but) ∧ w1 = wM (mPlN N f i0 but) A Z B u L)) := by
  refine Ct_of (by decide) (by simp [Value.category]) (Nat.le_of_ble_eq_true rfl) ?_
  refine x_iconst (v := -1) dX7_places_0 (by decide) ?_
  refine x_istore dX7_places_1 (by decide) ?_
  refine x_iconst (v := 0) dX7_places_3 (by decide) ?_
  refine x_istore dX7_places_4 (by decide) ?_
  exact lpX7_places l g N A Z B u L f i0 but hf hi0 hM ho
