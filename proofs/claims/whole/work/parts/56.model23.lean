/-! ===== the reference: count ===== -/
theorem sumI_z {f : Nat → Int32} {n : Nat} (h : f n = 0) : sumI f (n + 1) = sumI f n := by rw [sumI, h, Int32.add_zero]
def cnS (N : Nat → Int32) (f : Nat) : Bool := mFi N (nI f) && mSf N f
def cnT (N : Nat → Int32) (f : Nat) : Int32 := if mFi N (nI f) then mSt N f else 0
def cnPi (N : Nat → Int32) (f i : Nat) : Bool := decide (¬ N (192 + 30 * f + (20 + i)) ≤ 0)
def cnP (N : Nat → Int32) (f : Nat) : Nat := if mFi N (nI f) then cntB (cnPi N f) (cl (mFr N f)) else 0
def cnR (N : Nat → Int32) (p : Nat) : Int32 := if mPe N (nI p) && mOn N (nI p) then mFe N (nI p) else 0
def cnO (N : Nat → Int32) (k : Nat) : Int32 := if N (48 + k) ≤ 0 then 0 else N (48 + k)
def cnV (N : Nat → Int32) (M : Nat) (u w s t c : Int32) : Int32 := if w = 0 then nI (c1N (nI M)) else if w = 1 then mFs N else if w = 2 then s else if w = 3 then t else if w = 4 then c else if w = 5 then sumI (cnR N) 12 else if w = 6 then N 432 else if w = 7 then u else sumI (cnO N) 144
def vCnm (N : Nat → Int32) (M : Nat) (u w : Int32) : Int32 := if rgB w 0 8 then cnV N M u w (nI (cntB (cnS N) 8)) (sumI (cnT N) 8) (nI (sumN (cnP N) 8)) else -10001

set_option maxRecDepth 100000 in
set_option maxHeartbeats 4000000 in
theorem lqX7_count (l : Launch) (g : XG) (N A Z B : Nat → Int32) (u : Int32) (L : Nat → Int32) (w s t : Int32) (f c0 : Nat) (Q0 : Option Value → XW → Prop) (hf : f < 8) (hM : MOk N) (hfl : mFi N (nI f) = true) (hk : XA l g MX7_count Q0 132 ([some (.ref 0), some (.int w), some (.int (s)), some (.int (t)), some (.int (nI (c0 + cntB (cnPi N f) (cl (mFr N f))))), some (.int (nI (f))), some (.int (nI (cl (mFr N f)))), none, none]) [] (wM N A Z B u L) 0 0) : XA l g MX7_count Q0 82 ((fun i => [some (.ref 0), some (.int w), some (.int (s)), some (.int (t)), some (.int (nI (c0 + cntB (cnPi N f) i))), some (.int (nI (f))), some (.int (nI i)), none, none]) 0) ((fun _ => []) 0) ((fun _ => wM N A Z B u L) 0) 0 0 := by
  refine x_for (cl (mFr N f)) (fun _ => True) (fun i => [some (.ref 0), some (.int w), some (.int (s)), some (.int (t)), some (.int (nI (c0 + cntB (cnPi N f) i))), some (.int (nI (f))), some (.int (nI i)), none, none]) (fun _ => []) (fun _ => wM N A Z B u L) trivial (fun i hi hp ih => ?_) (fun hp => ?_)
  · have hi10 : i < 10 := by have h1 := (hM f hf).1; have h2 : i < cl (N (192 + 30 * f + 2) + N (192 + 30 * f + 3)) := hi; omega
    refine x_aload_n dX7_count_82 rfl ?_
    refine x_iload dX7_count_83 rfl ?_
    refine x_callp [0, 1, 2, 3, 4, 5] (x_iV dX7_count_85 mlX7_43 lbX7_isFile rfl rfl rfl rfl) (kX7_isFile l g _ _ _ _ _ _ _) (by decide) rfl rfl (by decide) (by decide) (by simp [Value.category]) rfl rfl (by decide +kernel) ?_
    refine x_if_eq_f (tgt := 132) dX7_count_88 (by decide) (by rw [hfl]; decide) ?_
    refine x_iload dX7_count_91 rfl ?_
    refine x_aload_n dX7_count_93 rfl ?_
    refine x_iload dX7_count_94 rfl ?_
    refine x_callp [0, 1, 2, 3, 4, 5] (x_iV dX7_count_96 mlX7_47 lbX7_fragments rfl rfl rfl rfl) (kX7_fragments l g _ _ _ _ _ _ f hf) (by decide) rfl rfl (by decide) (by decide) (by simp [Value.category]) rfl rfl (by decide +kernel) ?_
    refine x_icmp_ge_f (tgt := 132) dX7_count_99 (by decide) (nge_cl hi) ?_
    refine x_iload dX7_count_102 rfl ?_
    refine x_aload_n dX7_count_104 rfl ?_
    refine x_iload dX7_count_105 rfl ?_
    refine x_bipush (v := 20) dX7_count_107 (by decide) ?_
    refine x_iload dX7_count_109 rfl ?_
    refine x_iadd dX7_count_111 ?_
    rw [ad20]
    refine x_callp [0, 1, 2, 3, 4, 5] (x_iV dX7_count_112 mlX7_29 lbX7_of rfl rfl rfl rfl) (kX7_of l g _ _ _ _ _ _ f (20 + i) hf (by omega)) (by decide) rfl rfl (by decide) (by decide) (by simp [Value.category]) rfl rfl (by decide +kernel) ?_
    refine x_if_le (tgt := 122) dX7_count_115 (by decide) (fun c_115 => ?_) (fun c_115 => ?_)
    · refine x_iconst (v := 0) dX7_count_122 (by decide) ?_
      refine x_iadd dX7_count_123 ?_
      first | rw [nI_1] | rw [Int32.add_zero]
      refine x_istore dX7_count_124 (by decide) ?_
      first | refine x_iinc dX7_count_126 (by decide) rfl (nI_inc _) ?_ | refine x_iinc dX7_count_126 (by decide) rfl (inc_1 _) ?_
      refine x_goto (tgt := 82) dX7_count_129 (by decide) ?_
      refine x_eq (ih trivial) ?_ rfl rfl
      first | (rw [cntB_t (f := cnPi N f) (n := i) (by simp [cnPi, *])] <;> rfl) | (rw [cntB_f (f := cnPi N f) (n := i) (by simp [cnPi, *])] <;> rfl)
    · refine x_iconst (v := 1) dX7_count_118 (by decide) ?_
      refine x_goto (tgt := 123) dX7_count_119 (by decide) ?_
      refine x_iadd dX7_count_123 ?_
      first | rw [nI_1] | rw [Int32.add_zero]
      refine x_istore dX7_count_124 (by decide) ?_
      first | refine x_iinc dX7_count_126 (by decide) rfl (nI_inc _) ?_ | refine x_iinc dX7_count_126 (by decide) rfl (inc_1 _) ?_
      refine x_goto (tgt := 82) dX7_count_129 (by decide) ?_
      refine x_eq (ih trivial) ?_ rfl rfl
      first | (rw [cntB_t (f := cnPi N f) (n := i) (by simp [cnPi, *])] <;> rfl) | (rw [cntB_f (f := cnPi N f) (n := i) (by simp [cnPi, *])] <;> rfl)
  · refine x_aload_n dX7_count_82 rfl ?_
    refine x_iload dX7_count_83 rfl ?_
    refine x_callp [0, 1, 2, 3, 4, 5] (x_iV dX7_count_85 mlX7_43 lbX7_isFile rfl rfl rfl rfl) (kX7_isFile l g _ _ _ _ _ _ _) (by decide) rfl rfl (by decide) (by decide) (by simp [Value.category]) rfl rfl (by decide +kernel) ?_
    refine x_if_eq_f (tgt := 132) dX7_count_88 (by decide) (by rw [hfl]; decide) ?_
    refine x_iload dX7_count_91 rfl ?_
    refine x_aload_n dX7_count_93 rfl ?_
    refine x_iload dX7_count_94 rfl ?_
    refine x_callp [0, 1, 2, 3, 4, 5] (x_iV dX7_count_96 mlX7_47 lbX7_fragments rfl rfl rfl rfl) (kX7_fragments l g _ _ _ _ _ _ f hf) (by decide) rfl rfl (by decide) (by decide) (by simp [Value.category]) rfl rfl (by decide +kernel) ?_
    refine x_icmp_ge_t (tgt := 132) dX7_count_99 (by decide) (ge_cl) ?_
    exact hk

set_option maxRecDepth 100000 in
set_option maxHeartbeats 4000000 in
theorem lrX7_count (l : Launch) (g : XG) (N A Z B : Nat → Int32) (u : Int32) (L : Nat → Int32) (w s t c : Int32) (r : Int32) (p : Nat) (Q0 : Option Value → XW → Prop) (hp2 : p < 12) (hk : XA l g MX7_count Q0 239 ([some (.ref 0), some (.int w), some (.int s), some (.int t), some (.int c), some (.int (r)), some (.int (sumI (cnO N) (12 * p + 12))), some (.int (nI (p))), some (.int (nI 12))]) [] (wM N A Z B u L) 0 0) : XA l g MX7_count Q0 190 ((fun i => [some (.ref 0), some (.int w), some (.int s), some (.int t), some (.int c), some (.int (r)), some (.int (sumI (cnO N) (12 * p + i))), some (.int (nI (p))), some (.int (nI i))]) 0) ((fun _ => []) 0) ((fun _ => wM N A Z B u L) 0) 0 0 := by
  refine x_for 12 (fun _ => True) (fun i => [some (.ref 0), some (.int w), some (.int s), some (.int t), some (.int c), some (.int (r)), some (.int (sumI (cnO N) (12 * p + i))), some (.int (nI (p))), some (.int (nI i))]) (fun _ => []) (fun _ => wM N A Z B u L) trivial (fun i hi hp ih => ?_) (fun hp => ?_)
  · refine x_iload dX7_count_190 rfl ?_
    refine x_bipush (v := 12) dX7_count_192 (by decide) ?_
    refine x_icmp_ge_f (tgt := 239) dX7_count_194 (by decide) (nI_nle_of rfl (by decide) hi) ?_
    refine x_iload dX7_count_197 rfl ?_
    refine x_aload_n dX7_count_199 rfl ?_
    refine x_getf dX7_count_200 flX7_7 rfl rfl ?_
    refine x_iload dX7_count_203 rfl ?_
    refine x_iload dX7_count_205 rfl ?_
    refine x_callp [] (x_iS dX7_count_207 mlX7_40 lbX7_balanceAt rfl) (kX7_balanceAt l g _ _) (by decide) rfl rfl (by decide) (by decide) (by simp [Value.category]) rfl rfl (by decide +kernel) ?_
    refine x_iar dX7_count_210 rfl (show ix (48 + 12 * nI p + nI i) (48 + (12 * p + i)) 439 from by have := ix_bal (vin_nI (n := 12) (by decide) hp2) (vin_nI (n := 12) (by decide) hi); rwa [cl_nI (by omega), cl_nI (by omega)] at this) ?_
    refine x_if_le (tgt := 229) dX7_count_211 (by decide) (fun c_211 => ?_) (fun c_211 => ?_)
    · refine x_iconst (v := 0) dX7_count_229 (by decide) ?_
      refine x_iadd dX7_count_230 ?_
      try rw [Int32.add_zero]
      refine x_istore dX7_count_231 (by decide) ?_
      first | refine x_iinc dX7_count_233 (by decide) rfl (nI_inc _) ?_ | refine x_iinc dX7_count_233 (by decide) rfl (inc_1 _) ?_
      refine x_goto (tgt := 190) dX7_count_236 (by decide) ?_
      refine x_eq (ih trivial) ?_ rfl rfl
      rw [show 12 * p + (i + 1) = (12 * p + i) + 1 by omega, sumI, cnO]
      first | (rw [if_pos c_211, Int32.add_zero] <;> rfl) | (rw [if_neg c_211] <;> rfl)
    · refine x_aload_n dX7_count_214 rfl ?_
      refine x_getf dX7_count_215 flX7_7 rfl rfl ?_
      refine x_iload dX7_count_218 rfl ?_
      refine x_iload dX7_count_220 rfl ?_
      refine x_callp [] (x_iS dX7_count_222 mlX7_40 lbX7_balanceAt rfl) (kX7_balanceAt l g _ _) (by decide) rfl rfl (by decide) (by decide) (by simp [Value.category]) rfl rfl (by decide +kernel) ?_
      refine x_iar dX7_count_225 rfl (show ix (48 + 12 * nI p + nI i) (48 + (12 * p + i)) 439 from by have := ix_bal (vin_nI (n := 12) (by decide) hp2) (vin_nI (n := 12) (by decide) hi); rwa [cl_nI (by omega), cl_nI (by omega)] at this) ?_
      refine x_goto (tgt := 230) dX7_count_226 (by decide) ?_
      refine x_iadd dX7_count_230 ?_
      try rw [Int32.add_zero]
      refine x_istore dX7_count_231 (by decide) ?_
      first | refine x_iinc dX7_count_233 (by decide) rfl (nI_inc _) ?_ | refine x_iinc dX7_count_233 (by decide) rfl (inc_1 _) ?_
      refine x_goto (tgt := 190) dX7_count_236 (by decide) ?_
      refine x_eq (ih trivial) ?_ rfl rfl
      rw [show 12 * p + (i + 1) = (12 * p + i) + 1 by omega, sumI, cnO]
      first | (rw [if_pos c_211, Int32.add_zero] <;> rfl) | (rw [if_neg c_211] <;> rfl)
  · refine x_iload dX7_count_190 rfl ?_
    refine x_bipush (v := 12) dX7_count_192 (by decide) ?_
    refine x_icmp_ge_t (tgt := 239) dX7_count_194 (by decide) (nI_le_of rfl (by decide) (Nat.le_refl _)) ?_
    exact hk

set_option maxRecDepth 100000 in
set_option maxHeartbeats 4000000 in
theorem lsX7_count (l : Launch) (g : XG) (N A Z B : Nat → Int32) (u : Int32) (L : Nat → Int32) (w s t c : Int32) (M : Nat) (hM : MOk N) (hM4 : M < 4096) (hA : mPs N 12 = nI M) : XA l g MX7_count (Qp (cnV N M u w s t c) (wM N A Z B u L)) 147 ((fun i => [some (.ref 0), some (.int w), some (.int s), some (.int t), some (.int c), some (.int (sumI (cnR N) i)), some (.int (sumI (cnO N) (12 * i))), some (.int (nI (i))), none]) 0) ((fun _ => []) 0) ((fun _ => wM N A Z B u L) 0) 0 0 := by
  refine x_for 12 (fun _ => True) (fun i => [some (.ref 0), some (.int w), some (.int s), some (.int t), some (.int c), some (.int (sumI (cnR N) i)), some (.int (sumI (cnO N) (12 * i))), some (.int (nI (i))), none]) (fun _ => []) (fun _ => wM N A Z B u L) trivial (fun i hi hp ih => ?_) (fun hp => ?_)
  · refine x_iload dX7_count_147 rfl ?_
    refine x_bipush (v := 12) dX7_count_149 (by decide) ?_
    refine x_icmp_ge_f (tgt := 245) dX7_count_151 (by decide) (nI_nle_of rfl (by decide) hi) ?_
    refine x_iload dX7_count_154 rfl ?_
    refine x_aload_n dX7_count_156 rfl ?_
    refine x_iload dX7_count_157 rfl ?_
    refine x_callp [0, 1, 2, 3, 4, 5] (x_iV dX7_count_159 mlX7_67 lbX7_isPeer rfl rfl rfl rfl) (kX7_isPeer l g _ _ _ _ _ _ _) (by decide) rfl rfl (by decide) (by decide) (by simp [Value.category]) rfl rfl (by decide +kernel) ?_
    refine x_if_eq (tgt := 183) dX7_count_162 (by decide) (fun c_162 => ?_) (fun c_162 => ?_)
    · refine x_iconst (v := 0) dX7_count_183 (by decide) ?_
      refine x_iadd dX7_count_184 ?_
      try rw [Int32.add_zero]
      refine x_istore dX7_count_185 (by decide) ?_
      refine x_iconst (v := 0) dX7_count_187 (by decide) ?_
      refine x_istore dX7_count_188 (by decide) ?_
      refine x_eq (lv' := [some (.ref 0), some (.int w), some (.int s), some (.int t), some (.int c), some (.int (sumI (cnR N) (i + 1))), some (.int (sumI (cnO N) (12 * i + 0))), some (.int (nI (i))), some (.int (nI 0))]) ?_ (by
        (try simp only [b2i_eq0, b2i_ne0] at *)
        rw [show sumI (cnR N) (i + 1) = sumI (cnR N) i + cnR N i from rfl]
        first | (rw [show cnR N i = 0 by simp [cnR, *], Int32.add_zero] <;> rfl) | (rw [show cnR N i = mFe N (nI i) by simp [cnR, *]] <;> rfl)) rfl rfl
      refine lrX7_count l g N A Z B u L w s t c _ i _ hi ?_
      refine x_iinc dX7_count_239 (by decide) rfl (nI_inc _) ?_
      refine x_goto (tgt := 147) dX7_count_242 (by decide) ?_
      refine x_eq (x_le (lv' := [some (.ref 0), some (.int w), some (.int s), some (.int t), some (.int c), some (.int (sumI (cnR N) (i + 1))), some (.int (sumI (cnO N) (12 * (i + 1)))), some (.int (nI (i + 1))), none]) (ih trivial) (lv := [some (.ref 0), some (.int w), some (.int s), some (.int t), some (.int c), some (.int (sumI (cnR N) (i + 1))), some (.int (sumI (cnO N) (12 * (i + 1)))), some (.int (nI (i + 1))), some (.int (nI 12))]) (by simp [lvle])) rfl rfl rfl
    · refine x_aload_n dX7_count_165 rfl ?_
      refine x_iload dX7_count_166 rfl ?_
      refine x_callp [0, 1, 2, 3, 4, 5] (x_iV dX7_count_168 mlX7_51 lbX7_isOnline rfl rfl rfl rfl) (kX7_isOnline l g _ _ _ _ _ _ _ (vin_nI (by decide) hi)) (by decide) rfl rfl (by decide) (by decide) (by simp [Value.category]) rfl rfl (by decide +kernel) ?_
      refine x_if_eq (tgt := 183) dX7_count_171 (by decide) (fun c_171 => ?_) (fun c_171 => ?_)
      · refine x_iconst (v := 0) dX7_count_183 (by decide) ?_
        refine x_iadd dX7_count_184 ?_
        try rw [Int32.add_zero]
        refine x_istore dX7_count_185 (by decide) ?_
        refine x_iconst (v := 0) dX7_count_187 (by decide) ?_
        refine x_istore dX7_count_188 (by decide) ?_
        refine x_eq (lv' := [some (.ref 0), some (.int w), some (.int s), some (.int t), some (.int c), some (.int (sumI (cnR N) (i + 1))), some (.int (sumI (cnO N) (12 * i + 0))), some (.int (nI (i))), some (.int (nI 0))]) ?_ (by
          (try simp only [b2i_eq0, b2i_ne0] at *)
          rw [show sumI (cnR N) (i + 1) = sumI (cnR N) i + cnR N i from rfl]
          first | (rw [show cnR N i = 0 by simp [cnR, *], Int32.add_zero] <;> rfl) | (rw [show cnR N i = mFe N (nI i) by simp [cnR, *]] <;> rfl)) rfl rfl
        refine lrX7_count l g N A Z B u L w s t c _ i _ hi ?_
        refine x_iinc dX7_count_239 (by decide) rfl (nI_inc _) ?_
        refine x_goto (tgt := 147) dX7_count_242 (by decide) ?_
        refine x_eq (x_le (lv' := [some (.ref 0), some (.int w), some (.int s), some (.int t), some (.int c), some (.int (sumI (cnR N) (i + 1))), some (.int (sumI (cnO N) (12 * (i + 1)))), some (.int (nI (i + 1))), none]) (ih trivial) (lv := [some (.ref 0), some (.int w), some (.int s), some (.int t), some (.int c), some (.int (sumI (cnR N) (i + 1))), some (.int (sumI (cnO N) (12 * (i + 1)))), some (.int (nI (i + 1))), some (.int (nI 12))]) (by simp [lvle])) rfl rfl rfl
      · refine x_aload_n dX7_count_174 rfl ?_
        refine x_iload dX7_count_175 rfl ?_
        refine x_callp [0, 1, 2, 3, 4, 5] (x_iV dX7_count_177 mlX7_70 lbX7_free rfl rfl rfl rfl) (kX7_free l g _ _ _ _ _ _ _ (vin_nI (by decide) hi) hM) (by decide) rfl rfl (by decide) (by decide) (by simp [Value.category]) rfl rfl (by decide +kernel) ?_
        refine x_goto (tgt := 184) dX7_count_180 (by decide) ?_
        refine x_iadd dX7_count_184 ?_
        try rw [Int32.add_zero]
        refine x_istore dX7_count_185 (by decide) ?_
        refine x_iconst (v := 0) dX7_count_187 (by decide) ?_
        refine x_istore dX7_count_188 (by decide) ?_
        refine x_eq (lv' := [some (.ref 0), some (.int w), some (.int s), some (.int t), some (.int c), some (.int (sumI (cnR N) (i + 1))), some (.int (sumI (cnO N) (12 * i + 0))), some (.int (nI (i))), some (.int (nI 0))]) ?_ (by
          (try simp only [b2i_eq0, b2i_ne0] at *)
          rw [show sumI (cnR N) (i + 1) = sumI (cnR N) i + cnR N i from rfl]
          first | (rw [show cnR N i = 0 by simp [cnR, *], Int32.add_zero] <;> rfl) | (rw [show cnR N i = mFe N (nI i) by simp [cnR, *]] <;> rfl)) rfl rfl
        refine lrX7_count l g N A Z B u L w s t c _ i _ hi ?_
        refine x_iinc dX7_count_239 (by decide) rfl (nI_inc _) ?_
        refine x_goto (tgt := 147) dX7_count_242 (by decide) ?_
        refine x_eq (x_le (lv' := [some (.ref 0), some (.int w), some (.int s), some (.int t), some (.int c), some (.int (sumI (cnR N) (i + 1))), some (.int (sumI (cnO N) (12 * (i + 1)))), some (.int (nI (i + 1))), none]) (ih trivial) (lv := [some (.ref 0), some (.int w), some (.int s), some (.int t), some (.int c), some (.int (sumI (cnR N) (i + 1))), some (.int (sumI (cnO N) (12 * (i + 1)))), some (.int (nI (i + 1))), some (.int (nI 12))]) (by simp [lvle])) rfl rfl rfl
  · refine x_iload dX7_count_147 rfl ?_
    refine x_bipush (v := 12) dX7_count_149 (by decide) ?_
    refine x_icmp_ge_t (tgt := 245) dX7_count_151 (by decide) (nI_le_of rfl (by decide) (Nat.le_refl _)) ?_
    refine x_iload_n dX7_count_245 rfl ?_
    refine x_if_ne (tgt := 259) dX7_count_246 (by decide) (fun c_246 => ?_) (fun c_246 => ?_)
    · refine x_iload_n dX7_count_259 rfl ?_
      refine x_iconst (v := 1) dX7_count_260 (by decide) ?_
      refine x_icmp_ne (tgt := 271) dX7_count_261 (by decide) (fun c_261 => ?_) (fun c_261 => ?_)
      · refine x_iload_n dX7_count_271 rfl ?_
        refine x_iconst (v := 2) dX7_count_272 (by decide) ?_
        refine x_icmp_ne (tgt := 280) dX7_count_273 (by decide) (fun c_273 => ?_) (fun c_273 => ?_)
        · refine x_iload_n dX7_count_280 rfl ?_
          refine x_iconst (v := 3) dX7_count_281 (by decide) ?_
          refine x_icmp_ne (tgt := 289) dX7_count_282 (by decide) (fun c_282 => ?_) (fun c_282 => ?_)
          · refine x_iload_n dX7_count_289 rfl ?_
            refine x_iconst (v := 4) dX7_count_290 (by decide) ?_
            refine x_icmp_ne (tgt := 299) dX7_count_291 (by decide) (fun c_291 => ?_) (fun c_291 => ?_)
            · refine x_iload_n dX7_count_299 rfl ?_
              refine x_iconst (v := 5) dX7_count_300 (by decide) ?_
              refine x_icmp_ne (tgt := 309) dX7_count_301 (by decide) (fun c_301 => ?_) (fun c_301 => ?_)
              · refine x_iload_n dX7_count_309 rfl ?_
                refine x_bipush (v := 6) dX7_count_310 (by decide) ?_
                refine x_icmp_ne (tgt := 326) dX7_count_312 (by decide) (fun c_312 => ?_) (fun c_312 => ?_)
                · refine x_iload_n dX7_count_326 rfl ?_
                  refine x_bipush (v := 7) dX7_count_327 (by decide) ?_
                  refine x_icmp_ne (tgt := 339) dX7_count_329 (by decide) (fun c_329 => ?_) (fun c_329 => ?_)
                  · refine x_iload dX7_count_339 rfl ?_
                    exact x_reti dX7_count_341 rfl rfl rfl (⟨by simp [cnV, *], rfl⟩)
                  · refine x_aload_n dX7_count_332 rfl ?_
                    refine x_getf dX7_count_333 flX7_36 rfl rfl ?_
                    refine x_goto (tgt := 341) dX7_count_336 (by decide) ?_
                    exact x_reti dX7_count_341 rfl rfl rfl (⟨by simp [cnV, *], rfl⟩)
                · refine x_aload_n dX7_count_315 rfl ?_
                  refine x_getf dX7_count_316 flX7_7 rfl rfl ?_
                  refine x_sipush (v := 432) dX7_count_319 (by decide) ?_
                  refine x_iar dX7_count_322 rfl (ixl (k := 432) (by decide) (by decide) (by decide)) ?_
                  refine x_goto (tgt := 341) dX7_count_323 (by decide) ?_
                  exact x_reti dX7_count_341 rfl rfl rfl (⟨by simp [cnV, *], rfl⟩)
              · refine x_iload dX7_count_304 rfl ?_
                refine x_goto (tgt := 341) dX7_count_306 (by decide) ?_
                exact x_reti dX7_count_341 rfl rfl rfl (⟨by simp [cnV, *], rfl⟩)
            · refine x_iload dX7_count_294 rfl ?_
              refine x_goto (tgt := 341) dX7_count_296 (by decide) ?_
              exact x_reti dX7_count_341 rfl rfl rfl (⟨by simp [cnV, *], rfl⟩)
          · refine x_iload_n dX7_count_285 rfl ?_
            refine x_goto (tgt := 341) dX7_count_286 (by decide) ?_
            exact x_reti dX7_count_341 rfl rfl rfl (⟨by simp [cnV, *], rfl⟩)
        · refine x_iload_n dX7_count_276 rfl ?_
          refine x_goto (tgt := 341) dX7_count_277 (by decide) ?_
          exact x_reti dX7_count_341 rfl rfl rfl (⟨by simp [cnV, *], rfl⟩)
      · refine x_aload_n dX7_count_264 rfl ?_
        refine x_callp [0, 1, 2, 3, 4, 5] (x_iV dX7_count_265 mlX7_99 lbX7_files rfl rfl rfl rfl) (kX7_files l g _ _ _ _ _ _) (by decide) rfl rfl (by decide) (by decide) (by simp [Value.category]) rfl rfl (by decide +kernel) ?_
        refine x_goto (tgt := 341) dX7_count_268 (by decide) ?_
        exact x_reti dX7_count_341 rfl rfl rfl (⟨by simp [cnV, *], rfl⟩)
    · refine x_aload_n dX7_count_249 rfl ?_
      refine x_callp [0, 1, 2, 3, 4, 5] (x_iV dX7_count_250 mlX7_131 lbX7_peerSet rfl rfl rfl rfl) (kX7_peerSet l g _ _ _ _ _ _) (by decide) rfl rfl (by decide) (by decide) (by simp [Value.category]) rfl rfl (by decide +kernel) ?_
      rw [hA]
      refine x_callp [] (x_iS dX7_count_253 mlX7_134 lbX7_count1 rfl) (kX7_count1 l g M hM4) (by decide) rfl rfl (by decide) (by decide) (by simp [Value.category]) rfl rfl (by decide +kernel) ?_
      refine x_goto (tgt := 341) dX7_count_256 (by decide) ?_
      exact x_reti dX7_count_341 rfl rfl rfl (⟨by simp [cnV, *], rfl⟩)

set_option maxRecDepth 100000 in
set_option maxHeartbeats 4000000 in
theorem lpX7_count (l : Launch) (g : XG) (N A Z B : Nat → Int32) (u : Int32) (L : Nat → Int32) (w : Int32) (M : Nat) (hM : MOk N) (hM4 : M < 4096) (hA : mPs N 12 = nI M) (hw : rgB w 0 8 = true) : XA l g MX7_count (Qp (vCnm N M u w) (wM N A Z B u L)) 24 ((fun i => [some (.ref 0), some (.int w), some (.int (nI (cntB (cnS N) (i)))), some (.int (sumI (cnT N) (i))), some (.int (nI (sumN (cnP N) (i)))), some (.int (nI (i))), none, none, none]) 0) ((fun _ => []) 0) ((fun _ => wM N A Z B u L) 0) 0 0 := by
  refine x_for 8 (fun _ => True) (fun i => [some (.ref 0), some (.int w), some (.int (nI (cntB (cnS N) (i)))), some (.int (sumI (cnT N) (i))), some (.int (nI (sumN (cnP N) (i)))), some (.int (nI (i))), none, none, none]) (fun _ => []) (fun _ => wM N A Z B u L) trivial (fun i hi hp ih => ?_) (fun hp => ?_)
  · refine x_iload dX7_count_24 rfl ?_
    refine x_bipush (v := 8) dX7_count_26 (by decide) ?_
    refine x_icmp_ge_f (tgt := 138) dX7_count_28 (by decide) (nI_nle_of rfl (by decide) hi) ?_
    refine x_iload_n dX7_count_31 rfl ?_
    refine x_aload_n dX7_count_32 rfl ?_
    refine x_iload dX7_count_33 rfl ?_
    refine x_callp [0, 1, 2, 3, 4, 5] (x_iV dX7_count_35 mlX7_43 lbX7_isFile rfl rfl rfl rfl) (kX7_isFile l g _ _ _ _ _ _ _) (by decide) rfl rfl (by decide) (by decide) (by simp [Value.category]) rfl rfl (by decide +kernel) ?_
    refine x_if_eq (tgt := 54) dX7_count_38 (by decide) (fun c_38 => ?_) (fun c_38 => ?_)
    · refine x_iconst (v := 0) dX7_count_54 (by decide) ?_
      refine x_iadd dX7_count_55 ?_
      first | rw [nI_1] | rw [Int32.add_zero]
      refine x_istore_n dX7_count_56 (by decide) ?_
      refine x_iload_n dX7_count_57 rfl ?_
      refine x_aload_n dX7_count_58 rfl ?_
      refine x_iload dX7_count_59 rfl ?_
      refine x_callp [0, 1, 2, 3, 4, 5] (x_iV dX7_count_61 mlX7_43 lbX7_isFile rfl rfl rfl rfl) (kX7_isFile l g _ _ _ _ _ _ _) (by decide) rfl rfl (by decide) (by decide) (by simp [Value.category]) rfl rfl (by decide +kernel) ?_
      refine x_if_eq_t (tgt := 76) dX7_count_64 (by decide) (c_38) ?_
      refine x_iconst (v := 0) dX7_count_76 (by decide) ?_
      refine x_iadd dX7_count_77 ?_
      try rw [Int32.add_zero]
      refine x_istore_n dX7_count_78 (by decide) ?_
      refine x_iconst (v := 0) dX7_count_79 (by decide) ?_
      refine x_istore dX7_count_80 (by decide) ?_
      refine x_aload_n dX7_count_82 rfl ?_
      refine x_iload dX7_count_83 rfl ?_
      refine x_callp [0, 1, 2, 3, 4, 5] (x_iV dX7_count_85 mlX7_43 lbX7_isFile rfl rfl rfl rfl) (kX7_isFile l g _ _ _ _ _ _ _) (by decide) rfl rfl (by decide) (by decide) (by simp [Value.category]) rfl rfl (by decide +kernel) ?_
      refine x_if_eq_t (tgt := 132) dX7_count_88 (by decide) (c_38) ?_
      first | refine x_iinc dX7_count_132 (by decide) rfl (nI_inc _) ?_ | refine x_iinc dX7_count_132 (by decide) rfl (inc_1 _) ?_
      refine x_goto (tgt := 24) dX7_count_135 (by decide) ?_
      (try simp only [b2i_eq0, b2i_ne0] at *)
      have h1 := cntB_f (f := cnS N) (n := i) (by simp [cnS, *])
      have h2 := sumI_z (f := cnT N) (n := i) (by simp [cnT, *])
      have h3 : sumN (cnP N) (i + 1) = sumN (cnP N) i := by rw [sumN]; simp [cnP, *]
      refine x_eq (x_le (lv' := [some (.ref 0), some (.int w), some (.int (nI (cntB (cnS N) (i + 1)))), some (.int (sumI (cnT N) (i + 1))), some (.int (nI (sumN (cnP N) (i + 1)))), some (.int (nI (i + 1))), none, none, none]) (ih trivial) (lv := [some (.ref 0), some (.int w), some (.int (nI (cntB (cnS N) (i + 1)))), some (.int (sumI (cnT N) (i + 1))), some (.int (nI (sumN (cnP N) (i + 1)))), some (.int (nI (i + 1))), some (.int 0), none, none]) (by simp [lvle])) (by rw [h1, h2, h3] <;> rfl) rfl rfl
    · refine x_aload_n dX7_count_41 rfl ?_
      refine x_iload dX7_count_42 rfl ?_
      refine x_callp [0, 1, 2, 3, 4, 5] (x_iV dX7_count_44 mlX7_106 lbX7_isSafe rfl rfl rfl rfl) (kX7_isSafe l g _ _ _ _ _ _ i hi hM) (by decide) rfl rfl (by decide) (by decide) (by simp [Value.category]) rfl rfl (by decide +kernel) ?_
      refine x_if_eq (tgt := 54) dX7_count_47 (by decide) (fun c_47 => ?_) (fun c_47 => ?_)
      · refine x_iconst (v := 0) dX7_count_54 (by decide) ?_
        refine x_iadd dX7_count_55 ?_
        first | rw [nI_1] | rw [Int32.add_zero]
        refine x_istore_n dX7_count_56 (by decide) ?_
        refine x_iload_n dX7_count_57 rfl ?_
        refine x_aload_n dX7_count_58 rfl ?_
        refine x_iload dX7_count_59 rfl ?_
        refine x_callp [0, 1, 2, 3, 4, 5] (x_iV dX7_count_61 mlX7_43 lbX7_isFile rfl rfl rfl rfl) (kX7_isFile l g _ _ _ _ _ _ _) (by decide) rfl rfl (by decide) (by decide) (by simp [Value.category]) rfl rfl (by decide +kernel) ?_
        refine x_if_eq_f (tgt := 76) dX7_count_64 (by decide) (c_38) ?_
        refine x_aload_n dX7_count_67 rfl ?_
        refine x_iload dX7_count_68 rfl ?_
        refine x_callp [0, 1, 2, 3, 4, 5] (x_iV dX7_count_70 mlX7_103 lbX7_storedOf rfl rfl rfl rfl) (kX7_storedOf l g _ _ _ _ _ _ i hi hM) (by decide) rfl rfl (by decide) (by decide) (by simp [Value.category]) rfl rfl (by decide +kernel) ?_
        refine x_goto (tgt := 77) dX7_count_73 (by decide) ?_
        refine x_iadd dX7_count_77 ?_
        try rw [Int32.add_zero]
        refine x_istore_n dX7_count_78 (by decide) ?_
        refine x_iconst (v := 0) dX7_count_79 (by decide) ?_
        refine x_istore dX7_count_80 (by decide) ?_
        have hfl : mFi N (nI i) = true := b2i_t' c_38
        refine x_eq (lv' := [some (.ref 0), some (.int w), some (.int (nI (cntB (cnS N) (i + 1)))), some (.int (sumI (cnT N) (i + 1))), some (.int (nI (sumN (cnP N) i + cntB (cnPi N i) 0))), some (.int (nI (i))), some (.int (nI 0)), none, none]) ?_ (by
          (try simp only [b2i_eq0, b2i_ne0] at *)
          rw [cntB_f (f := cnS N) (n := i) (by simp [cnS, *]), sumI, show cnT N i = mSt N i by simp [cnT, *]] <;> rfl) rfl rfl
        refine lqX7_count l g N A Z B u L w _ _ i (sumN (cnP N) i) _ hi hM hfl ?_
        refine x_iinc dX7_count_132 (by decide) rfl (nI_inc _) ?_
        refine x_goto (tgt := 24) dX7_count_135 (by decide) ?_
        have h3 : sumN (cnP N) (i + 1) = sumN (cnP N) i + cntB (cnPi N i) (cl (mFr N i)) := by rw [sumN]; simp [cnP, hfl]
        refine x_eq (x_le (lv' := [some (.ref 0), some (.int w), some (.int (nI (cntB (cnS N) (i + 1)))), some (.int (sumI (cnT N) (i + 1))), some (.int (nI (sumN (cnP N) (i + 1)))), some (.int (nI (i + 1))), none, none, none]) (ih trivial) (lv := [some (.ref 0), some (.int w), some (.int (nI (cntB (cnS N) (i + 1)))), some (.int (sumI (cnT N) (i + 1))), some (.int (nI (sumN (cnP N) (i + 1)))), some (.int (nI (i + 1))), some (.int (nI (cl (mFr N i)))), none, none]) (by simp [lvle])) (by rw [h3] <;> rfl) rfl rfl
      · refine x_iconst (v := 1) dX7_count_50 (by decide) ?_
        refine x_goto (tgt := 55) dX7_count_51 (by decide) ?_
        refine x_iadd dX7_count_55 ?_
        first | rw [nI_1] | rw [Int32.add_zero]
        refine x_istore_n dX7_count_56 (by decide) ?_
        refine x_iload_n dX7_count_57 rfl ?_
        refine x_aload_n dX7_count_58 rfl ?_
        refine x_iload dX7_count_59 rfl ?_
        refine x_callp [0, 1, 2, 3, 4, 5] (x_iV dX7_count_61 mlX7_43 lbX7_isFile rfl rfl rfl rfl) (kX7_isFile l g _ _ _ _ _ _ _) (by decide) rfl rfl (by decide) (by decide) (by simp [Value.category]) rfl rfl (by decide +kernel) ?_
        refine x_if_eq_f (tgt := 76) dX7_count_64 (by decide) (c_38) ?_
        refine x_aload_n dX7_count_67 rfl ?_
        refine x_iload dX7_count_68 rfl ?_
        refine x_callp [0, 1, 2, 3, 4, 5] (x_iV dX7_count_70 mlX7_103 lbX7_storedOf rfl rfl rfl rfl) (kX7_storedOf l g _ _ _ _ _ _ i hi hM) (by decide) rfl rfl (by decide) (by decide) (by simp [Value.category]) rfl rfl (by decide +kernel) ?_
        refine x_goto (tgt := 77) dX7_count_73 (by decide) ?_
        refine x_iadd dX7_count_77 ?_
        try rw [Int32.add_zero]
        refine x_istore_n dX7_count_78 (by decide) ?_
        refine x_iconst (v := 0) dX7_count_79 (by decide) ?_
        refine x_istore dX7_count_80 (by decide) ?_
        have hfl : mFi N (nI i) = true := b2i_t' c_38
        refine x_eq (lv' := [some (.ref 0), some (.int w), some (.int (nI (cntB (cnS N) (i + 1)))), some (.int (sumI (cnT N) (i + 1))), some (.int (nI (sumN (cnP N) i + cntB (cnPi N i) 0))), some (.int (nI (i))), some (.int (nI 0)), none, none]) ?_ (by
          (try simp only [b2i_eq0, b2i_ne0] at *)
          rw [cntB_t (f := cnS N) (n := i) (by simp [cnS, *]), sumI, show cnT N i = mSt N i by simp [cnT, *]] <;> rfl) rfl rfl
        refine lqX7_count l g N A Z B u L w _ _ i (sumN (cnP N) i) _ hi hM hfl ?_
        refine x_iinc dX7_count_132 (by decide) rfl (nI_inc _) ?_
        refine x_goto (tgt := 24) dX7_count_135 (by decide) ?_
        have h3 : sumN (cnP N) (i + 1) = sumN (cnP N) i + cntB (cnPi N i) (cl (mFr N i)) := by rw [sumN]; simp [cnP, hfl]
        refine x_eq (x_le (lv' := [some (.ref 0), some (.int w), some (.int (nI (cntB (cnS N) (i + 1)))), some (.int (sumI (cnT N) (i + 1))), some (.int (nI (sumN (cnP N) (i + 1)))), some (.int (nI (i + 1))), none, none, none]) (ih trivial) (lv := [some (.ref 0), some (.int w), some (.int (nI (cntB (cnS N) (i + 1)))), some (.int (sumI (cnT N) (i + 1))), some (.int (nI (sumN (cnP N) (i + 1)))), some (.int (nI (i + 1))), some (.int (nI (cl (mFr N i)))), none, none]) (by simp [lvle])) (by rw [h3] <;> rfl) rfl rfl
  · refine x_iload dX7_count_24 rfl ?_
    refine x_bipush (v := 8) dX7_count_26 (by decide) ?_
    refine x_icmp_ge_t (tgt := 138) dX7_count_28 (by decide) (nI_le_of rfl (by decide) (Nat.le_refl _)) ?_
    refine x_iconst (v := 0) dX7_count_138 (by decide) ?_
    refine x_istore dX7_count_139 (by decide) ?_
    refine x_iconst (v := 0) dX7_count_141 (by decide) ?_
    refine x_istore dX7_count_142 (by decide) ?_
    refine x_iconst (v := 0) dX7_count_144 (by decide) ?_
    refine x_istore dX7_count_145 (by decide) ?_
    rw [show vCnm N M u w = cnV N M u w (nI (cntB (cnS N) 8)) (sumI (cnT N) 8) (nI (sumN (cnP N) 8)) from if_pos hw]
    exact lsX7_count l g N A Z B u L w _ _ _ M hM hM4 hA

set_option maxRecDepth 100000 in
set_option maxHeartbeats 4000000 in
theorem kX7_count (l : Launch) (g : XG) (N A Z B : Nat → Int32) (u : Int32) (L : Nat → Int32) (w : Int32) (M : Nat) (hM : MOk N) (hM4 : M < 4096) (hA : mPs N 12 = nI M) : Ct l g MX7_count [.ref 0, .int w] (wM N A Z B u L) (Qp (vCnm N M u w) (wM N A Z B u L)) := by
  refine Ct_of (by decide) (by simp [Value.category]) (Nat.le_of_ble_eq_true rfl) ?_
  refine x_iload_n dX7_count_0 rfl ?_
  refine x_iconst (v := 0) dX7_count_1 (by decide) ?_
  refine x_bipush (v := 8) dX7_count_2 (by decide) ?_
  refine x_callp [] (x_iS dX7_count_4 mlX7_25 lbX7_in rfl) (kX7_in l g _ _ _) (by decide) rfl rfl (by decide) (by decide) (by simp [Value.category]) rfl rfl (by decide +kernel) ?_
  refine x_if_ne (tgt := 14) dX7_count_7 (by decide) (fun c_7 => ?_) (fun c_7 => ?_)
  · refine x_iconst (v := 0) dX7_count_14 (by decide) ?_
    refine x_istore_n dX7_count_15 (by decide) ?_
    refine x_iconst (v := 0) dX7_count_16 (by decide) ?_
    refine x_istore_n dX7_count_17 (by decide) ?_
    refine x_iconst (v := 0) dX7_count_18 (by decide) ?_
    refine x_istore dX7_count_19 (by decide) ?_
    refine x_iconst (v := 0) dX7_count_21 (by decide) ?_
    refine x_istore dX7_count_22 (by decide) ?_
    exact lpX7_count l g N A Z B u L w M hM hM4 hA (b2i_t' c_7)
  · refine x_sipush (v := -10001) dX7_count_10 (by decide) ?_
    exact x_reti dX7_count_13 rfl rfl rfl (⟨by rw [vCnm, if_neg (by simp [b2i_f' c_7])], rfl⟩)
