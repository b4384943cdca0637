/-! ===== the reference: store, its loops ===== -/
def mS0 (N : Nat → Int32) (f : Nat) (o r : Int32) : Nat → Int32 := upd (upd (upd (upd N (192 + 30 * f + 0) 1) (192 + 30 * f + 1) o) (192 + 30 * f + 2) (N 432)) (192 + 30 * f + 3) r
def mSA (T : Nat → Int32) (f : Nat) : Nat → (Nat → Int32)
  | 0 => T
  | i + 1 => upd (upd (mSA T f i) (192 + 30 * f + (10 + i)) (-1)) (192 + 30 * f + (20 + i)) 0
def mSB (T : Nat → Int32) (f : Nat) : Nat → (Nat → Int32)
  | 0 => T
  | i + 1 => upd (upd (mSB T f i) (192 + 30 * f + (4 + i)) (if mSB T f i 432 ≤ nI i then 0 else mSB T f i (433 + i))) (433 + i) 0
def mSC (T : Nat → Int32) (f : Nat) : Nat → (Nat → Int32)
  | 0 => T
  | i + 1 => mPlN (mSC T f i) f i (-1)
theorem mSC_ok {T : Nat → Int32} {f : Nat} (h : MOkA T) (hf : f < 8) (ho : vp_in (T (192 + 30 * f + 1)) 12) : ∀ i, i ≤ 10 → MOkA (mSC T f i) ∧ ∀ w, w < 10 → mSC T f i (192 + 30 * f + w) = T (192 + 30 * f + w)
  | 0, _ => ⟨h, fun _ _ => rfl⟩
  | i + 1, hi => by
    obtain ⟨h1, h2⟩ := mSC_ok h hf ho i (by omega)
    have ho1 : vp_in (mSC T f i (192 + 30 * f + 1)) 12 := by rw [h2 1 (by decide)]; exact ho
    rw [mSC]
    refine ⟨MOkA_pl h1 hf (by omega) ho1, fun w hw => ?_⟩
    rw [mPlN_hi (by omega) ho1 (by omega), if_neg (by omega), if_neg (by omega), h2 w hw]
theorem ix_433 {i : Nat} (hi : i < 6) : ix (433 + nI i) (433 + i) 439 := by
  rw [show (433 : Int32) + nI i = nI (433 + i) from nI_add 433 i]; exact ix_nI (by omega) (by decide)
theorem mSC_fr {T : Nat → Int32} {f i : Nat} (h : ∀ w, w < 10 → mSC T f i (192 + 30 * f + w) = T (192 + 30 * f + w)) : mFr (mSC T f i) f = mFr T f := by
  rw [mFr, mFr, h 2 (by decide), h 3 (by decide)]
theorem fsN_lt (F : Nat → Bool) : ∀ n i j, i ≤ j → j < fsN F i n → F j = true
  | 0, i, j, h1, h2 => by rw [fsN] at h2; omega
  | n + 1, i, j, h1, h2 => by
    rw [fsN] at h2
    by_cases e : F i = true
    · rw [if_pos e] at h2
      rcases Nat.lt_or_eq_of_le h1 with h3 | h3
      · exact fsN_lt F n (i + 1) j h3 h2
      · rw [← h3]; exact e
    · rw [if_neg e] at h2; omega
theorem fsN_at (F : Nat → Bool) : ∀ n i, fsN F i n < i + n → F (fsN F i n) = false
  | 0, i, h => by rw [fsN] at h; omega
  | n + 1, i, h => by
    rw [fsN] at h ⊢
    by_cases e : F i = true
    · rw [if_pos e] at h ⊢
      exact fsN_at F n (i + 1) (by omega)
    · rw [if_neg e]; exact Bool.eq_false_iff.mpr e
theorem cntB_all (F : Nat → Bool) : ∀ n, (∀ j, j < n → F j = true) → cntB F n = n
  | 0, _ => rfl
  | n + 1, h => by rw [cntB_t (f := F) (n := n) (h n (by omega)), cntB_all F n (fun j hj => h j (by omega))]
def mLf (N : Nat → Int32) : Nat := fsN (fun f => mFi N (nI f)) 0 8
theorem mLf_lt {N : Nat → Int32} (h : ¬ mFs N = 8) : mLf N < 8 := by
  rcases Nat.lt_or_ge (mLf N) 8 with h1 | h1
  · exact h1
  · exact absurd (show mFs N = 8 by rw [mFs, cntB_all _ 8 (fun j hj => fsN_lt (fun f => mFi N (nI f)) 8 0 j (Nat.zero_le _) (Nat.lt_of_lt_of_le hj h1))]; rfl) h

set_option maxRecDepth 100000 in
set_option maxHeartbeats 4000000 in
theorem lqX7_storeA (l : Launch) (g : XG) (T A Z B L : Nat → Int32) (u o r : Int32) (f : Nat) (Q0 : Option Value → XW → Prop) (hf : f < 8) (hk : XA l g MX7_store Q0 174 ([some (.ref 0), some (.int o), some (.int r), some (.int (nI f)), some (.int (nI 10))]) [] (wM (mSA T f 10) A Z B u L) 0 0) : XA l g MX7_store Q0 131 ((fun i => [some (.ref 0), some (.int o), some (.int r), some (.int (nI f)), some (.int (nI i))]) 0) ((fun _ => []) 0) ((fun i => wM (mSA T f i) A Z B u L) 0) 0 0 := by
  refine x_for 10 (fun _ => True) (fun i => [some (.ref 0), some (.int o), some (.int r), some (.int (nI f)), some (.int (nI i))]) (fun _ => []) (fun i => wM (mSA T f i) A Z B u L) trivial (fun i hi hp ih => ?_) (fun hp => ?_)
  · refine x_iload dX7_store_131 rfl ?_
    refine x_bipush (v := 10) dX7_store_133 (by decide) ?_
    refine x_icmp_ge_f (tgt := 174) dX7_store_135 (by decide) (nI_nle_of rfl (by decide) hi) ?_
    refine x_aload_n dX7_store_138 rfl ?_
    refine x_getf dX7_store_139 flX7_7 rfl rfl ?_
    refine x_iload_n dX7_store_142 rfl ?_
    refine x_bipush (v := 10) dX7_store_143 (by decide) ?_
    refine x_iload dX7_store_145 rfl ?_
    refine x_iadd dX7_store_147 ?_
    refine x_callp [] (x_iS dX7_store_148 mlX7_33 lbX7_at rfl) (kX7_at l g _ _) (by decide) rfl rfl (by decide) (by decide) (by simp [Value.category]) rfl rfl (by decide +kernel) ?_
    refine x_iconst (v := -1) dX7_store_151 (by decide) ?_
    refine x_iaw dX7_store_152 rfl (show ix (192 + 30 * nI f + (10 + nI i)) (192 + 30 * f + (10 + i)) 439 from by rw [ad10]; exact ix_at hf (by omega)) ?_
    refine x_aload_n dX7_store_153 rfl ?_
    refine x_getf dX7_store_154 flX7_7 rfl rfl ?_
    refine x_iload_n dX7_store_157 rfl ?_
    refine x_bipush (v := 20) dX7_store_158 (by decide) ?_
    refine x_iload dX7_store_160 rfl ?_
    refine x_iadd dX7_store_162 ?_
    refine x_callp [] (x_iS dX7_store_163 mlX7_33 lbX7_at rfl) (kX7_at l g _ _) (by decide) rfl rfl (by decide) (by decide) (by simp [Value.category]) rfl rfl (by decide +kernel) ?_
    refine x_iconst (v := 0) dX7_store_166 (by decide) ?_
    refine x_iaw dX7_store_167 rfl (show ix (192 + 30 * nI f + (20 + nI i)) (192 + 30 * f + (20 + i)) 439 from by rw [ad20]; exact ix_at hf (by omega)) ?_
    first | refine x_iinc dX7_store_168 (by decide) rfl (nI_inc _) ?_ | refine x_iinc dX7_store_168 (by decide) rfl (inc_1 _) ?_
    refine x_goto (tgt := 131) dX7_store_171 (by decide) ?_
    exact x_eq (ih trivial) rfl rfl rfl
  · refine x_iload dX7_store_131 rfl ?_
    refine x_bipush (v := 10) dX7_store_133 (by decide) ?_
    refine x_icmp_ge_t (tgt := 174) dX7_store_135 (by decide) (nI_le_of rfl (by decide) (Nat.le_refl _)) ?_
    exact hk

set_option maxRecDepth 100000 in
set_option maxHeartbeats 4000000 in
theorem lqX7_storeC (l : Launch) (g : XG) (T A Z B L : Nat → Int32) (u o r : Int32) (f : Nat) (Q0 : Option Value → XW → Prop) (hf : f < 8) (hM : MOkA T) (ho : vp_in (T (192 + 30 * f + 1)) 12) (hk : XA l g MX7_store Q0 280 ([some (.ref 0), some (.int o), some (.int r), some (.int (nI f)), some (.int (nI (cl (mFr T f))))]) [] (wM (mSC T f (cl (mFr T f))) A Z B u L) 0 0) : XA l g MX7_store Q0 255 ((fun i => [some (.ref 0), some (.int o), some (.int r), some (.int (nI f)), some (.int (nI i))]) 0) ((fun _ => []) 0) ((fun i => wM (mSC T f i) A Z B u L) 0) 0 0 := by
  refine x_for (cl (mFr T f)) (fun _ => True) (fun i => [some (.ref 0), some (.int o), some (.int r), some (.int (nI f)), some (.int (nI i))]) (fun _ => []) (fun i => wM (mSC T f i) A Z B u L) trivial (fun i hi hp ih => ?_) (fun hp => ?_)
  · have hfr10 : cl (mFr T f) ≤ 10 := (hM.1 f hf).1
    obtain ⟨hMi, hhd⟩ := mSC_ok hM hf ho i (by omega)
    have efr := mSC_fr hhd
    refine x_iload dX7_store_255 rfl ?_
    refine x_aload_n dX7_store_257 rfl ?_
    refine x_iload_n dX7_store_258 rfl ?_
    refine x_callp [0, 1, 2, 3, 4, 5] (x_iV dX7_store_259 mlX7_47 lbX7_fragments rfl rfl rfl rfl) (kX7_fragments l g _ _ _ _ _ _ f hf) (by decide) rfl rfl (by decide) (by decide) (by simp [Value.category]) rfl rfl (by decide +kernel) ?_
    refine x_icmp_ge_f (tgt := 280) dX7_store_262 (by decide) (by rw [efr]; exact nge_cl hi) ?_
    refine x_aload_n dX7_store_265 rfl ?_
    refine x_iload_n dX7_store_266 rfl ?_
    refine x_iload dX7_store_267 rfl ?_
    refine x_iconst (v := -1) dX7_store_269 (by decide) ?_
    refine x_calli [0, 1, 2, 3, 4, 5] (x_iV dX7_store_270 mlX7_83 lbX7_places rfl rfl rfl rfl) (kX7_places l g _ _ _ _ _ _ f i (-1) hf (by omega) hMi.1 (by rw [hhd 1 (by decide)]; exact ho)) (by decide) rfl rfl (by decide) (by decide) (by simp [Value.category]) rfl rfl (by decide +kernel) (fun v1 w1 h1 => ?_)
    obtain ⟨rfl, rfl⟩ := h1
    refine x_eq (w' := wM _ A Z B u L) ?_ rfl rfl rfl
    refine x_pop dX7_store_273 rfl ?_
    first | refine x_iinc dX7_store_274 (by decide) rfl (nI_inc _) ?_ | refine x_iinc dX7_store_274 (by decide) rfl (inc_1 _) ?_
    refine x_goto (tgt := 255) dX7_store_277 (by decide) ?_
    exact x_eq (ih trivial) rfl rfl rfl
  · have hfr10 : cl (mFr T f) ≤ 10 := (hM.1 f hf).1
    obtain ⟨hMi, hhd⟩ := mSC_ok hM hf ho _ hfr10
    have efr := mSC_fr hhd
    refine x_iload dX7_store_255 rfl ?_
    refine x_aload_n dX7_store_257 rfl ?_
    refine x_iload_n dX7_store_258 rfl ?_
    refine x_callp [0, 1, 2, 3, 4, 5] (x_iV dX7_store_259 mlX7_47 lbX7_fragments rfl rfl rfl rfl) (kX7_fragments l g _ _ _ _ _ _ f hf) (by decide) rfl rfl (by decide) (by decide) (by simp [Value.category]) rfl rfl (by decide +kernel) ?_
    refine x_icmp_ge_t (tgt := 280) dX7_store_262 (by decide) (by rw [efr]; exact ge_cl) ?_
    exact hk

set_option maxRecDepth 100000 in
set_option maxHeartbeats 4000000 in
theorem lqX7_storeB (l : Launch) (g : XG) (T A Z B L : Nat → Int32) (u o r : Int32) (f : Nat) (Q0 : Option Value → XW → Prop) (hf : f < 8) (hk : XA l g MX7_store Q0 243 ([some (.ref 0), some (.int o), some (.int r), some (.int (nI f)), some (.int (nI 6))]) [] (wM (mSB T f 6) A Z B u L) 0 0) : XA l g MX7_store Q0 177 ((fun i => [some (.ref 0), some (.int o), some (.int r), some (.int (nI f)), some (.int (nI i))]) 0) ((fun _ => []) 0) ((fun i => wM (mSB T f i) A Z B u L) 0) 0 0 := by
  refine x_for 6 (fun _ => True) (fun i => [some (.ref 0), some (.int o), some (.int r), some (.int (nI f)), some (.int (nI i))]) (fun _ => []) (fun i => wM (mSB T f i) A Z B u L) trivial (fun i hi hp ih => ?_) (fun hp => ?_)
  · refine x_iload dX7_store_177 rfl ?_
    refine x_bipush (v := 6) dX7_store_179 (by decide) ?_
    refine x_icmp_ge_f (tgt := 243) dX7_store_181 (by decide) (nI_nle_of rfl (by decide) hi) ?_
    refine x_aload_n dX7_store_184 rfl ?_
    refine x_getf dX7_store_185 flX7_7 rfl rfl ?_
    refine x_iload_n dX7_store_188 rfl ?_
    refine x_iconst (v := 4) dX7_store_189 (by decide) ?_
    refine x_iload dX7_store_190 rfl ?_
    refine x_iadd dX7_store_192 ?_
    refine x_callp [] (x_iS dX7_store_193 mlX7_33 lbX7_at rfl) (kX7_at l g _ _) (by decide) rfl rfl (by decide) (by decide) (by simp [Value.category]) rfl rfl (by decide +kernel) ?_
    refine x_iload dX7_store_196 rfl ?_
    refine x_aload_n dX7_store_198 rfl ?_
    refine x_getf dX7_store_199 flX7_7 rfl rfl ?_
    refine x_sipush (v := 432) dX7_store_202 (by decide) ?_
    refine x_iar dX7_store_205 rfl (ixl (k := 432) (by decide) (by decide) (by decide)) ?_
    refine x_icmp_ge (tgt := 223) dX7_store_206 (by decide) (fun c_206 => ?_) (fun c_206 => ?_)
    · refine x_iconst (v := 0) dX7_store_223 (by decide) ?_
      refine x_iaw dX7_store_224 rfl (show ix (192 + 30 * nI f + (4 + nI i)) (192 + 30 * f + (4 + i)) 439 from by rw [ad4]; exact ix_at hf (by omega)) ?_
      refine x_aload_n dX7_store_225 rfl ?_
      refine x_getf dX7_store_226 flX7_7 rfl rfl ?_
      refine x_sipush (v := 433) dX7_store_229 (by decide) ?_
      refine x_iload dX7_store_232 rfl ?_
      refine x_iadd dX7_store_234 ?_
      refine x_iconst (v := 0) dX7_store_235 (by decide) ?_
      refine x_iaw dX7_store_236 rfl (ix_433 hi) ?_
      first | refine x_iinc dX7_store_237 (by decide) rfl (nI_inc _) ?_ | refine x_iinc dX7_store_237 (by decide) rfl (inc_1 _) ?_
      refine x_goto (tgt := 177) dX7_store_240 (by decide) ?_
      refine x_eq (ih trivial) rfl rfl ?_
      rw [mSB]; simp [c_206] <;> rfl
    · refine x_aload_n dX7_store_209 rfl ?_
      refine x_getf dX7_store_210 flX7_7 rfl rfl ?_
      refine x_sipush (v := 433) dX7_store_213 (by decide) ?_
      refine x_iload dX7_store_216 rfl ?_
      refine x_iadd dX7_store_218 ?_
      refine x_iar dX7_store_219 rfl (ix_433 hi) ?_
      refine x_goto (tgt := 224) dX7_store_220 (by decide) ?_
      refine x_iaw dX7_store_224 rfl (show ix (192 + 30 * nI f + (4 + nI i)) (192 + 30 * f + (4 + i)) 439 from by rw [ad4]; exact ix_at hf (by omega)) ?_
      refine x_aload_n dX7_store_225 rfl ?_
      refine x_getf dX7_store_226 flX7_7 rfl rfl ?_
      refine x_sipush (v := 433) dX7_store_229 (by decide) ?_
      refine x_iload dX7_store_232 rfl ?_
      refine x_iadd dX7_store_234 ?_
      refine x_iconst (v := 0) dX7_store_235 (by decide) ?_
      refine x_iaw dX7_store_236 rfl (ix_433 hi) ?_
      first | refine x_iinc dX7_store_237 (by decide) rfl (nI_inc _) ?_ | refine x_iinc dX7_store_237 (by decide) rfl (inc_1 _) ?_
      refine x_goto (tgt := 177) dX7_store_240 (by decide) ?_
      refine x_eq (ih trivial) rfl rfl ?_
      rw [mSB]; simp [c_206] <;> rfl
  · refine x_iload dX7_store_177 rfl ?_
    refine x_bipush (v := 6) dX7_store_179 (by decide) ?_
    refine x_icmp_ge_t (tgt := 243) dX7_store_181 (by decide) (nI_le_of rfl (by decide) (Nat.le_refl _)) ?_
    exact hk

set_option maxRecDepth 100000 in
set_option maxHeartbeats 4000000 in
theorem lqX7_storeF (l : Launch) (g : XG) (N A Z B : Nat → Int32) (u : Int32) (L : Nat → Int32) (o r : Int32) (Q0 : Option Value → XW → Prop) (hlt : mLf N < 8) (hk : XA l g MX7_store Q0 77 ([some (.ref 0), some (.int o), some (.int r), some (.int (nI (mLf N))), none]) [] (wM N A Z B u L) 0 0) : XA l g MX7_store Q0 63 ((fun i => [some (.ref 0), some (.int o), some (.int r), some (.int (nI i)), none]) 0) ((fun _ => []) 0) ((fun _ => wM N A Z B u L) 0) 0 0 := by
  refine x_for (mLf N) (fun _ => True) (fun i => [some (.ref 0), some (.int o), some (.int r), some (.int (nI i)), none]) (fun _ => []) (fun _ => wM N A Z B u L) trivial (fun i hi hp ih => ?_) (fun hp => ?_)
  · refine x_aload_n dX7_store_63 rfl ?_
    refine x_iload_n dX7_store_64 rfl ?_
    refine x_callp [0, 1, 2, 3, 4, 5] (x_iV dX7_store_65 mlX7_43 lbX7_isFile rfl rfl rfl rfl) (kX7_isFile l g _ _ _ _ _ _ _) (by decide) rfl rfl (by decide) (by decide) (by simp [Value.category]) rfl rfl (by decide +kernel) ?_
    refine x_if_eq_f (tgt := 77) dX7_store_68 (by decide) (by rw [fsN_lt (fun f => mFi N (nI f)) 8 0 i (Nat.zero_le _) hi]; decide) ?_
    first | refine x_iinc dX7_store_71 (by decide) rfl (nI_inc _) ?_ | refine x_iinc dX7_store_71 (by decide) rfl (inc_1 _) ?_
    refine x_goto (tgt := 63) dX7_store_74 (by decide) ?_
    exact x_eq (ih trivial) rfl rfl rfl
  · refine x_aload_n dX7_store_63 rfl ?_
    refine x_iload_n dX7_store_64 rfl ?_
    refine x_callp [0, 1, 2, 3, 4, 5] (x_iV dX7_store_65 mlX7_43 lbX7_isFile rfl rfl rfl rfl) (kX7_isFile l g _ _ _ _ _ _ _) (by decide) rfl rfl (by decide) (by decide) (by simp [Value.category]) rfl rfl (by decide +kernel) ?_
    refine x_if_eq_t (tgt := 77) dX7_store_68 (by decide) (by rw [show mFi N (nI (mLf N)) = false from fsN_at (fun f => mFi N (nI f)) 8 0 hlt]; rfl) ?_
    exact hk
