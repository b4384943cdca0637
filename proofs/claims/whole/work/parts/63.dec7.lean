/-! ===== the reference: decode, its rows ===== -/
set_option maxRecDepth 100000 in
set_option maxHeartbeats 4000000 in
theorem lrX7_decode (l : Launch) (g : XG) (N A Z B : Nat → Int32) (u : Int32) (T : Nat → Nat) (f k i0 r : Nat) (s x m ls : Int32) (Q0 : Option Value → XW → Prop) (hi0 : i0 < 10) (hk : k ≤ 6) (hr : r < 6) (hk2 : XA l g MX7_decode Q0 260 ([some (.ref 0), some (.int (nI f)), some (.int s), some (.int x), some (.int (nI k)), some (.int (m)), some (.int (ls)), some (.int (nI (r))), some (.int (nI (i0))), some (.int (nI (6)))]) [] (wM N A Z B u (nf (flL T r k i0 6))) 0 0) : XA l g MX7_decode Q0 189 ((fun i => [some (.ref 0), some (.int (nI f)), some (.int s), some (.int x), some (.int (nI k)), some (.int (m)), some (.int (ls)), some (.int (nI (r))), some (.int (nI (i0))), some (.int (nI (i)))]) 0) ((fun _ => []) 0) ((fun i => wM N A Z B u (nf (flL T r k i0 i))) 0) 0 0 := by
  refine x_for 6 (fun _ => True) (fun i => [some (.ref 0), some (.int (nI f)), some (.int s), some (.int x), some (.int (nI k)), some (.int (m)), some (.int (ls)), some (.int (nI (r))), some (.int (nI (i0))), some (.int (nI (i)))]) (fun _ => []) (fun i => wM N A Z B u (nf (flL T r k i0 i))) trivial (fun i hi hp ih => ?_) (fun hp => ?_)
  · refine x_iload dX7_decode_189 rfl ?_
    refine x_bipush (v := 6) dX7_decode_191 (by decide) ?_
    refine x_icmp_ge_f (tgt := 260) dX7_decode_193 (by decide) (nI_nle_of rfl (by decide) hi) ?_
    refine x_aload_n dX7_decode_196 rfl ?_
    refine x_getf dX7_decode_197 flX7_22 rfl rfl ?_
    refine x_bipush (v := 7) dX7_decode_200 (by decide) ?_
    refine x_iload dX7_decode_202 rfl ?_
    refine x_imul dX7_decode_204 ?_
    refine x_iload dX7_decode_205 rfl ?_
    refine x_iadd dX7_decode_207 ?_
    refine x_iload dX7_decode_208 rfl ?_
    refine x_iload dX7_decode_210 rfl ?_
    refine x_icmp_lt (tgt := 219) dX7_decode_212 (by decide) (fun c_212 => ?_) (fun c_212 => ?_)
    · refine x_iload dX7_decode_219 rfl ?_
      refine x_iload dX7_decode_221 rfl ?_
      refine x_icmp_lt (tgt := 241) dX7_decode_223 (by decide) (fun c_223 => ?_) (fun c_223 => ?_)
      · refine x_iload dX7_decode_241 rfl ?_
        refine x_iload dX7_decode_243 rfl ?_
        refine x_icmp_ne (tgt := 252) dX7_decode_245 (by decide) (fun c_245 => ?_) (fun c_245 => ?_)
        · refine x_iconst (v := 0) dX7_decode_252 (by decide) ?_
          refine x_iaw dX7_decode_253 rfl (i7x (by omega)) ?_
          first | refine x_iinc dX7_decode_254 (by decide) rfl (nI_inc _) ?_ | refine x_iinc dX7_decode_254 (by decide) rfl (inc_1 _) ?_
          refine x_goto (tgt := 189) dX7_decode_257 (by decide) ?_
          have hv : (0 : Int32) = nI (fcL k i0 i) := by rw [fcL, if_pos ((nI_ltc (by omega) (by omega)).mp c_212), facN, if_pos ((nI_ltc (by omega) (by omega)).mp c_223), if_neg (fun z => c_245 (by rw [z]))]; rfl
          refine x_eq (ih trivial) rfl rfl ?_
          exact (congrArg (fun vv => List.set (wM N A Z B u (nf T)) 5 (Sum.inl (row 42 (upd (nf (flL T r k i0 i)) (7 * r + i) vv)))) hv).trans (congrArg (fun zz => List.set (wM N A Z B u (nf T)) 5 (Sum.inl zz)) (flL_s T r k i0 i))
        · refine x_iconst (v := 1) dX7_decode_248 (by decide) ?_
          refine x_goto (tgt := 253) dX7_decode_249 (by decide) ?_
          refine x_iaw dX7_decode_253 rfl (i7x (by omega)) ?_
          first | refine x_iinc dX7_decode_254 (by decide) rfl (nI_inc _) ?_ | refine x_iinc dX7_decode_254 (by decide) rfl (inc_1 _) ?_
          refine x_goto (tgt := 189) dX7_decode_257 (by decide) ?_
          have hv : (1 : Int32) = nI (fcL k i0 i) := by rw [fcL, if_pos ((nI_ltc (by omega) (by omega)).mp c_212), facN, if_pos ((nI_ltc (by omega) (by omega)).mp c_223), if_pos (nI_inj' c_245 (by omega) (by omega))]; rfl
          refine x_eq (ih trivial) rfl rfl ?_
          exact (congrArg (fun vv => List.set (wM N A Z B u (nf T)) 5 (Sum.inl (row 42 (upd (nf (flL T r k i0 i)) (7 * r + i) vv)))) hv).trans (congrArg (fun zz => List.set (wM N A Z B u (nf T)) 5 (Sum.inl zz)) (flL_s T r k i0 i))
      · refine x_iload dX7_decode_226 rfl ?_
        refine x_iconst (v := 1) dX7_decode_228 (by decide) ?_
        refine x_iadd dX7_decode_229 ?_
        rw [nI_1]
        refine x_iload dX7_decode_230 rfl ?_
        refine x_iload dX7_decode_232 rfl ?_
        refine x_isub dX7_decode_234 ?_
        rw [pk_sub (Nat.not_lt.mp fun z => c_223 ((nI_ltc (by omega) (by omega)).mpr z))]
        refine x_callp [] (x_iS dX7_decode_235 mlX7_61 lbX7_power rfl) (kX7_power l g (i + 1) (i0 - k) (by omega) (by omega)) (by decide) rfl rfl (by decide) (by decide) (by simp [Value.category]) rfl rfl (by decide +kernel) ?_
        refine x_goto (tgt := 253) dX7_decode_238 (by decide) ?_
        refine x_iaw dX7_decode_253 rfl (i7x (by omega)) ?_
        first | refine x_iinc dX7_decode_254 (by decide) rfl (nI_inc _) ?_ | refine x_iinc dX7_decode_254 (by decide) rfl (inc_1 _) ?_
        refine x_goto (tgt := 189) dX7_decode_257 (by decide) ?_
        have hv : nI ((i + 1) ^ (i0 - k) % 257) = nI (fcL k i0 i) := by rw [fcL, if_pos ((nI_ltc (by omega) (by omega)).mp c_212), facN, if_neg (fun z => c_223 ((nI_ltc (by omega) (by omega)).mpr z))]
        refine x_eq (ih trivial) rfl rfl ?_
        exact (congrArg (fun vv => List.set (wM N A Z B u (nf T)) 5 (Sum.inl (row 42 (upd (nf (flL T r k i0 i)) (7 * r + i) vv)))) hv).trans (congrArg (fun zz => List.set (wM N A Z B u (nf T)) 5 (Sum.inl zz)) (flL_s T r k i0 i))
    · refine x_iconst (v := 0) dX7_decode_215 (by decide) ?_
      refine x_goto (tgt := 253) dX7_decode_216 (by decide) ?_
      refine x_iaw dX7_decode_253 rfl (i7x (by omega)) ?_
      first | refine x_iinc dX7_decode_254 (by decide) rfl (nI_inc _) ?_ | refine x_iinc dX7_decode_254 (by decide) rfl (inc_1 _) ?_
      refine x_goto (tgt := 189) dX7_decode_257 (by decide) ?_
      have hv : (0 : Int32) = nI (fcL k i0 i) := by rw [fcL, if_neg (fun z => c_212 ((nI_ltc (by omega) (by omega)).mpr z))]; rfl
      refine x_eq (ih trivial) rfl rfl ?_
      exact (congrArg (fun vv => List.set (wM N A Z B u (nf T)) 5 (Sum.inl (row 42 (upd (nf (flL T r k i0 i)) (7 * r + i) vv)))) hv).trans (congrArg (fun zz => List.set (wM N A Z B u (nf T)) 5 (Sum.inl zz)) (flL_s T r k i0 i))
  · refine x_iload dX7_decode_189 rfl ?_
    refine x_bipush (v := 6) dX7_decode_191 (by decide) ?_
    refine x_icmp_ge_t (tgt := 260) dX7_decode_193 (by decide) (nI_le_of rfl (by decide) (Nat.le_refl _)) ?_
    exact hk2

set_option maxRecDepth 100000 in
set_option maxHeartbeats 4000000 in
theorem lsX7_decode (l : Launch) (g : XG) (N A Z B : Nat → Int32) (u : Int32) (c : Nat → Nat) (f k : Nat) (s x m ls : Int32) (Q0 : Option Value → XW → Prop) (hf : f < 8) (hk : k ≤ 6) (hM : MOk N) (hM3 : MOk3 N) (hcn : cntB (bitB s) (cl (mFr N f)) = k) (hk2 : XA l g MX7_decode Q0 289 ([some (.ref 0), some (.int (nI f)), some (.int s), some (.int x), some (.int (nI k)), some (.int (m)), some (.int (ls)), some (.int (nI (cntB (bitB s) (cl (mFr N f))))), some (.int (nI (cl (mFr N f)))), none]) [] (wM N A Z B u (nf (suL c (bitB s) (mVn N f) k (cl (mFr N f))))) 0 0) : XA l g MX7_decode Q0 166 ((fun i => [some (.ref 0), some (.int (nI f)), some (.int s), some (.int x), some (.int (nI k)), some (.int (m)), some (.int (ls)), some (.int (nI (cntB (bitB s) (i)))), some (.int (nI (i))), none]) 0) ((fun _ => []) 0) ((fun i => wM N A Z B u (nf (suL c (bitB s) (mVn N f) k (i)))) 0) 0 0 := by
  refine x_for (cl (mFr N f)) (fun _ => True) (fun i => [some (.ref 0), some (.int (nI f)), some (.int s), some (.int x), some (.int (nI k)), some (.int (m)), some (.int (ls)), some (.int (nI (cntB (bitB s) (i)))), some (.int (nI (i))), none]) (fun _ => []) (fun i => wM N A Z B u (nf (suL c (bitB s) (mVn N f) k (i)))) trivial (fun i hi hp ih => ?_) (fun hp => ?_)
  · have hi10 : i < 10 := by have h1 := (hM f hf).1; have h2 : i < cl (N (192 + 30 * f + 2) + N (192 + 30 * f + 3)) := hi; omega
    refine x_iload dX7_decode_166 rfl ?_
    refine x_aload_n dX7_decode_168 rfl ?_
    refine x_iload_n dX7_decode_169 rfl ?_
    refine x_callp [0, 1, 2, 3, 4, 5] (x_iV dX7_decode_170 mlX7_47 lbX7_fragments rfl rfl rfl rfl) (kX7_fragments l g _ _ _ _ _ _ f hf) (by decide) rfl rfl (by decide) (by decide) (by simp [Value.category]) rfl rfl (by decide +kernel) ?_
    refine x_icmp_ge_f (tgt := 289) dX7_decode_173 (by decide) (nge_cl hi) ?_
    refine x_iload_n dX7_decode_176 rfl ?_
    refine x_iload dX7_decode_177 rfl ?_
    refine x_ishr dX7_decode_179 ?_
    refine x_iconst (v := 1) dX7_decode_180 (by decide) ?_
    refine x_iand dX7_decode_181 ?_
    refine x_iconst (v := 1) dX7_decode_182 (by decide) ?_
    refine x_icmp_ne (tgt := 283) dX7_decode_183 (by decide) (fun c_183 => ?_) (fun c_183 => ?_)
    · first | refine x_iinc dX7_decode_283 (by decide) rfl (nI_inc _) ?_ | refine x_iinc dX7_decode_283 (by decide) rfl (inc_1 _) ?_
      refine x_goto (tgt := 166) dX7_decode_286 (by decide) ?_
      have hb : bitB s i = false := decide_eq_false c_183
      refine x_eq (x_le (lv' := [some (.ref 0), some (.int (nI f)), some (.int s), some (.int x), some (.int (nI k)), some (.int (m)), some (.int (ls)), some (.int (nI (cntB (bitB s) (i + 1)))), some (.int (nI (i + 1))), none]) (ih trivial) (lv := [some (.ref 0), some (.int (nI f)), some (.int s), some (.int x), some (.int (nI k)), some (.int (m)), some (.int (ls)), some (.int (nI (cntB (bitB s) (i + 1)))), some (.int (nI (i + 1))), none]) (by simp [lvle])) (by rw [show cntB (bitB s) (i + 1) = cntB (bitB s) (i) from cntB_f (f := bitB s) (n := i) hb] <;> rfl) rfl ?_
      rw [show suL c (bitB s) (mVn N f) k (i + 1) = suL c (bitB s) (mVn N f) k (i) by rw [suL, if_neg (by rw [hb]; decide)]]
    · refine x_iconst (v := 0) dX7_decode_186 (by decide) ?_
      refine x_istore dX7_decode_187 (by decide) ?_
      have hb : bitB s i = true := decide_eq_true c_183
      have hct : cntB (bitB s) (i + 1) = cntB (bitB s) (i) + 1 := cntB_t (f := bitB s) (n := i) hb
      have hsu : suL c (bitB s) (mVn N f) k (i + 1) = fiL (suL c (bitB s) (mVn N f) k (i)) (cntB (bitB s) (i)) k i (mVn N f i) := by rw [suL, if_pos hb]
      have hr6 : cntB (bitB s) (i) < k := by have h1 := cntB_mono (bitB s) (show i + 1 ≤ cl (mFr N f) from hi); omega
      refine x_eq (lv' := [some (.ref 0), some (.int (nI f)), some (.int s), some (.int x), some (.int (nI k)), some (.int (m)), some (.int (ls)), some (.int (nI (cntB (bitB s) (i)))), some (.int (nI (i))), some (.int (nI (0)))]) (st' := []) (w' := wM N A Z B u (nf (flL (suL c (bitB s) (mVn N f) k (i)) (cntB (bitB s) (i)) k i 0))) ?_ rfl rfl (by exact congrArg (fun zz => List.set (wM N A Z B u (nf c)) 5 (Sum.inl zz)) (flL_0 _ _ _ _))
      refine lrX7_decode l g N A Z B u (suL c (bitB s) (mVn N f) k (i)) f k i (cntB (bitB s) (i)) s x m ls _ hi10 hk (by omega) ?_
      refine x_aload_n dX7_decode_260 rfl ?_
      refine x_getf dX7_decode_261 flX7_22 rfl rfl ?_
      refine x_bipush (v := 7) dX7_decode_264 (by decide) ?_
      refine x_iload dX7_decode_266 rfl ?_
      refine x_imul dX7_decode_268 ?_
      refine x_bipush (v := 6) dX7_decode_269 (by decide) ?_
      refine x_iadd dX7_decode_271 ?_
      refine x_aload_n dX7_decode_272 rfl ?_
      refine x_iload_n dX7_decode_273 rfl ?_
      refine x_iload dX7_decode_274 rfl ?_
      refine x_callp [0, 1, 2, 3, 4, 5] (x_iV dX7_decode_276 mlX7_112 lbX7_valueOf rfl rfl rfl rfl) (kX7_valueOf l g _ _ _ _ _ _ f (cl (N (192 + 30 * f + 2))) i (cl (N (192 + 30 * f + (20 + i)))) (fun d => cl (N (192 + 30 * f + (4 + d)))) hf hi10 (hM3 f hf).1 ((hM3 f hf).2 i hi10).1 ((hM3 f hf).2 i hi10).2) (by decide) rfl rfl (by decide) (by decide) (by simp [Value.category]) rfl rfl (by decide +kernel) ?_
      refine x_iaw dX7_decode_279 rfl (show ix (7 * nI _ + nI 6) (7 * _ + 6) 42 from i7x (by omega)) ?_
      first | refine x_iinc dX7_decode_280 (by decide) rfl (nI_inc _) ?_ | refine x_iinc dX7_decode_280 (by decide) rfl (inc_1 _) ?_
      first | refine x_iinc dX7_decode_283 (by decide) rfl (nI_inc _) ?_ | refine x_iinc dX7_decode_283 (by decide) rfl (inc_1 _) ?_
      refine x_goto (tgt := 166) dX7_decode_286 (by decide) ?_
      refine x_eq (x_le (lv' := [some (.ref 0), some (.int (nI f)), some (.int s), some (.int x), some (.int (nI k)), some (.int (m)), some (.int (ls)), some (.int (nI (cntB (bitB s) (i + 1)))), some (.int (nI (i + 1))), none]) (ih trivial) (lv := [some (.ref 0), some (.int (nI f)), some (.int s), some (.int x), some (.int (nI k)), some (.int (m)), some (.int (ls)), some (.int (nI (cntB (bitB s) (i + 1)))), some (.int (nI (i + 1))), some (.int (nI (6)))]) (by simp [lvle])) (by rw [hct] <;> rfl) rfl ?_
      rw [hsu]
      exact congrArg (fun zz => List.set (wM N A Z B u (nf c)) 5 (Sum.inl zz)) (flL_e (suL c (bitB s) (mVn N f) k (i)) (cntB (bitB s) (i)) k i (mVn N f i))
  · refine x_iload dX7_decode_166 rfl ?_
    refine x_aload_n dX7_decode_168 rfl ?_
    refine x_iload_n dX7_decode_169 rfl ?_
    refine x_callp [0, 1, 2, 3, 4, 5] (x_iV dX7_decode_170 mlX7_47 lbX7_fragments rfl rfl rfl rfl) (kX7_fragments l g _ _ _ _ _ _ f hf) (by decide) rfl rfl (by decide) (by decide) (by simp [Value.category]) rfl rfl (by decide +kernel) ?_
    refine x_icmp_ge_t (tgt := 289) dX7_decode_173 (by decide) (ge_cl) ?_
    exact hk2

set_option maxRecDepth 100000 in
set_option maxHeartbeats 4000000 in
theorem kX7_decode (l : Launch) (g : XG) (N A Z B : Nat → Int32) (u : Int32) (c : Nat → Nat) (f k x : Nat) (s : Int32) (hf : f < 8) (hk : k ≤ 6) (hx : x < k) (hM : MOk N) (hM3 : MOk3 N) (hkN : N (192 + 30 * f + 2) = nI k) (hin : dcA N (nI f) s (nI x) = true) (hcn : cntB (bitB s) (cl (mFr N f)) = k) (hls : lsB N f s (cl (mFr N f)) = false) (hc : lt257 c) (hpv : ∀ i, i < k → pvC (slI (suL c (bitB s) (mVn N f) k (cl (mFr N f))) k i) k i < k) : Ct l g MX7_decode [.ref 0, .int (nI f), .int s, .int (nI x)] (wM N A Z B u (nf (c))) (Qi (fun v w1 => v = nI (slI (suL c (bitB s) (mVn N f) k (cl (mFr N f))) k k (7 * x + 6)) ∧ w1 = wM N A Z B u (nf (slI (suL c (bitB s) (mVn N f) k (cl (mFr N f))) k k)))) := by
  refine Ct_of (by decide) (by simp [Value.category]) (Nat.le_of_ble_eq_true rfl) ?_
  have hcf : cl (nI f) = f := cl_nI (by omega)
  have h3 : mFi N (nI f) = true ∧ rgB (nI x) 0 (N (192 + 30 * f + 2) - 1) = true ∧ rgB s 0 ((1 <<< (mFr N f &&& 31)) - 1) = true := by
    simp only [dcA, mIv, hcf, Bool.and_eq_true] at hin; exact ⟨hin.1.1, hin.1.2, hin.2⟩
  refine x_aload_n dX7_decode_0 rfl ?_
  refine x_iload_n dX7_decode_1 rfl ?_
  refine x_callp [0, 1, 2, 3, 4, 5] (x_iV dX7_decode_2 mlX7_43 lbX7_isFile rfl rfl rfl rfl) (kX7_isFile l g _ _ _ _ _ _ _) (by decide) rfl rfl (by decide) (by decide) (by simp [Value.category]) rfl rfl (by decide +kernel) ?_
  refine x_if_eq_f (tgt := 41) dX7_decode_5 (by decide) (by rw [h3.1]; decide) ?_
  refine x_iload_n dX7_decode_8 rfl ?_
  refine x_iconst (v := 0) dX7_decode_9 (by decide) ?_
  refine x_aload_n dX7_decode_10 rfl ?_
  refine x_iload_n dX7_decode_11 rfl ?_
  refine x_iconst (v := 2) dX7_decode_12 (by decide) ?_
  refine x_callp [0, 1, 2, 3, 4, 5] (x_iV dX7_decode_13 mlX7_29 lbX7_of rfl rfl rfl rfl) (kX7_of l g _ _ _ _ _ _ f 2 hf (by omega)) (by decide) rfl rfl (by decide) (by decide) (by simp [Value.category]) rfl rfl (by decide +kernel) ?_
  refine x_iconst (v := 1) dX7_decode_16 (by decide) ?_
  refine x_isub dX7_decode_17 ?_
  refine x_callp [] (x_iS dX7_decode_18 mlX7_25 lbX7_in rfl) (kX7_in l g _ _ _) (by decide) rfl rfl (by decide) (by decide) (by simp [Value.category]) rfl rfl (by decide +kernel) ?_
  refine x_if_eq_f (tgt := 41) dX7_decode_21 (by decide) (by rw [h3.2.1]; decide) ?_
  refine x_iload_n dX7_decode_24 rfl ?_
  refine x_iconst (v := 0) dX7_decode_25 (by decide) ?_
  refine x_iconst (v := 1) dX7_decode_26 (by decide) ?_
  refine x_aload_n dX7_decode_27 rfl ?_
  refine x_iload_n dX7_decode_28 rfl ?_
  refine x_callp [0, 1, 2, 3, 4, 5] (x_iV dX7_decode_29 mlX7_47 lbX7_fragments rfl rfl rfl rfl) (kX7_fragments l g _ _ _ _ _ _ f hf) (by decide) rfl rfl (by decide) (by decide) (by simp [Value.category]) rfl rfl (by decide +kernel) ?_
  refine x_ishl dX7_decode_32 ?_
  refine x_iconst (v := 1) dX7_decode_33 (by decide) ?_
  refine x_isub dX7_decode_34 ?_
  refine x_callp [] (x_iS dX7_decode_35 mlX7_25 lbX7_in rfl) (kX7_in l g _ _ _) (by decide) rfl rfl (by decide) (by decide) (by simp [Value.category]) rfl rfl (by decide +kernel) ?_
  refine x_if_ne_t (tgt := 45) dX7_decode_38 (by decide) (by rw [h3.2.2]; decide) ?_
  refine x_aload_n dX7_decode_45 rfl ?_
  refine x_iload_n dX7_decode_46 rfl ?_
  refine x_iconst (v := 2) dX7_decode_47 (by decide) ?_
  refine x_callp [0, 1, 2, 3, 4, 5] (x_iV dX7_decode_48 mlX7_29 lbX7_of rfl rfl rfl rfl) (kX7_of l g _ _ _ _ _ _ f 2 hf (by omega)) (by decide) rfl rfl (by decide) (by decide) (by simp [Value.category]) rfl rfl (by decide +kernel) ?_
  refine x_istore dX7_decode_51 (by decide) ?_
  refine x_iconst (v := 0) dX7_decode_53 (by decide) ?_
  refine x_istore dX7_decode_54 (by decide) ?_
  refine x_iconst (v := 0) dX7_decode_56 (by decide) ?_
  refine x_istore dX7_decode_57 (by decide) ?_
  refine x_iconst (v := 0) dX7_decode_59 (by decide) ?_
  refine x_istore dX7_decode_60 (by decide) ?_
  refine x_eq (lv' := [some (.ref 0), some (.int (nI f)), some (.int s), some (.int (nI x)), some (.int (N (192 + 30 * f + 2))), some (.int (nI (cntB (bitB s) (0)))), some (.int (b2i (lsB N f s (0)))), some (.int (nI (0))), none, none]) ?_ rfl rfl rfl
  refine lqX7_decode l g N A Z B u (nf c) f s (nI x) _ hf hM ?_
  refine x_iload dX7_decode_140 rfl ?_
  refine x_iload dX7_decode_142 rfl ?_
  refine x_icmp_eq_t (tgt := 151) dX7_decode_144 (by decide) (by rw [hcn, hkN]) ?_
  refine x_iload dX7_decode_151 rfl ?_
  refine x_if_eq_t (tgt := 160) dX7_decode_153 (by decide) (by rw [hls]; rfl) ?_
  refine x_iconst (v := 0) dX7_decode_160 (by decide) ?_
  refine x_istore dX7_decode_161 (by decide) ?_
  refine x_iconst (v := 0) dX7_decode_163 (by decide) ?_
  refine x_istore dX7_decode_164 (by decide) ?_
  refine x_eq (lv' := [some (.ref 0), some (.int (nI f)), some (.int s), some (.int (nI x)), some (.int (nI k)), some (.int (nI k)), some (.int (0)), some (.int (nI (0))), some (.int (nI (0))), none]) (st' := []) (w' := wM N A Z B u (nf (c))) ?_ (by rw [hcn, hls, hkN] <;> rfl) rfl rfl
  refine lsX7_decode l g N A Z B u c f k s (nI x) (nI k) 0 _ hf hk hM hM3 hcn ?_
  refine x_aload_n dX7_decode_289 rfl ?_
  refine x_iload dX7_decode_290 rfl ?_
  refine x_callv [0, 1, 2, 3, 4, 5] (x_iV dX7_decode_292 mlX7_115 lbX7_solves rfl rfl rfl rfl) (kX7_solves l g N A Z B u (suL c (bitB s) (mVn N f) k (cl (mFr N f))) k hk (lt_suL hc (fun i => Nat.mod_lt _ (by decide)) k _) hpv) (by decide) (by decide) (by decide) (by simp [Value.category]) rfl rfl (by decide +kernel) (fun w1 h1 => ?_)
  obtain rfl := h1
  refine x_eq (w' := wM N A Z B u (nf (slI (suL c (bitB s) (mVn N f) k (cl (mFr N f))) k k))) ?_ rfl rfl rfl
  refine x_aload_n dX7_decode_295 rfl ?_
  refine x_getf dX7_decode_296 flX7_22 rfl rfl ?_
  refine x_bipush (v := 7) dX7_decode_299 (by decide) ?_
  refine x_iload_n dX7_decode_301 rfl ?_
  refine x_imul dX7_decode_302 ?_
  refine x_bipush (v := 6) dX7_decode_303 (by decide) ?_
  refine x_iadd dX7_decode_305 ?_
  refine x_iar dX7_decode_306 rfl (show ix (7 * nI x + nI 6) (7 * x + 6) 42 from i7x (by omega)) ?_
  exact x_reti dX7_decode_307 rfl rfl rfl (⟨_, rfl, rfl, rfl⟩)

set_option maxRecDepth 100000 in
set_option maxHeartbeats 4000000 in
theorem kX7_decode_no (l : Launch) (g : XG) (N A Z B : Nat → Int32) (u : Int32) (L : Nat → Int32) (f s x : Int32) (hM : MOk N) (hno : (dcA N f s x && dcC N f s && !lsB N (cl f) s (cl (mFr N (cl f)))) = false) : Ct l g MX7_decode [.ref 0, .int f, .int s, .int x] (wM N A Z B u L) (Qp (if dcA N f s x && dcC N f s then -10004 else -10001) (wM N A Z B u L)) := by
  refine Ct_of (by decide) (by simp [Value.category]) (Nat.le_of_ble_eq_true rfl) ?_
  refine x_aload_n dX7_decode_0 rfl ?_
  refine x_iload_n dX7_decode_1 rfl ?_
  refine x_callp [0, 1, 2, 3, 4, 5] (x_iV dX7_decode_2 mlX7_43 lbX7_isFile rfl rfl rfl rfl) (kX7_isFile l g _ _ _ _ _ _ _) (by decide) rfl rfl (by decide) (by decide) (by simp [Value.category]) rfl rfl (by decide +kernel) ?_
  refine x_if_eq (tgt := 41) dX7_decode_5 (by decide) (fun c_5 => ?_) (fun c_5 => ?_)
  · refine x_sipush (v := -10001) dX7_decode_41 (by decide) ?_
    exact x_reti dX7_decode_44 rfl rfl rfl (⟨by (try simp only [b2i_eq0, b2i_ne0] at *); simp [dcA, dcC, mIv, *], rfl⟩)
  · obtain ⟨f, hf, rfl⟩ := mFi_ex (b2i_t' c_5)
    have hcf : cl (nI f) = f := cl_nI (by omega)
    refine x_iload_n dX7_decode_8 rfl ?_
    refine x_iconst (v := 0) dX7_decode_9 (by decide) ?_
    refine x_aload_n dX7_decode_10 rfl ?_
    refine x_iload_n dX7_decode_11 rfl ?_
    refine x_iconst (v := 2) dX7_decode_12 (by decide) ?_
    refine x_callp [0, 1, 2, 3, 4, 5] (x_iV dX7_decode_13 mlX7_29 lbX7_of rfl rfl rfl rfl) (kX7_of l g _ _ _ _ _ _ f 2 hf (by omega)) (by decide) rfl rfl (by decide) (by decide) (by simp [Value.category]) rfl rfl (by decide +kernel) ?_
    refine x_iconst (v := 1) dX7_decode_16 (by decide) ?_
    refine x_isub dX7_decode_17 ?_
    refine x_callp [] (x_iS dX7_decode_18 mlX7_25 lbX7_in rfl) (kX7_in l g _ _ _) (by decide) rfl rfl (by decide) (by decide) (by simp [Value.category]) rfl rfl (by decide +kernel) ?_
    refine x_if_eq (tgt := 41) dX7_decode_21 (by decide) (fun c_21 => ?_) (fun c_21 => ?_)
    · refine x_sipush (v := -10001) dX7_decode_41 (by decide) ?_
      exact x_reti dX7_decode_44 rfl rfl rfl (⟨by (try simp only [b2i_eq0, b2i_ne0] at *); simp [dcA, dcC, mIv, *], rfl⟩)
    · refine x_iload_n dX7_decode_24 rfl ?_
      refine x_iconst (v := 0) dX7_decode_25 (by decide) ?_
      refine x_iconst (v := 1) dX7_decode_26 (by decide) ?_
      refine x_aload_n dX7_decode_27 rfl ?_
      refine x_iload_n dX7_decode_28 rfl ?_
      refine x_callp [0, 1, 2, 3, 4, 5] (x_iV dX7_decode_29 mlX7_47 lbX7_fragments rfl rfl rfl rfl) (kX7_fragments l g _ _ _ _ _ _ f hf) (by decide) rfl rfl (by decide) (by decide) (by simp [Value.category]) rfl rfl (by decide +kernel) ?_
      refine x_ishl dX7_decode_32 ?_
      refine x_iconst (v := 1) dX7_decode_33 (by decide) ?_
      refine x_isub dX7_decode_34 ?_
      refine x_callp [] (x_iS dX7_decode_35 mlX7_25 lbX7_in rfl) (kX7_in l g _ _ _) (by decide) rfl rfl (by decide) (by decide) (by simp [Value.category]) rfl rfl (by decide +kernel) ?_
      refine x_if_ne (tgt := 45) dX7_decode_38 (by decide) (fun c_38 => ?_) (fun c_38 => ?_)
      · refine x_aload_n dX7_decode_45 rfl ?_
        refine x_iload_n dX7_decode_46 rfl ?_
        refine x_iconst (v := 2) dX7_decode_47 (by decide) ?_
        refine x_callp [0, 1, 2, 3, 4, 5] (x_iV dX7_decode_48 mlX7_29 lbX7_of rfl rfl rfl rfl) (kX7_of l g _ _ _ _ _ _ f 2 hf (by omega)) (by decide) rfl rfl (by decide) (by decide) (by simp [Value.category]) rfl rfl (by decide +kernel) ?_
        refine x_istore dX7_decode_51 (by decide) ?_
        refine x_iconst (v := 0) dX7_decode_53 (by decide) ?_
        refine x_istore dX7_decode_54 (by decide) ?_
        refine x_iconst (v := 0) dX7_decode_56 (by decide) ?_
        refine x_istore dX7_decode_57 (by decide) ?_
        refine x_iconst (v := 0) dX7_decode_59 (by decide) ?_
        refine x_istore dX7_decode_60 (by decide) ?_
        refine x_eq (lv' := [some (.ref 0), some (.int (nI f)), some (.int s), some (.int x), some (.int (N (192 + 30 * f + 2))), some (.int (nI (cntB (bitB s) (0)))), some (.int (b2i (lsB N f s (0)))), some (.int (nI (0))), none, none]) ?_ rfl rfl rfl
        refine lqX7_decode l g N A Z B u L f s x _ hf hM ?_
        refine x_iload dX7_decode_140 rfl ?_
        refine x_iload dX7_decode_142 rfl ?_
        refine x_icmp_eq (tgt := 151) dX7_decode_144 (by decide) (fun c_144 => ?_) (fun c_144 => ?_)
        · refine x_iload dX7_decode_151 rfl ?_
          refine x_if_eq (tgt := 160) dX7_decode_153 (by decide) (fun c_153 => ?_) (fun c_153 => ?_)
          · exact absurd hno (by (try simp only [b2i_eq0, b2i_ne0] at *); simp [dcA, dcC, mIv, *])
          · refine x_sipush (v := -10004) dX7_decode_156 (by decide) ?_
            exact x_reti dX7_decode_159 rfl rfl rfl (⟨by (try simp only [b2i_eq0, b2i_ne0] at *); simp [dcA, dcC, mIv, *], rfl⟩)
        · refine x_sipush (v := -10001) dX7_decode_147 (by decide) ?_
          exact x_reti dX7_decode_150 rfl rfl rfl (⟨by (try simp only [b2i_eq0, b2i_ne0] at *); simp [dcA, dcC, mIv, *], rfl⟩)
      · refine x_sipush (v := -10001) dX7_decode_41 (by decide) ?_
        exact x_reti dX7_decode_44 rfl rfl rfl (⟨by (try simp only [b2i_eq0, b2i_ne0] at *); simp [dcA, dcC, mIv, *], rfl⟩)
