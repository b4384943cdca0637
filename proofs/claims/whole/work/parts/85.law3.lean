/-! ===== the law: each of its calls ===== -/
def Inv (w : XW) : Prop := ∃ (S : MS) (G : Nat → MS) (r n : Nat) (E : Nat → Int32) (en : Int32) (c : Nat → Nat) (cs : Int32) (P T : MS) (N A Z B : Nat → Int32) (c2 : Nat → Nat), w = wN S (tX G r n E en (nf c) cs P T) ++ wMx N A Z B (nI n) (nf c2) ∧ RR S N ∧ HH G r n B ∧ r < 5 ∧ n ≤ 5 ∧ lt257 c ∧ lt257 c2
theorem wC_f {b : Bool} {S' S : MS} {G : Nat → MS} {r n : Nat} {E : Nat → Int32} {en : Int32} {C : Nat → Int32} {cs : Int32} {P T : MS} (h : b = false) : wC b S' S G r n E en C cs P T = wN S (tX G r n E en C cs P T) := by rw [wC, h]; rfl
theorem wC_t {b : Bool} {S' S : MS} {G : Nat → MS} {r n : Nat} {E : Nat → Int32} {en : Int32} {C : Nat → Int32} {cs : Int32} {P T : MS} (h : b = true) : wC b S' S G r n E en C cs P T = wN S' (tX (recG G r n S) (recR r n) (recN n) E en C cs P T) := by rw [wC, h]; rfl
theorem mC_f {b : Bool} {N' N A Z B L : Nat → Int32} {n : Nat} (h : b = false) : mC b N' N A Z B L n = wM N A Z B (nI n) L := by rw [mC, h]; rfl
theorem mC_t {b : Bool} {N' N A Z B L : Nat → Int32} {n : Nat} (h : b = true) : mC b N' N A Z B L n = wM N' A Z (mKB B N n) (nI (recN n)) L := by rw [mC, h]; rfl
theorem wN_both (S : MS) (G : Nat → MS) (r n : Nat) (E : Nat → Int32) (en : Int32) (C : Nat → Int32) (cs : Int32) (P T : MS) : (wN S (tX G r n E en C cs P T)).length = 127 ∧ xwok (wN S (tX G r n E en C cs P T)) := ⟨wN_len _ _ _ _ _ _ _ _ _ _, wN_ok _ _ _ _ _ _ _ _ _ _⟩
theorem wC_both (b : Bool) (S' S : MS) (G : Nat → MS) (r n : Nat) (E : Nat → Int32) (en : Int32) (C : Nat → Int32) (cs : Int32) (P T : MS) : (wC b S' S G r n E en C cs P T).length = 127 ∧ xwok (wC b S' S G r n E en C cs P T) := by
  cases b with
  | false => rw [wC_f rfl]; exact wN_both _ _ _ _ _ _ _ _ _ _
  | true => rw [wC_t rfl]; exact wN_both _ _ _ _ _ _ _ _ _ _

set_option maxRecDepth 100000 in
set_option maxHeartbeats 4000000 in
theorem yc_join {l : Launch} {g : XG} {b L : Nat} {xs : Nat → Int32} {kc ks j : Nat} (hc : kc ≤ 600000) (hs : ks ≤ 7302250) (hj : j + 3 < L) (hL : L < 2 ^ 31) {w : XW} (hI : Inv w) (hk : ∀ w, Inv w → YL l g b L xs 836 [(3, .int (nI j)), (1, .ref 0), (2, .ref 127)] [] w kc ks) : YL l g b L xs 144 [(3, .int (nI j)), (1, .ref 0), (2, .ref 127)] [] w kc ks := by
  obtain ⟨S, G, r, n, E, en, c, cs, P, T, N, A, Z, B, c2, rfl, hR, hH, hr, hn, hc7, hd7⟩ := hI
  refine y_aload_n 1 dL_law_144 rfl ?_
  refine y_sld 0 (a := 1) rfl rfl (by omega) hL dL_law_145 dL_law_146 dL_law_147 dL_law_148 dL_law_149 ?_
  refine y_callS (x_iV dL_law_150 mlL_13 lbX6_join rfl rfl rfl rfl) (kX6_join l g S G r n E en (nf c) cs P T (xs (j + 1)) hr hn) (by decide) rfl rfl hc hs (by simp [Value.category]) (wN_len _ _ _ _ _ _ _ _ _ _) (wN_ok _ _ _ _ _ _ _ _ _ _) (by simp [xok]) rfl (fun v w1 h1 => by obtain ⟨-, rfl⟩ := h1; exact wC_both _ _ _ _ _ _ _ _ _ _ _ _) (fun v1 w1 h1 => ?_)
  obtain ⟨rfl, rfl⟩ := h1
  obtain ⟨q1, q2, q3⟩ := q_jo hR (xs (j + 1))
  cases hok : okJoin S (xs (j + 1)) with
  | false =>
    rw [wC_f rfl]
    refine y_aload_n 2 dL_law_153 rfl ?_
    refine y_sld 0 (a := 1) rfl rfl (by omega) hL dL_law_154 dL_law_155 dL_law_156 dL_law_157 dL_law_158 ?_
    refine y_callM (wN_len _ _ _ _ _ _ _ _ _ _) (x_iV dL_law_159 mlL_17 lbX7_join rfl rfl rfl rfl) (kX7_join l g N A Z B (nf c2) n (xs (j + 1)) hn) (by decide) rfl rfl hc hs (by simp [Value.category]) rfl (fun v2 w2 h2 => ?_)
    obtain ⟨rfl, rfl⟩ := h2
    refine ⟨N, A, Z, B, nI n, nf c2, mC_f (q2.trans hok), ?_⟩
    refine y_icmp_eq_t (tgt := 836) dL_law_162 (by decide) (q1.symm) ?_
    exact hk _ ⟨S, G, r, n, E, en, c, cs, P, T, N, A, Z, B, c2, rfl, hR, hH, hr, hn, hc7, hd7⟩
  | true =>
    rw [wC_t rfl]
    refine y_aload_n 2 dL_law_153 rfl ?_
    refine y_sld 0 (a := 1) rfl rfl (by omega) hL dL_law_154 dL_law_155 dL_law_156 dL_law_157 dL_law_158 ?_
    refine y_callM (wN_len _ _ _ _ _ _ _ _ _ _) (x_iV dL_law_159 mlL_17 lbX7_join rfl rfl rfl rfl) (kX7_join l g N A Z B (nf c2) n (xs (j + 1)) hn) (by decide) rfl rfl hc hs (by simp [Value.category]) rfl (fun v2 w2 h2 => ?_)
    obtain ⟨rfl, rfl⟩ := h2
    refine ⟨mJoN N (mLp N) (xs (j + 1)), A, Z, mKB B N n, nI (recN n), nf c2, mC_t (q2.trans hok), ?_⟩
    refine y_icmp_eq_t (tgt := 836) dL_law_162 (by decide) (q1.symm) ?_
    obtain ⟨g1, g2, g3⟩ := HH_rec hR hH hr hn
    exact hk _ ⟨sAdd S (luP S) (xs (j + 1)), recG G r n S, recR r n, recN n, E, en, c, cs, P, T, mJoN N (mLp N) (xs (j + 1)), A, Z, mKB B N n, c2, rfl, q3 hok, g1, g2, g3, hc7, hd7⟩

set_option maxRecDepth 100000 in
set_option maxHeartbeats 4000000 in
theorem yc_leave {l : Launch} {g : XG} {b L : Nat} {xs : Nat → Int32} {kc ks j : Nat} (hc : kc ≤ 600000) (hs : ks ≤ 7302250) (hj : j + 3 < L) (hL : L < 2 ^ 31) {w : XW} (hI : Inv w) (hk : ∀ w, Inv w → YL l g b L xs 836 [(3, .int (nI j)), (1, .ref 0), (2, .ref 127)] [] w kc ks) : YL l g b L xs 167 [(3, .int (nI j)), (1, .ref 0), (2, .ref 127)] [] w kc ks := by
  obtain ⟨S, G, r, n, E, en, c, cs, P, T, N, A, Z, B, c2, rfl, hR, hH, hr, hn, hc7, hd7⟩ := hI
  refine y_aload_n 1 dL_law_167 rfl ?_
  refine y_sld 0 (a := 1) rfl rfl (by omega) hL dL_law_168 dL_law_169 dL_law_170 dL_law_171 dL_law_172 ?_
  refine y_callS (x_iV dL_law_173 mlL_18 lbX6_leave rfl rfl rfl rfl) (kX6_leave l g S G r n E en (nf c) cs P T (xs (j + 1)) hr hn) (by decide) rfl rfl hc hs (by simp [Value.category]) (wN_len _ _ _ _ _ _ _ _ _ _) (wN_ok _ _ _ _ _ _ _ _ _ _) (by simp [xok]) rfl (fun v w1 h1 => by obtain ⟨-, rfl⟩ := h1; exact wC_both _ _ _ _ _ _ _ _ _ _ _ _) (fun v1 w1 h1 => ?_)
  obtain ⟨rfl, rfl⟩ := h1
  obtain ⟨q1, q2, q3⟩ := q_lv hR (xs (j + 1))
  cases hok : okLeave S (xs (j + 1)) with
  | false =>
    rw [wC_f rfl]
    refine y_aload_n 2 dL_law_176 rfl ?_
    refine y_sld 0 (a := 1) rfl rfl (by omega) hL dL_law_177 dL_law_178 dL_law_179 dL_law_180 dL_law_181 ?_
    refine y_callM (wN_len _ _ _ _ _ _ _ _ _ _) (x_iV dL_law_182 mlL_21 lbX7_leave rfl rfl rfl rfl) (kX7_leave l g N A Z B (nf c2) n (xs (j + 1)) hn (r_okA hR)) (by decide) rfl rfl hc hs (by simp [Value.category]) rfl (fun v2 w2 h2 => ?_)
    obtain ⟨rfl, rfl⟩ := h2
    refine ⟨N, A, Z, B, nI n, nf c2, mC_f (q2.trans hok), ?_⟩
    refine y_icmp_eq_t (tgt := 836) dL_law_185 (by decide) (q1.symm) ?_
    exact hk _ ⟨S, G, r, n, E, en, c, cs, P, T, N, A, Z, B, c2, rfl, hR, hH, hr, hn, hc7, hd7⟩
  | true =>
    rw [wC_t rfl]
    refine y_aload_n 2 dL_law_176 rfl ?_
    refine y_sld 0 (a := 1) rfl rfl (by omega) hL dL_law_177 dL_law_178 dL_law_179 dL_law_180 dL_law_181 ?_
    refine y_callM (wN_len _ _ _ _ _ _ _ _ _ _) (x_iV dL_law_182 mlL_21 lbX7_leave rfl rfl rfl rfl) (kX7_leave l g N A Z B (nf c2) n (xs (j + 1)) hn (r_okA hR)) (by decide) rfl rfl hc hs (by simp [Value.category]) rfl (fun v2 w2 h2 => ?_)
    obtain ⟨rfl, rfl⟩ := h2
    refine ⟨mLvN N (cl (xs (j + 1))), A, Z, mKB B N n, nI (recN n), nf c2, mC_t (q2.trans hok), ?_⟩
    refine y_icmp_eq_t (tgt := 836) dL_law_185 (by decide) (q1.symm) ?_
    obtain ⟨g1, g2, g3⟩ := HH_rec hR hH hr hn
    exact hk _ ⟨sLeave S (xs (j + 1)), recG G r n S, recR r n, recN n, E, en, c, cs, P, T, mLvN N (cl (xs (j + 1))), A, Z, mKB B N n, c2, rfl, q3 hok, g1, g2, g3, hc7, hd7⟩

set_option maxRecDepth 100000 in
set_option maxHeartbeats 4000000 in
theorem yc_crash {l : Launch} {g : XG} {b L : Nat} {xs : Nat → Int32} {kc ks j : Nat} (hc : kc ≤ 600000) (hs : ks ≤ 7302250) (hj : j + 3 < L) (hL : L < 2 ^ 31) {w : XW} (hI : Inv w) (hk : ∀ w, Inv w → YL l g b L xs 836 [(3, .int (nI j)), (1, .ref 0), (2, .ref 127)] [] w kc ks) : YL l g b L xs 190 [(3, .int (nI j)), (1, .ref 0), (2, .ref 127)] [] w kc ks := by
  obtain ⟨S, G, r, n, E, en, c, cs, P, T, N, A, Z, B, c2, rfl, hR, hH, hr, hn, hc7, hd7⟩ := hI
  refine y_aload_n 1 dL_law_190 rfl ?_
  refine y_sld 0 (a := 1) rfl rfl (by omega) hL dL_law_191 dL_law_192 dL_law_193 dL_law_194 dL_law_195 ?_
  refine y_callS (x_iV dL_law_196 mlL_22 lbX6_crash rfl rfl rfl rfl) (kX6_crash l g S G r n E en (nf c) cs P T (xs (j + 1)) hr hn) (by decide) rfl rfl hc hs (by simp [Value.category]) (wN_len _ _ _ _ _ _ _ _ _ _) (wN_ok _ _ _ _ _ _ _ _ _ _) (by simp [xok]) rfl (fun v w1 h1 => by obtain ⟨-, rfl⟩ := h1; exact wC_both _ _ _ _ _ _ _ _ _ _ _ _) (fun v1 w1 h1 => ?_)
  obtain ⟨rfl, rfl⟩ := h1
  obtain ⟨q1, q2, q3⟩ := q_cr hR (xs (j + 1))
  cases hok : exB S (xs (j + 1)) with
  | false =>
    rw [wC_f rfl]
    refine y_aload_n 2 dL_law_199 rfl ?_
    refine y_sld 0 (a := 1) rfl rfl (by omega) hL dL_law_200 dL_law_201 dL_law_202 dL_law_203 dL_law_204 ?_
    refine y_callM (wN_len _ _ _ _ _ _ _ _ _ _) (x_iV dL_law_205 mlL_25 lbX7_crash rfl rfl rfl rfl) (kX7_crash l g N A Z B (nf c2) n (xs (j + 1)) hn (r_okA hR)) (by decide) rfl rfl hc hs (by simp [Value.category]) rfl (fun v2 w2 h2 => ?_)
    obtain ⟨rfl, rfl⟩ := h2
    refine ⟨N, A, Z, B, nI n, nf c2, mC_f (q2.trans hok), ?_⟩
    refine y_icmp_eq_t (tgt := 836) dL_law_208 (by decide) (q1.symm) ?_
    exact hk _ ⟨S, G, r, n, E, en, c, cs, P, T, N, A, Z, B, c2, rfl, hR, hH, hr, hn, hc7, hd7⟩
  | true =>
    rw [wC_t rfl]
    refine y_aload_n 2 dL_law_199 rfl ?_
    refine y_sld 0 (a := 1) rfl rfl (by omega) hL dL_law_200 dL_law_201 dL_law_202 dL_law_203 dL_law_204 ?_
    refine y_callM (wN_len _ _ _ _ _ _ _ _ _ _) (x_iV dL_law_205 mlL_25 lbX7_crash rfl rfl rfl rfl) (kX7_crash l g N A Z B (nf c2) n (xs (j + 1)) hn (r_okA hR)) (by decide) rfl rfl hc hs (by simp [Value.category]) rfl (fun v2 w2 h2 => ?_)
    obtain ⟨rfl, rfl⟩ := h2
    refine ⟨mCrN N (cl (xs (j + 1))), A, Z, mKB B N n, nI (recN n), nf c2, mC_t (q2.trans hok), ?_⟩
    refine y_icmp_eq_t (tgt := 836) dL_law_208 (by decide) (q1.symm) ?_
    obtain ⟨g1, g2, g3⟩ := HH_rec hR hH hr hn
    exact hk _ ⟨sCrash S (xs (j + 1)), recG G r n S, recR r n, recN n, E, en, c, cs, P, T, mCrN N (cl (xs (j + 1))), A, Z, mKB B N n, c2, rfl, q3 hok, g1, g2, g3, hc7, hd7⟩

set_option maxRecDepth 100000 in
set_option maxHeartbeats 4000000 in
theorem yc_setOnline {l : Launch} {g : XG} {b L : Nat} {xs : Nat → Int32} {kc ks j : Nat} (hc : kc ≤ 600000) (hs : ks ≤ 7302250) (hj : j + 3 < L) (hL : L < 2 ^ 31) {w : XW} (hI : Inv w) (hk : ∀ w, Inv w → YL l g b L xs 836 [(3, .int (nI j)), (1, .ref 0), (2, .ref 127)] [] w kc ks) : YL l g b L xs 213 [(3, .int (nI j)), (1, .ref 0), (2, .ref 127)] [] w kc ks := by
  obtain ⟨S, G, r, n, E, en, c, cs, P, T, N, A, Z, B, c2, rfl, hR, hH, hr, hn, hc7, hd7⟩ := hI
  refine y_aload_n 1 dL_law_213 rfl ?_
  refine y_sld 0 (a := 1) rfl rfl (by omega) hL dL_law_214 dL_law_215 dL_law_216 dL_law_217 dL_law_218 ?_
  refine y_sld 0 (a := 2) rfl rfl (by omega) hL dL_law_219 dL_law_220 dL_law_221 dL_law_222 dL_law_223 ?_
  refine y_callS (x_iV dL_law_224 mlL_26 lbX6_setOnline rfl rfl rfl rfl) (kX6_setOnline l g S G r n E en (nf c) cs P T (xs (j + 1)) (xs (j + 2)) hr hn) (by decide) rfl rfl hc hs (by simp [Value.category]) (wN_len _ _ _ _ _ _ _ _ _ _) (wN_ok _ _ _ _ _ _ _ _ _ _) (by simp [xok]) rfl (fun v w1 h1 => by obtain ⟨-, rfl⟩ := h1; exact wC_both _ _ _ _ _ _ _ _ _ _ _ _) (fun v1 w1 h1 => ?_)
  obtain ⟨rfl, rfl⟩ := h1
  obtain ⟨q1, q2, q3⟩ := q_on hR (xs (j + 1)) (xs (j + 2))
  cases hok : okOnl S (xs (j + 1)) (xs (j + 2)) with
  | false =>
    rw [wC_f rfl]
    refine y_aload_n 2 dL_law_227 rfl ?_
    refine y_sld 0 (a := 1) rfl rfl (by omega) hL dL_law_228 dL_law_229 dL_law_230 dL_law_231 dL_law_232 ?_
    refine y_sld 0 (a := 2) rfl rfl (by omega) hL dL_law_233 dL_law_234 dL_law_235 dL_law_236 dL_law_237 ?_
    refine y_callM (wN_len _ _ _ _ _ _ _ _ _ _) (x_iV dL_law_238 mlL_30 lbX7_setOnline rfl rfl rfl rfl) (kX7_setOnline l g N A Z B (nf c2) n (xs (j + 1)) (xs (j + 2)) hn) (by decide) rfl rfl hc hs (by simp [Value.category]) rfl (fun v2 w2 h2 => ?_)
    obtain ⟨rfl, rfl⟩ := h2
    refine ⟨N, A, Z, B, nI n, nf c2, mC_f (q2.trans hok), ?_⟩
    refine y_icmp_eq_t (tgt := 836) dL_law_241 (by decide) (q1.symm) ?_
    exact hk _ ⟨S, G, r, n, E, en, c, cs, P, T, N, A, Z, B, c2, rfl, hR, hH, hr, hn, hc7, hd7⟩
  | true =>
    rw [wC_t rfl]
    refine y_aload_n 2 dL_law_227 rfl ?_
    refine y_sld 0 (a := 1) rfl rfl (by omega) hL dL_law_228 dL_law_229 dL_law_230 dL_law_231 dL_law_232 ?_
    refine y_sld 0 (a := 2) rfl rfl (by omega) hL dL_law_233 dL_law_234 dL_law_235 dL_law_236 dL_law_237 ?_
    refine y_callM (wN_len _ _ _ _ _ _ _ _ _ _) (x_iV dL_law_238 mlL_30 lbX7_setOnline rfl rfl rfl rfl) (kX7_setOnline l g N A Z B (nf c2) n (xs (j + 1)) (xs (j + 2)) hn) (by decide) rfl rfl hc hs (by simp [Value.category]) rfl (fun v2 w2 h2 => ?_)
    obtain ⟨rfl, rfl⟩ := h2
    refine ⟨upd N (4 * cl (xs (j + 1)) + 2) (xs (j + 2)), A, Z, mKB B N n, nI (recN n), nf c2, mC_t (q2.trans hok), ?_⟩
    refine y_icmp_eq_t (tgt := 836) dL_law_241 (by decide) (q1.symm) ?_
    obtain ⟨g1, g2, g3⟩ := HH_rec hR hH hr hn
    exact hk _ ⟨us S 1 (cl (xs (j + 1))) (xs (j + 2)), recG G r n S, recR r n, recN n, E, en, c, cs, P, T, upd N (4 * cl (xs (j + 1)) + 2) (xs (j + 2)), A, Z, mKB B N n, c2, rfl, q3 hok, g1, g2, g3, hc7, hd7⟩

set_option maxRecDepth 100000 in
set_option maxHeartbeats 4000000 in
theorem yc_pay {l : Launch} {g : XG} {b L : Nat} {xs : Nat → Int32} {kc ks j : Nat} (hc : kc ≤ 600000) (hs : ks ≤ 7302250) (hj : j + 3 < L) (hL : L < 2 ^ 31) {w : XW} (hI : Inv w) (hk : ∀ w, Inv w → YL l g b L xs 836 [(3, .int (nI j)), (1, .ref 0), (2, .ref 127)] [] w kc ks) : YL l g b L xs 246 [(3, .int (nI j)), (1, .ref 0), (2, .ref 127)] [] w kc ks := by
  obtain ⟨S, G, r, n, E, en, c, cs, P, T, N, A, Z, B, c2, rfl, hR, hH, hr, hn, hc7, hd7⟩ := hI
  refine y_aload_n 1 dL_law_246 rfl ?_
  refine y_sld 0 (a := 1) rfl rfl (by omega) hL dL_law_247 dL_law_248 dL_law_249 dL_law_250 dL_law_251 ?_
  refine y_sld 0 (a := 2) rfl rfl (by omega) hL dL_law_252 dL_law_253 dL_law_254 dL_law_255 dL_law_256 ?_
  refine y_sld 0 (a := 3) rfl rfl (by omega) hL dL_law_257 dL_law_258 dL_law_259 dL_law_260 dL_law_261 ?_
  refine y_callS (x_iV dL_law_262 mlL_31 lbX6_pay rfl rfl rfl rfl) (kX6_pay l g S G r n E en (nf c) cs P T (xs (j + 1)) (xs (j + 2)) (xs (j + 3)) hr hn) (by decide) rfl rfl hc hs (by simp [Value.category]) (wN_len _ _ _ _ _ _ _ _ _ _) (wN_ok _ _ _ _ _ _ _ _ _ _) (by simp [xok]) rfl (fun v w1 h1 => by obtain ⟨-, rfl⟩ := h1; exact wC_both _ _ _ _ _ _ _ _ _ _ _ _) (fun v1 w1 h1 => ?_)
  obtain ⟨rfl, rfl⟩ := h1
  obtain ⟨q1, q2, q3⟩ := q_pa hR (xs (j + 1)) (xs (j + 2)) (xs (j + 3))
  cases hok : okPay S (xs (j + 1)) (xs (j + 2)) (xs (j + 3)) with
  | false =>
    rw [wC_f rfl]
    refine y_aload_n 2 dL_law_265 rfl ?_
    refine y_sld 0 (a := 1) rfl rfl (by omega) hL dL_law_266 dL_law_267 dL_law_268 dL_law_269 dL_law_270 ?_
    refine y_sld 0 (a := 2) rfl rfl (by omega) hL dL_law_271 dL_law_272 dL_law_273 dL_law_274 dL_law_275 ?_
    refine y_sld 0 (a := 3) rfl rfl (by omega) hL dL_law_276 dL_law_277 dL_law_278 dL_law_279 dL_law_280 ?_
    refine y_callM (wN_len _ _ _ _ _ _ _ _ _ _) (x_iV dL_law_281 mlL_35 lbX7_pay rfl rfl rfl rfl) (kX7_pay l g N A Z B (nf c2) n (xs (j + 1)) (xs (j + 2)) (xs (j + 3)) hn) (by decide) rfl rfl hc hs (by simp [Value.category]) rfl (fun v2 w2 h2 => ?_)
    obtain ⟨rfl, rfl⟩ := h2
    refine ⟨N, A, Z, B, nI n, nf c2, mC_f (q2.trans hok), ?_⟩
    refine y_icmp_eq_t (tgt := 836) dL_law_284 (by decide) (q1.symm) ?_
    exact hk _ ⟨S, G, r, n, E, en, c, cs, P, T, N, A, Z, B, c2, rfl, hR, hH, hr, hn, hc7, hd7⟩
  | true =>
    rw [wC_t rfl]
    refine y_aload_n 2 dL_law_265 rfl ?_
    refine y_sld 0 (a := 1) rfl rfl (by omega) hL dL_law_266 dL_law_267 dL_law_268 dL_law_269 dL_law_270 ?_
    refine y_sld 0 (a := 2) rfl rfl (by omega) hL dL_law_271 dL_law_272 dL_law_273 dL_law_274 dL_law_275 ?_
    refine y_sld 0 (a := 3) rfl rfl (by omega) hL dL_law_276 dL_law_277 dL_law_278 dL_law_279 dL_law_280 ?_
    refine y_callM (wN_len _ _ _ _ _ _ _ _ _ _) (x_iV dL_law_281 mlL_35 lbX7_pay rfl rfl rfl rfl) (kX7_pay l g N A Z B (nf c2) n (xs (j + 1)) (xs (j + 2)) (xs (j + 3)) hn) (by decide) rfl rfl hc hs (by simp [Value.category]) rfl (fun v2 w2 h2 => ?_)
    obtain ⟨rfl, rfl⟩ := h2
    refine ⟨mOwe N (xs (j + 1)) (xs (j + 2)) (-(xs (j + 3))), A, Z, mKB B N n, nI (recN n), nf c2, mC_t (q2.trans hok), ?_⟩
    refine y_icmp_eq_t (tgt := 836) dL_law_284 (by decide) (q1.symm) ?_
    obtain ⟨g1, g2, g3⟩ := HH_rec hR hH hr hn
    exact hk _ ⟨sOwe S (xs (j + 1)) (xs (j + 2)) (-(xs (j + 3))), recG G r n S, recR r n, recN n, E, en, c, cs, P, T, mOwe N (xs (j + 1)) (xs (j + 2)) (-(xs (j + 3))), A, Z, mKB B N n, c2, rfl, q3 hok, g1, g2, g3, hc7, hd7⟩

set_option maxRecDepth 100000 in
set_option maxHeartbeats 4000000 in
theorem yc_delete {l : Launch} {g : XG} {b L : Nat} {xs : Nat → Int32} {kc ks j : Nat} (hc : kc ≤ 600000) (hs : ks ≤ 7302250) (hj : j + 3 < L) (hL : L < 2 ^ 31) {w : XW} (hI : Inv w) (hk : ∀ w, Inv w → YL l g b L xs 836 [(3, .int (nI j)), (1, .ref 0), (2, .ref 127)] [] w kc ks) : YL l g b L xs 411 [(3, .int (nI j)), (1, .ref 0), (2, .ref 127)] [] w kc ks := by
  obtain ⟨S, G, r, n, E, en, c, cs, P, T, N, A, Z, B, c2, rfl, hR, hH, hr, hn, hc7, hd7⟩ := hI
  refine y_aload_n 1 dL_law_411 rfl ?_
  refine y_sld 0 (a := 1) rfl rfl (by omega) hL dL_law_412 dL_law_413 dL_law_414 dL_law_415 dL_law_416 ?_
  refine y_callS (x_iV dL_law_417 mlL_52 lbX6_delete rfl rfl rfl rfl) (kX6_delete l g S G r n E en (nf c) cs P T (xs (j + 1)) hr hn) (by decide) rfl rfl hc hs (by simp [Value.category]) (wN_len _ _ _ _ _ _ _ _ _ _) (wN_ok _ _ _ _ _ _ _ _ _ _) (by simp [xok]) rfl (fun v w1 h1 => by obtain ⟨-, rfl⟩ := h1; exact wC_both _ _ _ _ _ _ _ _ _ _ _ _) (fun v1 w1 h1 => ?_)
  obtain ⟨rfl, rfl⟩ := h1
  obtain ⟨q1, q2, q3⟩ := q_del hR (xs (j + 1))
  cases hok : exF S (xs (j + 1)) with
  | false =>
    rw [wC_f rfl]
    refine y_aload_n 2 dL_law_420 rfl ?_
    refine y_sld 0 (a := 1) rfl rfl (by omega) hL dL_law_421 dL_law_422 dL_law_423 dL_law_424 dL_law_425 ?_
    refine y_callM (wN_len _ _ _ _ _ _ _ _ _ _) (x_iV dL_law_426 mlL_55 lbX7_delete rfl rfl rfl rfl) (kX7_delete l g N A Z B (nf c2) n (xs (j + 1)) hn) (by decide) rfl rfl hc hs (by simp [Value.category]) rfl (fun v2 w2 h2 => ?_)
    obtain ⟨rfl, rfl⟩ := h2
    refine ⟨N, A, Z, B, nI n, nf c2, mC_f (q2.trans hok), ?_⟩
    refine y_icmp_eq_t (tgt := 836) dL_law_429 (by decide) (q1.symm) ?_
    exact hk _ ⟨S, G, r, n, E, en, c, cs, P, T, N, A, Z, B, c2, rfl, hR, hH, hr, hn, hc7, hd7⟩
  | true =>
    rw [wC_t rfl]
    refine y_aload_n 2 dL_law_420 rfl ?_
    refine y_sld 0 (a := 1) rfl rfl (by omega) hL dL_law_421 dL_law_422 dL_law_423 dL_law_424 dL_law_425 ?_
    refine y_callM (wN_len _ _ _ _ _ _ _ _ _ _) (x_iV dL_law_426 mlL_55 lbX7_delete rfl rfl rfl rfl) (kX7_delete l g N A Z B (nf c2) n (xs (j + 1)) hn) (by decide) rfl rfl hc hs (by simp [Value.category]) rfl (fun v2 w2 h2 => ?_)
    obtain ⟨rfl, rfl⟩ := h2
    refine ⟨mDe N (cl (xs (j + 1))), A, Z, mKB B N n, nI (recN n), nf c2, mC_t (q2.trans hok), ?_⟩
    refine y_icmp_eq_t (tgt := 836) dL_law_429 (by decide) (q1.symm) ?_
    obtain ⟨g1, g2, g3⟩ := HH_rec hR hH hr hn
    exact hk _ ⟨sDel S (xs (j + 1)), recG G r n S, recR r n, recN n, E, en, c, cs, P, T, mDe N (cl (xs (j + 1))), A, Z, mKB B N n, c2, rfl, q3 hok, g1, g2, g3, hc7, hd7⟩

set_option maxRecDepth 100000 in
set_option maxHeartbeats 4000000 in
theorem yc_spoil {l : Launch} {g : XG} {b L : Nat} {xs : Nat → Int32} {kc ks j : Nat} (hc : kc ≤ 600000) (hs : ks ≤ 7302250) (hj : j + 3 < L) (hL : L < 2 ^ 31) {w : XW} (hI : Inv w) (hk : ∀ w, Inv w → YL l g b L xs 836 [(3, .int (nI j)), (1, .ref 0), (2, .ref 127)] [] w kc ks) : YL l g b L xs 586 [(3, .int (nI j)), (1, .ref 0), (2, .ref 127)] [] w kc ks := by
  obtain ⟨S, G, r, n, E, en, c, cs, P, T, N, A, Z, B, c2, rfl, hR, hH, hr, hn, hc7, hd7⟩ := hI
  refine y_aload_n 1 dL_law_586 rfl ?_
  refine y_sld 0 (a := 1) rfl rfl (by omega) hL dL_law_587 dL_law_588 dL_law_589 dL_law_590 dL_law_591 ?_
  refine y_sld 0 (a := 2) rfl rfl (by omega) hL dL_law_592 dL_law_593 dL_law_594 dL_law_595 dL_law_596 ?_
  refine y_sld 0 (a := 3) rfl rfl (by omega) hL dL_law_597 dL_law_598 dL_law_599 dL_law_600 dL_law_601 ?_
  refine y_callS (x_iV dL_law_602 mlL_72 lbX6_spoil rfl rfl rfl rfl) (kX6_spoil l g S G r n E en (nf c) cs P T (xs (j + 1)) (xs (j + 2)) (xs (j + 3)) hr hn) (by decide) rfl rfl hc hs (by simp [Value.category]) (wN_len _ _ _ _ _ _ _ _ _ _) (wN_ok _ _ _ _ _ _ _ _ _ _) (by simp [xok]) rfl (fun v w1 h1 => by obtain ⟨-, rfl⟩ := h1; exact wC_both _ _ _ _ _ _ _ _ _ _ _ _) (fun v1 w1 h1 => ?_)
  obtain ⟨rfl, rfl⟩ := h1
  obtain ⟨q1, q2, q3⟩ := q_sp hR (xs (j + 1)) (xs (j + 2)) (xs (j + 3))
  cases hok : okSpoil S (xs (j + 1)) (xs (j + 2)) (xs (j + 3)) with
  | false =>
    rw [wC_f rfl]
    refine y_aload_n 2 dL_law_605 rfl ?_
    refine y_sld 0 (a := 1) rfl rfl (by omega) hL dL_law_606 dL_law_607 dL_law_608 dL_law_609 dL_law_610 ?_
    refine y_sld 0 (a := 2) rfl rfl (by omega) hL dL_law_611 dL_law_612 dL_law_613 dL_law_614 dL_law_615 ?_
    refine y_sld 0 (a := 3) rfl rfl (by omega) hL dL_law_616 dL_law_617 dL_law_618 dL_law_619 dL_law_620 ?_
    refine y_callM (wN_len _ _ _ _ _ _ _ _ _ _) (x_iV dL_law_621 mlL_75 lbX7_spoil rfl rfl rfl rfl) (kX7_spoil l g N A Z B (nf c2) n (xs (j + 1)) (xs (j + 2)) (xs (j + 3)) hn (r_ok hR) (r_ok2 hR)) (by decide) rfl rfl hc hs (by simp [Value.category]) rfl (fun v2 w2 h2 => ?_)
    obtain ⟨rfl, rfl⟩ := h2
    refine ⟨N, A, Z, B, nI n, nf c2, mC_f (q2.trans hok), ?_⟩
    refine y_icmp_eq_t (tgt := 836) dL_law_624 (by decide) (q1.symm) ?_
    exact hk _ ⟨S, G, r, n, E, en, c, cs, P, T, N, A, Z, B, c2, rfl, hR, hH, hr, hn, hc7, hd7⟩
  | true =>
    rw [wC_t rfl]
    refine y_aload_n 2 dL_law_605 rfl ?_
    refine y_sld 0 (a := 1) rfl rfl (by omega) hL dL_law_606 dL_law_607 dL_law_608 dL_law_609 dL_law_610 ?_
    refine y_sld 0 (a := 2) rfl rfl (by omega) hL dL_law_611 dL_law_612 dL_law_613 dL_law_614 dL_law_615 ?_
    refine y_sld 0 (a := 3) rfl rfl (by omega) hL dL_law_616 dL_law_617 dL_law_618 dL_law_619 dL_law_620 ?_
    refine y_callM (wN_len _ _ _ _ _ _ _ _ _ _) (x_iV dL_law_621 mlL_75 lbX7_spoil rfl rfl rfl rfl) (kX7_spoil l g N A Z B (nf c2) n (xs (j + 1)) (xs (j + 2)) (xs (j + 3)) hn (r_ok hR) (r_ok2 hR)) (by decide) rfl rfl hc hs (by simp [Value.category]) rfl (fun v2 w2 h2 => ?_)
    obtain ⟨rfl, rfl⟩ := h2
    refine ⟨upd N (192 + 30 * cl (xs (j + 1)) + (20 + cl (xs (j + 2)))) (mSv N (xs (j + 1)) (xs (j + 2)) (xs (j + 3))), A, Z, mKB B N n, nI (recN n), nf c2, mC_t (q2.trans hok), ?_⟩
    refine y_icmp_eq_t (tgt := 836) dL_law_624 (by decide) (q1.symm) ?_
    obtain ⟨g1, g2, g3⟩ := HH_rec hR hH hr hn
    exact hk _ ⟨sErr S (xs (j + 1)) (xs (j + 2)) (xs (j + 3)), recG G r n S, recR r n, recN n, E, en, c, cs, P, T, upd N (192 + 30 * cl (xs (j + 1)) + (20 + cl (xs (j + 2)))) (mSv N (xs (j + 1)) (xs (j + 2)) (xs (j + 3))), A, Z, mKB B N n, c2, rfl, q3 hok, g1, g2, g3, hc7, hd7⟩

set_option maxRecDepth 100000 in
set_option maxHeartbeats 4000000 in
theorem yc_repair {l : Launch} {g : XG} {b L : Nat} {xs : Nat → Int32} {kc ks j : Nat} (hc : kc ≤ 600000) (hs : ks ≤ 7302250) (hj : j + 3 < L) (hL : L < 2 ^ 31) {w : XW} (hI : Inv w) (hk : ∀ w, Inv w → YL l g b L xs 836 [(3, .int (nI j)), (1, .ref 0), (2, .ref 127)] [] w kc ks) : YL l g b L xs 705 [(3, .int (nI j)), (1, .ref 0), (2, .ref 127)] [] w kc ks := by
  obtain ⟨S, G, r, n, E, en, c, cs, P, T, N, A, Z, B, c2, rfl, hR, hH, hr, hn, hc7, hd7⟩ := hI
  refine y_aload_n 1 dL_law_705 rfl ?_
  refine y_sld 0 (a := 1) rfl rfl (by omega) hL dL_law_706 dL_law_707 dL_law_708 dL_law_709 dL_law_710 ?_
  refine y_callS (x_iV dL_law_711 mlL_84 lbX6_repair rfl rfl rfl rfl) (kX6_repair l g S G r n E en (nf c) cs P T (xs (j + 1)) hr hn) (by decide) rfl rfl hc hs (by simp [Value.category]) (wN_len _ _ _ _ _ _ _ _ _ _) (wN_ok _ _ _ _ _ _ _ _ _ _) (by simp [xok]) rfl (fun v w1 h1 => by obtain ⟨-, rfl⟩ := h1; exact wC_both _ _ _ _ _ _ _ _ _ _ _ _) (fun v1 w1 h1 => ?_)
  obtain ⟨rfl, rfl⟩ := h1
  obtain ⟨q1, q2, q3⟩ := q_rp hR (xs (j + 1))
  cases hok : okRep S (xs (j + 1)) with
  | false =>
    rw [wC_f rfl]
    refine y_aload_n 2 dL_law_714 rfl ?_
    refine y_sld 0 (a := 1) rfl rfl (by omega) hL dL_law_715 dL_law_716 dL_law_717 dL_law_718 dL_law_719 ?_
    refine y_callM (wN_len _ _ _ _ _ _ _ _ _ _) (x_iV dL_law_720 mlL_87 lbX7_repair rfl rfl rfl rfl) (kX7_repair l g N A Z B (nf c2) n (xs (j + 1)) hn (r_okA hR)) (by decide) rfl rfl hc hs (by simp [Value.category]) rfl (fun v2 w2 h2 => ?_)
    obtain ⟨rfl, rfl⟩ := h2
    refine ⟨N, A, Z, B, nI n, nf c2, mC_f (q2.trans hok), ?_⟩
    refine y_icmp_eq_t (tgt := 836) dL_law_723 (by decide) (q1.symm) ?_
    exact hk _ ⟨S, G, r, n, E, en, c, cs, P, T, N, A, Z, B, c2, rfl, hR, hH, hr, hn, hc7, hd7⟩
  | true =>
    rw [wC_t rfl]
    refine y_aload_n 2 dL_law_714 rfl ?_
    refine y_sld 0 (a := 1) rfl rfl (by omega) hL dL_law_715 dL_law_716 dL_law_717 dL_law_718 dL_law_719 ?_
    refine y_callM (wN_len _ _ _ _ _ _ _ _ _ _) (x_iV dL_law_720 mlL_87 lbX7_repair rfl rfl rfl rfl) (kX7_repair l g N A Z B (nf c2) n (xs (j + 1)) hn (r_okA hR)) (by decide) rfl rfl hc hs (by simp [Value.category]) rfl (fun v2 w2 h2 => ?_)
    obtain ⟨rfl, rfl⟩ := h2
    refine ⟨mRr N (cl (xs (j + 1))), A, Z, mKB B N n, nI (recN n), nf c2, mC_t (q2.trans hok), ?_⟩
    refine y_icmp_eq_t (tgt := 836) dL_law_723 (by decide) (q1.symm) ?_
    obtain ⟨g1, g2, g3⟩ := HH_rec hR hH hr hn
    exact hk _ ⟨sRF S (xs (j + 1)) (cl (fnI S (xs (j + 1)))), recG G r n S, recR r n, recN n, E, en, c, cs, P, T, mRr N (cl (xs (j + 1))), A, Z, mKB B N n, c2, rfl, q3 hok, g1, g2, g3, hc7, hd7⟩

set_option maxRecDepth 100000 in
set_option maxHeartbeats 4000000 in
theorem yc_repairAll {l : Launch} {g : XG} {b L : Nat} {xs : Nat → Int32} {kc ks j : Nat} (hc : kc ≤ 600000) (hs : ks ≤ 7302250) (hj : j + 3 < L) (hL : L < 2 ^ 31) {w : XW} (hI : Inv w) (hk : ∀ w, Inv w → YL l g b L xs 836 [(3, .int (nI j)), (1, .ref 0), (2, .ref 127)] [] w kc ks) : YL l g b L xs 728 [(3, .int (nI j)), (1, .ref 0), (2, .ref 127)] [] w kc ks := by
  obtain ⟨S, G, r, n, E, en, c, cs, P, T, N, A, Z, B, c2, rfl, hR, hH, hr, hn, hc7, hd7⟩ := hI
  refine y_aload_n 1 dL_law_728 rfl ?_
  refine y_sld 0 (a := 1) rfl rfl (by omega) hL dL_law_729 dL_law_730 dL_law_731 dL_law_732 dL_law_733 ?_
  refine y_callS (x_iV dL_law_734 mlL_88 lbX6_repairAll rfl rfl rfl rfl) (kX6_repairAll l g S G r n E en (nf c) cs P T (xs (j + 1)) hr hn) (by decide) rfl rfl hc hs (by simp [Value.category]) (wN_len _ _ _ _ _ _ _ _ _ _) (wN_ok _ _ _ _ _ _ _ _ _ _) (by simp [xok]) rfl (fun v w1 h1 => by obtain ⟨-, rfl⟩ := h1; exact wC_both _ _ _ _ _ _ _ _ _ _ _ _) (fun v1 w1 h1 => ?_)
  obtain ⟨rfl, rfl⟩ := h1
  obtain ⟨q1, q2, q3⟩ := q_ra hR (xs (j + 1))
  cases hok : okRA (xs (j + 1)) with
  | false =>
    rw [wC_f rfl]
    refine y_aload_n 2 dL_law_737 rfl ?_
    refine y_sld 0 (a := 1) rfl rfl (by omega) hL dL_law_738 dL_law_739 dL_law_740 dL_law_741 dL_law_742 ?_
    refine y_callM (wN_len _ _ _ _ _ _ _ _ _ _) (x_iV dL_law_743 mlL_91 lbX7_repairAll rfl rfl rfl rfl) (kX7_repairAll l g N A Z B (nf c2) n (xs (j + 1)) hn (r_okA hR)) (by decide) rfl rfl hc hs (by simp [Value.category]) rfl (fun v2 w2 h2 => ?_)
    obtain ⟨rfl, rfl⟩ := h2
    refine ⟨N, A, Z, B, nI n, nf c2, mC_f (q2.trans hok), ?_⟩
    refine y_icmp_eq_t (tgt := 836) dL_law_746 (by decide) (q1.symm) ?_
    exact hk _ ⟨S, G, r, n, E, en, c, cs, P, T, N, A, Z, B, c2, rfl, hR, hH, hr, hn, hc7, hd7⟩
  | true =>
    rw [wC_t rfl]
    refine y_aload_n 2 dL_law_737 rfl ?_
    refine y_sld 0 (a := 1) rfl rfl (by omega) hL dL_law_738 dL_law_739 dL_law_740 dL_law_741 dL_law_742 ?_
    refine y_callM (wN_len _ _ _ _ _ _ _ _ _ _) (x_iV dL_law_743 mlL_91 lbX7_repairAll rfl rfl rfl rfl) (kX7_repairAll l g N A Z B (nf c2) n (xs (j + 1)) hn (r_okA hR)) (by decide) rfl rfl hc hs (by simp [Value.category]) rfl (fun v2 w2 h2 => ?_)
    obtain ⟨rfl, rfl⟩ := h2
    refine ⟨mRA N (xs (j + 1)) 8, A, Z, mKB B N n, nI (recN n), nf c2, mC_t (q2.trans hok), ?_⟩
    refine y_icmp_eq_t (tgt := 836) dL_law_746 (by decide) (q1.symm) ?_
    obtain ⟨g1, g2, g3⟩ := HH_rec hR hH hr hn
    exact hk _ ⟨sRA S (xs (j + 1)) 8, recG G r n S, recR r n, recN n, E, en, c, cs, P, T, mRA N (xs (j + 1)) 8, A, Z, mKB B N n, c2, rfl, q3, g1, g2, g3, hc7, hd7⟩

set_option maxRecDepth 100000 in
set_option maxHeartbeats 4000000 in
theorem yc_store {l : Launch} {g : XG} {b L : Nat} {xs : Nat → Int32} {kc ks j : Nat} (hc : kc ≤ 600000) (hs : ks ≤ 7302250) (hj : j + 3 < L) (hL : L < 2 ^ 31) {w : XW} (hI : Inv w) (hk : ∀ w, Inv w → YL l g b L xs 836 [(3, .int (nI j)), (1, .ref 0), (2, .ref 127)] [] w kc ks) : YL l g b L xs 378 [(3, .int (nI j)), (1, .ref 0), (2, .ref 127)] [] w kc ks := by
  obtain ⟨S, G, r, n, E, en, c, cs, P, T, N, A, Z, B, c2, rfl, hR, hH, hr, hn, hc7, hd7⟩ := hI
  obtain ⟨kw, hkw, ekw, -⟩ := r_432 hR
  refine y_aload_n 1 dL_law_378 rfl ?_
  refine y_sld 0 (a := 1) rfl rfl (by omega) hL dL_law_379 dL_law_380 dL_law_381 dL_law_382 dL_law_383 ?_
  refine y_sld 0 (a := 2) rfl rfl (by omega) hL dL_law_384 dL_law_385 dL_law_386 dL_law_387 dL_law_388 ?_
  refine y_callS (x_iV dL_law_389 mlL_48 lbX6_store rfl rfl rfl rfl) (kX6_store l g S G r n E en (nf c) cs P T (xs (j + 1)) (xs (j + 2)) (r_wt hR) hr hn) (by decide) rfl rfl hc hs (by simp [Value.category]) (wN_len _ _ _ _ _ _ _ _ _ _) (wN_ok _ _ _ _ _ _ _ _ _ _) (by simp [xok]) rfl (fun v w1 h1 => by obtain ⟨-, rfl⟩ := h1; exact wC_both _ _ _ _ _ _ _ _ _ _ _ _) (fun v1 w1 h1 => ?_)
  obtain ⟨rfl, rfl⟩ := h1
  obtain ⟨q1, q2, q3⟩ := q_st hR (xs (j + 1)) (xs (j + 2))
  cases hok : okStore S (xs (j + 1)) (xs (j + 2)) with
  | false =>
    rw [wC_f rfl]
    refine y_aload_n 2 dL_law_392 rfl ?_
    refine y_sld 0 (a := 1) rfl rfl (by omega) hL dL_law_393 dL_law_394 dL_law_395 dL_law_396 dL_law_397 ?_
    refine y_sld 0 (a := 2) rfl rfl (by omega) hL dL_law_398 dL_law_399 dL_law_400 dL_law_401 dL_law_402 ?_
    refine y_callM (wN_len _ _ _ _ _ _ _ _ _ _) (x_iV dL_law_403 mlL_51 lbX7_store rfl rfl rfl rfl) (kX7_store l g N A Z B (nf c2) n (xs (j + 1)) (xs (j + 2)) kw hn (r_okA hR) hkw ekw) (by decide) rfl rfl hc hs (by simp [Value.category]) rfl (fun v2 w2 h2 => ?_)
    obtain ⟨rfl, rfl⟩ := h2
    refine ⟨N, A, Z, B, nI n, nf c2, mC_f (q2.trans hok), ?_⟩
    refine y_icmp_eq_t (tgt := 836) dL_law_406 (by decide) (q1.symm) ?_
    exact hk _ ⟨S, G, r, n, E, en, c, cs, P, T, N, A, Z, B, c2, rfl, hR, hH, hr, hn, hc7, hd7⟩
  | true =>
    rw [wC_t rfl]
    refine y_aload_n 2 dL_law_392 rfl ?_
    refine y_sld 0 (a := 1) rfl rfl (by omega) hL dL_law_393 dL_law_394 dL_law_395 dL_law_396 dL_law_397 ?_
    refine y_sld 0 (a := 2) rfl rfl (by omega) hL dL_law_398 dL_law_399 dL_law_400 dL_law_401 dL_law_402 ?_
    refine y_callM (wN_len _ _ _ _ _ _ _ _ _ _) (x_iV dL_law_403 mlL_51 lbX7_store rfl rfl rfl rfl) (kX7_store l g N A Z B (nf c2) n (xs (j + 1)) (xs (j + 2)) kw hn (r_okA hR) hkw ekw) (by decide) rfl rfl hc hs (by simp [Value.category]) rfl (fun v2 w2 h2 => ?_)
    obtain ⟨rfl, rfl⟩ := h2
    refine ⟨mStN N (mLf N) (xs (j + 1)) (xs (j + 2)), A, Z, mKB B N n, nI (recN n), nf c2, mC_t (q2.trans hok), ?_⟩
    refine y_icmp_eq_t (tgt := 836) dL_law_406 (by decide) (q1.symm) ?_
    obtain ⟨g1, g2, g3⟩ := HH_rec hR hH hr hn
    exact hk _ ⟨sStore S (xs (j + 1)) (xs (j + 2)), recG G r n S, recR r n, recN n, E, en, c, cs, P, T, mStN N (mLf N) (xs (j + 1)) (xs (j + 2)), A, Z, mKB B N n, c2, rfl, q3 hok, g1, g2, g3, hc7, hd7⟩

set_option maxRecDepth 100000 in
set_option maxHeartbeats 4000000 in
theorem yc_peerInfo {l : Launch} {g : XG} {b L : Nat} {xs : Nat → Int32} {kc ks j : Nat} (hc : kc ≤ 600000) (hs : ks ≤ 7302250) (hj : j + 3 < L) (hL : L < 2 ^ 31) {w : XW} (hI : Inv w) (hk : ∀ w, Inv w → YL l g b L xs 836 [(3, .int (nI j)), (1, .ref 0), (2, .ref 127)] [] w kc ks) : YL l g b L xs 289 [(3, .int (nI j)), (1, .ref 0), (2, .ref 127)] [] w kc ks := by
  obtain ⟨S, G, r, n, E, en, c, cs, P, T, N, A, Z, B, c2, rfl, hR, hH, hr, hn, hc7, hd7⟩ := hI
  refine y_aload_n 1 dL_law_289 rfl ?_
  refine y_sld 0 (a := 1) rfl rfl (by omega) hL dL_law_290 dL_law_291 dL_law_292 dL_law_293 dL_law_294 ?_
  refine y_sld 0 (a := 2) rfl rfl (by omega) hL dL_law_295 dL_law_296 dL_law_297 dL_law_298 dL_law_299 ?_
  refine y_callS (P := fun v w1 => v = vPI S (xs (j + 1)) (xs (j + 2)) ∧ w1 = wN S (tX G r n E en (nf c) cs P T)) (as := [.ref 0, .int (xs (j + 1)), .int (xs (j + 2))]) (st := []) (x_iV dL_law_300 mlL_36 lbX6_peerInfo rfl rfl rfl rfl) (by rw [← Qp_Qi]; exact kX6_peerInfo l g S G r n E en (nf c) cs P T (xs (j + 1)) (xs (j + 2)) ) (by decide) rfl rfl hc hs (by simp [Value.category]) (wN_len _ _ _ _ _ _ _ _ _ _) (wN_ok _ _ _ _ _ _ _ _ _ _) (by simp [xok]) rfl (fun v w1 h1 => by obtain ⟨-, rfl⟩ := h1; exact wN_both _ _ _ _ _ _ _ _ _ _) (fun v1 w1 h1 => ?_)
  obtain ⟨rfl, rfl⟩ := h1
  refine y_aload_n 2 dL_law_303 rfl ?_
  refine y_sld 0 (a := 1) rfl rfl (by omega) hL dL_law_304 dL_law_305 dL_law_306 dL_law_307 dL_law_308 ?_
  refine y_sld 0 (a := 2) rfl rfl (by omega) hL dL_law_309 dL_law_310 dL_law_311 dL_law_312 dL_law_313 ?_
  refine y_callM (P := fun v w1 => v = vPIm N (xs (j + 1)) (xs (j + 2)) ∧ w1 = wM N A Z B (nI n) (nf c2)) (as := [.ref 0, .int (xs (j + 1)), .int (xs (j + 2))]) (st := [.int (vPI S (xs (j + 1)) (xs (j + 2)))]) (wN_len _ _ _ _ _ _ _ _ _ _) (x_iV dL_law_314 mlL_39 lbX7_peerInfo rfl rfl rfl rfl) (by rw [← Qp_Qi]; exact kX7_peerInfo l g N A Z B (nI n) (nf c2) (xs (j + 1)) (xs (j + 2)) (r_ok hR)) (by decide) rfl rfl hc hs (by simp [Value.category]) rfl (fun v2 w2 h2 => ?_)
  obtain ⟨rfl, rfl⟩ := h2
  refine ⟨N, A, Z, B, nI n, nf c2, rfl, ?_⟩
  refine y_icmp_eq_t (tgt := 836) dL_law_317 (by decide) ((q_pi hR _ _).symm) ?_
  exact hk _ ⟨S, G, r, n, E, en, c, cs, P, T, N, A, Z, B, c2, rfl, hR, hH, hr, hn, hc7, hd7⟩

set_option maxRecDepth 100000 in
set_option maxHeartbeats 4000000 in
theorem yc_balance {l : Launch} {g : XG} {b L : Nat} {xs : Nat → Int32} {kc ks j : Nat} (hc : kc ≤ 600000) (hs : ks ≤ 7302250) (hj : j + 3 < L) (hL : L < 2 ^ 31) {w : XW} (hI : Inv w) (hk : ∀ w, Inv w → YL l g b L xs 836 [(3, .int (nI j)), (1, .ref 0), (2, .ref 127)] [] w kc ks) : YL l g b L xs 322 [(3, .int (nI j)), (1, .ref 0), (2, .ref 127)] [] w kc ks := by
  obtain ⟨S, G, r, n, E, en, c, cs, P, T, N, A, Z, B, c2, rfl, hR, hH, hr, hn, hc7, hd7⟩ := hI
  refine y_aload_n 1 dL_law_322 rfl ?_
  refine y_sld 0 (a := 1) rfl rfl (by omega) hL dL_law_323 dL_law_324 dL_law_325 dL_law_326 dL_law_327 ?_
  refine y_sld 0 (a := 2) rfl rfl (by omega) hL dL_law_328 dL_law_329 dL_law_330 dL_law_331 dL_law_332 ?_
  refine y_callS (P := fun v w1 => v = vBal S (xs (j + 1)) (xs (j + 2)) ∧ w1 = wN S (tX G r n E en (nf c) cs P T)) (as := [.ref 0, .int (xs (j + 1)), .int (xs (j + 2))]) (st := []) (x_iV dL_law_333 mlL_40 lbX6_balance rfl rfl rfl rfl) (by rw [← Qp_Qi]; exact kX6_balance l g S G r n E en (nf c) cs P T (xs (j + 1)) (xs (j + 2)) ) (by decide) rfl rfl hc hs (by simp [Value.category]) (wN_len _ _ _ _ _ _ _ _ _ _) (wN_ok _ _ _ _ _ _ _ _ _ _) (by simp [xok]) rfl (fun v w1 h1 => by obtain ⟨-, rfl⟩ := h1; exact wN_both _ _ _ _ _ _ _ _ _ _) (fun v1 w1 h1 => ?_)
  obtain ⟨rfl, rfl⟩ := h1
  refine y_aload_n 2 dL_law_336 rfl ?_
  refine y_sld 0 (a := 1) rfl rfl (by omega) hL dL_law_337 dL_law_338 dL_law_339 dL_law_340 dL_law_341 ?_
  refine y_sld 0 (a := 2) rfl rfl (by omega) hL dL_law_342 dL_law_343 dL_law_344 dL_law_345 dL_law_346 ?_
  refine y_callM (P := fun v w1 => v = vBm N (xs (j + 1)) (xs (j + 2)) ∧ w1 = wM N A Z B (nI n) (nf c2)) (as := [.ref 0, .int (xs (j + 1)), .int (xs (j + 2))]) (st := [.int (vBal S (xs (j + 1)) (xs (j + 2)))]) (wN_len _ _ _ _ _ _ _ _ _ _) (x_iV dL_law_347 mlL_43 lbX7_balance rfl rfl rfl rfl) (by rw [← Qp_Qi]; exact kX7_balance l g N A Z B (nI n) (nf c2) (xs (j + 1)) (xs (j + 2)) ) (by decide) rfl rfl hc hs (by simp [Value.category]) rfl (fun v2 w2 h2 => ?_)
  obtain ⟨rfl, rfl⟩ := h2
  refine ⟨N, A, Z, B, nI n, nf c2, rfl, ?_⟩
  refine y_icmp_eq_t (tgt := 836) dL_law_350 (by decide) ((q_bal hR _ _).symm) ?_
  exact hk _ ⟨S, G, r, n, E, en, c, cs, P, T, N, A, Z, B, c2, rfl, hR, hH, hr, hn, hc7, hd7⟩

set_option maxRecDepth 100000 in
set_option maxHeartbeats 4000000 in
theorem yc_fileInfo {l : Launch} {g : XG} {b L : Nat} {xs : Nat → Int32} {kc ks j : Nat} (hc : kc ≤ 600000) (hs : ks ≤ 7302250) (hj : j + 3 < L) (hL : L < 2 ^ 31) {w : XW} (hI : Inv w) (hk : ∀ w, Inv w → YL l g b L xs 836 [(3, .int (nI j)), (1, .ref 0), (2, .ref 127)] [] w kc ks) : YL l g b L xs 434 [(3, .int (nI j)), (1, .ref 0), (2, .ref 127)] [] w kc ks := by
  obtain ⟨S, G, r, n, E, en, c, cs, P, T, N, A, Z, B, c2, rfl, hR, hH, hr, hn, hc7, hd7⟩ := hI
  refine y_aload_n 1 dL_law_434 rfl ?_
  refine y_sld 0 (a := 1) rfl rfl (by omega) hL dL_law_435 dL_law_436 dL_law_437 dL_law_438 dL_law_439 ?_
  refine y_sld 0 (a := 2) rfl rfl (by omega) hL dL_law_440 dL_law_441 dL_law_442 dL_law_443 dL_law_444 ?_
  refine y_callS (P := fun v w1 => v = vFI S (xs (j + 1)) (xs (j + 2)) ∧ w1 = wN S (tX G r n E en (nf c) cs P T)) (as := [.ref 0, .int (xs (j + 1)), .int (xs (j + 2))]) (st := []) (x_iV dL_law_445 mlL_56 lbX6_fileInfo rfl rfl rfl rfl) (by rw [← Qp_Qi]; exact kX6_fileInfo l g S G r n E en (nf c) cs P T (xs (j + 1)) (xs (j + 2)) ) (by decide) rfl rfl hc hs (by simp [Value.category]) (wN_len _ _ _ _ _ _ _ _ _ _) (wN_ok _ _ _ _ _ _ _ _ _ _) (by simp [xok]) rfl (fun v w1 h1 => by obtain ⟨-, rfl⟩ := h1; exact wN_both _ _ _ _ _ _ _ _ _ _) (fun v1 w1 h1 => ?_)
  obtain ⟨rfl, rfl⟩ := h1
  refine y_aload_n 2 dL_law_448 rfl ?_
  refine y_sld 0 (a := 1) rfl rfl (by omega) hL dL_law_449 dL_law_450 dL_law_451 dL_law_452 dL_law_453 ?_
  refine y_sld 0 (a := 2) rfl rfl (by omega) hL dL_law_454 dL_law_455 dL_law_456 dL_law_457 dL_law_458 ?_
  refine y_callM (P := fun v w1 => v = vFIm N (xs (j + 1)) (xs (j + 2)) ∧ w1 = wM N A Z B (nI n) (nf c2)) (as := [.ref 0, .int (xs (j + 1)), .int (xs (j + 2))]) (st := [.int (vFI S (xs (j + 1)) (xs (j + 2)))]) (wN_len _ _ _ _ _ _ _ _ _ _) (x_iV dL_law_459 mlL_59 lbX7_fileInfo rfl rfl rfl rfl) (by rw [← Qp_Qi]; exact kX7_fileInfo l g N A Z B (nI n) (nf c2) (xs (j + 1)) (xs (j + 2)) (r_ok hR)) (by decide) rfl rfl hc hs (by simp [Value.category]) rfl (fun v2 w2 h2 => ?_)
  obtain ⟨rfl, rfl⟩ := h2
  refine ⟨N, A, Z, B, nI n, nf c2, rfl, ?_⟩
  refine y_icmp_eq_t (tgt := 836) dL_law_462 (by decide) ((q_fi hR _ _).symm) ?_
  exact hk _ ⟨S, G, r, n, E, en, c, cs, P, T, N, A, Z, B, c2, rfl, hR, hH, hr, hn, hc7, hd7⟩

set_option maxRecDepth 100000 in
set_option maxHeartbeats 4000000 in
theorem yc_fragment {l : Launch} {g : XG} {b L : Nat} {xs : Nat → Int32} {kc ks j : Nat} (hc : kc ≤ 600000) (hs : ks ≤ 7302250) (hj : j + 3 < L) (hL : L < 2 ^ 31) {w : XW} (hI : Inv w) (hk : ∀ w, Inv w → YL l g b L xs 836 [(3, .int (nI j)), (1, .ref 0), (2, .ref 127)] [] w kc ks) : YL l g b L xs 467 [(3, .int (nI j)), (1, .ref 0), (2, .ref 127)] [] w kc ks := by
  obtain ⟨S, G, r, n, E, en, c, cs, P, T, N, A, Z, B, c2, rfl, hR, hH, hr, hn, hc7, hd7⟩ := hI
  refine y_aload_n 1 dL_law_467 rfl ?_
  refine y_sld 0 (a := 1) rfl rfl (by omega) hL dL_law_468 dL_law_469 dL_law_470 dL_law_471 dL_law_472 ?_
  refine y_sld 0 (a := 2) rfl rfl (by omega) hL dL_law_473 dL_law_474 dL_law_475 dL_law_476 dL_law_477 ?_
  refine y_sld 0 (a := 3) rfl rfl (by omega) hL dL_law_478 dL_law_479 dL_law_480 dL_law_481 dL_law_482 ?_
  refine y_callS (P := fun v w1 => v = vFrag S (xs (j + 1)) (xs (j + 2)) (xs (j + 3)) ∧ w1 = wN S (tX G r n E en (nf c) cs P T)) (as := [.ref 0, .int (xs (j + 1)), .int (xs (j + 2)), .int (xs (j + 3))]) (st := []) (x_iV dL_law_483 mlL_60 lbX6_fragment rfl rfl rfl rfl) (by rw [← Qp_Qi]; exact kX6_fragment l g S G r n E en (nf c) cs P T (xs (j + 1)) (xs (j + 2)) (xs (j + 3)) ) (by decide) rfl rfl hc hs (by simp [Value.category]) (wN_len _ _ _ _ _ _ _ _ _ _) (wN_ok _ _ _ _ _ _ _ _ _ _) (by simp [xok]) rfl (fun v w1 h1 => by obtain ⟨-, rfl⟩ := h1; exact wN_both _ _ _ _ _ _ _ _ _ _) (fun v1 w1 h1 => ?_)
  obtain ⟨rfl, rfl⟩ := h1
  refine y_aload_n 2 dL_law_486 rfl ?_
  refine y_sld 0 (a := 1) rfl rfl (by omega) hL dL_law_487 dL_law_488 dL_law_489 dL_law_490 dL_law_491 ?_
  refine y_sld 0 (a := 2) rfl rfl (by omega) hL dL_law_492 dL_law_493 dL_law_494 dL_law_495 dL_law_496 ?_
  refine y_sld 0 (a := 3) rfl rfl (by omega) hL dL_law_497 dL_law_498 dL_law_499 dL_law_500 dL_law_501 ?_
  refine y_callM (P := fun v w1 => v = vFm N (xs (j + 1)) (xs (j + 2)) (xs (j + 3)) ∧ w1 = wM N A Z B (nI n) (nf c2)) (as := [.ref 0, .int (xs (j + 1)), .int (xs (j + 2)), .int (xs (j + 3))]) (st := [.int (vFrag S (xs (j + 1)) (xs (j + 2)) (xs (j + 3)))]) (wN_len _ _ _ _ _ _ _ _ _ _) (x_iV dL_law_502 mlL_63 lbX7_fragment rfl rfl rfl rfl) (by rw [← Qp_Qi]; exact kX7_fragment l g N A Z B (nI n) (nf c2) (xs (j + 1)) (xs (j + 2)) (xs (j + 3)) (r_ok hR) (r_ok2 hR) (r_ok3 hR)) (by decide) rfl rfl hc hs (by simp [Value.category]) rfl (fun v2 w2 h2 => ?_)
  obtain ⟨rfl, rfl⟩ := h2
  refine ⟨N, A, Z, B, nI n, nf c2, rfl, ?_⟩
  refine y_icmp_eq_t (tgt := 836) dL_law_505 (by decide) ((q_fr hR _ _ _).symm) ?_
  exact hk _ ⟨S, G, r, n, E, en, c, cs, P, T, N, A, Z, B, c2, rfl, hR, hH, hr, hn, hc7, hd7⟩

set_option maxRecDepth 100000 in
set_option maxHeartbeats 4000000 in
theorem yc_read {l : Launch} {g : XG} {b L : Nat} {xs : Nat → Int32} {kc ks j : Nat} (hc : kc ≤ 600000) (hs : ks ≤ 7302250) (hj : j + 3 < L) (hL : L < 2 ^ 31) {w : XW} (hI : Inv w) (hk : ∀ w, Inv w → YL l g b L xs 836 [(3, .int (nI j)), (1, .ref 0), (2, .ref 127)] [] w kc ks) : YL l g b L xs 510 [(3, .int (nI j)), (1, .ref 0), (2, .ref 127)] [] w kc ks := by
  obtain ⟨S, G, r, n, E, en, c, cs, P, T, N, A, Z, B, c2, rfl, hR, hH, hr, hn, hc7, hd7⟩ := hI
  refine y_aload_n 1 dL_law_510 rfl ?_
  refine y_sld 0 (a := 1) rfl rfl (by omega) hL dL_law_511 dL_law_512 dL_law_513 dL_law_514 dL_law_515 ?_
  refine y_sld 0 (a := 2) rfl rfl (by omega) hL dL_law_516 dL_law_517 dL_law_518 dL_law_519 dL_law_520 ?_
  refine y_callS (P := fun v w1 => v = vRead S (xs (j + 1)) (xs (j + 2)) ∧ w1 = wN S (tX G r n E en (nf c) cs P T)) (as := [.ref 0, .int (xs (j + 1)), .int (xs (j + 2))]) (st := []) (x_iV dL_law_521 mlL_64 lbX6_read rfl rfl rfl rfl) (by rw [← Qp_Qi]; exact kX6_read l g S G r n E en (nf c) cs P T (xs (j + 1)) (xs (j + 2)) ) (by decide) rfl rfl hc hs (by simp [Value.category]) (wN_len _ _ _ _ _ _ _ _ _ _) (wN_ok _ _ _ _ _ _ _ _ _ _) (by simp [xok]) rfl (fun v w1 h1 => by obtain ⟨-, rfl⟩ := h1; exact wN_both _ _ _ _ _ _ _ _ _ _) (fun v1 w1 h1 => ?_)
  obtain ⟨rfl, rfl⟩ := h1
  refine y_aload_n 2 dL_law_524 rfl ?_
  refine y_sld 0 (a := 1) rfl rfl (by omega) hL dL_law_525 dL_law_526 dL_law_527 dL_law_528 dL_law_529 ?_
  refine y_sld 0 (a := 2) rfl rfl (by omega) hL dL_law_530 dL_law_531 dL_law_532 dL_law_533 dL_law_534 ?_
  refine y_callM (P := fun v w1 => v = vRm N (xs (j + 1)) (xs (j + 2)) ∧ w1 = wM N A Z B (nI n) (nf c2)) (as := [.ref 0, .int (xs (j + 1)), .int (xs (j + 2))]) (st := [.int (vRead S (xs (j + 1)) (xs (j + 2)))]) (wN_len _ _ _ _ _ _ _ _ _ _) (x_iV dL_law_535 mlL_67 lbX7_read rfl rfl rfl rfl) (by rw [← Qp_Qi]; exact kX7_read l g N A Z B (nI n) (nf c2) (xs (j + 1)) (xs (j + 2)) (r_ok hR) (r_ok3 hR)) (by decide) rfl rfl hc hs (by simp [Value.category]) rfl (fun v2 w2 h2 => ?_)
  obtain ⟨rfl, rfl⟩ := h2
  refine ⟨N, A, Z, B, nI n, nf c2, rfl, ?_⟩
  refine y_icmp_eq_t (tgt := 836) dL_law_538 (by decide) ((q_rd hR _ _).symm) ?_
  exact hk _ ⟨S, G, r, n, E, en, c, cs, P, T, N, A, Z, B, c2, rfl, hR, hH, hr, hn, hc7, hd7⟩

set_option maxRecDepth 100000 in
set_option maxHeartbeats 4000000 in
theorem yc_tolerance {l : Launch} {g : XG} {b L : Nat} {xs : Nat → Int32} {kc ks j : Nat} (hc : kc ≤ 600000) (hs : ks ≤ 7302250) (hj : j + 3 < L) (hL : L < 2 ^ 31) {w : XW} (hI : Inv w) (hk : ∀ w, Inv w → YL l g b L xs 836 [(3, .int (nI j)), (1, .ref 0), (2, .ref 127)] [] w kc ks) : YL l g b L xs 764 [(3, .int (nI j)), (1, .ref 0), (2, .ref 127)] [] w kc ks := by
  obtain ⟨S, G, r, n, E, en, c, cs, P, T, N, A, Z, B, c2, rfl, hR, hH, hr, hn, hc7, hd7⟩ := hI
  refine y_aload_n 1 dL_law_764 rfl ?_
  refine y_callS (P := fun v w1 => v = vTol S ∧ w1 = wN S (tX G r n E en (nf c) cs P T)) (as := [.ref 0]) (st := []) (x_iV dL_law_765 mlL_97 lbX6_tolerance rfl rfl rfl rfl) (by rw [← Qp_Qi]; exact kX6_tolerance l g S G r n E en (nf c) cs P T  ) (by decide) rfl rfl hc hs (by simp [Value.category]) (wN_len _ _ _ _ _ _ _ _ _ _) (wN_ok _ _ _ _ _ _ _ _ _ _) (by simp [xok]) rfl (fun v w1 h1 => by obtain ⟨-, rfl⟩ := h1; exact wN_both _ _ _ _ _ _ _ _ _ _) (fun v1 w1 h1 => ?_)
  obtain ⟨rfl, rfl⟩ := h1
  refine y_aload_n 2 dL_law_768 rfl ?_
  refine y_callM (P := fun v w1 => v = vTl N (pSet S) ∧ w1 = wM N A Z B (nI n) (nf c2)) (as := [.ref 0]) (st := [.int (vTol S)]) (wN_len _ _ _ _ _ _ _ _ _ _) (x_iV dL_law_769 mlL_100 lbX7_tolerance rfl rfl rfl rfl) (by rw [← Qp_Qi]; exact kX7_tolerance l g N A Z B (nI n) (nf c2)  (pSet S) (r_ok hR) (pSet_lt S) (r_ps hR)) (by decide) rfl rfl hc hs (by simp [Value.category]) rfl (fun v2 w2 h2 => ?_)
  obtain ⟨rfl, rfl⟩ := h2
  refine ⟨N, A, Z, B, nI n, nf c2, rfl, ?_⟩
  refine y_icmp_eq_t (tgt := 836) dL_law_772 (by decide) ((q_tl hR).symm) ?_
  exact hk _ ⟨S, G, r, n, E, en, c, cs, P, T, N, A, Z, B, c2, rfl, hR, hH, hr, hn, hc7, hd7⟩

set_option maxRecDepth 100000 in
set_option maxHeartbeats 4000000 in
theorem yc_endangered {l : Launch} {g : XG} {b L : Nat} {xs : Nat → Int32} {kc ks j : Nat} (hc : kc ≤ 600000) (hs : ks ≤ 7302250) (hj : j + 3 < L) (hL : L < 2 ^ 31) {w : XW} (hI : Inv w) (hk : ∀ w, Inv w → YL l g b L xs 836 [(3, .int (nI j)), (1, .ref 0), (2, .ref 127)] [] w kc ks) : YL l g b L xs 777 [(3, .int (nI j)), (1, .ref 0), (2, .ref 127)] [] w kc ks := by
  obtain ⟨S, G, r, n, E, en, c, cs, P, T, N, A, Z, B, c2, rfl, hR, hH, hr, hn, hc7, hd7⟩ := hI
  refine y_aload_n 1 dL_law_777 rfl ?_
  refine y_sld 0 (a := 1) rfl rfl (by omega) hL dL_law_778 dL_law_779 dL_law_780 dL_law_781 dL_law_782 ?_
  refine y_callS (P := fun v w1 => v = vEnd S (xs (j + 1)) ∧ w1 = wN S (tX G r n E en (nf c) cs P T)) (as := [.ref 0, .int (xs (j + 1))]) (st := []) (x_iV dL_law_783 mlL_101 lbX6_endangered rfl rfl rfl rfl) (by rw [← Qp_Qi]; exact kX6_endangered l g S G r n E en (nf c) cs P T (xs (j + 1)) ) (by decide) rfl rfl hc hs (by simp [Value.category]) (wN_len _ _ _ _ _ _ _ _ _ _) (wN_ok _ _ _ _ _ _ _ _ _ _) (by simp [xok]) rfl (fun v w1 h1 => by obtain ⟨-, rfl⟩ := h1; exact wN_both _ _ _ _ _ _ _ _ _ _) (fun v1 w1 h1 => ?_)
  obtain ⟨rfl, rfl⟩ := h1
  refine y_aload_n 2 dL_law_786 rfl ?_
  refine y_sld 0 (a := 1) rfl rfl (by omega) hL dL_law_787 dL_law_788 dL_law_789 dL_law_790 dL_law_791 ?_
  refine y_callM (P := fun v w1 => v = vEn N (xs (j + 1)) ∧ w1 = wM N A Z B (nI n) (nf c2)) (as := [.ref 0, .int (xs (j + 1))]) (st := [.int (vEnd S (xs (j + 1)))]) (wN_len _ _ _ _ _ _ _ _ _ _) (x_iV dL_law_792 mlL_104 lbX7_endangered rfl rfl rfl rfl) (by rw [← Qp_Qi]; exact kX7_endangered l g N A Z B (nI n) (nf c2) (xs (j + 1)) (r_ok hR)) (by decide) rfl rfl hc hs (by simp [Value.category]) rfl (fun v2 w2 h2 => ?_)
  obtain ⟨rfl, rfl⟩ := h2
  refine ⟨N, A, Z, B, nI n, nf c2, rfl, ?_⟩
  refine y_icmp_eq_t (tgt := 836) dL_law_795 (by decide) ((q_en hR _).symm) ?_
  exact hk _ ⟨S, G, r, n, E, en, c, cs, P, T, N, A, Z, B, c2, rfl, hR, hH, hr, hn, hc7, hd7⟩

set_option maxRecDepth 100000 in
set_option maxHeartbeats 4000000 in
theorem yc_count {l : Launch} {g : XG} {b L : Nat} {xs : Nat → Int32} {kc ks j : Nat} (hc : kc ≤ 600000) (hs : ks ≤ 7302250) (hj : j + 3 < L) (hL : L < 2 ^ 31) {w : XW} (hI : Inv w) (hk : ∀ w, Inv w → YL l g b L xs 836 [(3, .int (nI j)), (1, .ref 0), (2, .ref 127)] [] w kc ks) : YL l g b L xs 813 [(3, .int (nI j)), (1, .ref 0), (2, .ref 127)] [] w kc ks := by
  obtain ⟨S, G, r, n, E, en, c, cs, P, T, N, A, Z, B, c2, rfl, hR, hH, hr, hn, hc7, hd7⟩ := hI
  refine y_aload_n 1 dL_law_813 rfl ?_
  refine y_sld 0 (a := 1) rfl rfl (by omega) hL dL_law_814 dL_law_815 dL_law_816 dL_law_817 dL_law_818 ?_
  refine y_callS (P := fun v w1 => v = vCnt S n (xs (j + 1)) ∧ w1 = wN S (tX G r n E en (nf c) cs P T)) (as := [.ref 0, .int (xs (j + 1))]) (st := []) (x_iV dL_law_819 mlL_109 lbX6_count rfl rfl rfl rfl) (by rw [← Qp_Qi]; exact kX6_count l g S G r n E en (nf c) cs P T (xs (j + 1)) ) (by decide) rfl rfl hc hs (by simp [Value.category]) (wN_len _ _ _ _ _ _ _ _ _ _) (wN_ok _ _ _ _ _ _ _ _ _ _) (by simp [xok]) rfl (fun v w1 h1 => by obtain ⟨-, rfl⟩ := h1; exact wN_both _ _ _ _ _ _ _ _ _ _) (fun v1 w1 h1 => ?_)
  obtain ⟨rfl, rfl⟩ := h1
  refine y_aload_n 2 dL_law_822 rfl ?_
  refine y_sld 0 (a := 1) rfl rfl (by omega) hL dL_law_823 dL_law_824 dL_law_825 dL_law_826 dL_law_827 ?_
  refine y_callM (P := fun v w1 => v = vCnm N (pSet S) (nI n) (xs (j + 1)) ∧ w1 = wM N A Z B (nI n) (nf c2)) (as := [.ref 0, .int (xs (j + 1))]) (st := [.int (vCnt S n (xs (j + 1)))]) (wN_len _ _ _ _ _ _ _ _ _ _) (x_iV dL_law_828 mlL_112 lbX7_count rfl rfl rfl rfl) (by rw [← Qp_Qi]; exact kX7_count l g N A Z B (nI n) (nf c2) (xs (j + 1)) (pSet S) (r_ok hR) (pSet_lt S) (r_ps hR)) (by decide) rfl rfl hc hs (by simp [Value.category]) rfl (fun v2 w2 h2 => ?_)
  obtain ⟨rfl, rfl⟩ := h2
  refine ⟨N, A, Z, B, nI n, nf c2, rfl, ?_⟩
  refine y_icmp_eq_t (tgt := 836) dL_law_831 (by decide) ((q_cn hR n _).symm) ?_
  exact hk _ ⟨S, G, r, n, E, en, c, cs, P, T, N, A, Z, B, c2, rfl, hR, hH, hr, hn, hc7, hd7⟩

set_option maxRecDepth 100000 in
set_option maxHeartbeats 4000000 in
theorem yc_word {l : Launch} {g : XG} {b L : Nat} {xs : Nat → Int32} {kc ks j : Nat} (hc : kc ≤ 600000) (hs : ks ≤ 7302250) (hj : j + 3 < L) (hL : L < 2 ^ 31) {w : XW} (hI : Inv w) (hk : ∀ w, Inv w → YL l g b L xs 836 [(3, .int (nI j)), (1, .ref 0), (2, .ref 127)] [] w kc ks) : YL l g b L xs 355 [(3, .int (nI j)), (1, .ref 0), (2, .ref 127)] [] w kc ks := by
  obtain ⟨S, G, r, n, E, en, c, cs, P, T, N, A, Z, B, c2, rfl, hR, hH, hr, hn, hc7, hd7⟩ := hI
  obtain ⟨kw, hkw, ekw, -⟩ := r_432 hR
  obtain ⟨q1, q2⟩ := q_wd hR (xs (j + 1))
  refine y_aload_n 1 dL_law_355 rfl ?_
  refine y_sld 0 (a := 1) rfl rfl (by omega) hL dL_law_356 dL_law_357 dL_law_358 dL_law_359 dL_law_360 ?_
  refine y_callS (x_iV dL_law_361 mlL_44 lbX6_word rfl rfl rfl rfl) (kX6_word l g S G r n E en (nf c) cs P T (xs (j + 1))) (by decide) rfl rfl hc hs (by simp [Value.category]) (wN_len _ _ _ _ _ _ _ _ _ _) (wN_ok _ _ _ _ _ _ _ _ _ _) (by simp [xok]) rfl (fun v w1 h1 => by obtain ⟨-, rfl⟩ := h1; exact wN_both _ _ _ _ _ _ _ _ _ _) (fun v1 w1 h1 => ?_)
  obtain ⟨rfl, rfl⟩ := h1
  refine y_aload_n 2 dL_law_364 rfl ?_
  refine y_sld 0 (a := 1) rfl rfl (by omega) hL dL_law_365 dL_law_366 dL_law_367 dL_law_368 dL_law_369 ?_
  refine y_callM (wN_len _ _ _ _ _ _ _ _ _ _) (x_iV dL_law_370 mlL_47 lbX7_word rfl rfl rfl rfl) (kX7_word l g N A Z B (nI n) (nf c2) (xs (j + 1)) kw hkw ekw) (by decide) rfl rfl hc hs (by simp [Value.category]) rfl (fun v2 w2 h2 => ?_)
  obtain ⟨rfl, rfl⟩ := h2
  refine ⟨cond (okWm N (xs (j + 1))) (mWo N (xs (j + 1))) N, A, Z, B, nI n, nf c2, rfl, ?_⟩
  refine y_icmp_eq_t (tgt := 836) dL_law_373 (by decide) (q1.symm) ?_
  exact hk _ ⟨cond (okWord S (xs (j + 1))) (sWait S (xs (j + 1))) S, G, r, n, E, en, c, cs, P, T, cond (okWm N (xs (j + 1))) (mWo N (xs (j + 1))) N, A, Z, B, c2, rfl, q2, hH, hr, hn, hc7, hd7⟩

theorem cond_both {b : Bool} {w w' : XW} (h1 : w.length = 127 ∧ xwok w) (h2 : w'.length = 127 ∧ xwok w') : (cond b w w').length = 127 ∧ xwok (cond b w w') := by
  cases b with
  | false => exact h2
  | true => exact h1

set_option maxRecDepth 100000 in
set_option maxHeartbeats 4000000 in
theorem yc_audit {l : Launch} {g : XG} {b L : Nat} {xs : Nat → Int32} {kc ks j : Nat} (hc : kc ≤ 600000) (hs : ks ≤ 7302250) (hj : j + 3 < L) (hL : L < 2 ^ 31) {w : XW} (hI : Inv w) (hk : ∀ w, Inv w → YL l g b L xs 836 [(3, .int (nI j)), (1, .ref 0), (2, .ref 127)] [] w kc ks) : YL l g b L xs 629 [(3, .int (nI j)), (1, .ref 0), (2, .ref 127)] [] w kc ks := by
  obtain ⟨S, G, r, n, E, en, c, cs, P, T, N, A, Z, B, c2, rfl, hR, hH, hr, hn, hc7, hd7⟩ := hI
  refine y_aload_n 1 dL_law_629 rfl ?_
  refine y_sld 0 (a := 1) rfl rfl (by omega) hL dL_law_630 dL_law_631 dL_law_632 dL_law_633 dL_law_634 ?_
  refine y_sld 0 (a := 2) rfl rfl (by omega) hL dL_law_635 dL_law_636 dL_law_637 dL_law_638 dL_law_639 ?_
  refine y_sld 0 (a := 3) rfl rfl (by omega) hL dL_law_640 dL_law_641 dL_law_642 dL_law_643 dL_law_644 ?_
  refine y_callS (x_iV dL_law_645 mlL_76 lbX6_audit rfl rfl rfl rfl) (kX6_audit l g S G r n E en (nf c) cs P T (xs (j + 1)) (xs (j + 2)) (xs (j + 3)) hr hn (r_er hR)) (by decide) rfl rfl hc hs (by simp [Value.category]) (wN_len _ _ _ _ _ _ _ _ _ _) (wN_ok _ _ _ _ _ _ _ _ _ _) (by simp [xok]) rfl (fun v w1 h1 => by obtain ⟨-, rfl⟩ := h1; exact cond_both (wN_both _ _ _ _ _ _ _ _ _ _) (wN_both _ _ _ _ _ _ _ _ _ _)) (fun v1 w1 h1 => ?_)
  obtain ⟨rfl, rfl⟩ := h1
  obtain ⟨q1, q2, q3⟩ := q_au hR (xs (j + 1)) (xs (j + 2)) (xs (j + 3))
  cases hok : (okAud S (xs (j + 1)) (xs (j + 2)) (xs (j + 3)) && okAud2 S (xs (j + 1)) (xs (j + 2))) with
  | false =>
    rw [cond_false]
    refine y_aload_n 2 dL_law_648 rfl ?_
    refine y_sld 0 (a := 1) rfl rfl (by omega) hL dL_law_649 dL_law_650 dL_law_651 dL_law_652 dL_law_653 ?_
    refine y_sld 0 (a := 2) rfl rfl (by omega) hL dL_law_654 dL_law_655 dL_law_656 dL_law_657 dL_law_658 ?_
    refine y_sld 0 (a := 3) rfl rfl (by omega) hL dL_law_659 dL_law_660 dL_law_661 dL_law_662 dL_law_663 ?_
    refine y_callM (wN_len _ _ _ _ _ _ _ _ _ _) (x_iV dL_law_664 mlL_79 lbX7_audit rfl rfl rfl rfl) (kX7_audit l g N A Z B (nf c2) n (xs (j + 1)) (xs (j + 2)) (xs (j + 3)) hn (r_ok3 hR)) (by decide) rfl rfl hc hs (by simp [Value.category]) rfl (fun v2 w2 h2 => ?_)
    obtain ⟨rfl, rfl⟩ := h2
    refine ⟨N, A, Z, B, nI n, nf c2, mC_f (q2.trans hok), ?_⟩
    refine y_icmp_eq_t (tgt := 836) dL_law_667 (by decide) (q1.symm) ?_
    exact hk _ ⟨S, G, r, n, E, en, c, cs, P, T, N, A, Z, B, c2, rfl, hR, hH, hr, hn, hc7, hd7⟩
  | true =>
    rw [cond_true]
    refine y_aload_n 2 dL_law_648 rfl ?_
    refine y_sld 0 (a := 1) rfl rfl (by omega) hL dL_law_649 dL_law_650 dL_law_651 dL_law_652 dL_law_653 ?_
    refine y_sld 0 (a := 2) rfl rfl (by omega) hL dL_law_654 dL_law_655 dL_law_656 dL_law_657 dL_law_658 ?_
    refine y_sld 0 (a := 3) rfl rfl (by omega) hL dL_law_659 dL_law_660 dL_law_661 dL_law_662 dL_law_663 ?_
    refine y_callM (wN_len _ _ _ _ _ _ _ _ _ _) (x_iV dL_law_664 mlL_79 lbX7_audit rfl rfl rfl rfl) (kX7_audit l g N A Z B (nf c2) n (xs (j + 1)) (xs (j + 2)) (xs (j + 3)) hn (r_ok3 hR)) (by decide) rfl rfl hc hs (by simp [Value.category]) rfl (fun v2 w2 h2 => ?_)
    obtain ⟨rfl, rfl⟩ := h2
    refine ⟨mAuN N (xs (j + 1)) (xs (j + 2)) (xs (j + 3)), A, Z, mKB B N n, nI (recN n), nf c2, mC_t (q2.trans hok), ?_⟩
    refine y_icmp_eq_t (tgt := 836) dL_law_667 (by decide) (q1.symm) ?_
    obtain ⟨g1, g2, g3⟩ := HH_rec hR hH hr hn
    exact hk _ ⟨sAud S (xs (j + 1)) (xs (j + 2)) (xs (j + 3)), recG G r n S, recR r n, recN n, (chE S (xs (j + 1)) (xs (j + 2)) E 8).1, (nI (chE S (xs (j + 1)) (xs (j + 2)) E 8).2), c, cs, P, T, mAuN N (xs (j + 1)) (xs (j + 2)) (xs (j + 3)), A, Z, mKB B N n, c2, rfl, q3 hok, g1, g2, g3, hc7, hd7⟩

set_option maxRecDepth 100000 in
set_option maxHeartbeats 4000000 in
theorem yc_passingSeeds {l : Launch} {g : XG} {b L : Nat} {xs : Nat → Int32} {kc ks j : Nat} (hc : kc ≤ 600000) (hs : ks ≤ 7302250) (hj : j + 3 < L) (hL : L < 2 ^ 31) {w : XW} (hI : Inv w) (hk : ∀ w, Inv w → YL l g b L xs 836 [(3, .int (nI j)), (1, .ref 0), (2, .ref 127)] [] w kc ks) : YL l g b L xs 672 [(3, .int (nI j)), (1, .ref 0), (2, .ref 127)] [] w kc ks := by
  obtain ⟨S, G, r, n, E, en, c, cs, P, T, N, A, Z, B, c2, rfl, hR, hH, hr, hn, hc7, hd7⟩ := hI
  refine y_aload_n 1 dL_law_672 rfl ?_
  refine y_sld 0 (a := 1) rfl rfl (by omega) hL dL_law_673 dL_law_674 dL_law_675 dL_law_676 dL_law_677 ?_
  refine y_sld 0 (a := 2) rfl rfl (by omega) hL dL_law_678 dL_law_679 dL_law_680 dL_law_681 dL_law_682 ?_
  refine y_callS (x_iV dL_law_683 mlL_80 lbX6_passingSeeds rfl rfl rfl rfl) (kX6_passingSeeds l g S G r n E en (nf c) cs P T (xs (j + 1)) (xs (j + 2)) (r_er hR)) (by decide) rfl rfl hc hs (by simp [Value.category]) (wN_len _ _ _ _ _ _ _ _ _ _) (wN_ok _ _ _ _ _ _ _ _ _ _) (by simp [xok]) rfl (fun v w1 h1 => by obtain ⟨-, rfl⟩ := h1; exact cond_both (wN_both _ _ _ _ _ _ _ _ _ _) (wN_both _ _ _ _ _ _ _ _ _ _)) (fun v1 w1 h1 => ?_)
  obtain ⟨rfl, rfl⟩ := h1
  cases hok : twoB S (xs (j + 1)) (xs (j + 2)) with
  | false =>
    rw [cond_false]
    refine y_aload_n 2 dL_law_686 rfl ?_
    refine y_sld 0 (a := 1) rfl rfl (by omega) hL dL_law_687 dL_law_688 dL_law_689 dL_law_690 dL_law_691 ?_
    refine y_sld 0 (a := 2) rfl rfl (by omega) hL dL_law_692 dL_law_693 dL_law_694 dL_law_695 dL_law_696 ?_
    refine y_callM (P := fun v w1 => v = vPSm N (xs (j + 1)) (xs (j + 2)) ∧ w1 = wM N A Z B (nI n) (nf c2)) (as := [.ref 0, .int (xs (j + 1)), .int (xs (j + 2))]) (st := [.int (vPS S (xs (j + 1)) (xs (j + 2)))]) (wN_len _ _ _ _ _ _ _ _ _ _) (x_iV dL_law_697 mlL_83 lbX7_passingSeeds rfl rfl rfl rfl) (by rw [← Qp_Qi]; exact kX7_passingSeeds l g N A Z B (nI n) (nf c2) (xs (j + 1)) (xs (j + 2)) (r_ok3 hR)) (by decide) rfl rfl hc hs (by simp [Value.category]) rfl (fun v2 w2 h2 => ?_)
    obtain ⟨rfl, rfl⟩ := h2
    refine ⟨N, A, Z, B, nI n, nf c2, rfl, ?_⟩
    refine y_icmp_eq_t (tgt := 836) dL_law_700 (by decide) ((q_ps hR _ _).symm) ?_
    exact hk _ ⟨S, G, r, n, E, en, c, cs, P, T, N, A, Z, B, c2, rfl, hR, hH, hr, hn, hc7, hd7⟩
  | true =>
    rw [cond_true]
    refine y_aload_n 2 dL_law_686 rfl ?_
    refine y_sld 0 (a := 1) rfl rfl (by omega) hL dL_law_687 dL_law_688 dL_law_689 dL_law_690 dL_law_691 ?_
    refine y_sld 0 (a := 2) rfl rfl (by omega) hL dL_law_692 dL_law_693 dL_law_694 dL_law_695 dL_law_696 ?_
    refine y_callM (P := fun v w1 => v = vPSm N (xs (j + 1)) (xs (j + 2)) ∧ w1 = wM N A Z B (nI n) (nf c2)) (as := [.ref 0, .int (xs (j + 1)), .int (xs (j + 2))]) (st := [.int (vPS S (xs (j + 1)) (xs (j + 2)))]) (wN_len _ _ _ _ _ _ _ _ _ _) (x_iV dL_law_697 mlL_83 lbX7_passingSeeds rfl rfl rfl rfl) (by rw [← Qp_Qi]; exact kX7_passingSeeds l g N A Z B (nI n) (nf c2) (xs (j + 1)) (xs (j + 2)) (r_ok3 hR)) (by decide) rfl rfl hc hs (by simp [Value.category]) rfl (fun v2 w2 h2 => ?_)
    obtain ⟨rfl, rfl⟩ := h2
    refine ⟨N, A, Z, B, nI n, nf c2, rfl, ?_⟩
    refine y_icmp_eq_t (tgt := 836) dL_law_700 (by decide) ((q_ps hR _ _).symm) ?_
    exact hk _ ⟨S, G, r, n, (chE S (xs (j + 1)) (xs (j + 2)) E 8).1, (nI (chE S (xs (j + 1)) (xs (j + 2)) E 8).2), c, cs, P, T, N, A, Z, B, c2, rfl, hR, hH, hr, hn, hc7, hd7⟩

set_option maxRecDepth 100000 in
set_option maxHeartbeats 4000000 in
theorem yc_undo {l : Launch} {g : XG} {b L : Nat} {xs : Nat → Int32} {kc ks j : Nat} (hc : kc ≤ 600000) (hs : ks ≤ 7302250) (hj : j + 3 < L) (hL : L < 2 ^ 31) {w : XW} (hI : Inv w) (hk : ∀ w, Inv w → YL l g b L xs 836 [(3, .int (nI j)), (1, .ref 0), (2, .ref 127)] [] w kc ks) : YL l g b L xs 751 [(3, .int (nI j)), (1, .ref 0), (2, .ref 127)] [] w kc ks := by
  obtain ⟨S, G, r, n, E, en, c, cs, P, T, N, A, Z, B, c2, rfl, hR, hH, hr, hn, hc7, hd7⟩ := hI
  cases n with
  | zero =>
    refine y_aload_n 1 dL_law_751 rfl ?_
    refine y_callS (P := fun v w1 => v = -10002 ∧ w1 = wN S (tX G r 0 E en (nf c) cs P T)) (as := [.ref 0]) (st := []) (x_iV dL_law_752 mlL_92 lbX6_undo rfl rfl rfl rfl) (by rw [← Qp_Qi]; exact kX6_undo0 l g S G r E en (nf c) cs P T) (by decide) rfl rfl hc hs (by simp [Value.category]) (wN_len _ _ _ _ _ _ _ _ _ _) (wN_ok _ _ _ _ _ _ _ _ _ _) (by simp [xok]) rfl (fun v w1 h1 => by obtain ⟨-, rfl⟩ := h1; exact wN_both _ _ _ _ _ _ _ _ _ _) (fun v1 w1 h1 => ?_)
    obtain ⟨rfl, rfl⟩ := h1
    refine y_aload_n 2 dL_law_755 rfl ?_
    refine y_callM (P := fun v w1 => v = -10002 ∧ w1 = wM N A Z B (nI 0) (nf c2)) (as := [.ref 0]) (st := [.int (-10002)]) (wN_len _ _ _ _ _ _ _ _ _ _) (x_iV dL_law_756 mlL_96 lbX7_undo rfl rfl rfl rfl) (by rw [← Qp_Qi]; exact kX7_undo0 l g N A Z B (nf c2)) (by decide) rfl rfl hc hs (by simp [Value.category]) rfl (fun v2 w2 h2 => ?_)
    obtain ⟨rfl, rfl⟩ := h2
    refine ⟨N, A, Z, B, nI 0, nf c2, rfl, ?_⟩
    refine y_icmp_eq_t (tgt := 836) dL_law_759 (by decide) (rfl) ?_
    exact hk _ ⟨S, G, r, 0, E, en, c, cs, P, T, N, A, Z, B, c2, rfl, hR, hH, hr, hn, hc7, hd7⟩
  | succ n =>
    refine y_aload_n 1 dL_law_751 rfl ?_
    refine y_callS (x_iV dL_law_752 mlL_92 lbX6_undo rfl rfl rfl rfl) (kX6_undo l g S G r n E en (nf c) cs P T hr (by omega)) (by decide) rfl rfl hc hs (by simp [Value.category]) (wN_len _ _ _ _ _ _ _ _ _ _) (wN_ok _ _ _ _ _ _ _ _ _ _) (by simp [xok]) rfl (fun v w1 h1 => by obtain ⟨-, rfl⟩ := h1; exact wN_both _ _ _ _ _ _ _ _ _ _) (fun v1 w1 h1 => ?_)
    obtain ⟨rfl, rfl⟩ := h1
    refine y_aload_n 2 dL_law_755 rfl ?_
    refine y_callM (wN_len _ _ _ _ _ _ _ _ _ _) (x_iV dL_law_756 mlL_96 lbX7_undo rfl rfl rfl rfl) (kX7_undo l g N A Z B (nf c2) n (by omega)) (by decide) rfl rfl hc hs (by simp [Value.category]) rfl (fun v2 w2 h2 => ?_)
    obtain ⟨rfl, rfl⟩ := h2
    refine ⟨fun x => B (439 * n + x), A, Z, B, nI n, nf c2, rfl, ?_⟩
    refine y_icmp_eq_t (tgt := 836) dL_law_759 (by decide) (rfl) ?_
    exact hk _ ⟨G ((n + r) % 5), G, r, n, E, en, c, cs, P, T, fun x => B (439 * n + x), A, Z, B, c2, rfl, hH n (by omega), fun i hi => hH i (by omega), hr, by omega, hc7, hd7⟩

set_option maxRecDepth 100000 in
set_option maxHeartbeats 4000000 in
theorem yc_leavers {l : Launch} {g : XG} {b L : Nat} {xs : Nat → Int32} {kc ks j : Nat} (hc : kc ≤ 600000) (hs : ks ≤ 7302250) (hj : j + 3 < L) (hL : L < 2 ^ 31) {w : XW} (hI : Inv w) (hk : ∀ w, Inv w → YL l g b L xs 836 [(3, .int (nI j)), (1, .ref 0), (2, .ref 127)] [] w kc ks) : YL l g b L xs 800 [(3, .int (nI j)), (1, .ref 0), (2, .ref 127)] [] w kc ks := by
  obtain ⟨S, G, r, n, E, en, c, cs, P, T, N, A, Z, B, c2, rfl, hR, hH, hr, hn, hc7, hd7⟩ := hI
  refine y_aload_n 1 dL_law_800 rfl ?_
  refine y_callS (x_iV dL_law_801 mlL_105 lbX6_leavers rfl rfl rfl rfl) (kX6_leavers l g S G r n E en (nf c) cs P T) (by decide) rfl rfl hc hs (by simp [Value.category]) (wN_len _ _ _ _ _ _ _ _ _ _) (wN_ok _ _ _ _ _ _ _ _ _ _) (by simp [xok]) rfl (fun v w1 h1 => by obtain ⟨_, _, -, rfl⟩ := h1; exact wN_both _ _ _ _ _ _ _ _ _ _) (fun v1 w1 h1 => ?_)
  obtain ⟨P2, T2, rfl, rfl⟩ := h1
  obtain ⟨q1, q2, q3⟩ := q_lvs 12 hR (cntB_le _ 12)
  refine y_aload_n 2 dL_law_804 rfl ?_
  refine y_callM (wN_len _ _ _ _ _ _ _ _ _ _) (x_iV dL_law_805 mlL_108 lbX7_leavers rfl rfl rfl rfl) (kX7_leavers l g N A Z B (nI n) (nf c2) (lvrs S 12) q1 q2 q3) (by decide) rfl rfl hc hs (by simp [Value.category]) rfl (fun v2 w2 h2 => ?_)
  obtain ⟨Z2, rfl, rfl⟩ := h2
  refine ⟨N, N, Z2, B, nI n, nf c2, rfl, ?_⟩
  refine y_icmp_eq_t (tgt := 836) dL_law_808 (by decide) (rfl) ?_
  exact hk _ ⟨S, G, r, n, E, en, c, cs, P2, T2, N, N, Z2, B, c2, rfl, hR, hH, hr, hn, hc7, hd7⟩

theorem dc_no {S : MS} {N : Nat → Int32} (h : RR S N) {f s i : Int32} (hno : (okDec S f s i && ssB S f s) = false) : (dcA N f s i && dcC N f s && !lsB N (cl f) s (cl (mFr N (cl f)))) = false := by
  rw [← r_dc h]
  cases hd : okDec S f s i with
  | false => rfl
  | true =>
    rw [hd, Bool.true_and] at hno
    have hd2 := hd
    simp only [okDec, Bool.and_eq_true] at hd2
    obtain ⟨a, x, ha, hx, rfl, rfl, hx6⟩ := hd_ex h hd2.1
    have h1 := (h.f ha).1
    rw [ssB, cl_fn h ha, ls_ss h ha (by omega) _ _ (by omega)] at hno
    rw [Bool.true_and, cl_nI (by omega), r_fr h ha, cl_fn h ha]; exact hno

set_option maxRecDepth 100000 in
set_option maxHeartbeats 4000000 in
theorem yc_decode {l : Launch} {g : XG} {b L : Nat} {xs : Nat → Int32} {kc ks j : Nat} (hc : kc ≤ 600000) (hs : ks ≤ 7302250) (hj : j + 3 < L) (hL : L < 2 ^ 31) {w : XW} (hI : Inv w) (hk : ∀ w, Inv w → YL l g b L xs 836 [(3, .int (nI j)), (1, .ref 0), (2, .ref 127)] [] w kc ks) : YL l g b L xs 543 [(3, .int (nI j)), (1, .ref 0), (2, .ref 127)] [] w kc ks := by
  obtain ⟨S, G, r, n, E, en, c, cs, P, T, N, A, Z, B, c2, rfl, hR, hH, hr, hn, hc7, hd7⟩ := hI
  cases hok : (okDec S (xs (j + 1)) (xs (j + 2)) (xs (j + 3)) && ssB S (xs (j + 1)) (xs (j + 2))) with
  | false =>
    have hno := dc_no hR hok
    refine y_aload_n 1 dL_law_543 rfl ?_
    refine y_sld 0 (a := 1) rfl rfl (by omega) hL dL_law_544 dL_law_545 dL_law_546 dL_law_547 dL_law_548 ?_
    refine y_sld 0 (a := 2) rfl rfl (by omega) hL dL_law_549 dL_law_550 dL_law_551 dL_law_552 dL_law_553 ?_
    refine y_sld 0 (a := 3) rfl rfl (by omega) hL dL_law_554 dL_law_555 dL_law_556 dL_law_557 dL_law_558 ?_
    refine y_callS (P := fun v w1 => v = (if okDec S (xs (j + 1)) (xs (j + 2)) (xs (j + 3)) then -10004 else -10001) ∧ w1 = wN S (tX G r n E en (nf c) cs P T)) (as := [.ref 0, .int (xs (j + 1)), .int (xs (j + 2)), .int (xs (j + 3))]) (st := []) (x_iV dL_law_559 mlL_68 lbX6_decode rfl rfl rfl rfl) (by rw [← Qp_Qi]; exact kX6_decode_no l g S G r n E en (nf c) cs P T (xs (j + 1)) (xs (j + 2)) (xs (j + 3)) hok) (by decide) rfl rfl hc hs (by simp [Value.category]) (wN_len _ _ _ _ _ _ _ _ _ _) (wN_ok _ _ _ _ _ _ _ _ _ _) (by simp [xok]) rfl (fun v w1 h1 => by obtain ⟨-, rfl⟩ := h1; exact wN_both _ _ _ _ _ _ _ _ _ _) (fun v1 w1 h1 => ?_)
    obtain ⟨rfl, rfl⟩ := h1
    refine y_aload_n 2 dL_law_562 rfl ?_
    refine y_sld 0 (a := 1) rfl rfl (by omega) hL dL_law_563 dL_law_564 dL_law_565 dL_law_566 dL_law_567 ?_
    refine y_sld 0 (a := 2) rfl rfl (by omega) hL dL_law_568 dL_law_569 dL_law_570 dL_law_571 dL_law_572 ?_
    refine y_sld 0 (a := 3) rfl rfl (by omega) hL dL_law_573 dL_law_574 dL_law_575 dL_law_576 dL_law_577 ?_
    refine y_callM (P := fun v w1 => v = (if dcA N (xs (j + 1)) (xs (j + 2)) (xs (j + 3)) && dcC N (xs (j + 1)) (xs (j + 2)) then -10004 else -10001) ∧ w1 = wM N A Z B (nI n) (nf c2)) (as := [.ref 0, .int (xs (j + 1)), .int (xs (j + 2)), .int (xs (j + 3))]) (st := [.int (if okDec S (xs (j + 1)) (xs (j + 2)) (xs (j + 3)) then -10004 else -10001)]) (wN_len _ _ _ _ _ _ _ _ _ _) (x_iV dL_law_578 mlL_71 lbX7_decode rfl rfl rfl rfl) (by rw [← Qp_Qi]; exact kX7_decode_no l g N A Z B (nI n) (nf c2) (xs (j + 1)) (xs (j + 2)) (xs (j + 3)) (r_ok hR) hno) (by decide) rfl rfl hc hs (by simp [Value.category]) rfl (fun v2 w2 h2 => ?_)
    obtain ⟨rfl, rfl⟩ := h2
    refine ⟨N, A, Z, B, nI n, nf c2, rfl, ?_⟩
    refine y_icmp_eq_t (tgt := 836) dL_law_581 (by decide) (by rw [r_dc hR]) ?_
    exact hk _ ⟨S, G, r, n, E, en, c, cs, P, T, N, A, Z, B, c2, rfl, hR, hH, hr, hn, hc7, hd7⟩
  | true =>
    generalize ef : (xs (j + 1)) = ff at hok
    generalize es : (xs (j + 2)) = ss at hok
    generalize ei : (xs (j + 3)) = ii at hok
    obtain ⟨a, k, x, hfa, hix, ha, hk6, hx, hbc, hcn, hsv, hkN, hdA, hcn2, hls, hall⟩ := q_dc hR hok
    obtain ⟨hp1, hp2, hval⟩ := hall c c2
    subst hfa
    subst hix
    refine y_aload_n 1 dL_law_543 rfl ?_
    refine y_sld 0 (a := 1) rfl rfl (by omega) hL dL_law_544 dL_law_545 dL_law_546 dL_law_547 dL_law_548 ?_
    refine y_sld 0 (a := 2) rfl rfl (by omega) hL dL_law_549 dL_law_550 dL_law_551 dL_law_552 dL_law_553 ?_
    refine y_sld 0 (a := 3) rfl rfl (by omega) hL dL_law_554 dL_law_555 dL_law_556 dL_law_557 dL_law_558 ?_
    rw [ef, es, ei]
    refine y_callS (x_iV dL_law_559 mlL_68 lbX6_decode rfl rfl rfl rfl) (kX6_decode l g S G r n E en c cs P T a k x ss (mVn N a) ha hk6 hbc hcn hsv hc7 (fun i _ => Nat.mod_lt _ (by decide)) hx hp1 hok) (by decide) rfl rfl hc hs (by simp [Value.category]) (wN_len _ _ _ _ _ _ _ _ _ _) (wN_ok _ _ _ _ _ _ _ _ _ _) (by simp [xok]) rfl (fun v w1 h1 => by obtain ⟨-, rfl⟩ := h1; exact wN_both _ _ _ _ _ _ _ _ _ _) (fun v1 w1 h1 => ?_)
    obtain ⟨rfl, rfl⟩ := h1
    refine y_aload_n 2 dL_law_562 rfl ?_
    refine y_sld 0 (a := 1) rfl rfl (by omega) hL dL_law_563 dL_law_564 dL_law_565 dL_law_566 dL_law_567 ?_
    refine y_sld 0 (a := 2) rfl rfl (by omega) hL dL_law_568 dL_law_569 dL_law_570 dL_law_571 dL_law_572 ?_
    refine y_sld 0 (a := 3) rfl rfl (by omega) hL dL_law_573 dL_law_574 dL_law_575 dL_law_576 dL_law_577 ?_
    rw [ef, es, ei]
    refine y_callM (wN_len _ _ _ _ _ _ _ _ _ _) (x_iV dL_law_578 mlL_71 lbX7_decode rfl rfl rfl rfl) (kX7_decode l g N A Z B (nI n) c2 a k x ss ha hk6 hx (r_ok hR) (r_ok3 hR) hkN hdA hcn2 hls hd7 hp2) (by decide) rfl rfl hc hs (by simp [Value.category]) rfl (fun v2 w2 h2 => ?_)
    obtain ⟨rfl, rfl⟩ := h2
    refine ⟨N, A, Z, B, nI n, nf (slI (suL c2 (bitB ss) (mVn N a) k (cl (mFr N a))) k k), rfl, ?_⟩
    refine y_icmp_eq_t (tgt := 836) dL_law_581 (by decide) (congrArg nI hval) ?_
    exact hk _ ⟨S, G, r, n, E, en, elI (suC c (bitB ss) (mVn N a) k 10) k k, nI k, P, T, N, A, Z, B, slI (suL c2 (bitB ss) (mVn N a) k (cl (mFr N a))) k k, rfl, hR, hH, hr, hn, lt_elI (lt_suC hc7 (fun i _ => Nat.mod_lt _ (by decide)) k 10 (Nat.le_refl _)) k k, lt_slI (lt_suL hd7 (fun i => Nat.mod_lt _ (by decide)) k _) k k⟩
