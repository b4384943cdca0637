set_option maxRecDepth 100000 in
set_option maxHeartbeats 4000000 in
theorem luX7_solves (l : Launch) (g : XG) (N A Z B : Nat → Int32) (u : Int32) (c : Nat → Nat) (k col : Nat) (Q0 : Option Value → XW → Prop) (hcol : col < k) (hk : k ≤ 6) (hc : lt257 c) (hpv : pvC c k col < k) (hk2 : XA l g MX7_solves Q0 228 ([some (.ref 0), some (.int (nI k)), some (.int (nI col)), none, none, none, none, none]) [] (wM N A Z B u (nf (elL c k col))) 0 0) : XA l g MX7_solves Q0 9 ((fun i => [some (.ref 0), some (.int (nI k)), some (.int (nI col)), some (.int (nI (col + (i)))), none, none, none, none]) 0) ((fun _ => []) 0) ((fun _ => wM N A Z B u (nf (c))) 0) 0 0 := by
  refine x_for (pvC c k col - col) (fun _ => True) (fun i => [some (.ref 0), some (.int (nI k)), some (.int (nI col)), some (.int (nI (col + (i)))), none, none, none, none]) (fun _ => []) (fun _ => wM N A Z B u (nf (c))) trivial (fun i hi hp ih => ?_) (fun hp => ?_)
  · have hi2 : col + i < k := by have := hpv; omega
    have hz : c (7 * (col + i) + col) = 0 := of_decide_eq_true (fsN_lt (fun r => decide (c (7 * r + col) = 0)) (k - col) col (col + i) (by omega) (show col + i < pvC c k col by omega))
    refine x_aload_n dX7_solves_9 rfl ?_
    refine x_getf dX7_solves_10 flX7_22 rfl rfl ?_
    refine x_bipush (v := 7) dX7_solves_13 (by decide) ?_
    refine x_iload_n dX7_solves_15 rfl ?_
    refine x_imul dX7_solves_16 ?_
    refine x_iload_n dX7_solves_17 rfl ?_
    refine x_iadd dX7_solves_18 ?_
    refine x_iar dX7_solves_19 rfl (i7x (by omega)) ?_
    refine x_if_ne_f (tgt := 29) dX7_solves_20 (by decide) (show nI (c (7 * (col + i) + col)) = 0 from by rw [hz]; rfl) ?_
    first | refine x_iinc dX7_solves_23 (by decide) rfl (nI_inc _) ?_ | refine x_iinc dX7_solves_23 (by decide) rfl (inc_1 _) ?_
    refine x_goto (tgt := 9) dX7_solves_26 (by decide) ?_
    exact x_eq (ih trivial) rfl rfl rfl
  · have hge : col ≤ pvC c k col := (fsN_le (fun r => decide (c (7 * r + col) = 0)) (k - col) col).1
    have hz : ¬ c (7 * (pvC c k col) + col) = 0 := of_decide_eq_false (fsN_at (fun r => decide (c (7 * r + col) = 0)) (k - col) col (show pvC c k col < col + (k - col) by omega))
    rw [show col + (pvC c k col - col) = pvC c k col by omega]
    refine x_aload_n dX7_solves_9 rfl ?_
    refine x_getf dX7_solves_10 flX7_22 rfl rfl ?_
    refine x_bipush (v := 7) dX7_solves_13 (by decide) ?_
    refine x_iload_n dX7_solves_15 rfl ?_
    refine x_imul dX7_solves_16 ?_
    refine x_iload_n dX7_solves_17 rfl ?_
    refine x_iadd dX7_solves_18 ?_
    refine x_iar dX7_solves_19 rfl (i7x (by omega)) ?_
    refine x_if_ne_t (tgt := 29) dX7_solves_20 (by decide) (show ¬ nI (c (7 * (pvC c k col) + col)) = 0 from nI_n0 (by have := hc (7 * (pvC c k col) + col); omega) hz) ?_
    refine x_aload_n dX7_solves_29 rfl ?_
    refine x_getf dX7_solves_30 flX7_22 rfl rfl ?_
    refine x_bipush (v := 7) dX7_solves_33 (by decide) ?_
    refine x_iload_n dX7_solves_35 rfl ?_
    refine x_imul dX7_solves_36 ?_
    refine x_iload_n dX7_solves_37 rfl ?_
    refine x_iadd dX7_solves_38 ?_
    refine x_iar dX7_solves_39 rfl (i7x (by omega)) ?_
    refine x_sipush (v := 255) dX7_solves_40 (by decide) ?_
    refine x_callp [] (x_iS dX7_solves_43 mlX7_61 lbX7_power rfl) (kX7_power l g (c (7 * (pvC c k col) + col)) 255 (hc _) (by decide)) (by decide) rfl rfl (by decide) (by decide) (by simp [Value.category]) rfl rfl (by decide +kernel) ?_
    refine x_istore dX7_solves_46 (by decide) ?_
    refine x_iconst (v := 0) dX7_solves_48 (by decide) ?_
    refine x_istore dX7_solves_49 (by decide) ?_
    refine x_eq (lv' := [some (.ref 0), some (.int (nI k)), some (.int (nI col)), some (.int (nI (pvC c k col))), some (.int (nI (ivL c (pvC c k col) col))), some (.int (nI (0))), none, none]) (st' := []) (w' := wM N A Z B u (nf (ssC c (pvC c k col) col (ivL c (pvC c k col) col) 0))) ?_ rfl rfl (by exact congrArg (fun zz => List.set (wM N A Z B u (nf c)) 5 (Sum.inl zz)) (ssC_0 _ _ _ _))
    refine lqX7_solves l g N A Z B u c k col (pvC c k col) (ivL c (pvC c k col) col) _ (by omega) (by omega) hk (Nat.mod_lt _ (by decide)) hc ?_
    refine x_iconst (v := 0) dX7_solves_123 (by decide) ?_
    refine x_istore dX7_solves_124 (by decide) ?_
    refine x_eq (lv' := [some (.ref 0), some (.int (nI k)), some (.int (nI col)), some (.int (nI (pvC c k col))), some (.int (nI (ivL c (pvC c k col) col))), some (.int (nI (0))), none, none]) ?_ rfl rfl rfl
    refine lrX7_solves l g N A Z B u (ssC c (pvC c k col) col (ivL c (pvC c k col) col) 7) k col (pvC c k col) (ivL c (pvC c k col) col) _ hcol hk (lt_ssC hc _ _ _ _) ?_
    exact x_le hk2 (by simp [lvle])

set_option maxRecDepth 100000 in
set_option maxHeartbeats 4000000 in
theorem lpX7_solves (l : Launch) (g : XG) (N A Z B : Nat → Int32) (u : Int32) (c : Nat → Nat) (k : Nat) (hk : k ≤ 6) (hc : lt257 c) (hpv : ∀ i, i < k → pvC (slI c k i) k i < k) : XA l g MX7_solves (Qv (fun w1 => w1 = wM N A Z B u (nf (slI c k k)))) 2 ((fun i => [some (.ref 0), some (.int (nI k)), some (.int (nI (i))), none, none, none, none, none]) 0) ((fun _ => []) 0) ((fun i => wM N A Z B u (nf (slI c k i))) 0) 0 0 := by
  refine x_for k (fun _ => True) (fun i => [some (.ref 0), some (.int (nI k)), some (.int (nI (i))), none, none, none, none, none]) (fun _ => []) (fun i => wM N A Z B u (nf (slI c k i))) trivial (fun i hi hp ih => ?_) (fun hp => ?_)
  · refine x_iload_n dX7_solves_2 rfl ?_
    refine x_iload_n dX7_solves_3 rfl ?_
    refine x_icmp_ge_f (tgt := 234) dX7_solves_4 (by decide) (nI_ge hi (by omega)) ?_
    refine x_iload_n dX7_solves_7 rfl ?_
    refine x_istore_n dX7_solves_8 (by decide) ?_
    refine x_eq (lv' := [some (.ref 0), some (.int (nI k)), some (.int (nI i)), some (.int (nI (i + 0))), none, none, none, none]) ?_ rfl rfl rfl
    refine luX7_solves l g N A Z B u (slI c k i) k i _ hi hk (lt_slI hc k i) (hpv i hi) ?_
    refine x_iinc dX7_solves_228 (by decide) rfl (nI_inc _) ?_
    refine x_goto (tgt := 2) dX7_solves_231 (by decide) ?_
    exact x_eq (ih trivial) rfl rfl rfl
  · refine x_iload_n dX7_solves_2 rfl ?_
    refine x_iload_n dX7_solves_3 rfl ?_
    refine x_icmp_ge_t (tgt := 234) dX7_solves_4 (by decide) (nI_le (Nat.le_refl _) (by omega)) ?_
    exact x_retv dX7_solves_234 rfl rfl rfl (⟨rfl, rfl⟩)

set_option maxRecDepth 100000 in
set_option maxHeartbeats 4000000 in
theorem kX7_solves (l : Launch) (g : XG) (N A Z B : Nat → Int32) (u : Int32) (c : Nat → Nat) (k : Nat) (hk : k ≤ 6) (hc : lt257 c) (hpv : ∀ i, i < k → pvC (slI c k i) k i < k) : Ct l g MX7_solves [.ref 0, .int (nI k)] (wM N A Z B u (nf (c))) (Qv (fun w1 => w1 = wM N A Z B u (nf (slI c k k)))) := by
  refine Ct_of (by decide) (by simp [Value.category]) (Nat.le_of_ble_eq_true rfl) ?_
  refine x_iconst (v := 0) dX7_solves_0 (by decide) ?_
  refine x_istore_n dX7_solves_1 (by decide) ?_
  exact lpX7_solves l g N A Z B u c k hk hc hpv

/-! ===== the reference: decode ===== -/
def lsB (N : Nat → Int32) (f : Nat) (s : Int32) : Nat → Bool
  | 0 => false
  | i + 1 => lsB N f s i || (bitB s i && decide (¬ 0 ≤ N (192 + 30 * f + (10 + i))))
def dcA (N : Nat → Int32) (f s i : Int32) : Bool := mIv N f i && rgB s 0 ((1 <<< (mFr N (cl f) &&& 31)) - 1)
def dcC (N : Nat → Int32) (f s : Int32) : Bool := decide (nI (cntB (bitB s) (cl (mFr N (cl f)))) = N (192 + 30 * cl f + 2))
def fcL (k i d : Nat) : Nat := if d < k then facN k i d else 0
theorem fcL_lt (k i d : Nat) : fcL k i d < 257 := by rw [fcL]; split; exact facN_lt _ _ _; decide
def flL (T : Nat → Nat) (r k i j : Nat) : Nat → Nat := fun x => if 7 * r ≤ x ∧ x < 7 * r + j then fcL k i (x - 7 * r) else T x
def fiL (T : Nat → Nat) (r k i v : Nat) : Nat → Nat := fun x => if 7 * r ≤ x ∧ x < 7 * r + 6 then fcL k i (x - 7 * r) else if x = 7 * r + 6 then v else T x
theorem flL_0 (T : Nat → Nat) (r k i : Nat) : row 42 (nf T) = row 42 (nf (flL T r k i 0)) := row_congr fun x _ => by simp only [nf, flL]; rw [if_neg (by omega)]
theorem flL_s (T : Nat → Nat) (r k i j : Nat) : row 42 (upd (nf (flL T r k i j)) (7 * r + j) (nI (fcL k i j))) = row 42 (nf (flL T r k i (j + 1))) := row_congr fun x _ => by
  simp only [upd, nf, flL]
  by_cases e1 : x = 7 * r + j
  · rw [if_pos e1, if_pos (by omega), e1, Nat.add_sub_cancel_left]
  · rw [if_neg e1]
    by_cases e3 : 7 * r ≤ x ∧ x < 7 * r + j
    · rw [if_pos e3, if_pos (by omega)]
    · rw [if_neg e3, if_neg (by omega)]
theorem flL_e (T : Nat → Nat) (r k i v : Nat) : row 42 (upd (nf (flL T r k i 6)) (7 * r + 6) (nI v)) = row 42 (nf (fiL T r k i v)) := row_congr fun x _ => by
  simp only [upd, nf, flL, fiL]
  by_cases e1 : x = 7 * r + 6
  · rw [if_pos e1, if_neg (by omega), if_pos e1]
  · simp only [if_neg e1]
def suL (c : Nat → Nat) (b : Nat → Bool) (sv : Nat → Nat) (k : Nat) : Nat → (Nat → Nat)
  | 0 => c
  | i + 1 => if b i then fiL (suL c b sv k i) (cntB b i) k i (sv i) else suL c b sv k i
theorem lt_suL {c : Nat → Nat} {b : Nat → Bool} {sv : Nat → Nat} (hc : lt257 c) (hs : ∀ i, sv i < 257) (k : Nat) : ∀ i, lt257 (suL c b sv k i)
  | 0 => hc
  | i + 1 => by
    rw [suL]; split
    · intro x
      simp only [fiL]
      split
      · exact fcL_lt _ _ _
      · split
        · exact hs i
        · exact lt_suL hc hs k i x
    · exact lt_suL hc hs k i
def mVn (N : Nat → Int32) (f i : Nat) : Nat := (corN (fun d => cl (N (192 + 30 * f + (4 + d)))) (cl (N (192 + 30 * f + 2))) i + cl (N (192 + 30 * f + (20 + i)))) % 257

set_option maxRecDepth 100000 in
set_option maxHeartbeats 4000000 in
theorem lqX7_decode (l : Launch) (g : XG) (N A Z B : Nat → Int32) (u : Int32) (L : Nat → Int32) (f : Nat) (s x : Int32) (Q0 : Option Value → XW → Prop) (hf : f < 8) (hM : MOk N) (hk : XA l g MX7_decode Q0 140 ([some (.ref 0), some (.int (nI f)), some (.int s), some (.int x), some (.int (N (192 + 30 * f + 2))), some (.int (nI (cntB (bitB s) (cl (mFr N f))))), some (.int (b2i (lsB N f s (cl (mFr N f))))), some (.int (nI (cl (mFr N f)))), none, none]) [] (wM N A Z B u L) 0 0) : XA l g MX7_decode Q0 62 ((fun i => [some (.ref 0), some (.int (nI f)), some (.int s), some (.int x), some (.int (N (192 + 30 * f + 2))), some (.int (nI (cntB (bitB s) (i)))), some (.int (b2i (lsB N f s (i)))), some (.int (nI (i))), none, none]) 0) ((fun _ => []) 0) ((fun _ => wM N A Z B u L) 0) 0 0 := by
  refine x_for (cl (mFr N f)) (fun _ => True) (fun i => [some (.ref 0), some (.int (nI f)), some (.int s), some (.int x), some (.int (N (192 + 30 * f + 2))), some (.int (nI (cntB (bitB s) (i)))), some (.int (b2i (lsB N f s (i)))), some (.int (nI (i))), none, none]) (fun _ => []) (fun _ => wM N A Z B u L) trivial (fun i hi hp ih => ?_) (fun hp => ?_)
  · have hi10 : i < 10 := by have h1 := (hM f hf).1; have h2 : i < cl (N (192 + 30 * f + 2) + N (192 + 30 * f + 3)) := hi; omega
    refine x_iload dX7_decode_62 rfl ?_
    refine x_aload_n dX7_decode_64 rfl ?_
    refine x_iload_n dX7_decode_65 rfl ?_
    refine x_callp [0, 1, 2, 3, 4, 5] (x_iV dX7_decode_66 mlX7_47 lbX7_fragments rfl rfl rfl rfl) (kX7_fragments l g _ _ _ _ _ _ f hf) (by decide) rfl rfl (by decide) (by decide) (by simp [Value.category]) rfl rfl (by decide +kernel) ?_
    refine x_icmp_ge_f (tgt := 140) dX7_decode_69 (by decide) (nge_cl hi) ?_
    refine x_iload_n dX7_decode_72 rfl ?_
    refine x_iload dX7_decode_73 rfl ?_
    refine x_ishr dX7_decode_75 ?_
    refine x_iconst (v := 1) dX7_decode_76 (by decide) ?_
    refine x_iand dX7_decode_77 ?_
    refine x_iconst (v := 1) dX7_decode_78 (by decide) ?_
    refine x_icmp_ne (tgt := 86) dX7_decode_79 (by decide) (fun c_79 => ?_) (fun c_79 => ?_)
    · refine x_iconst (v := 0) dX7_decode_86 (by decide) ?_
      refine x_istore dX7_decode_87 (by decide) ?_
      refine x_iload dX7_decode_89 rfl ?_
      refine x_iload dX7_decode_91 rfl ?_
      refine x_if_eq_t (tgt := 100) dX7_decode_93 (by decide) (rfl) ?_
      refine x_iconst (v := 0) dX7_decode_100 (by decide) ?_
      refine x_iadd dX7_decode_101 ?_
      first | rw [nI_1] | rw [Int32.add_zero]
      refine x_istore dX7_decode_102 (by decide) ?_
      refine x_iload dX7_decode_104 rfl ?_
      refine x_if_ne (tgt := 127) dX7_decode_106 (by decide) (fun c_106 => ?_) (fun c_106 => ?_)
      · refine x_iconst (v := 1) dX7_decode_127 (by decide) ?_
        refine x_goto (tgt := 132) dX7_decode_128 (by decide) ?_
        refine x_istore dX7_decode_132 (by decide) ?_
        first | refine x_iinc dX7_decode_134 (by decide) rfl (nI_inc _) ?_ | refine x_iinc dX7_decode_134 (by decide) rfl (inc_1 _) ?_
        refine x_goto (tgt := 62) dX7_decode_137 (by decide) ?_
        have hb : bitB s i = false := decide_eq_false c_79
        have hl : lsB N f s i = true := b2i_t' c_106
        have e1 := cntB_f (f := bitB s) (n := i) hb
        have e2 : lsB N f s (i + 1) = true := by rw [lsB, hl, hb]; simp [*]
        refine x_eq (x_le (lv' := [some (.ref 0), some (.int (nI f)), some (.int s), some (.int x), some (.int (N (192 + 30 * f + 2))), some (.int (nI (cntB (bitB s) (i + 1)))), some (.int (b2i (lsB N f s (i + 1)))), some (.int (nI (i + 1))), none, none]) (ih trivial) (lv := [some (.ref 0), some (.int (nI f)), some (.int s), some (.int x), some (.int (N (192 + 30 * f + 2))), some (.int (nI (cntB (bitB s) (i + 1)))), some (.int (b2i (lsB N f s (i + 1)))), some (.int (nI (i + 1))), some (.int 0), none]) (by simp [lvle])) (by rw [e1, e2] <;> rfl) rfl rfl
      · refine x_iload dX7_decode_109 rfl ?_
        refine x_if_eq_t (tgt := 131) dX7_decode_111 (by decide) (rfl) ?_
        refine x_iconst (v := 0) dX7_decode_131 (by decide) ?_
        refine x_istore dX7_decode_132 (by decide) ?_
        first | refine x_iinc dX7_decode_134 (by decide) rfl (nI_inc _) ?_ | refine x_iinc dX7_decode_134 (by decide) rfl (inc_1 _) ?_
        refine x_goto (tgt := 62) dX7_decode_137 (by decide) ?_
        have hb : bitB s i = false := decide_eq_false c_79
        have hl : lsB N f s i = false := b2i_f' c_106
        have e1 := cntB_f (f := bitB s) (n := i) hb
        have e2 : lsB N f s (i + 1) = false := by rw [lsB, hl, hb]; simp [*]
        refine x_eq (x_le (lv' := [some (.ref 0), some (.int (nI f)), some (.int s), some (.int x), some (.int (N (192 + 30 * f + 2))), some (.int (nI (cntB (bitB s) (i + 1)))), some (.int (b2i (lsB N f s (i + 1)))), some (.int (nI (i + 1))), none, none]) (ih trivial) (lv := [some (.ref 0), some (.int (nI f)), some (.int s), some (.int x), some (.int (N (192 + 30 * f + 2))), some (.int (nI (cntB (bitB s) (i + 1)))), some (.int (b2i (lsB N f s (i + 1)))), some (.int (nI (i + 1))), some (.int 0), none]) (by simp [lvle])) (by rw [e1, e2] <;> rfl) rfl rfl
    · refine x_iconst (v := 1) dX7_decode_82 (by decide) ?_
      refine x_goto (tgt := 87) dX7_decode_83 (by decide) ?_
      refine x_istore dX7_decode_87 (by decide) ?_
      refine x_iload dX7_decode_89 rfl ?_
      refine x_iload dX7_decode_91 rfl ?_
      refine x_if_eq_f (tgt := 100) dX7_decode_93 (by decide) (by decide) ?_
      refine x_iconst (v := 1) dX7_decode_96 (by decide) ?_
      refine x_goto (tgt := 101) dX7_decode_97 (by decide) ?_
      refine x_iadd dX7_decode_101 ?_
      first | rw [nI_1] | rw [Int32.add_zero]
      refine x_istore dX7_decode_102 (by decide) ?_
      refine x_iload dX7_decode_104 rfl ?_
      refine x_if_ne (tgt := 127) dX7_decode_106 (by decide) (fun c_106 => ?_) (fun c_106 => ?_)
      · refine x_iconst (v := 1) dX7_decode_127 (by decide) ?_
        refine x_goto (tgt := 132) dX7_decode_128 (by decide) ?_
        refine x_istore dX7_decode_132 (by decide) ?_
        first | refine x_iinc dX7_decode_134 (by decide) rfl (nI_inc _) ?_ | refine x_iinc dX7_decode_134 (by decide) rfl (inc_1 _) ?_
        refine x_goto (tgt := 62) dX7_decode_137 (by decide) ?_
        have hb : bitB s i = true := decide_eq_true c_79
        have hl : lsB N f s i = true := b2i_t' c_106
        have e1 := cntB_t (f := bitB s) (n := i) hb
        have e2 : lsB N f s (i + 1) = true := by rw [lsB, hl, hb]; simp [*]
        refine x_eq (x_le (lv' := [some (.ref 0), some (.int (nI f)), some (.int s), some (.int x), some (.int (N (192 + 30 * f + 2))), some (.int (nI (cntB (bitB s) (i + 1)))), some (.int (b2i (lsB N f s (i + 1)))), some (.int (nI (i + 1))), none, none]) (ih trivial) (lv := [some (.ref 0), some (.int (nI f)), some (.int s), some (.int x), some (.int (N (192 + 30 * f + 2))), some (.int (nI (cntB (bitB s) (i + 1)))), some (.int (b2i (lsB N f s (i + 1)))), some (.int (nI (i + 1))), some (.int 1), none]) (by simp [lvle])) (by rw [e1, e2] <;> rfl) rfl rfl
      · refine x_iload dX7_decode_109 rfl ?_
        refine x_if_eq_f (tgt := 131) dX7_decode_111 (by decide) (by decide) ?_
        refine x_aload_n dX7_decode_114 rfl ?_
        refine x_iload_n dX7_decode_115 rfl ?_
        refine x_bipush (v := 10) dX7_decode_116 (by decide) ?_
        refine x_iload dX7_decode_118 rfl ?_
        refine x_iadd dX7_decode_120 ?_
        rw [ad10]
        refine x_callp [0, 1, 2, 3, 4, 5] (x_iV dX7_decode_121 mlX7_29 lbX7_of rfl rfl rfl rfl) (kX7_of l g _ _ _ _ _ _ f (10 + i) hf (by omega)) (by decide) rfl rfl (by decide) (by decide) (by simp [Value.category]) rfl rfl (by decide +kernel) ?_
        refine x_if_ge (tgt := 131) dX7_decode_124 (by decide) (fun c_124 => ?_) (fun c_124 => ?_)
        · refine x_iconst (v := 0) dX7_decode_131 (by decide) ?_
          refine x_istore dX7_decode_132 (by decide) ?_
          first | refine x_iinc dX7_decode_134 (by decide) rfl (nI_inc _) ?_ | refine x_iinc dX7_decode_134 (by decide) rfl (inc_1 _) ?_
          refine x_goto (tgt := 62) dX7_decode_137 (by decide) ?_
          have hb : bitB s i = true := decide_eq_true c_79
          have hl : lsB N f s i = false := b2i_f' c_106
          have e1 := cntB_t (f := bitB s) (n := i) hb
          have e2 : lsB N f s (i + 1) = false := by rw [lsB, hl, hb, decide_eq_false (fun z => z c_124)]; rfl
          refine x_eq (x_le (lv' := [some (.ref 0), some (.int (nI f)), some (.int s), some (.int x), some (.int (N (192 + 30 * f + 2))), some (.int (nI (cntB (bitB s) (i + 1)))), some (.int (b2i (lsB N f s (i + 1)))), some (.int (nI (i + 1))), none, none]) (ih trivial) (lv := [some (.ref 0), some (.int (nI f)), some (.int s), some (.int x), some (.int (N (192 + 30 * f + 2))), some (.int (nI (cntB (bitB s) (i + 1)))), some (.int (b2i (lsB N f s (i + 1)))), some (.int (nI (i + 1))), some (.int 1), none]) (by simp [lvle])) (by rw [e1, e2] <;> rfl) rfl rfl
        · refine x_iconst (v := 1) dX7_decode_127 (by decide) ?_
          refine x_goto (tgt := 132) dX7_decode_128 (by decide) ?_
          refine x_istore dX7_decode_132 (by decide) ?_
          first | refine x_iinc dX7_decode_134 (by decide) rfl (nI_inc _) ?_ | refine x_iinc dX7_decode_134 (by decide) rfl (inc_1 _) ?_
          refine x_goto (tgt := 62) dX7_decode_137 (by decide) ?_
          have hb : bitB s i = true := decide_eq_true c_79
          have hl : lsB N f s i = false := b2i_f' c_106
          have e1 := cntB_t (f := bitB s) (n := i) hb
          have e2 : lsB N f s (i + 1) = true := by rw [lsB, hl, hb, decide_eq_true c_124]; rfl
          refine x_eq (x_le (lv' := [some (.ref 0), some (.int (nI f)), some (.int s), some (.int x), some (.int (N (192 + 30 * f + 2))), some (.int (nI (cntB (bitB s) (i + 1)))), some (.int (b2i (lsB N f s (i + 1)))), some (.int (nI (i + 1))), none, none]) (ih trivial) (lv := [some (.ref 0), some (.int (nI f)), some (.int s), some (.int x), some (.int (N (192 + 30 * f + 2))), some (.int (nI (cntB (bitB s) (i + 1)))), some (.int (b2i (lsB N f s (i + 1)))), some (.int (nI (i + 1))), some (.int 1), none]) (by simp [lvle])) (by rw [e1, e2] <;> rfl) rfl rfl
  · refine x_iload dX7_decode_62 rfl ?_
    refine x_aload_n dX7_decode_64 rfl ?_
    refine x_iload_n dX7_decode_65 rfl ?_
    refine x_callp [0, 1, 2, 3, 4, 5] (x_iV dX7_decode_66 mlX7_47 lbX7_fragments rfl rfl rfl rfl) (kX7_fragments l g _ _ _ _ _ _ f hf) (by decide) rfl rfl (by decide) (by decide) (by simp [Value.category]) rfl rfl (by decide +kernel) ?_
    refine x_icmp_ge_t (tgt := 140) dX7_decode_69 (by decide) (ge_cl) ?_
    exact hk
