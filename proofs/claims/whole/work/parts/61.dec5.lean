/-! ===== the reference: solves ===== -/
def ssC (c : Nat → Nat) (p q v i : Nat) : Nat → Nat := fun x => if 7 * q ≤ x ∧ x < 7 * q + i then c (7 * p + (x - 7 * q)) * v % 257 else if 7 * p ≤ x ∧ x < 7 * p + i then c (7 * q + (x - 7 * p)) else c x
theorem ssC_0 (c : Nat → Nat) (p q v : Nat) : row 42 (nf c) = row 42 (nf (ssC c p q v 0)) := row_congr fun x _ => by simp only [nf, ssC]; rw [if_neg (by omega), if_neg (by omega)]
theorem ssC_at (c : Nat → Nat) (p q v i : Nat) (hi : i < 7) : ssC c p q v i (7 * p + i) = c (7 * p + i) ∧ ssC c p q v i (7 * q + i) = c (7 * q + i) := by
  constructor
  · simp only [ssC]; rw [if_neg (by omega), if_neg (by omega)]
  · simp only [ssC]; rw [if_neg (by omega), if_neg (by omega)]
theorem ssC_s (c : Nat → Nat) {p q v i : Nat} (hi : i < 7) : row 42 (upd (upd (nf (ssC c p q v i)) (7 * p + i) (nI (c (7 * q + i)))) (7 * q + i) (nI (c (7 * p + i) * v % 257))) = row 42 (nf (ssC c p q v (i + 1))) := row_congr fun x _ => by
  simp only [upd, nf]
  by_cases e1 : x = 7 * q + i
  · rw [if_pos e1]
    simp only [ssC]
    rw [if_pos (by omega), e1, Nat.add_sub_cancel_left]
  · rw [if_neg e1]
    by_cases e2 : x = 7 * p + i
    · rw [if_pos e2]; simp only [ssC]
      have n1 : ¬ (7 * q ≤ x ∧ x < 7 * q + (i + 1)) := by omega
      have n2 : 7 * p ≤ x ∧ x < 7 * p + (i + 1) := by omega
      simp only [if_neg n1, if_pos n2]
      rw [e2, Nat.add_sub_cancel_left]
    · rw [if_neg e2]; simp only [ssC]
      by_cases e3 : 7 * q ≤ x ∧ x < 7 * q + i
      · rw [if_pos e3, if_pos (by omega)]
      · have n1 : ¬ (7 * q ≤ x ∧ x < 7 * q + (i + 1)) := by omega
        by_cases e4 : 7 * p ≤ x ∧ x < 7 * p + i
        · have n2 : 7 * p ≤ x ∧ x < 7 * p + (i + 1) := by omega
          simp only [if_neg e3, if_neg n1, if_pos e4, if_pos n2]
        · have n2 : ¬ (7 * p ≤ x ∧ x < 7 * p + (i + 1)) := by omega
          simp only [if_neg e3, if_neg n1, if_neg e4, if_neg n2]
theorem lt_ssC {c : Nat → Nat} (h : lt257 c) (p q v i : Nat) : lt257 (ssC c p q v i) := fun x => by simp only [ssC]; split; exact Nat.mod_lt _ (by decide); split; exact h _; exact h _
theorem same_s (c : Nat → Nat) (hc : lt257 c) (x : Nat) : row 42 (upd (nf c) x (nI ((c x + (257 - 0) * c x) % 257))) = row 42 (nf c) := row_congr fun y _ => by
  simp only [upd, nf]
  by_cases e : y = x
  · rw [if_pos e, e, show c x + (257 - 0) * c x = c x + 257 * c x from rfl, Nat.add_mul_mod_self_left, Nat.mod_eq_of_lt (hc x)]
  · rw [if_neg e]
def ivL (c : Nat → Nat) (p col : Nat) : Nat := c (7 * p + col) ^ 255 % 257
def elL (c : Nat → Nat) (k col : Nat) : Nat → Nat := rwC (ssC c (pvC c k col) col (ivL c (pvC c k col) col) 7) 6 col k
theorem lt_elL {c : Nat → Nat} (h : lt257 c) (k col : Nat) : lt257 (elL c k col) := lt_rwC (lt_ssC h _ _ _ _) _ _ _
def slI (c : Nat → Nat) (k : Nat) : Nat → (Nat → Nat)
  | 0 => c
  | i + 1 => elL (slI c k i) k i
theorem lt_slI {c : Nat → Nat} (h : lt257 c) (k : Nat) : ∀ i, lt257 (slI c k i)
  | 0 => h
  | i + 1 => lt_elL (lt_slI h k i) k i

set_option maxRecDepth 100000 in
set_option maxHeartbeats 4000000 in
theorem lsX7_solves (l : Launch) (g : XG) (N A Z B : Nat → Int32) (u : Int32) (c : Nat → Nat) (k col r t p v : Nat) (Q0 : Option Value → XW → Prop) (hcol : col < 6) (hr : r < 6) (hk : k ≤ 6) (hc : lt257 c) (ht : t < 257) (hne : ¬ col = r) (hk2 : XA l g MX7_solves Q0 222 ([some (.ref 0), some (.int (nI k)), some (.int (nI col)), some (.int (nI (p))), some (.int (nI (v))), some (.int (nI (r))), some (.int (nI (t))), some (.int (nI (7)))]) [] (wM N A Z B u (nf (sbC c col t r 7))) 0 0) : XA l g MX7_solves Q0 159 ((fun i => [some (.ref 0), some (.int (nI k)), some (.int (nI col)), some (.int (nI (p))), some (.int (nI (v))), some (.int (nI (r))), some (.int (nI (t))), some (.int (nI (i)))]) 0) ((fun _ => []) 0) ((fun i => wM N A Z B u (nf (sbC c col t r i))) 0) 0 0 := by
  refine x_for 7 (fun _ => True) (fun i => [some (.ref 0), some (.int (nI k)), some (.int (nI col)), some (.int (nI (p))), some (.int (nI (v))), some (.int (nI (r))), some (.int (nI (t))), some (.int (nI (i)))]) (fun _ => []) (fun i => wM N A Z B u (nf (sbC c col t r i))) trivial (fun i hi hp ih => ?_) (fun hp => ?_)
  · refine x_iload dX7_solves_159 rfl ?_
    refine x_bipush (v := 7) dX7_solves_161 (by decide) ?_
    refine x_icmp_ge_f (tgt := 222) dX7_solves_163 (by decide) (nI_nle_of rfl (by decide) hi) ?_
    refine x_aload_n dX7_solves_166 rfl ?_
    refine x_getf dX7_solves_167 flX7_22 rfl rfl ?_
    refine x_bipush (v := 7) dX7_solves_170 (by decide) ?_
    refine x_iload dX7_solves_172 rfl ?_
    refine x_imul dX7_solves_174 ?_
    refine x_iload dX7_solves_175 rfl ?_
    refine x_iadd dX7_solves_177 ?_
    refine x_aload_n dX7_solves_178 rfl ?_
    refine x_getf dX7_solves_179 flX7_22 rfl rfl ?_
    refine x_bipush (v := 7) dX7_solves_182 (by decide) ?_
    refine x_iload dX7_solves_184 rfl ?_
    refine x_imul dX7_solves_186 ?_
    refine x_iload dX7_solves_187 rfl ?_
    refine x_iadd dX7_solves_189 ?_
    refine x_iar dX7_solves_190 rfl (i7x (by omega)) ?_
    rw [show nf (sbC c col t r i) (7 * r + i) = nI (c (7 * r + i)) from congrArg nI (sbC_at c col t r i)]
    refine x_sipush (v := 257) dX7_solves_191 (by decide) ?_
    refine x_iload dX7_solves_194 rfl ?_
    refine x_isub dX7_solves_196 ?_
    refine x_aload_n dX7_solves_197 rfl ?_
    refine x_getf dX7_solves_198 flX7_22 rfl rfl ?_
    refine x_bipush (v := 7) dX7_solves_201 (by decide) ?_
    refine x_iload_n dX7_solves_203 rfl ?_
    refine x_imul dX7_solves_204 ?_
    refine x_iload dX7_solves_205 rfl ?_
    refine x_iadd dX7_solves_207 ?_
    refine x_iar dX7_solves_208 rfl (i7x (by omega)) ?_
    rw [show nf (sbC c col t r i) (7 * col + i) = nI (c (7 * col + i)) from congrArg nI (sbC_r c hne t i (by omega) (by omega))]
    refine x_imul dX7_solves_209 ?_
    refine x_iadd dX7_solves_210 ?_
    refine x_sipush (v := 257) dX7_solves_211 (by decide) ?_
    refine x_irem dX7_solves_214 (by decide) ?_
    rw [e257 (hc _) ht (hc _)]
    refine x_iaw dX7_solves_215 rfl (i7x (by omega)) ?_
    first | refine x_iinc dX7_solves_216 (by decide) rfl (nI_inc _) ?_ | refine x_iinc dX7_solves_216 (by decide) rfl (inc_1 _) ?_
    refine x_goto (tgt := 159) dX7_solves_219 (by decide) ?_
    refine x_eq (ih trivial) rfl rfl ?_
    exact congrArg (fun zz => List.set (wM N A Z B u (nf c)) 5 (Sum.inl zz)) (sbC_s c)
  · refine x_iload dX7_solves_159 rfl ?_
    refine x_bipush (v := 7) dX7_solves_161 (by decide) ?_
    refine x_icmp_ge_t (tgt := 222) dX7_solves_163 (by decide) (nI_le_of rfl (by decide) (Nat.le_refl _)) ?_
    exact hk2

set_option maxRecDepth 100000 in
set_option maxHeartbeats 4000000 in
theorem ltX7_solves (l : Launch) (g : XG) (N A Z B : Nat → Int32) (u : Int32) (c : Nat → Nat) (k col p v : Nat) (Q0 : Option Value → XW → Prop) (hcol : col < 6) (hk : k ≤ 6) (hc : lt257 c) (hk2 : XA l g MX7_solves Q0 222 ([some (.ref 0), some (.int (nI k)), some (.int (nI col)), some (.int (nI (p))), some (.int (nI (v))), some (.int (nI (col))), some (.int (nI (0))), some (.int (nI (7)))]) [] (wM N A Z B u (nf (c))) 0 0) : XA l g MX7_solves Q0 159 ((fun i => [some (.ref 0), some (.int (nI k)), some (.int (nI col)), some (.int (nI (p))), some (.int (nI (v))), some (.int (nI (col))), some (.int (nI (0))), some (.int (nI (i)))]) 0) ((fun _ => []) 0) ((fun i => wM N A Z B u (nf (c))) 0) 0 0 := by
  refine x_for 7 (fun _ => True) (fun i => [some (.ref 0), some (.int (nI k)), some (.int (nI col)), some (.int (nI (p))), some (.int (nI (v))), some (.int (nI (col))), some (.int (nI (0))), some (.int (nI (i)))]) (fun _ => []) (fun i => wM N A Z B u (nf (c))) trivial (fun i hi hp ih => ?_) (fun hp => ?_)
  · refine x_iload dX7_solves_159 rfl ?_
    refine x_bipush (v := 7) dX7_solves_161 (by decide) ?_
    refine x_icmp_ge_f (tgt := 222) dX7_solves_163 (by decide) (nI_nle_of rfl (by decide) hi) ?_
    refine x_aload_n dX7_solves_166 rfl ?_
    refine x_getf dX7_solves_167 flX7_22 rfl rfl ?_
    refine x_bipush (v := 7) dX7_solves_170 (by decide) ?_
    refine x_iload dX7_solves_172 rfl ?_
    refine x_imul dX7_solves_174 ?_
    refine x_iload dX7_solves_175 rfl ?_
    refine x_iadd dX7_solves_177 ?_
    refine x_aload_n dX7_solves_178 rfl ?_
    refine x_getf dX7_solves_179 flX7_22 rfl rfl ?_
    refine x_bipush (v := 7) dX7_solves_182 (by decide) ?_
    refine x_iload dX7_solves_184 rfl ?_
    refine x_imul dX7_solves_186 ?_
    refine x_iload dX7_solves_187 rfl ?_
    refine x_iadd dX7_solves_189 ?_
    refine x_iar dX7_solves_190 rfl (i7x (by omega)) ?_
    refine x_sipush (v := 257) dX7_solves_191 (by decide) ?_
    refine x_iload dX7_solves_194 rfl ?_
    refine x_isub dX7_solves_196 ?_
    refine x_aload_n dX7_solves_197 rfl ?_
    refine x_getf dX7_solves_198 flX7_22 rfl rfl ?_
    refine x_bipush (v := 7) dX7_solves_201 (by decide) ?_
    refine x_iload_n dX7_solves_203 rfl ?_
    refine x_imul dX7_solves_204 ?_
    refine x_iload dX7_solves_205 rfl ?_
    refine x_iadd dX7_solves_207 ?_
    refine x_iar dX7_solves_208 rfl (i7x (by omega)) ?_
    refine x_imul dX7_solves_209 ?_
    refine x_iadd dX7_solves_210 ?_
    refine x_sipush (v := 257) dX7_solves_211 (by decide) ?_
    refine x_irem dX7_solves_214 (by decide) ?_
    rw [show nf c (7 * col + i) = nI (c (7 * col + i)) from rfl, e257 (hc _) (by decide) (hc _)]
    refine x_iaw dX7_solves_215 rfl (i7x (by omega)) ?_
    first | refine x_iinc dX7_solves_216 (by decide) rfl (nI_inc _) ?_ | refine x_iinc dX7_solves_216 (by decide) rfl (inc_1 _) ?_
    refine x_goto (tgt := 159) dX7_solves_219 (by decide) ?_
    refine x_eq (ih trivial) rfl rfl ?_
    exact congrArg (fun zz => List.set (wM N A Z B u (nf c)) 5 (Sum.inl zz)) (same_s c hc _)
  · refine x_iload dX7_solves_159 rfl ?_
    refine x_bipush (v := 7) dX7_solves_161 (by decide) ?_
    refine x_icmp_ge_t (tgt := 222) dX7_solves_163 (by decide) (nI_le_of rfl (by decide) (Nat.le_refl _)) ?_
    exact hk2

set_option maxRecDepth 100000 in
set_option maxHeartbeats 4000000 in
theorem lrX7_solves (l : Launch) (g : XG) (N A Z B : Nat → Int32) (u : Int32) (c : Nat → Nat) (k col p v : Nat) (Q0 : Option Value → XW → Prop) (hcol : col < k) (hk : k ≤ 6) (hc : lt257 c) (hk2 : XA l g MX7_solves Q0 228 ([some (.ref 0), some (.int (nI k)), some (.int (nI col)), some (.int (nI (p))), some (.int (nI (v))), some (.int (nI (k))), none, none]) [] (wM N A Z B u (nf (rwC c 6 col k))) 0 0) : XA l g MX7_solves Q0 126 ((fun i => [some (.ref 0), some (.int (nI k)), some (.int (nI col)), some (.int (nI (p))), some (.int (nI (v))), some (.int (nI (i))), none, none]) 0) ((fun _ => []) 0) ((fun i => wM N A Z B u (nf (rwC c 6 col i))) 0) 0 0 := by
  refine x_for k (fun _ => True) (fun i => [some (.ref 0), some (.int (nI k)), some (.int (nI col)), some (.int (nI (p))), some (.int (nI (v))), some (.int (nI (i))), none, none]) (fun _ => []) (fun i => wM N A Z B u (nf (rwC c 6 col i))) trivial (fun i hi hp ih => ?_) (fun hp => ?_)
  · refine x_iload dX7_solves_126 rfl ?_
    refine x_iload_n dX7_solves_128 rfl ?_
    refine x_icmp_ge_f (tgt := 228) dX7_solves_129 (by decide) (nI_ge hi (by omega)) ?_
    refine x_iload dX7_solves_132 rfl ?_
    refine x_iload_n dX7_solves_134 rfl ?_
    refine x_icmp_ne (tgt := 142) dX7_solves_135 (by decide) (fun c_135 => ?_) (fun c_135 => ?_)
    · refine x_aload_n dX7_solves_142 rfl ?_
      refine x_getf dX7_solves_143 flX7_22 rfl rfl ?_
      refine x_bipush (v := 7) dX7_solves_146 (by decide) ?_
      refine x_iload dX7_solves_148 rfl ?_
      refine x_imul dX7_solves_150 ?_
      refine x_iload_n dX7_solves_151 rfl ?_
      refine x_iadd dX7_solves_152 ?_
      refine x_iar dX7_solves_153 rfl (i7x (by omega)) ?_
      refine x_istore dX7_solves_154 (by decide) ?_
      refine x_iconst (v := 0) dX7_solves_156 (by decide) ?_
      refine x_istore dX7_solves_157 (by decide) ?_
      have e0 : ¬ i = col := fun z => c_135 (by rw [z])
      refine x_eq (lv' := [some (.ref 0), some (.int (nI k)), some (.int (nI col)), some (.int (nI (p))), some (.int (nI (v))), some (.int (nI (i))), some (.int (nI (rwC c 6 col i (7 * i + col)))), some (.int (nI (0)))]) (st' := []) (w' := wM N A Z B u (nf (sbC (rwC c 6 col i) col (rwC c 6 col i (7 * i + col)) i 0))) ?_ rfl rfl (by exact congrArg (fun zz => List.set (wM N A Z B u (nf (rwC c 6 col i))) 5 (Sum.inl zz)) (sbC_0 _ _ _ _))
      refine lsX7_solves l g N A Z B u (rwC c 6 col i) k col i (rwC c 6 col i (7 * i + col)) p v _ (by omega) (by omega) hk (lt_rwC hc _ _ _) (lt_rwC hc _ _ _ _) (fun z => e0 z.symm) ?_
      refine x_iinc dX7_solves_222 (by decide) rfl (nI_inc _) ?_
      refine x_goto (tgt := 126) dX7_solves_225 (by decide) ?_
      refine x_eq (x_le (lv' := [some (.ref 0), some (.int (nI k)), some (.int (nI col)), some (.int (nI (p))), some (.int (nI (v))), some (.int (nI (i + 1))), none, none]) (ih trivial) (lv := [some (.ref 0), some (.int (nI k)), some (.int (nI col)), some (.int (nI (p))), some (.int (nI (v))), some (.int (nI (i + 1))), some (.int (nI (rwC c 6 col i (7 * i + col)))), some (.int (nI (7)))]) (by simp [lvle])) rfl rfl ?_
      rw [show rwC c 6 col (i + 1) = sbC (rwC c 6 col i) col (rwC c 6 col i (7 * i + col)) i 7 by rw [rwC, if_neg e0]]
    · refine x_iconst (v := 0) dX7_solves_138 (by decide) ?_
      refine x_goto (tgt := 154) dX7_solves_139 (by decide) ?_
      refine x_istore dX7_solves_154 (by decide) ?_
      refine x_iconst (v := 0) dX7_solves_156 (by decide) ?_
      refine x_istore dX7_solves_157 (by decide) ?_
      have e0 : i = col := nI_inj' c_135 (by omega) (by omega)
      subst e0
      refine x_eq (lv' := [some (.ref 0), some (.int (nI k)), some (.int (nI i)), some (.int (nI (p))), some (.int (nI (v))), some (.int (nI (i))), some (.int (nI (0))), some (.int (nI (0)))]) ?_ rfl rfl rfl
      refine ltX7_solves l g N A Z B u (rwC c 6 i i) k i p v _ (by omega) hk (lt_rwC hc _ _ _) ?_
      refine x_iinc dX7_solves_222 (by decide) rfl (nI_inc _) ?_
      refine x_goto (tgt := 126) dX7_solves_225 (by decide) ?_
      refine x_eq (x_le (lv' := [some (.ref 0), some (.int (nI k)), some (.int (nI i)), some (.int (nI (p))), some (.int (nI (v))), some (.int (nI (i + 1))), none, none]) (ih trivial) (lv := [some (.ref 0), some (.int (nI k)), some (.int (nI i)), some (.int (nI (p))), some (.int (nI (v))), some (.int (nI (i + 1))), some (.int (nI (0))), some (.int (nI (7)))]) (by simp [lvle])) rfl rfl ?_
      rw [show rwC c 6 i (i + 1) = rwC c 6 i i by rw [rwC, if_pos rfl]]
  · refine x_iload dX7_solves_126 rfl ?_
    refine x_iload_n dX7_solves_128 rfl ?_
    refine x_icmp_ge_t (tgt := 228) dX7_solves_129 (by decide) (nI_le (Nat.le_refl _) (by omega)) ?_
    exact hk2

set_option maxRecDepth 100000 in
set_option maxHeartbeats 4000000 in
theorem lqX7_solves (l : Launch) (g : XG) (N A Z B : Nat → Int32) (u : Int32) (c : Nat → Nat) (k col p v : Nat) (Q0 : Option Value → XW → Prop) (hcol : col < 6) (hp2 : p < 6) (hk : k ≤ 6) (hv : v < 257) (hc : lt257 c) (hk2 : XA l g MX7_solves Q0 123 ([some (.ref 0), some (.int (nI k)), some (.int (nI col)), some (.int (nI (p))), some (.int (nI (v))), some (.int (nI (7))), none, none]) [] (wM N A Z B u (nf (ssC c p col v 7))) 0 0) : XA l g MX7_solves Q0 51 ((fun i => [some (.ref 0), some (.int (nI k)), some (.int (nI col)), some (.int (nI (p))), some (.int (nI (v))), some (.int (nI (i))), none, none]) 0) ((fun _ => []) 0) ((fun i => wM N A Z B u (nf (ssC c p col v i))) 0) 0 0 := by
  refine x_for 7 (fun _ => True) (fun i => [some (.ref 0), some (.int (nI k)), some (.int (nI col)), some (.int (nI (p))), some (.int (nI (v))), some (.int (nI (i))), none, none]) (fun _ => []) (fun i => wM N A Z B u (nf (ssC c p col v i))) trivial (fun i hi hp ih => ?_) (fun hp => ?_)
  · refine x_iload dX7_solves_51 rfl ?_
    refine x_bipush (v := 7) dX7_solves_53 (by decide) ?_
    refine x_icmp_ge_f (tgt := 123) dX7_solves_55 (by decide) (nI_nle_of rfl (by decide) hi) ?_
    refine x_aload_n dX7_solves_58 rfl ?_
    refine x_getf dX7_solves_59 flX7_22 rfl rfl ?_
    refine x_bipush (v := 7) dX7_solves_62 (by decide) ?_
    refine x_iload_n dX7_solves_64 rfl ?_
    refine x_imul dX7_solves_65 ?_
    refine x_iload dX7_solves_66 rfl ?_
    refine x_iadd dX7_solves_68 ?_
    refine x_iar dX7_solves_69 rfl (i7x (by omega)) ?_
    rw [show nf (ssC c p col v i) (7 * p + i) = nI (c (7 * p + i)) from congrArg nI (ssC_at c p col v i hi).1]
    refine x_iload dX7_solves_70 rfl ?_
    refine x_imul dX7_solves_72 ?_
    refine x_sipush (v := 257) dX7_solves_73 (by decide) ?_
    refine x_irem dX7_solves_76 (by decide) ?_
    rw [mul257 (hc _) hv]
    refine x_istore dX7_solves_77 (by decide) ?_
    refine x_aload_n dX7_solves_79 rfl ?_
    refine x_getf dX7_solves_80 flX7_22 rfl rfl ?_
    refine x_bipush (v := 7) dX7_solves_83 (by decide) ?_
    refine x_iload_n dX7_solves_85 rfl ?_
    refine x_imul dX7_solves_86 ?_
    refine x_iload dX7_solves_87 rfl ?_
    refine x_iadd dX7_solves_89 ?_
    refine x_aload_n dX7_solves_90 rfl ?_
    refine x_getf dX7_solves_91 flX7_22 rfl rfl ?_
    refine x_bipush (v := 7) dX7_solves_94 (by decide) ?_
    refine x_iload_n dX7_solves_96 rfl ?_
    refine x_imul dX7_solves_97 ?_
    refine x_iload dX7_solves_98 rfl ?_
    refine x_iadd dX7_solves_100 ?_
    refine x_iar dX7_solves_101 rfl (i7x (by omega)) ?_
    rw [show nf (ssC c p col v i) (7 * col + i) = nI (c (7 * col + i)) from congrArg nI (ssC_at c p col v i hi).2]
    refine x_iaw dX7_solves_102 rfl (i7x (by omega)) ?_
    refine x_aload_n dX7_solves_103 rfl ?_
    refine x_getf dX7_solves_104 flX7_22 rfl rfl ?_
    refine x_bipush (v := 7) dX7_solves_107 (by decide) ?_
    refine x_iload_n dX7_solves_109 rfl ?_
    refine x_imul dX7_solves_110 ?_
    refine x_iload dX7_solves_111 rfl ?_
    refine x_iadd dX7_solves_113 ?_
    refine x_iload dX7_solves_114 rfl ?_
    refine x_iaw dX7_solves_116 rfl (i7x (by omega)) ?_
    first | refine x_iinc dX7_solves_117 (by decide) rfl (nI_inc _) ?_ | refine x_iinc dX7_solves_117 (by decide) rfl (inc_1 _) ?_
    refine x_goto (tgt := 51) dX7_solves_120 (by decide) ?_
    refine x_eq (x_le (lv' := [some (.ref 0), some (.int (nI k)), some (.int (nI col)), some (.int (nI (p))), some (.int (nI (v))), some (.int (nI (i + 1))), none, none]) (ih trivial) (lv := [some (.ref 0), some (.int (nI k)), some (.int (nI col)), some (.int (nI (p))), some (.int (nI (v))), some (.int (nI (i + 1))), some (.int (nI (c (7 * p + i) * v % 257))), none]) (by simp [lvle])) rfl rfl ?_
    exact congrArg (fun zz => List.set (wM N A Z B u (nf c)) 5 (Sum.inl zz)) (ssC_s c hi)
  · refine x_iload dX7_solves_51 rfl ?_
    refine x_bipush (v := 7) dX7_solves_53 (by decide) ?_
    refine x_icmp_ge_t (tgt := 123) dX7_solves_55 (by decide) (nI_le_of rfl (by decide) (Nat.le_refl _)) ?_
    exact hk2
