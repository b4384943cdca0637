theorem xset_same (ro : Nat → Nat) : ∀ (is : List Nat) (wc w : XW), is.map (fun i => w[i]?) = wc.map (fun c => some (xrc ro c)) → xset ro is wc w = w
  | [], [], w, _ => rfl
  | [], c :: wc, w, h => by simp at h
  | i :: is, [], w, h => by simp at h
  | i :: is, c :: wc, w, h => by
    simp only [List.map_cons, List.cons.injEq] at h
    have h1 : w.set i (xrc ro c) = w := by
      apply List.ext_getElem?
      intro k
      rw [List.getElem?_set]
      by_cases hk : i = k
      · subst hk
        have := (List.getElem?_eq_some_iff.mp h.1).1
        rw [if_pos rfl, if_pos this, h.1]
      · simp [hk]
    rw [xset, h1]
    exact xset_same ro is wc w h.2
def Qi (P : Int32 → XW → Prop) : Option Value → XW → Prop := fun r w => ∃ v, r = some (.int v) ∧ P v w
def Qv (P : XW → Prop) : Option Value → XW → Prop := fun r w => r = none ∧ P w
/-- only reads, and answers x -/
def Qp (x : Int32) (w : XW) : Option Value → XW → Prop := fun r w' => r = some (.int x) ∧ w' = w
theorem st_cat (ad : Nat → Nat) (st : List Value) : ((st.map (xv ad)).map fun v => v.category) = st.map fun v => v.category := by
  rw [List.map_map]
  exact List.map_congr_left (fun v _ => xv_cat ad v)
section XCALL
variable {l : Launch} {g : XG} {M : XM} {Q : Option Value → XW → Prop} {pc : Nat} {lv : List (Option Value)} {st : List Value} {w : XW} {kc ks : Nat}
theorem x_call (is : List Nat) {N : XM} {as : List Value} {wc : XW} {Qc : Option Value → XW → Prop} {st0 : List Value} (hi : XInv M.1.cls M.2.1 N pc as wc) (hC : Ct l g N as wc Qc) (hh : N.2.2.2.2.1 + 1 ≤ M.2.2.2.2.1) (hc : kc + N.2.2.2.2.2.1 ≤ M.2.2.2.2.2.1) (hs : ks + N.2.2.2.2.2.2 ≤ M.2.2.2.2.2.2) (hrest : (st.map fun v => v.category).sum ≤ 8)
    (hst : st0 = (as.map (xv (xro is w.length))).reverse ++ st) (hsub : is.map (fun i => w[i]?) = wc.map (fun c => some (xrc (xro is w.length) c))) (hnd : va_nd is = true)
    (h : ∀ (r : Option Value) (w1 : XW), Qc r w1 → XA l g M Q (pc + 3) lv ((r.map (xv (xro is w.length))).toList ++ st) (xset (xro is w.length) is w1 w) (kc + N.2.2.2.2.2.1) (ks + N.2.2.2.2.2.2)) : XA l g M Q pc lv st0 w kc ks := by
  intro Af ad0 n0 p e s m args below meth c X ad H locs ls hF hn ha hP hD hS hls
  have hlen : is.length = wc.length := by simpa using congrArg List.length hsub
  have hat : ∀ (j : Nat) (d : XC), wc[j]? = some d → ∃ i : Nat, is[j]? = some i ∧ w[i]? = some (xrc (xro is w.length) d) := by
    intro j d hj
    have h1 : (wc.map (fun c => some (xrc (xro is w.length) c)))[j]? = some (some (xrc (xro is w.length) d)) := by rw [List.getElem?_map, hj]; rfl
    rw [← hsub, List.getElem?_map] at h1
    cases hi : is[j]? with
    | none => rw [hi] at h1; cases h1
    | some i => rw [hi] at h1; exact ⟨i, rfl, Option.some.inj h1⟩
  have hro : ∀ j, xro is w.length j < w.length → j < wc.length := by
    intro j hj
    by_cases h1 : j < is.length
    · rw [← hlen]; exact h1
    · rw [xro_none (Nat.not_lt.mp h1)] at hj
      omega
  have hwfc : xwok wc := by
    intro d hd
    obtain ⟨j, hj⟩ := List.getElem?_of_mem hd
    obtain ⟨i, hi1, hi2⟩ := hat j d hj
    have h1 := hF.1 _ (List.mem_of_getElem? hi2)
    rcases d with xs | rs | o
    · trivial
    · intro k hk
      exact hro k (h1 _ (List.mem_map.mpr ⟨some k, hk, rfl⟩))
    · intro v hv k hvk
      subst hvk
      exact hro k (h1 _ (List.mem_map.mpr ⟨_, hv, rfl⟩) _ rfl)
  have hao : ∀ v ∈ as, xok wc.length v := by
    intro v hv k hvk
    subst hvk
    refine hro k (hF.2.1 (.ref (xro is w.length k)) ?_ _ rfl)
    rw [hst]
    exact List.mem_append_left _ (List.mem_reverse.mpr (List.mem_map.mpr ⟨_, hv, rfl⟩))
  have hsto : ∀ v ∈ st, xok w.length v := fun v hv => hF.2.1 v (by rw [hst]; exact List.mem_append_right _ hv)
  have hPc : va_P g.1 vwCl (xw g (fun j => ad (xro is w.length j)) wc) H := by
    intro j q hq
    obtain ⟨d, hj, rfl⟩ := xw_of hq
    obtain ⟨i, hi1, hi2⟩ := hat j d hj
    have h1 := hP i _ (xw_at hi2)
    rw [xe_ren] at h1
    rw [xro_some hi1]
    exact h1
  have hDc : va_D (fun _ => True) (xw g (fun j => ad (xro is w.length j)) wc) := by
    refine ⟨fun i j x y hi hj hxy => ?_, fun _ _ _ => trivial⟩
    obtain ⟨d, hdi, rfl⟩ := xw_of hi
    obtain ⟨d', hdj, rfl⟩ := xw_of hj
    obtain ⟨i1, hi1, hi2⟩ := hat i d hdi
    obtain ⟨j1, hj1, hj2⟩ := hat j d' hdj
    simp only [xro_some hi1, xro_some hj1] at hxy
    have h3 := hD.1 i1 j1 _ _ (xw_at hi2) (xw_at hj2) hxy
    subst h3
    exact va_nd_inj is hnd i j i1 hi1 hj1
  refine xc_core is (rest := st.map (xv ad)) X.2.2.2.2.2.2.2.2.2 hP hD hS hF.1 hsub hnd (xc_run (fun j => ad (xro is w.length j)) X.1 X.2.1 X.2.2.2.1 X.2.2.2.2.1 X.2.2.2.2.2.1 X.2.2.2.2.2.2.2.1 hi hC hwfc hao hPc hDc hh ?_ hls.1 hc hs ?_ ?_) (fun r w1 ad' H1 locs1 hq hw1 hw2 hr had hP1 hD1 hS1 => ?_)
  · show 40 * (N.2.2.2.2.1 + 1) ≤ 40 * M.2.2.2.2.1
    omega
  · rw [st_cat]
    exact hrest
  · rw [hst, List.map_append, List.map_reverse, List.map_map]
    congr 2
    exact List.map_congr_left (fun v _ => xv_comp ad _ v)
  · have K := h r w1 hq Af ad0 n0 p e s m args below meth c X ad' H1 locs1 ls ⟨hw1, fun v hv => ?_, fun v hv => xok_mono (hF.2.2 v hv) hw2⟩ (Nat.le_trans hn hw2) (fun i hi => by rw [had i (Nat.lt_of_lt_of_le hi hn)]; exact ha i hi) hP1 hD1 hS1 (lvh_eq hls hF.2.2 had)
    · have e1 : ((r.map (xv (xro is w.length))).toList ++ st).map (xv ad') = (r.map (fun v => xv ad' (xv (xro is w.length) v))).toList ++ st.map (xv ad) := by
        rw [List.map_append, st_eq hsto had]
        congr 1
        cases r <;> rfl
      rw [e1] at K
      exact K
    · rcases List.mem_append.mp hv with h1 | h1
      · cases r with
        | none => cases h1
        | some u =>
          simp only [Option.map_some, Option.toList_some, List.mem_singleton] at h1
          subst h1
          exact hr u rfl
      · exact xok_mono (hsto v h1) hw2
/-- a call that only reads -/
theorem x_callp (is : List Nat) {N : XM} {as : List Value} {wc : XW} {x : Int32} {st0 : List Value} (hi : XInv M.1.cls M.2.1 N pc as wc) (hC : Ct l g N as wc (Qp x wc)) (hh : N.2.2.2.2.1 + 1 ≤ M.2.2.2.2.1) (hc0 : N.2.2.2.2.2.1 = 0) (hs0 : N.2.2.2.2.2.2 = 0) (hc : kc ≤ M.2.2.2.2.2.1) (hs : ks ≤ M.2.2.2.2.2.2) (hrest : (st.map fun v => v.category).sum ≤ 8)
    (hst : st0 = (as.map (xv (xro is w.length))).reverse ++ st) (hsub : is.map (fun i => w[i]?) = wc.map (fun c => some (xrc (xro is w.length) c))) (hnd : va_nd is = true)
    (h : XA l g M Q (pc + 3) lv (.int x :: st) w kc ks) : XA l g M Q pc lv st0 w kc ks := by
  refine x_call is hi hC hh (by rw [hc0]; exact hc) (by rw [hs0]; exact hs) hrest hst hsub hnd (fun r w1 hq => ?_)
  obtain ⟨rfl, rfl⟩ := hq
  rw [xset_same _ is _ w hsub, hc0, hs0]
  exact h
theorem x_calli (is : List Nat) {N : XM} {as : List Value} {wc : XW} {P : Int32 → XW → Prop} {st0 : List Value} (hi : XInv M.1.cls M.2.1 N pc as wc) (hC : Ct l g N as wc (Qi P)) (hh : N.2.2.2.2.1 + 1 ≤ M.2.2.2.2.1) (hc0 : N.2.2.2.2.2.1 = 0) (hs0 : N.2.2.2.2.2.2 = 0) (hc : kc ≤ M.2.2.2.2.2.1) (hs : ks ≤ M.2.2.2.2.2.2) (hrest : (st.map fun v => v.category).sum ≤ 8)
    (hst : st0 = (as.map (xv (xro is w.length))).reverse ++ st) (hsub : is.map (fun i => w[i]?) = wc.map (fun c => some (xrc (xro is w.length) c))) (hnd : va_nd is = true)
    (h : ∀ (v : Int32) (w1 : XW), P v w1 → XA l g M Q (pc + 3) lv (.int v :: st) (xset (xro is w.length) is w1 w) kc ks) : XA l g M Q pc lv st0 w kc ks := by
  refine x_call is hi hC hh (by rw [hc0]; exact hc) (by rw [hs0]; exact hs) hrest hst hsub hnd (fun r w1 hq => ?_)
  obtain ⟨v, rfl, hq⟩ := hq
  rw [hc0, hs0]
  exact h v w1 hq
theorem x_callv (is : List Nat) {N : XM} {as : List Value} {wc : XW} {P : XW → Prop} {st0 : List Value} (hi : XInv M.1.cls M.2.1 N pc as wc) (hC : Ct l g N as wc (Qv P)) (hh : N.2.2.2.2.1 + 1 ≤ M.2.2.2.2.1) (hc : kc + N.2.2.2.2.2.1 ≤ M.2.2.2.2.2.1) (hs : ks + N.2.2.2.2.2.2 ≤ M.2.2.2.2.2.2) (hrest : (st.map fun v => v.category).sum ≤ 8)
    (hst : st0 = (as.map (xv (xro is w.length))).reverse ++ st) (hsub : is.map (fun i => w[i]?) = wc.map (fun c => some (xrc (xro is w.length) c))) (hnd : va_nd is = true)
    (h : ∀ w1 : XW, P w1 → XA l g M Q (pc + 3) lv st (xset (xro is w.length) is w1 w) (kc + N.2.2.2.2.2.1) (ks + N.2.2.2.2.2.2)) : XA l g M Q pc lv st0 w kc ks := by
  refine x_call is hi hC hh hc hs hrest hst hsub hnd (fun r w1 hq => ?_)
  obtain ⟨rfl, hq⟩ := hq
  exact h w1 hq
theorem x_objInit {idx a : Nat} (hd : decode M.2.1 pc = .ok (.invokespecial idx, 3)) (hl : Cond.methodLink M.1.cls idx Lib.objectInit ∈ xt) (h1 : Cond.instanceMethod Lib.objectInit ∈ xt) (h2 : Cond.code Lib.objectInit ⟨#[0xb1]⟩ 1 none ∈ xt) (hh : 1 ≤ M.2.2.2.2.1) (hrest : (st.map fun v => v.category).sum ≤ 8) (h : XA l g M Q (pc + 3) lv st w kc ks) : XA l g M Q pc lv (.ref a :: st) w kc ks := by
  intro Af ad0 n0 p e s m args below meth c X ad H locs ls hF hn ha hP hD hS hls
  refine W.objInit X.1 X.2.1 X.2.2.2.2.1 (X.2.2.2.2.2.1 _ hl) (X.2.2.2.2.2.1 _ h1) (X.2.2.2.2.2.1 _ h2) (g := F0 m pc ls ((Value.ref a :: st).map (xv ad))) rfl (hls.1.trans X.2.2.2.1.symm) rfl hd hh ?_ (h Af ad0 n0 p e s m args below meth c X ad H locs ls (xf_tail hF) hn ha hP hD hS hls)
  show 2 * 0 + ((st.map (xv ad)).map fun v => v.category).sum + 12 ≤ 40 * M.2.2.2.2.1
  rw [st_cat]
  omega
theorem x_max {idx : Nat} {x y : Int32} (hd : decode M.2.1 pc = .ok (.invokestatic idx, 3)) (hl : Cond.methodLink M.1.cls idx Lib.Math.max.name ∈ xt) (h1 : Cond.static Lib.Math.max.name ∈ xt) (h2 : Cond.initialized "java/lang/Math" ∈ xt) (h3 : Cond.code Lib.Math.max.name Lib.Math.max.code 2 (some .int) ∈ xt) (hh : 1 ≤ M.2.2.2.2.1) (hc : kc ≤ M.2.2.2.2.2.1) (hs : ks ≤ M.2.2.2.2.2.2) (hrest : (st.map fun v => v.category).sum ≤ 8) (h : XA l g M Q (pc + 3) lv (.int (if x < y then y else x) :: st) w kc ks) : XA l g M Q pc lv (.int y :: .int x :: st) w kc ks := by
  intro Af ad0 n0 p e s m args below meth c X ad H locs ls hF hn ha hP hD hS hls
  refine va_mmax X.1 X.2.1 (X.2.2.2.1.trans hls.1.symm) X.2.2.2.2.1 (X.2.2.2.2.2.1 _ hl) (X.2.2.2.2.2.1 _ h1) (X.2.2.2.2.2.1 _ h2) (X.2.2.2.2.2.1 _ h3) hh ?_ hc hs hd (h Af ad0 n0 p e s m args below meth c X ad H locs ls (xf_int (xf_tail (xf_tail hF))) hn ha hP hD hS hls)
  show ((st.map (xv ad)).map fun v => v.category).sum + 13 ≤ 40 * M.2.2.2.2.1
  rw [st_cat]
  omega
theorem x_min {idx : Nat} {x y : Int32} (hd : decode M.2.1 pc = .ok (.invokestatic idx, 3)) (hl : Cond.methodLink M.1.cls idx Lib.Math.min.name ∈ xt) (h1 : Cond.static Lib.Math.min.name ∈ xt) (h2 : Cond.initialized "java/lang/Math" ∈ xt) (h3 : Cond.code Lib.Math.min.name Lib.Math.min.code 2 (some .int) ∈ xt) (hh : 1 ≤ M.2.2.2.2.1) (hc : kc ≤ M.2.2.2.2.2.1) (hs : ks ≤ M.2.2.2.2.2.2) (hrest : (st.map fun v => v.category).sum ≤ 8) (h : XA l g M Q (pc + 3) lv (.int (if y < x then y else x) :: st) w kc ks) : XA l g M Q pc lv (.int y :: .int x :: st) w kc ks := by
  intro Af ad0 n0 p e s m args below meth c X ad H locs ls hF hn ha hP hD hS hls
  refine va_mmin X.1 X.2.1 (X.2.2.2.1.trans hls.1.symm) X.2.2.2.2.1 (X.2.2.2.2.2.1 _ hl) (X.2.2.2.2.2.1 _ h1) (X.2.2.2.2.2.1 _ h2) (X.2.2.2.2.2.1 _ h3) hh ?_ hc hs hd (h Af ad0 n0 p e s m args below meth c X ad H locs ls (xf_int (xf_tail (xf_tail hF))) hn ha hP hD hS hls)
  show ((st.map (xv ad)).map fun v => v.category).sum + 13 ≤ 40 * M.2.2.2.2.1
  rw [st_cat]
  omega
/-- System.arraycopy(a, 0, b, 0, n) of two rows of one length n -/
theorem x_copy {idx a b : Nat} {xs ys : List Int32} {n : Int32} (hd : decode M.2.1 pc = .ok (.invokestatic idx, 3)) (hl : Cond.methodLink M.1.cls idx arraycopyName ∈ xt) (h1 : Cond.native arraycopyName ∈ xt) (h2 : Cond.static arraycopyName ∈ xt) (h3 : Cond.initialized "java/lang/System" ∈ xt) (hh : 1 ≤ M.2.2.2.2.1) (hwa : w[a]? = some (.inl xs)) (hwb : w[b]? = some (.inl ys)) (hn0 : ¬ n < 0) (hnx : n.toNatClampNeg = xs.length) (hny : ys.length = xs.length) (hrest : (st.map fun v => v.category).sum ≤ 8) (h : XA l g M Q (pc + 3) lv st (w.set b (.inl xs)) kc ks) : XA l g M Q pc lv (.int n :: .int 0 :: .ref b :: .int 0 :: .ref a :: st) w kc ks := by
  intro Af ad0 n0 p e s m args below meth c X ad H locs ls hF hn ha hP hD hS hls
  have hset : (xw g ad w).set b (ad b, .inl (g.2.1, ys.length, .inl (va_cpy (fun k => xs.getD k 0) (fun k => ys.getD k 0) (0 : Int32).toNatClampNeg (0 : Int32).toNatClampNeg n.toNatClampNeg))) = xw g ad (w.set b (.inl xs)) := by
    rw [← xw_set]
    congr 2
    show (Sum.inl _ : va_E) = Sum.inl _
    rw [hny, hnx]
    congr 4
    funext k
    show (if 0 ≤ k ∧ k < 0 + xs.length then xs.getD (0 + (k - 0)) 0 else ys.getD k 0) = xs.getD k 0
    by_cases hk : k < xs.length
    · rw [if_pos ⟨Nat.zero_le _, by omega⟩]; congr 1; omega
    · rw [if_neg (by omega)]
      simp only [List.getD_eq_getElem?_getD]
      rw [List.getElem?_eq_none (by omega), List.getElem?_eq_none (by omega)]
  refine va_copyi X.1 X.2.1 (X.2.2.2.1.trans hls.1.symm) X.2.2.2.2.1 (X.2.2.2.2.2.1 _ hl) (X.2.2.2.2.2.1 _ h1) (X.2.2.2.2.2.1 _ h2) (X.2.2.2.2.2.1 _ h3) X.2.2.2.2.2.2.2.1.1 hP hD hS a b 0 0 (xw_at hwa) (xw_at hwb) (ty := .int) rfl rfl rfl (by decide) (by decide) hn0 ?_ ?_ (fun i _ => rfl) hh ?_ hd (fun H1 locs1 hP1 hD1 hS1 => ?_)
  · show 0 + n.toNatClampNeg ≤ xs.length
    omega
  · show 0 + n.toNatClampNeg ≤ ys.length
    omega
  · show ((st.map (xv ad)).map fun v => v.category).sum + (nativeFrameWords "java/lang/System" "arraycopy" 5 + 11) ≤ 40 * M.2.2.2.2.1
    rw [st_cat]
    have : nativeFrameWords "java/lang/System" "arraycopy" 5 ≤ 20 := by decide +kernel
    omega
  · rw [hset] at hP1 hD1
    exact h Af ad0 n0 p e s m args below meth c X ad H1 locs1 ls ⟨xwok_set hF.1 trivial, fun u hu => by rw [List.length_set]; exact hF.2.1 u (by simp [hu]), fun u hu => by rw [List.length_set]; exact hF.2.2 u hu⟩ (by rw [List.length_set]; exact hn) ha hP1 hD1 hS1 hls
end XCALL
/-- a contract out of the walk of the method's body -/
theorem lvh_entry (ad : Nat → Nat) (as : List Value) {n : Nat} (hc : ∀ v ∈ as, v.category = 1) (hl : as.length ≤ n) : lvh ((lg_sl (as.map (xv ad)) ++ List.replicate (n - (lg_sl (as.map (xv ad))).length) Slot.unset).toArray) n ad (as.map some ++ List.replicate (n - as.length) none) := by
  have e1 : ∀ bs : List Value, (∀ v ∈ bs, v.category = 1) → lg_sl (bs.map (xv ad)) = bs.map (fun v => Slot.val (xv ad v)) := by
    intro bs
    induction bs with
    | nil => intro _; rfl
    | cons b bs ih =>
      intro hb
      have h1 := hb b List.mem_cons_self
      have h2 := ih (fun v hv => hb v (List.mem_cons_of_mem _ hv))
      have h3 : (xv ad b).category = 1 := by rw [xv_cat]; exact h1
      simp only [List.map_cons]
      rw [← h2]
      cases hb' : xv ad b <;> rw [hb'] at h3 <;> first | rfl | (simp [Value.category] at h3)
  have e2 := e1 as hc
  have hlen : (lg_sl (as.map (xv ad))).length = as.length := by rw [e2]; simp
  obtain ⟨h1, h2, -⟩ := lv_entry (as.map (xv ad)) (n := n) (by rw [hlen]; exact hl)
  refine ⟨h1, h2, fun k v hk => ?_, fun k v hk => ?_⟩
  · have := List.mem_of_getElem? hk
    rcases List.mem_append.mp this with h | h
    · obtain ⟨u, hu, hu2⟩ := List.mem_map.mp h
      cases hu2
      exact hc _ hu
    · rw [List.mem_replicate] at h
      cases h.2
  · have hk1 : k < as.length := by
      rcases Nat.lt_or_ge k as.length with h | h
      · exact h
      · rw [List.getElem?_append_right (by simpa using h)] at hk
        have := List.mem_of_getElem? hk
        rw [List.mem_replicate] at this
        cases this.2
    rw [List.getElem?_append_left (by simpa using hk1), List.getElem?_map] at hk
    rw [List.getElem?_toArray, List.getElem?_append_left (by rw [hlen]; exact hk1), e2, List.getElem?_map]
    cases hq : as[k]? with
    | none => rw [hq] at hk; cases hk
    | some u => rw [hq] at hk; cases hk; rfl
theorem Ct_of {l : Launch} {g : XG} {M : XM} {as : List Value} {w : XW} {Q : Option Value → XW → Prop} (hy : plainName M.1.cls = true) (hc : ∀ v ∈ as, v.category = 1) (hl : as.length ≤ M.2.2.1) (h : XA l g M Q 0 (as.map some ++ List.replicate (M.2.2.1 - as.length) none) [] w 0 0) : Ct l g M as w Q := by
  intro hwf hao ad sz
  refine Met.ofW (cc := M.2.1) (maxL := M.2.2.1) (ret := M.2.2.2.1) hy rfl ?_
  intro p e s m args below meth c s₁ B hml hv
  obtain ⟨rfl, hsz, hP, hK, hD0⟩ := hv
  subst hsz
  have hts := atoms_spec (ws := xm_ws M) B.pre
  have hown : s.vm.findClass M.1.cls = some m.cls := findClass_of_methodNamed B.named
  have hin : meth.name = M.1.name := (name_of_methodNamed B.named B.method).1
  rw [lg_entry_eq]
  exact h (va_A (xw g ad w) s.heap.size) ad w.length p e s m _ below meth c ⟨B.exec, B.bytes, B.returns, hml, hown, fun w hw => hts w (List.mem_cons_of_mem _ hw), B.notSynchronized, hK, hin, fun q hq => Or.inr hq⟩ ad s.heap [] _ ⟨hwf, (fun v hv => by cases hv), fun v hv => by
    rcases List.mem_append.mp hv with h | h
    · obtain ⟨u, hu, hu2⟩ := List.mem_map.mp h
      cases hu2
      exact hao _ hu
    · rw [List.mem_replicate] at h
      cases h.2⟩ (Nat.le_refl _) (fun _ _ => rfl) hP hD0.self va_S.rf (lvh_entry ad as hc hl)
