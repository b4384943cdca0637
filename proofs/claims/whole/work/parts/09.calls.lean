/-! ===== calls: the callee has a part of the world, its places are is ===== -/
def xro (is : List Nat) (n j : Nat) : Nat := match is[j]? with
  | some i => i
  | none => n + (j - is.length)
def xrc (ro : Nat → Nat) (c : XC) : XC := match c with
  | .inl xs => .inl xs
  | .inr (.inl rs) => .inr (.inl (rs.map (Option.map ro)))
  | .inr (.inr o) => .inr (.inr (o.1, o.2.map (xv ro)))
def xset (ro : Nat → Nat) : List Nat → XW → XW → XW
  | [], [], w => w
  | [], c :: w1, w => w ++ (c :: w1).map (xrc ro)
  | _ :: _, [], w => w
  | i :: is, c :: w1, w => xset ro is w1 (w.set i (xrc ro c))
theorem xv_comp (ad ro : Nat → Nat) (v : Value) : xv ad (xv ro v) = xv (fun j => ad (ro j)) v := by cases v <;> rfl
theorem xe_ren (g : XG) (ad ro : Nat → Nat) (c : XC) : xe g ad (xrc ro c) = xe g (fun j => ad (ro j)) c := by
  rcases c with xs | rs | o
  · rfl
  · show (Sum.inl (g.2.2, (rs.map (Option.map ro)).length, Sum.inr (Sum.inr (Sum.inr (Sum.inr (fun k => ((rs.map (Option.map ro)).getD k none).map ad))))) : va_E) = Sum.inl (g.2.2, rs.length, Sum.inr (Sum.inr (Sum.inr (Sum.inr (fun k => (rs.getD k none).map (fun j => ad (ro j)))))))
    have : (fun k => ((rs.map (Option.map ro)).getD k none).map ad) = (fun k => (rs.getD k none).map (fun j => ad (ro j))) := by
      funext k
      simp only [List.getD_eq_getElem?_getD, List.getElem?_map]
      cases rs[k]? with
      | none => rfl
      | some y => cases y <;> rfl
    rw [this, List.length_map]
  · show (Sum.inr (o.1, (o.2.map (xv ro)).map (xv ad)) : va_E) = Sum.inr (o.1, o.2.map (xv (fun j => ad (ro j))))
    rw [List.map_map]
    congr 2
    exact List.map_congr_left (fun v _ => xv_comp ad ro v)
theorem xset_out (ro : Nat → Nat) : ∀ (is : List Nat) (w1 w : XW) (k : Nat), k < w.length → k ∉ is → (xset ro is w1 w)[k]? = w[k]?
  | [], [], w, k, _, _ => rfl
  | [], c :: w1, w, k, hk, _ => List.getElem?_append_left hk
  | _ :: _, [], w, k, _, _ => rfl
  | i :: is, c :: w1, w, k, hk, hn => by
    have h1 : k ≠ i := fun e => hn (e ▸ List.mem_cons_self)
    rw [xset, xset_out ro is w1 _ k (by rw [List.length_set]; exact hk) (fun h => hn (List.mem_cons_of_mem _ h)), List.getElem?_set_ne (Ne.symm h1)]
theorem xset_len (ro : Nat → Nat) : ∀ (is : List Nat) (w1 w : XW), is.length ≤ w1.length → (xset ro is w1 w).length = w.length + (w1.length - is.length)
  | [], [], w, _ => rfl
  | [], c :: w1, w, _ => by simp [xset]
  | _ :: _, [], w, h => by simp at h
  | i :: is, c :: w1, w, h => by
    rw [xset, xset_len ro is w1 _ (by simpa using h), List.length_set]
    simp
theorem xset_in (ro : Nat → Nat) : ∀ (is : List Nat) (w1 w : XW) (j i : Nat), va_nd is = true → (∀ x ∈ is, x < w.length) → is.length ≤ w1.length → is[j]? = some i → (xset ro is w1 w)[i]? = (w1[j]?).map (xrc ro)
  | [], w1, w, j, i, _, _, _, h => by simp at h
  | _ :: _, [], w, j, i, _, _, hl, _ => by simp at hl
  | a :: is, c :: w1, w, j, i, hn, hw, hl, h => by
    simp only [va_nd, Bool.and_eq_true, decide_eq_true_eq] at hn
    cases j with
    | zero =>
      simp only [List.getElem?_cons_zero, Option.some.injEq] at h
      subst h
      rw [xset, xset_out ro is w1 _ a (by rw [List.length_set]; exact hw a List.mem_cons_self) hn.1, List.getElem?_set_self (hw a List.mem_cons_self)]
      rfl
    | succ j =>
      rw [List.getElem?_cons_succ] at h
      rw [xset, xset_in ro is w1 _ j i hn.2 (fun x hx => by rw [List.length_set]; exact hw x (List.mem_cons_of_mem _ hx)) (by simpa using hl) h]
      rfl
theorem xset_new (ro : Nat → Nat) : ∀ (is : List Nat) (w1 w : XW) (j : Nat), is.length ≤ w1.length → is.length ≤ j → (xset ro is w1 w)[w.length + (j - is.length)]? = (w1[j]?).map (xrc ro)
  | [], [], w, j, _, _ => by simp [xset]
  | [], c :: w1, w, j, _, _ => by
    rw [xset, List.getElem?_append_right (by simp), List.getElem?_map]
    simp
  | _ :: _, [], w, j, h, _ => by simp at h
  | i :: is, c :: w1, w, j, h, hj => by
    cases j with
    | zero => simp at hj
    | succ j =>
      have := xset_new ro is w1 (w.set i (xrc ro c)) j (by simpa using h) (by simpa using hj)
      rw [List.length_set] at this
      rw [xset]
      simpa using this
theorem xro_some {is : List Nat} {n j i : Nat} (h : is[j]? = some i) : xro is n j = i := by simp [xro, h]
theorem xro_none {is : List Nat} {n j : Nat} (h : is.length ≤ j) : xro is n j = n + (j - is.length) := by simp [xro, List.getElem?_eq_none h]
section XCORE
variable {l : Launch} {g : XG} {p : Program} {e : Env} {R : Room} {s : State} {m : MethodId} {args : Array Value} {below : List Frame} {meth : Method} {c : Code} {H : Heap} {locs : List Loc} {kc ks : Nat} {Z : State → Prop} {Af : Nat → Prop} {w : XW} {ad : Nat → Nat}
theorem xc_core (is : List Nat) {wc : XW} {Qc : Option Value → XW → Prop} {mc ms pc : Nat} {ls : Array Slot} {stc rest : List Value} {a : Array Value} (hA : ∀ q : Nat, s.heap.size ≤ q → Af q) (hP : va_P g.1 vwCl (xw g ad w) H) (hD : va_D Af (xw g ad w)) (hS : va_S Af s.heap H locs) (hwf : xwok w)
    (hsub : is.map (fun i => w[i]?) = wc.map (fun c => some (xrc (xro is w.length) c))) (hnd : va_nd is = true)
    (hr : va_Run p l e R s m args below meth c H locs kc ks mc ms (F0 m pc ls stc) rest (XQ g Qc (va_A (xw g (fun j => ad (xro is w.length j)) wc) H.size) (fun j => ad (xro is w.length j)) wc.length a) (va_A (xw g (fun j => ad (xro is w.length j)) wc) H.size))
    (kk : ∀ (r : Option Value) (w1 : XW) (ad' : Nat → Nat) (H1 : Heap) (locs1 : List Loc), Qc r w1 → xwok (xset (xro is w.length) is w1 w) → w.length ≤ (xset (xro is w.length) is w1 w).length → (∀ v, r = some v → xok (xset (xro is w.length) is w1 w).length (xv (xro is w.length) v)) → (∀ i, i < w.length → ad' i = ad i) →
      va_P g.1 vwCl (xw g ad' (xset (xro is w.length) is w1 w)) H1 → va_D Af (xw g ad' (xset (xro is w.length) is w1 w)) → va_S Af s.heap H1 locs1 → W p l e R s m args below meth c H1 locs1 (kc + mc) (ks + ms) Z (F0 m (pc + 3) ls ((r.map (fun v => xv ad' (xv (xro is w.length) v))).toList ++ rest))) :
    W p l e R s m args below meth c H locs kc ks Z (F0 m pc ls stc) := by
  have hlen : is.length = wc.length := by simpa using congrArg List.length hsub
  have hat : ∀ (j i : Nat), is[j]? = some i → ∃ d : XC, wc[j]? = some d ∧ w[i]? = some (xrc (xro is w.length) d) := by
    intro j i hj
    have h1 : (is.map (fun i => w[i]?))[j]? = some (w[i]?) := by rw [List.getElem?_map, hj]; rfl
    rw [hsub, List.getElem?_map] at h1
    cases hd : wc[j]? with
    | none => rw [hd] at h1; cases h1
    | some d => rw [hd] at h1; exact ⟨d, rfl, (Option.some.inj h1).symm⟩
  have hlt : ∀ x ∈ is, x < w.length := by
    intro x hx
    obtain ⟨j, hj⟩ := List.getElem?_of_mem hx
    obtain ⟨d, -, h2⟩ := hat j x hj
    exact (List.getElem?_eq_some_iff.mp h2).1
  intro T hT X
  obtain ⟨v, st₀, t, T', L, h0, X', hL, e1, e2, ⟨⟨r, w1, ad1, hv, hq, hwf1, hro, hn1, ha1, hP1, hD1⟩, hz, hk⟩, st⟩ := hr T hT X
  cases hv
  rw [h0] at hz hk
  rw [← hlen] at hn1 ha1
  have hadw : ∀ i, i < w.length → (fun i => if i < w.length then ad i else ad1 (i - w.length + is.length)) i = ad i := fun i hi => if_pos hi
  have hkey : (fun j => (fun i => if i < w.length then ad i else ad1 (i - w.length + is.length)) (xro is w.length j)) = ad1 := by
    funext j
    by_cases hj : j < is.length
    · have h1 : is[j]? = some is[j] := List.getElem?_eq_getElem hj
      have h2 : is[j] < w.length := hlt _ (List.getElem_mem hj)
      show (if xro is w.length j < w.length then ad (xro is w.length j) else _) = ad1 j
      rw [xro_some h1, if_pos h2, ha1 j hj]
      show ad is[j] = ad (xro is w.length j)
      rw [xro_some h1]
    · have hj : is.length ≤ j := Nat.not_lt.mp hj
      show (if xro is w.length j < w.length then ad (xro is w.length j) else ad1 (xro is w.length j - w.length + is.length)) = ad1 j
      rw [xro_none hj, if_neg (by omega)]
      congr 1
      omega
  generalize had : (fun i => if i < w.length then ad i else ad1 (i - w.length + is.length)) = ad' at hadw hkey
  have hwl : (xset (xro is w.length) is w1 w).length = w.length + (w1.length - is.length) := xset_len _ is w1 w hn1
  -- a cell of the new world is the callee's, or an old one
  have hcase : ∀ (k : Nat) (d : XC), (xset (xro is w.length) is w1 w)[k]? = some d → (∃ (j : Nat) (d1 : XC), w1[j]? = some d1 ∧ d = xrc (xro is w.length) d1 ∧ xro is w.length j = k) ∨ (k < w.length ∧ k ∉ is ∧ w[k]? = some d) := by
    intro k d hd
    by_cases hk1 : k < w.length
    · by_cases hk2 : k ∈ is
      · obtain ⟨j, hj⟩ := List.getElem?_of_mem hk2
        rw [xset_in _ is w1 w j k hnd hlt hn1 hj] at hd
        cases hd1 : w1[j]? with
        | none => rw [hd1] at hd; cases hd
        | some d1 => rw [hd1] at hd; exact Or.inl ⟨j, d1, hd1, (Option.some.inj hd).symm, xro_some hj⟩
      · rw [xset_out _ is w1 w k hk1 hk2] at hd
        exact Or.inr ⟨hk1, hk2, hd⟩
    · have h2 : w.length + ((k - w.length + is.length) - is.length) = k := by omega
      have h3 := xset_new (xro is w.length) is w1 w (k - w.length + is.length) hn1 (by omega)
      rw [h2, hd] at h3
      cases hd1 : w1[k - w.length + is.length]? with
      | none => rw [hd1] at h3; cases h3
      | some d1 => rw [hd1] at h3; exact Or.inl ⟨_, d1, hd1, Option.some.inj h3, by rw [xro_none (by omega)]; omega⟩
  have hcell : ∀ (j k : Nat) (d1 : XC), w1[j]? = some d1 → xro is w.length j = k → (ad' k, xe g ad' (xrc (xro is w.length) d1)) = (ad1 j, xe g ad1 d1) := by
    intro j k d1 _ hj
    subst hj
    rw [xe_ren, hkey]
    congr 1
    exact congrFun hkey j
  have hnot : ∀ k, k < w.length → k ∉ is → ¬ va_A (xw g (fun j => ad (xro is w.length j)) wc) H.size (ad k) := by
    intro k hk1 hk2 hz
    obtain ⟨d, hd⟩ : ∃ d, w[k]? = some d := ⟨_, List.getElem?_eq_getElem hk1⟩
    rcases hz with ⟨j, e', hj⟩ | hz
    · obtain ⟨dc, hj1, hj2⟩ := xw_of hj
      have hj3 : j < is.length := by rw [hlen]; exact (List.getElem?_eq_some_iff.mp hj1).1
      have h1 : is[j]? = some is[j] := List.getElem?_eq_getElem hj3
      obtain ⟨d2, -, h2⟩ := hat j _ h1
      have h3 : ad k = ad is[j] := by
        have := congrArg Prod.fst hj2
        simp only [xro_some h1] at this
        exact this
      have h4 := hD.1 k is[j] _ _ (xw_at hd) (xw_at h2) h3
      exact hk2 (h4 ▸ List.getElem_mem hj3)
    · have := (hP k _ (xw_at hd)).lt
      exact absurd hz (Nat.not_le.mpr this)
  have hin : ∀ q, va_A (xw g (fun j => ad (xro is w.length j)) wc) H.size q → Af q := by
    intro q hz
    rcases hz with ⟨j, e', hj⟩ | hz
    · obtain ⟨dc, hj1, hj2⟩ := xw_of hj
      have hj3 : j < is.length := by rw [hlen]; exact (List.getElem?_eq_some_iff.mp hj1).1
      have h1 : is[j]? = some is[j] := List.getElem?_eq_getElem hj3
      obtain ⟨d2, -, h2⟩ := hat j _ h1
      have h3 : q = ad is[j] := by
        have := congrArg Prod.fst hj2
        simp only [xro_some h1] at this
        exact this
      rw [h3]
      exact hD.2 _ _ (xw_at h2)
    · exact hA q (Nat.le_trans hS.1 hz)
  have hPn : va_P g.1 vwCl (xw g ad' (xset (xro is w.length) is w1 w)) T'.heap := by
    intro k q hq'
    obtain ⟨d, hd, rfl⟩ := xw_of hq'
    rcases hcase k d hd with ⟨j, d1, hj, rfl, hro'⟩ | ⟨hk1, hk2, hd2⟩
    · rw [hcell j k d1 hj hro', e1]
      exact hP1 j _ (xw_at hj)
    · rw [hadw k hk1, xe_eq (hwf d (List.mem_of_getElem? hd2)) hadw]
      have h1 := hP k _ (xw_at hd2)
      refine h1.kept ?_
      rw [e1]
      exact hk _ h1.lt (hnot k hk1 hk2)
  have hDn : va_D Af (xw g ad' (xset (xro is w.length) is w1 w)) := by
    constructor
    · intro i j x y hi hj hxy
      obtain ⟨d, hd, rfl⟩ := xw_of hi
      obtain ⟨d', hd', rfl⟩ := xw_of hj
      have hmix : ∀ (i j : Nat) (d1 : XC) (jj : Nat), i < w.length → i ∉ is → w1[jj]? = some d1 → xro is w.length jj = j → ad' i = ad' j → False := by
        intro i j d1 jj hi1 hi2 hjj hroj hij
        have h1 := congrArg Prod.fst (hcell jj j d1 hjj hroj)
        have h2 := hD1.2 jj _ (xw_at hjj)
        simp only at h1 h2
        rw [← h1, ← hij, hadw i hi1] at h2
        exact hnot i hi1 hi2 h2
      rcases hcase i d hd with ⟨ji, d1, hji, rfl, hroi⟩ | ⟨hi1, hi2, hdi⟩ <;> rcases hcase j d' hd' with ⟨jj, d2, hjj, rfl, hroj⟩ | ⟨hj1, hj2, hdj⟩
      · have h1 := hcell ji i d1 hji hroi
        have h2 := hcell jj j d2 hjj hroj
        rw [h1, h2] at hxy
        have h3 := hD1.1 ji jj _ _ (xw_at hji) (xw_at hjj) hxy
        rw [← hroi, ← hroj, h3]
      · exact (hmix j i d1 ji hj1 hj2 hji hroi hxy.symm).elim
      · exact (hmix i j d2 jj hi1 hi2 hjj hroj hxy).elim
      · have hxy' : ad' i = ad' j := hxy
        rw [hadw i hi1, hadw j hj1] at hxy'
        exact hD.1 i j _ _ (xw_at hdi) (xw_at hdj) hxy'
    · intro k q hq'
      obtain ⟨d, hd, rfl⟩ := xw_of hq'
      rcases hcase k d hd with ⟨j, d1, hj, rfl, hro'⟩ | ⟨hk1, hk2, hd2⟩
      · rw [hcell j k d1 hj hro']
        exact hin _ (hD1.2 j _ (xw_at hj))
      · show Af (ad' k)
        rw [hadw k hk1]
        exact hD.2 k _ (xw_at hd2)
  have hrolt : ∀ j, j < w1.length → xro is w.length j < (xset (xro is w.length) is w1 w).length := by
    intro j hj
    rw [hwl]
    by_cases hj1 : j < is.length
    · rw [xro_some (List.getElem?_eq_getElem hj1)]
      have := hlt _ (List.getElem_mem hj1)
      omega
    · rw [xro_none (Nat.not_lt.mp hj1)]
      omega
  have hwn : xwok (xset (xro is w.length) is w1 w) := by
    intro d hd0
    obtain ⟨k, hd⟩ := List.getElem?_of_mem hd0
    rcases hcase k d hd with ⟨j, d1, hj, rfl, hro'⟩ | ⟨hk1, hk2, hd2⟩
    · have h1 := hwf1 d1 (List.mem_of_getElem? hj)
      rcases d1 with xs | rs | o
      · trivial
      · intro i hi
        obtain ⟨y, hy, hyi⟩ := List.mem_map.mp hi
        cases y with
        | none => cases hyi
        | some y => cases hyi; exact hrolt y (h1 y hy)
      · intro u hu i hui
        obtain ⟨y, hy, hyi⟩ := List.mem_map.mp hu
        subst hyi
        cases y <;> cases hui
        exact hrolt _ (h1 _ hy _ rfl)
    · exact xcok_mono (hwf d (List.mem_of_getElem? hd2)) (by rw [hwl]; omega)
  obtain ⟨t2, a1, b1⟩ := kk r w1 ad' T'.heap (locs ++ L) hq hwn (by rw [hwl]; omega) (fun u hu i hui => by
      subst hu
      cases u <;> cases hui
      exact hrolt _ (hro _ rfl _ rfl)) hadw hPn hDn
    ⟨Nat.le_trans hS.1 (by rw [e1]; exact hz), fun q h1 h2 => by rw [e1, hk q (Nat.lt_of_lt_of_le h1 hS.1) (fun z => h2 (hin q z))]; exact hS.2.1 q h1 h2, fun q hq => by
      rcases List.mem_append.mp hq with h | h
      · exact hS.2.2 q h
      · exact hin _ (hL q h)⟩ T' rfl X'
  refine ⟨t2, st t2 ?_, b1⟩
  have hst : (r.map (fun v => xv ad' (xv (xro is w.length) v))).toList = (r.map (xv ad1)).toList := by
    cases r with
    | none => rfl
    | some u => simp only [Option.map_some]; rw [xv_comp, hkey]
  rw [hst] at a1
  exact a1
end XCORE
