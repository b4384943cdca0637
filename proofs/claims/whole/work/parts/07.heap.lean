/-! ===== fields, arrays, new ===== -/
theorem x_in : ∀ (ci : Nat) (q : vw_C), vwCl[ci]? = some q → ∀ w ∈ u_ws q.1 q.2.1 q.2.2, w ∈ xt := by
  suffices hh : ∀ (ci : Nat) (q : vw_C), vwCl[ci]? = some q → ∀ w ∈ u_ws q.1 q.2.1 q.2.2, w ∈ lw_tbl ∧ goodWord w = true from fun ci q h w hw => xt_in (hh ci q h w hw).1 (hh ci q h w hw).2
  intro ci q h
  match ci, h with
  | 0, h => cases h; decide +kernel
  | 1, h => cases h; decide +kernel
  | 2, h => cases h; decide +kernel
  | 3, h => cases h; decide +kernel
  | 4, h => cases h; decide +kernel
  | 5, h => cases h; decide +kernel
  | 6, h => cases h; decide +kernel
  | 7, h => cases h; decide +kernel
  | k + 8, h => simp [vwCl] at h
theorem x_ty : ∀ (ci : Nat) (q : vw_C), vwCl[ci]? = some q → ∃ ty : Nat → FieldType, (∀ k, k < q.2.2 → parseFieldDescriptor (q.2.1 k).2.2.1 = some (ty k)) ∧ ∀ a, a < q.2.2 → ∀ b, b < q.2.2 → a ≠ b → (q.2.1 a).2.1 ≠ (q.2.1 b).2.1 := by
  intro ci q h
  match ci, h with
  | 0, h => cases h; exact ⟨tyX0, tyX0_ok, nmX0⟩
  | 1, h => cases h; exact ⟨tyX1, tyX1_ok, nmX1⟩
  | 2, h => cases h; exact ⟨tyX2, tyX2_ok, nmX2⟩
  | 3, h => cases h; exact ⟨tyX3, tyX3_ok, nmX3⟩
  | 4, h => cases h; exact ⟨tyX4, tyX4_ok, nmX4⟩
  | 5, h => cases h; exact ⟨tyX5, tyX5_ok, nmX5⟩
  | 6, h => cases h; exact ⟨tyX6, tyX6_ok, nmX6⟩
  | 7, h => cases h; exact ⟨tyX7, tyX7_ok, nmX7⟩
  | k + 8, h => simp [vwCl] at h
/-- entry idx of own's pool is field k of class ci -/
def xfl (own : String) (idx ci k : Nat) : Prop := ∃ q : vw_C, vwCl[ci]? = some q ∧ k < q.2.2 ∧ Cond.fieldLink own idx (q.2.1 k).1 (q.2.1 k).2.1 (q.2.1 k).2.2.1 ∈ xt
/-- a field that isn't final, an int -/
def xfi (ci k : Nat) : Prop := ∀ q : vw_C, vwCl[ci]? = some q → (q.2.1 k).2.2.2 = false ∧ parseFieldDescriptor (q.2.1 k).2.2.1 = some .int
/-- a final field of own, a reference -/
def xff (own : String) (ci k : Nat) : Prop := ∀ q : vw_C, vwCl[ci]? = some q → (q.2.1 k).2.2.2 = true ∧ (q.2.1 k).1 = own ∧ ∃ ty, parseFieldDescriptor (q.2.1 k).2.2.1 = some ty ∧ ∀ a : Nat, narrow ty (.ref a) = .ref a ∧ fits ty (.ref a) = true
theorem xw_set (g : XG) (ad : Nat → Nat) (w : XW) (k : Nat) (c : XC) : (xw g ad w).set k (ad k, xe g ad c) = xw g ad (w.set k c) := by
  apply List.ext_getElem?
  intro i
  rw [List.getElem?_set, xw_get, xw_get, List.getElem?_set]
  by_cases hk : k = i
  · subst hk
    by_cases hl : k < w.length
    · simp [hl, xw_len]
    · simp [hl, xw_len]
  · simp [hk]
theorem xw_push (g : XG) (ad : Nat → Nat) (w : XW) (c : XC) : xw g ad (w ++ [c]) = xw g ad w ++ [(ad w.length, xe g ad c)] := by
  simp [xw, List.mapIdx_append]
theorem xwok_set {w : XW} (h : xwok w) {k : Nat} {c : XC} (hc : xcok w.length c) : xwok (w.set k c) := by
  intro d hd
  rw [List.length_set]
  rcases List.mem_or_eq_of_mem_set hd with h1 | h1
  · exact h d h1
  · subst h1; exact hc
theorem xwok_push {w : XW} (h : xwok w) {c : XC} (hc : xcok (w.length + 1) c) : xwok (w ++ [c]) := by
  intro d hd
  rw [List.length_append, List.length_singleton]
  rcases List.mem_append.mp hd with h1 | h1
  · exact xcok_mono (h d h1) (Nat.le_succ _)
  · rw [List.mem_singleton.mp h1]; exact hc
section XHEAP
variable {l : Launch} {g : XG} {M : XM} {Q : Option Value → XW → Prop} {pc : Nat} {lv : List (Option Value)} {st : List Value} {w : XW} {kc ks : Nat}
theorem x_getf {idx ci k a : Nat} {fs : List Value} {v : Value} (hd : decode M.2.1 pc = .ok (.getfield idx, 3)) (hl : xfl M.1.cls idx ci k) (hw : w[a]? = some (.inr (.inr (ci, fs)))) (hv : fs[k]? = some v) (h : XA l g M Q (pc + 3) lv (v :: st) w kc ks) : XA l g M Q pc lv (.ref a :: st) w kc ks := by
  intro Af ad0 n0 p e s m args below meth c X ad H locs ls hF hn ha hP hD hS hls
  obtain ⟨⟨C, T, N⟩, hc, hk, hlk⟩ := hl
  have hvo : xok w.length v := hF.1 _ (List.mem_of_getElem? hw) v (List.mem_of_getElem? hv)
  exact va_get X.1 X.2.1 X.2.2.2.2.2.1 (x_in ci _ hc) X.2.2.2.2.1 X.2.2.2.2.2.2.2.1.1 hP a (xw_at hw) hc k hk (X.2.2.2.2.2.1 _ hlk) (fun _ h => h) (v := xv ad v) (by rw [List.getElem?_map, hv]; rfl) hd (h Af ad0 n0 p e s m args below meth c X ad H locs ls (xf_push (xf_tail hF) hvo) hn ha hP hD hS hls)
theorem x_puti {idx ci k a : Nat} {fs : List Value} {v : Int32} (hd : decode M.2.1 pc = .ok (.putfield idx, 3)) (hl : xfl M.1.cls idx ci k) (hi : xfi ci k) (hw : w[a]? = some (.inr (.inr (ci, fs)))) (hv : k < fs.length) (h : XA l g M Q (pc + 3) lv st (w.set a (.inr (.inr (ci, fs.set k (.int v))))) kc ks) : XA l g M Q pc lv (.int v :: .ref a :: st) w kc ks := by
  intro Af ad0 n0 p e s m args below meth c X ad H locs ls hF hn ha hP hD hS hls
  obtain ⟨⟨C, T, N⟩, hc, hk, hlk⟩ := hl
  obtain ⟨hi1, hi2⟩ := hi _ hc
  obtain ⟨ty, t1, t2⟩ := x_ty ci _ hc
  have hwo : xwok (w.set a (.inr (.inr (ci, fs.set k (.int v))))) := xwok_set hF.1 (fun u hu => by
    rcases List.mem_or_eq_of_mem_set hu with h1 | h1
    · exact hF.1 _ (List.mem_of_getElem? hw) u h1
    · subst h1; exact xok_int _ _)
  have hset : (xw g ad w).set a (ad a, .inr (ci, (fs.map (xv ad)).set k (.int v))) = xw g ad (w.set a (.inr (.inr (ci, fs.set k (.int v))))) := by
    rw [← xw_set]; congr 2; show Sum.inr _ = Sum.inr _; rw [List.map_set]; rfl
  refine va_put X.1 X.2.1 X.2.2.2.2.2.1 (x_in ci _ hc) ty t1 t2 X.2.2.2.2.1 X.2.2.2.2.2.2.2.1.1 hP hD hS a (xw_at hw) hc k hk (X.2.2.2.2.2.1 _ hlk) (fun _ h => h) hi1 hi2 rfl rfl (by rw [List.length_map]; exact hv) hd (fun H1 locs1 hP1 hD1 hS1 => ?_)
  replace hP1 := (congrArg (fun z => va_P g.1 vwCl z H1) hset).mp hP1
  replace hD1 := (congrArg (fun z => va_D Af z) hset).mp hD1
  exact h Af ad0 n0 p e s m args below meth c X ad H1 locs1 ls ⟨hwo, fun u hu => by rw [List.length_set]; exact (xf_tail (xf_tail hF)).2.1 u hu, fun u hu => by rw [List.length_set]; exact hF.2.2 u hu⟩ (by rw [List.length_set]; exact hn) ha hP1 hD1 hS1 hls
theorem x_putr {idx ci k a b : Nat} {fs : List Value} (hd : decode M.2.1 pc = .ok (.putfield idx, 3)) (hl : xfl M.1.cls idx ci k) (hi : xff M.1.cls ci k) (hin : M.1.name = "<init>") (hw : w[a]? = some (.inr (.inr (ci, fs)))) (hv : k < fs.length) (h : XA l g M Q (pc + 3) lv st (w.set a (.inr (.inr (ci, fs.set k (.ref b))))) kc ks) : XA l g M Q pc lv (.ref b :: .ref a :: st) w kc ks := by
  intro Af ad0 n0 p e s m args below meth c X ad H locs ls hF hn ha hP hD hS hls
  obtain ⟨⟨C, T, N⟩, hc, hk, hlk⟩ := hl
  obtain ⟨hi1, hi2, tyk, hi3, hi4⟩ := hi _ hc
  obtain ⟨ty, t1, t2⟩ := x_ty ci _ hc
  have hwo : xwok (w.set a (.inr (.inr (ci, fs.set k (.ref b))))) := xwok_set hF.1 (fun u hu => by
    rcases List.mem_or_eq_of_mem_set hu with h1 | h1
    · exact hF.1 _ (List.mem_of_getElem? hw) u h1
    · subst h1; exact xf_head hF)
  have hset : (xw g ad w).set a (ad a, .inr (ci, (fs.map (xv ad)).set k (.ref (ad b)))) = xw g ad (w.set a (.inr (.inr (ci, fs.set k (.ref b))))) := by
    rw [← xw_set]; congr 2; show Sum.inr _ = Sum.inr _; rw [List.map_set]; rfl
  refine va_putF X.1 X.2.1 X.2.2.2.2.2.1 (x_in ci _ hc) ty t1 t2 X.2.2.2.2.1 X.2.2.2.2.2.2.2.1.1 hP hD hS a (xw_at hw) hc k hk (X.2.2.2.2.2.1 _ hlk) (fun _ h => h) hi1 (X.2.2.2.2.2.2.2.2.1.trans hin) hi2 hi3 (hi4 _).1 (hi4 _).2 (by rw [List.length_map]; exact hv) hd (fun H1 locs1 hP1 hD1 hS1 => ?_)
  replace hP1 := (congrArg (fun z => va_P g.1 vwCl z H1) hset).mp hP1
  replace hD1 := (congrArg (fun z => va_D Af z) hset).mp hD1
  exact h Af ad0 n0 p e s m args below meth c X ad H1 locs1 ls ⟨hwo, fun u hu => by rw [List.length_set]; exact (xf_tail (xf_tail hF)).2.1 u hu, fun u hu => by rw [List.length_set]; exact hF.2.2 u hu⟩ (by rw [List.length_set]; exact hn) ha hP1 hD1 hS1 hls
theorem x_iald {a : Nat} {xs : List Int32} {i : Int32} (hd : decode M.2.1 pc = .ok (.iaload, 1)) (hw : w[a]? = some (.inl xs)) (hi : vp_in i xs.length) (h : XA l g M Q (pc + 1) lv (.int (xs.getD i.toNatClampNeg 0) :: st) w kc ks) : XA l g M Q pc lv (.int i :: .ref a :: st) w kc ks := by
  intro Af ad0 n0 p e s m args below meth c X ad H locs ls hF hn ha hP hD hS hls
  exact va_iald X.1 X.2.1 X.2.2.2.2.2.2.2.1.1 hP a 0 (xw_at hw) rfl hi hd (h Af ad0 n0 p e s m args below meth c X ad H locs ls (xf_int (xf_tail (xf_tail hF))) hn ha hP hD hS hls)
theorem x_iast {a : Nat} {xs : List Int32} {i x : Int32} (hd : decode M.2.1 pc = .ok (.iastore, 1)) (hw : w[a]? = some (.inl xs)) (hi : vp_in i xs.length) (h : XA l g M Q (pc + 1) lv st (w.set a (.inl (xs.set i.toNatClampNeg x))) kc ks) : XA l g M Q pc lv (.int x :: .int i :: .ref a :: st) w kc ks := by
  intro Af ad0 n0 p e s m args below meth c X ad H locs ls hF hn ha hP hD hS hls
  have hlt : i.toNatClampNeg < xs.length := Nat.not_le.mp fun q => hi (Or.inr q)
  have hset : (xw g ad w).set a (ad a, .inl (g.2.1, xs.length, .inl (upd (fun k => xs.getD k 0) i.toNatClampNeg x))) = xw g ad (w.set a (.inl (xs.set i.toNatClampNeg x))) := by
    rw [← xw_set]
    congr 2
    show (Sum.inl _ : va_E) = Sum.inl _
    congr 2
    rw [List.length_set]
    congr 2
    funext k
    simp only [upd, List.getD_eq_getElem?_getD, List.getElem?_set]
    by_cases hk : k = i.toNatClampNeg
    · subst hk; simp [hlt]
    · simp [hk, Ne.symm hk]
  refine va_iast X.1 X.2.1 X.2.2.2.2.2.2.2.1.1 hP hD hS a 0 (xw_at hw) rfl hi hd (fun H1 locs1 hP1 hD1 hS1 => ?_)
  rw [hset] at hP1 hD1
  exact h Af ad0 n0 p e s m args below meth c X ad H1 locs1 ls ⟨xwok_set hF.1 trivial, fun u hu => by rw [List.length_set]; exact (xf_tail (xf_tail (xf_tail hF))).2.1 u hu, fun u hu => by rw [List.length_set]; exact hF.2.2 u hu⟩ (by rw [List.length_set]; exact hn) ha hP1 hD1 hS1 hls
theorem x_alen {a : Nat} {xs : List Int32} {v : Int32} (hd : decode M.2.1 pc = .ok (.arraylength, 1)) (hw : w[a]? = some (.inl xs)) (hv : Int32.ofNat xs.length = v) (h : XA l g M Q (pc + 1) lv (.int v :: st) w kc ks) : XA l g M Q pc lv (.ref a :: st) w kc ks := by
  intro Af ad0 n0 p e s m args below meth c X ad H locs ls hF hn ha hP hD hS hls
  exact va_alen X.1 X.2.1 X.2.2.2.2.2.2.2.1.1 hP a 0 (xw_at hw) (ty := .int) rfl hv hd (h Af ad0 n0 p e s m args below meth c X ad H locs ls (xf_int (xf_tail hF)) hn ha hP hD hS hls)
theorem x_aald {a b : Nat} {rs : List (Option Nat)} {i : Int32} (hd : decode M.2.1 pc = .ok (.aaload, 1)) (hw : w[a]? = some (.inr (.inl rs))) (hi : vp_in i rs.length) (hb : rs.getD i.toNatClampNeg none = some b) (h : XA l g M Q (pc + 1) lv (.ref b :: st) w kc ks) : XA l g M Q pc lv (.int i :: .ref a :: st) w kc ks := by
  intro Af ad0 n0 p e s m args below meth c X ad H locs ls hF hn ha hP hD hS hls
  have hbo : b < w.length := by
    refine hF.1 _ (List.mem_of_getElem? hw) b ?_
    rw [List.getD_eq_getElem?_getD] at hb
    cases hq : rs[i.toNatClampNeg]? with
    | none => rw [hq] at hb; cases hb
    | some y => rw [hq] at hb; cases hb; exact List.mem_of_getElem? hq
  refine va_aldq X.1 X.2.1 X.2.2.2.2.2.2.2.1.1 hP a 1 (xw_at hw) (C := "PeerStorage$State") rfl hi hd ?_
  rw [hb]
  exact h Af ad0 n0 p e s m args below meth c X ad H locs ls (xf_push (xf_tail (xf_tail hF)) (fun j e => by cases e; exact hbo)) hn ha hP hD hS hls
theorem x_aast {a b : Nat} {rs : List (Option Nat)} {i : Int32} {fs : List Value} (hd : decode M.2.1 pc = .ok (.aastore, 1)) (hw : w[a]? = some (.inr (.inl rs))) (hi : vp_in i rs.length) (hb : w[b]? = some (.inr (.inr (5, fs)))) (h : XA l g M Q (pc + 1) lv st (w.set a (.inr (.inl (rs.set i.toNatClampNeg (some b))))) kc ks) : XA l g M Q pc lv (.ref b :: .int i :: .ref a :: st) w kc ks := by
  intro Af ad0 n0 p e s m args below meth c X ad H locs ls hF hn ha hP hD hS hls
  have hlt : i.toNatClampNeg < rs.length := Nat.not_le.mp fun q => hi (Or.inr q)
  have hset : (xw g ad w).set a (ad a, .inl (g.2.2, rs.length, .inr (.inr (.inr (.inr (va_up (fun k => (rs.getD k none).map ad) i.toNatClampNeg (some (ad b)))))))) = xw g ad (w.set a (.inr (.inl (rs.set i.toNatClampNeg (some b))))) := by
    rw [← xw_set]
    congr 2
    show (Sum.inl _ : va_E) = Sum.inl _
    congr 2
    rw [List.length_set]
    congr 5
    funext k
    simp only [va_up, List.getD_eq_getElem?_getD, List.getElem?_set]
    by_cases hk : k = i.toNatClampNeg
    · subst hk; simp [hlt]
    · simp [hk, Ne.symm hk]
  refine va_astq (r := (RX5, TX5, 4)) X.1 X.2.1 X.2.2.2.2.2.2.2.1.1 hP hD hS a 1 b 5 (xw_at hw) rfl (xw_at hb) rfl hi hd (fun H1 locs1 hP1 hD1 hS1 => ?_)
  rw [hset] at hP1 hD1
  have hbo : xok w.length (.ref b) := xf_head hF
  exact h Af ad0 n0 p e s m args below meth c X ad H1 locs1 ls ⟨xwok_set hF.1 (fun j hj => by
    rcases List.mem_or_eq_of_mem_set hj with h1 | h1
    · exact hF.1 _ (List.mem_of_getElem? hw) j h1
    · cases h1; exact hbo b rfl), fun u hu => by rw [List.length_set]; exact (xf_tail (xf_tail (xf_tail hF))).2.1 u hu, fun u hu => by rw [List.length_set]; exact hF.2.2 u hu⟩ (by rw [List.length_set]; exact hn) ha hP1 hD1 hS1 hls
end XHEAP
