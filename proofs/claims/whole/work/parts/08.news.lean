/-! ===== what a method makes ===== -/
def xdf (ci : Nat) (fs : List Value) : Prop := ∀ q : vw_C, vwCl[ci]? = some q → Cond.instantiable q.1 q.2.2 ∈ xt ∧ Cond.initialized q.1 ∈ xt ∧ (∀ v ∈ fs, ∀ i, v ≠ .ref i) ∧ ∃ ty : Nat → FieldType, (∀ k, k < q.2.2 → parseFieldDescriptor (q.2.1 k).2.2.1 = some (ty k)) ∧ ∀ j, j < q.2.2 → defaultValue (ty j) = vp_V fs j
def xup (ad : Nat → Nat) (n q : Nat) : Nat → Nat := fun i => if i = n then q else ad i
theorem xup_lt {ad : Nat → Nat} {n q i : Nat} (h : i < n) : xup ad n q i = ad i := if_neg (Nat.ne_of_lt h)
theorem xw_up {g : XG} {ad : Nat → Nat} {w : XW} {q : Nat} (h : xwok w) : xw g (xup ad w.length q) w = xw g ad w := by
  apply List.ext_getElem?
  intro i
  rw [xw_get, xw_get]
  cases hc : w[i]? with
  | none => rfl
  | some c =>
    have hi : i < w.length := (List.getElem?_eq_some_iff.mp hc).1
    simp only [Option.map_some]
    rw [xup_lt hi, xe_eq (h c (List.mem_of_getElem? hc)) (fun j hj => xup_lt hj)]
section XNEW
variable {l : Launch} {g : XG} {M : XM} {Q : Option Value → XW → Prop} {pc : Nat} {lv : List (Option Value)} {st : List Value} {w : XW} {kc ks : Nat}
/-- a cell more, at a new address -/
theorem x_grown {Af : Nat → Prop} {ad0 : Nat → Nat} {n0 : Nat} {p : Program} {e : Env} {s : State} {m : MethodId} {args : Array Value} {below : List Frame} {meth : Method} {c : Code} (X : XIn g M Af p s m args meth c) {ad : Nat → Nat} {H1 : Heap} {locs : List Loc} {ls : Array Slot} {cl : XC} {q : Nat} (hF : XF lv st w) (hc : xcok 0 cl) (hn : n0 ≤ w.length) (ha : ∀ i, i < n0 → ad i = ad0 i) (hP : va_P g.1 vwCl (xw g ad w ++ [(q, xe g ad cl)]) H1) (hD : va_D Af (xw g ad w ++ [(q, xe g ad cl)])) (hS : va_S Af s.heap H1 locs) (hls : lvh ls M.2.2.1 ad lv) {pc' : Nat} (h : XA l g M Q pc' lv (.ref w.length :: st) (w ++ [cl]) kc ks) : W p l e (xm_rm M) s m args below meth c H1 locs kc ks (MQ below (XQ g Q Af ad0 n0) args s M.2.2.2.2.2.1 M.2.2.2.2.2.2 Af) (F0 m pc' ls (.ref q :: st.map (xv ad))) := by
  have e1 : xw g (xup ad w.length q) (w ++ [cl]) = xw g ad w ++ [(q, xe g ad cl)] := by
    rw [xw_push, xw_up hF.1, xe_eq hc (fun i hi => absurd hi (Nat.not_lt_zero _)) (ad := ad)]
    simp [xup]
  have hw : w.length ≤ (w ++ [cl]).length := by simp
  have K := h Af ad0 n0 p e s m args below meth c X (xup ad w.length q) H1 locs ls ⟨xwok_push hF.1 (xcok_mono hc (Nat.zero_le _)), fun v hv => by
    rcases List.mem_cons.mp hv with rfl | hv
    · exact fun i e => by cases e; simp
    · exact xok_mono (hF.2.1 v hv) hw, fun v hv => xok_mono (hF.2.2 v hv) hw⟩ (Nat.le_trans hn hw) (fun i hi => by rw [xup_lt (Nat.lt_of_lt_of_le hi hn)]; exact ha i hi) (by rw [e1]; exact hP) (by rw [e1]; exact hD) hS (lvh_eq hls hF.2.2 (fun i hi => xup_lt hi))
  have e2 : (Value.ref w.length :: st).map (xv (xup ad w.length q)) = .ref q :: st.map (xv ad) := by
    rw [List.map_cons, st_eq hF.2.1 (fun i hi => xup_lt hi)]
    simp [xv, xup]
  rw [e2] at K
  exact K
theorem x_new {idx ci : Nat} {fs : List Value} {q : vw_C} (hd : decode M.2.1 pc = .ok (.new idx, 3)) (hq : vwCl[ci]? = some q) (hl : Cond.classLink M.1.cls idx q.1 ∈ xt) (hf : xdf ci fs) (hc : kc + 1 ≤ M.2.2.2.2.2.1) (hs : ks + q.2.2 ≤ M.2.2.2.2.2.2) (h : XA l g M Q (pc + 3) lv (.ref w.length :: st) (w ++ [.inr (.inr (ci, fs))]) (kc + 1) (ks + q.2.2)) : XA l g M Q pc lv st w kc ks := by
  intro Af ad0 n0 p e s m args below meth c X ad H locs ls hF hn ha hP hD hS hls
  obtain ⟨C, T, N⟩ := q
  obtain ⟨f1, f2, f3, ty, f4, f5⟩ := hf _ hq
  have hx : xcok 0 (.inr (.inr (ci, fs))) := fun v hv i e => absurd e (f3 v hv i)
  have hfs : fs.map (xv ad) = fs := by
    conv => rhs; rw [← List.map_id fs]
    refine List.map_congr_left (fun v hv => ?_)
    cases v <;> first | rfl | exact absurd rfl (f3 _ hv _)
  refine va_new X.1 X.2.1 X.2.2.2.2.2.1 (x_in ci _ hq) ty f4 X.2.2.2.2.1 (X.2.2.2.2.2.1 _ hl) (X.2.2.2.2.2.1 _ f1) (X.2.2.2.2.2.1 _ f2) X.2.2.2.2.2.2.2.1.1 hP hD hS X.2.2.2.2.2.2.2.2.2 hq f5 hc hs hd (fun q H1 hP1 hD1 hS1 => ?_)
  refine x_grown X hF hx hn ha ?_ ?_ hS1 hls h
  · show va_P g.1 vwCl (xw g ad w ++ [(q, .inr (ci, fs.map (xv ad)))]) H1
    rw [hfs]; exact hP1
  · show va_D Af (xw g ad w ++ [(q, .inr (ci, fs.map (xv ad)))])
    rw [hfs]; exact hD1
theorem x_newi {n : Int32} {N : Nat} (hd : decode M.2.1 pc = .ok (.newarray .int, 2)) (hi : Cond.arrayClass .int ∈ xt) (hn0 : ¬ n < 0) (hN : n.toNatClampNeg = N) (hb : N * 4 ≤ 536870912) (hc : kc + 1 ≤ M.2.2.2.2.2.1) (hs : ks + N ≤ M.2.2.2.2.2.2) (h : XA l g M Q (pc + 2) lv (.ref w.length :: st) (w ++ [.inl (List.replicate N 0)]) (kc + 1) (ks + N)) : XA l g M Q pc lv (.int n :: st) w kc ks := by
  intro Af ad0 n0 p e s m args below meth c X ad H locs ls hF hn ha hP hD hS hls
  refine va_newa (atype := .int) (ty := .int) (N' := N) (a0 := ((List.replicate N (0 : Int32)).length, .inl (fun k => (List.replicate N (0 : Int32)).getD k 0))) X.1 X.2.1 (X.2.2.2.2.2.1 _ hi) rfl X.2.2.2.2.2.2.2.1.1 hP hD hS X.2.2.2.2.2.2.2.2.2 (fun cA => ?_) hn0 hN hb hc hs hd (fun q cA H1 hK1 hP1 hD1 hS1 => ?_)
  · have e1 : (fun k => (List.replicate N (0 : Int32)).getD k 0) = fun _ => (0 : Int32) := by
      funext k
      simp only [List.getD_eq_getElem?_getD, List.getElem?_replicate]
      split <;> rfl
    rw [e1, vp_cell_i, List.length_replicate]
    rfl
  · have hcA : cA = g.2.1 := by
      have h1 := (hK1.2 2 (cA, .int) rfl).2
      have h2 := (X.2.2.2.2.2.2.2.1.1.2 0 (g.2.1, .int) rfl).2
      exact Option.some.inj ((show s.vm.findClass _ = some cA from h1).symm.trans (show s.vm.findClass _ = some g.2.1 from h2))
    subst hcA
    exact x_grown X (xf_tail hF) (show xcok 0 (.inl (List.replicate N 0)) from trivial) hn ha hP1 hD1 hS1 hls h
theorem x_newr {idx : Nat} {n : Int32} {N : Nat} (hd : decode M.2.1 pc = .ok (.anewarray idx, 3)) (hl : Cond.classLink M.1.cls idx "PeerStorage$State" ∈ xt) (hn0 : ¬ n < 0) (hN : n.toNatClampNeg = N) (hb : N * 4 ≤ 536870912) (hc : kc + 1 ≤ M.2.2.2.2.2.1) (hs : ks + N ≤ M.2.2.2.2.2.2) (h : XA l g M Q (pc + 3) lv (.ref w.length :: st) (w ++ [.inr (.inl (List.replicate N none))]) (kc + 1) (ks + N)) : XA l g M Q pc lv (.int n :: st) w kc ks := by
  intro Af ad0 n0 p e s m args below meth c X ad H locs ls hF hn ha hP hD hS hls
  refine va_newq X.1 X.2.1 X.2.2.2.2.1 (X.2.2.2.2.2.1 _ hl) X.2.2.2.2.2.2.2.1.2.1 X.2.2.2.2.2.2.2.1.1 hP hD hS X.2.2.2.2.2.2.2.2.2 hn0 hN hb hc hs hd (fun q cA H1 hK1 hP1 hD1 hS1 => ?_)
  have hcA : cA = g.2.2 := by
    obtain ⟨k1, c1, -, -, -, h1⟩ := (hK1.2 2 (cA, .object "PeerStorage$State") rfl).2
    obtain ⟨k2, c2, -, -, -, h2⟩ := (X.2.2.2.2.2.2.2.1.1.2 1 (g.2.2, .object "PeerStorage$State") rfl).2
    exact Option.some.inj (h1.symm.trans h2)
  subst hcA
  have e1 : xe g ad (.inr (.inl (List.replicate N none))) = .inl (g.2.2, N, .inr (.inr (.inr (.inr (fun _ => none))))) := by
    show (Sum.inl (g.2.2, (List.replicate N (none : Option Nat)).length, Sum.inr (Sum.inr (Sum.inr (Sum.inr (fun k => ((List.replicate N (none : Option Nat)).getD k none).map ad))))) : va_E) = _
    have : (fun k => ((List.replicate N (none : Option Nat)).getD k none).map ad) = fun _ => none := by
      funext k
      simp only [List.getD_eq_getElem?_getD, List.getElem?_replicate]
      split <;> rfl
    rw [this, List.length_replicate]
  refine x_grown X (xf_tail hF) (show xcok 0 (.inr (.inl (List.replicate N none))) from fun i hi => ?_) hn ha (by rw [e1]; exact hP1) (by rw [e1]; exact hD1) hS1 hls h
  rw [List.mem_replicate] at hi
  cases hi.2
end XNEW
