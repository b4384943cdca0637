/-! ===== an abstract machine over the kit's rows: a world is a list of cells, a reference is a place in it ===== -/
abbrev XC : Type := List Int32 ⊕ (List (Option Nat) ⊕ (Nat × List Value))
abbrev XW : Type := List XC
abbrev XG : Type := va_G × ClassId × ClassId
/-- a method: name, code, locals, answer, height of its calls, cells and slots that it makes -/
abbrev XM : Type := MethodName × ByteArray × Nat × Option FieldType × Nat × Nat × Nat
def xv (ad : Nat → Nat) (v : Value) : Value := match v with
  | .ref i => .ref (ad i)
  | v => v
def xe (g : XG) (ad : Nat → Nat) (c : XC) : va_E := match c with
  | .inl xs => .inl (g.2.1, xs.length, .inl (fun k => xs.getD k 0))
  | .inr (.inl rs) => .inl (g.2.2, rs.length, .inr (.inr (.inr (.inr (fun k => (rs.getD k none).map ad)))))
  | .inr (.inr o) => .inr (o.1, o.2.map (xv ad))
def xw (g : XG) (ad : Nat → Nat) (w : XW) : va_W := w.mapIdx (fun i c => (ad i, xe g ad c))
theorem xw_get (g : XG) (ad : Nat → Nat) (w : XW) (k : Nat) : (xw g ad w)[k]? = (w[k]?).map (fun c => (ad k, xe g ad c)) := by
  simp [xw, List.getElem?_mapIdx]
theorem xw_at {g : XG} {ad : Nat → Nat} {w : XW} {k : Nat} {c : XC} (h : w[k]? = some c) : (xw g ad w)[k]? = some (ad k, xe g ad c) := by rw [xw_get, h]; rfl
theorem xw_of {g : XG} {ad : Nat → Nat} {w : XW} {k : Nat} {q : Nat × va_E} (h : (xw g ad w)[k]? = some q) : ∃ c, w[k]? = some c ∧ q = (ad k, xe g ad c) := by
  rw [xw_get] at h
  cases hc : w[k]? with
  | none => rw [hc] at h; cases h
  | some c => rw [hc] at h; exact ⟨c, rfl, (Option.some.inj h).symm⟩
theorem xw_len (g : XG) (ad : Nat → Nat) (w : XW) : (xw g ad w).length = w.length := by simp [xw]
/-- the words that a call carries along -/
def xt : List Cond := lw_tbl.filter goodWord
theorem xt_in {w : Cond} (h : w ∈ lw_tbl) (hg : goodWord w = true) : w ∈ xt := List.mem_filter.mpr ⟨h, hg⟩
theorem xt_tbl {w : Cond} (h : w ∈ xt) : w ∈ lw_tbl := (List.mem_filter.mp h).1
theorem xt_good : GoodIn xt xt := fun w h => ⟨h, good_of_word (List.mem_filter.mp h).2⟩
def xtys (g : XG) : List (ClassId × FieldType) := [(g.2.1, .int), (g.2.2, .object "PeerStorage$State")]
def XK (g : XG) (U : State) : Prop := va_K g.1 vwCl (xtys g) U ∧ va_AO "PeerStorage$State" U ∧ ∀ (own : String) (idx : Nat) (y : MethodName), Cond.methodLinkNest own idx y "PeerStorage" ∈ lw_tbl → va_Nw (.methodLinkNest own idx y "PeerStorage") U
theorem XK_warm {g : XG} {s U : State} (h : XK g s) (hW : s.WarmedH U.vm) : XK g U := ⟨va_K.moved hW.alike h.1, va_AO.moved hW.alike h.2.1, fun own idx y hm => va_Nw.warmM hW (h.2.2 own idx y hm)⟩
theorem XK_calling {g : XG} {U : State} {gg : JFrame} {mk : MethodId} {a : Array Value} (h : XK g U) : XK g (U.calling gg mk a) := ⟨va_K.moved (u := U) (U := U.calling gg mk a) (Vm.Alike.refl U.vm) h.1, va_AO.moved (u := U) (U := U.calling gg mk a) (Vm.Alike.refl U.vm) h.2.1, fun own idx y hm => va_Nw.same (u := U) (U := U.calling gg mk a) rfl rfl (h.2.2 own idx y hm)⟩
def xm_rm (M : XM) : Room := { frames := M.2.2.2.2.1, cells := M.2.2.2.2.2.1, slots := M.2.2.2.2.2.2, locals := 40 * M.2.2.2.2.1 }
abbrev xm_ws (M : XM) : List Cond := Cond.code M.1 M.2.1 M.2.2.1 M.2.2.2.1 :: xt
/-- references lie within the world -/
def xok (n : Nat) (v : Value) : Prop := ∀ i, v = .ref i → i < n
def xcok (n : Nat) (c : XC) : Prop := match c with
  | .inl _ => True
  | .inr (.inl rs) => ∀ i, some i ∈ rs → i < n
  | .inr (.inr o) => ∀ v ∈ o.2, xok n v
def xwok (w : XW) : Prop := ∀ c ∈ w, xcok w.length c
theorem xok_int (n : Nat) (x : Int32) : xok n (.int x) := fun _ h => by cases h
theorem xok_mono {n m : Nat} {v : Value} (h : xok n v) (hm : n ≤ m) : xok m v := fun i e => Nat.lt_of_lt_of_le (h i e) hm
theorem xcok_mono {n m : Nat} {c : XC} (h : xcok n c) (hm : n ≤ m) : xcok m c := by
  rcases c with xs | rs | o
  · trivial
  · exact fun i hi => Nat.lt_of_lt_of_le (h i hi) hm
  · exact fun v hv => xok_mono (h v hv) hm
/-- with other addresses, if they agree on what is there -/
theorem xv_eq {n : Nat} {ad ad' : Nat → Nat} {v : Value} (h : xok n v) (ha : ∀ i, i < n → ad' i = ad i) : xv ad' v = xv ad v := by
  cases v <;> try rfl
  exact congrArg Value.ref (ha _ (h _ rfl))
theorem xe_eq {g : XG} {n : Nat} {ad ad' : Nat → Nat} {c : XC} (h : xcok n c) (ha : ∀ i, i < n → ad' i = ad i) : xe g ad' c = xe g ad c := by
  rcases c with xs | rs | o
  · rfl
  · show (Sum.inl (g.2.2, rs.length, Sum.inr (Sum.inr (Sum.inr (Sum.inr (fun k => (rs.getD k none).map ad'))))) : va_E) = Sum.inl (g.2.2, rs.length, Sum.inr (Sum.inr (Sum.inr (Sum.inr (fun k => (rs.getD k none).map ad)))))
    have : (fun k => (rs.getD k none).map ad') = (fun k => (rs.getD k none).map ad) := by
      funext k
      cases hk : rs.getD k none with
      | none => rfl
      | some i =>
        refine congrArg some (ha i (h i ?_))
        rw [List.getD_eq_getElem?_getD] at hk
        cases hq : rs[k]? with
        | none => rw [hq] at hk; cases hk
        | some y => rw [hq] at hk; cases hk; exact List.mem_of_getElem? hq
    rw [this]
  · show (Sum.inr (o.1, o.2.map (xv ad')) : va_E) = Sum.inr (o.1, o.2.map (xv ad))
    rw [List.map_congr_left (fun v hv => xv_eq (h v hv) ha)]
def XQ (g : XG) (Q : Option Value → XW → Prop) (Af : Nat → Prop) (ad0 : Nat → Nat) (n0 : Nat) : Array Value → State → Outcome → State → Prop := fun _ st oc t =>
  (∃ (r : Option Value) (w' : XW) (ad' : Nat → Nat), oc = .returned (r.map (xv ad')) ∧ Q r w' ∧ xwok w' ∧ (∀ v, r = some v → xok w'.length v) ∧ n0 ≤ w'.length ∧ (∀ i, i < n0 → ad' i = ad0 i) ∧ va_P g.1 vwCl (xw g ad' w') t.heap ∧ va_D Af (xw g ad' w')) ∧ va_F Af st t
/-- a contract: from the world w, with the arguments as, the method comes to an end with Q of its answer and its world -/
def Ct (l : Launch) (g : XG) (M : XM) (as : List Value) (w : XW) (Q : Option Value → XW → Prop) : Prop := xwok w → (∀ v ∈ as, xok w.length v) → ∀ (ad : Nat → Nat) (sz : Nat),
  Met l M.1 (xm_ws M) (xm_rm M) (va_Pc (as.map (xv ad)) (fun U => U.heap.size = sz ∧ va_P g.1 vwCl (xw g ad w) U.heap ∧ XK g U ∧ va_D (fun _ => True) (xw g ad w))) (XQ g Q (va_A (xw g ad w) sz) ad w.length) M.2.2.2.2.2.1 M.2.2.2.2.2.2 (va_A (xw g ad w) sz)
def lvh (ls : Array Slot) (nL : Nat) (ad : Nat → Nat) (lv : List (Option Value)) : Prop := ls.size = nL ∧ lv_wf ls ∧ (∀ (k : Nat) (v : Value), lv[k]? = some (some v) → v.category = 1) ∧ ∀ (k : Nat) (v : Value), lv[k]? = some (some v) → ls[k]? = some (.val (xv ad v))
def XIn (g : XG) (M : XM) (Af : Nat → Prop) (p : Program) (s : State) (m : MethodId) (args : Array Value) (meth : Method) (c : Code) : Prop :=
  p.tables.exec = Jvm.exec ∧ c.code = M.2.1 ∧ meth.sig.returnType = M.2.2.2.1 ∧ c.maxLocals = M.2.2.1 ∧ s.vm.findClass M.1.cls = some m.cls ∧ (∀ w ∈ xt, w.before args s = true) ∧ meth.locks = false ∧ XK g s ∧ meth.name = M.1.name ∧ (∀ q : Nat, s.heap.size ≤ q → Af q)
/-- the frame's references lie within the world -/
def XF (lv : List (Option Value)) (st : List Value) (w : XW) : Prop := xwok w ∧ (∀ v ∈ st, xok w.length v) ∧ ∀ v, some v ∈ lv → xok w.length v
/-- the method's frame at pc, locals lv, operands st, world w; kc and ks: what it has made so far -/
def XA (l : Launch) (g : XG) (M : XM) (Q : Option Value → XW → Prop) (pc : Nat) (lv : List (Option Value)) (st : List Value) (w : XW) (kc ks : Nat) : Prop :=
  ∀ (Af : Nat → Prop) (ad0 : Nat → Nat) (n0 : Nat) (p : Program) (e : Env) (s : State) (m : MethodId) (args : Array Value) (below : List Frame) (meth : Method) (c : Code), XIn g M Af p s m args meth c →
  ∀ (ad : Nat → Nat) (H : Heap) (locs : List Loc) (ls : Array Slot), XF lv st w → n0 ≤ w.length → (∀ i, i < n0 → ad i = ad0 i) → va_P g.1 vwCl (xw g ad w) H → va_D Af (xw g ad w) → va_S Af s.heap H locs → lvh ls M.2.2.1 ad lv →
  W p l e (xm_rm M) s m args below meth c H locs kc ks (MQ below (XQ g Q Af ad0 n0) args s M.2.2.2.2.2.1 M.2.2.2.2.2.2 Af) (F0 m pc ls (st.map (xv ad)))
theorem xv_cat (ad : Nat → Nat) (v : Value) : (xv ad v).category = v.category := by cases v <;> rfl
theorem lvh_eq {ls : Array Slot} {nL n : Nat} {ad ad' : Nat → Nat} {lv : List (Option Value)} (h : lvh ls nL ad lv) (ho : ∀ v, some v ∈ lv → xok n v) (ha : ∀ i, i < n → ad' i = ad i) : lvh ls nL ad' lv :=
  ⟨h.1, h.2.1, h.2.2.1, fun k v hk => by rw [xv_eq (ho v (List.mem_of_getElem? hk)) ha]; exact h.2.2.2 k v hk⟩
theorem st_eq {n : Nat} {ad ad' : Nat → Nat} {st : List Value} (ho : ∀ v ∈ st, xok n v) (ha : ∀ i, i < n → ad' i = ad i) : st.map (xv ad') = st.map (xv ad) := List.map_congr_left (fun v hv => xv_eq (ho v hv) ha)
theorem lvh_store {ls : Array Slot} {nL : Nat} {ad : Nat → Nat} {lv : List (Option Value)} {i : Nat} {v : Value} (h : lvh ls nL ad lv) (hi : i < nL) (hc : v.category = 1) :
    ∃ ls', storeLocals ls i (xv ad v) = some ls' ∧ lvh ls' nL ad (lv.set i (some v)) := by
  obtain ⟨h1, h2, h3, h4⟩ := h
  have hh : lv_has ls nL ((List.range lv.length).filterMap (fun k => match lv[k]? with | some (some u) => some (k, xv ad u) | _ => none)) := by
    refine ⟨h1, h2, fun q hq => ?_⟩
    obtain ⟨k, -, hk⟩ := List.mem_filterMap.mp hq
    split at hk
    · rename_i u hu
      cases hk
      exact h4 _ _ hu
    · cases hk
  obtain ⟨ls', e1, g1, g2, g3⟩ := lv_store1 (v := xv ad v) hh hi (by rw [xv_cat]; exact hc)
  refine ⟨ls', e1, g1, g2, fun k u hk => ?_, fun k u hk => ?_⟩
  · by_cases hki : i = k
    · subst hki
      rw [List.getElem?_set] at hk
      simp only [if_pos] at hk
      split at hk
      · cases hk; exact hc
      · cases hk
    · rw [List.getElem?_set_ne hki] at hk
      exact h3 k u hk
  · by_cases hki : i = k
    · subst hki
      rw [List.getElem?_set] at hk
      simp only [if_pos] at hk
      split at hk
      · cases hk; exact g3 (i, xv ad v) List.mem_cons_self
      · cases hk
    · rw [List.getElem?_set_ne hki] at hk
      refine g3 (k, xv ad u) (List.mem_cons_of_mem _ (List.mem_filter.mpr ⟨List.mem_filterMap.mpr ⟨k, List.mem_range.mpr ((List.getElem?_eq_some_iff.mp hk).1), by rw [hk]⟩, ?_⟩))
      have := h3 k u hk
      simp only [Bool.and_eq_true, Bool.not_eq_true', beq_eq_false_iff_ne, ne_eq, Bool.and_eq_false_iff]
      exact ⟨fun z => hki z.symm, Or.inr (by rw [xv_cat, this]; decide)⟩
theorem xf_push {lv : List (Option Value)} {st : List Value} {w : XW} (h : XF lv st w) {v : Value} (hv : xok w.length v) : XF lv (v :: st) w := ⟨h.1, fun u hu => by rcases List.mem_cons.mp hu with rfl | hu; exact hv; exact h.2.1 u hu, h.2.2⟩
theorem xf_int {lv : List (Option Value)} {st : List Value} {w : XW} (h : XF lv st w) {x : Int32} : XF lv (.int x :: st) w := xf_push h (xok_int _ _)
theorem xf_tail {lv : List (Option Value)} {st : List Value} {w : XW} {v : Value} (h : XF lv (v :: st) w) : XF lv st w := ⟨h.1, fun u hu => h.2.1 u (List.mem_cons_of_mem _ hu), h.2.2⟩
theorem xf_head {lv : List (Option Value)} {st : List Value} {w : XW} {v : Value} (h : XF lv (v :: st) w) : xok w.length v := h.2.1 v List.mem_cons_self
theorem xf_set {lv : List (Option Value)} {st : List Value} {w : XW} {v : Value} (h : XF lv st w) {i : Nat} (hv : xok w.length v) : XF (lv.set i (some v)) st w := ⟨h.1, h.2.1, fun u hu => by
  rcases List.mem_or_eq_of_mem_set hu with h1 | h1
  · exact h.2.2 u h1
  · cases h1; exact hv⟩
