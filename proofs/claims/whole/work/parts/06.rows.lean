section XROWS
variable {l : Launch} {g : XG} {M : XM} {Q : Option Value → XW → Prop} {pc : Nat} {lv : List (Option Value)} {st : List Value} {w : XW} {kc ks : Nat}

theorem x_iload_n {k : Fin 4} {v : Int32} (hd : decode M.2.1 pc = .ok (.iload_n k, 1)) (hv : lv[(k : Nat)]? = some (some (.int v))) (h : XA l g M Q (pc + 1) lv (.int v :: st) w kc ks) : XA l g M Q pc lv st w kc ks := by
  intro Af ad0 n0 p e s m args below meth c X ad H locs ls hF hn ha hP hD hS hl
  exact lv_iload_n X.1 X.2.1 hd rfl (hl.2.2.2 _ _ hv) (h Af ad0 n0 p e s m args below meth c X ad H locs ls (xf_int hF) hn ha hP hD hS hl)
theorem x_iload {k : Nat} {v : Int32} (hd : decode M.2.1 pc = .ok (.iload k, 2)) (hv : lv[k]? = some (some (.int v))) (h : XA l g M Q (pc + 2) lv (.int v :: st) w kc ks) : XA l g M Q pc lv st w kc ks := by
  intro Af ad0 n0 p e s m args below meth c X ad H locs ls hF hn ha hP hD hS hl
  exact lv_iload X.1 X.2.1 hd (hl.2.2.2 _ _ hv) (h Af ad0 n0 p e s m args below meth c X ad H locs ls (xf_int hF) hn ha hP hD hS hl)
theorem x_aload_n {k : Fin 4} {a : Nat} (hd : decode M.2.1 pc = .ok (.aload_n k, 1)) (hv : lv[(k : Nat)]? = some (some (.ref a))) (h : XA l g M Q (pc + 1) lv (.ref a :: st) w kc ks) : XA l g M Q pc lv st w kc ks := by
  intro Af ad0 n0 p e s m args below meth c X ad H locs ls hF hn ha hP hD hS hl
  exact lv_aload_n X.1 X.2.1 hd rfl (hl.2.2.2 _ _ hv) (h Af ad0 n0 p e s m args below meth c X ad H locs ls (xf_push hF (hF.2.2 _ (List.mem_of_getElem? hv))) hn ha hP hD hS hl)
theorem x_aload {k : Nat} {a : Nat} (hd : decode M.2.1 pc = .ok (.aload k, 2)) (hv : lv[k]? = some (some (.ref a))) (h : XA l g M Q (pc + 2) lv (.ref a :: st) w kc ks) : XA l g M Q pc lv st w kc ks := by
  intro Af ad0 n0 p e s m args below meth c X ad H locs ls hF hn ha hP hD hS hl
  exact lv_aload X.1 X.2.1 hd (hl.2.2.2 _ _ hv) (h Af ad0 n0 p e s m args below meth c X ad H locs ls (xf_push hF (hF.2.2 _ (List.mem_of_getElem? hv))) hn ha hP hD hS hl)
theorem x_istore_n {k : Fin 4} {v : Int32} (hd : decode M.2.1 pc = .ok (.istore_n k, 1)) (hi : (k : Nat) < M.2.2.1) (h : XA l g M Q (pc + 1) (lv.set (k : Nat) (some (.int v))) st w kc ks) : XA l g M Q pc lv (.int v :: st) w kc ks := by
  intro Af ad0 n0 p e s m args below meth c X ad H locs ls hF hn ha hP hD hS hl
  obtain ⟨ls', e', hl'⟩ := lvh_store (v := .int v) hl hi rfl
  have hx := X.1
  have hb := X.2.1
  have K := h Af ad0 n0 p e s m args below meth c X ad H locs ls' (xf_set (xf_tail hF) (xf_head hF)) hn ha hP hD hS hl'
  intro T hT Y
  obtain ⟨t, a1, b1⟩ := K T hT Y
  refine ⟨t, ?_, b1⟩
  simp only [xv] at e'
  simp only [List.map_cons, xv]
  jvm_step Y.here [Y.here.top, ↓top_set Y.here.top, hx, hb, hd, e', Value.isRef]
  exact a1
theorem x_istore {k : Nat} {v : Int32} (hd : decode M.2.1 pc = .ok (.istore k, 2)) (hi : k < M.2.2.1) (h : XA l g M Q (pc + 2) (lv.set k (some (.int v))) st w kc ks) : XA l g M Q pc lv (.int v :: st) w kc ks := by
  intro Af ad0 n0 p e s m args below meth c X ad H locs ls hF hn ha hP hD hS hl
  obtain ⟨ls', e', hl'⟩ := lvh_store (v := .int v) hl hi rfl
  have hx := X.1
  have hb := X.2.1
  have K := h Af ad0 n0 p e s m args below meth c X ad H locs ls' (xf_set (xf_tail hF) (xf_head hF)) hn ha hP hD hS hl'
  intro T hT Y
  obtain ⟨t, a1, b1⟩ := K T hT Y
  refine ⟨t, ?_, b1⟩
  simp only [xv] at e'
  simp only [List.map_cons, xv]
  jvm_step Y.here [Y.here.top, ↓top_set Y.here.top, hx, hb, hd, e', Value.isRef]
  exact a1
theorem x_astore_n {k : Fin 4} {v : Nat} (hd : decode M.2.1 pc = .ok (.astore_n k, 1)) (hi : (k : Nat) < M.2.2.1) (h : XA l g M Q (pc + 1) (lv.set (k : Nat) (some (.ref v))) st w kc ks) : XA l g M Q pc lv (.ref v :: st) w kc ks := by
  intro Af ad0 n0 p e s m args below meth c X ad H locs ls hF hn ha hP hD hS hl
  obtain ⟨ls', e', hl'⟩ := lvh_store (v := .ref v) hl hi rfl
  have hx := X.1
  have hb := X.2.1
  have K := h Af ad0 n0 p e s m args below meth c X ad H locs ls' (xf_set (xf_tail hF) (xf_head hF)) hn ha hP hD hS hl'
  intro T hT Y
  obtain ⟨t, a1, b1⟩ := K T hT Y
  refine ⟨t, ?_, b1⟩
  simp only [xv] at e'
  simp only [List.map_cons, xv]
  jvm_step Y.here [Y.here.top, ↓top_set Y.here.top, hx, hb, hd, e', Value.isRef]
  exact a1
theorem x_astore {k : Nat} {v : Nat} (hd : decode M.2.1 pc = .ok (.astore k, 2)) (hi : k < M.2.2.1) (h : XA l g M Q (pc + 2) (lv.set k (some (.ref v))) st w kc ks) : XA l g M Q pc lv (.ref v :: st) w kc ks := by
  intro Af ad0 n0 p e s m args below meth c X ad H locs ls hF hn ha hP hD hS hl
  obtain ⟨ls', e', hl'⟩ := lvh_store (v := .ref v) hl hi rfl
  have hx := X.1
  have hb := X.2.1
  have K := h Af ad0 n0 p e s m args below meth c X ad H locs ls' (xf_set (xf_tail hF) (xf_head hF)) hn ha hP hD hS hl'
  intro T hT Y
  obtain ⟨t, a1, b1⟩ := K T hT Y
  refine ⟨t, ?_, b1⟩
  simp only [xv] at e'
  simp only [List.map_cons, xv]
  jvm_step Y.here [Y.here.top, ↓top_set Y.here.top, hx, hb, hd, e', Value.isRef]
  exact a1
theorem x_iinc {k : Nat} {n : Int} {v : Int32} {v' : Int32} (hd : decode M.2.1 pc = .ok (.iinc k n, 3)) (hi : k < M.2.2.1) (hv : lv[k]? = some (some (.int v))) (hn' : v + Int32.ofInt n = v') (h : XA l g M Q (pc + 3) (lv.set k (some (.int v'))) st w kc ks) : XA l g M Q pc lv st w kc ks := by
  intro Af ad0 n0 p e s m args below meth c X ad H locs ls hF hn ha hP hD hS hl
  subst hn'
  obtain ⟨ls', e', hl'⟩ := lvh_store (v := .int (v + Int32.ofInt n)) hl hi rfl
  have hx := X.1
  have hb := X.2.1
  have hg : ls[k]? = some (.val (.int v)) := hl.2.2.2 _ _ hv
  have K := h Af ad0 n0 p e s m args below meth c X ad H locs ls' (xf_set hF (xok_int _ _)) hn ha hP hD hS hl'
  intro T hT Y
  obtain ⟨t, a1, b1⟩ := K T hT Y
  refine ⟨t, ?_, b1⟩
  simp only [xv] at e'
  jvm_step Y.here [Y.here.top, ↓top_set Y.here.top, hx, hb, hd, hg, e']
  exact a1
theorem x_iconst {n : Int} {v : Int32} (hd : decode M.2.1 pc = .ok (.iconst n, 1)) (hv : Int32.ofInt n = v) (h : XA l g M Q (pc + 1) lv (.int v :: st) w kc ks) : XA l g M Q pc lv st w kc ks := by
  intro Af ad0 n0 p e s m args below meth c X ad H locs ls hF hn ha hP hD hS hl
  exact lv_iconst X.1 X.2.1 hd hv (h Af ad0 n0 p e s m args below meth c X ad H locs ls (xf_int hF) hn ha hP hD hS hl)
theorem x_bipush {n : Int} {v : Int32} (hd : decode M.2.1 pc = .ok (.bipush n, 2)) (hv : (Int8.ofInt n).toInt32 = v) (h : XA l g M Q (pc + 2) lv (.int v :: st) w kc ks) : XA l g M Q pc lv st w kc ks := by
  intro Af ad0 n0 p e s m args below meth c X ad H locs ls hF hn ha hP hD hS hl
  exact lv_bipush X.1 X.2.1 hd hv (h Af ad0 n0 p e s m args below meth c X ad H locs ls (xf_int hF) hn ha hP hD hS hl)
theorem x_sipush {n : Int} {v : Int32} (hd : decode M.2.1 pc = .ok (.sipush n, 3)) (hv : (Int16.ofInt n).toInt32 = v) (h : XA l g M Q (pc + 3) lv (.int v :: st) w kc ks) : XA l g M Q pc lv st w kc ks := by
  intro Af ad0 n0 p e s m args below meth c X ad H locs ls hF hn ha hP hD hS hl
  exact lv_sipush X.1 X.2.1 hd hv (h Af ad0 n0 p e s m args below meth c X ad H locs ls (xf_int hF) hn ha hP hD hS hl)
theorem x_ldc_w {n : Nat} {v : Int32} (hd : decode M.2.1 pc = .ok (.ldc_w n, 3)) (hc : Cond.constant M.1.cls n v ∈ xt) (h : XA l g M Q (pc + 3) lv (.int v :: st) w kc ks) : XA l g M Q pc lv st w kc ks := by
  intro Af ad0 n0 p e s m args below meth c X ad H locs ls hF hn ha hP hD hS hl
  exact lv_ldcw X.1 X.2.1 X.2.2.2.2.1 (X.2.2.2.2.2.1 _ hc) hd (h Af ad0 n0 p e s m args below meth c X ad H locs ls (xf_int hF) hn ha hP hD hS hl)
theorem x_iadd {x y : Int32} (hd : decode M.2.1 pc = .ok (.iadd, 1)) (h : XA l g M Q (pc + 1) lv (.int (x + y) :: st) w kc ks) : XA l g M Q pc lv (.int y :: .int x :: st) w kc ks := by
  intro Af ad0 n0 p e s m args below meth c X ad H locs ls hF hn ha hP hD hS hl
  exact lv_iadd X.1 X.2.1 hd (h Af ad0 n0 p e s m args below meth c X ad H locs ls (xf_int (xf_tail (xf_tail hF))) hn ha hP hD hS hl)
theorem x_isub {x y : Int32} (hd : decode M.2.1 pc = .ok (.isub, 1)) (h : XA l g M Q (pc + 1) lv (.int (x - y) :: st) w kc ks) : XA l g M Q pc lv (.int y :: .int x :: st) w kc ks := by
  intro Af ad0 n0 p e s m args below meth c X ad H locs ls hF hn ha hP hD hS hl
  exact lv_isub X.1 X.2.1 hd (h Af ad0 n0 p e s m args below meth c X ad H locs ls (xf_int (xf_tail (xf_tail hF))) hn ha hP hD hS hl)
theorem x_imul {x y : Int32} (hd : decode M.2.1 pc = .ok (.imul, 1)) (h : XA l g M Q (pc + 1) lv (.int (x * y) :: st) w kc ks) : XA l g M Q pc lv (.int y :: .int x :: st) w kc ks := by
  intro Af ad0 n0 p e s m args below meth c X ad H locs ls hF hn ha hP hD hS hl
  exact lv_imul X.1 X.2.1 hd (h Af ad0 n0 p e s m args below meth c X ad H locs ls (xf_int (xf_tail (xf_tail hF))) hn ha hP hD hS hl)
theorem x_iand {x y : Int32} (hd : decode M.2.1 pc = .ok (.iand, 1)) (h : XA l g M Q (pc + 1) lv (.int (x &&& y) :: st) w kc ks) : XA l g M Q pc lv (.int y :: .int x :: st) w kc ks := by
  intro Af ad0 n0 p e s m args below meth c X ad H locs ls hF hn ha hP hD hS hl
  exact lv_iand X.1 X.2.1 hd (h Af ad0 n0 p e s m args below meth c X ad H locs ls (xf_int (xf_tail (xf_tail hF))) hn ha hP hD hS hl)
theorem x_ior {x y : Int32} (hd : decode M.2.1 pc = .ok (.ior, 1)) (h : XA l g M Q (pc + 1) lv (.int (x ||| y) :: st) w kc ks) : XA l g M Q pc lv (.int y :: .int x :: st) w kc ks := by
  intro Af ad0 n0 p e s m args below meth c X ad H locs ls hF hn ha hP hD hS hl
  exact lv_ior X.1 X.2.1 hd (h Af ad0 n0 p e s m args below meth c X ad H locs ls (xf_int (xf_tail (xf_tail hF))) hn ha hP hD hS hl)
theorem x_ixor {x y : Int32} (hd : decode M.2.1 pc = .ok (.ixor, 1)) (h : XA l g M Q (pc + 1) lv (.int (x ^^^ y) :: st) w kc ks) : XA l g M Q pc lv (.int y :: .int x :: st) w kc ks := by
  intro Af ad0 n0 p e s m args below meth c X ad H locs ls hF hn ha hP hD hS hl
  exact lv_ixor X.1 X.2.1 hd (h Af ad0 n0 p e s m args below meth c X ad H locs ls (xf_int (xf_tail (xf_tail hF))) hn ha hP hD hS hl)
theorem x_ishl {x y : Int32} (hd : decode M.2.1 pc = .ok (.ishl, 1)) (h : XA l g M Q (pc + 1) lv (.int (x <<< (y &&& 31)) :: st) w kc ks) : XA l g M Q pc lv (.int y :: .int x :: st) w kc ks := by
  intro Af ad0 n0 p e s m args below meth c X ad H locs ls hF hn ha hP hD hS hl
  exact lv_ishl X.1 X.2.1 hd (h Af ad0 n0 p e s m args below meth c X ad H locs ls (xf_int (xf_tail (xf_tail hF))) hn ha hP hD hS hl)
theorem x_ishr {x y : Int32} (hd : decode M.2.1 pc = .ok (.ishr, 1)) (h : XA l g M Q (pc + 1) lv (.int (x >>> (y &&& 31)) :: st) w kc ks) : XA l g M Q pc lv (.int y :: .int x :: st) w kc ks := by
  intro Af ad0 n0 p e s m args below meth c X ad H locs ls hF hn ha hP hD hS hl
  exact lv_ishr X.1 X.2.1 hd (h Af ad0 n0 p e s m args below meth c X ad H locs ls (xf_int (xf_tail (xf_tail hF))) hn ha hP hD hS hl)
theorem x_iushr {x y v : Int32} (hd : decode M.2.1 pc = .ok (.iushr, 1)) (hv : (x.toUInt32 >>> (y.toUInt32 &&& Int32.toUInt32 31)).toInt32 = v) (h : XA l g M Q (pc + 1) lv (.int v :: st) w kc ks) : XA l g M Q pc lv (.int y :: .int x :: st) w kc ks := by
  intro Af ad0 n0 p e s m args below meth c X ad H locs ls hF hn ha hP hD hS hl
  exact lv_iushr X.1 X.2.1 hd hv (h Af ad0 n0 p e s m args below meth c X ad H locs ls (xf_int (xf_tail (xf_tail hF))) hn ha hP hD hS hl)
theorem x_irem {x y : Int32} (hd : decode M.2.1 pc = .ok (.irem, 1)) (hne : ¬ y = 0) (h : XA l g M Q (pc + 1) lv (.int (x - x / y * y) :: st) w kc ks) : XA l g M Q pc lv (.int y :: .int x :: st) w kc ks := by
  intro Af ad0 n0 p e s m args below meth c X ad H locs ls hF hn ha hP hD hS hl
  exact lv_irem X.1 X.2.1 hd hne (h Af ad0 n0 p e s m args below meth c X ad H locs ls (xf_int (xf_tail (xf_tail hF))) hn ha hP hD hS hl)
theorem x_idiv {x y : Int32} (hd : decode M.2.1 pc = .ok (.idiv, 1)) (hne : ¬ y = 0) (h : XA l g M Q (pc + 1) lv (.int (x / y) :: st) w kc ks) : XA l g M Q pc lv (.int y :: .int x :: st) w kc ks := by
  intro Af ad0 n0 p e s m args below meth c X ad H locs ls hF hn ha hP hD hS hl
  exact lv_idiv X.1 X.2.1 hd hne (h Af ad0 n0 p e s m args below meth c X ad H locs ls (xf_int (xf_tail (xf_tail hF))) hn ha hP hD hS hl)
theorem x_ineg {x : Int32} (hd : decode M.2.1 pc = .ok (.ineg, 1)) (h : XA l g M Q (pc + 1) lv (.int (-x) :: st) w kc ks) : XA l g M Q pc lv (.int x :: st) w kc ks := by
  intro Af ad0 n0 p e s m args below meth c X ad H locs ls hF hn ha hP hD hS hl
  exact lv_ineg X.1 X.2.1 hd (h Af ad0 n0 p e s m args below meth c X ad H locs ls (xf_int (xf_tail hF)) hn ha hP hD hS hl)
theorem x_dup {v : Value} (hd : decode M.2.1 pc = .ok (.dup, 1)) (hv : v.category = 1) (h : XA l g M Q (pc + 1) lv (v :: v :: st) w kc ks) : XA l g M Q pc lv (v :: st) w kc ks := by
  intro Af ad0 n0 p e s m args below meth c X ad H locs ls hF hn ha hP hD hS hl
  exact lv_dup X.1 X.2.1 hd (by rw [xv_cat]; exact hv) (h Af ad0 n0 p e s m args below meth c X ad H locs ls (xf_push hF (xf_head hF)) hn ha hP hD hS hl)
theorem x_pop {v : Value} (hd : decode M.2.1 pc = .ok (.pop, 1)) (hv : v.category = 1) (h : XA l g M Q (pc + 1) lv st w kc ks) : XA l g M Q pc lv (v :: st) w kc ks := by
  intro Af ad0 n0 p e s m args below meth c X ad H locs ls hF hn ha hP hD hS hl
  exact lv_pop X.1 X.2.1 hd (by rw [xv_cat]; exact hv) (h Af ad0 n0 p e s m args below meth c X ad H locs ls (xf_tail hF) hn ha hP hD hS hl)
theorem x_dup2 {v u : Value} (hd : decode M.2.1 pc = .ok (.dup2, 1)) (hv : v.category = 1) (hu : u.category = 1) (h : XA l g M Q (pc + 1) lv (v :: u :: v :: u :: st) w kc ks) : XA l g M Q pc lv (v :: u :: st) w kc ks := by
  intro Af ad0 n0 p e s m args below meth c X ad H locs ls hF hn ha hP hD hS hl
  exact lv_dup2_11 X.1 X.2.1 hd (by rw [xv_cat]; exact hv) (by rw [xv_cat]; exact hu) (h Af ad0 n0 p e s m args below meth c X ad H locs ls (xf_push (xf_push hF (xf_head (xf_tail hF))) (xf_head hF)) hn ha hP hD hS hl)
theorem x_goto {off : Int} {tgt : Nat} (hd : decode M.2.1 pc = .ok (.goto off, 3)) (ht : (pc : Int) + off = (tgt : Int)) (h : XA l g M Q tgt lv st w kc ks) : XA l g M Q pc lv st w kc ks := by
  intro Af ad0 n0 p e s m args below meth c X ad H locs ls hF hn ha hP hD hS hl
  exact lv_goto X.1 X.2.1 hd ht (h Af ad0 n0 p e s m args below meth c X ad H locs ls hF hn ha hP hD hS hl)
theorem x_if_eq {x : Int32} {off : Int} {tgt : Nat} (hd : decode M.2.1 pc = .ok (.ifCond .eq off, 3)) (ht : (pc : Int) + off = (tgt : Int)) (kt : x = 0 → XA l g M Q tgt lv st w kc ks) (kf : ¬ x = 0 → XA l g M Q (pc + 3) lv st w kc ks) : XA l g M Q pc lv (.int x :: st) w kc ks := by
  intro Af ad0 n0 p e s m args below meth c X ad H locs ls hF hn ha hP hD hS hl
  exact lv_if_eq X.1 X.2.1 hd ht (fun z => kt z Af ad0 n0 p e s m args below meth c X ad H locs ls (xf_tail hF) hn ha hP hD hS hl) (fun z => kf z Af ad0 n0 p e s m args below meth c X ad H locs ls (xf_tail hF) hn ha hP hD hS hl)
theorem x_icmp_eq {x y : Int32} {off : Int} {tgt : Nat} (hd : decode M.2.1 pc = .ok (.if_icmp .eq off, 3)) (ht : (pc : Int) + off = (tgt : Int)) (kt : x = y → XA l g M Q tgt lv st w kc ks) (kf : ¬ x = y → XA l g M Q (pc + 3) lv st w kc ks) : XA l g M Q pc lv (.int y :: .int x :: st) w kc ks := by
  intro Af ad0 n0 p e s m args below meth c X ad H locs ls hF hn ha hP hD hS hl
  exact lv_icmp_eq X.1 X.2.1 hd ht (fun z => kt z Af ad0 n0 p e s m args below meth c X ad H locs ls (xf_tail (xf_tail hF)) hn ha hP hD hS hl) (fun z => kf z Af ad0 n0 p e s m args below meth c X ad H locs ls (xf_tail (xf_tail hF)) hn ha hP hD hS hl)
theorem x_if_ne {x : Int32} {off : Int} {tgt : Nat} (hd : decode M.2.1 pc = .ok (.ifCond .ne off, 3)) (ht : (pc : Int) + off = (tgt : Int)) (kt : ¬ x = 0 → XA l g M Q tgt lv st w kc ks) (kf : x = 0 → XA l g M Q (pc + 3) lv st w kc ks) : XA l g M Q pc lv (.int x :: st) w kc ks := by
  intro Af ad0 n0 p e s m args below meth c X ad H locs ls hF hn ha hP hD hS hl
  exact lv_if_ne X.1 X.2.1 hd ht (fun z => kt z Af ad0 n0 p e s m args below meth c X ad H locs ls (xf_tail hF) hn ha hP hD hS hl) (fun z => kf z Af ad0 n0 p e s m args below meth c X ad H locs ls (xf_tail hF) hn ha hP hD hS hl)
theorem x_icmp_ne {x y : Int32} {off : Int} {tgt : Nat} (hd : decode M.2.1 pc = .ok (.if_icmp .ne off, 3)) (ht : (pc : Int) + off = (tgt : Int)) (kt : ¬ x = y → XA l g M Q tgt lv st w kc ks) (kf : x = y → XA l g M Q (pc + 3) lv st w kc ks) : XA l g M Q pc lv (.int y :: .int x :: st) w kc ks := by
  intro Af ad0 n0 p e s m args below meth c X ad H locs ls hF hn ha hP hD hS hl
  exact lv_icmp_ne X.1 X.2.1 hd ht (fun z => kt z Af ad0 n0 p e s m args below meth c X ad H locs ls (xf_tail (xf_tail hF)) hn ha hP hD hS hl) (fun z => kf z Af ad0 n0 p e s m args below meth c X ad H locs ls (xf_tail (xf_tail hF)) hn ha hP hD hS hl)
theorem x_if_lt {x : Int32} {off : Int} {tgt : Nat} (hd : decode M.2.1 pc = .ok (.ifCond .lt off, 3)) (ht : (pc : Int) + off = (tgt : Int)) (kt : x < 0 → XA l g M Q tgt lv st w kc ks) (kf : ¬ x < 0 → XA l g M Q (pc + 3) lv st w kc ks) : XA l g M Q pc lv (.int x :: st) w kc ks := by
  intro Af ad0 n0 p e s m args below meth c X ad H locs ls hF hn ha hP hD hS hl
  exact lv_if_lt X.1 X.2.1 hd ht (fun z => kt z Af ad0 n0 p e s m args below meth c X ad H locs ls (xf_tail hF) hn ha hP hD hS hl) (fun z => kf z Af ad0 n0 p e s m args below meth c X ad H locs ls (xf_tail hF) hn ha hP hD hS hl)
theorem x_icmp_lt {x y : Int32} {off : Int} {tgt : Nat} (hd : decode M.2.1 pc = .ok (.if_icmp .lt off, 3)) (ht : (pc : Int) + off = (tgt : Int)) (kt : x < y → XA l g M Q tgt lv st w kc ks) (kf : ¬ x < y → XA l g M Q (pc + 3) lv st w kc ks) : XA l g M Q pc lv (.int y :: .int x :: st) w kc ks := by
  intro Af ad0 n0 p e s m args below meth c X ad H locs ls hF hn ha hP hD hS hl
  exact lv_icmp_lt X.1 X.2.1 hd ht (fun z => kt z Af ad0 n0 p e s m args below meth c X ad H locs ls (xf_tail (xf_tail hF)) hn ha hP hD hS hl) (fun z => kf z Af ad0 n0 p e s m args below meth c X ad H locs ls (xf_tail (xf_tail hF)) hn ha hP hD hS hl)
theorem x_if_ge {x : Int32} {off : Int} {tgt : Nat} (hd : decode M.2.1 pc = .ok (.ifCond .ge off, 3)) (ht : (pc : Int) + off = (tgt : Int)) (kt : 0 ≤ x → XA l g M Q tgt lv st w kc ks) (kf : ¬ 0 ≤ x → XA l g M Q (pc + 3) lv st w kc ks) : XA l g M Q pc lv (.int x :: st) w kc ks := by
  intro Af ad0 n0 p e s m args below meth c X ad H locs ls hF hn ha hP hD hS hl
  exact lv_if_ge X.1 X.2.1 hd ht (fun z => kt z Af ad0 n0 p e s m args below meth c X ad H locs ls (xf_tail hF) hn ha hP hD hS hl) (fun z => kf z Af ad0 n0 p e s m args below meth c X ad H locs ls (xf_tail hF) hn ha hP hD hS hl)
theorem x_icmp_ge {x y : Int32} {off : Int} {tgt : Nat} (hd : decode M.2.1 pc = .ok (.if_icmp .ge off, 3)) (ht : (pc : Int) + off = (tgt : Int)) (kt : y ≤ x → XA l g M Q tgt lv st w kc ks) (kf : ¬ y ≤ x → XA l g M Q (pc + 3) lv st w kc ks) : XA l g M Q pc lv (.int y :: .int x :: st) w kc ks := by
  intro Af ad0 n0 p e s m args below meth c X ad H locs ls hF hn ha hP hD hS hl
  exact lv_icmp_ge X.1 X.2.1 hd ht (fun z => kt z Af ad0 n0 p e s m args below meth c X ad H locs ls (xf_tail (xf_tail hF)) hn ha hP hD hS hl) (fun z => kf z Af ad0 n0 p e s m args below meth c X ad H locs ls (xf_tail (xf_tail hF)) hn ha hP hD hS hl)
theorem x_if_gt {x : Int32} {off : Int} {tgt : Nat} (hd : decode M.2.1 pc = .ok (.ifCond .gt off, 3)) (ht : (pc : Int) + off = (tgt : Int)) (kt : 0 < x → XA l g M Q tgt lv st w kc ks) (kf : ¬ 0 < x → XA l g M Q (pc + 3) lv st w kc ks) : XA l g M Q pc lv (.int x :: st) w kc ks := by
  intro Af ad0 n0 p e s m args below meth c X ad H locs ls hF hn ha hP hD hS hl
  exact lv_if_gt X.1 X.2.1 hd ht (fun z => kt z Af ad0 n0 p e s m args below meth c X ad H locs ls (xf_tail hF) hn ha hP hD hS hl) (fun z => kf z Af ad0 n0 p e s m args below meth c X ad H locs ls (xf_tail hF) hn ha hP hD hS hl)
theorem x_icmp_gt {x y : Int32} {off : Int} {tgt : Nat} (hd : decode M.2.1 pc = .ok (.if_icmp .gt off, 3)) (ht : (pc : Int) + off = (tgt : Int)) (kt : y < x → XA l g M Q tgt lv st w kc ks) (kf : ¬ y < x → XA l g M Q (pc + 3) lv st w kc ks) : XA l g M Q pc lv (.int y :: .int x :: st) w kc ks := by
  intro Af ad0 n0 p e s m args below meth c X ad H locs ls hF hn ha hP hD hS hl
  exact lv_icmp_gt X.1 X.2.1 hd ht (fun z => kt z Af ad0 n0 p e s m args below meth c X ad H locs ls (xf_tail (xf_tail hF)) hn ha hP hD hS hl) (fun z => kf z Af ad0 n0 p e s m args below meth c X ad H locs ls (xf_tail (xf_tail hF)) hn ha hP hD hS hl)
theorem x_if_le {x : Int32} {off : Int} {tgt : Nat} (hd : decode M.2.1 pc = .ok (.ifCond .le off, 3)) (ht : (pc : Int) + off = (tgt : Int)) (kt : x ≤ 0 → XA l g M Q tgt lv st w kc ks) (kf : ¬ x ≤ 0 → XA l g M Q (pc + 3) lv st w kc ks) : XA l g M Q pc lv (.int x :: st) w kc ks := by
  intro Af ad0 n0 p e s m args below meth c X ad H locs ls hF hn ha hP hD hS hl
  exact lv_if_le X.1 X.2.1 hd ht (fun z => kt z Af ad0 n0 p e s m args below meth c X ad H locs ls (xf_tail hF) hn ha hP hD hS hl) (fun z => kf z Af ad0 n0 p e s m args below meth c X ad H locs ls (xf_tail hF) hn ha hP hD hS hl)
theorem x_icmp_le {x y : Int32} {off : Int} {tgt : Nat} (hd : decode M.2.1 pc = .ok (.if_icmp .le off, 3)) (ht : (pc : Int) + off = (tgt : Int)) (kt : x ≤ y → XA l g M Q tgt lv st w kc ks) (kf : ¬ x ≤ y → XA l g M Q (pc + 3) lv st w kc ks) : XA l g M Q pc lv (.int y :: .int x :: st) w kc ks := by
  intro Af ad0 n0 p e s m args below meth c X ad H locs ls hF hn ha hP hD hS hl
  exact lv_icmp_le X.1 X.2.1 hd ht (fun z => kt z Af ad0 n0 p e s m args below meth c X ad H locs ls (xf_tail (xf_tail hF)) hn ha hP hD hS hl) (fun z => kf z Af ad0 n0 p e s m args below meth c X ad H locs ls (xf_tail (xf_tail hF)) hn ha hP hD hS hl)
theorem x_switchOut {dflt lo hi : Int} {offs : Array Int} {len : Nat} {x : Int32} {tgt : Nat} (hd : decode M.2.1 pc = .ok (.tableswitch dflt lo hi offs, len)) (hx : x.toInt < lo ∨ hi < x.toInt) (ht : (pc : Int) + dflt = (tgt : Int)) (h : XA l g M Q tgt lv st w kc ks) : XA l g M Q pc lv (.int x :: st) w kc ks := by
  intro Af ad0 n0 p e s m args below meth c X ad H locs ls hF hn ha hP hD hS hl
  exact lv_tableOut X.1 X.2.1 hd hx ht (h Af ad0 n0 p e s m args below meth c X ad H locs ls (xf_tail hF) hn ha hP hD hS hl)
theorem x_switchIn {dflt lo hi : Int} {offs : Array Int} {len : Nat} {x : Int32} {off : Int} {tgt : Nat} (hd : decode M.2.1 pc = .ok (.tableswitch dflt lo hi offs, len)) (h1 : ¬ x.toInt < lo) (h2 : ¬ hi < x.toInt) (ho : offs[(x.toInt - lo).toNat]? = some off) (ht : (pc : Int) + off = (tgt : Int)) (h : XA l g M Q tgt lv st w kc ks) : XA l g M Q pc lv (.int x :: st) w kc ks := by
  intro Af ad0 n0 p e s m args below meth c X ad H locs ls hF hn ha hP hD hS hl
  exact lv_tableIn X.1 X.2.1 hd h1 h2 ho ht (h Af ad0 n0 p e s m args below meth c X ad H locs ls (xf_tail hF) hn ha hP hD hS hl)
/-- fewer locals are known -/
theorem x_drop {lv' : List (Option Value)} (hd : ∀ (k : Nat) (v : Value), lv'[k]? = some (some v) → lv[k]? = some (some v)) (h : XA l g M Q pc lv' st w kc ks) : XA l g M Q pc lv st w kc ks := by
  intro Af ad0 n0 p e s m args below meth c X ad H locs ls hF hn ha hP hD hS hl
  exact h Af ad0 n0 p e s m args below meth c X ad H locs ls ⟨hF.1, hF.2.1, fun v hv => by
    obtain ⟨k, hk⟩ := List.getElem?_of_mem hv
    exact hF.2.2 v (List.mem_of_getElem? (hd k v hk))⟩ hn ha hP hD hS ⟨hl.1, hl.2.1, fun k v hk => hl.2.2.1 k v (hd k v hk), fun k v hk => hl.2.2.2 k v (hd k v hk)⟩
/-- more is made than was -/
theorem x_widen {kc' ks' : Nat} (h1 : kc ≤ kc') (h2 : ks ≤ ks') (h : XA l g M Q pc lv st w kc' ks') : XA l g M Q pc lv st w kc ks := by
  intro Af ad0 n0 p e s m args below meth c X ad H locs ls hF hn ha hP hD hS hl
  exact W.widen h1 h2 (h Af ad0 n0 p e s m args below meth c X ad H locs ls hF hn ha hP hD hS hl)
theorem x_reti {v : Int32} (hd : decode M.2.1 pc = .ok (.ireturn, 1)) (hr : M.2.2.2.1 = some .int) (hc : M.2.2.2.2.2.1 = kc) (hs : M.2.2.2.2.2.2 = ks) (h : Q (some (.int v)) w) : XA l g M Q pc lv [.int v] w kc ks := by
  intro Af ad0 n0 p e s m args below meth c X ad H locs ls hF hn ha hP hD hS hl
  subst hc; subst hs
  exact W.iret X.1 X.2.1 (X.2.2.1.trans hr) (fun t ht hW => ⟨⟨some (.int v), w, ad, rfl, h, hF.1, (fun u hu => by cases hu; exact xok_int _ _), hn, ha, by rw [ht]; exact hP, hD⟩, hS.F ht⟩) hS.2.2 hd X.2.2.2.2.2.2.1
theorem x_retz {v : Int32} (hd : decode M.2.1 pc = .ok (.ireturn, 1)) (hr : M.2.2.2.1 = some .boolean) (hv : narrow .boolean (.int v) = .int v) (hc : M.2.2.2.2.2.1 = kc) (hs : M.2.2.2.2.2.2 = ks) (h : Q (some (.int v)) w) : XA l g M Q pc lv [.int v] w kc ks := by
  intro Af ad0 n0 p e s m args below meth c X ad H locs ls hF hn ha hP hD hS hl
  subst hc; subst hs
  exact W.zret X.1 X.2.1 (X.2.2.1.trans hr) hv (fun t ht hW => ⟨⟨some (.int v), w, ad, rfl, h, hF.1, (fun u hu => by cases hu; exact xok_int _ _), hn, ha, by rw [ht]; exact hP, hD⟩, hS.F ht⟩) hS.2.2 hd X.2.2.2.2.2.2.1
theorem x_retv (hd : decode M.2.1 pc = .ok (.return_, 1)) (hr : M.2.2.2.1 = none) (hc : M.2.2.2.2.2.1 = kc) (hs : M.2.2.2.2.2.2 = ks) (h : Q none w) : XA l g M Q pc lv [] w kc ks := by
  intro Af ad0 n0 p e s m args below meth c X ad H locs ls hF hn ha hP hD hS hl
  subst hc; subst hs
  exact W.vret X.1 X.2.1 (X.2.2.1.trans hr) (fun t ht hW => ⟨⟨none, w, ad, rfl, h, hF.1, (fun u hu => by cases hu), hn, ha, by rw [ht]; exact hP, hD⟩, hS.F ht⟩) hS.2.2 hd X.2.2.2.2.2.2.1
end XROWS
