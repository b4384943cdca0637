/-! THE CLAIM OUT OF ONE WALK OF THE LAW'S BODY. Your part is whole_start (and what it stands on); all else here is the same for every law, but numbers. -/
def R_law : String := "PeerStorageLaw"
def lw_P (b : Addr) (xs : List Int32) (args : Array Value) (s : State) : Prop := args = #[.ref b] ∧ s.IntsAt b xs ∧ xs.length ≤ 2048 ∧ (Jvm.Cond.and given_1 narrow_1).before args s = true
def lw_Q (_ : Array Value) (s : State) (o : Outcome) (t : State) : Prop := o = .returned (some (.int 1)) ∧ Framed s o t [] 600000 7302250
def lw_Z (below : List Frame) (a : Array Value) (s : State) : State → Prop := fun t => ∃ o, t.status = .running ∧ Ended t below o ∧ lw_Q a s o t
/-- the law's own end, with 1 on the stack, nothing written that was there before, its room as the claim has it -/
theorem lw_ret {p : Program} {l : Launch} {e : Env} {s : State} {m : MethodId} {below : List Frame} {meth : Method} {c : Code} {b : Nat} (hx : p.tables.exec = Jvm.exec) (hb : c.code = code) (hr : meth.sig.returnType = ret) (hlocks : meth.locks = false) {pc : Nat} {H : Heap} {ls : Array Slot} (hdg : decode code pc = .ok (.ireturn, 1)) : W p l e room_1 s m #[Value.ref b] below meth c H [] 600000 7302250 (lw_Z below #[Value.ref b] s) (F0 m pc ls [.int 1]) := by
  intro T hT X
  obtain ⟨fs, hret, hrun, hended, hW, hframe⟩ := X.leave (v := some (.int 1)) (hlocks := hlocks) (fun h => by rw [hr] at h; cases h)
  have hmeth' : T.vm.method? m = some meth := X.method'
  refine ⟨T.setFrames fs, ?_, .returned (some (.int 1)), hrun, hended, rfl, ⟨_, rfl⟩, hW, hframe⟩
  jvm_step X.here [X.here.top, hx, hb, hdg, hmeth', hr, ret, narrow_b1]
  (try refine ⟨rfl, ?_⟩); (try refine ⟨rfl, ?_⟩)
  first | (intro acts; rw [hret _ acts rfl rfl rfl]) | rw [hret _ _ rfl rfl rfl]
  exact Steps.refl _
/-- what holds at the law's entry: the machine, the code, the tables' words (any of lw_tbl by 'hts w (by decide +kernel)'), the script of L ints xs at the cell b, what the Statement gives of the start (any of its parts by flat_of_before) -/
def lw_At (p : Program) (s : State) (m : MethodId) (meth : Method) (c : Code) (b L : Nat) (xs : Nat → Int32) : Prop :=
  p.tables.exec = Jvm.exec ∧ c.code = code ∧ meth.sig.returnType = ret ∧ c.maxLocals = 4 ∧ s.vm.findClass R_law = some m.cls ∧ (∀ w ∈ lw_tbl, w.before #[Value.ref b] s = true) ∧ va_X b L xs s s.heap ∧ b < s.heap.size ∧ meth.locks = false ∧ (Jvm.Cond.and given_1 narrow_1).before #[Value.ref b] s = true

/-! ===== the law: its frame, over a world of cells ===== -/
def YL (l : Launch) (g : XG) (b L : Nat) (xs : Nat → Int32) (pc : Nat) (lv : List (Nat × Value)) (st : List Value) (w : XW) (kc ks : Nat) : Prop :=
  ∀ (p : Program) (e : Env) (s : State) (m : MethodId) (below : List Frame) (meth : Method) (c : Code), lw_At p s m meth c b L xs → XK g s →
  ∀ (ad : Nat → Nat) (H : Heap) (locs : List Loc) (ls : Array Slot), xwok w → (∀ v ∈ st, xok w.length v) → (∀ q ∈ lv, xok w.length q.2) → va_P g.1 vwCl (xw g ad w) H → va_D (fun q : Nat => s.heap.size ≤ q) (xw g ad w) → va_S (fun q : Nat => s.heap.size ≤ q) s.heap H locs → lv_has ls 4 ((0, .ref b) :: lv.map (fun q => (q.1, xv ad q.2))) →
  W p l e room_1 s m #[Value.ref b] below meth c H locs kc ks (lw_Z below #[Value.ref b] s) (F0 m pc ls (st.map (xv ad)))
section YROWS
variable {l : Launch} {g : XG} {b L : Nat} {xs : Nat → Int32} {pc : Nat} {lv : List (Nat × Value)} {st : List Value} {w : XW} {kc ks : Nat}
theorem y_iload_n (k : Nat) {i : Fin 4} {v : Int32} (hd : decode code pc = .ok (.iload_n i, 1)) (hk : lv[k]? = some ((i : Nat), .int v)) (h : YL l g b L xs (pc + 1) lv (.int v :: st) w kc ks) : YL l g b L xs pc lv st w kc ks := by
  intro p e s m below meth c A0 hK ad H locs ls hw hst hlv hP hD hS hl
  exact lv_iload_n A0.1 A0.2.1 hd rfl (lv_at hl (k + 1) (by rw [List.getElem?_cons_succ, List.getElem?_map, hk]; rfl)) (h p e s m below meth c A0 hK ad H locs ls hw (fun u hu => by rcases List.mem_cons.mp hu with rfl | hu; exact xok_int _ _; exact hst u hu) hlv hP hD hS hl)
theorem y_aload_n (k : Nat) {i : Fin 4} {a : Nat} (hd : decode code pc = .ok (.aload_n i, 1)) (hk : lv[k]? = some ((i : Nat), .ref a)) (h : YL l g b L xs (pc + 1) lv (.ref a :: st) w kc ks) : YL l g b L xs pc lv st w kc ks := by
  intro p e s m below meth c A0 hK ad H locs ls hw hst hlv hP hD hS hl
  exact lv_aload_n A0.1 A0.2.1 hd rfl (lv_at hl (k + 1) (by rw [List.getElem?_cons_succ, List.getElem?_map, hk]; rfl)) (h p e s m below meth c A0 hK ad H locs ls hw (fun u hu => by rcases List.mem_cons.mp hu with rfl | hu; exact hlv _ (List.mem_of_getElem? hk); exact hst u hu) hlv hP hD hS hl)
theorem y_iconst {n : Int} {v : Int32} (hd : decode code pc = .ok (.iconst n, 1)) (hv : Int32.ofInt n = v) (h : YL l g b L xs (pc + 1) lv (.int v :: st) w kc ks) : YL l g b L xs pc lv st w kc ks := by
  intro p e s m below meth c A0 hK ad H locs ls hw hst hlv hP hD hS hl
  exact lv_iconst A0.1 A0.2.1 hd hv (h p e s m below meth c A0 hK ad H locs ls hw (fun u hu => by rcases List.mem_cons.mp hu with rfl | hu; exact xok_int _ _; exact hst u hu) hlv hP hD hS hl)
theorem y_bipush {n : Int} {v : Int32} (hd : decode code pc = .ok (.bipush n, 2)) (hv : (Int8.ofInt n).toInt32 = v) (h : YL l g b L xs (pc + 2) lv (.int v :: st) w kc ks) : YL l g b L xs pc lv st w kc ks := by
  intro p e s m below meth c A0 hK ad H locs ls hw hst hlv hP hD hS hl
  exact lv_bipush A0.1 A0.2.1 hd hv (h p e s m below meth c A0 hK ad H locs ls hw (fun u hu => by rcases List.mem_cons.mp hu with rfl | hu; exact xok_int _ _; exact hst u hu) hlv hP hD hS hl)
theorem y_isub {x y : Int32} (hd : decode code pc = .ok (.isub, 1)) (h : YL l g b L xs (pc + 1) lv (.int (x - y) :: st) w kc ks) : YL l g b L xs pc lv (.int y :: .int x :: st) w kc ks := by
  intro p e s m below meth c A0 hK ad H locs ls hw hst hlv hP hD hS hl
  exact lv_isub A0.1 A0.2.1 hd (h p e s m below meth c A0 hK ad H locs ls hw (fun u hu => by rcases List.mem_cons.mp hu with rfl | hu; exact xok_int _ _; exact hst u (List.mem_cons_of_mem _ (List.mem_cons_of_mem _ hu))) hlv hP hD hS hl)
theorem y_iand {x y : Int32} (hd : decode code pc = .ok (.iand, 1)) (h : YL l g b L xs (pc + 1) lv (.int (x &&& y) :: st) w kc ks) : YL l g b L xs pc lv (.int y :: .int x :: st) w kc ks := by
  intro p e s m below meth c A0 hK ad H locs ls hw hst hlv hP hD hS hl
  exact lv_iand A0.1 A0.2.1 hd (h p e s m below meth c A0 hK ad H locs ls hw (fun u hu => by rcases List.mem_cons.mp hu with rfl | hu; exact xok_int _ _; exact hst u (List.mem_cons_of_mem _ (List.mem_cons_of_mem _ hu))) hlv hP hD hS hl)
theorem y_goto {off : Int} {tgt : Nat} (hd : decode code pc = .ok (.goto off, 3)) (ht : (pc : Int) + off = (tgt : Int)) (h : YL l g b L xs tgt lv st w kc ks) : YL l g b L xs pc lv st w kc ks := by
  intro p e s m below meth c A0 hK ad H locs ls hw hst hlv hP hD hS hl
  exact lv_goto A0.1 A0.2.1 hd ht (h p e s m below meth c A0 hK ad H locs ls hw hst hlv hP hD hS hl)
theorem y_dup {v : Value} (hd : decode code pc = .ok (.dup, 1)) (hv : v.category = 1) (h : YL l g b L xs (pc + 1) lv (v :: v :: st) w kc ks) : YL l g b L xs pc lv (v :: st) w kc ks := by
  intro p e s m below meth c A0 hK ad H locs ls hw hst hlv hP hD hS hl
  exact lv_dup A0.1 A0.2.1 hd (by rw [xv_cat]; exact hv) (h p e s m below meth c A0 hK ad H locs ls hw (fun u hu => by rcases List.mem_cons.mp hu with rfl | hu; exact hst _ List.mem_cons_self; exact hst u hu) hlv hP hD hS hl)
theorem y_icmp_eq_t {x y : Int32} {off : Int} {tgt : Nat} (hd : decode code pc = .ok (.if_icmp .eq off, 3)) (ht : (pc : Int) + off = (tgt : Int)) (hc : x = y) (h : YL l g b L xs tgt lv st w kc ks) : YL l g b L xs pc lv (.int y :: .int x :: st) w kc ks := by
  intro p e s m below meth c A0 hK ad H locs ls hw hst hlv hP hD hS hl
  exact lv_icmp_eq A0.1 A0.2.1 hd ht (fun _ => h p e s m below meth c A0 hK ad H locs ls hw (fun u hu => hst u (List.mem_cons_of_mem _ (List.mem_cons_of_mem _ hu))) hlv hP hD hS hl) (fun z => absurd hc z)
theorem y_icmp_gt {x y : Int32} {off : Int} {tgt : Nat} (hd : decode code pc = .ok (.if_icmp .gt off, 3)) (ht : (pc : Int) + off = (tgt : Int)) (kt : y < x → YL l g b L xs tgt lv st w kc ks) (kf : ¬ y < x → YL l g b L xs (pc + 3) lv st w kc ks) : YL l g b L xs pc lv (.int y :: .int x :: st) w kc ks := by
  intro p e s m below meth c A0 hK ad H locs ls hw hst hlv hP hD hS hl
  exact lv_icmp_gt A0.1 A0.2.1 hd ht (fun z => kt z p e s m below meth c A0 hK ad H locs ls hw (fun u hu => hst u (List.mem_cons_of_mem _ (List.mem_cons_of_mem _ hu))) hlv hP hD hS hl) (fun z => kf z p e s m below meth c A0 hK ad H locs ls hw (fun u hu => hst u (List.mem_cons_of_mem _ (List.mem_cons_of_mem _ hu))) hlv hP hD hS hl)
theorem y_switchOut {dflt lo hi : Int} {offs : Array Int} {len : Nat} {x : Int32} {tgt : Nat} (hd : decode code pc = .ok (.tableswitch dflt lo hi offs, len)) (hx : x.toInt < lo ∨ hi < x.toInt) (ht : (pc : Int) + dflt = (tgt : Int)) (h : YL l g b L xs tgt lv st w kc ks) : YL l g b L xs pc lv (.int x :: st) w kc ks := by
  intro p e s m below meth c A0 hK ad H locs ls hw hst hlv hP hD hS hl
  exact lv_tableOut A0.1 A0.2.1 hd hx ht (h p e s m below meth c A0 hK ad H locs ls hw (fun u hu => hst u (List.mem_cons_of_mem _ hu)) hlv hP hD hS hl)
theorem y_switchIn {dflt lo hi : Int} {offs : Array Int} {len : Nat} {x : Int32} {off : Int} {tgt : Nat} (hd : decode code pc = .ok (.tableswitch dflt lo hi offs, len)) (h1 : ¬ x.toInt < lo) (h2 : ¬ hi < x.toInt) (ho : offs[(x.toInt - lo).toNat]? = some off) (ht : (pc : Int) + off = (tgt : Int)) (h : YL l g b L xs tgt lv st w kc ks) : YL l g b L xs pc lv (.int x :: st) w kc ks := by
  intro p e s m below meth c A0 hK ad H locs ls hw hst hlv hP hD hS hl
  exact lv_tableIn A0.1 A0.2.1 hd h1 h2 ho ht (h p e s m below meth c A0 hK ad H locs ls hw (fun u hu => hst u (List.mem_cons_of_mem _ hu)) hlv hP hD hS hl)
/-- the script's length; an int of the script -/
theorem y_slen (hd0 : decode code pc = .ok (.aload_n 0, 1)) (hd1 : decode code (pc + 1) = .ok (.arraylength, 1)) (h : YL l g b L xs (pc + 2) lv (.int (nI L) :: st) w kc ks) : YL l g b L xs pc lv st w kc ks := by
  intro p e s m below meth c A0 hK ad H locs ls hw hst hlv hP hD hS hl
  have hbA : ¬ (fun q : Nat => s.heap.size ≤ q) b := Nat.not_le.mpr A0.2.2.2.2.2.2.2.1
  refine lv_aload_n A0.1 A0.2.1 hd0 rfl (lv_at hl 0 rfl) ?_
  exact va_slen A0.1 A0.2.1 A0.2.2.2.2.2.2.1 A0.2.2.2.2.2.2.2.1 hbA hS hd1 (h p e s m below meth c A0 hK ad H locs ls hw (fun u hu => by rcases List.mem_cons.mp hu with rfl | hu; exact xok_int _ _; exact hst u hu) hlv hP hD hS hl)
theorem y_sld0 (k : Nat) {j : Nat} (hk : lv[k]? = some (3, .int (nI j))) (hj : j < L) (hL : L < 2 ^ 31) (hd0 : decode code pc = .ok (.aload_n 0, 1)) (hd1 : decode code (pc + 1) = .ok (.iload_n 3, 1)) (hd2 : decode code (pc + 2) = .ok (.iaload, 1)) (h : YL l g b L xs (pc + 3) lv (.int (xs j) :: st) w kc ks) : YL l g b L xs pc lv st w kc ks := by
  intro p e s m below meth c A0 hK ad H locs ls hw hst hlv hP hD hS hl
  have hbA : ¬ (fun q : Nat => s.heap.size ≤ q) b := Nat.not_le.mpr A0.2.2.2.2.2.2.2.1
  refine lv_aload_n A0.1 A0.2.1 hd0 rfl (lv_at hl 0 rfl) ?_
  refine lv_iload_n A0.1 A0.2.1 hd1 rfl (lv_at hl (k + 1) (by rw [List.getElem?_cons_succ, List.getElem?_map, hk]; rfl)) ?_
  refine va_sld A0.1 A0.2.1 A0.2.2.2.2.2.2.1 A0.2.2.2.2.2.2.2.1 hbA hS (vp_in_nI hj hL) hd2 ?_
  rw [nI_clamp (show j < 2 ^ 31 by omega)]
  exact h p e s m below meth c A0 hK ad H locs ls hw (fun u hu => by rcases List.mem_cons.mp hu with rfl | hu; exact xok_int _ _; exact hst u hu) hlv hP hD hS hl
theorem y_sld (k : Nat) {j a : Nat} {n : Int} (hk : lv[k]? = some (3, .int (nI j))) (hn : Int32.ofInt n = nI a) (hj : j + a < L) (hL : L < 2 ^ 31) (hd0 : decode code pc = .ok (.aload_n 0, 1)) (hd1 : decode code (pc + 1) = .ok (.iload_n 3, 1)) (hd2 : decode code (pc + 2) = .ok (.iconst n, 1)) (hd3 : decode code (pc + 3) = .ok (.iadd, 1)) (hd4 : decode code (pc + 4) = .ok (.iaload, 1)) (h : YL l g b L xs (pc + 5) lv (.int (xs (j + a)) :: st) w kc ks) : YL l g b L xs pc lv st w kc ks := by
  intro p e s m below meth c A0 hK ad H locs ls hw hst hlv hP hD hS hl
  have hbA : ¬ (fun q : Nat => s.heap.size ≤ q) b := Nat.not_le.mpr A0.2.2.2.2.2.2.2.1
  refine lv_aload_n A0.1 A0.2.1 hd0 rfl (lv_at hl 0 rfl) ?_
  refine lv_iload_n A0.1 A0.2.1 hd1 rfl (lv_at hl (k + 1) (by rw [List.getElem?_cons_succ, List.getElem?_map, hk]; rfl)) ?_
  refine lv_iconst A0.1 A0.2.1 hd2 hn ?_
  refine lv_iadd A0.1 A0.2.1 hd3 ?_
  rw [nI_add]
  refine va_sld A0.1 A0.2.1 A0.2.2.2.2.2.2.1 A0.2.2.2.2.2.2.2.1 hbA hS (vp_in_nI hj hL) hd4 ?_
  rw [nI_clamp (show j + a < 2 ^ 31 by omega)]
  exact h p e s m below meth c A0 hK ad H locs ls hw (fun u hu => by rcases List.mem_cons.mp hu with rfl | hu; exact xok_int _ _; exact hst u hu) hlv hP hD hS hl
/-- the counter goes on -/
theorem y_iinc {j : Nat} {v0 v1 : Nat} (hd : decode code pc = .ok (.iinc 3 4, 3)) (h : YL l g b L xs (pc + 3) [(3, .int (nI (j + 4))), (1, .ref v0), (2, .ref v1)] st w kc ks) : YL l g b L xs pc [(3, .int (nI j)), (1, .ref v0), (2, .ref v1)] st w kc ks := by
  intro p e s m below meth c A0 hK ad H locs ls hw hst hlv hP hD hS hl
  refine lv_iinc (k := 1) (lv' := [(3, .int (nI (j + 4))), (0, .ref b), (1, .ref (ad v0)), (2, .ref (ad v1))]) A0.1 A0.2.1 hd hl rfl (nI_add j 4) (by decide) rfl (fun ls' hl' => ?_)
  exact h p e s m below meth c A0 hK ad H locs ls' hw hst (fun q hq => by
    rcases List.mem_cons.mp hq with rfl | hq
    · exact xok_int _ _
    · exact hlv q (List.mem_cons_of_mem _ hq)) hP hD hS (lv_sub hl' [1, 0, 2, 3] rfl)
/-- the law answers 1 -/
theorem y_ret (hd : decode code pc = .ok (.ireturn, 1)) (hc : kc ≤ 600000) (hs : ks ≤ 7302250) : YL l g b L xs pc lv [.int 1] w kc ks := by
  intro p e s m below meth c A0 hK ad H locs ls hw hst hlv hP hD hS hl
  refine va_forget (fun q hq => hS.2.2 q hq) ?_
  refine W.widen hc hs ?_
  exact lw_ret A0.1 A0.2.1 A0.2.2.1 A0.2.2.2.2.2.2.2.2.1 hd
theorem y_eqw {w' : XW} (e : w = w') (h : YL l g b L xs pc lv st w' kc ks) : YL l g b L xs pc lv st w kc ks := by subst e; exact h
theorem y_call (is : List Nat) {N : XM} {as : List Value} {wc : XW} {Qc : Option Value → XW → Prop} {st0 : List Value} (hi : XInv RL code N pc as wc) (hC : Ct l g N as wc Qc) (hh : N.2.2.2.2.1 + 1 ≤ 9) (hc : kc + N.2.2.2.2.2.1 ≤ 600000) (hs : ks + N.2.2.2.2.2.2 ≤ 7302250) (hrest : (st.map fun v => v.category).sum ≤ 8)
    (hst : st0 = (as.map (xv (xro is w.length))).reverse ++ st) (hsub : is.map (fun i => w[i]?) = wc.map (fun c => some (xrc (xro is w.length) c))) (hnd : va_nd is = true)
    (h : ∀ (r : Option Value) (w1 : XW), Qc r w1 → YL l g b L xs (pc + 3) lv ((r.map (xv (xro is w.length))).toList ++ st) (xset (xro is w.length) is w1 w) (kc + N.2.2.2.2.2.1) (ks + N.2.2.2.2.2.2)) : YL l g b L xs pc lv st0 w kc ks := by
  intro p e s m below meth c A0 hK ad H locs ls hw hst' hlv hP hD hS hl
  have hF : xwok w ∧ ∀ v ∈ st0, xok w.length v := ⟨hw, hst'⟩
  have hlen : is.length = wc.length := by simpa using congrArg List.length hsub
  have hat : ∀ (j : Nat) (d : XC), wc[j]? = some d → ∃ i : Nat, is[j]? = some i ∧ w[i]? = some (xrc (xro is w.length) d) := by
    intro j d hj
    have h1 : (wc.map (fun c => some (xrc (xro is w.length) c)))[j]? = some (some (xrc (xro is w.length) d)) := by rw [List.getElem?_map, hj]; rfl
    rw [← hsub, List.getElem?_map] at h1
    cases hi : is[j]? with
    | none => rw [hi] at h1; cases h1
    | some i => rw [hi] at h1; exact ⟨i, rfl, Option.some.inj h1⟩
  have hro : ∀ j, xro is w.length j < w.length → j < wc.length := by
    intro j hj
    by_cases h1 : j < is.length
    · rw [← hlen]; exact h1
    · rw [xro_none (Nat.not_lt.mp h1)] at hj
      omega
  have hwfc : xwok wc := by
    intro d hd
    obtain ⟨j, hj⟩ := List.getElem?_of_mem hd
    obtain ⟨i, hi1, hi2⟩ := hat j d hj
    have h1 := hF.1 _ (List.mem_of_getElem? hi2)
    rcases d with xs | rs | o
    · trivial
    · intro k hk
      exact hro k (h1 _ (List.mem_map.mpr ⟨some k, hk, rfl⟩))
    · intro v hv k hvk
      subst hvk
      exact hro k (h1 _ (List.mem_map.mpr ⟨_, hv, rfl⟩) _ rfl)
  have hao : ∀ v ∈ as, xok wc.length v := by
    intro v hv k hvk
    subst hvk
    refine hro k (hF.2 (.ref (xro is w.length k)) ?_ _ rfl)
    rw [hst]
    exact List.mem_append_left _ (List.mem_reverse.mpr (List.mem_map.mpr ⟨_, hv, rfl⟩))
  have hsto : ∀ v ∈ st, xok w.length v := fun v hv => hF.2 v (by rw [hst]; exact List.mem_append_right _ hv)
  have hPc : va_P g.1 vwCl (xw g (fun j => ad (xro is w.length j)) wc) H := by
    intro j q hq
    obtain ⟨d, hj, rfl⟩ := xw_of hq
    obtain ⟨i, hi1, hi2⟩ := hat j d hj
    have h1 := hP i _ (xw_at hi2)
    rw [xe_ren] at h1
    rw [xro_some hi1]
    exact h1
  have hDc : va_D (fun _ => True) (xw g (fun j => ad (xro is w.length j)) wc) := by
    refine ⟨fun i j x y hi hj hxy => ?_, fun _ _ _ => trivial⟩
    obtain ⟨d, hdi, rfl⟩ := xw_of hi
    obtain ⟨d', hdj, rfl⟩ := xw_of hj
    obtain ⟨i1, hi1, hi2⟩ := hat i d hdi
    obtain ⟨j1, hj1, hj2⟩ := hat j d' hdj
    simp only [xro_some hi1, xro_some hj1] at hxy
    have h3 := hD.1 i1 j1 _ _ (xw_at hi2) (xw_at hj2) hxy
    subst h3
    exact va_nd_inj is hnd i j i1 hi1 hj1
  refine xc_core is (rest := st.map (xv ad)) (fun q hq => hq) hP hD hS hF.1 hsub hnd (xc_run (own := RL) (fun j => ad (xro is w.length j)) A0.1 A0.2.1 A0.2.2.2.1 A0.2.2.2.2.1 (fun w hw => A0.2.2.2.2.2.1 w (xt_tbl hw)) hK hi hC hwfc hao hPc hDc ?_ ?_ hl.1 hc hs ?_ ?_) (fun r w1 ad' H1 locs1 hq hw1 hw2 hr had hP1 hD1 hS1 => ?_)
  · show N.2.2.2.2.1 + 1 ≤ 10
    omega
  · show 40 * (N.2.2.2.2.1 + 1) ≤ 366
    omega
  · rw [st_cat]
    exact hrest
  · rw [hst, List.map_append, List.map_reverse, List.map_map]
    congr 2
    exact List.map_congr_left (fun v _ => xv_comp ad _ v)
  · have el : lv.map (fun q => (q.1, xv ad' q.2)) = lv.map (fun q => (q.1, xv ad q.2)) := List.map_congr_left (fun q hq => by rw [xv_eq (hlv q hq) had])
    have K := h r w1 hq p e s m below meth c A0 hK ad' H1 locs1 ls hw1 (fun v hv => ?_) (fun q hq => xok_mono (hlv q hq) hw2) hP1 hD1 hS1 (by rw [el]; exact hl)
    · have e1 : ((r.map (xv (xro is w.length))).toList ++ st).map (xv ad') = (r.map (fun v => xv ad' (xv (xro is w.length) v))).toList ++ st.map (xv ad) := by
        rw [List.map_append, st_eq hsto had]
        congr 1
        cases r <;> rfl
      rw [e1] at K
      exact K
    · rcases List.mem_append.mp hv with h1 | h1
      · cases r with
        | none => cases h1
        | some u =>
          simp only [Option.map_some, Option.toList_some, List.mem_singleton] at h1
          subst h1
          exact hr u rfl
      · exact xok_mono (hsto v h1) hw2
end YROWS
