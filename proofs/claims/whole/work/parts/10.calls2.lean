def xlB (N : XM) (n : Nat) : Prop := Cond.code N.1 N.2.1 N.2.2.1 N.2.2.2.1 ∈ xt ∧ Cond.initialized N.1.cls ∈ xt ∧ (N.1.cls ≠ "java/lang/invoke/MethodHandle" ∧ N.1.cls ≠ "java/lang/invoke/VarHandle" ∧ (parseMethodDescriptor N.1.desc).map (fun d => d.parameters.length) = some n) ∧ N.2.2.1 ≤ 21
def xlV (own : String) (idx : Nat) (N : XM) : Prop := Cond.methodLink own idx N.1 ∈ xt ∧ Cond.instanceMethod N.1 ∈ xt ∧ Cond.selects N.1.cls N.1 N.1 ∈ xt
def xlS (own : String) (idx : Nat) (N : XM) : Prop := Cond.methodLink own idx N.1 ∈ xt ∧ Cond.static N.1 ∈ xt
def xlSN (own : String) (idx : Nat) (N : XM) : Prop := Cond.methodLinkNest own idx N.1 "PeerStorage" ∈ lw_tbl ∧ Cond.static N.1 ∈ xt
def xlI (own : String) (idx : Nat) (N : XM) : Prop := Cond.methodLink own idx N.1 ∈ xt ∧ Cond.instanceMethod N.1 ∈ xt ∧ N.1.name = "<init>" ∧ N.2.2.2.1 = none
def xlIN (own : String) (idx : Nat) (N : XM) : Prop := Cond.methodLinkNest own idx N.1 "PeerStorage" ∈ lw_tbl ∧ Cond.instanceMethod N.1 ∈ xt ∧ N.1.name = "<init>" ∧ N.2.2.2.1 = none
theorem xm_good {N : XM} {n : Nat} (h : xlB N n) : GoodIn xt (xm_ws N) := fun w hw => by
  rcases List.mem_cons.mp hw with rfl | hw
  · exact xt_good _ h.1
  · exact xt_good _ hw
/-- an instruction of own's code that calls N -/
def XInv (own : String) (code : ByteArray) (N : XM) (pc : Nat) (as : List Value) (wc : XW) : Prop :=
  (∃ (idx n b ci : Nat) (as' fs : List Value) (q : vw_C), decode code pc = .ok (.invokevirtual idx, 3) ∧ xlB N n ∧ xlV own idx N ∧ as = .ref b :: as' ∧ as'.length = n ∧ wc[b]? = some (.inr (.inr (ci, fs))) ∧ vwCl[ci]? = some q ∧ q.1 = N.1.cls) ∨
  (∃ idx n : Nat, decode code pc = .ok (.invokestatic idx, 3) ∧ xlB N n ∧ xlS own idx N ∧ as.length = n) ∨
  (∃ idx n : Nat, decode code pc = .ok (.invokestatic idx, 3) ∧ xlB N n ∧ xlSN own idx N ∧ as.length = n) ∨
  (∃ (idx n b : Nat) (as' : List Value), decode code pc = .ok (.invokespecial idx, 3) ∧ xlB N n ∧ xlI own idx N ∧ as = .ref b :: as' ∧ as'.length = n) ∨
  (∃ (idx n b : Nat) (as' : List Value), decode code pc = .ok (.invokespecial idx, 3) ∧ xlB N n ∧ xlIN own idx N ∧ as = .ref b :: as' ∧ as'.length = n)
theorem x_iV {own : String} {code : ByteArray} {N : XM} {pc idx n b ci : Nat} {as' fs : List Value} {wc : XW} {q : vw_C} (hd : decode code pc = .ok (.invokevirtual idx, 3)) (hl : xlV own idx N) (hb : xlB N n) (hn : as'.length = n) (hw : wc[b]? = some (.inr (.inr (ci, fs)))) (hc : vwCl[ci]? = some q) (hq : q.1 = N.1.cls) : XInv own code N pc (.ref b :: as') wc := Or.inl ⟨idx, n, b, ci, as', fs, q, hd, hb, hl, rfl, hn, hw, hc, hq⟩
theorem x_iS {own : String} {code : ByteArray} {N : XM} {pc idx n : Nat} {as : List Value} {wc : XW} (hd : decode code pc = .ok (.invokestatic idx, 3)) (hl : xlS own idx N) (hb : xlB N n) (hn : as.length = n) : XInv own code N pc as wc := Or.inr (Or.inl ⟨idx, n, hd, hb, hl, hn⟩)
theorem x_iSN {own : String} {code : ByteArray} {N : XM} {pc idx n : Nat} {as : List Value} {wc : XW} (hd : decode code pc = .ok (.invokestatic idx, 3)) (hl : xlSN own idx N) (hb : xlB N n) (hn : as.length = n) : XInv own code N pc as wc := Or.inr (Or.inr (Or.inl ⟨idx, n, hd, hb, hl, hn⟩))
theorem x_iI {own : String} {code : ByteArray} {N : XM} {pc idx n b : Nat} {as' : List Value} {wc : XW} (hd : decode code pc = .ok (.invokespecial idx, 3)) (hl : xlI own idx N) (hb : xlB N n) (hn : as'.length = n) : XInv own code N pc (.ref b :: as') wc := Or.inr (Or.inr (Or.inr (Or.inl ⟨idx, n, b, as', hd, hb, hl, rfl, hn⟩)))
theorem x_iIN {own : String} {code : ByteArray} {N : XM} {pc idx n b : Nat} {as' : List Value} {wc : XW} (hd : decode code pc = .ok (.invokespecial idx, 3)) (hl : xlIN own idx N) (hb : xlB N n) (hn : as'.length = n) : XInv own code N pc (.ref b :: as') wc := Or.inr (Or.inr (Or.inr (Or.inr ⟨idx, n, b, as', hd, hb, hl, rfl, hn⟩)))
section XRUN
variable {l : Launch} {g : XG} {p : Program} {e : Env} {R : Room} {s : State} {m : MethodId} {args : Array Value} {below : List Frame} {meth : Method} {c : Code} {H : Heap} {locs : List Loc} {kc ks : Nat} {Af : Nat → Prop} {w : XW} {ad : Nat → Nat}
theorem xc_run {own : String} {code : ByteArray} {nL : Nat} {N : XM} {pc : Nat} {as : List Value} {wc : XW} {Qc : Option Value → XW → Prop} {ls : Array Slot} {rest stc : List Value} (adc : Nat → Nat) (hx : p.tables.exec = Jvm.exec) (hb : c.code = code) (hml : c.maxLocals = nL) (hown : s.vm.findClass own = some m.cls) (hts : ∀ w ∈ xt, w.before args s = true) (hK : XK g s)
    (hi : XInv own code N pc as wc) (hC : Ct l g N as wc Qc) (hwf : xwok wc) (hao : ∀ v ∈ as, xok wc.length v) (hP : va_P g.1 vwCl (xw g adc wc) H) (hD : va_D (fun _ => True) (xw g adc wc)) (hfr : N.2.2.2.2.1 + 1 ≤ R.frames) (hlo : 40 * (N.2.2.2.2.1 + 1) ≤ R.locals) (hsize : ls.size = nL)
    (hc : kc + N.2.2.2.2.2.1 ≤ R.cells) (hs : ks + N.2.2.2.2.2.2 ≤ R.slots) (hrest : (rest.map fun v => v.category).sum ≤ 8) (hst : stc = (as.map (xv adc)).reverse ++ rest) :
    va_Run p l e R s m args below meth c H locs kc ks N.2.2.2.2.2.1 N.2.2.2.2.2.2 (F0 m pc ls stc) rest (XQ g Qc (va_A (xw g adc wc) H.size) adc wc.length (as.map (xv adc)).toArray) (va_A (xw g adc wc) H.size) := by
  have hM := hC hwf hao adc H.size
  have hblind : FrameBlind (va_Pc (as.map (xv adc)) (fun U => U.heap.size = H.size ∧ va_P g.1 vwCl (xw g adc wc) U.heap ∧ XK g U ∧ va_D (fun _ => True) (xw g adc wc))) := fun a U gg mk q => by
    obtain ⟨q0, q1, q2, q3, q4⟩ := q
    exact ⟨q0, q1, q2, XK_calling q3, q4⟩
  have hpre : ∀ U : State, U.heap = H → s.WarmedH U.vm → va_Pc (as.map (xv adc)) (fun U => U.heap.size = H.size ∧ va_P g.1 vwCl (xw g adc wc) U.heap ∧ XK g U ∧ va_D (fun _ => True) (xw g adc wc)) (as.map (xv adc)).toArray U := fun U hU hW => ⟨rfl, by rw [hU], by rw [hU]; exact hP, XK_warm hK hW, hD⟩
  have hS : CallFix p m c code nL s args xt own := ⟨hx, hb, hml, hown, hts⟩
  have hR : ∀ {n : Nat}, xlB N n → (xm_rm N).frames + 1 ≤ R.frames ∧ 8 + (N.2.2.1 + 11) + (xm_rm N).locals ≤ R.locals := fun h => ⟨hfr, by have := h.2.2.2; show 8 + (N.2.2.1 + 11) + 40 * N.2.2.2.2.1 ≤ R.locals; omega⟩
  have hroom : 2 * (F0 m pc ls stc).monitorRoom + (rest.map fun v => v.category).sum ≤ 8 := by
    show 2 * 0 + _ ≤ 8
    omega
  rcases hi with ⟨idx, n, b, ci, as', fs, q, hd, hlb, hl, rfl, hn, hw, hq, hqn⟩ | ⟨idx, n, hd, hlb, hl, hn⟩ | ⟨idx, n, hd, hlb, hl, hn⟩ | ⟨idx, n, b, as', hd, hlb, hl, rfl, hn⟩ | ⟨idx, n, b, as', hd, hlb, hl, rfl, hn⟩
  · have hrc := va_recv hK.1 hP hq (xw_at hw)
    rw [hqn] at hrc
    exact va_runV (C := N.1.cls) (b := adc b) (As := as'.map (xv adc)) (n := n) (ret := N.2.2.2.1) hS hM ⟨callB_of n hts (xm_good hlb) rfl rfl rfl (hts _ hlb.2.1) (hts _ hl.1) hlb.2.2.1 (hR hlb), hts _ hl.2.1, hts _ hl.2.2⟩ ⟨hblind, hrc, hpre⟩ rfl (by simpa using hn) hsize (by rw [hst]; simp [xv]) hroom hd ⟨hc, hs⟩
  · exact va_runS (As := as.map (xv adc)) (n := n) (ret := N.2.2.2.1) hS hM ⟨callB_of n hts (xm_good hlb) rfl rfl rfl (hts _ hlb.2.1) (hts _ hl.1) hlb.2.2.1 (hR hlb), hts _ hl.2⟩ ⟨hblind, hpre⟩ rfl (by simpa using hn) hsize hst hroom hd ⟨hc, hs⟩
  · exact va_runSN (As := as.map (xv adc)) (n := n) (ret := N.2.2.2.1) (host := "PeerStorage") hS hM ⟨va_cnB n hts (xm_good hlb) rfl rfl rfl (hK.2.2 _ _ _ hl.1) (hts _ hlb.2.1) hlb.2.2.1 (hR hlb), hts _ hl.2, trivial⟩ ⟨hblind, hpre⟩ rfl (by simpa using hn) hsize hst hroom hd ⟨hc, hs⟩
  · obtain ⟨y, cd, nl, rt, hgt⟩ := N
    obtain ⟨hl1, hl2, hl3, hl4⟩ := hl
    simp only at hl4
    subst hl4
    exact va_runI (b := adc b) (As := as'.map (xv adc)) (n := n) hS hM ⟨callB_of n hts (xm_good hlb) rfl rfl rfl (hts _ hlb.2.1) (hts _ hl1) hlb.2.2.1 (hR hlb), hl3, hts _ hl2⟩ ⟨hblind, hpre⟩ rfl (by simpa using hn) hsize (by rw [hst]; simp [xv]) hroom hd ⟨hc, hs⟩
  · obtain ⟨y, cd, nl, rt, hgt⟩ := N
    obtain ⟨hl1, hl2, hl3, hl4⟩ := hl
    simp only at hl4
    subst hl4
    exact va_runIN (b := adc b) (As := as'.map (xv adc)) (n := n) (host := "PeerStorage") hS hM ⟨va_cnB n hts (xm_good hlb) rfl rfl rfl (hK.2.2 _ _ _ hl1) (hts _ hlb.2.1) hlb.2.2.1 (hR hlb), hl3, hts _ hl2⟩ ⟨hblind, hpre⟩ rfl (by simpa using hn) hsize (by rw [hst]; simp [xv]) hroom hd ⟨hc, hs⟩
end XRUN
