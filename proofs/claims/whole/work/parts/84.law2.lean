/-! ===== the law: calls of the two sides ===== -/
theorem xset_suf (ro : Nat → Nat) : ∀ (wb w1 wa : XW), wb.length = w1.length → xset ro (List.range' wa.length wb.length) w1 (wa ++ wb) = wa ++ w1.map (xrc ro)
  | [], [], wa, _ => by simp [xset]
  | [], _ :: _, _, h => by simp at h
  | _ :: _, [], _, h => by simp at h
  | c :: wb, d :: w1, wa, h => by
    have e1 : (wa ++ c :: wb).set wa.length (xrc ro d) = (wa ++ [xrc ro d]) ++ wb := by simp
    have ih := xset_suf ro wb w1 (wa ++ [xrc ro d]) (by simpa using h)
    rw [List.length_cons, List.range'_succ, xset, e1]
    rw [show (wa ++ [xrc ro d]).length = wa.length + 1 by simp] at ih
    rw [ih]
    simp
theorem get_suf : ∀ (wb wa : XW), (List.range' wa.length wb.length).map (fun i => (wa ++ wb)[i]?) = wb.map some
  | [], wa => rfl
  | c :: wb, wa => by
    have ih := get_suf wb (wa ++ [c])
    rw [List.length_cons, List.range'_succ, List.map_cons, List.map_cons]
    rw [show (wa ++ [c]).length = wa.length + 1 by simp, show (wa ++ [c]) ++ wb = wa ++ c :: wb by simp] at ih
    rw [ih]
    simp
section YC
variable {l : Launch} {g : XG} {b L : Nat} {xs : Nat → Int32} {pc : Nat} {lv : List (Nat × Value)} {st : List Value} {kc ks : Nat}
/-- a call of the storage: the first 127 cells -/
theorem y_callS {wa wb : XW} {N : XM} {as : List Value} {P : Int32 → XW → Prop} {st0 : List Value} (hi : XInv RL code N pc as wa) (hC : Ct l g N as wa (Qi P)) (hh : N.2.2.2.2.1 + 1 ≤ 9) (hc0 : N.2.2.2.2.2.1 = 0) (hs0 : N.2.2.2.2.2.2 = 0) (hc : kc ≤ 600000) (hs : ks ≤ 7302250) (hrest : (st.map fun v => v.category).sum ≤ 8)
    (ha : wa.length = 127) (hok : xwok wa) (hao : ∀ v ∈ as, xok 127 v) (hst : st0 = as.reverse ++ st) (hP : ∀ v w1, P v w1 → w1.length = 127 ∧ xwok w1)
    (h : ∀ (v : Int32) (w1 : XW), P v w1 → YL l g b L xs (pc + 3) lv (.int v :: st) (w1 ++ wb) kc ks) : YL l g b L xs pc lv st0 (wa ++ wb) kc ks := by
  refine y_call (List.range 127) hi hC hh (by rw [hc0]; exact hc) (by rw [hs0]; exact hs) hrest (by rw [xv_pre hao]; exact hst) (hsub_pre ha hok _) (nd_range 127) (fun r w1 hq => ?_)
  obtain ⟨v, rfl, hq⟩ := hq
  rw [hc0, hs0, xset_pre ha (hP v w1 hq).1 (hP v w1 hq).2]
  exact h v w1 hq
theorem Qp_Qi {x : Int32} {w : XW} : Qp x w = Qi (fun v w1 => v = x ∧ w1 = w) := by
  funext r w1
  refine propext ⟨fun h => ⟨x, h.1, rfl, h.2⟩, fun ⟨v, h1, h2, h3⟩ => ⟨by rw [h1, h2], h3⟩⟩
/-- the cells of the reference behind the storage's -/
noncomputable def wMx (N A Z B : Nat → Int32) (u : Int32) (L : Nat → Int32) : XW := [.inr (.inr (7, [.ref 128, .ref 129, .ref 130, .ref 131, .int u, .ref 132])), .inl (row 439 N), .inl (row 439 A), .inl (row 439 Z), .inl (row 2195 B), .inl (row 42 L)]
theorem wMx_of (N A Z B : Nat → Int32) (u : Int32) (L : Nat → Int32) (n : Nat) : (wM N A Z B u L).map (xrc (xro [127, 128, 129, 130, 131, 132] n)) = wMx N A Z B u L := rfl
theorem y_callM {wa : XW} {N A Z B : Nat → Int32} {u : Int32} {Lc : Nat → Int32} {N1 : XM} {as : List Value} {P : Int32 → XW → Prop} {st0 : List Value} (ha : wa.length = 127) (hi : XInv RL code N1 pc as (wM N A Z B u Lc)) (hC : Ct l g N1 as (wM N A Z B u Lc) (Qi P)) (hh : N1.2.2.2.2.1 + 1 ≤ 9) (hc0 : N1.2.2.2.2.2.1 = 0) (hs0 : N1.2.2.2.2.2.2 = 0) (hc : kc ≤ 600000) (hs : ks ≤ 7302250) (hrest : (st.map fun v => v.category).sum ≤ 8)
    (hst : st0 = (as.map (xv (xro [127, 128, 129, 130, 131, 132] 133))).reverse ++ st)
    (h : ∀ (v : Int32) (w1 : XW), P v w1 → ∃ N' A' Z' B' u' L', w1 = wM N' A' Z' B' u' L' ∧ YL l g b L xs (pc + 3) lv (.int v :: st) (wa ++ wMx N' A' Z' B' u' L') kc ks) : YL l g b L xs pc lv st0 (wa ++ wMx N A Z B u Lc) kc ks := by
  have hlen : (wa ++ wMx N A Z B u Lc).length = 133 := by rw [List.length_append, ha]; rfl
  have er : [127, 128, 129, 130, 131, 132] = List.range' wa.length (wMx N A Z B u Lc).length := by rw [ha]; rfl
  refine y_call [127, 128, 129, 130, 131, 132] hi hC hh (by rw [hc0]; exact hc) (by rw [hs0]; exact hs) hrest (by rw [hlen]; exact hst) ?_ (by decide) (fun r w1 hq => ?_)
  · rw [hlen]
    conv => lhs; rw [er, get_suf]
    rfl
  · obtain ⟨v, rfl, hq⟩ := hq
    obtain ⟨N', A', Z', B', u', L', rfl, hY⟩ := h v w1 hq
    rw [hc0, hs0, hlen]
    refine y_eqw ?_ hY
    conv => lhs; rw [er]
    rw [xset_suf _ _ _ _ (by rfl), ← er]
    rfl
/-- an object is made -/
theorem y_new {w : XW} {idx ci : Nat} {fs : List Value} {q : vw_C} (hd : decode code pc = .ok (.new idx, 3)) (hq : vwCl[ci]? = some q) (hl0 : Cond.classLink RL idx q.1 ∈ xt) (hf : xdf ci fs) (hc : kc + 1 ≤ 600000) (hs : ks + q.2.2 ≤ 7302250) (h : YL l g b L xs (pc + 3) lv (.ref w.length :: st) (w ++ [.inr (.inr (ci, fs))]) (kc + 1) (ks + q.2.2)) : YL l g b L xs pc lv st w kc ks := by
  intro p e s m below meth c A0 hK ad H locs ls hw hst hlv hP hD hS hl
  obtain ⟨C, T, N⟩ := q
  obtain ⟨f1, f2, f3, ty, f4, f5⟩ := hf _ hq
  have hts : ∀ w ∈ xt, w.before #[Value.ref b] s = true := fun w hw => A0.2.2.2.2.2.1 w (xt_tbl hw)
  have hx : xcok 0 (.inr (.inr (ci, fs))) := fun v hv i e => absurd e (f3 v hv i)
  have hfs : fs.map (xv ad) = fs := by
    conv => rhs; rw [← List.map_id fs]
    refine List.map_congr_left (fun v hv => ?_)
    cases v <;> first | rfl | exact absurd rfl (f3 _ hv _)
  refine va_new A0.1 A0.2.1 hts (x_in ci _ hq) ty f4 A0.2.2.2.2.1 (hts _ hl0) (hts _ f1) (hts _ f2) hK.1 hP hD hS (fun _ h => h) hq f5 hc hs hd (fun q H1 hP1 hD1 hS1 => ?_)
  have e1 : xw g (xup ad w.length q) (w ++ [.inr (.inr (ci, fs))]) = xw g ad w ++ [(q, .inr (ci, fs))] := by
    rw [xw_push, xw_up hw, xe_eq hx (fun i hi => absurd hi (Nat.not_lt_zero _)) (ad := ad)]
    show xw g ad w ++ [(xup ad w.length q w.length, .inr (ci, fs.map (xv ad)))] = _
    rw [hfs]; simp [xup]
  have hwl : w.length ≤ (w ++ [(.inr (.inr (ci, fs)) : XC)]).length := by simp
  have el : lv.map (fun y => (y.1, xv (xup ad w.length q) y.2)) = lv.map (fun y => (y.1, xv ad y.2)) := List.map_congr_left (fun y hy => by rw [xv_eq (hlv y hy) (fun i hi => xup_lt hi)])
  have K := h p e s m below meth c A0 hK (xup ad w.length q) H1 locs ls (xwok_push hw (xcok_mono hx (Nat.zero_le _))) (fun v hv => by
    rcases List.mem_cons.mp hv with rfl | hv
    · exact fun i e => by cases e; simp
    · exact xok_mono (hst v hv) hwl) (fun y hy => xok_mono (hlv y hy) hwl) (by rw [e1]; exact hP1) (by rw [e1]; exact hD1) hS1 (by rw [el]; exact hl)
  have e2 : (Value.ref w.length :: st).map (xv (xup ad w.length q)) = .ref q :: st.map (xv ad) := by
    rw [List.map_cons, st_eq hst (fun i hi => xup_lt hi)]
    simp [xv, xup]
  rw [e2] at K
  exact K
/-- a reference, or a number, into a local -/
theorem y_astore1 {w : XW} {v0 : Nat} (hd : decode code pc = .ok (.astore_n 1, 1)) (h : YL l g b L xs (pc + 1) [(1, .ref v0)] st w kc ks) : YL l g b L xs pc [] (.ref v0 :: st) w kc ks := by
  intro p e s m below meth c A0 hK ad H locs ls hw hst hlv hP hD hS hl
  refine lv_astore_n (i := 1) (lv' := [(1, .ref (ad v0)), (0, .ref b)]) A0.1 A0.2.1 hd rfl hl (by decide) rfl (fun ls' hl' => ?_)
  exact h p e s m below meth c A0 hK ad H locs ls' hw (fun u hu => hst u (List.mem_cons_of_mem _ hu)) (fun q hq => by rw [List.mem_singleton] at hq; subst hq; exact hst _ List.mem_cons_self) hP hD hS (lv_sub hl' [1, 0] rfl)
theorem y_astore2 {w : XW} {v0 v1 : Nat} (hd : decode code pc = .ok (.astore_n 2, 1)) (h : YL l g b L xs (pc + 1) [(1, .ref v0), (2, .ref v1)] st w kc ks) : YL l g b L xs pc [(1, .ref v0)] (.ref v1 :: st) w kc ks := by
  intro p e s m below meth c A0 hK ad H locs ls hw hst hlv hP hD hS hl
  refine lv_astore_n (i := 2) (lv' := [(2, .ref (ad v1)), (0, .ref b), (1, .ref (ad v0))]) A0.1 A0.2.1 hd rfl hl (by decide) rfl (fun ls' hl' => ?_)
  exact h p e s m below meth c A0 hK ad H locs ls' hw (fun u hu => hst u (List.mem_cons_of_mem _ hu)) (fun q hq => by
    rcases List.mem_cons.mp hq with rfl | hq
    · exact hlv _ List.mem_cons_self
    · rw [List.mem_singleton] at hq; subst hq; exact hst _ List.mem_cons_self) hP hD hS (lv_sub hl' [1, 2, 0] rfl)
theorem y_istore3 {w : XW} {v0 v1 : Nat} {x : Int32} (hd : decode code pc = .ok (.istore_n 3, 1)) (h : YL l g b L xs (pc + 1) [(3, .int x), (1, .ref v0), (2, .ref v1)] st w kc ks) : YL l g b L xs pc [(1, .ref v0), (2, .ref v1)] (.int x :: st) w kc ks := by
  intro p e s m below meth c A0 hK ad H locs ls hw hst hlv hP hD hS hl
  refine lv_istore_n (i := 3) (lv' := [(3, .int x), (0, .ref b), (1, .ref (ad v0)), (2, .ref (ad v1))]) A0.1 A0.2.1 hd rfl hl (by decide) rfl (fun ls' hl' => ?_)
  exact h p e s m below meth c A0 hK ad H locs ls' hw (fun u hu => hst u (List.mem_cons_of_mem _ hu)) (fun q hq => by
    rcases List.mem_cons.mp hq with rfl | hq
    · exact xok_int _ _
    · exact hlv _ hq) hP hD hS (lv_sub hl' [1, 0, 2, 3] rfl)
end YC
