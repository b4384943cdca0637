/-! ===== a call whose callee has the first cells of the world, as they are ===== -/
def vB (n : Nat) (v : Value) : Bool := match v with
  | .ref i => decide (i < n)
  | _ => true
def xcB (n : Nat) (c : XC) : Bool := match c with
  | .inl _ => true
  | .inr (.inl rs) => rs.all (fun o => match o with | some i => decide (i < n) | none => true)
  | .inr (.inr o) => o.2.all (vB n)
theorem xcB_ok {n : Nat} {c : XC} (h : xcB n c = true) : xcok n c := by
  rcases c with xs | rs | o
  · trivial
  · intro i hi
    simpa using List.all_eq_true.mp h (some i) hi
  · intro v hv i e
    subst e
    simpa [vB] using List.all_eq_true.mp h _ hv
theorem xwokB {n : Nat} {w : XW} (hn : w.length = n) (h : w.all (xcB n) = true) : xwok w := fun c hc => by rw [hn]; exact xcB_ok (List.all_eq_true.mp h c hc)
theorem xrc_id {k : Nat} {ro : Nat → Nat} (hr : ∀ j, j < k → ro j = j) {c : XC} (h : xcok k c) : xrc ro c = c := by
  rcases c with xs | rs | o
  · rfl
  · show (Sum.inr (Sum.inl (rs.map (Option.map ro))) : XC) = _
    congr 2
    conv => rhs; rw [← List.map_id rs]
    refine List.map_congr_left (fun y hy => ?_)
    cases y with
    | none => rfl
    | some i => exact congrArg some (hr i (h i hy))
  · show (Sum.inr (Sum.inr (o.1, o.2.map (xv ro))) : XC) = _
    congr 2
    obtain ⟨a, b⟩ := o
    congr 1
    show b.map (xv ro) = b
    conv => rhs; rw [← List.map_id b]
    refine List.map_congr_left (fun y hy => ?_)
    cases y <;> first | rfl | exact congrArg Value.ref (hr _ (h _ hy _ rfl))
theorem xro_pre {k n j : Nat} (h : j < k) : xro (List.range k) n j = j := xro_some (by rw [List.getElem?_range h])
theorem nd_range (k : Nat) : va_nd (List.range k) = true := by
  have : ∀ l : List Nat, l.Nodup → va_nd l = true := by
    intro l
    induction l with
    | nil => intro _; rfl
    | cons a l ih => intro h; rw [List.nodup_cons] at h; simp [va_nd, h.1, ih h.2]
  exact this _ List.nodup_range
theorem xset_pre {k n : Nat} {wa wb w1 : XW} (ha : wa.length = k) (h1 : w1.length = k) (hok : xwok w1) : xset (xro (List.range k) n) (List.range k) w1 (wa ++ wb) = w1 ++ wb := by
  apply List.ext_getElem?
  intro i
  have hl : (xset (xro (List.range k) n) (List.range k) w1 (wa ++ wb)).length = k + wb.length := by
    rw [xset_len _ _ _ _ (by simp [h1])]; simp [ha, h1]
  by_cases hi : i < k
  · rw [xset_in _ (List.range k) w1 _ i i (nd_range k) (fun x hx => by simp at hx ⊢; omega) (by simp [h1]) (by rw [List.getElem?_range hi])]
    rw [List.getElem?_append_left (by omega)]
    have h2 : w1[i]? = some w1[i] := List.getElem?_eq_getElem (by omega)
    rw [h2]
    exact congrArg some (xrc_id (k := k) (fun j hj => xro_pre hj) (h1 ▸ hok _ (List.getElem_mem (by omega))))
  · by_cases hi2 : i < k + wb.length
    · rw [xset_out _ (List.range k) w1 _ i (by simp; omega) (by simp; omega), List.getElem?_append_right (by omega), List.getElem?_append_right (by omega), ha, h1]
    · rw [List.getElem?_eq_none (by omega), List.getElem?_eq_none (by simp; omega)]
theorem hsub_pre {k : Nat} {wa wb : XW} (ha : wa.length = k) (hok : xwok wa) (n : Nat) : (List.range k).map (fun i => (wa ++ wb)[i]?) = wa.map (fun c => some (xrc (xro (List.range k) n) c)) := by
  apply List.ext_getElem?
  intro i
  by_cases hi : i < k
  · have h2 : wa[i]? = some wa[i] := List.getElem?_eq_getElem (by omega)
    rw [List.getElem?_map, List.getElem?_map, List.getElem?_range hi, h2]
    simp only [Option.map_some]
    rw [List.getElem?_append_left (by omega), h2, xrc_id (k := k) (fun j hj => xro_pre hj) (ha ▸ hok _ (List.getElem_mem (by omega)))]
  · rw [List.getElem?_eq_none (by simp; omega), List.getElem?_eq_none (by simp; omega)]
theorem xv_pre {k n : Nat} {as : List Value} (h : ∀ v ∈ as, xok k v) : as.map (xv (xro (List.range k) n)) = as := by
  conv => rhs; rw [← List.map_id as]
  refine List.map_congr_left (fun v hv => ?_)
  cases v <;> first | rfl | exact congrArg Value.ref (xro_pre (h _ hv _ rfl))
theorem x_callq {l : Launch} {g : XG} {M : XM} {Q : Option Value → XW → Prop} {pc : Nat} {lv : List (Option Value)} {st : List Value} {kc ks : Nat} (k : Nat) {wa wb : XW} {N : XM} {as : List Value} {P : Int32 → XW → Prop} {st0 : List Value} (hi : XInv M.1.cls M.2.1 N pc as wa) (hC : Ct l g N as wa (Qi P)) (hh : N.2.2.2.2.1 + 1 ≤ M.2.2.2.2.1) (hc0 : N.2.2.2.2.2.1 = 0) (hs0 : N.2.2.2.2.2.2 = 0) (hc : kc ≤ M.2.2.2.2.2.1) (hs : ks ≤ M.2.2.2.2.2.2) (hrest : (st.map fun v => v.category).sum ≤ 8)
    (ha : wa.length = k) (hok : xwok wa) (hao : ∀ v ∈ as, xok k v) (hst : st0 = as.reverse ++ st) (hP : ∀ v w1, P v w1 → w1.length = k ∧ xwok w1)
    (h : ∀ (v : Int32) (w1 : XW), P v w1 → XA l g M Q (pc + 3) lv (.int v :: st) (w1 ++ wb) kc ks) : XA l g M Q pc lv st0 (wa ++ wb) kc ks := by
  refine x_calli (List.range k) hi hC hh hc0 hs0 hc hs hrest (by rw [xv_pre hao]; exact hst) (hsub_pre ha hok _) (nd_range k) (fun v w1 hp => ?_)
  rw [xset_pre ha (hP v w1 hp).1 (hP v w1 hp).2]
  exact h v w1 hp
set_option maxRecDepth 100000 in
set_option maxHeartbeats 4000000 in
theorem wN_len (S : MS) (G : Nat → MS) (r n : Nat) (E : Nat → Int32) (en : Int32) (C : Nat → Int32) (cs : Int32) (P T : MS) : (wN S (tX G r n E en C cs P T)).length = 127 := rfl
set_option maxRecDepth 100000 in
set_option maxHeartbeats 4000000 in
theorem wN_ok (S : MS) (G : Nat → MS) (r n : Nat) (E : Nat → Int32) (en : Int32) (C : Nat → Int32) (cs : Int32) (P T : MS) : xwok (wN S (tX G r n E en C cs P T)) := by
  have h1 : ∀ c ∈ (preN S ++ ([.inr (.inr (3, [.ref 17, .int (nI n)])), .inr (.inr (5, [.ref 19, .ref 25, .ref 32, .int ((G 0) 12 0)])), .inr (.inr (4, [.ref 20, .ref 21, .ref 22, .ref 23, .ref 24])), .inl (row 12 ((G 0) 0)), .inl (row 12 ((G 0) 1)), .inl (row 12 ((G 0) 2)), .inl (row 12 ((G 0) 3)), .inl (row 144 ((G 0) 4)), .inr (.inr (2, [.ref 26, .ref 27, .ref 28, .ref 29, .ref 30, .ref 31])), .inl (row 8 ((G 0) 5)), .inl (row 8 ((G 0) 6)), .inl (row 8 ((G 0) 7)), .inl (row 80 ((G 0) 8)), .inl (row 80 ((G 0) 9)), .inl (row 80 ((G 0) 10)), .inl (row 6 ((G 0) 11)), .inr (.inr (5, [.ref 34, .ref 40, .ref 47, .int ((G 1) 12 0)])), .inr (.inr (4, [.ref 35, .ref 36, .ref 37, .ref 38, .ref 39])), .inl (row 12 ((G 1) 0)), .inl (row 12 ((G 1) 1)), .inl (row 12 ((G 1) 2)), .inl (row 12 ((G 1) 3)), .inl (row 144 ((G 1) 4)), .inr (.inr (2, [.ref 41, .ref 42, .ref 43, .ref 44, .ref 45, .ref 46])), .inl (row 8 ((G 1) 5)), .inl (row 8 ((G 1) 6)), .inl (row 8 ((G 1) 7)), .inl (row 80 ((G 1) 8)), .inl (row 80 ((G 1) 9)), .inl (row 80 ((G 1) 10)), .inl (row 6 ((G 1) 11)), .inr (.inr (5, [.ref 49, .ref 55, .ref 62, .int ((G 2) 12 0)])), .inr (.inr (4, [.ref 50, .ref 51, .ref 52, .ref 53, .ref 54])), .inl (row 12 ((G 2) 0)), .inl (row 12 ((G 2) 1)), .inl (row 12 ((G 2) 2)), .inl (row 12 ((G 2) 3)), .inl (row 144 ((G 2) 4)), .inr (.inr (2, [.ref 56, .ref 57, .ref 58, .ref 59, .ref 60, .ref 61])), .inl (row 8 ((G 2) 5)), .inl (row 8 ((G 2) 6)), .inl (row 8 ((G 2) 7)), .inl (row 80 ((G 2) 8)), .inl (row 80 ((G 2) 9)), .inl (row 80 ((G 2) 10)), .inl (row 6 ((G 2) 11)), .inr (.inr (5, [.ref 64, .ref 70, .ref 77, .int ((G 3) 12 0)])), .inr (.inr (4, [.ref 65, .ref 66, .ref 67, .ref 68, .ref 69])), .inl (row 12 ((G 3) 0)), .inl (row 12 ((G 3) 1)), .inl (row 12 ((G 3) 2)), .inl (row 12 ((G 3) 3)), .inl (row 144 ((G 3) 4)), .inr (.inr (2, [.ref 71, .ref 72, .ref 73, .ref 74, .ref 75, .ref 76])), .inl (row 8 ((G 3) 5)), .inl (row 8 ((G 3) 6)), .inl (row 8 ((G 3) 7)), .inl (row 80 ((G 3) 8)), .inl (row 80 ((G 3) 9)), .inl (row 80 ((G 3) 10)), .inl (row 6 ((G 3) 11)), .inr (.inr (5, [.ref 79, .ref 85, .ref 92, .int ((G 4) 12 0)])), .inr (.inr (4, [.ref 80, .ref 81, .ref 82, .ref 83, .ref 84])), .inl (row 12 ((G 4) 0)), .inl (row 12 ((G 4) 1)), .inl (row 12 ((G 4) 2)), .inl (row 12 ((G 4) 3)), .inl (row 144 ((G 4) 4)), .inr (.inr (2, [.ref 86, .ref 87, .ref 88, .ref 89, .ref 90, .ref 91])), .inl (row 8 ((G 4) 5)), .inl (row 8 ((G 4) 6)), .inl (row 8 ((G 4) 7)), .inl (row 80 ((G 4) 8)), .inl (row 80 ((G 4) 9)), .inl (row 80 ((G 4) 10)), .inl (row 6 ((G 4) 11)), .inr (.inr (0, [.ref 94, .int en])), .inl (row 8 E), .inr (.inr (1, [.ref 96, .int cs])), .inl (row 42 C), .inr (.inr (5, [.ref 98, .ref 104, .ref 111, .int (P 12 0)])), .inr (.inr (4, [.ref 99, .ref 100, .ref 101, .ref 102, .ref 103])), .inl (row 12 (P 0)), .inl (row 12 (P 1)), .inl (row 12 (P 2)), .inl (row 12 (P 3)), .inl (row 144 (P 4)), .inr (.inr (2, [.ref 105, .ref 106, .ref 107, .ref 108, .ref 109, .ref 110])), .inl (row 8 (P 5)), .inl (row 8 (P 6)), .inl (row 8 (P 7)), .inl (row 80 (P 8)), .inl (row 80 (P 9)), .inl (row 80 (P 10)), .inl (row 6 (P 11)), .inr (.inr (5, [.ref 113, .ref 119, .ref 126, .int (T 12 0)])), .inr (.inr (4, [.ref 114, .ref 115, .ref 116, .ref 117, .ref 118])), .inl (row 12 (T 0)), .inl (row 12 (T 1)), .inl (row 12 (T 2)), .inl (row 12 (T 3)), .inl (row 144 (T 4)), .inr (.inr (2, [.ref 120, .ref 121, .ref 122, .ref 123, .ref 124, .ref 125])), .inl (row 8 (T 5)), .inl (row 8 (T 6)), .inl (row 8 (T 7)), .inl (row 80 (T 8)), .inl (row 80 (T 9)), .inl (row 80 (T 10)), .inl (row 6 (T 11))] : XW)), xcB 127 c = true := List.all_eq_true.mp (by rfl)
  have h2 : ∀ c ∈ preN S ++ tX G r n E en C cs P T, c ∈ (preN S ++ ([.inr (.inr (3, [.ref 17, .int (nI n)])), .inr (.inr (5, [.ref 19, .ref 25, .ref 32, .int ((G 0) 12 0)])), .inr (.inr (4, [.ref 20, .ref 21, .ref 22, .ref 23, .ref 24])), .inl (row 12 ((G 0) 0)), .inl (row 12 ((G 0) 1)), .inl (row 12 ((G 0) 2)), .inl (row 12 ((G 0) 3)), .inl (row 144 ((G 0) 4)), .inr (.inr (2, [.ref 26, .ref 27, .ref 28, .ref 29, .ref 30, .ref 31])), .inl (row 8 ((G 0) 5)), .inl (row 8 ((G 0) 6)), .inl (row 8 ((G 0) 7)), .inl (row 80 ((G 0) 8)), .inl (row 80 ((G 0) 9)), .inl (row 80 ((G 0) 10)), .inl (row 6 ((G 0) 11)), .inr (.inr (5, [.ref 34, .ref 40, .ref 47, .int ((G 1) 12 0)])), .inr (.inr (4, [.ref 35, .ref 36, .ref 37, .ref 38, .ref 39])), .inl (row 12 ((G 1) 0)), .inl (row 12 ((G 1) 1)), .inl (row 12 ((G 1) 2)), .inl (row 12 ((G 1) 3)), .inl (row 144 ((G 1) 4)), .inr (.inr (2, [.ref 41, .ref 42, .ref 43, .ref 44, .ref 45, .ref 46])), .inl (row 8 ((G 1) 5)), .inl (row 8 ((G 1) 6)), .inl (row 8 ((G 1) 7)), .inl (row 80 ((G 1) 8)), .inl (row 80 ((G 1) 9)), .inl (row 80 ((G 1) 10)), .inl (row 6 ((G 1) 11)), .inr (.inr (5, [.ref 49, .ref 55, .ref 62, .int ((G 2) 12 0)])), .inr (.inr (4, [.ref 50, .ref 51, .ref 52, .ref 53, .ref 54])), .inl (row 12 ((G 2) 0)), .inl (row 12 ((G 2) 1)), .inl (row 12 ((G 2) 2)), .inl (row 12 ((G 2) 3)), .inl (row 144 ((G 2) 4)), .inr (.inr (2, [.ref 56, .ref 57, .ref 58, .ref 59, .ref 60, .ref 61])), .inl (row 8 ((G 2) 5)), .inl (row 8 ((G 2) 6)), .inl (row 8 ((G 2) 7)), .inl (row 80 ((G 2) 8)), .inl (row 80 ((G 2) 9)), .inl (row 80 ((G 2) 10)), .inl (row 6 ((G 2) 11)), .inr (.inr (5, [.ref 64, .ref 70, .ref 77, .int ((G 3) 12 0)])), .inr (.inr (4, [.ref 65, .ref 66, .ref 67, .ref 68, .ref 69])), .inl (row 12 ((G 3) 0)), .inl (row 12 ((G 3) 1)), .inl (row 12 ((G 3) 2)), .inl (row 12 ((G 3) 3)), .inl (row 144 ((G 3) 4)), .inr (.inr (2, [.ref 71, .ref 72, .ref 73, .ref 74, .ref 75, .ref 76])), .inl (row 8 ((G 3) 5)), .inl (row 8 ((G 3) 6)), .inl (row 8 ((G 3) 7)), .inl (row 80 ((G 3) 8)), .inl (row 80 ((G 3) 9)), .inl (row 80 ((G 3) 10)), .inl (row 6 ((G 3) 11)), .inr (.inr (5, [.ref 79, .ref 85, .ref 92, .int ((G 4) 12 0)])), .inr (.inr (4, [.ref 80, .ref 81, .ref 82, .ref 83, .ref 84])), .inl (row 12 ((G 4) 0)), .inl (row 12 ((G 4) 1)), .inl (row 12 ((G 4) 2)), .inl (row 12 ((G 4) 3)), .inl (row 144 ((G 4) 4)), .inr (.inr (2, [.ref 86, .ref 87, .ref 88, .ref 89, .ref 90, .ref 91])), .inl (row 8 ((G 4) 5)), .inl (row 8 ((G 4) 6)), .inl (row 8 ((G 4) 7)), .inl (row 80 ((G 4) 8)), .inl (row 80 ((G 4) 9)), .inl (row 80 ((G 4) 10)), .inl (row 6 ((G 4) 11)), .inr (.inr (0, [.ref 94, .int en])), .inl (row 8 E), .inr (.inr (1, [.ref 96, .int cs])), .inl (row 42 C), .inr (.inr (5, [.ref 98, .ref 104, .ref 111, .int (P 12 0)])), .inr (.inr (4, [.ref 99, .ref 100, .ref 101, .ref 102, .ref 103])), .inl (row 12 (P 0)), .inl (row 12 (P 1)), .inl (row 12 (P 2)), .inl (row 12 (P 3)), .inl (row 144 (P 4)), .inr (.inr (2, [.ref 105, .ref 106, .ref 107, .ref 108, .ref 109, .ref 110])), .inl (row 8 (P 5)), .inl (row 8 (P 6)), .inl (row 8 (P 7)), .inl (row 80 (P 8)), .inl (row 80 (P 9)), .inl (row 80 (P 10)), .inl (row 6 (P 11)), .inr (.inr (5, [.ref 113, .ref 119, .ref 126, .int (T 12 0)])), .inr (.inr (4, [.ref 114, .ref 115, .ref 116, .ref 117, .ref 118])), .inl (row 12 (T 0)), .inl (row 12 (T 1)), .inl (row 12 (T 2)), .inl (row 12 (T 3)), .inl (row 144 (T 4)), .inr (.inr (2, [.ref 120, .ref 121, .ref 122, .ref 123, .ref 124, .ref 125])), .inl (row 8 (T 5)), .inl (row 8 (T 6)), .inl (row 8 (T 7)), .inl (row 80 (T 8)), .inl (row 80 (T 9)), .inl (row 80 (T 10)), .inl (row 6 (T 11))] : XW)) ∨ c = ((.inr (.inl [some (18 + 15 * ((0 + r) % 5)), some (18 + 15 * ((1 + r) % 5)), some (18 + 15 * ((2 + r) % 5)), some (18 + 15 * ((3 + r) % 5)), some (18 + 15 * ((4 + r) % 5))]) : XC)) := by
    intro c hc
    rcases List.mem_append.mp hc with h | h
    · exact Or.inl (List.mem_append_left _ h)
    · rcases List.mem_cons.mp h with h | h
      · exact Or.inl (List.mem_append_right _ (by rw [h]; exact List.mem_cons_self))
      · rcases List.mem_cons.mp h with h | h
        · exact Or.inr h
        · exact Or.inl (List.mem_append_right _ (List.mem_cons_of_mem _ h))
  intro c hc
  show xcok 127 c
  rcases h2 c hc with h | h
  · exact xcB_ok (h1 c h)
  · subst h
    intro i hi
    simp only [List.mem_cons, Option.some.injEq, List.not_mem_nil, or_false] at hi
    omega
