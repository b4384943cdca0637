/-! ===== pictures: the rows of a state by their numbers ===== -/
theorem row_ex : ∃ r : Nat → (Nat → Int32) → List Int32, ∀ n f, r n f = (List.range n).map f := ⟨fun n f => (List.range n).map f, fun _ _ => rfl⟩
/-- a row of n numbers (by choice, so that nothing unfolds it) -/
noncomputable def row : Nat → (Nat → Int32) → List Int32 := row_ex.choose
theorem row_def (n : Nat) (f : Nat → Int32) : row n f = (List.range n).map f := row_ex.choose_spec n f
theorem row_len (n : Nat) (f : Nat → Int32) : (row n f).length = n := by simp [row_def]
theorem row_get {n k : Nat} {f : Nat → Int32} (h : k < n) : (row n f).getD k 0 = f k := by
  simp [row_def, List.getD_eq_getElem?_getD, List.getElem?_range, h]
theorem row_congr {n : Nat} {f f' : Nat → Int32} (h : ∀ k, k < n → f k = f' k) : row n f = row n f' := by rw [row_def, row_def]; exact List.map_congr_left (fun k hk => h k (List.mem_range.mp hk))
theorem row_set {n k : Nat} {f : Nat → Int32} {x : Int32} : (row n f).set k x = row n (upd f k x) := by
  apply List.ext_getElem?
  intro i
  simp only [row_def, List.getElem?_set, List.getElem?_map, List.length_map, List.length_range, List.getElem?_range]
  by_cases hi : i < n
  · by_cases hk : k = i
    · subst hk; simp [hi, upd]
    · simp [hi, hk, upd, Ne.symm hk]
  · simp [hi]
    intro h1; omega
theorem row_rep (n : Nat) : List.replicate n (0 : Int32) = row n (fun _ => 0) := by
  apply List.ext_getElem?
  intro i
  simp only [row_def, List.getElem?_map, List.getElem?_range, List.getElem?_replicate]
  by_cases hi : i < n <;> simp [hi]
/-- the state of storage: row t at place k -/
abbrev MS : Type := Nat → Nat → Int32
def us (S : MS) (t k : Nat) (v : Int32) : MS := fun t' => if t' = t then upd (S t) k v else S t'
noncomputable abbrev wP (S : MS) : XW := [.inr (.inr (4, [.ref 1, .ref 2, .ref 3, .ref 4, .ref 5])), .inl (row 12 (S 0)), .inl (row 12 (S 1)), .inl (row 12 (S 2)), .inl (row 12 (S 3)), .inl (row 144 (S 4))]
noncomputable abbrev wF (S : MS) : XW := [.inr (.inr (2, [.ref 1, .ref 2, .ref 3, .ref 4, .ref 5, .ref 6])), .inl (row 8 (S 5)), .inl (row 8 (S 6)), .inl (row 8 (S 7)), .inl (row 80 (S 8)), .inl (row 80 (S 9)), .inl (row 80 (S 10))]
noncomputable abbrev wS (S : MS) : XW := [.inr (.inr (5, [.ref 1, .ref 7, .ref 14, .int (S 12 0)])), .inr (.inr (4, [.ref 2, .ref 3, .ref 4, .ref 5, .ref 6])), .inl (row 12 (S 0)), .inl (row 12 (S 1)), .inl (row 12 (S 2)), .inl (row 12 (S 3)), .inl (row 144 (S 4)),
  .inr (.inr (2, [.ref 8, .ref 9, .ref 10, .ref 11, .ref 12, .ref 13])), .inl (row 8 (S 5)), .inl (row 8 (S 6)), .inl (row 8 (S 7)), .inl (row 80 (S 8)), .inl (row 80 (S 9)), .inl (row 80 (S 10)), .inl (row 6 (S 11))]
/-! numbers -/
abbrev cl (p : Int32) : Nat := p.toNatClampNeg
def b2i (b : Bool) : Int32 := if b then 1 else 0
theorem b2i_t : b2i true = 1 := rfl
theorem b2i_f : b2i false = 0 := rfl
theorem b2i_narrow (b : Bool) : narrow .boolean (.int (b2i b)) = .int (b2i b) := by cases b <;> rfl
theorem b2i_eq0 (b : Bool) : (b2i b = 0) ↔ b = false := by cases b <;> decide
theorem b2i_ne0 (b : Bool) : (¬ b2i b = 0) ↔ b = true := by cases b <;> decide
/-- i is the place k of a row of n -/
def ix (i : Int32) (k n : Nat) : Prop := vp_in i n ∧ cl i = k
theorem toInt_cl {i : Int32} (h : ¬ i < 0) : i.toInt = (cl i : Int) := by
  have : (0 : Int) ≤ i.toInt := by simpa using Int32.le_iff_toInt_le.mp (Int32.not_lt.mp h)
  show i.toInt = ((i.toInt.toNat : Nat) : Int)
  omega
theorem nI_cl {i : Int32} (h : ¬ i < 0) : i = nI (cl i) := by
  apply Int32.toInt_inj.mp
  rw [toInt_cl h, nI_toInt]
  have := Int32.toInt_lt i
  have := toInt_cl h
  omega
theorem vin_iff {i : Int32} {n : Nat} : vp_in i n ↔ ¬ i < 0 ∧ cl i < n := by
  unfold vp_in; constructor
  · intro h; exact ⟨fun z => h (Or.inl z), Nat.not_le.mp fun z => h (Or.inr z)⟩
  · rintro ⟨h1, h2⟩ (h | h)
    · exact h1 h
    · exact absurd h (Nat.not_le.mpr h2)
theorem vin_of {i c : Int32} (n : Nat) (hn : n < 2 ^ 31) (hc : c = nI n) (h0 : ¬ i < 0) (h1 : ¬ c ≤ i) : vp_in i n := by
  subst hc
  rw [vin_iff]
  refine ⟨h0, ?_⟩
  have h2 : ¬ (nI n).toInt ≤ i.toInt := fun z => h1 (Int32.le_iff_toInt_le.mpr z)
  rw [nI_toInt hn, toInt_cl h0] at h2
  omega
theorem vin_lt {i c : Int32} (n : Nat) (hn : n < 2 ^ 31) (hc : c = nI n) (h0 : ¬ i < 0) (h1 : i < c) : vp_in i n := vin_of n hn hc h0 (Int32.not_le.mpr h1)
theorem vin_not0 {i : Int32} {n : Nat} (h : i < 0) : ¬ vp_in i n := fun z => z (Or.inl h)
theorem vin_not1 {i c : Int32} {n : Nat} (hn : n < 2 ^ 31) (hc : c = nI n) (h : c ≤ i) : ¬ vp_in i n := by
  subst hc
  intro z
  rw [vin_iff] at z
  have h2 := Int32.le_iff_toInt_le.mp h
  rw [nI_toInt hn, toInt_cl z.1] at h2
  omega
theorem vin_nI {k n : Nat} (hn : n < 2 ^ 31) : k < n → vp_in (nI k) n := fun h => vp_in_nI h hn
theorem cl_nI {k : Nat} (h : k < 2 ^ 31) : cl (nI k) = k := nI_clamp h
theorem vin_nI_iff {k n : Nat} (hk : k < 2 ^ 31) : vp_in (nI k) n ↔ k < n := by
  rw [vin_iff, cl_nI hk]
  exact ⟨fun h => h.2, fun h => ⟨nI_pos hk, h⟩⟩
theorem ix_of {i : Int32} {n : Nat} (h : vp_in i n) : ix i (cl i) n := ⟨h, rfl⟩
theorem ix_nI {k n : Nat} (h : k < n) (hn : n < 2 ^ 31) : ix (nI k) k n := ⟨vp_in_nI h hn, nI_clamp (by omega)⟩
theorem ix_2 {i j : Int32} (a b m : Nat) {c : Int32} (hc : c = nI b) (hm : m = a * b) (hlt : m < 2 ^ 31) (hi : vp_in i a) (hj : vp_in j b) : ix (i * c + j) (b * cl i + cl j) m := by
  obtain ⟨i0, i1⟩ := vin_iff.mp hi
  obtain ⟨j0, j1⟩ := vin_iff.mp hj
  subst hc; subst hm
  have h1 : b * cl i + cl j < a * b := by
    have : b * cl i + b ≤ b * a := by rw [← Nat.mul_succ]; exact Nat.mul_le_mul_left b i1
    rw [Nat.mul_comm a b]; omega
  have e1 : i * nI b + j = nI (b * cl i + cl j) := by
    conv => lhs; rw [nI_cl i0, nI_cl j0, pk_mul, nI_add, Nat.mul_comm]
  rw [e1]
  exact ix_nI h1 hlt
section XPIC
variable {l : Launch} {g : XG} {M : XM} {Q : Option Value → XW → Prop} {pc : Nat} {lv : List (Option Value)} {st : List Value} {w : XW} {kc ks : Nat}
theorem x_iar {a n k : Nat} {f : Nat → Int32} {i : Int32} (hd : decode M.2.1 pc = .ok (.iaload, 1)) (hw : w[a]? = some (.inl (row n f))) (hi : ix i k n) (h : XA l g M Q (pc + 1) lv (.int (f k) :: st) w kc ks) : XA l g M Q pc lv (.int i :: .ref a :: st) w kc ks := by
  obtain ⟨h1, rfl⟩ := hi
  refine x_iald hd hw (by rw [row_len]; exact h1) ?_
  rw [row_get (vin_iff.mp h1).2]
  exact h
theorem x_iaw {a n k : Nat} {f : Nat → Int32} {i x : Int32} (hd : decode M.2.1 pc = .ok (.iastore, 1)) (hw : w[a]? = some (.inl (row n f))) (hi : ix i k n) (h : XA l g M Q (pc + 1) lv st (w.set a (.inl (row n (upd f k x)))) kc ks) : XA l g M Q pc lv (.int x :: .int i :: .ref a :: st) w kc ks := by
  obtain ⟨h1, rfl⟩ := hi
  refine x_iast hd hw (by rw [row_len]; exact h1) ?_
  rw [row_set]
  exact h
theorem x_if_eq_t {x : Int32} {off : Int} {tgt : Nat} (hd : decode M.2.1 pc = .ok (.ifCond .eq off, 3)) (ht : (pc : Int) + off = (tgt : Int)) (hc : x = 0) (kt : XA l g M Q tgt lv st w kc ks) : XA l g M Q pc lv (.int x :: st) w kc ks := x_if_eq hd ht (fun _ => kt) (fun z => absurd hc (z))
theorem x_if_eq_f {x : Int32} {off : Int} (hd : decode M.2.1 pc = .ok (.ifCond .eq off, 3)) {tgt : Nat} (ht : (pc : Int) + off = (tgt : Int)) (hc : ¬ x = 0) (kf : XA l g M Q (pc + 3) lv st w kc ks) : XA l g M Q pc lv (.int x :: st) w kc ks := x_if_eq hd ht (fun z => absurd z hc) (fun _ => kf)
theorem x_if_ne_t {x : Int32} {off : Int} {tgt : Nat} (hd : decode M.2.1 pc = .ok (.ifCond .ne off, 3)) (ht : (pc : Int) + off = (tgt : Int)) (hc : ¬ x = 0) (kt : XA l g M Q tgt lv st w kc ks) : XA l g M Q pc lv (.int x :: st) w kc ks := x_if_ne hd ht (fun _ => kt) (fun z => absurd hc (fun y => y z))
theorem x_if_ne_f {x : Int32} {off : Int} (hd : decode M.2.1 pc = .ok (.ifCond .ne off, 3)) {tgt : Nat} (ht : (pc : Int) + off = (tgt : Int)) (hc : x = 0) (kf : XA l g M Q (pc + 3) lv st w kc ks) : XA l g M Q pc lv (.int x :: st) w kc ks := x_if_ne hd ht (fun z => (z hc).elim) (fun _ => kf)
theorem x_if_lt_t {x : Int32} {off : Int} {tgt : Nat} (hd : decode M.2.1 pc = .ok (.ifCond .lt off, 3)) (ht : (pc : Int) + off = (tgt : Int)) (hc : x < 0) (kt : XA l g M Q tgt lv st w kc ks) : XA l g M Q pc lv (.int x :: st) w kc ks := x_if_lt hd ht (fun _ => kt) (fun z => absurd hc (z))
theorem x_if_lt_f {x : Int32} {off : Int} (hd : decode M.2.1 pc = .ok (.ifCond .lt off, 3)) {tgt : Nat} (ht : (pc : Int) + off = (tgt : Int)) (hc : ¬ x < 0) (kf : XA l g M Q (pc + 3) lv st w kc ks) : XA l g M Q pc lv (.int x :: st) w kc ks := x_if_lt hd ht (fun z => absurd z hc) (fun _ => kf)
theorem x_if_ge_t {x : Int32} {off : Int} {tgt : Nat} (hd : decode M.2.1 pc = .ok (.ifCond .ge off, 3)) (ht : (pc : Int) + off = (tgt : Int)) (hc : 0 ≤ x) (kt : XA l g M Q tgt lv st w kc ks) : XA l g M Q pc lv (.int x :: st) w kc ks := x_if_ge hd ht (fun _ => kt) (fun z => absurd hc (z))
theorem x_if_ge_f {x : Int32} {off : Int} (hd : decode M.2.1 pc = .ok (.ifCond .ge off, 3)) {tgt : Nat} (ht : (pc : Int) + off = (tgt : Int)) (hc : ¬ 0 ≤ x) (kf : XA l g M Q (pc + 3) lv st w kc ks) : XA l g M Q pc lv (.int x :: st) w kc ks := x_if_ge hd ht (fun z => absurd z hc) (fun _ => kf)
theorem x_if_gt_t {x : Int32} {off : Int} {tgt : Nat} (hd : decode M.2.1 pc = .ok (.ifCond .gt off, 3)) (ht : (pc : Int) + off = (tgt : Int)) (hc : 0 < x) (kt : XA l g M Q tgt lv st w kc ks) : XA l g M Q pc lv (.int x :: st) w kc ks := x_if_gt hd ht (fun _ => kt) (fun z => absurd hc (z))
theorem x_if_gt_f {x : Int32} {off : Int} (hd : decode M.2.1 pc = .ok (.ifCond .gt off, 3)) {tgt : Nat} (ht : (pc : Int) + off = (tgt : Int)) (hc : ¬ 0 < x) (kf : XA l g M Q (pc + 3) lv st w kc ks) : XA l g M Q pc lv (.int x :: st) w kc ks := x_if_gt hd ht (fun z => absurd z hc) (fun _ => kf)
theorem x_if_le_t {x : Int32} {off : Int} {tgt : Nat} (hd : decode M.2.1 pc = .ok (.ifCond .le off, 3)) (ht : (pc : Int) + off = (tgt : Int)) (hc : x ≤ 0) (kt : XA l g M Q tgt lv st w kc ks) : XA l g M Q pc lv (.int x :: st) w kc ks := x_if_le hd ht (fun _ => kt) (fun z => absurd hc (z))
theorem x_if_le_f {x : Int32} {off : Int} (hd : decode M.2.1 pc = .ok (.ifCond .le off, 3)) {tgt : Nat} (ht : (pc : Int) + off = (tgt : Int)) (hc : ¬ x ≤ 0) (kf : XA l g M Q (pc + 3) lv st w kc ks) : XA l g M Q pc lv (.int x :: st) w kc ks := x_if_le hd ht (fun z => absurd z hc) (fun _ => kf)
theorem x_icmp_eq_t {x y : Int32} {off : Int} {tgt : Nat} (hd : decode M.2.1 pc = .ok (.if_icmp .eq off, 3)) (ht : (pc : Int) + off = (tgt : Int)) (hc : x = y) (kt : XA l g M Q tgt lv st w kc ks) : XA l g M Q pc lv (.int y :: .int x :: st) w kc ks := x_icmp_eq hd ht (fun _ => kt) (fun z => absurd hc (z))
theorem x_icmp_eq_f {x y : Int32} {off : Int} (hd : decode M.2.1 pc = .ok (.if_icmp .eq off, 3)) {tgt : Nat} (ht : (pc : Int) + off = (tgt : Int)) (hc : ¬ x = y) (kf : XA l g M Q (pc + 3) lv st w kc ks) : XA l g M Q pc lv (.int y :: .int x :: st) w kc ks := x_icmp_eq hd ht (fun z => absurd z hc) (fun _ => kf)
theorem x_icmp_ne_t {x y : Int32} {off : Int} {tgt : Nat} (hd : decode M.2.1 pc = .ok (.if_icmp .ne off, 3)) (ht : (pc : Int) + off = (tgt : Int)) (hc : ¬ x = y) (kt : XA l g M Q tgt lv st w kc ks) : XA l g M Q pc lv (.int y :: .int x :: st) w kc ks := x_icmp_ne hd ht (fun _ => kt) (fun z => absurd hc (fun y => y z))
theorem x_icmp_ne_f {x y : Int32} {off : Int} (hd : decode M.2.1 pc = .ok (.if_icmp .ne off, 3)) {tgt : Nat} (ht : (pc : Int) + off = (tgt : Int)) (hc : x = y) (kf : XA l g M Q (pc + 3) lv st w kc ks) : XA l g M Q pc lv (.int y :: .int x :: st) w kc ks := x_icmp_ne hd ht (fun z => (z hc).elim) (fun _ => kf)
theorem x_icmp_lt_t {x y : Int32} {off : Int} {tgt : Nat} (hd : decode M.2.1 pc = .ok (.if_icmp .lt off, 3)) (ht : (pc : Int) + off = (tgt : Int)) (hc : x < y) (kt : XA l g M Q tgt lv st w kc ks) : XA l g M Q pc lv (.int y :: .int x :: st) w kc ks := x_icmp_lt hd ht (fun _ => kt) (fun z => absurd hc (z))
theorem x_icmp_lt_f {x y : Int32} {off : Int} (hd : decode M.2.1 pc = .ok (.if_icmp .lt off, 3)) {tgt : Nat} (ht : (pc : Int) + off = (tgt : Int)) (hc : ¬ x < y) (kf : XA l g M Q (pc + 3) lv st w kc ks) : XA l g M Q pc lv (.int y :: .int x :: st) w kc ks := x_icmp_lt hd ht (fun z => absurd z hc) (fun _ => kf)
theorem x_icmp_ge_t {x y : Int32} {off : Int} {tgt : Nat} (hd : decode M.2.1 pc = .ok (.if_icmp .ge off, 3)) (ht : (pc : Int) + off = (tgt : Int)) (hc : y ≤ x) (kt : XA l g M Q tgt lv st w kc ks) : XA l g M Q pc lv (.int y :: .int x :: st) w kc ks := x_icmp_ge hd ht (fun _ => kt) (fun z => absurd hc (z))
theorem x_icmp_ge_f {x y : Int32} {off : Int} (hd : decode M.2.1 pc = .ok (.if_icmp .ge off, 3)) {tgt : Nat} (ht : (pc : Int) + off = (tgt : Int)) (hc : ¬ y ≤ x) (kf : XA l g M Q (pc + 3) lv st w kc ks) : XA l g M Q pc lv (.int y :: .int x :: st) w kc ks := x_icmp_ge hd ht (fun z => absurd z hc) (fun _ => kf)
theorem x_icmp_gt_t {x y : Int32} {off : Int} {tgt : Nat} (hd : decode M.2.1 pc = .ok (.if_icmp .gt off, 3)) (ht : (pc : Int) + off = (tgt : Int)) (hc : y < x) (kt : XA l g M Q tgt lv st w kc ks) : XA l g M Q pc lv (.int y :: .int x :: st) w kc ks := x_icmp_gt hd ht (fun _ => kt) (fun z => absurd hc (z))
theorem x_icmp_gt_f {x y : Int32} {off : Int} (hd : decode M.2.1 pc = .ok (.if_icmp .gt off, 3)) {tgt : Nat} (ht : (pc : Int) + off = (tgt : Int)) (hc : ¬ y < x) (kf : XA l g M Q (pc + 3) lv st w kc ks) : XA l g M Q pc lv (.int y :: .int x :: st) w kc ks := x_icmp_gt hd ht (fun z => absurd z hc) (fun _ => kf)
theorem x_icmp_le_t {x y : Int32} {off : Int} {tgt : Nat} (hd : decode M.2.1 pc = .ok (.if_icmp .le off, 3)) (ht : (pc : Int) + off = (tgt : Int)) (hc : x ≤ y) (kt : XA l g M Q tgt lv st w kc ks) : XA l g M Q pc lv (.int y :: .int x :: st) w kc ks := x_icmp_le hd ht (fun _ => kt) (fun z => absurd hc (z))
theorem x_icmp_le_f {x y : Int32} {off : Int} (hd : decode M.2.1 pc = .ok (.if_icmp .le off, 3)) {tgt : Nat} (ht : (pc : Int) + off = (tgt : Int)) (hc : ¬ x ≤ y) (kf : XA l g M Q (pc + 3) lv st w kc ks) : XA l g M Q pc lv (.int y :: .int x :: st) w kc ks := x_icmp_le hd ht (fun z => absurd z hc) (fun _ => kf)
end XPIC
