theorem x_forI {l : Launch} {g : XG} {M : XM} {Q : Option Value → XW → Prop} {pc kc ks : Nat} (N : Nat) (I : Nat → List (Option Value) → List Value → XW → Prop) (hs : ∀ i lv st w, i < N → I i lv st w → (∀ lv' st' w', I (i + 1) lv' st' w' → XA l g M Q pc lv' st' w' kc ks) → XA l g M Q pc lv st w kc ks) (he : ∀ lv st w, I N lv st w → XA l g M Q pc lv st w kc ks) : ∀ lv st w, I 0 lv st w → XA l g M Q pc lv st w kc ks := by
  have key : ∀ n i, i ≤ N → N - i = n → ∀ lv st w, I i lv st w → XA l g M Q pc lv st w kc ks := by
    intro n
    induction n with
    | zero =>
      intro i h1 h2 lv st w hp
      have : i = N := by omega
      subst this
      exact he lv st w hp
    | succ n ih =>
      intro i h1 h2 lv st w hp
      exact hs i lv st w (by omega) hp (fun lv' st' w' hp' => ih (i + 1) (by omega) (by omega) lv' st' w' hp')
  exact fun lv st w h => key N 0 (Nat.zero_le _) rfl lv st w h
/-- errors are numbers of the field -/
def erOk (S : MS) : Prop := ∀ x, x < 80 → ∃ v, v < 257 ∧ S 10 x = nI v
theorem erI_ok {S : MS} (h : erOk S) (f i : Int32) : ∃ v, v < 257 ∧ erI S f i = nI v := by
  rw [erI]
  cases hb : irB f i with
  | false => exact ⟨0, by decide, rfl⟩
  | true =>
    have h1 := vin_iff.mp (irB_1 hb)
    have h2 := vin_iff.mp (irB_2 hb)
    exact h _ (by omega)
theorem chE_ok {S : MS} (h : erOk S) (a p : Int32) (E0 : Nat → Int32) : ∀ i j, j < (chE S a p E0 i).2 → ∃ v, v < 257 ∧ (chE S a p E0 i).1 j = nI v
  | 0, j, hj => absurd hj (Nat.not_lt_zero _)
  | i + 1, j, hj => by
    rw [chE] at hj ⊢
    split at hj
    · rename_i hc
      rw [if_pos hc]
      simp only [upd]
      by_cases he : j = (chE S a p E0 i).2
      · rw [if_pos he]; exact erI_ok h _ _
      · rw [if_neg he]; exact chE_ok h a p E0 i j (by simp only at hj; omega)
    · rename_i hc
      rw [if_neg hc]
      exact chE_ok h a p E0 i j hj
def chN (S : MS) (a p : Int32) : Nat := (chE S a p (fun _ => 0) 8).2
theorem chN_eq (S : MS) (a p : Int32) (E E' : Nat → Int32) : ∀ i, (chE S a p E i).2 = (chE S a p E' i).2 ∧ ∀ j, j < (chE S a p E i).2 → (chE S a p E i).1 j = (chE S a p E' i).1 j
  | 0 => ⟨rfl, fun j hj => absurd hj (Nat.not_lt_zero _)⟩
  | i + 1 => by
    obtain ⟨h1, h2⟩ := chN_eq S a p E E' i
    rw [chE, chE]
    split
    · refine ⟨by simp [h1], fun j hj => ?_⟩
      simp only [upd, h1] at hj ⊢
      by_cases he : j = (chE S a p E' i).2
      · simp [he]
      · simp only [he, if_false]; exact h2 j (by rw [h1]; omega)
    · exact ⟨h1, h2⟩
theorem hrN_congr {ev ev' : Nat → Nat} {s n : Nat} (h : ∀ j, j < n → ev j = ev' j) : ∀ k, k ≤ n → hrN ev s n k = hrN ev' s n k
  | 0, _ => rfl
  | k + 1, hk => by rw [hrN, hrN, hrN_congr h k (by omega), h _ (by omega)]
/-- whether the audit with a seed is passed -/
def psB (S : MS) (a p : Int32) (s : Nat) : Bool := decide (hrN (fun j => cl ((chE S a p (fun _ => 0) 8).1 j)) s (chN S a p) (chN S a p) = 0)
theorem psB_of (S : MS) (a p : Int32) (E : Nat → Int32) (s : Nat) : decide (hrN (fun j => cl ((chE S a p E 8).1 j)) s (chE S a p E 8).2 (chE S a p E 8).2 = 0) = psB S a p s := by
  obtain ⟨h1, h2⟩ := chN_eq S a p E (fun _ => 0) 8
  rw [psB, chN, ← h1]
  rw [hrN_congr (ev' := fun j => cl ((chE S a p (fun _ => 0) 8).1 j)) (fun j hj => by simp only [h2 j hj]) _ (Nat.le_refl _)]
theorem chE_cl {S : MS} (h : erOk S) (a p : Int32) (E : Nat → Int32) : (∀ j, j < (chE S a p E 8).2 → (chE S a p E 8).1 j = nI (cl ((chE S a p E 8).1 j))) ∧ ∀ j, j < (chE S a p E 8).2 → cl ((chE S a p E 8).1 j) < 257 := by
  constructor <;> intro j hj <;> obtain ⟨v, hv, he⟩ := chE_ok h a p E 8 j hj <;> rw [he, cl_nI (by omega)]
  exact hv
def okAud (S : MS) (a p s : Int32) : Bool := twoB S a p && decide (¬ s < 0) && decide (s < 257)
def okAud2 (S : MS) (a p : Int32) : Bool := onB S a && onB S p
def sAud (S : MS) (a p s : Int32) : MS := cond (psB S a p (cl s)) (cond (decide (¬ nI (chN S a p) ≤ 0)) (sRaise S p) S) (sHalve S p)
def vAud (S : MS) (a p s : Int32) : Int32 := if okAud S a p s then (if okAud2 S a p then b2i (psB S a p (cl s)) else -10002) else -10001
def vPS (S : MS) (a p : Int32) : Int32 := if twoB S a p then nI (cntB (fun s => psB S a p s) 257) else -10001

theorem s_nI {s : Int32} (h0 : ¬ s < 0) (h1 : s < 257) : cl s < 257 ∧ s = nI (cl s) := by
  refine ⟨?_, nI_cl h0⟩
  have := Int32.lt_iff_toInt_lt.mp h1
  rw [toInt_cl h0] at this
  have e : (257 : Int32).toInt = 257 := by decide
  omega
theorem b2i_psB (S : MS) (a p : Int32) (E : Nat → Int32) (s : Nat) : b2i (decide (hrN (fun j => cl ((chE S a p E 8).1 j)) s (chE S a p E 8).2 (chE S a p E 8).2 = 0)) = b2i (psB S a p s) := by rw [psB_of]
theorem chN_of (S : MS) (a p : Int32) (E : Nat → Int32) : (chE S a p E 8).2 = chN S a p := (chN_eq S a p E (fun _ => 0) 8).1

set_option maxRecDepth 100000 in
set_option maxHeartbeats 4000000 in
theorem kX6_audit (l : Launch) (g : XG) (S : MS) (G : Nat → MS) (r n : Nat) (E : Nat → Int32) (en : Int32) (C : Nat → Int32) (cs : Int32) (P T : MS) (a p s : Int32) (hr : r < 5) (hn : n ≤ 5) (her : erOk S) : Ct l g MX6_audit [.ref 0, .int a, .int p, .int s] (wN S (tX G r n E en C cs P T)) (Qi (fun v w1 => v = vAud S a p s ∧ w1 = cond (okAud S a p s && okAud2 S a p) (wN (sAud S a p s) (tX (recG G r n S) (recR r n) (recN n) (chE S a p E 8).1 (nI (chE S a p E 8).2) C cs P T)) (wN S (tX G r n E en C cs P T)))) := by
  refine Ct_of (by decide) (by simp [Value.category]) (Nat.le_of_ble_eq_true rfl) ?_
  refine x_aload_n dX6_audit_0 rfl ?_
  refine x_getf dX6_audit_1 flX6_12 rfl rfl ?_
  refine x_getf dX6_audit_4 flX6_43 rfl rfl ?_
  refine x_iload_n dX6_audit_7 rfl ?_
  refine x_iload_n dX6_audit_8 rfl ?_
  refine x_callp [2, 3, 4, 5, 6, 7] (x_iV dX6_audit_9 mlX6_79 lbX4_areTwo rfl rfl rfl rfl) (kX4_areTwo l g _ _ _) (by decide) rfl rfl (by decide) (by decide) (by simp [Value.category]) rfl rfl (by decide +kernel) ?_
  refine x_if_eq (tgt := 26) dX6_audit_12 (by decide) (fun c_12 => ?_) (fun c_12 => ?_)
  · refine x_sipush (v := -10001) dX6_audit_26 (by decide) ?_
    exact x_reti dX6_audit_29 rfl rfl rfl (⟨_, rfl, by (try simp only [b2i_eq0, b2i_ne0] at *); first | contradiction | (rw [show (okAud S a p s && okAud2 S a p) = false by simp [okAud, okAud2, *], cond_false] <;> exact ⟨by simp [vAud, okAud, okAud2, *], rfl⟩) | (rw [show (okAud S a p s && okAud2 S a p) = true by simp [okAud, okAud2, *], cond_true] <;> exact ⟨by simp [vAud, okAud, okAud2, b2i, *], by simp [sAud, *]⟩)⟩)
  · refine x_iload_n dX6_audit_15 rfl ?_
    refine x_if_lt (tgt := 26) dX6_audit_16 (by decide) (fun c_16 => ?_) (fun c_16 => ?_)
    · refine x_sipush (v := -10001) dX6_audit_26 (by decide) ?_
      exact x_reti dX6_audit_29 rfl rfl rfl (⟨_, rfl, by (try simp only [b2i_eq0, b2i_ne0] at *); first | contradiction | (rw [show (okAud S a p s && okAud2 S a p) = false by simp [okAud, okAud2, *], cond_false] <;> exact ⟨by simp [vAud, okAud, okAud2, *], rfl⟩) | (rw [show (okAud S a p s && okAud2 S a p) = true by simp [okAud, okAud2, *], cond_true] <;> exact ⟨by simp [vAud, okAud, okAud2, b2i, *], by simp [sAud, *]⟩)⟩)
    · refine x_iload_n dX6_audit_19 rfl ?_
      refine x_sipush (v := 257) dX6_audit_20 (by decide) ?_
      refine x_icmp_lt (tgt := 30) dX6_audit_23 (by decide) (fun c_23 => ?_) (fun c_23 => ?_)
      · refine x_aload_n dX6_audit_30 rfl ?_
        refine x_getf dX6_audit_31 flX6_12 rfl rfl ?_
        refine x_getf dX6_audit_34 flX6_43 rfl rfl ?_
        refine x_iload_n dX6_audit_37 rfl ?_
        refine x_callp [2, 3, 4, 5, 6, 7] (x_iV dX6_audit_38 mlX6_119 lbX4_isOnline rfl rfl rfl rfl) (kX4_isOnline l g _ _) (by decide) rfl rfl (by decide) (by decide) (by simp [Value.category]) rfl rfl (by decide +kernel) ?_
        refine x_if_eq (tgt := 58) dX6_audit_41 (by decide) (fun c_41 => ?_) (fun c_41 => ?_)
        · refine x_sipush (v := -10002) dX6_audit_58 (by decide) ?_
          exact x_reti dX6_audit_61 rfl rfl rfl (⟨_, rfl, by (try simp only [b2i_eq0, b2i_ne0] at *); first | contradiction | (rw [show (okAud S a p s && okAud2 S a p) = false by simp [okAud, okAud2, *], cond_false] <;> exact ⟨by simp [vAud, okAud, okAud2, *], rfl⟩) | (rw [show (okAud S a p s && okAud2 S a p) = true by simp [okAud, okAud2, *], cond_true] <;> exact ⟨by simp [vAud, okAud, okAud2, b2i, *], by simp [sAud, *]⟩)⟩)
        · refine x_aload_n dX6_audit_44 rfl ?_
          refine x_getf dX6_audit_45 flX6_12 rfl rfl ?_
          refine x_getf dX6_audit_48 flX6_43 rfl rfl ?_
          refine x_iload_n dX6_audit_51 rfl ?_
          refine x_callp [2, 3, 4, 5, 6, 7] (x_iV dX6_audit_52 mlX6_119 lbX4_isOnline rfl rfl rfl rfl) (kX4_isOnline l g _ _) (by decide) rfl rfl (by decide) (by decide) (by simp [Value.category]) rfl rfl (by decide +kernel) ?_
          refine x_if_ne (tgt := 62) dX6_audit_55 (by decide) (fun c_55 => ?_) (fun c_55 => ?_)
          · refine x_aload_n dX6_audit_62 rfl ?_
            refine x_getf dX6_audit_63 flX6_19 rfl rfl ?_
            refine x_aload_n dX6_audit_66 rfl ?_
            refine x_getf dX6_audit_67 flX6_12 rfl rfl ?_
            refine x_rec r n dX6_audit_70 rfl (by decide) (by decide) (by decide) (by simp [Value.category]) hr hn ?_
            refine x_aload_n dX6_audit_73 rfl ?_
            refine x_getf dX6_audit_74 flX6_26 rfl rfl ?_
            refine x_aload_n dX6_audit_77 rfl ?_
            refine x_getf dX6_audit_78 flX6_12 rfl rfl ?_
            refine x_getf dX6_audit_81 flX6_100 rfl rfl ?_
            refine x_iload_n dX6_audit_84 rfl ?_
            refine x_iload_n dX6_audit_85 rfl ?_
            refine x_callv [93, 94, 8, 9, 10, 11, 12, 13, 14] (x_iV dX6_audit_86 mlX6_189 lbX0_lookAt rfl rfl rfl rfl) (kX0_lookAt l g S a p en E) (by decide) (by decide) (by decide) (by simp [Value.category]) rfl rfl (by decide +kernel) (fun w1 h1 => ?_)
            obtain rfl := h1
            refine x_eq (w' := wN S (tX (recG G r n S) (recR r n) (recN n) (chE S a p E 8).1 (nI (chE S a p E 8).2) C cs P T)) ?_ rfl rfl (xset_eq (ir := [0, 1, 2, 3, 4, 5, 6, 7, 15, 16, 17, 18, 19, 20, 21, 22, 23, 24, 25, 26, 27, 28, 29, 30, 31, 32, 33, 34, 35, 36, 37, 38, 39, 40, 41, 42, 43, 44, 45, 46, 47, 48, 49, 50, 51, 52, 53, 54, 55, 56, 57, 58, 59, 60, 61, 62, 63, 64, 65, 66, 67, 68, 69, 70, 71, 72, 73, 74, 75, 76, 77, 78, 79, 80, 81, 82, 83, 84, 85, 86, 87, 88, 89, 90, 91, 92, 95, 96, 97, 98, 99, 100, 101, 102, 103, 104, 105, 106, 107, 108, 109, 110, 111, 112, 113, 114, 115, 116, 117, 118, 119, 120, 121, 122, 123, 124, 125, 126]) (cs := [.inr (.inr (6, [.ref 1, .ref 16, .ref 93, .ref 95, .ref 97, .ref 112])), .inr (.inr (5, [.ref 2, .ref 8, .ref 15, .int (S 12 0)])), .inr (.inr (4, [.ref 3, .ref 4, .ref 5, .ref 6, .ref 7])), .inl (row 12 (S 0)), .inl (row 12 (S 1)), .inl (row 12 (S 2)), .inl (row 12 (S 3)), .inl (row 144 (S 4)), .inl (row 6 (S 11)), .inr (.inr (3, [.ref 17, .int (nI (recN n))])), .inr (.inl [some (18 + 15 * ((0 + (recR r n)) % 5)), some (18 + 15 * ((1 + (recR r n)) % 5)), some (18 + 15 * ((2 + (recR r n)) % 5)), some (18 + 15 * ((3 + (recR r n)) % 5)), some (18 + 15 * ((4 + (recR r n)) % 5))]), .inr (.inr (5, [.ref 19, .ref 25, .ref 32, .int (((recG G r n S) 0) 12 0)])), .inr (.inr (4, [.ref 20, .ref 21, .ref 22, .ref 23, .ref 24])), .inl (row 12 (((recG G r n S) 0) 0)), .inl (row 12 (((recG G r n S) 0) 1)), .inl (row 12 (((recG G r n S) 0) 2)), .inl (row 12 (((recG G r n S) 0) 3)), .inl (row 144 (((recG G r n S) 0) 4)), .inr (.inr (2, [.ref 26, .ref 27, .ref 28, .ref 29, .ref 30, .ref 31])), .inl (row 8 (((recG G r n S) 0) 5)), .inl (row 8 (((recG G r n S) 0) 6)), .inl (row 8 (((recG G r n S) 0) 7)), .inl (row 80 (((recG G r n S) 0) 8)), .inl (row 80 (((recG G r n S) 0) 9)), .inl (row 80 (((recG G r n S) 0) 10)), .inl (row 6 (((recG G r n S) 0) 11)), .inr (.inr (5, [.ref 34, .ref 40, .ref 47, .int (((recG G r n S) 1) 12 0)])), .inr (.inr (4, [.ref 35, .ref 36, .ref 37, .ref 38, .ref 39])), .inl (row 12 (((recG G r n S) 1) 0)), .inl (row 12 (((recG G r n S) 1) 1)), .inl (row 12 (((recG G r n S) 1) 2)), .inl (row 12 (((recG G r n S) 1) 3)), .inl (row 144 (((recG G r n S) 1) 4)), .inr (.inr (2, [.ref 41, .ref 42, .ref 43, .ref 44, .ref 45, .ref 46])), .inl (row 8 (((recG G r n S) 1) 5)), .inl (row 8 (((recG G r n S) 1) 6)), .inl (row 8 (((recG G r n S) 1) 7)), .inl (row 80 (((recG G r n S) 1) 8)), .inl (row 80 (((recG G r n S) 1) 9)), .inl (row 80 (((recG G r n S) 1) 10)), .inl (row 6 (((recG G r n S) 1) 11)), .inr (.inr (5, [.ref 49, .ref 55, .ref 62, .int (((recG G r n S) 2) 12 0)])), .inr (.inr (4, [.ref 50, .ref 51, .ref 52, .ref 53, .ref 54])), .inl (row 12 (((recG G r n S) 2) 0)), .inl (row 12 (((recG G r n S) 2) 1)), .inl (row 12 (((recG G r n S) 2) 2)), .inl (row 12 (((recG G r n S) 2) 3)), .inl (row 144 (((recG G r n S) 2) 4)), .inr (.inr (2, [.ref 56, .ref 57, .ref 58, .ref 59, .ref 60, .ref 61])), .inl (row 8 (((recG G r n S) 2) 5)), .inl (row 8 (((recG G r n S) 2) 6)), .inl (row 8 (((recG G r n S) 2) 7)), .inl (row 80 (((recG G r n S) 2) 8)), .inl (row 80 (((recG G r n S) 2) 9)), .inl (row 80 (((recG G r n S) 2) 10)), .inl (row 6 (((recG G r n S) 2) 11)), .inr (.inr (5, [.ref 64, .ref 70, .ref 77, .int (((recG G r n S) 3) 12 0)])), .inr (.inr (4, [.ref 65, .ref 66, .ref 67, .ref 68, .ref 69])), .inl (row 12 (((recG G r n S) 3) 0)), .inl (row 12 (((recG G r n S) 3) 1)), .inl (row 12 (((recG G r n S) 3) 2)), .inl (row 12 (((recG G r n S) 3) 3)), .inl (row 144 (((recG G r n S) 3) 4)), .inr (.inr (2, [.ref 71, .ref 72, .ref 73, .ref 74, .ref 75, .ref 76])), .inl (row 8 (((recG G r n S) 3) 5)), .inl (row 8 (((recG G r n S) 3) 6)), .inl (row 8 (((recG G r n S) 3) 7)), .inl (row 80 (((recG G r n S) 3) 8)), .inl (row 80 (((recG G r n S) 3) 9)), .inl (row 80 (((recG G r n S) 3) 10)), .inl (row 6 (((recG G r n S) 3) 11)), .inr (.inr (5, [.ref 79, .ref 85, .ref 92, .int (((recG G r n S) 4) 12 0)])), .inr (.inr (4, [.ref 80, .ref 81, .ref 82, .ref 83, .ref 84])), .inl (row 12 (((recG G r n S) 4) 0)), .inl (row 12 (((recG G r n S) 4) 1)), .inl (row 12 (((recG G r n S) 4) 2)), .inl (row 12 (((recG G r n S) 4) 3)), .inl (row 144 (((recG G r n S) 4) 4)), .inr (.inr (2, [.ref 86, .ref 87, .ref 88, .ref 89, .ref 90, .ref 91])), .inl (row 8 (((recG G r n S) 4) 5)), .inl (row 8 (((recG G r n S) 4) 6)), .inl (row 8 (((recG G r n S) 4) 7)), .inl (row 80 (((recG G r n S) 4) 8)), .inl (row 80 (((recG G r n S) 4) 9)), .inl (row 80 (((recG G r n S) 4) 10)), .inl (row 6 (((recG G r n S) 4) 11)), .inr (.inr (1, [.ref 96, .int cs])), .inl (row 42 C), .inr (.inr (5, [.ref 98, .ref 104, .ref 111, .int (P 12 0)])), .inr (.inr (4, [.ref 99, .ref 100, .ref 101, .ref 102, .ref 103])), .inl (row 12 (P 0)), .inl (row 12 (P 1)), .inl (row 12 (P 2)), .inl (row 12 (P 3)), .inl (row 144 (P 4)), .inr (.inr (2, [.ref 105, .ref 106, .ref 107, .ref 108, .ref 109, .ref 110])), .inl (row 8 (P 5)), .inl (row 8 (P 6)), .inl (row 8 (P 7)), .inl (row 80 (P 8)), .inl (row 80 (P 9)), .inl (row 80 (P 10)), .inl (row 6 (P 11)), .inr (.inr (5, [.ref 113, .ref 119, .ref 126, .int (T 12 0)])), .inr (.inr (4, [.ref 114, .ref 115, .ref 116, .ref 117, .ref 118])), .inl (row 12 (T 0)), .inl (row 12 (T 1)), .inl (row 12 (T 2)), .inl (row 12 (T 3)), .inl (row 144 (T 4)), .inr (.inr (2, [.ref 120, .ref 121, .ref 122, .ref 123, .ref 124, .ref 125])), .inl (row 8 (T 5)), .inl (row 8 (T 6)), .inl (row 8 (T 7)), .inl (row 80 (T 8)), .inl (row 80 (T 9)), .inl (row 80 (T 10)), .inl (row 6 (T 11))]) 127 rfl rfl rfl (by decide +kernel) rfl rfl (by decide +kernel) (by decide +kernel))
            refine x_aload_n dX6_audit_89 rfl ?_
            refine x_getf dX6_audit_90 flX6_26 rfl rfl ?_
            refine x_iload_n dX6_audit_93 rfl ?_
            refine x_eq (st' := [.int (nI (cl s)), .ref 93]) ?_ rfl (by rw [← (s_nI c_16 c_23).2]) rfl
            refine x_callp [93, 94] (x_iV dX6_audit_94 mlX6_193 lbX0_isPassedWith rfl rfl rfl rfl) (kX0_isPassedWith l g (chE S a p E 8).2 (cl s) (chE S a p E 8).1 (fun j => cl ((chE S a p E 8).1 j)) (s_nI c_16 c_23).1 (by have := chE_le S a p E 8; omega) (chE_cl her a p E).1 (chE_cl her a p E).2) (by decide) rfl rfl (by decide) (by decide) (by simp [Value.category]) rfl rfl (by decide +kernel) ?_
            rw [b2i_psB]
            refine x_istore dX6_audit_97 (by decide) ?_
            refine x_iload dX6_audit_99 rfl ?_
            refine x_if_ne (tgt := 118) dX6_audit_101 (by decide) (fun c_101 => ?_) (fun c_101 => ?_)
            · refine x_aload_n dX6_audit_118 rfl ?_
              refine x_getf dX6_audit_119 flX6_26 rfl rfl ?_
              refine x_getf dX6_audit_122 flX6_199 rfl rfl ?_
              rw [chN_of]
              refine x_if_le (tgt := 139) dX6_audit_125 (by decide) (fun c_125 => ?_) (fun c_125 => ?_)
              · refine x_iload dX6_audit_139 rfl ?_
                refine x_if_eq (tgt := 148) dX6_audit_141 (by decide) (fun c_141 => ?_) (fun c_141 => ?_)
                · refine x_iconst (v := 0) dX6_audit_148 (by decide) ?_
                  exact x_reti dX6_audit_149 rfl rfl rfl (⟨_, rfl, by (try simp only [b2i_eq0, b2i_ne0] at *); first | contradiction | (rw [show (okAud S a p s && okAud2 S a p) = false by simp [okAud, okAud2, *], cond_false] <;> exact ⟨by simp [vAud, okAud, okAud2, *], rfl⟩) | (rw [show (okAud S a p s && okAud2 S a p) = true by simp [okAud, okAud2, *], cond_true] <;> exact ⟨by simp [vAud, okAud, okAud2, b2i, *], by simp [sAud, *]⟩)⟩)
                · refine x_iconst (v := 1) dX6_audit_144 (by decide) ?_
                  refine x_goto (tgt := 149) dX6_audit_145 (by decide) ?_
                  exact x_reti dX6_audit_149 rfl rfl rfl (⟨_, rfl, by (try simp only [b2i_eq0, b2i_ne0] at *); first | contradiction | (rw [show (okAud S a p s && okAud2 S a p) = false by simp [okAud, okAud2, *], cond_false] <;> exact ⟨by simp [vAud, okAud, okAud2, *], rfl⟩) | (rw [show (okAud S a p s && okAud2 S a p) = true by simp [okAud, okAud2, *], cond_true] <;> exact ⟨by simp [vAud, okAud, okAud2, b2i, *], by simp [sAud, *]⟩)⟩)
              · refine x_aload_n dX6_audit_128 rfl ?_
                refine x_getf dX6_audit_129 flX6_12 rfl rfl ?_
                refine x_getf dX6_audit_132 flX6_43 rfl rfl ?_
                refine x_iload_n dX6_audit_135 rfl ?_
                refine x_callv [2, 3, 4, 5, 6, 7] (x_iV dX6_audit_136 mlX6_201 lbX4_raiseTrust rfl rfl rfl rfl) (kX4_raiseTrust l g S _) (by decide) (by decide) (by decide) (by simp [Value.category]) rfl rfl (by decide +kernel) (fun w1 h1 => ?_)
                obtain rfl := h1
                refine x_eq ?_ rfl rfl (wN_P (agP_raise _ _))
                refine x_iload dX6_audit_139 rfl ?_
                refine x_if_eq (tgt := 148) dX6_audit_141 (by decide) (fun c_141 => ?_) (fun c_141 => ?_)
                · refine x_iconst (v := 0) dX6_audit_148 (by decide) ?_
                  exact x_reti dX6_audit_149 rfl rfl rfl (⟨_, rfl, by (try simp only [b2i_eq0, b2i_ne0] at *); first | contradiction | (rw [show (okAud S a p s && okAud2 S a p) = false by simp [okAud, okAud2, *], cond_false] <;> exact ⟨by simp [vAud, okAud, okAud2, *], rfl⟩) | (rw [show (okAud S a p s && okAud2 S a p) = true by simp [okAud, okAud2, *], cond_true] <;> exact ⟨by simp [vAud, okAud, okAud2, b2i, *], by simp [sAud, *]⟩)⟩)
                · refine x_iconst (v := 1) dX6_audit_144 (by decide) ?_
                  refine x_goto (tgt := 149) dX6_audit_145 (by decide) ?_
                  exact x_reti dX6_audit_149 rfl rfl rfl (⟨_, rfl, by (try simp only [b2i_eq0, b2i_ne0] at *); first | contradiction | (rw [show (okAud S a p s && okAud2 S a p) = false by simp [okAud, okAud2, *], cond_false] <;> exact ⟨by simp [vAud, okAud, okAud2, *], rfl⟩) | (rw [show (okAud S a p s && okAud2 S a p) = true by simp [okAud, okAud2, *], cond_true] <;> exact ⟨by simp [vAud, okAud, okAud2, b2i, *], by simp [sAud, *]⟩)⟩)
            · refine x_aload_n dX6_audit_104 rfl ?_
              refine x_getf dX6_audit_105 flX6_12 rfl rfl ?_
              refine x_getf dX6_audit_108 flX6_43 rfl rfl ?_
              refine x_iload_n dX6_audit_111 rfl ?_
              refine x_callv [2, 3, 4, 5, 6, 7] (x_iV dX6_audit_112 mlX6_196 lbX4_halveTrust rfl rfl rfl rfl) (kX4_halveTrust l g S _) (by decide) (by decide) (by decide) (by simp [Value.category]) rfl rfl (by decide +kernel) (fun w1 h1 => ?_)
              obtain rfl := h1
              refine x_eq ?_ rfl rfl (wN_P (agP_halve _ _))
              refine x_goto (tgt := 139) dX6_audit_115 (by decide) ?_
              refine x_iload dX6_audit_139 rfl ?_
              refine x_if_eq (tgt := 148) dX6_audit_141 (by decide) (fun c_141 => ?_) (fun c_141 => ?_)
              · refine x_iconst (v := 0) dX6_audit_148 (by decide) ?_
                exact x_reti dX6_audit_149 rfl rfl rfl (⟨_, rfl, by (try simp only [b2i_eq0, b2i_ne0] at *); first | contradiction | (rw [show (okAud S a p s && okAud2 S a p) = false by simp [okAud, okAud2, *], cond_false] <;> exact ⟨by simp [vAud, okAud, okAud2, *], rfl⟩) | (rw [show (okAud S a p s && okAud2 S a p) = true by simp [okAud, okAud2, *], cond_true] <;> exact ⟨by simp [vAud, okAud, okAud2, b2i, *], by simp [sAud, *]⟩)⟩)
              · refine x_iconst (v := 1) dX6_audit_144 (by decide) ?_
                refine x_goto (tgt := 149) dX6_audit_145 (by decide) ?_
                exact x_reti dX6_audit_149 rfl rfl rfl (⟨_, rfl, by (try simp only [b2i_eq0, b2i_ne0] at *); first | contradiction | (rw [show (okAud S a p s && okAud2 S a p) = false by simp [okAud, okAud2, *], cond_false] <;> exact ⟨by simp [vAud, okAud, okAud2, *], rfl⟩) | (rw [show (okAud S a p s && okAud2 S a p) = true by simp [okAud, okAud2, *], cond_true] <;> exact ⟨by simp [vAud, okAud, okAud2, b2i, *], by simp [sAud, *]⟩)⟩)
          · refine x_sipush (v := -10002) dX6_audit_58 (by decide) ?_
            exact x_reti dX6_audit_61 rfl rfl rfl (⟨_, rfl, by (try simp only [b2i_eq0, b2i_ne0] at *); first | contradiction | (rw [show (okAud S a p s && okAud2 S a p) = false by simp [okAud, okAud2, *], cond_false] <;> exact ⟨by simp [vAud, okAud, okAud2, *], rfl⟩) | (rw [show (okAud S a p s && okAud2 S a p) = true by simp [okAud, okAud2, *], cond_true] <;> exact ⟨by simp [vAud, okAud, okAud2, b2i, *], by simp [sAud, *]⟩)⟩)
      · refine x_sipush (v := -10001) dX6_audit_26 (by decide) ?_
        exact x_reti dX6_audit_29 rfl rfl rfl (⟨_, rfl, by (try simp only [b2i_eq0, b2i_ne0] at *); first | contradiction | (rw [show (okAud S a p s && okAud2 S a p) = false by simp [okAud, okAud2, *], cond_false] <;> exact ⟨by simp [vAud, okAud, okAud2, *], rfl⟩) | (rw [show (okAud S a p s && okAud2 S a p) = true by simp [okAud, okAud2, *], cond_true] <;> exact ⟨by simp [vAud, okAud, okAud2, b2i, *], by simp [sAud, *]⟩)⟩)

set_option maxRecDepth 100000 in
set_option maxHeartbeats 4000000 in
theorem lpX6_passingSeeds (l : Launch) (g : XG) (S : MS) (G : Nat → MS) (r n : Nat) (E : Nat → Int32) (en : Int32) (C : Nat → Int32) (cs : Int32) (P T : MS) (a p : Int32) (her : erOk S) (hx : twoB S a p = true) : XA l g MX6_passingSeeds (Qi (fun v w1 => v = vPS S a p ∧ w1 = cond (twoB S a p) (wN S (tX G r n (chE S a p E 8).1 (nI (chE S a p E 8).2) C cs P T)) (wN S (tX G r n E en C cs P T)))) 40 ((fun i => [some (.ref 0), some (.int a), some (.int p), some (.int (nI (cntB (fun s => psB S a p s) i))), some (.int (nI i))]) 0) ((fun _ => []) 0) ((fun _ => wN S (tX G r n (chE S a p E 8).1 (nI (chE S a p E 8).2) C cs P T)) 0) 0 0 := by
  refine x_for 257 (fun _ => True) (fun i => [some (.ref 0), some (.int a), some (.int p), some (.int (nI (cntB (fun s => psB S a p s) i))), some (.int (nI i))]) (fun _ => []) (fun _ => wN S (tX G r n (chE S a p E 8).1 (nI (chE S a p E 8).2) C cs P T)) trivial (fun i hi hp ih => ?_) (fun hp => ?_)
  · refine x_iload dX6_passingSeeds_40 rfl ?_
    refine x_sipush (v := 257) dX6_passingSeeds_42 (by decide) ?_
    refine x_icmp_ge_f (tgt := 69) dX6_passingSeeds_45 (by decide) (nI_nle_of rfl (by decide) hi) ?_
    refine x_aload_n dX6_passingSeeds_48 rfl ?_
    refine x_getf dX6_passingSeeds_49 flX6_26 rfl rfl ?_
    refine x_iload dX6_passingSeeds_52 rfl ?_
    refine x_callp [93, 94] (x_iV dX6_passingSeeds_54 mlX6_193 lbX0_isPassedWith rfl rfl rfl rfl) (kX0_isPassedWith l g (chE S a p E 8).2 i (chE S a p E 8).1 (fun j => cl ((chE S a p E 8).1 j)) hi (by have := chE_le S a p E 8; omega) (chE_cl her a p E).1 (chE_cl her a p E).2) (by decide) rfl rfl (by decide) (by decide) (by simp [Value.category]) rfl rfl (by decide +kernel) ?_
    rw [b2i_psB]
    refine x_if_eq (tgt := 63) dX6_passingSeeds_57 (by decide) (fun c_57 => ?_) (fun c_57 => ?_)
    · first | refine x_iinc dX6_passingSeeds_63 (by decide) rfl (nI_inc _) ?_ | refine x_iinc dX6_passingSeeds_63 (by decide) rfl (inc_1 _) ?_
      refine x_goto (tgt := 40) dX6_passingSeeds_66 (by decide) ?_
      (try simp only [b2i_eq0, b2i_ne0] at *)
      exact x_eq (ih trivial) (by simp [cntB, *]) rfl rfl
    · first | refine x_iinc dX6_passingSeeds_60 (by decide) rfl (nI_inc _) ?_ | refine x_iinc dX6_passingSeeds_60 (by decide) rfl (inc_1 _) ?_
      first | refine x_iinc dX6_passingSeeds_63 (by decide) rfl (nI_inc _) ?_ | refine x_iinc dX6_passingSeeds_63 (by decide) rfl (inc_1 _) ?_
      refine x_goto (tgt := 40) dX6_passingSeeds_66 (by decide) ?_
      (try simp only [b2i_eq0, b2i_ne0] at *)
      exact x_eq (ih trivial) (by simp [cntB, *]) rfl rfl
  · refine x_iload dX6_passingSeeds_40 rfl ?_
    refine x_sipush (v := 257) dX6_passingSeeds_42 (by decide) ?_
    refine x_icmp_ge_t (tgt := 69) dX6_passingSeeds_45 (by decide) (nI_le_of rfl (by decide) (Nat.le_refl _)) ?_
    refine x_iload_n dX6_passingSeeds_69 rfl ?_
    exact x_reti dX6_passingSeeds_70 rfl rfl rfl (⟨_, rfl, by rw [vPS, if_pos hx], by rw [hx, cond_true]⟩)

set_option maxRecDepth 100000 in
set_option maxHeartbeats 4000000 in
theorem kX6_passingSeeds (l : Launch) (g : XG) (S : MS) (G : Nat → MS) (r n : Nat) (E : Nat → Int32) (en : Int32) (C : Nat → Int32) (cs : Int32) (P T : MS) (a p : Int32) (her : erOk S) : Ct l g MX6_passingSeeds [.ref 0, .int a, .int p] (wN S (tX G r n E en C cs P T)) (Qi (fun v w1 => v = vPS S a p ∧ w1 = cond (twoB S a p) (wN S (tX G r n (chE S a p E 8).1 (nI (chE S a p E 8).2) C cs P T)) (wN S (tX G r n E en C cs P T)))) := by
  refine Ct_of (by decide) (by simp [Value.category]) (Nat.le_of_ble_eq_true rfl) ?_
  refine x_aload_n dX6_passingSeeds_0 rfl ?_
  refine x_getf dX6_passingSeeds_1 flX6_12 rfl rfl ?_
  refine x_getf dX6_passingSeeds_4 flX6_43 rfl rfl ?_
  refine x_iload_n dX6_passingSeeds_7 rfl ?_
  refine x_iload_n dX6_passingSeeds_8 rfl ?_
  refine x_callp [2, 3, 4, 5, 6, 7] (x_iV dX6_passingSeeds_9 mlX6_79 lbX4_areTwo rfl rfl rfl rfl) (kX4_areTwo l g _ _ _) (by decide) rfl rfl (by decide) (by decide) (by simp [Value.category]) rfl rfl (by decide +kernel) ?_
  refine x_if_ne (tgt := 19) dX6_passingSeeds_12 (by decide) (fun c_12 => ?_) (fun c_12 => ?_)
  · refine x_aload_n dX6_passingSeeds_19 rfl ?_
    refine x_getf dX6_passingSeeds_20 flX6_26 rfl rfl ?_
    refine x_aload_n dX6_passingSeeds_23 rfl ?_
    refine x_getf dX6_passingSeeds_24 flX6_12 rfl rfl ?_
    refine x_getf dX6_passingSeeds_27 flX6_100 rfl rfl ?_
    refine x_iload_n dX6_passingSeeds_30 rfl ?_
    refine x_iload_n dX6_passingSeeds_31 rfl ?_
    refine x_callv [93, 94, 8, 9, 10, 11, 12, 13, 14] (x_iV dX6_passingSeeds_32 mlX6_189 lbX0_lookAt rfl rfl rfl rfl) (kX0_lookAt l g S a p en E) (by decide) (by decide) (by decide) (by simp [Value.category]) rfl rfl (by decide +kernel) (fun w1 h1 => ?_)
    obtain rfl := h1
    refine x_eq (w' := wN S (tX G r n (chE S a p E 8).1 (nI (chE S a p E 8).2) C cs P T)) ?_ rfl rfl (xset_eq (ir := [0, 1, 2, 3, 4, 5, 6, 7, 15, 16, 17, 18, 19, 20, 21, 22, 23, 24, 25, 26, 27, 28, 29, 30, 31, 32, 33, 34, 35, 36, 37, 38, 39, 40, 41, 42, 43, 44, 45, 46, 47, 48, 49, 50, 51, 52, 53, 54, 55, 56, 57, 58, 59, 60, 61, 62, 63, 64, 65, 66, 67, 68, 69, 70, 71, 72, 73, 74, 75, 76, 77, 78, 79, 80, 81, 82, 83, 84, 85, 86, 87, 88, 89, 90, 91, 92, 95, 96, 97, 98, 99, 100, 101, 102, 103, 104, 105, 106, 107, 108, 109, 110, 111, 112, 113, 114, 115, 116, 117, 118, 119, 120, 121, 122, 123, 124, 125, 126]) (cs := [.inr (.inr (6, [.ref 1, .ref 16, .ref 93, .ref 95, .ref 97, .ref 112])), .inr (.inr (5, [.ref 2, .ref 8, .ref 15, .int (S 12 0)])), .inr (.inr (4, [.ref 3, .ref 4, .ref 5, .ref 6, .ref 7])), .inl (row 12 (S 0)), .inl (row 12 (S 1)), .inl (row 12 (S 2)), .inl (row 12 (S 3)), .inl (row 144 (S 4)), .inl (row 6 (S 11)), .inr (.inr (3, [.ref 17, .int (nI n)])), .inr (.inl [some (18 + 15 * ((0 + r) % 5)), some (18 + 15 * ((1 + r) % 5)), some (18 + 15 * ((2 + r) % 5)), some (18 + 15 * ((3 + r) % 5)), some (18 + 15 * ((4 + r) % 5))]), .inr (.inr (5, [.ref 19, .ref 25, .ref 32, .int ((G 0) 12 0)])), .inr (.inr (4, [.ref 20, .ref 21, .ref 22, .ref 23, .ref 24])), .inl (row 12 ((G 0) 0)), .inl (row 12 ((G 0) 1)), .inl (row 12 ((G 0) 2)), .inl (row 12 ((G 0) 3)), .inl (row 144 ((G 0) 4)), .inr (.inr (2, [.ref 26, .ref 27, .ref 28, .ref 29, .ref 30, .ref 31])), .inl (row 8 ((G 0) 5)), .inl (row 8 ((G 0) 6)), .inl (row 8 ((G 0) 7)), .inl (row 80 ((G 0) 8)), .inl (row 80 ((G 0) 9)), .inl (row 80 ((G 0) 10)), .inl (row 6 ((G 0) 11)), .inr (.inr (5, [.ref 34, .ref 40, .ref 47, .int ((G 1) 12 0)])), .inr (.inr (4, [.ref 35, .ref 36, .ref 37, .ref 38, .ref 39])), .inl (row 12 ((G 1) 0)), .inl (row 12 ((G 1) 1)), .inl (row 12 ((G 1) 2)), .inl (row 12 ((G 1) 3)), .inl (row 144 ((G 1) 4)), .inr (.inr (2, [.ref 41, .ref 42, .ref 43, .ref 44, .ref 45, .ref 46])), .inl (row 8 ((G 1) 5)), .inl (row 8 ((G 1) 6)), .inl (row 8 ((G 1) 7)), .inl (row 80 ((G 1) 8)), .inl (row 80 ((G 1) 9)), .inl (row 80 ((G 1) 10)), .inl (row 6 ((G 1) 11)), .inr (.inr (5, [.ref 49, .ref 55, .ref 62, .int ((G 2) 12 0)])), .inr (.inr (4, [.ref 50, .ref 51, .ref 52, .ref 53, .ref 54])), .inl (row 12 ((G 2) 0)), .inl (row 12 ((G 2) 1)), .inl (row 12 ((G 2) 2)), .inl (row 12 ((G 2) 3)), .inl (row 144 ((G 2) 4)), .inr (.inr (2, [.ref 56, .ref 57, .ref 58, .ref 59, .ref 60, .ref 61])), .inl (row 8 ((G 2) 5)), .inl (row 8 ((G 2) 6)), .inl (row 8 ((G 2) 7)), .inl (row 80 ((G 2) 8)), .inl (row 80 ((G 2) 9)), .inl (row 80 ((G 2) 10)), .inl (row 6 ((G 2) 11)), .inr (.inr (5, [.ref 64, .ref 70, .ref 77, .int ((G 3) 12 0)])), .inr (.inr (4, [.ref 65, .ref 66, .ref 67, .ref 68, .ref 69])), .inl (row 12 ((G 3) 0)), .inl (row 12 ((G 3) 1)), .inl (row 12 ((G 3) 2)), .inl (row 12 ((G 3) 3)), .inl (row 144 ((G 3) 4)), .inr (.inr (2, [.ref 71, .ref 72, .ref 73, .ref 74, .ref 75, .ref 76])), .inl (row 8 ((G 3) 5)), .inl (row 8 ((G 3) 6)), .inl (row 8 ((G 3) 7)), .inl (row 80 ((G 3) 8)), .inl (row 80 ((G 3) 9)), .inl (row 80 ((G 3) 10)), .inl (row 6 ((G 3) 11)), .inr (.inr (5, [.ref 79, .ref 85, .ref 92, .int ((G 4) 12 0)])), .inr (.inr (4, [.ref 80, .ref 81, .ref 82, .ref 83, .ref 84])), .inl (row 12 ((G 4) 0)), .inl (row 12 ((G 4) 1)), .inl (row 12 ((G 4) 2)), .inl (row 12 ((G 4) 3)), .inl (row 144 ((G 4) 4)), .inr (.inr (2, [.ref 86, .ref 87, .ref 88, .ref 89, .ref 90, .ref 91])), .inl (row 8 ((G 4) 5)), .inl (row 8 ((G 4) 6)), .inl (row 8 ((G 4) 7)), .inl (row 80 ((G 4) 8)), .inl (row 80 ((G 4) 9)), .inl (row 80 ((G 4) 10)), .inl (row 6 ((G 4) 11)), .inr (.inr (1, [.ref 96, .int cs])), .inl (row 42 C), .inr (.inr (5, [.ref 98, .ref 104, .ref 111, .int (P 12 0)])), .inr (.inr (4, [.ref 99, .ref 100, .ref 101, .ref 102, .ref 103])), .inl (row 12 (P 0)), .inl (row 12 (P 1)), .inl (row 12 (P 2)), .inl (row 12 (P 3)), .inl (row 144 (P 4)), .inr (.inr (2, [.ref 105, .ref 106, .ref 107, .ref 108, .ref 109, .ref 110])), .inl (row 8 (P 5)), .inl (row 8 (P 6)), .inl (row 8 (P 7)), .inl (row 80 (P 8)), .inl (row 80 (P 9)), .inl (row 80 (P 10)), .inl (row 6 (P 11)), .inr (.inr (5, [.ref 113, .ref 119, .ref 126, .int (T 12 0)])), .inr (.inr (4, [.ref 114, .ref 115, .ref 116, .ref 117, .ref 118])), .inl (row 12 (T 0)), .inl (row 12 (T 1)), .inl (row 12 (T 2)), .inl (row 12 (T 3)), .inl (row 144 (T 4)), .inr (.inr (2, [.ref 120, .ref 121, .ref 122, .ref 123, .ref 124, .ref 125])), .inl (row 8 (T 5)), .inl (row 8 (T 6)), .inl (row 8 (T 7)), .inl (row 80 (T 8)), .inl (row 80 (T 9)), .inl (row 80 (T 10)), .inl (row 6 (T 11))]) 127 rfl rfl rfl (by decide +kernel) rfl rfl (by decide +kernel) (by decide +kernel))
    refine x_iconst (v := 0) dX6_passingSeeds_35 (by decide) ?_
    refine x_istore_n dX6_passingSeeds_36 (by decide) ?_
    refine x_iconst (v := 0) dX6_passingSeeds_37 (by decide) ?_
    refine x_istore dX6_passingSeeds_38 (by decide) ?_
    exact lpX6_passingSeeds l g S G r n E en C cs P T a p her (b2i_t' c_12)
  · refine x_sipush (v := -10001) dX6_passingSeeds_15 (by decide) ?_
    exact x_reti dX6_passingSeeds_18 rfl rfl rfl (⟨_, rfl, by rw [vPS, if_neg (by simp [b2i_f' c_12])], by rw [b2i_f' c_12, cond_false]⟩)
