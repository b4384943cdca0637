/-! ===== the files ===== -/
theorem nI_lt_cl {i : Nat} {x : Int32} (hi : i < 2 ^ 31) : nI i < x ↔ i < cl x := by
  rw [Int32.lt_iff_toInt_lt, nI_toInt hi]
  show (i : Int) < x.toInt ↔ i < x.toInt.toNat
  omega
theorem cl_lt (x : Int32) : cl x < 2 ^ 31 := by
  show x.toInt.toNat < 2 ^ 31
  have := Int32.toInt_lt x
  omega
theorem nge_cl {i : Nat} {x : Int32} (hi : i < cl x) : ¬ x ≤ nI i := Int32.not_le.mpr ((nI_lt_cl (by have := cl_lt x; omega)).mpr hi)
theorem ge_cl {x : Int32} : x ≤ nI (cl x) := Int32.not_lt.mp fun z => Nat.lt_irrefl _ ((nI_lt_cl (cl_lt x)).mp z)
def allB (f : Nat → Bool) : Nat → Bool
  | 0 => true
  | n + 1 => allB f n && f n
theorem allB_t {f : Nat → Bool} : ∀ {n : Nat}, allB f n = true ↔ ∀ k, k < n → f k = true
  | 0 => by simp [allB]
  | n + 1 => by
    rw [allB, Bool.and_eq_true, allB_t]
    constructor
    · rintro ⟨h1, h2⟩ k hk
      rcases Nat.lt_succ_iff_lt_or_eq.mp hk with h | h
      · exact h1 k h
      · rw [h]; exact h2
    · exact fun h => ⟨fun k hk => h k (by omega), h n (by omega)⟩
theorem allB_f {f : Nat → Bool} {n k : Nat} (hk : k < n) (h : f k = false) : allB f n = false := by
  cases ha : allB f n with
  | false => rfl
  | true => rw [allB_t.mp ha k hk] at h; cases h
def exF (S : MS) (f : Int32) : Bool := inB f 8 && decide (¬ S 5 (cl f) ≤ 0)
def daI (S : MS) (f : Int32) : Int32 := if inB f 8 then S 5 (cl f) else 0
def fnI (S : MS) (f : Int32) : Int32 := if inB f 8 then S 5 (cl f) + S 6 (cl f) else 0
def hfB (S : MS) (f i : Int32) : Bool := decide (¬ i < 0) && decide (¬ fnI S f ≤ i)
def hdB (S : MS) (f i : Int32) : Bool := decide (¬ i < 0) && decide (¬ daI S f ≤ i)
def foI (S : MS) (f : Int32) : Int32 := if inB f 8 then S 7 (cl f) else -1
def irB (f i : Int32) : Bool := inB f 8 && inB i 10
def plI (S : MS) (f i : Int32) : Int32 := if irB f i then S 9 (10 * cl f + cl i) else -1
def coI (S : MS) (f i : Int32) : Int32 := if irB f i then S 8 (10 * cl f + cl i) else 0
def erI (S : MS) (f i : Int32) : Int32 := if irB f i then S 10 (10 * cl f + cl i) else 0
def remI (x d : Int32) : Int32 := x - x / d * d
def svI (S : MS) (f i : Int32) : Int32 := remI (coI S f i + erI S f i) 257
def stB (S : MS) (f i : Int32) : Bool := decide (¬ plI S f i = -1)
def spB (S : MS) (f i : Int32) : Bool := stB S f i && decide (¬ erI S f i = 0)
theorem inB_v {p : Int32} {n : Nat} {c : Int32} (hc : c = nI n) (hn : n < 2 ^ 31) (h : inB p c = true) : vp_in p n := by
  simp only [inB, Bool.and_eq_true, decide_eq_true_eq] at h
  exact vin_of n hn hc h.1 h.2
theorem irB_1 {f i : Int32} (h : irB f i = true) : vp_in f 8 := inB_v rfl (by decide) (by simp only [irB, Bool.and_eq_true] at h; exact h.1)
theorem irB_2 {f i : Int32} (h : irB f i = true) : vp_in i 10 := inB_v rfl (by decide) (by simp only [irB, Bool.and_eq_true] at h; exact h.2)
theorem exF_in {S : MS} {f : Int32} (h : exF S f = true) : vp_in f 8 := inB_v rfl (by decide) (by simp only [exF, Bool.and_eq_true] at h; exact h.1)

set_option maxRecDepth 100000 in
set_option maxHeartbeats 4000000 in
theorem kX2_exists (l : Launch) (g : XG) (S : MS) (f : Int32) : Ct l g MX2_exists [.ref 0, .int f] (wF S) (Qp (b2i (exF S f)) (wF S)) := by
  refine Ct_of (by decide) (by simp [Value.category]) (Nat.le_of_ble_eq_true rfl) ?_
  refine x_iload_n dX2_exists_0 rfl ?_
  refine x_if_lt (tgt := 23) dX2_exists_1 (by decide) (fun c_1 => ?_) (fun c_1 => ?_)
  · refine x_iconst (v := 0) dX2_exists_23 (by decide) ?_
    exact x_retz dX2_exists_24 rfl (rfl) rfl rfl (⟨by (try simp only [b2i_eq0, b2i_ne0] at *); simp [exF, inB, b2i, *], rfl⟩)
  · refine x_iload_n dX2_exists_4 rfl ?_
    refine x_bipush (v := 8) dX2_exists_5 (by decide) ?_
    refine x_icmp_ge (tgt := 23) dX2_exists_7 (by decide) (fun c_7 => ?_) (fun c_7 => ?_)
    · refine x_iconst (v := 0) dX2_exists_23 (by decide) ?_
      exact x_retz dX2_exists_24 rfl (rfl) rfl rfl (⟨by (try simp only [b2i_eq0, b2i_ne0] at *); simp [exF, inB, b2i, *], rfl⟩)
    · refine x_aload_n dX2_exists_10 rfl ?_
      refine x_getf dX2_exists_11 flX2_9 rfl rfl ?_
      refine x_iload_n dX2_exists_14 rfl ?_
      refine x_iar dX2_exists_15 rfl (ix_of (vin_of 8 (by decide) rfl (by assumption) (by assumption))) ?_
      refine x_if_le (tgt := 23) dX2_exists_16 (by decide) (fun c_16 => ?_) (fun c_16 => ?_)
      · refine x_iconst (v := 0) dX2_exists_23 (by decide) ?_
        exact x_retz dX2_exists_24 rfl (rfl) rfl rfl (⟨by (try simp only [b2i_eq0, b2i_ne0] at *); simp [exF, inB, b2i, *], rfl⟩)
      · refine x_iconst (v := 1) dX2_exists_19 (by decide) ?_
        refine x_goto (tgt := 24) dX2_exists_20 (by decide) ?_
        exact x_retz dX2_exists_24 rfl (rfl) rfl rfl (⟨by (try simp only [b2i_eq0, b2i_ne0] at *); simp [exF, inB, b2i, *], rfl⟩)

set_option maxRecDepth 100000 in
set_option maxHeartbeats 4000000 in
theorem kX2_dataOf (l : Launch) (g : XG) (S : MS) (f : Int32) : Ct l g MX2_dataOf [.ref 0, .int f] (wF S) (Qp (daI S f) (wF S)) := by
  refine Ct_of (by decide) (by simp [Value.category]) (Nat.le_of_ble_eq_true rfl) ?_
  refine x_iload_n dX2_dataOf_0 rfl ?_
  refine x_if_lt (tgt := 19) dX2_dataOf_1 (by decide) (fun c_1 => ?_) (fun c_1 => ?_)
  · refine x_iconst (v := 0) dX2_dataOf_19 (by decide) ?_
    exact x_reti dX2_dataOf_20 rfl rfl rfl (⟨by (try simp only [b2i_eq0, b2i_ne0] at *); simp [daI, inB, b2i, *], rfl⟩)
  · refine x_iload_n dX2_dataOf_4 rfl ?_
    refine x_bipush (v := 8) dX2_dataOf_5 (by decide) ?_
    refine x_icmp_ge (tgt := 19) dX2_dataOf_7 (by decide) (fun c_7 => ?_) (fun c_7 => ?_)
    · refine x_iconst (v := 0) dX2_dataOf_19 (by decide) ?_
      exact x_reti dX2_dataOf_20 rfl rfl rfl (⟨by (try simp only [b2i_eq0, b2i_ne0] at *); simp [daI, inB, b2i, *], rfl⟩)
    · refine x_aload_n dX2_dataOf_10 rfl ?_
      refine x_getf dX2_dataOf_11 flX2_9 rfl rfl ?_
      refine x_iload_n dX2_dataOf_14 rfl ?_
      refine x_iar dX2_dataOf_15 rfl (ix_of (vin_of 8 (by decide) rfl (by assumption) (by assumption))) ?_
      refine x_goto (tgt := 20) dX2_dataOf_16 (by decide) ?_
      exact x_reti dX2_dataOf_20 rfl rfl rfl (⟨by (try simp only [b2i_eq0, b2i_ne0] at *); simp [daI, inB, b2i, *], rfl⟩)

set_option maxRecDepth 100000 in
set_option maxHeartbeats 4000000 in
theorem kX2_fragmentNumber (l : Launch) (g : XG) (S : MS) (f : Int32) : Ct l g MX2_fragmentNumber [.ref 0, .int f] (wF S) (Qp (fnI S f) (wF S)) := by
  refine Ct_of (by decide) (by simp [Value.category]) (Nat.le_of_ble_eq_true rfl) ?_
  refine x_iload_n dX2_fragmentNumber_0 rfl ?_
  refine x_if_lt (tgt := 26) dX2_fragmentNumber_1 (by decide) (fun c_1 => ?_) (fun c_1 => ?_)
  · refine x_iconst (v := 0) dX2_fragmentNumber_26 (by decide) ?_
    exact x_reti dX2_fragmentNumber_27 rfl rfl rfl (⟨by (try simp only [b2i_eq0, b2i_ne0] at *); simp [fnI, inB, b2i, *], rfl⟩)
  · refine x_iload_n dX2_fragmentNumber_4 rfl ?_
    refine x_bipush (v := 8) dX2_fragmentNumber_5 (by decide) ?_
    refine x_icmp_ge (tgt := 26) dX2_fragmentNumber_7 (by decide) (fun c_7 => ?_) (fun c_7 => ?_)
    · refine x_iconst (v := 0) dX2_fragmentNumber_26 (by decide) ?_
      exact x_reti dX2_fragmentNumber_27 rfl rfl rfl (⟨by (try simp only [b2i_eq0, b2i_ne0] at *); simp [fnI, inB, b2i, *], rfl⟩)
    · refine x_aload_n dX2_fragmentNumber_10 rfl ?_
      refine x_getf dX2_fragmentNumber_11 flX2_9 rfl rfl ?_
      refine x_iload_n dX2_fragmentNumber_14 rfl ?_
      refine x_iar dX2_fragmentNumber_15 rfl (ix_of (vin_of 8 (by decide) rfl (by assumption) (by assumption))) ?_
      refine x_aload_n dX2_fragmentNumber_16 rfl ?_
      refine x_getf dX2_fragmentNumber_17 flX2_15 rfl rfl ?_
      refine x_iload_n dX2_fragmentNumber_20 rfl ?_
      refine x_iar dX2_fragmentNumber_21 rfl (ix_of (vin_of 8 (by decide) rfl (by assumption) (by assumption))) ?_
      refine x_iadd dX2_fragmentNumber_22 ?_
      refine x_goto (tgt := 27) dX2_fragmentNumber_23 (by decide) ?_
      exact x_reti dX2_fragmentNumber_27 rfl rfl rfl (⟨by (try simp only [b2i_eq0, b2i_ne0] at *); simp [fnI, inB, b2i, *], rfl⟩)

set_option maxRecDepth 100000 in
set_option maxHeartbeats 4000000 in
theorem kX2_hasFragment (l : Launch) (g : XG) (S : MS) (f i : Int32) : Ct l g MX2_hasFragment [.ref 0, .int f, .int i] (wF S) (Qp (b2i (hfB S f i)) (wF S)) := by
  refine Ct_of (by decide) (by simp [Value.category]) (Nat.le_of_ble_eq_true rfl) ?_
  refine x_iload_n dX2_hasFragment_0 rfl ?_
  refine x_if_lt (tgt := 17) dX2_hasFragment_1 (by decide) (fun c_1 => ?_) (fun c_1 => ?_)
  · refine x_iconst (v := 0) dX2_hasFragment_17 (by decide) ?_
    exact x_retz dX2_hasFragment_18 rfl (rfl) rfl rfl (⟨by (try simp only [b2i_eq0, b2i_ne0] at *); simp [hfB, b2i, *], rfl⟩)
  · refine x_iload_n dX2_hasFragment_4 rfl ?_
    refine x_aload_n dX2_hasFragment_5 rfl ?_
    refine x_iload_n dX2_hasFragment_6 rfl ?_
    refine x_callp [0, 1, 2, 3, 4, 5, 6] (x_iV dX2_hasFragment_7 mlX2_40 lbX2_fragmentNumber rfl rfl rfl rfl) (kX2_fragmentNumber l g _ _) (by decide) rfl rfl (by decide) (by decide) (by simp [Value.category]) rfl rfl (by decide +kernel) ?_
    refine x_icmp_ge (tgt := 17) dX2_hasFragment_10 (by decide) (fun c_10 => ?_) (fun c_10 => ?_)
    · refine x_iconst (v := 0) dX2_hasFragment_17 (by decide) ?_
      exact x_retz dX2_hasFragment_18 rfl (rfl) rfl rfl (⟨by (try simp only [b2i_eq0, b2i_ne0] at *); simp [hfB, b2i, *], rfl⟩)
    · refine x_iconst (v := 1) dX2_hasFragment_13 (by decide) ?_
      refine x_goto (tgt := 18) dX2_hasFragment_14 (by decide) ?_
      exact x_retz dX2_hasFragment_18 rfl (rfl) rfl rfl (⟨by (try simp only [b2i_eq0, b2i_ne0] at *); simp [hfB, b2i, *], rfl⟩)

set_option maxRecDepth 100000 in
set_option maxHeartbeats 4000000 in
theorem kX2_hasData (l : Launch) (g : XG) (S : MS) (f i : Int32) : Ct l g MX2_hasData [.ref 0, .int f, .int i] (wF S) (Qp (b2i (hdB S f i)) (wF S)) := by
  refine Ct_of (by decide) (by simp [Value.category]) (Nat.le_of_ble_eq_true rfl) ?_
  refine x_iload_n dX2_hasData_0 rfl ?_
  refine x_if_lt (tgt := 17) dX2_hasData_1 (by decide) (fun c_1 => ?_) (fun c_1 => ?_)
  · refine x_iconst (v := 0) dX2_hasData_17 (by decide) ?_
    exact x_retz dX2_hasData_18 rfl (rfl) rfl rfl (⟨by (try simp only [b2i_eq0, b2i_ne0] at *); simp [hdB, b2i, *], rfl⟩)
  · refine x_iload_n dX2_hasData_4 rfl ?_
    refine x_aload_n dX2_hasData_5 rfl ?_
    refine x_iload_n dX2_hasData_6 rfl ?_
    refine x_callp [0, 1, 2, 3, 4, 5, 6] (x_iV dX2_hasData_7 mlX2_44 lbX2_dataOf rfl rfl rfl rfl) (kX2_dataOf l g _ _) (by decide) rfl rfl (by decide) (by decide) (by simp [Value.category]) rfl rfl (by decide +kernel) ?_
    refine x_icmp_ge (tgt := 17) dX2_hasData_10 (by decide) (fun c_10 => ?_) (fun c_10 => ?_)
    · refine x_iconst (v := 0) dX2_hasData_17 (by decide) ?_
      exact x_retz dX2_hasData_18 rfl (rfl) rfl rfl (⟨by (try simp only [b2i_eq0, b2i_ne0] at *); simp [hdB, b2i, *], rfl⟩)
    · refine x_iconst (v := 1) dX2_hasData_13 (by decide) ?_
      refine x_goto (tgt := 18) dX2_hasData_14 (by decide) ?_
      exact x_retz dX2_hasData_18 rfl (rfl) rfl rfl (⟨by (try simp only [b2i_eq0, b2i_ne0] at *); simp [hdB, b2i, *], rfl⟩)

set_option maxRecDepth 100000 in
set_option maxHeartbeats 4000000 in
theorem kX2_ownerOf (l : Launch) (g : XG) (S : MS) (f : Int32) : Ct l g MX2_ownerOf [.ref 0, .int f] (wF S) (Qp (foI S f) (wF S)) := by
  refine Ct_of (by decide) (by simp [Value.category]) (Nat.le_of_ble_eq_true rfl) ?_
  refine x_iload_n dX2_ownerOf_0 rfl ?_
  refine x_if_lt (tgt := 19) dX2_ownerOf_1 (by decide) (fun c_1 => ?_) (fun c_1 => ?_)
  · refine x_iconst (v := -1) dX2_ownerOf_19 (by decide) ?_
    exact x_reti dX2_ownerOf_20 rfl rfl rfl (⟨by (try simp only [b2i_eq0, b2i_ne0] at *); simp [foI, inB, b2i, *], rfl⟩)
  · refine x_iload_n dX2_ownerOf_4 rfl ?_
    refine x_bipush (v := 8) dX2_ownerOf_5 (by decide) ?_
    refine x_icmp_ge (tgt := 19) dX2_ownerOf_7 (by decide) (fun c_7 => ?_) (fun c_7 => ?_)
    · refine x_iconst (v := -1) dX2_ownerOf_19 (by decide) ?_
      exact x_reti dX2_ownerOf_20 rfl rfl rfl (⟨by (try simp only [b2i_eq0, b2i_ne0] at *); simp [foI, inB, b2i, *], rfl⟩)
    · refine x_aload_n dX2_ownerOf_10 rfl ?_
      refine x_getf dX2_ownerOf_11 flX2_18 rfl rfl ?_
      refine x_iload_n dX2_ownerOf_14 rfl ?_
      refine x_iar dX2_ownerOf_15 rfl (ix_of (vin_of 8 (by decide) rfl (by assumption) (by assumption))) ?_
      refine x_goto (tgt := 20) dX2_ownerOf_16 (by decide) ?_
      exact x_reti dX2_ownerOf_20 rfl rfl rfl (⟨by (try simp only [b2i_eq0, b2i_ne0] at *); simp [foI, inB, b2i, *], rfl⟩)

set_option maxRecDepth 100000 in
set_option maxHeartbeats 4000000 in
theorem kX2_isInRows (l : Launch) (g : XG) (f i : Int32) : Ct l g MX2_isInRows [.int f, .int i] ([]) (Qp (b2i (irB f i)) ([])) := by
  refine Ct_of (by decide) (by simp [Value.category]) (Nat.le_of_ble_eq_true rfl) ?_
  refine x_iload_n dX2_isInRows_0 rfl ?_
  refine x_if_lt (tgt := 24) dX2_isInRows_1 (by decide) (fun c_1 => ?_) (fun c_1 => ?_)
  · refine x_iconst (v := 0) dX2_isInRows_24 (by decide) ?_
    exact x_retz dX2_isInRows_25 rfl (rfl) rfl rfl (⟨by (try simp only [b2i_eq0, b2i_ne0] at *); simp [irB, inB, b2i, *], rfl⟩)
  · refine x_iload_n dX2_isInRows_4 rfl ?_
    refine x_bipush (v := 8) dX2_isInRows_5 (by decide) ?_
    refine x_icmp_ge (tgt := 24) dX2_isInRows_7 (by decide) (fun c_7 => ?_) (fun c_7 => ?_)
    · refine x_iconst (v := 0) dX2_isInRows_24 (by decide) ?_
      exact x_retz dX2_isInRows_25 rfl (rfl) rfl rfl (⟨by (try simp only [b2i_eq0, b2i_ne0] at *); simp [irB, inB, b2i, *], rfl⟩)
    · refine x_iload_n dX2_isInRows_10 rfl ?_
      refine x_if_lt (tgt := 24) dX2_isInRows_11 (by decide) (fun c_11 => ?_) (fun c_11 => ?_)
      · refine x_iconst (v := 0) dX2_isInRows_24 (by decide) ?_
        exact x_retz dX2_isInRows_25 rfl (rfl) rfl rfl (⟨by (try simp only [b2i_eq0, b2i_ne0] at *); simp [irB, inB, b2i, *], rfl⟩)
      · refine x_iload_n dX2_isInRows_14 rfl ?_
        refine x_bipush (v := 10) dX2_isInRows_15 (by decide) ?_
        refine x_icmp_ge (tgt := 24) dX2_isInRows_17 (by decide) (fun c_17 => ?_) (fun c_17 => ?_)
        · refine x_iconst (v := 0) dX2_isInRows_24 (by decide) ?_
          exact x_retz dX2_isInRows_25 rfl (rfl) rfl rfl (⟨by (try simp only [b2i_eq0, b2i_ne0] at *); simp [irB, inB, b2i, *], rfl⟩)
        · refine x_iconst (v := 1) dX2_isInRows_20 (by decide) ?_
          refine x_goto (tgt := 25) dX2_isInRows_21 (by decide) ?_
          exact x_retz dX2_isInRows_25 rfl (rfl) rfl rfl (⟨by (try simp only [b2i_eq0, b2i_ne0] at *); simp [irB, inB, b2i, *], rfl⟩)

set_option maxRecDepth 100000 in
set_option maxHeartbeats 4000000 in
theorem kX2_placeOf (l : Launch) (g : XG) (S : MS) (f i : Int32) : Ct l g MX2_placeOf [.ref 0, .int f, .int i] (wF S) (Qp (plI S f i) (wF S)) := by
  refine Ct_of (by decide) (by simp [Value.category]) (Nat.le_of_ble_eq_true rfl) ?_
  refine x_iload_n dX2_placeOf_0 rfl ?_
  refine x_iload_n dX2_placeOf_1 rfl ?_
  refine x_callp [] (x_iS dX2_placeOf_2 mlX2_47 lbX2_isInRows rfl) (kX2_isInRows l g _ _) (by decide) rfl rfl (by decide) (by decide) (by simp [Value.category]) rfl rfl (by decide +kernel) ?_
  refine x_if_eq (tgt := 22) dX2_placeOf_5 (by decide) (fun c_5 => ?_) (fun c_5 => ?_)
  · refine x_iconst (v := -1) dX2_placeOf_22 (by decide) ?_
    exact x_reti dX2_placeOf_23 rfl rfl rfl (⟨by (try simp only [b2i_eq0, b2i_ne0] at *); simp [plI, b2i, *], rfl⟩)
  · refine x_aload_n dX2_placeOf_8 rfl ?_
    refine x_getf dX2_placeOf_9 flX2_24 rfl rfl ?_
    refine x_iload_n dX2_placeOf_12 rfl ?_
    refine x_bipush (v := 10) dX2_placeOf_13 (by decide) ?_
    refine x_imul dX2_placeOf_15 ?_
    refine x_iload_n dX2_placeOf_16 rfl ?_
    refine x_iadd dX2_placeOf_17 ?_
    refine x_iar dX2_placeOf_18 rfl ((ix_2 8 10 80 rfl rfl (by decide) (irB_1 (b2i_t' c_5)) (irB_2 (b2i_t' c_5)))) ?_
    refine x_goto (tgt := 23) dX2_placeOf_19 (by decide) ?_
    exact x_reti dX2_placeOf_23 rfl rfl rfl (⟨by (try simp only [b2i_eq0, b2i_ne0] at *); simp [plI, b2i, *], rfl⟩)

set_option maxRecDepth 100000 in
set_option maxHeartbeats 4000000 in
theorem kX2_correctValue (l : Launch) (g : XG) (S : MS) (f i : Int32) : Ct l g MX2_correctValue [.ref 0, .int f, .int i] (wF S) (Qp (coI S f i) (wF S)) := by
  refine Ct_of (by decide) (by simp [Value.category]) (Nat.le_of_ble_eq_true rfl) ?_
  refine x_iload_n dX2_correctValue_0 rfl ?_
  refine x_iload_n dX2_correctValue_1 rfl ?_
  refine x_callp [] (x_iS dX2_correctValue_2 mlX2_47 lbX2_isInRows rfl) (kX2_isInRows l g _ _) (by decide) rfl rfl (by decide) (by decide) (by simp [Value.category]) rfl rfl (by decide +kernel) ?_
  refine x_if_eq (tgt := 22) dX2_correctValue_5 (by decide) (fun c_5 => ?_) (fun c_5 => ?_)
  · refine x_iconst (v := 0) dX2_correctValue_22 (by decide) ?_
    exact x_reti dX2_correctValue_23 rfl rfl rfl (⟨by (try simp only [b2i_eq0, b2i_ne0] at *); simp [coI, b2i, *], rfl⟩)
  · refine x_aload_n dX2_correctValue_8 rfl ?_
    refine x_getf dX2_correctValue_9 flX2_21 rfl rfl ?_
    refine x_iload_n dX2_correctValue_12 rfl ?_
    refine x_bipush (v := 10) dX2_correctValue_13 (by decide) ?_
    refine x_imul dX2_correctValue_15 ?_
    refine x_iload_n dX2_correctValue_16 rfl ?_
    refine x_iadd dX2_correctValue_17 ?_
    refine x_iar dX2_correctValue_18 rfl ((ix_2 8 10 80 rfl rfl (by decide) (irB_1 (b2i_t' c_5)) (irB_2 (b2i_t' c_5)))) ?_
    refine x_goto (tgt := 23) dX2_correctValue_19 (by decide) ?_
    exact x_reti dX2_correctValue_23 rfl rfl rfl (⟨by (try simp only [b2i_eq0, b2i_ne0] at *); simp [coI, b2i, *], rfl⟩)

set_option maxRecDepth 100000 in
set_option maxHeartbeats 4000000 in
theorem kX2_errorOf (l : Launch) (g : XG) (S : MS) (f i : Int32) : Ct l g MX2_errorOf [.ref 0, .int f, .int i] (wF S) (Qp (erI S f i) (wF S)) := by
  refine Ct_of (by decide) (by simp [Value.category]) (Nat.le_of_ble_eq_true rfl) ?_
  refine x_iload_n dX2_errorOf_0 rfl ?_
  refine x_iload_n dX2_errorOf_1 rfl ?_
  refine x_callp [] (x_iS dX2_errorOf_2 mlX2_47 lbX2_isInRows rfl) (kX2_isInRows l g _ _) (by decide) rfl rfl (by decide) (by decide) (by simp [Value.category]) rfl rfl (by decide +kernel) ?_
  refine x_if_eq (tgt := 22) dX2_errorOf_5 (by decide) (fun c_5 => ?_) (fun c_5 => ?_)
  · refine x_iconst (v := 0) dX2_errorOf_22 (by decide) ?_
    exact x_reti dX2_errorOf_23 rfl rfl rfl (⟨by (try simp only [b2i_eq0, b2i_ne0] at *); simp [erI, b2i, *], rfl⟩)
  · refine x_aload_n dX2_errorOf_8 rfl ?_
    refine x_getf dX2_errorOf_9 flX2_27 rfl rfl ?_
    refine x_iload_n dX2_errorOf_12 rfl ?_
    refine x_bipush (v := 10) dX2_errorOf_13 (by decide) ?_
    refine x_imul dX2_errorOf_15 ?_
    refine x_iload_n dX2_errorOf_16 rfl ?_
    refine x_iadd dX2_errorOf_17 ?_
    refine x_iar dX2_errorOf_18 rfl ((ix_2 8 10 80 rfl rfl (by decide) (irB_1 (b2i_t' c_5)) (irB_2 (b2i_t' c_5)))) ?_
    refine x_goto (tgt := 23) dX2_errorOf_19 (by decide) ?_
    exact x_reti dX2_errorOf_23 rfl rfl rfl (⟨by (try simp only [b2i_eq0, b2i_ne0] at *); simp [erI, b2i, *], rfl⟩)

set_option maxRecDepth 100000 in
set_option maxHeartbeats 4000000 in
theorem kX2_storedValue (l : Launch) (g : XG) (S : MS) (f i : Int32) : Ct l g MX2_storedValue [.ref 0, .int f, .int i] (wF S) (Qp (svI S f i) (wF S)) := by
  refine Ct_of (by decide) (by simp [Value.category]) (Nat.le_of_ble_eq_true rfl) ?_
  refine x_aload_n dX2_storedValue_0 rfl ?_
  refine x_iload_n dX2_storedValue_1 rfl ?_
  refine x_iload_n dX2_storedValue_2 rfl ?_
  refine x_callp [0, 1, 2, 3, 4, 5, 6] (x_iV dX2_storedValue_3 mlX2_51 lbX2_correctValue rfl rfl rfl rfl) (kX2_correctValue l g _ _ _) (by decide) rfl rfl (by decide) (by decide) (by simp [Value.category]) rfl rfl (by decide +kernel) ?_
  refine x_aload_n dX2_storedValue_6 rfl ?_
  refine x_iload_n dX2_storedValue_7 rfl ?_
  refine x_iload_n dX2_storedValue_8 rfl ?_
  refine x_callp [0, 1, 2, 3, 4, 5, 6] (x_iV dX2_storedValue_9 mlX2_55 lbX2_errorOf rfl rfl rfl rfl) (kX2_errorOf l g _ _ _) (by decide) rfl rfl (by decide) (by decide) (by simp [Value.category]) rfl rfl (by decide +kernel) ?_
  refine x_iadd dX2_storedValue_12 ?_
  refine x_sipush (v := 257) dX2_storedValue_13 (by decide) ?_
  refine x_irem dX2_storedValue_16 (by decide) ?_
  exact x_reti dX2_storedValue_17 rfl rfl rfl (⟨rfl, rfl⟩)

set_option maxRecDepth 100000 in
set_option maxHeartbeats 4000000 in
theorem kX2_isStored (l : Launch) (g : XG) (S : MS) (f i : Int32) : Ct l g MX2_isStored [.ref 0, .int f, .int i] (wF S) (Qp (b2i (stB S f i)) (wF S)) := by
  refine Ct_of (by decide) (by simp [Value.category]) (Nat.le_of_ble_eq_true rfl) ?_
  refine x_aload_n dX2_isStored_0 rfl ?_
  refine x_iload_n dX2_isStored_1 rfl ?_
  refine x_iload_n dX2_isStored_2 rfl ?_
  refine x_callp [0, 1, 2, 3, 4, 5, 6] (x_iV dX2_isStored_3 mlX2_58 lbX2_placeOf rfl rfl rfl rfl) (kX2_placeOf l g _ _ _) (by decide) rfl rfl (by decide) (by decide) (by simp [Value.category]) rfl rfl (by decide +kernel) ?_
  refine x_iconst (v := -1) dX2_isStored_6 (by decide) ?_
  refine x_icmp_eq (tgt := 14) dX2_isStored_7 (by decide) (fun c_7 => ?_) (fun c_7 => ?_)
  · refine x_iconst (v := 0) dX2_isStored_14 (by decide) ?_
    exact x_retz dX2_isStored_15 rfl (rfl) rfl rfl (⟨by (try simp only [b2i_eq0, b2i_ne0] at *); simp [stB, b2i, *], rfl⟩)
  · refine x_iconst (v := 1) dX2_isStored_10 (by decide) ?_
    refine x_goto (tgt := 15) dX2_isStored_11 (by decide) ?_
    exact x_retz dX2_isStored_15 rfl (rfl) rfl rfl (⟨by (try simp only [b2i_eq0, b2i_ne0] at *); simp [stB, b2i, *], rfl⟩)

set_option maxRecDepth 100000 in
set_option maxHeartbeats 4000000 in
theorem kX2_isSpoiled (l : Launch) (g : XG) (S : MS) (f i : Int32) : Ct l g MX2_isSpoiled [.ref 0, .int f, .int i] (wF S) (Qp (b2i (spB S f i)) (wF S)) := by
  refine Ct_of (by decide) (by simp [Value.category]) (Nat.le_of_ble_eq_true rfl) ?_
  refine x_aload_n dX2_isSpoiled_0 rfl ?_
  refine x_iload_n dX2_isSpoiled_1 rfl ?_
  refine x_iload_n dX2_isSpoiled_2 rfl ?_
  refine x_callp [0, 1, 2, 3, 4, 5, 6] (x_iV dX2_isSpoiled_3 mlX2_61 lbX2_isStored rfl rfl rfl rfl) (kX2_isStored l g _ _ _) (by decide) rfl rfl (by decide) (by decide) (by simp [Value.category]) rfl rfl (by decide +kernel) ?_
  refine x_if_eq (tgt := 22) dX2_isSpoiled_6 (by decide) (fun c_6 => ?_) (fun c_6 => ?_)
  · refine x_iconst (v := 0) dX2_isSpoiled_22 (by decide) ?_
    exact x_retz dX2_isSpoiled_23 rfl (rfl) rfl rfl (⟨by (try simp only [b2i_eq0, b2i_ne0] at *); simp [spB, b2i, *], rfl⟩)
  · refine x_aload_n dX2_isSpoiled_9 rfl ?_
    refine x_iload_n dX2_isSpoiled_10 rfl ?_
    refine x_iload_n dX2_isSpoiled_11 rfl ?_
    refine x_callp [0, 1, 2, 3, 4, 5, 6] (x_iV dX2_isSpoiled_12 mlX2_55 lbX2_errorOf rfl rfl rfl rfl) (kX2_errorOf l g _ _ _) (by decide) rfl rfl (by decide) (by decide) (by simp [Value.category]) rfl rfl (by decide +kernel) ?_
    refine x_if_eq (tgt := 22) dX2_isSpoiled_15 (by decide) (fun c_15 => ?_) (fun c_15 => ?_)
    · refine x_iconst (v := 0) dX2_isSpoiled_22 (by decide) ?_
      exact x_retz dX2_isSpoiled_23 rfl (rfl) rfl rfl (⟨by (try simp only [b2i_eq0, b2i_ne0] at *); simp [spB, b2i, *], rfl⟩)
    · refine x_iconst (v := 1) dX2_isSpoiled_18 (by decide) ?_
      refine x_goto (tgt := 23) dX2_isSpoiled_19 (by decide) ?_
      exact x_retz dX2_isSpoiled_23 rfl (rfl) rfl rfl (⟨by (try simp only [b2i_eq0, b2i_ne0] at *); simp [spB, b2i, *], rfl⟩)
