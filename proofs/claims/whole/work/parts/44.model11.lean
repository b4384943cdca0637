/-! ===== the reference: audits ===== -/
def ofC (N : Nat → Int32) (a p : Int32) (k : Nat) : Bool := mFi N (nI (k / 10)) && decide (N (192 + 30 * (k / 10) + 1) = a) && decide (¬ mFr N (k / 10) ≤ nI (k % 10)) && decide (N (192 + 30 * (k / 10) + (10 + k % 10)) = p)
def ofS (N : Nat → Int32) (a p : Int32) (s : Nat) : Nat → Nat × Nat
  | 0 => (0, 0)
  | k + 1 => if ofC N a p k then (((ofS N a p s k).1 + cl (N (192 + 30 * (k / 10) + (20 + k % 10))) * (s ^ (ofS N a p s k).2 % 257)) % 257, (ofS N a p s k).2 + 1) else ofS N a p s k
theorem ofS_le (N : Nat → Int32) (a p : Int32) (s : Nat) : ∀ k, (ofS N a p s k).1 < 257 ∧ (ofS N a p s k).2 ≤ k
  | 0 => ⟨(show 0 < 257 by decide), Nat.le_refl _⟩
  | k + 1 => by
    have ih := ofS_le N a p s k
    rw [ofS]
    split
    · exact ⟨Nat.mod_lt _ (by decide), by simp only; omega⟩
    · exact ⟨ih.1, by omega⟩
def ofV (N : Nat → Int32) (a p : Int32) (s : Nat) : Int32 := if (ofS N a p s 80).2 = 0 then -1 else nI (ofS N a p s 80).1

set_option maxRecDepth 100000 in
set_option maxHeartbeats 4000000 in
theorem lpX7_off (l : Launch) (g : XG) (N A Z B : Nat → Int32) (u : Int32) (L : Nat → Int32) (a p : Int32) (s : Nat) (hs : s < 257) (hM3 : MOk3 N) : XA l g MX7_off (Qp (ofV N a p s) (wM N A Z B u L)) 9 ((fun i => [some (.ref 0), some (.int a), some (.int p), some (.int (nI s)), some (.int (nI (ofS N a p s (i)).1)), some (.int (nI (ofS N a p s (i)).2)), some (.int (nI (i))), none, none]) 0) ((fun _ => []) 0) ((fun _ => wM N A Z B u L) 0) 0 0 := by
  refine x_for 80 (fun _ => True) (fun i => [some (.ref 0), some (.int a), some (.int p), some (.int (nI s)), some (.int (nI (ofS N a p s (i)).1)), some (.int (nI (ofS N a p s (i)).2)), some (.int (nI (i))), none, none]) (fun _ => []) (fun _ => wM N A Z B u L) trivial (fun i hi hp ih => ?_) (fun hp => ?_)
  · refine x_iload dX7_off_9 rfl ?_
    refine x_bipush (v := 80) dX7_off_11 (by decide) ?_
    refine x_icmp_ge_f (tgt := 112) dX7_off_13 (by decide) (nI_nle_of rfl (by decide) hi) ?_
    refine x_iload dX7_off_16 rfl ?_
    refine x_bipush (v := 10) dX7_off_18 (by decide) ?_
    refine x_idiv dX7_off_20 (by decide) ?_
    rw [div10 hi]
    refine x_istore dX7_off_21 (by decide) ?_
    refine x_iload dX7_off_23 rfl ?_
    refine x_bipush (v := 10) dX7_off_25 (by decide) ?_
    refine x_irem dX7_off_27 (by decide) ?_
    rw [rem10 hi]
    refine x_istore dX7_off_28 (by decide) ?_
    refine x_aload_n dX7_off_30 rfl ?_
    refine x_iload dX7_off_31 rfl ?_
    refine x_callp [0, 1, 2, 3, 4, 5] (x_iV dX7_off_33 mlX7_43 lbX7_isFile rfl rfl rfl rfl) (kX7_isFile l g _ _ _ _ _ _ _) (by decide) rfl rfl (by decide) (by decide) (by simp [Value.category]) rfl rfl (by decide +kernel) ?_
    refine x_if_eq (tgt := 106) dX7_off_36 (by decide) (fun c_36 => ?_) (fun c_36 => ?_)
    · first | refine x_iinc dX7_off_106 (by decide) rfl (nI_inc _) ?_ | refine x_iinc dX7_off_106 (by decide) rfl (inc_1 _) ?_
      refine x_goto (tgt := 9) dX7_off_109 (by decide) ?_
      (try simp only [b2i_eq0, b2i_ne0] at *)
      have e : ofS N a p s (i + 1) = _ := ofS.eq_2 N a p s i
      simp [ofC, *] at e
      refine x_le (lv' := [some (.ref 0), some (.int a), some (.int p), some (.int (nI s)), some (.int (nI (ofS N a p s (i + 1)).1)), some (.int (nI (ofS N a p s (i + 1)).2)), some (.int (nI (i + 1))), none, none]) (x_eq (ih trivial) rfl rfl rfl) ?_
      rw [e]
      simp [lvle]
    · refine x_aload_n dX7_off_39 rfl ?_
      refine x_iload dX7_off_40 rfl ?_
      refine x_iconst (v := 1) dX7_off_42 (by decide) ?_
      refine x_callp [0, 1, 2, 3, 4, 5] (x_iV dX7_off_43 mlX7_29 lbX7_of rfl rfl rfl rfl) (kX7_of l g _ _ _ _ _ _ (i / 10) 1 (by omega) (by omega)) (by decide) rfl rfl (by decide) (by decide) (by simp [Value.category]) rfl rfl (by decide +kernel) ?_
      refine x_iload_n dX7_off_46 rfl ?_
      refine x_icmp_ne (tgt := 106) dX7_off_47 (by decide) (fun c_47 => ?_) (fun c_47 => ?_)
      · first | refine x_iinc dX7_off_106 (by decide) rfl (nI_inc _) ?_ | refine x_iinc dX7_off_106 (by decide) rfl (inc_1 _) ?_
        refine x_goto (tgt := 9) dX7_off_109 (by decide) ?_
        (try simp only [b2i_eq0, b2i_ne0] at *)
        have e : ofS N a p s (i + 1) = _ := ofS.eq_2 N a p s i
        simp [ofC, *] at e
        refine x_le (lv' := [some (.ref 0), some (.int a), some (.int p), some (.int (nI s)), some (.int (nI (ofS N a p s (i + 1)).1)), some (.int (nI (ofS N a p s (i + 1)).2)), some (.int (nI (i + 1))), none, none]) (x_eq (ih trivial) rfl rfl rfl) ?_
        rw [e]
        simp [lvle]
      · refine x_iload dX7_off_50 rfl ?_
        refine x_aload_n dX7_off_52 rfl ?_
        refine x_iload dX7_off_53 rfl ?_
        refine x_callp [0, 1, 2, 3, 4, 5] (x_iV dX7_off_55 mlX7_47 lbX7_fragments rfl rfl rfl rfl) (kX7_fragments l g _ _ _ _ _ _ (i / 10) (by omega)) (by decide) rfl rfl (by decide) (by decide) (by simp [Value.category]) rfl rfl (by decide +kernel) ?_
        refine x_icmp_ge (tgt := 106) dX7_off_58 (by decide) (fun c_58 => ?_) (fun c_58 => ?_)
        · first | refine x_iinc dX7_off_106 (by decide) rfl (nI_inc _) ?_ | refine x_iinc dX7_off_106 (by decide) rfl (inc_1 _) ?_
          refine x_goto (tgt := 9) dX7_off_109 (by decide) ?_
          (try simp only [b2i_eq0, b2i_ne0] at *)
          have e : ofS N a p s (i + 1) = _ := ofS.eq_2 N a p s i
          simp [ofC, *] at e
          refine x_le (lv' := [some (.ref 0), some (.int a), some (.int p), some (.int (nI s)), some (.int (nI (ofS N a p s (i + 1)).1)), some (.int (nI (ofS N a p s (i + 1)).2)), some (.int (nI (i + 1))), none, none]) (x_eq (ih trivial) rfl rfl rfl) ?_
          rw [e]
          simp [lvle]
        · refine x_aload_n dX7_off_61 rfl ?_
          refine x_iload dX7_off_62 rfl ?_
          refine x_bipush (v := 10) dX7_off_64 (by decide) ?_
          refine x_iload dX7_off_66 rfl ?_
          refine x_iadd dX7_off_68 ?_
          rw [ad10]
          refine x_callp [0, 1, 2, 3, 4, 5] (x_iV dX7_off_69 mlX7_29 lbX7_of rfl rfl rfl rfl) (kX7_of l g _ _ _ _ _ _ (i / 10) (10 + i % 10) (by omega) (by omega)) (by decide) rfl rfl (by decide) (by decide) (by simp [Value.category]) rfl rfl (by decide +kernel) ?_
          refine x_iload_n dX7_off_72 rfl ?_
          refine x_icmp_ne (tgt := 106) dX7_off_73 (by decide) (fun c_73 => ?_) (fun c_73 => ?_)
          · first | refine x_iinc dX7_off_106 (by decide) rfl (nI_inc _) ?_ | refine x_iinc dX7_off_106 (by decide) rfl (inc_1 _) ?_
            refine x_goto (tgt := 9) dX7_off_109 (by decide) ?_
            (try simp only [b2i_eq0, b2i_ne0] at *)
            have e : ofS N a p s (i + 1) = _ := ofS.eq_2 N a p s i
            simp [ofC, *] at e
            refine x_le (lv' := [some (.ref 0), some (.int a), some (.int p), some (.int (nI s)), some (.int (nI (ofS N a p s (i + 1)).1)), some (.int (nI (ofS N a p s (i + 1)).2)), some (.int (nI (i + 1))), none, none]) (x_eq (ih trivial) rfl rfl rfl) ?_
            rw [e]
            simp [lvle]
          · refine x_iload dX7_off_76 rfl ?_
            refine x_aload_n dX7_off_78 rfl ?_
            refine x_iload dX7_off_79 rfl ?_
            refine x_bipush (v := 20) dX7_off_81 (by decide) ?_
            refine x_iload dX7_off_83 rfl ?_
            refine x_iadd dX7_off_85 ?_
            rw [ad20]
            refine x_callp [0, 1, 2, 3, 4, 5] (x_iV dX7_off_86 mlX7_29 lbX7_of rfl rfl rfl rfl) (kX7_of l g _ _ _ _ _ _ (i / 10) (20 + i % 10) (by omega) (by omega)) (by decide) rfl rfl (by decide) (by decide) (by simp [Value.category]) rfl rfl (by decide +kernel) ?_
            refine x_iload_n dX7_off_89 rfl ?_
            refine x_iload dX7_off_90 rfl ?_
            refine x_callp [] (x_iS dX7_off_92 mlX7_61 lbX7_power rfl) (kX7_power l g s (ofS N a p s i).2 hs (by have := (ofS_le N a p s i).2; omega)) (by decide) rfl rfl (by decide) (by decide) (by simp [Value.category]) rfl rfl (by decide +kernel) ?_
            refine x_imul dX7_off_95 ?_
            rw [((hM3 (i / 10) (by omega)).2 (i % 10) (by omega)).1, pk_mul]
            refine x_iadd dX7_off_96 ?_
            rw [nI_add]
            refine x_sipush (v := 257) dX7_off_97 (by decide) ?_
            refine x_irem dX7_off_100 (by decide) ?_
            rw [rem257 (by have h1 := (ofS_le N a p s i).1; have h2 := ((hM3 (i / 10) (by omega)).2 (i % 10) (by omega)).2; have h3 : cl (N (192 + 30 * (i / 10) + (20 + i % 10))) * (s ^ (ofS N a p s i).2 % 257) ≤ 256 * 256 := Nat.mul_le_mul (by omega) (by have := Nat.mod_lt (s ^ (ofS N a p s i).2) (show 257 > 0 by decide); omega); omega)]
            refine x_istore dX7_off_101 (by decide) ?_
            first | refine x_iinc dX7_off_103 (by decide) rfl (nI_inc _) ?_ | refine x_iinc dX7_off_103 (by decide) rfl (inc_1 _) ?_
            first | refine x_iinc dX7_off_106 (by decide) rfl (nI_inc _) ?_ | refine x_iinc dX7_off_106 (by decide) rfl (inc_1 _) ?_
            refine x_goto (tgt := 9) dX7_off_109 (by decide) ?_
            (try simp only [b2i_eq0, b2i_ne0] at *)
            have e : ofS N a p s (i + 1) = _ := ofS.eq_2 N a p s i
            simp [ofC, *] at e
            refine x_le (lv' := [some (.ref 0), some (.int a), some (.int p), some (.int (nI s)), some (.int (nI (ofS N a p s (i + 1)).1)), some (.int (nI (ofS N a p s (i + 1)).2)), some (.int (nI (i + 1))), none, none]) (x_eq (ih trivial) rfl rfl rfl) ?_
            rw [e]
            simp [lvle]
  · refine x_iload dX7_off_9 rfl ?_
    refine x_bipush (v := 80) dX7_off_11 (by decide) ?_
    refine x_icmp_ge_t (tgt := 112) dX7_off_13 (by decide) (nI_le_of rfl (by decide) (Nat.le_refl _)) ?_
    refine x_iload dX7_off_112 rfl ?_
    refine x_if_ne (tgt := 121) dX7_off_114 (by decide) (fun c_114 => ?_) (fun c_114 => ?_)
    · refine x_iload dX7_off_121 rfl ?_
      exact x_reti dX7_off_123 rfl rfl rfl (⟨by (try rw [nI_is0 (by have := (ofS_le N a p s 80).2; omega)] at c_114); simp [ofV, *], rfl⟩)
    · refine x_iconst (v := -1) dX7_off_117 (by decide) ?_
      refine x_goto (tgt := 123) dX7_off_118 (by decide) ?_
      exact x_reti dX7_off_123 rfl rfl rfl (⟨by (try rw [nI_is0 (by have := (ofS_le N a p s 80).2; omega)] at c_114); simp [ofV, *], rfl⟩)

set_option maxRecDepth 100000 in
set_option maxHeartbeats 4000000 in
theorem kX7_off (l : Launch) (g : XG) (N A Z B : Nat → Int32) (u : Int32) (L : Nat → Int32) (a p : Int32) (s : Nat) (hs : s < 257) (hM3 : MOk3 N) : Ct l g MX7_off [.ref 0, .int a, .int p, .int (nI s)] (wM N A Z B u L) (Qp (ofV N a p s) (wM N A Z B u L)) := by
  refine Ct_of (by decide) (by simp [Value.category]) (Nat.le_of_ble_eq_true rfl) ?_
  refine x_iconst (v := 0) dX7_off_0 (by decide) ?_
  refine x_istore dX7_off_1 (by decide) ?_
  refine x_iconst (v := 0) dX7_off_3 (by decide) ?_
  refine x_istore dX7_off_4 (by decide) ?_
  refine x_iconst (v := 0) dX7_off_6 (by decide) ?_
  refine x_istore dX7_off_7 (by decide) ?_
  exact lpX7_off l g N A Z B u L a p s hs hM3

def mTr (t o : Int32) : Int32 := if 0 ≤ o then (if o ≤ 0 then (if t ≤ 95 then t + 5 else 100) else t / 2) else t
def okAm (N : Nat → Int32) (a p s : Int32) : Bool := mTw N a p && rgB s 0 256
def okAm2 (N : Nat → Int32) (a p : Int32) : Bool := mOn N a && mOn N p
def mAuN (N : Nat → Int32) (a p s : Int32) : Nat → Int32 := upd N (4 * cl p + 3) (mTr (N (4 * cl p + 3)) (ofV N a p (cl s)))
def vAm (N : Nat → Int32) (a p s : Int32) : Int32 := if okAm N a p s then (if okAm2 N a p then (if ofV N a p (cl s) ≤ 0 then 1 else 0) else -10002) else -10001
def vPSm (N : Nat → Int32) (a p : Int32) : Int32 := if mTw N a p then nI (cntB (fun s => decide (¬ 0 < ofV N a p s)) 257) else -10001
theorem mTw_1 {N : Nat → Int32} {p q : Int32} (h : mTw N p q = true) : vp_in p 12 := mPe_in (N := N) (by simp only [mTw, Bool.and_eq_true] at h; exact h.1.1)
theorem mTw_2 {N : Nat → Int32} {p q : Int32} (h : mTw N p q = true) : vp_in q 12 := mPe_in (N := N) (by simp only [mTw, Bool.and_eq_true] at h; exact h.1.2)
theorem rg_s {s : Int32} (h : rgB s 0 256 = true) : cl s < 257 ∧ s = nI (cl s) := by
  have h1 := rgB_v (n := 256) rfl (by decide) h
  obtain ⟨h2, h3⟩ := vin_iff.mp h1
  exact ⟨h3, nI_cl h2⟩

set_option maxRecDepth 100000 in
set_option maxHeartbeats 4000000 in
theorem kX7_audit (l : Launch) (g : XG) (N A Z B L : Nat → Int32) (n : Nat) (a p s : Int32) (hn : n ≤ 5) (hM3 : MOk3 N) : Ct l g MX7_audit [.ref 0, .int a, .int p, .int s] (wM N A Z B (nI n) L) (Qi (fun v w1 => v = vAm N a p s ∧ w1 = mC (okAm N a p s && okAm2 N a p) (mAuN N a p s) N A Z B L n)) := by
  refine Ct_of (by decide) (by simp [Value.category]) (Nat.le_of_ble_eq_true rfl) ?_
  refine x_aload_n dX7_audit_0 rfl ?_
  refine x_iload_n dX7_audit_1 rfl ?_
  refine x_iload_n dX7_audit_2 rfl ?_
  refine x_callp [0, 1, 2, 3, 4, 5] (x_iV dX7_audit_3 mlX7_118 lbX7_arePeers rfl rfl rfl rfl) (kX7_arePeers l g _ _ _ _ _ _ _ _) (by decide) rfl rfl (by decide) (by decide) (by simp [Value.category]) rfl rfl (by decide +kernel) ?_
  refine x_if_eq (tgt := 20) dX7_audit_6 (by decide) (fun c_6 => ?_) (fun c_6 => ?_)
  · refine x_sipush (v := -10001) dX7_audit_20 (by decide) ?_
    exact x_reti dX7_audit_23 rfl rfl rfl (⟨_, rfl, by (try simp only [b2i_eq0, b2i_ne0] at *); first | contradiction | (rw [mC, show (okAm N a p s && okAm2 N a p) = false by simp [okAm, okAm2, *], cond_false] <;> exact ⟨by simp [vAm, okAm, okAm2, *], rfl⟩) | (rw [mC, show (okAm N a p s && okAm2 N a p) = true by simp [okAm, okAm2, *], cond_true] <;> exact ⟨by simp [vAm, okAm, okAm2, *], by simp [mAuN, mTr, *] <;> rfl⟩)⟩)
  · refine x_iload_n dX7_audit_9 rfl ?_
    refine x_iconst (v := 0) dX7_audit_10 (by decide) ?_
    refine x_sipush (v := 256) dX7_audit_11 (by decide) ?_
    refine x_callp [] (x_iS dX7_audit_14 mlX7_25 lbX7_in rfl) (kX7_in l g _ _ _) (by decide) rfl rfl (by decide) (by decide) (by simp [Value.category]) rfl rfl (by decide +kernel) ?_
    refine x_if_ne (tgt := 24) dX7_audit_17 (by decide) (fun c_17 => ?_) (fun c_17 => ?_)
    · refine x_aload_n dX7_audit_24 rfl ?_
      refine x_iload_n dX7_audit_25 rfl ?_
      refine x_callp [0, 1, 2, 3, 4, 5] (x_iV dX7_audit_26 mlX7_51 lbX7_isOnline rfl rfl rfl rfl) (kX7_isOnline l g _ _ _ _ _ _ _ (mTw_1 (b2i_t' c_6))) (by decide) rfl rfl (by decide) (by decide) (by simp [Value.category]) rfl rfl (by decide +kernel) ?_
      refine x_if_eq (tgt := 40) dX7_audit_29 (by decide) (fun c_29 => ?_) (fun c_29 => ?_)
      · refine x_sipush (v := -10002) dX7_audit_40 (by decide) ?_
        exact x_reti dX7_audit_43 rfl rfl rfl (⟨_, rfl, by (try simp only [b2i_eq0, b2i_ne0] at *); first | contradiction | (rw [mC, show (okAm N a p s && okAm2 N a p) = false by simp [okAm, okAm2, *], cond_false] <;> exact ⟨by simp [vAm, okAm, okAm2, *], rfl⟩) | (rw [mC, show (okAm N a p s && okAm2 N a p) = true by simp [okAm, okAm2, *], cond_true] <;> exact ⟨by simp [vAm, okAm, okAm2, *], by simp [mAuN, mTr, *] <;> rfl⟩)⟩)
      · refine x_aload_n dX7_audit_32 rfl ?_
        refine x_iload_n dX7_audit_33 rfl ?_
        refine x_callp [0, 1, 2, 3, 4, 5] (x_iV dX7_audit_34 mlX7_51 lbX7_isOnline rfl rfl rfl rfl) (kX7_isOnline l g _ _ _ _ _ _ _ (mTw_2 (b2i_t' c_6))) (by decide) rfl rfl (by decide) (by decide) (by simp [Value.category]) rfl rfl (by decide +kernel) ?_
        refine x_if_ne (tgt := 44) dX7_audit_37 (by decide) (fun c_37 => ?_) (fun c_37 => ?_)
        · refine x_aload_n dX7_audit_44 rfl ?_
          refine x_callv [0, 1, 2, 3, 4, 5] (x_iV dX7_audit_45 mlX7_80 lbX7_keeps rfl rfl rfl rfl) (kX7_keeps l g N A Z B L n hn) (by decide) (by decide) (by decide) (by simp [Value.category]) rfl rfl (by decide +kernel) (fun w1 h1 => ?_)
          obtain rfl := h1
          refine x_eq (w' := wM (N) A Z (mKB B N n) (nI (recN n)) L) ?_ rfl rfl rfl
          refine x_aload_n dX7_audit_48 rfl ?_
          refine x_iload_n dX7_audit_49 rfl ?_
          refine x_iload_n dX7_audit_50 rfl ?_
          refine x_iload_n dX7_audit_51 rfl ?_
          refine x_eq (st' := [.int (nI (cl s)), .int p, .int a, .ref 0]) ?_ rfl (by rw [← (rg_s (b2i_t' c_17)).2]) rfl
          refine x_callp [0, 1, 2, 3, 4, 5] (x_iV dX7_audit_52 mlX7_121 lbX7_off rfl rfl rfl rfl) (kX7_off l g _ _ _ _ _ _ a p (cl s) (rg_s (b2i_t' c_17)).1 hM3) (by decide) rfl rfl (by decide) (by decide) (by simp [Value.category]) rfl rfl (by decide +kernel) ?_
          refine x_istore dX7_audit_55 (by decide) ?_
          refine x_aload_n dX7_audit_57 rfl ?_
          refine x_getf dX7_audit_58 flX7_7 rfl rfl ?_
          refine x_iconst (v := 4) dX7_audit_61 (by decide) ?_
          refine x_iload_n dX7_audit_62 rfl ?_
          refine x_imul dX7_audit_63 ?_
          refine x_iconst (v := 3) dX7_audit_64 (by decide) ?_
          refine x_iadd dX7_audit_65 ?_
          refine x_iar dX7_audit_66 rfl (ix_p4 (c := 3) (mTw_2 (b2i_t' c_6)) (by decide)) ?_
          refine x_istore dX7_audit_67 (by decide) ?_
          refine x_aload_n dX7_audit_69 rfl ?_
          refine x_getf dX7_audit_70 flX7_7 rfl rfl ?_
          refine x_iconst (v := 4) dX7_audit_73 (by decide) ?_
          refine x_iload_n dX7_audit_74 rfl ?_
          refine x_imul dX7_audit_75 ?_
          refine x_iconst (v := 3) dX7_audit_76 (by decide) ?_
          refine x_iadd dX7_audit_77 ?_
          refine x_iload dX7_audit_78 rfl ?_
          refine x_if_ge (tgt := 88) dX7_audit_80 (by decide) (fun c_80 => ?_) (fun c_80 => ?_)
          · refine x_iload dX7_audit_88 rfl ?_
            refine x_if_le (tgt := 100) dX7_audit_90 (by decide) (fun c_90 => ?_) (fun c_90 => ?_)
            · refine x_iload dX7_audit_100 rfl ?_
              refine x_bipush (v := 95) dX7_audit_102 (by decide) ?_
              refine x_icmp_le (tgt := 112) dX7_audit_104 (by decide) (fun c_104 => ?_) (fun c_104 => ?_)
              · refine x_iload dX7_audit_112 rfl ?_
                refine x_iconst (v := 5) dX7_audit_114 (by decide) ?_
                refine x_iadd dX7_audit_115 ?_
                refine x_iaw dX7_audit_116 rfl (ix_p4 (c := 3) (mTw_2 (b2i_t' c_6)) (by decide)) ?_
                refine x_iload dX7_audit_117 rfl ?_
                refine x_if_le (tgt := 126) dX7_audit_119 (by decide) (fun c_119 => ?_) (fun c_119 => ?_)
                · refine x_iconst (v := 1) dX7_audit_126 (by decide) ?_
                  exact x_reti dX7_audit_127 rfl rfl rfl (⟨_, rfl, by (try simp only [b2i_eq0, b2i_ne0] at *); first | contradiction | (rw [mC, show (okAm N a p s && okAm2 N a p) = false by simp [okAm, okAm2, *], cond_false] <;> exact ⟨by simp [vAm, okAm, okAm2, *], rfl⟩) | (rw [mC, show (okAm N a p s && okAm2 N a p) = true by simp [okAm, okAm2, *], cond_true] <;> exact ⟨by simp [vAm, okAm, okAm2, *], by simp [mAuN, mTr, *] <;> rfl⟩)⟩)
                · refine x_iconst (v := 0) dX7_audit_122 (by decide) ?_
                  refine x_goto (tgt := 127) dX7_audit_123 (by decide) ?_
                  exact x_reti dX7_audit_127 rfl rfl rfl (⟨_, rfl, by (try simp only [b2i_eq0, b2i_ne0] at *); first | contradiction | (rw [mC, show (okAm N a p s && okAm2 N a p) = false by simp [okAm, okAm2, *], cond_false] <;> exact ⟨by simp [vAm, okAm, okAm2, *], rfl⟩) | (rw [mC, show (okAm N a p s && okAm2 N a p) = true by simp [okAm, okAm2, *], cond_true] <;> exact ⟨by simp [vAm, okAm, okAm2, *], by simp [mAuN, mTr, *] <;> rfl⟩)⟩)
              · refine x_bipush (v := 100) dX7_audit_107 (by decide) ?_
                refine x_goto (tgt := 116) dX7_audit_109 (by decide) ?_
                refine x_iaw dX7_audit_116 rfl (ix_p4 (c := 3) (mTw_2 (b2i_t' c_6)) (by decide)) ?_
                refine x_iload dX7_audit_117 rfl ?_
                refine x_if_le (tgt := 126) dX7_audit_119 (by decide) (fun c_119 => ?_) (fun c_119 => ?_)
                · refine x_iconst (v := 1) dX7_audit_126 (by decide) ?_
                  exact x_reti dX7_audit_127 rfl rfl rfl (⟨_, rfl, by (try simp only [b2i_eq0, b2i_ne0] at *); first | contradiction | (rw [mC, show (okAm N a p s && okAm2 N a p) = false by simp [okAm, okAm2, *], cond_false] <;> exact ⟨by simp [vAm, okAm, okAm2, *], rfl⟩) | (rw [mC, show (okAm N a p s && okAm2 N a p) = true by simp [okAm, okAm2, *], cond_true] <;> exact ⟨by simp [vAm, okAm, okAm2, *], by simp [mAuN, mTr, *] <;> rfl⟩)⟩)
                · refine x_iconst (v := 0) dX7_audit_122 (by decide) ?_
                  refine x_goto (tgt := 127) dX7_audit_123 (by decide) ?_
                  exact x_reti dX7_audit_127 rfl rfl rfl (⟨_, rfl, by (try simp only [b2i_eq0, b2i_ne0] at *); first | contradiction | (rw [mC, show (okAm N a p s && okAm2 N a p) = false by simp [okAm, okAm2, *], cond_false] <;> exact ⟨by simp [vAm, okAm, okAm2, *], rfl⟩) | (rw [mC, show (okAm N a p s && okAm2 N a p) = true by simp [okAm, okAm2, *], cond_true] <;> exact ⟨by simp [vAm, okAm, okAm2, *], by simp [mAuN, mTr, *] <;> rfl⟩)⟩)
            · refine x_iload dX7_audit_93 rfl ?_
              refine x_iconst (v := 2) dX7_audit_95 (by decide) ?_
              refine x_idiv dX7_audit_96 (by decide) ?_
              refine x_goto (tgt := 116) dX7_audit_97 (by decide) ?_
              refine x_iaw dX7_audit_116 rfl (ix_p4 (c := 3) (mTw_2 (b2i_t' c_6)) (by decide)) ?_
              refine x_iload dX7_audit_117 rfl ?_
              refine x_if_le (tgt := 126) dX7_audit_119 (by decide) (fun c_119 => ?_) (fun c_119 => ?_)
              · refine x_iconst (v := 1) dX7_audit_126 (by decide) ?_
                exact x_reti dX7_audit_127 rfl rfl rfl (⟨_, rfl, by (try simp only [b2i_eq0, b2i_ne0] at *); first | contradiction | (rw [mC, show (okAm N a p s && okAm2 N a p) = false by simp [okAm, okAm2, *], cond_false] <;> exact ⟨by simp [vAm, okAm, okAm2, *], rfl⟩) | (rw [mC, show (okAm N a p s && okAm2 N a p) = true by simp [okAm, okAm2, *], cond_true] <;> exact ⟨by simp [vAm, okAm, okAm2, *], by simp [mAuN, mTr, *] <;> rfl⟩)⟩)
              · refine x_iconst (v := 0) dX7_audit_122 (by decide) ?_
                refine x_goto (tgt := 127) dX7_audit_123 (by decide) ?_
                exact x_reti dX7_audit_127 rfl rfl rfl (⟨_, rfl, by (try simp only [b2i_eq0, b2i_ne0] at *); first | contradiction | (rw [mC, show (okAm N a p s && okAm2 N a p) = false by simp [okAm, okAm2, *], cond_false] <;> exact ⟨by simp [vAm, okAm, okAm2, *], rfl⟩) | (rw [mC, show (okAm N a p s && okAm2 N a p) = true by simp [okAm, okAm2, *], cond_true] <;> exact ⟨by simp [vAm, okAm, okAm2, *], by simp [mAuN, mTr, *] <;> rfl⟩)⟩)
          · refine x_iload dX7_audit_83 rfl ?_
            refine x_goto (tgt := 116) dX7_audit_85 (by decide) ?_
            refine x_iaw dX7_audit_116 rfl (ix_p4 (c := 3) (mTw_2 (b2i_t' c_6)) (by decide)) ?_
            refine x_iload dX7_audit_117 rfl ?_
            refine x_if_le (tgt := 126) dX7_audit_119 (by decide) (fun c_119 => ?_) (fun c_119 => ?_)
            · refine x_iconst (v := 1) dX7_audit_126 (by decide) ?_
              exact x_reti dX7_audit_127 rfl rfl rfl (⟨_, rfl, by (try simp only [b2i_eq0, b2i_ne0] at *); first | contradiction | (rw [mC, show (okAm N a p s && okAm2 N a p) = false by simp [okAm, okAm2, *], cond_false] <;> exact ⟨by simp [vAm, okAm, okAm2, *], rfl⟩) | (rw [mC, show (okAm N a p s && okAm2 N a p) = true by simp [okAm, okAm2, *], cond_true] <;> exact ⟨by simp [vAm, okAm, okAm2, *], by simp [mAuN, mTr, *] <;> rfl⟩)⟩)
            · refine x_iconst (v := 0) dX7_audit_122 (by decide) ?_
              refine x_goto (tgt := 127) dX7_audit_123 (by decide) ?_
              exact x_reti dX7_audit_127 rfl rfl rfl (⟨_, rfl, by (try simp only [b2i_eq0, b2i_ne0] at *); first | contradiction | (rw [mC, show (okAm N a p s && okAm2 N a p) = false by simp [okAm, okAm2, *], cond_false] <;> exact ⟨by simp [vAm, okAm, okAm2, *], rfl⟩) | (rw [mC, show (okAm N a p s && okAm2 N a p) = true by simp [okAm, okAm2, *], cond_true] <;> exact ⟨by simp [vAm, okAm, okAm2, *], by simp [mAuN, mTr, *] <;> rfl⟩)⟩)
        · refine x_sipush (v := -10002) dX7_audit_40 (by decide) ?_
          exact x_reti dX7_audit_43 rfl rfl rfl (⟨_, rfl, by (try simp only [b2i_eq0, b2i_ne0] at *); first | contradiction | (rw [mC, show (okAm N a p s && okAm2 N a p) = false by simp [okAm, okAm2, *], cond_false] <;> exact ⟨by simp [vAm, okAm, okAm2, *], rfl⟩) | (rw [mC, show (okAm N a p s && okAm2 N a p) = true by simp [okAm, okAm2, *], cond_true] <;> exact ⟨by simp [vAm, okAm, okAm2, *], by simp [mAuN, mTr, *] <;> rfl⟩)⟩)
    · refine x_sipush (v := -10001) dX7_audit_20 (by decide) ?_
      exact x_reti dX7_audit_23 rfl rfl rfl (⟨_, rfl, by (try simp only [b2i_eq0, b2i_ne0] at *); first | contradiction | (rw [mC, show (okAm N a p s && okAm2 N a p) = false by simp [okAm, okAm2, *], cond_false] <;> exact ⟨by simp [vAm, okAm, okAm2, *], rfl⟩) | (rw [mC, show (okAm N a p s && okAm2 N a p) = true by simp [okAm, okAm2, *], cond_true] <;> exact ⟨by simp [vAm, okAm, okAm2, *], by simp [mAuN, mTr, *] <;> rfl⟩)⟩)

set_option maxRecDepth 100000 in
set_option maxHeartbeats 4000000 in
theorem lpX7_passingSeeds (l : Launch) (g : XG) (N A Z B : Nat → Int32) (u : Int32) (L : Nat → Int32) (a p : Int32) (hM3 : MOk3 N) (hx : mTw N a p = true) : XA l g MX7_passingSeeds (Qp (vPSm N a p) (wM N A Z B u L)) 18 ((fun i => [some (.ref 0), some (.int a), some (.int p), some (.int (nI (cntB (fun s => decide (¬ 0 < ofV N a p s)) i))), some (.int (nI i))]) 0) ((fun _ => []) 0) ((fun _ => wM N A Z B u L) 0) 0 0 := by
  refine x_for 257 (fun _ => True) (fun i => [some (.ref 0), some (.int a), some (.int p), some (.int (nI (cntB (fun s => decide (¬ 0 < ofV N a p s)) i))), some (.int (nI i))]) (fun _ => []) (fun _ => wM N A Z B u L) trivial (fun i hi hp ih => ?_) (fun hp => ?_)
  · refine x_iload dX7_passingSeeds_18 rfl ?_
    refine x_sipush (v := 257) dX7_passingSeeds_20 (by decide) ?_
    refine x_icmp_ge_f (tgt := 51) dX7_passingSeeds_23 (by decide) (nI_nle_of rfl (by decide) hi) ?_
    refine x_iload_n dX7_passingSeeds_26 rfl ?_
    refine x_aload_n dX7_passingSeeds_27 rfl ?_
    refine x_iload_n dX7_passingSeeds_28 rfl ?_
    refine x_iload_n dX7_passingSeeds_29 rfl ?_
    refine x_iload dX7_passingSeeds_30 rfl ?_
    refine x_callp [0, 1, 2, 3, 4, 5] (x_iV dX7_passingSeeds_32 mlX7_121 lbX7_off rfl rfl rfl rfl) (kX7_off l g _ _ _ _ _ _ a p i hi hM3) (by decide) rfl rfl (by decide) (by decide) (by simp [Value.category]) rfl rfl (by decide +kernel) ?_
    refine x_if_gt (tgt := 42) dX7_passingSeeds_35 (by decide) (fun c_35 => ?_) (fun c_35 => ?_)
    · refine x_iconst (v := 0) dX7_passingSeeds_42 (by decide) ?_
      refine x_iadd dX7_passingSeeds_43 ?_
      first | rw [nI_1] | rw [Int32.add_zero]
      refine x_istore_n dX7_passingSeeds_44 (by decide) ?_
      first | refine x_iinc dX7_passingSeeds_45 (by decide) rfl (nI_inc _) ?_ | refine x_iinc dX7_passingSeeds_45 (by decide) rfl (inc_1 _) ?_
      refine x_goto (tgt := 18) dX7_passingSeeds_48 (by decide) ?_
      refine x_eq (ih trivial) ?_ rfl rfl
      first | (rw [cntB_t (f := fun s => decide (¬ 0 < ofV N a p s)) (n := i) (by simp only [c_35]; rfl)] <;> rfl) | (rw [cntB_f (f := fun s => decide (¬ 0 < ofV N a p s)) (n := i) (by simp only [c_35]; rfl)] <;> rfl)
    · refine x_iconst (v := 1) dX7_passingSeeds_38 (by decide) ?_
      refine x_goto (tgt := 43) dX7_passingSeeds_39 (by decide) ?_
      refine x_iadd dX7_passingSeeds_43 ?_
      first | rw [nI_1] | rw [Int32.add_zero]
      refine x_istore_n dX7_passingSeeds_44 (by decide) ?_
      first | refine x_iinc dX7_passingSeeds_45 (by decide) rfl (nI_inc _) ?_ | refine x_iinc dX7_passingSeeds_45 (by decide) rfl (inc_1 _) ?_
      refine x_goto (tgt := 18) dX7_passingSeeds_48 (by decide) ?_
      refine x_eq (ih trivial) ?_ rfl rfl
      first | (rw [cntB_t (f := fun s => decide (¬ 0 < ofV N a p s)) (n := i) (by simp only [c_35]; rfl)] <;> rfl) | (rw [cntB_f (f := fun s => decide (¬ 0 < ofV N a p s)) (n := i) (by simp only [c_35]; rfl)] <;> rfl)
  · refine x_iload dX7_passingSeeds_18 rfl ?_
    refine x_sipush (v := 257) dX7_passingSeeds_20 (by decide) ?_
    refine x_icmp_ge_t (tgt := 51) dX7_passingSeeds_23 (by decide) (nI_le_of rfl (by decide) (Nat.le_refl _)) ?_
    refine x_iload_n dX7_passingSeeds_51 rfl ?_
    exact x_reti dX7_passingSeeds_52 rfl rfl rfl (⟨by rw [vPSm, if_pos hx], rfl⟩)

set_option maxRecDepth 100000 in
set_option maxHeartbeats 4000000 in
theorem kX7_passingSeeds (l : Launch) (g : XG) (N A Z B : Nat → Int32) (u : Int32) (L : Nat → Int32) (a p : Int32) (hM3 : MOk3 N) : Ct l g MX7_passingSeeds [.ref 0, .int a, .int p] (wM N A Z B u L) (Qp (vPSm N a p) (wM N A Z B u L)) := by
  refine Ct_of (by decide) (by simp [Value.category]) (Nat.le_of_ble_eq_true rfl) ?_
  refine x_aload_n dX7_passingSeeds_0 rfl ?_
  refine x_iload_n dX7_passingSeeds_1 rfl ?_
  refine x_iload_n dX7_passingSeeds_2 rfl ?_
  refine x_callp [0, 1, 2, 3, 4, 5] (x_iV dX7_passingSeeds_3 mlX7_118 lbX7_arePeers rfl rfl rfl rfl) (kX7_arePeers l g _ _ _ _ _ _ _ _) (by decide) rfl rfl (by decide) (by decide) (by simp [Value.category]) rfl rfl (by decide +kernel) ?_
  refine x_if_ne (tgt := 13) dX7_passingSeeds_6 (by decide) (fun c_6 => ?_) (fun c_6 => ?_)
  · refine x_iconst (v := 0) dX7_passingSeeds_13 (by decide) ?_
    refine x_istore_n dX7_passingSeeds_14 (by decide) ?_
    refine x_iconst (v := 0) dX7_passingSeeds_15 (by decide) ?_
    refine x_istore dX7_passingSeeds_16 (by decide) ?_
    exact lpX7_passingSeeds l g N A Z B u L a p hM3 (b2i_t' c_6)
  · refine x_sipush (v := -10001) dX7_passingSeeds_9 (by decide) ?_
    exact x_reti dX7_passingSeeds_12 rfl rfl rfl (⟨by rw [vPSm, if_neg (by simp [b2i_f' c_6])], rfl⟩)
