theorem mIv_ex {N : Nat → Int32} {f i : Int32} (hM3 : MOk3 N) (h : mIv N f i = true) : ∃ a b, a < 8 ∧ b < cl (N (192 + 30 * a + 2)) ∧ b < 6 ∧ f = nI a ∧ i = nI b := by
  simp only [mIv, Bool.and_eq_true] at h
  obtain ⟨a, ha, rfl⟩ := mFi_ex h.1
  have h3 := h.2
  rw [cl_nI (by omega)] at h3
  have h4 := (hM3 a ha).1
  obtain ⟨b, hb, rfl⟩ := rg_ex h4.1 (by have := h4.2.1; omega) h3
  exact ⟨a, b, ha, hb, by have := h4.2.1; omega, rfl, rfl⟩
theorem rg_001 : rgB 0 0 1 = true := by decide
theorem rg_306 : rgB 3 0 6 = true := by decide
theorem rg_406 : rgB 4 0 6 = true := by decide
theorem rg_506 : rgB 5 0 6 = true := by decide
theorem rg_005 : rgB 0 0 5 = true := by decide
theorem rg_105 : rgB 1 0 5 = true := by decide
theorem rg_205 : rgB 2 0 5 = true := by decide
theorem rg_305 : rgB 3 0 5 = true := by decide
theorem rg_405 : rgB 4 0 5 = true := by decide
def vPIm (N : Nat → Int32) (p w : Int32) : Int32 := if mPe N p && rgB w 0 5 then (if w = 0 then N (4 * cl p + 1) else if w = 1 then mFe N p else if w = 2 then N (4 * cl p + 2) else if w = 3 then N (4 * cl p + 3) else if w = 4 then mOw N p else sumI (fun q => N (48 + (12 * cl p + q))) 12) else -10001
def okWm (N : Nat → Int32) (w : Int32) : Bool := rgB w 0 255 && decide (¬ N 432 = 6)
def mWo (N : Nat → Int32) (w : Int32) : Nat → Int32 := upd (upd N 432 (N 432 + 1)) (432 + (cl (N 432) + 1)) w
def vWm (N : Nat → Int32) (w : Int32) : Int32 := if rgB w 0 255 then (if N 432 = 6 then -10003 else mWo N w 432) else -10001

set_option maxRecDepth 100000 in
set_option maxHeartbeats 4000000 in
theorem kX7_fragment (l : Launch) (g : XG) (N A Z B : Nat → Int32) (u : Int32) (L : Nat → Int32) (f i w : Int32) (hM : MOk N) (hM2 : MOk2 N) (hM3 : MOk3 N) : Ct l g MX7_fragment [.ref 0, .int f, .int i, .int w] (wM N A Z B u L) (Qp (vFm N f i w) (wM N A Z B u L)) := by
  refine Ct_of (by decide) (by simp [Value.category]) (Nat.le_of_ble_eq_true rfl) ?_
  refine x_aload_n dX7_fragment_0 rfl ?_
  refine x_iload_n dX7_fragment_1 rfl ?_
  refine x_iload_n dX7_fragment_2 rfl ?_
  refine x_callp [0, 1, 2, 3, 4, 5] (x_iV dX7_fragment_3 mlX7_109 lbX7_isFragment rfl rfl rfl rfl) (kX7_isFragment l g _ _ _ _ _ _ _ _) (by decide) rfl rfl (by decide) (by decide) (by simp [Value.category]) rfl rfl (by decide +kernel) ?_
  refine x_if_eq (tgt := 18) dX7_fragment_6 (by decide) (fun c_6 => ?_) (fun c_6 => ?_)
  · refine x_sipush (v := -10001) dX7_fragment_18 (by decide) ?_
    exact x_reti dX7_fragment_21 rfl rfl rfl (⟨by (try simp only [b2i_eq0, b2i_ne0] at *); simp [vFm, *], rfl⟩)
  · refine x_iload_n dX7_fragment_9 rfl ?_
    refine x_iconst (v := 0) dX7_fragment_10 (by decide) ?_
    refine x_iconst (v := 1) dX7_fragment_11 (by decide) ?_
    refine x_callp [] (x_iS dX7_fragment_12 mlX7_25 lbX7_in rfl) (kX7_in l g _ _ _) (by decide) rfl rfl (by decide) (by decide) (by simp [Value.category]) rfl rfl (by decide +kernel) ?_
    refine x_if_ne (tgt := 22) dX7_fragment_15 (by decide) (fun c_15 => ?_) (fun c_15 => ?_)
    · obtain ⟨f, i, hf, hif, hi, rfl, rfl⟩ := mIf_ex hM hM2 (b2i_t' c_6)
      have hcf : cl (nI f) = f := cl_nI (by omega)
      have hci : cl (nI i) = i := cl_nI (by omega)
      refine x_aload_n dX7_fragment_22 rfl ?_
      refine x_iload_n dX7_fragment_23 rfl ?_
      refine x_bipush (v := 10) dX7_fragment_24 (by decide) ?_
      refine x_iload_n dX7_fragment_26 rfl ?_
      refine x_iadd dX7_fragment_27 ?_
      rw [ad10]
      refine x_callp [0, 1, 2, 3, 4, 5] (x_iV dX7_fragment_28 mlX7_29 lbX7_of rfl rfl rfl rfl) (kX7_of l g _ _ _ _ _ _ f (10 + i) hf (by omega)) (by decide) rfl rfl (by decide) (by decide) (by simp [Value.category]) rfl rfl (by decide +kernel) ?_
      refine x_if_ge (tgt := 38) dX7_fragment_31 (by decide) (fun c_31 => ?_) (fun c_31 => ?_)
      · refine x_iload_n dX7_fragment_38 rfl ?_
        refine x_if_ne (tgt := 54) dX7_fragment_39 (by decide) (fun c_39 => ?_) (fun c_39 => ?_)
        · refine x_aload_n dX7_fragment_54 rfl ?_
          refine x_iload_n dX7_fragment_55 rfl ?_
          refine x_iload_n dX7_fragment_56 rfl ?_
          refine x_callp [0, 1, 2, 3, 4, 5] (x_iV dX7_fragment_57 mlX7_112 lbX7_valueOf rfl rfl rfl rfl) (kX7_valueOf l g _ _ _ _ _ _ f (cl (N (192 + 30 * f + 2))) i (cl (N (192 + 30 * f + (20 + i)))) (fun d => cl (N (192 + 30 * f + (4 + d)))) hf hi (hM3 f hf).1 ((hM3 f hf).2 i hi).1 ((hM3 f hf).2 i hi).2) (by decide) rfl rfl (by decide) (by decide) (by simp [Value.category]) rfl rfl (by decide +kernel) ?_
          exact x_reti dX7_fragment_60 rfl rfl rfl (⟨by have hcf : cl (nI f) = f := cl_nI (by omega); have hci : cl (nI i) = i := cl_nI (by omega); (try simp only [b2i_eq0, b2i_ne0] at *); simp [vFm, mVal, hcf, hci, rg_001, *], rfl⟩)
        · refine x_aload_n dX7_fragment_42 rfl ?_
          refine x_iload_n dX7_fragment_43 rfl ?_
          refine x_bipush (v := 10) dX7_fragment_44 (by decide) ?_
          refine x_iload_n dX7_fragment_46 rfl ?_
          refine x_iadd dX7_fragment_47 ?_
          rw [ad10]
          refine x_callp [0, 1, 2, 3, 4, 5] (x_iV dX7_fragment_48 mlX7_29 lbX7_of rfl rfl rfl rfl) (kX7_of l g _ _ _ _ _ _ f (10 + i) hf (by omega)) (by decide) rfl rfl (by decide) (by decide) (by simp [Value.category]) rfl rfl (by decide +kernel) ?_
          refine x_goto (tgt := 60) dX7_fragment_51 (by decide) ?_
          exact x_reti dX7_fragment_60 rfl rfl rfl (⟨by have hcf : cl (nI f) = f := cl_nI (by omega); have hci : cl (nI i) = i := cl_nI (by omega); (try simp only [b2i_eq0, b2i_ne0] at *); simp [vFm, mVal, hcf, hci, rg_001, *], rfl⟩)
      · refine x_sipush (v := -10004) dX7_fragment_34 (by decide) ?_
        exact x_reti dX7_fragment_37 rfl rfl rfl (⟨by have hcf : cl (nI f) = f := cl_nI (by omega); have hci : cl (nI i) = i := cl_nI (by omega); (try simp only [b2i_eq0, b2i_ne0] at *); simp [vFm, mVal, hcf, hci, rg_001, *], rfl⟩)
    · refine x_sipush (v := -10001) dX7_fragment_18 (by decide) ?_
      exact x_reti dX7_fragment_21 rfl rfl rfl (⟨by (try simp only [b2i_eq0, b2i_ne0] at *); simp [vFm, *], rfl⟩)

set_option maxRecDepth 100000 in
set_option maxHeartbeats 4000000 in
theorem kX7_read (l : Launch) (g : XG) (N A Z B : Nat → Int32) (u : Int32) (L : Nat → Int32) (f i : Int32) (hM : MOk N) (hM3 : MOk3 N) : Ct l g MX7_read [.ref 0, .int f, .int i] (wM N A Z B u L) (Qp (vRm N f i) (wM N A Z B u L)) := by
  refine Ct_of (by decide) (by simp [Value.category]) (Nat.le_of_ble_eq_true rfl) ?_
  refine x_aload_n dX7_read_0 rfl ?_
  refine x_iload_n dX7_read_1 rfl ?_
  refine x_callp [0, 1, 2, 3, 4, 5] (x_iV dX7_read_2 mlX7_43 lbX7_isFile rfl rfl rfl rfl) (kX7_isFile l g _ _ _ _ _ _ _) (by decide) rfl rfl (by decide) (by decide) (by simp [Value.category]) rfl rfl (by decide +kernel) ?_
  refine x_if_eq (tgt := 24) dX7_read_5 (by decide) (fun c_5 => ?_) (fun c_5 => ?_)
  · refine x_sipush (v := -10001) dX7_read_24 (by decide) ?_
    exact x_reti dX7_read_27 rfl rfl rfl (⟨by (try simp only [b2i_eq0, b2i_ne0] at *); (try have hcf : cl (nI f) = f := cl_nI (by omega)); simp [vRm, mIv, *], rfl⟩)
  · obtain ⟨f, hf, rfl⟩ := mFi_ex (b2i_t' c_5)
    refine x_iload_n dX7_read_8 rfl ?_
    refine x_iconst (v := 0) dX7_read_9 (by decide) ?_
    refine x_aload_n dX7_read_10 rfl ?_
    refine x_iload_n dX7_read_11 rfl ?_
    refine x_iconst (v := 2) dX7_read_12 (by decide) ?_
    refine x_callp [0, 1, 2, 3, 4, 5] (x_iV dX7_read_13 mlX7_29 lbX7_of rfl rfl rfl rfl) (kX7_of l g _ _ _ _ _ _ f 2 hf (by omega)) (by decide) rfl rfl (by decide) (by decide) (by simp [Value.category]) rfl rfl (by decide +kernel) ?_
    refine x_iconst (v := 1) dX7_read_16 (by decide) ?_
    refine x_isub dX7_read_17 ?_
    refine x_callp [] (x_iS dX7_read_18 mlX7_25 lbX7_in rfl) (kX7_in l g _ _ _) (by decide) rfl rfl (by decide) (by decide) (by simp [Value.category]) rfl rfl (by decide +kernel) ?_
    refine x_if_ne (tgt := 28) dX7_read_21 (by decide) (fun c_21 => ?_) (fun c_21 => ?_)
    · obtain ⟨i, hik, rfl⟩ := rg_ex (hM3 f hf).1.1 (by have := (hM3 f hf).1.2.1; omega) (b2i_t' c_21)
      have hk6 := (hM3 f hf).1.2.1
      have hcf : cl (nI f) = f := cl_nI (by omega)
      have hci : cl (nI i) = i := cl_nI (by omega)
      refine x_aload_n dX7_read_28 rfl ?_
      refine x_iload_n dX7_read_29 rfl ?_
      refine x_callp [0, 1, 2, 3, 4, 5] (x_iV dX7_read_30 mlX7_106 lbX7_isSafe rfl rfl rfl rfl) (kX7_isSafe l g _ _ _ _ _ _ f hf hM) (by decide) rfl rfl (by decide) (by decide) (by simp [Value.category]) rfl rfl (by decide +kernel) ?_
      refine x_if_ne (tgt := 45) dX7_read_33 (by decide) (fun c_33 => ?_) (fun c_33 => ?_)
      · refine x_aload_n dX7_read_45 rfl ?_
        refine x_iload_n dX7_read_46 rfl ?_
        refine x_iconst (v := 4) dX7_read_47 (by decide) ?_
        refine x_iload_n dX7_read_48 rfl ?_
        refine x_iadd dX7_read_49 ?_
        rw [ad4]
        refine x_callp [0, 1, 2, 3, 4, 5] (x_iV dX7_read_50 mlX7_29 lbX7_of rfl rfl rfl rfl) (kX7_of l g _ _ _ _ _ _ f (4 + i) hf (by omega)) (by decide) rfl rfl (by decide) (by decide) (by simp [Value.category]) rfl rfl (by decide +kernel) ?_
        refine x_goto (tgt := 59) dX7_read_53 (by decide) ?_
        exact x_reti dX7_read_59 rfl rfl rfl (⟨by (try simp only [b2i_eq0, b2i_ne0] at *); simp [vRm, mIv, hcf, hci, *], rfl⟩)
      · refine x_aload_n dX7_read_36 rfl ?_
        refine x_iload_n dX7_read_37 rfl ?_
        refine x_iload_n dX7_read_38 rfl ?_
        refine x_callp [0, 1, 2, 3, 4, 5] (x_iV dX7_read_39 mlX7_54 lbX7_isGood rfl rfl rfl rfl) (kX7_isGood l g _ _ _ _ _ _ f i hf (by omega) hM) (by decide) rfl rfl (by decide) (by decide) (by simp [Value.category]) rfl rfl (by decide +kernel) ?_
        refine x_if_eq (tgt := 56) dX7_read_42 (by decide) (fun c_42 => ?_) (fun c_42 => ?_)
        · refine x_sipush (v := -10002) dX7_read_56 (by decide) ?_
          exact x_reti dX7_read_59 rfl rfl rfl (⟨by (try simp only [b2i_eq0, b2i_ne0] at *); simp [vRm, mIv, hcf, hci, *], rfl⟩)
        · refine x_aload_n dX7_read_45 rfl ?_
          refine x_iload_n dX7_read_46 rfl ?_
          refine x_iconst (v := 4) dX7_read_47 (by decide) ?_
          refine x_iload_n dX7_read_48 rfl ?_
          refine x_iadd dX7_read_49 ?_
          rw [ad4]
          refine x_callp [0, 1, 2, 3, 4, 5] (x_iV dX7_read_50 mlX7_29 lbX7_of rfl rfl rfl rfl) (kX7_of l g _ _ _ _ _ _ f (4 + i) hf (by omega)) (by decide) rfl rfl (by decide) (by decide) (by simp [Value.category]) rfl rfl (by decide +kernel) ?_
          refine x_goto (tgt := 59) dX7_read_53 (by decide) ?_
          exact x_reti dX7_read_59 rfl rfl rfl (⟨by (try simp only [b2i_eq0, b2i_ne0] at *); simp [vRm, mIv, hcf, hci, *], rfl⟩)
    · refine x_sipush (v := -10001) dX7_read_24 (by decide) ?_
      exact x_reti dX7_read_27 rfl rfl rfl (⟨by (try simp only [b2i_eq0, b2i_ne0] at *); (try have hcf : cl (nI f) = f := cl_nI (by omega)); simp [vRm, mIv, *], rfl⟩)

set_option maxRecDepth 100000 in
set_option maxHeartbeats 4000000 in
theorem kX7_fileInfo (l : Launch) (g : XG) (N A Z B : Nat → Int32) (u : Int32) (L : Nat → Int32) (f w : Int32) (hM : MOk N) : Ct l g MX7_fileInfo [.ref 0, .int f, .int w] (wM N A Z B u L) (Qp (vFIm N f w) (wM N A Z B u L)) := by
  refine Ct_of (by decide) (by simp [Value.category]) (Nat.le_of_ble_eq_true rfl) ?_
  refine x_aload_n dX7_fileInfo_0 rfl ?_
  refine x_iload_n dX7_fileInfo_1 rfl ?_
  refine x_callp [0, 1, 2, 3, 4, 5] (x_iV dX7_fileInfo_2 mlX7_43 lbX7_isFile rfl rfl rfl rfl) (kX7_isFile l g _ _ _ _ _ _ _) (by decide) rfl rfl (by decide) (by decide) (by simp [Value.category]) rfl rfl (by decide +kernel) ?_
  refine x_if_eq (tgt := 18) dX7_fileInfo_5 (by decide) (fun c_5 => ?_) (fun c_5 => ?_)
  · refine x_sipush (v := -10001) dX7_fileInfo_18 (by decide) ?_
    exact x_reti dX7_fileInfo_21 rfl rfl rfl (⟨by (try simp only [b2i_eq0, b2i_ne0] at *); simp [vFIm, *], rfl⟩)
  · refine x_iload_n dX7_fileInfo_8 rfl ?_
    refine x_iconst (v := 0) dX7_fileInfo_9 (by decide) ?_
    refine x_bipush (v := 6) dX7_fileInfo_10 (by decide) ?_
    refine x_callp [] (x_iS dX7_fileInfo_12 mlX7_25 lbX7_in rfl) (kX7_in l g _ _ _) (by decide) rfl rfl (by decide) (by decide) (by simp [Value.category]) rfl rfl (by decide +kernel) ?_
    refine x_if_ne (tgt := 22) dX7_fileInfo_15 (by decide) (fun c_15 => ?_) (fun c_15 => ?_)
    · obtain ⟨f, hf, rfl⟩ := mFi_ex (b2i_t' c_5)
      refine x_iload_n dX7_fileInfo_22 rfl ?_
      refine x_iconst (v := 3) dX7_fileInfo_23 (by decide) ?_
      refine x_icmp_ge (tgt := 38) dX7_fileInfo_24 (by decide) (fun c_24 => ?_) (fun c_24 => ?_)
      · refine x_iload_n dX7_fileInfo_38 rfl ?_
        refine x_iconst (v := 3) dX7_fileInfo_39 (by decide) ?_
        refine x_icmp_ne (tgt := 51) dX7_fileInfo_40 (by decide) (fun c_40 => ?_) (fun c_40 => ?_)
        · refine x_iload_n dX7_fileInfo_51 rfl ?_
          refine x_iconst (v := 4) dX7_fileInfo_52 (by decide) ?_
          refine x_icmp_ne (tgt := 64) dX7_fileInfo_53 (by decide) (fun c_53 => ?_) (fun c_53 => ?_)
          · refine x_iload_n dX7_fileInfo_64 rfl ?_
            refine x_iconst (v := 5) dX7_fileInfo_65 (by decide) ?_
            refine x_icmp_ne (tgt := 85) dX7_fileInfo_66 (by decide) (fun c_66 => ?_) (fun c_66 => ?_)
            · refine x_aload_n dX7_fileInfo_85 rfl ?_
              refine x_iload_n dX7_fileInfo_86 rfl ?_
              refine x_callp [0, 1, 2, 3, 4, 5] (x_iV dX7_fileInfo_87 mlX7_58 lbX7_good rfl rfl rfl rfl) (kX7_good l g _ _ _ _ _ _ f hf hM) (by decide) rfl rfl (by decide) (by decide) (by simp [Value.category]) rfl rfl (by decide +kernel) ?_
              refine x_aload_n dX7_fileInfo_90 rfl ?_
              refine x_iload_n dX7_fileInfo_91 rfl ?_
              refine x_iconst (v := 2) dX7_fileInfo_92 (by decide) ?_
              refine x_callp [0, 1, 2, 3, 4, 5] (x_iV dX7_fileInfo_93 mlX7_29 lbX7_of rfl rfl rfl rfl) (kX7_of l g _ _ _ _ _ _ f 2 hf (by omega)) (by decide) rfl rfl (by decide) (by decide) (by simp [Value.category]) rfl rfl (by decide +kernel) ?_
              refine x_isub dX7_fileInfo_96 ?_
              exact x_reti dX7_fileInfo_97 rfl rfl rfl (⟨by have hcf : cl (nI f) = f := cl_nI (by omega); (try simp only [b2i_eq0, b2i_ne0] at *); simp [vFIm, b2i, hcf, rg_306, rg_406, rg_506, *], rfl⟩)
            · refine x_aload_n dX7_fileInfo_69 rfl ?_
              refine x_iload_n dX7_fileInfo_70 rfl ?_
              refine x_callp [0, 1, 2, 3, 4, 5] (x_iV dX7_fileInfo_71 mlX7_106 lbX7_isSafe rfl rfl rfl rfl) (kX7_isSafe l g _ _ _ _ _ _ f hf hM) (by decide) rfl rfl (by decide) (by decide) (by simp [Value.category]) rfl rfl (by decide +kernel) ?_
              refine x_if_eq (tgt := 81) dX7_fileInfo_74 (by decide) (fun c_74 => ?_) (fun c_74 => ?_)
              · refine x_iconst (v := 0) dX7_fileInfo_81 (by decide) ?_
                refine x_goto (tgt := 97) dX7_fileInfo_82 (by decide) ?_
                exact x_reti dX7_fileInfo_97 rfl rfl rfl (⟨by have hcf : cl (nI f) = f := cl_nI (by omega); (try simp only [b2i_eq0, b2i_ne0] at *); simp [vFIm, b2i, hcf, rg_306, rg_406, rg_506, *], rfl⟩)
              · refine x_iconst (v := 1) dX7_fileInfo_77 (by decide) ?_
                refine x_goto (tgt := 97) dX7_fileInfo_78 (by decide) ?_
                exact x_reti dX7_fileInfo_97 rfl rfl rfl (⟨by have hcf : cl (nI f) = f := cl_nI (by omega); (try simp only [b2i_eq0, b2i_ne0] at *); simp [vFIm, b2i, hcf, rg_306, rg_406, rg_506, *], rfl⟩)
          · refine x_aload_n dX7_fileInfo_56 rfl ?_
            refine x_iload_n dX7_fileInfo_57 rfl ?_
            refine x_callp [0, 1, 2, 3, 4, 5] (x_iV dX7_fileInfo_58 mlX7_58 lbX7_good rfl rfl rfl rfl) (kX7_good l g _ _ _ _ _ _ f hf hM) (by decide) rfl rfl (by decide) (by decide) (by simp [Value.category]) rfl rfl (by decide +kernel) ?_
            refine x_goto (tgt := 97) dX7_fileInfo_61 (by decide) ?_
            exact x_reti dX7_fileInfo_97 rfl rfl rfl (⟨by have hcf : cl (nI f) = f := cl_nI (by omega); (try simp only [b2i_eq0, b2i_ne0] at *); simp [vFIm, b2i, hcf, rg_306, rg_406, rg_506, *], rfl⟩)
        · refine x_aload_n dX7_fileInfo_43 rfl ?_
          refine x_iload_n dX7_fileInfo_44 rfl ?_
          refine x_callp [0, 1, 2, 3, 4, 5] (x_iV dX7_fileInfo_45 mlX7_103 lbX7_storedOf rfl rfl rfl rfl) (kX7_storedOf l g _ _ _ _ _ _ f hf hM) (by decide) rfl rfl (by decide) (by decide) (by simp [Value.category]) rfl rfl (by decide +kernel) ?_
          refine x_goto (tgt := 97) dX7_fileInfo_48 (by decide) ?_
          exact x_reti dX7_fileInfo_97 rfl rfl rfl (⟨by have hcf : cl (nI f) = f := cl_nI (by omega); (try simp only [b2i_eq0, b2i_ne0] at *); simp [vFIm, b2i, hcf, rg_306, rg_406, rg_506, *], rfl⟩)
      · refine x_aload_n dX7_fileInfo_27 rfl ?_
        refine x_iload_n dX7_fileInfo_28 rfl ?_
        refine x_iload_n dX7_fileInfo_29 rfl ?_
        refine x_iconst (v := 1) dX7_fileInfo_30 (by decide) ?_
        refine x_iadd dX7_fileInfo_31 ?_
        obtain ⟨w, hw, rfl⟩ : ∃ k : Nat, k < 3 ∧ w = nI k := by
          have h0 := b2i_t' c_15
          simp only [rgB, Bool.and_eq_true, decide_eq_true_eq] at h0
          exact vin_ex (vin_of 3 (by decide) rfl h0.1 c_24)
        have hcw : cl (nI w) = w := cl_nI (by omega)
        rw [nI_1]
        refine x_callp [0, 1, 2, 3, 4, 5] (x_iV dX7_fileInfo_32 mlX7_29 lbX7_of rfl rfl rfl rfl) (kX7_of l g _ _ _ _ _ _ f (w + 1) hf (by omega)) (by decide) rfl rfl (by decide) (by decide) (by simp [Value.category]) rfl rfl (by decide +kernel) ?_
        refine x_goto (tgt := 97) dX7_fileInfo_35 (by decide) ?_
        exact x_reti dX7_fileInfo_97 rfl rfl rfl (⟨by have hcf : cl (nI f) = f := cl_nI (by omega); (try simp only [b2i_eq0, b2i_ne0] at *); simp [vFIm, b2i, hcf, rg_306, rg_406, rg_506, *], rfl⟩)
    · refine x_sipush (v := -10001) dX7_fileInfo_18 (by decide) ?_
      exact x_reti dX7_fileInfo_21 rfl rfl rfl (⟨by (try simp only [b2i_eq0, b2i_ne0] at *); simp [vFIm, *], rfl⟩)

set_option maxRecDepth 100000 in
set_option maxHeartbeats 4000000 in
theorem kX7_word (l : Launch) (g : XG) (N A Z B : Nat → Int32) (u : Int32) (L : Nat → Int32) (w : Int32) (k : Nat) (hk : k ≤ 6) (hN : N 432 = nI k) : Ct l g MX7_word [.ref 0, .int w] (wM N A Z B u L) (Qi (fun v w1 => v = vWm N w ∧ w1 = wM (cond (okWm N w) (mWo N w) N) A Z B u L)) := by
  refine Ct_of (by decide) (by simp [Value.category]) (Nat.le_of_ble_eq_true rfl) ?_
  refine x_iload_n dX7_word_0 rfl ?_
  refine x_iconst (v := 0) dX7_word_1 (by decide) ?_
  refine x_sipush (v := 255) dX7_word_2 (by decide) ?_
  refine x_callp [] (x_iS dX7_word_5 mlX7_25 lbX7_in rfl) (kX7_in l g _ _ _) (by decide) rfl rfl (by decide) (by decide) (by simp [Value.category]) rfl rfl (by decide +kernel) ?_
  refine x_if_ne (tgt := 15) dX7_word_8 (by decide) (fun c_8 => ?_) (fun c_8 => ?_)
  · refine x_aload_n dX7_word_15 rfl ?_
    refine x_getf dX7_word_16 flX7_7 rfl rfl ?_
    refine x_sipush (v := 432) dX7_word_19 (by decide) ?_
    refine x_iar dX7_word_22 rfl (ixl (k := 432) (by decide) (by decide) (by decide)) ?_
    refine x_bipush (v := 6) dX7_word_23 (by decide) ?_
    refine x_icmp_ne (tgt := 32) dX7_word_25 (by decide) (fun c_25 => ?_) (fun c_25 => ?_)
    · refine x_aload_n dX7_word_32 rfl ?_
      refine x_getf dX7_word_33 flX7_7 rfl rfl ?_
      refine x_sipush (v := 432) dX7_word_36 (by decide) ?_
      refine x_dup2 dX7_word_39 rfl rfl ?_
      refine x_iar dX7_word_40 rfl (ixl (k := 432) (by decide) (by decide) (by decide)) ?_
      refine x_iconst (v := 1) dX7_word_41 (by decide) ?_
      refine x_iadd dX7_word_42 ?_
      refine x_iaw dX7_word_43 rfl (ixl (k := 432) (by decide) (by decide) (by decide)) ?_
      refine x_aload_n dX7_word_44 rfl ?_
      refine x_getf dX7_word_45 flX7_7 rfl rfl ?_
      refine x_sipush (v := 432) dX7_word_48 (by decide) ?_
      refine x_aload_n dX7_word_51 rfl ?_
      refine x_getf dX7_word_52 flX7_7 rfl rfl ?_
      refine x_sipush (v := 432) dX7_word_55 (by decide) ?_
      refine x_iar dX7_word_58 rfl (ixl (k := 432) (by decide) (by decide) (by decide)) ?_
      refine x_iadd dX7_word_59 ?_
      refine x_iload_n dX7_word_60 rfl ?_
      refine x_iaw dX7_word_61 rfl (show ix (432 + (if 432 = 432 then N 432 + 1 else N 432)) (432 + (cl (N 432) + 1)) 439 from by have hk2 : ¬ k = 6 := fun z => c_25 (by rw [hN, z]; rfl); rw [if_pos rfl, hN, nI_1, cl_nI (by omega), show (432 : Int32) + nI (k + 1) = nI (432 + (k + 1)) from nI_add 432 _]; exact ix_nI (by omega) (by decide)) ?_
      refine x_aload_n dX7_word_62 rfl ?_
      refine x_getf dX7_word_63 flX7_7 rfl rfl ?_
      refine x_sipush (v := 432) dX7_word_66 (by decide) ?_
      refine x_iar dX7_word_69 rfl (ixl (k := 432) (by decide) (by decide) (by decide)) ?_
      exact x_reti dX7_word_70 rfl rfl rfl (⟨_, rfl, by rw [show okWm N w = true by simp [okWm, c_25, b2i_t' c_8], cond_true]; exact ⟨by simp [vWm, b2i_t' c_8, c_25, mWo], rfl⟩⟩)
    · refine x_sipush (v := -10003) dX7_word_28 (by decide) ?_
      exact x_reti dX7_word_31 rfl rfl rfl (⟨_, rfl, by rw [show okWm N w = false by simp [okWm, c_25], cond_false]; exact ⟨by simp [vWm, b2i_t' c_8, c_25], rfl⟩⟩)
  · refine x_sipush (v := -10001) dX7_word_11 (by decide) ?_
    exact x_reti dX7_word_14 rfl rfl rfl (⟨_, rfl, by rw [show okWm N w = false by simp [okWm, b2i_f' c_8], cond_false]; exact ⟨by simp [vWm, b2i_f' c_8], rfl⟩⟩)

set_option maxRecDepth 100000 in
set_option maxHeartbeats 4000000 in
theorem lqX7_peerInfo (l : Launch) (g : XG) (N A Z B : Nat → Int32) (u : Int32) (L : Nat → Int32) (p w : Int32) (Q0 : Option Value → XW → Prop) (hp2 : vp_in p 12) (hk : XA l g MX7_peerInfo Q0 53 ([some (.ref 0), some (.int p), some (.int w), some (.int (sumI (fun q => N (48 + (12 * cl p + q))) 12)), some (.int (nI 12))]) [] (wM N A Z B u L) 0 0) : XA l g MX7_peerInfo Q0 26 ((fun i => [some (.ref 0), some (.int p), some (.int w), some (.int (sumI (fun q => N (48 + (12 * cl p + q))) i)), some (.int (nI i))]) 0) ((fun _ => []) 0) ((fun _ => wM N A Z B u L) 0) 0 0 := by
  refine x_for 12 (fun _ => True) (fun i => [some (.ref 0), some (.int p), some (.int w), some (.int (sumI (fun q => N (48 + (12 * cl p + q))) i)), some (.int (nI i))]) (fun _ => []) (fun _ => wM N A Z B u L) trivial (fun i hi hp ih => ?_) (fun hp => ?_)
  · refine x_iload dX7_peerInfo_26 rfl ?_
    refine x_bipush (v := 12) dX7_peerInfo_28 (by decide) ?_
    refine x_icmp_ge_f (tgt := 53) dX7_peerInfo_30 (by decide) (nI_nle_of rfl (by decide) hi) ?_
    refine x_iload_n dX7_peerInfo_33 rfl ?_
    refine x_aload_n dX7_peerInfo_34 rfl ?_
    refine x_getf dX7_peerInfo_35 flX7_7 rfl rfl ?_
    refine x_iload_n dX7_peerInfo_38 rfl ?_
    refine x_iload dX7_peerInfo_39 rfl ?_
    refine x_callp [] (x_iS dX7_peerInfo_41 mlX7_40 lbX7_balanceAt rfl) (kX7_balanceAt l g _ _) (by decide) rfl rfl (by decide) (by decide) (by simp [Value.category]) rfl rfl (by decide +kernel) ?_
    refine x_iar dX7_peerInfo_44 rfl (show ix (48 + 12 * p + nI i) (48 + (12 * cl p + i)) 439 from by have := ix_bal hp2 (vin_nI (n := 12) (by decide) hi); rwa [cl_nI (by omega)] at this) ?_
    refine x_iadd dX7_peerInfo_45 ?_
    refine x_istore_n dX7_peerInfo_46 (by decide) ?_
    first | refine x_iinc dX7_peerInfo_47 (by decide) rfl (nI_inc _) ?_ | refine x_iinc dX7_peerInfo_47 (by decide) rfl (inc_1 _) ?_
    refine x_goto (tgt := 26) dX7_peerInfo_50 (by decide) ?_
    exact ih trivial
  · refine x_iload dX7_peerInfo_26 rfl ?_
    refine x_bipush (v := 12) dX7_peerInfo_28 (by decide) ?_
    refine x_icmp_ge_t (tgt := 53) dX7_peerInfo_30 (by decide) (nI_le_of rfl (by decide) (Nat.le_refl _)) ?_
    exact hk

set_option maxRecDepth 100000 in
set_option maxHeartbeats 4000000 in
theorem kX7_peerInfo (l : Launch) (g : XG) (N A Z B : Nat → Int32) (u : Int32) (L : Nat → Int32) (p w : Int32) (hM : MOk N) : Ct l g MX7_peerInfo [.ref 0, .int p, .int w] (wM N A Z B u L) (Qp (vPIm N p w) (wM N A Z B u L)) := by
  refine Ct_of (by decide) (by simp [Value.category]) (Nat.le_of_ble_eq_true rfl) ?_
  refine x_aload_n dX7_peerInfo_0 rfl ?_
  refine x_iload_n dX7_peerInfo_1 rfl ?_
  refine x_callp [0, 1, 2, 3, 4, 5] (x_iV dX7_peerInfo_2 mlX7_67 lbX7_isPeer rfl rfl rfl rfl) (kX7_isPeer l g _ _ _ _ _ _ _) (by decide) rfl rfl (by decide) (by decide) (by simp [Value.category]) rfl rfl (by decide +kernel) ?_
  refine x_if_eq (tgt := 17) dX7_peerInfo_5 (by decide) (fun c_5 => ?_) (fun c_5 => ?_)
  · refine x_sipush (v := -10001) dX7_peerInfo_17 (by decide) ?_
    exact x_reti dX7_peerInfo_20 rfl rfl rfl (⟨by (try simp only [b2i_eq0, b2i_ne0] at *); simp [vPIm, *], rfl⟩)
  · refine x_iload_n dX7_peerInfo_8 rfl ?_
    refine x_iconst (v := 0) dX7_peerInfo_9 (by decide) ?_
    refine x_iconst (v := 5) dX7_peerInfo_10 (by decide) ?_
    refine x_callp [] (x_iS dX7_peerInfo_11 mlX7_25 lbX7_in rfl) (kX7_in l g _ _ _) (by decide) rfl rfl (by decide) (by decide) (by simp [Value.category]) rfl rfl (by decide +kernel) ?_
    refine x_if_ne (tgt := 21) dX7_peerInfo_14 (by decide) (fun c_14 => ?_) (fun c_14 => ?_)
    · refine x_iconst (v := 0) dX7_peerInfo_21 (by decide) ?_
      refine x_istore_n dX7_peerInfo_22 (by decide) ?_
      refine x_iconst (v := 0) dX7_peerInfo_23 (by decide) ?_
      refine x_istore dX7_peerInfo_24 (by decide) ?_
      refine lqX7_peerInfo l g N A Z B u L p w _ (mPe_in (b2i_t' c_5)) ?_
      refine x_iload_n dX7_peerInfo_53 rfl ?_
      refine x_if_ne (tgt := 70) dX7_peerInfo_54 (by decide) (fun c_54 => ?_) (fun c_54 => ?_)
      · refine x_iload_n dX7_peerInfo_70 rfl ?_
        refine x_iconst (v := 1) dX7_peerInfo_71 (by decide) ?_
        refine x_icmp_ne (tgt := 83) dX7_peerInfo_72 (by decide) (fun c_72 => ?_) (fun c_72 => ?_)
        · refine x_iload_n dX7_peerInfo_83 rfl ?_
          refine x_iconst (v := 2) dX7_peerInfo_84 (by decide) ?_
          refine x_icmp_eq (tgt := 93) dX7_peerInfo_85 (by decide) (fun c_85 => ?_) (fun c_85 => ?_)
          · refine x_aload_n dX7_peerInfo_93 rfl ?_
            refine x_getf dX7_peerInfo_94 flX7_7 rfl rfl ?_
            refine x_iconst (v := 4) dX7_peerInfo_97 (by decide) ?_
            refine x_iload_n dX7_peerInfo_98 rfl ?_
            refine x_imul dX7_peerInfo_99 ?_
            refine x_iload_n dX7_peerInfo_100 rfl ?_
            refine x_iadd dX7_peerInfo_101 ?_
            refine x_iar dX7_peerInfo_102 rfl (show ix (4 * p + w) (4 * cl p + cl w) 439 from by first | (rw [c_85]; exact ix_p4 (c := 2) (mPe_in (b2i_t' c_5)) (by decide)) | (rw [c_90]; exact ix_p4 (c := 3) (mPe_in (b2i_t' c_5)) (by decide))) ?_
            refine x_goto (tgt := 120) dX7_peerInfo_103 (by decide) ?_
            exact x_reti dX7_peerInfo_120 rfl rfl rfl (⟨by (try simp only [b2i_eq0, b2i_ne0] at *); simp [vPIm, rg_005, rg_105, rg_205, rg_305, rg_405, show cl 2 = 2 from rfl, show cl 3 = 3 from rfl, *], rfl⟩)
          · refine x_iload_n dX7_peerInfo_88 rfl ?_
            refine x_iconst (v := 3) dX7_peerInfo_89 (by decide) ?_
            refine x_icmp_ne (tgt := 106) dX7_peerInfo_90 (by decide) (fun c_90 => ?_) (fun c_90 => ?_)
            · refine x_iload_n dX7_peerInfo_106 rfl ?_
              refine x_iconst (v := 4) dX7_peerInfo_107 (by decide) ?_
              refine x_icmp_ne (tgt := 119) dX7_peerInfo_108 (by decide) (fun c_108 => ?_) (fun c_108 => ?_)
              · refine x_iload_n dX7_peerInfo_119 rfl ?_
                exact x_reti dX7_peerInfo_120 rfl rfl rfl (⟨by (try simp only [b2i_eq0, b2i_ne0] at *); simp [vPIm, rg_005, rg_105, rg_205, rg_305, rg_405, show cl 2 = 2 from rfl, show cl 3 = 3 from rfl, *], rfl⟩)
              · refine x_aload_n dX7_peerInfo_111 rfl ?_
                refine x_iload_n dX7_peerInfo_112 rfl ?_
                refine x_callp [0, 1, 2, 3, 4, 5] (x_iV dX7_peerInfo_113 mlX7_90 lbX7_owned rfl rfl rfl rfl) (kX7_owned l g _ _ _ _ _ _ _) (by decide) rfl rfl (by decide) (by decide) (by simp [Value.category]) rfl rfl (by decide +kernel) ?_
                refine x_goto (tgt := 120) dX7_peerInfo_116 (by decide) ?_
                exact x_reti dX7_peerInfo_120 rfl rfl rfl (⟨by (try simp only [b2i_eq0, b2i_ne0] at *); simp [vPIm, rg_005, rg_105, rg_205, rg_305, rg_405, show cl 2 = 2 from rfl, show cl 3 = 3 from rfl, *], rfl⟩)
            · refine x_aload_n dX7_peerInfo_93 rfl ?_
              refine x_getf dX7_peerInfo_94 flX7_7 rfl rfl ?_
              refine x_iconst (v := 4) dX7_peerInfo_97 (by decide) ?_
              refine x_iload_n dX7_peerInfo_98 rfl ?_
              refine x_imul dX7_peerInfo_99 ?_
              refine x_iload_n dX7_peerInfo_100 rfl ?_
              refine x_iadd dX7_peerInfo_101 ?_
              refine x_iar dX7_peerInfo_102 rfl (show ix (4 * p + w) (4 * cl p + cl w) 439 from by first | (rw [c_85]; exact ix_p4 (c := 2) (mPe_in (b2i_t' c_5)) (by decide)) | (rw [c_90]; exact ix_p4 (c := 3) (mPe_in (b2i_t' c_5)) (by decide))) ?_
              refine x_goto (tgt := 120) dX7_peerInfo_103 (by decide) ?_
              exact x_reti dX7_peerInfo_120 rfl rfl rfl (⟨by (try simp only [b2i_eq0, b2i_ne0] at *); simp [vPIm, rg_005, rg_105, rg_205, rg_305, rg_405, show cl 2 = 2 from rfl, show cl 3 = 3 from rfl, *], rfl⟩)
        · refine x_aload_n dX7_peerInfo_75 rfl ?_
          refine x_iload_n dX7_peerInfo_76 rfl ?_
          refine x_callp [0, 1, 2, 3, 4, 5] (x_iV dX7_peerInfo_77 mlX7_70 lbX7_free rfl rfl rfl rfl) (kX7_free l g _ _ _ _ _ _ _ (mPe_in (b2i_t' c_5)) hM) (by decide) rfl rfl (by decide) (by decide) (by simp [Value.category]) rfl rfl (by decide +kernel) ?_
          refine x_goto (tgt := 120) dX7_peerInfo_80 (by decide) ?_
          exact x_reti dX7_peerInfo_120 rfl rfl rfl (⟨by (try simp only [b2i_eq0, b2i_ne0] at *); simp [vPIm, rg_005, rg_105, rg_205, rg_305, rg_405, show cl 2 = 2 from rfl, show cl 3 = 3 from rfl, *], rfl⟩)
      · refine x_aload_n dX7_peerInfo_57 rfl ?_
        refine x_getf dX7_peerInfo_58 flX7_7 rfl rfl ?_
        refine x_iconst (v := 4) dX7_peerInfo_61 (by decide) ?_
        refine x_iload_n dX7_peerInfo_62 rfl ?_
        refine x_imul dX7_peerInfo_63 ?_
        refine x_iconst (v := 1) dX7_peerInfo_64 (by decide) ?_
        refine x_iadd dX7_peerInfo_65 ?_
        refine x_iar dX7_peerInfo_66 rfl (ix_p4 (c := 1) (mPe_in (b2i_t' c_5)) (by decide)) ?_
        refine x_goto (tgt := 120) dX7_peerInfo_67 (by decide) ?_
        exact x_reti dX7_peerInfo_120 rfl rfl rfl (⟨by (try simp only [b2i_eq0, b2i_ne0] at *); simp [vPIm, rg_005, rg_105, rg_205, rg_305, rg_405, show cl 2 = 2 from rfl, show cl 3 = 3 from rfl, *], rfl⟩)

    · refine x_sipush (v := -10001) dX7_peerInfo_17 (by decide) ?_
      exact x_reti dX7_peerInfo_20 rfl rfl rfl (⟨by (try simp only [b2i_eq0, b2i_ne0] at *); simp [vPIm, *], rfl⟩)

set_option maxRecDepth 100000 in
set_option maxHeartbeats 4000000 in
theorem kX7_undo0 (l : Launch) (g : XG) (N A Z B L : Nat → Int32) : Ct l g MX7_undo [.ref 0] (wM N A Z B (nI 0) L) (Qp (-10002) (wM N A Z B (nI 0) L)) := by
  refine Ct_of (by decide) (by simp [Value.category]) (Nat.le_of_ble_eq_true rfl) ?_
  refine x_aload_n dX7_undo_0 rfl ?_
  refine x_getf dX7_undo_1 flX7_36 rfl rfl ?_
  refine x_if_ne_f (tgt := 11) dX7_undo_4 (by decide) (rfl) ?_
  refine x_sipush (v := -10002) dX7_undo_7 (by decide) ?_
  exact x_reti dX7_undo_10 rfl rfl rfl (⟨rfl, rfl⟩)

def unN (N B : Nat → Int32) (n i : Nat) : Nat → Int32 := fun x => if x < i then B (439 * n + x) else N x
theorem unN_0 (N B : Nat → Int32) (n : Nat) : row 439 N = row 439 (unN N B n 0) := row_congr fun x _ => by simp [unN]
theorem unN_n (N B : Nat → Int32) (n : Nat) : row 439 (unN N B n 439) = row 439 (fun x => B (439 * n + x)) := row_congr fun x hx => by simp [unN, hx]
theorem unN_s (N B : Nat → Int32) (n i : Nat) : row 439 (upd (unN N B n i) i (B (439 * n + i))) = row 439 (unN N B n (i + 1)) := row_congr fun x _ => by
  simp only [upd, unN]
  by_cases h : x = i
  · rw [if_pos h, if_pos (by omega), h]
  · rw [if_neg h]
    by_cases h2 : x < i
    · rw [if_pos h2, if_pos (by omega)]
    · rw [if_neg h2, if_neg (by omega)]

set_option maxRecDepth 100000 in
set_option maxHeartbeats 4000000 in
theorem lpX7_undo (l : Launch) (g : XG) (N A Z B L : Nat → Int32) (n : Nat) (hn : n < 5) : XA l g MX7_undo (Qi (fun v w1 => v = nI n ∧ w1 = wM (fun x => B (439 * n + x)) A Z B (nI n) L)) 23 ((fun i => [some (.ref 0), some (.int (nI i))]) 0) ((fun _ => []) 0) ((fun i => wM (unN N B n i) A Z B (nI n) L) 0) 0 0 := by
  refine x_for 439 (fun _ => True) (fun i => [some (.ref 0), some (.int (nI i))]) (fun _ => []) (fun i => wM (unN N B n i) A Z B (nI n) L) trivial (fun i hi hp ih => ?_) (fun hp => ?_)
  · refine x_iload_n dX7_undo_23 rfl ?_
    refine x_sipush (v := 439) dX7_undo_24 (by decide) ?_
    refine x_icmp_ge_f (tgt := 57) dX7_undo_27 (by decide) (nI_nle_of rfl (by decide) hi) ?_
    refine x_aload_n dX7_undo_30 rfl ?_
    refine x_getf dX7_undo_31 flX7_7 rfl rfl ?_
    refine x_iload_n dX7_undo_34 rfl ?_
    refine x_aload_n dX7_undo_35 rfl ?_
    refine x_getf dX7_undo_36 flX7_19 rfl rfl ?_
    refine x_sipush (v := 439) dX7_undo_39 (by decide) ?_
    refine x_aload_n dX7_undo_42 rfl ?_
    refine x_getf dX7_undo_43 flX7_36 rfl rfl ?_
    refine x_imul dX7_undo_46 ?_
    refine x_iload_n dX7_undo_47 rfl ?_
    refine x_iadd dX7_undo_48 ?_
    refine x_iar dX7_undo_49 rfl (ix_kp hn hi) ?_
    refine x_iaw dX7_undo_50 rfl (ix_nI hi (by decide)) ?_
    first | refine x_iinc dX7_undo_51 (by decide) rfl (nI_inc _) ?_ | refine x_iinc dX7_undo_51 (by decide) rfl (inc_1 _) ?_
    refine x_goto (tgt := 23) dX7_undo_54 (by decide) ?_
    refine x_eq (ih trivial) rfl rfl ?_
    exact congrArg (fun z => List.set (wM (unN N B n i) A Z B (nI n) L) 1 (Sum.inl z)) (unN_s N B n i)
  · refine x_iload_n dX7_undo_23 rfl ?_
    refine x_sipush (v := 439) dX7_undo_24 (by decide) ?_
    refine x_icmp_ge_t (tgt := 57) dX7_undo_27 (by decide) (nI_le_of rfl (by decide) (Nat.le_refl _)) ?_
    refine x_aload_n dX7_undo_57 rfl ?_
    refine x_getf dX7_undo_58 flX7_36 rfl rfl ?_
    exact x_reti dX7_undo_61 rfl rfl rfl (⟨_, rfl, rfl, congrArg (fun z => List.set (wM N A Z B (nI n) L) 1 (Sum.inl z)) (unN_n N B n)⟩)

set_option maxRecDepth 100000 in
set_option maxHeartbeats 4000000 in
theorem kX7_undo (l : Launch) (g : XG) (N A Z B L : Nat → Int32) (n : Nat) (hn : n < 5) : Ct l g MX7_undo [.ref 0] (wM N A Z B (nI (n + 1)) L) (Qi (fun v w1 => v = nI n ∧ w1 = wM (fun x => B (439 * n + x)) A Z B (nI n) L)) := by
  refine Ct_of (by decide) (by simp [Value.category]) (Nat.le_of_ble_eq_true rfl) ?_
  refine x_aload_n dX7_undo_0 rfl ?_
  refine x_getf dX7_undo_1 flX7_36 rfl rfl ?_
  refine x_if_ne_t (tgt := 11) dX7_undo_4 (by decide) (nI_ne0 (by omega) (by omega)) ?_
  refine x_aload_n dX7_undo_11 rfl ?_
  refine x_dup dX7_undo_12 rfl ?_
  refine x_getf dX7_undo_13 flX7_36 rfl rfl ?_
  refine x_iconst (v := 1) dX7_undo_16 (by decide) ?_
  refine x_isub dX7_undo_17 ?_
  rw [nI_pred]
  refine x_puti dX7_undo_18 flX7_36 xfi_7_4 rfl (Nat.le_of_ble_eq_true rfl) ?_
  refine x_iconst (v := 0) dX7_undo_21 (by decide) ?_
  refine x_istore_n dX7_undo_22 (by decide) ?_
  refine x_eq (lpX7_undo l g N A Z B L n hn) rfl rfl ?_
  exact congrArg (fun z => List.set (wM N A Z B (nI n) L) 1 (Sum.inl z)) (unN_0 N B n)
