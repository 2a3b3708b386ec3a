theorem mp_i {S S' : hs_T} {m : Nat} {ad : Nat → Nat} {n k c : Nat} {v : Value} {s' : st_T} {sp : Nat × Value × st_T} (hsp : sp = (c, v, s')) (ht : hs_I S' m 0 = nI c) (hR : RM S' m ad s') (hF : MF S S' m ad) : mp S m ad n k sp (.inl (some v)) S' n k := by
  subst hsp
  exact ⟨rfl, ht, hR, hF, rfl, rfl⟩
theorem m_isH1 (g : gl_T) {S : hs_T} {n k m : Nat} {ad : Nat → Nat} (hB : MB S m ad) {x : Int32} (h : 0 ≤ x ∧ x < hs_I S m 1) : ex_M g 0 mX10_isHolder [.ref m, .int x] S n k (ex_rt (some (.int 1)) S n k) := by
  have := m_isHolder g (n := n) (k := k) hB (x := x)
  rwa [if_pos h] at this
theorem m_isH0 (g : gl_T) {S : hs_T} {n k m : Nat} {ad : Nat → Nat} (hB : MB S m ad) {x : Int32} (h : ¬ (0 ≤ x ∧ x < hs_I S m 1)) : ex_M g 0 mX10_isHolder [.ref m, .int x] S n k (ex_rt (some (.int 0)) S n k) := by
  have := m_isHolder g (n := n) (k := k) hB (x := x)
  rwa [if_neg h] at this
/-- a number of a holder -/
abbrev hd_ok (s : st_T) (x : Int32) : Prop := 0 ≤ x ∧ x < nI (s_hs s).length
theorem hd_of {s : st_T} {x : Int32} (h : hd_ok s x) (hl : (s_hs s).length ≤ 60) : ∃ j, j < (s_hs s).length ∧ x = nI j := by
  obtain ⟨h1, h2⟩ := h
  obtain ⟨j, hj, rfl⟩ := nI_of (x := x) (by rw [i_lt]; rw [i_le] at h1; omega)
  exact ⟨j, (nI_ltI hj (by omega)).mp h2, rfl⟩
noncomputable def sp_holder (s : st_T) : Nat × Value × st_T := if (s_hs s).length = 60 then (1, .int 0, s) else (0, .int (nI (s_hs s).length), w_hs s (s_hs s ++ [(0, 0)]))
theorem MH_new {S : hs_T} {m : Nat} {ad : Nat → Nat} (hA : AD m ad) {hs : List (Nat × Nat)} (h : MH S m ad hs) (hl : hs.length ≠ 60) {v : Int32} (hv : v = nI (hs.length + 1)) : MH (hs_sI S m 1 v) m ad (hs ++ [(0, 0)]) := by
  obtain ⟨h1, h2, h3⟩ := h
  refine ⟨by rw [mI_mm, if_pos rfl, hv]; simp, by simp; omega, fun j hj => ?_⟩
  have h4 := h3 j hj
  have h5 : (hs ++ [(0, 0)]).getD j (0, 0) = hs.getD j (0, 0) := by
    rw [List.getD_eq_getElem?_getD, List.getD_eq_getElem?_getD, List.getElem?_append]
    by_cases q : j < hs.length
    · simp [q]
    · rw [if_neg q, List.getElem?_eq_none (by omega : hs.length ≤ j)]
      cases hj2 : j - hs.length with
      | zero => simp
      | succ t => simp
  rw [h5, mI_sm hA]
  exact h4
set_option maxRecDepth 20000 in
set_option maxHeartbeats 4000000 in
theorem m_holder (g : gl_T) {S : hs_T} {n k m : Nat} {ad : Nat → Nat} {s : st_T} (h : RM S m ad s)  : ex_M g 1 mX10_holder [.ref m] S n k (mp S m ad n k (sp_holder s)) := by
  refine ex_enter (by decide +kernel) (Nat.le_of_ble_eq_true rfl) ?_
  show ex_W _ _ _ _ 0 [(0, .ref m)] [] _ _ _
  have hB := h.1
  refine ex_aload_n dX10_holder_0 0 rfl ?_
  refine ex_iconst (v := 0) dX10_holder_1 (by decide) ?_
  refine ex_putI dX10_holder_2 fl_X10_80 (pf_X10_80 _) hB.1.1 hB.1.2 ?_
  have h1 := RM_mI h 0 0 (by decide)
  have ht1 : hs_I (hs_sI S m 0 0) m 0 = nI 0 := by rw [mI_mm]; rfl
  have hF1 := MF_mI (MF_rf S m ad) 0 0
  generalize hs_sI S m 0 0 = S1 at h1 ht1 hF1 ⊢
  clear h hB
  obtain ⟨hB, hMS, hMH, hML, hMT, hMR, hMN, hMD, hMW⟩ := id h1
  have hh6 := hMH.2.1
  by_cases hq : (s_hs s).length = 60
  · refine ex_aload_n dX10_holder_5 0 rfl ?_
    refine ex_aload_n dX10_holder_6 0 rfl ?_
    refine ex_getI dX10_holder_7 fl_X10_83 hB.1.1 hB.1.2 ?_
    refine ex_bipush (v := 60) dX10_holder_10 (by decide) ?_
    refine ex_icmp_ne (tgt := 19) dX10_holder_12 (by decide) (fun c12 => absurd (by rw [hMH.1, hq]; rfl) c12) (fun c12 => ?_)
    refine ex_iconst (v := 1) dX10_holder_15 (by decide) ?_
    refine ex_goto (tgt := 20) dX10_holder_16 (by decide) ?_
    refine ex_iconst (v := 1) dX10_holder_20 (by decide) ?_
    refine ex_cVr [.int 1, .int 1] [] dX10_holder_21 cV_X10_86 (m_bad1 g hB) hB.1.1 hB.1.2 rfl rfl rfl (by decide) (Nat.le_of_ble_eq_true rfl) rfl ?_
    refine ex_if_eq (tgt := 29) dX10_holder_24 (by decide) (fun c24 => absurd c24 (by decide)) (fun c24 => ?_)
    refine ex_iconst (v := 0) dX10_holder_27 (by decide) ?_
    exact ex_irt rfl dX10_holder_28 (mp_i (by unfold sp_holder; rw [if_pos hq]) (by rw [mI_mm]; rfl) (RM_mI h1 0 1 (by decide)) (MF_mI hF1 0 1))
  · refine ex_aload_n dX10_holder_5 0 rfl ?_
    refine ex_aload_n dX10_holder_6 0 rfl ?_
    refine ex_getI dX10_holder_7 fl_X10_83 hB.1.1 hB.1.2 ?_
    refine ex_bipush (v := 60) dX10_holder_10 (by decide) ?_
    refine ex_icmp_ne (tgt := 19) dX10_holder_12 (by decide) (fun c12 => ?_) (fun c12 => absurd c12 (fun z => hq ((nI_eq (by omega) (by decide)).mp (hMH.1.symm.trans z))))
    refine ex_iconst (v := 0) dX10_holder_19 (by decide) ?_
    refine ex_iconst (v := 1) dX10_holder_20 (by decide) ?_
    refine ex_cVr [.int 0, .int 1] [] dX10_holder_21 cV_X10_86 (m_bad0 g hB) hB.1.1 hB.1.2 rfl rfl rfl (by decide) (Nat.le_of_ble_eq_true rfl) rfl ?_
    refine ex_if_eq (tgt := 29) dX10_holder_24 (by decide) (fun c24 => ?_) (fun c24 => absurd (by decide) c24)
    refine ex_aload_n dX10_holder_29 0 rfl ?_
    refine ex_dup dX10_holder_30 rfl ?_
    refine ex_getI dX10_holder_31 fl_X10_83 hB.1.1 hB.1.2 ?_
    refine ex_iconst (v := 1) dX10_holder_34 (by decide) ?_
    refine ex_iadd dX10_holder_35 ?_
    refine ex_putI dX10_holder_36 fl_X10_83 (pf_X10_83 _) hB.1.1 hB.1.2 ?_
    have hv : hs_I S1 m 1 + 1 = nI ((s_hs s).length + 1) := by rw [hMH.1]; exact nI_1 _
    refine ex_aload_n dX10_holder_39 0 rfl ?_
    refine ex_getI dX10_holder_40 fl_X10_83 hB.1.1 hB.1.2 ?_
    refine ex_iconst (v := 1) dX10_holder_43 (by decide) ?_
    refine ex_isub dX10_holder_44 ?_
    exact ex_irt rfl dX10_holder_45 (mp_i (c := 0) (s' := w_hs s (s_hs s ++ [(0, 0)])) (by unfold sp_holder; rw [if_neg hq]; congr 2; rw [mI_mm, if_pos rfl, hv]; congr 1; exact (nI_pred _).symm) (by rw [mI_mm, if_neg (by decide)]; exact ht1) ⟨hB, MS_mI hB.2.2 hMS 1 _ (by decide), MH_new hB.2.2 hMH hq hv, ML_mI hB.2.2 hML 1 _ (by decide), MT_mI hB.2.2 hMT 1 _ (by decide), MR_mI hB.2.2 hMR 1 _ (by decide), MN_mI hB.2.2 hMN 1 _ (by decide), MD_mI hB.2.2 hMD 1 _ (by decide), MW_mI hB.2.2 hMW 1 _ (by decide)⟩ (MF_mI hF1 1 _))
noncomputable def sp_wait (s : st_T) (x : Int32) : Nat × Value × st_T := if x < 0 ∨ 10000 < x ∨ 100000 < nI (s_td s) + x then (1, .int 0, s) else (0, .int (nI (s_td s) + x), w_td s (s_td s + x.toNatClampNeg))
set_option maxRecDepth 20000 in
set_option maxHeartbeats 4000000 in
theorem m_wait (g : gl_T) {S : hs_T} {n k m : Nat} {ad : Nat → Nat} {s : st_T} (h : RM S m ad s) {x : Int32} : ex_M g 1 mX10_wait [.ref m, .int x] S n k (mp S m ad n k (sp_wait s x)) := by
  refine ex_enter (by decide +kernel) (Nat.le_of_ble_eq_true rfl) ?_
  show ex_W _ _ _ _ 0 [(0, .ref m), (1, .int x)] [] _ _ _
  have hB := h.1
  refine ex_aload_n dX10_wait_0 0 rfl ?_
  refine ex_iconst (v := 0) dX10_wait_1 (by decide) ?_
  refine ex_putI dX10_wait_2 fl_X10_80 (pf_X10_80 _) hB.1.1 hB.1.2 ?_
  have h1 := RM_mI h 0 0 (by decide)
  have ht1 : hs_I (hs_sI S m 0 0) m 0 = nI 0 := by rw [mI_mm]; rfl
  have hF1 := MF_mI (MF_rf S m ad) 0 0
  generalize hs_sI S m 0 0 = S1 at h1 ht1 hF1 ⊢
  clear h hB
  obtain ⟨hB, hMS, hMH, hML, hMT, hMR, hMN, hMD, hMW⟩ := id h1
  have htd := hMS.2.1
  have e2 := hMS.1.1
  refine ex_aload_n dX10_wait_5 0 rfl ?_
  refine ex_iload_n dX10_wait_6 1 rfl ?_
  refine ex_if_lt (tgt := 28) dX10_wait_7 (by decide) (fun c7 => ?_) (fun c7 => ?_)
  · refine ex_iconst (v := 1) dX10_wait_28 (by decide) ?_
    refine ex_goto (tgt := 33) dX10_wait_29 (by decide) ?_
    refine ex_iconst (v := 1) dX10_wait_33 (by decide) ?_
    refine ex_cVr [.int 1, .int 1] [] dX10_wait_34 cV_X10_86 (m_bad1 g hB) hB.1.1 hB.1.2 rfl rfl rfl (by decide) (Nat.le_of_ble_eq_true rfl) rfl ?_
    refine ex_if_eq (tgt := 42) dX10_wait_37 (by decide) (fun c37 => absurd c37 (by decide)) (fun c37 => ?_)
    refine ex_iconst (v := 0) dX10_wait_40 (by decide) ?_
    exact ex_irt rfl dX10_wait_41 (mp_i (by unfold sp_wait; rw [if_pos (by first | exact Or.inl c7 | exact Or.inr (Or.inl c14) | exact Or.inr (Or.inr (by rw [← e2]; rw [i_lt]; rw [i_le] at c25; omega)))]) (by rw [mI_mm]; rfl) (RM_mI h1 0 1 (by decide)) (MF_mI hF1 0 1))
  · refine ex_iload_n dX10_wait_10 1 rfl ?_
    refine ex_sipush (v := 10000) dX10_wait_11 (by decide) ?_
    refine ex_icmp_gt (tgt := 28) dX10_wait_14 (by decide) (fun c14 => ?_) (fun c14 => ?_)
    · refine ex_iconst (v := 1) dX10_wait_28 (by decide) ?_
      refine ex_goto (tgt := 33) dX10_wait_29 (by decide) ?_
      refine ex_iconst (v := 1) dX10_wait_33 (by decide) ?_
      refine ex_cVr [.int 1, .int 1] [] dX10_wait_34 cV_X10_86 (m_bad1 g hB) hB.1.1 hB.1.2 rfl rfl rfl (by decide) (Nat.le_of_ble_eq_true rfl) rfl ?_
      refine ex_if_eq (tgt := 42) dX10_wait_37 (by decide) (fun c37 => absurd c37 (by decide)) (fun c37 => ?_)
      refine ex_iconst (v := 0) dX10_wait_40 (by decide) ?_
      exact ex_irt rfl dX10_wait_41 (mp_i (by unfold sp_wait; rw [if_pos (by first | exact Or.inl c7 | exact Or.inr (Or.inl c14) | exact Or.inr (Or.inr (by rw [← e2]; rw [i_lt]; rw [i_le] at c25; omega)))]) (by rw [mI_mm]; rfl) (RM_mI h1 0 1 (by decide)) (MF_mI hF1 0 1))
    · refine ex_aload_n dX10_wait_17 0 rfl ?_
      refine ex_getI dX10_wait_18 fl_X10_102 hB.1.1 hB.1.2 ?_
      refine ex_iload_n dX10_wait_21 1 rfl ?_
      refine ex_iadd dX10_wait_22 ?_
      refine ex_ldc dX10_wait_23 lc_X10_124 ?_
      refine ex_icmp_le (tgt := 32) dX10_wait_25 (by decide) (fun c25 => ?_) (fun c25 => ?_)
      · refine ex_iconst (v := 0) dX10_wait_32 (by decide) ?_
        refine ex_iconst (v := 1) dX10_wait_33 (by decide) ?_
        refine ex_cVr [.int 0, .int 1] [] dX10_wait_34 cV_X10_86 (m_bad0 g hB) hB.1.1 hB.1.2 rfl rfl rfl (by decide) (Nat.le_of_ble_eq_true rfl) rfl ?_
        refine ex_if_eq (tgt := 42) dX10_wait_37 (by decide) (fun c37 => ?_) (fun c37 => absurd (by decide) c37)
        have hok : ¬ (x < 0 ∨ 10000 < x ∨ 100000 < nI (s_td s) + x) := by
          rw [e2] at c25
          rintro (z | z | z)
          · exact c7 z
          · exact c14 z
          · rw [i_lt] at z; rw [i_le] at c25; omega
        obtain ⟨j, hj, hxj⟩ := nI_of2 (x := x) (M := 10000) (n := 10000) (by decide) c7 (by rw [i_le]; rw [i_lt] at c14; omega)
        have hcl : x.toNatClampNeg = j := by rw [hxj]; exact nI_clamp (by omega)
        have hsum : hs_I S1 m 2 + x = nI (s_td s + j) := by rw [e2, hxj]; exact nI_add _ _
        have hle : s_td s + j ≤ 100000 := by
          rw [hsum] at c25
          exact (nI_leI (a := s_td s + j) (b := 100000) (by omega) (by decide)).mp c25
        refine ex_aload_n dX10_wait_42 0 rfl ?_
        refine ex_dup dX10_wait_43 rfl ?_
        refine ex_getI dX10_wait_44 fl_X10_102 hB.1.1 hB.1.2 ?_
        refine ex_iload_n dX10_wait_47 1 rfl ?_
        refine ex_iadd dX10_wait_48 ?_
        refine ex_putI dX10_wait_49 fl_X10_102 (pf_X10_102 _) hB.1.1 hB.1.2 ?_
        refine ex_aload_n dX10_wait_52 0 rfl ?_
        refine ex_getI dX10_wait_53 fl_X10_102 hB.1.1 hB.1.2 ?_
        exact ex_irt rfl dX10_wait_56 (mp_i (c := 0) (s' := w_td s (s_td s + j)) (by unfold sp_wait; rw [if_neg hok, hcl, mI_mm, if_pos rfl, ← e2]) (by rw [mI_mm, if_neg (by decide)]; exact ht1) ⟨hB, ⟨⟨by rw [mI_mm, if_pos rfl, hsum]; rfl, by rw [mI_mm, if_neg (by decide)]; exact hMS.1.2.1, by rw [mI_mm, if_neg (by decide)]; exact hMS.1.2.2.1, hMS.1.2.2.2⟩, hle, hMS.2.2.1, hMS.2.2.2⟩, MH_mI hB.2.2 hMH 2 _ (by decide), ML_mI hB.2.2 hML 2 _ (by decide), MT_mI hB.2.2 hMT 2 _ (by decide), MR_mI hB.2.2 hMR 2 _ (by decide), MN_mI hB.2.2 hMN 2 _ (by decide), MD_mI hB.2.2 hMD 2 _ (by decide), MW_mI hB.2.2 hMW 2 _ (by decide)⟩ (MF_mI hF1 2 _))
      · refine ex_iconst (v := 1) dX10_wait_28 (by decide) ?_
        refine ex_goto (tgt := 33) dX10_wait_29 (by decide) ?_
        refine ex_iconst (v := 1) dX10_wait_33 (by decide) ?_
        refine ex_cVr [.int 1, .int 1] [] dX10_wait_34 cV_X10_86 (m_bad1 g hB) hB.1.1 hB.1.2 rfl rfl rfl (by decide) (Nat.le_of_ble_eq_true rfl) rfl ?_
        refine ex_if_eq (tgt := 42) dX10_wait_37 (by decide) (fun c37 => absurd c37 (by decide)) (fun c37 => ?_)
        refine ex_iconst (v := 0) dX10_wait_40 (by decide) ?_
        exact ex_irt rfl dX10_wait_41 (mp_i (by unfold sp_wait; rw [if_pos (by first | exact Or.inl c7 | exact Or.inr (Or.inl c14) | exact Or.inr (Or.inr (by rw [← e2]; rw [i_lt]; rw [i_le] at c25; omega)))]) (by rw [mI_mm]; rfl) (RM_mI h1 0 1 (by decide)) (MF_mI hF1 0 1))
noncomputable def sp_has (s : st_T) (x : Int32) : Nat × Value × st_T := if hd_ok s x then (0, .int (nI (su (fun j => ln_ov x.toNatClampNeg 0 1000000000 (ln_at (s_ls s) j)) (s_ls s).length)), s) else (1, .int 0, s)
set_option maxRecDepth 20000 in
set_option maxHeartbeats 4000000 in
theorem m_has (g : gl_T) {S : hs_T} {n k m : Nat} {ad : Nat → Nat} {s : st_T} (h : RM S m ad s) {x : Int32} : ex_M g 2 mX10_has [.ref m, .int x] S n k (mp S m ad n k (sp_has s x)) := by
  refine ex_enter (by decide +kernel) (Nat.le_of_ble_eq_true rfl) ?_
  show ex_W _ _ _ _ 0 [(0, .ref m), (1, .int x)] [] _ _ _
  have hB := h.1
  refine ex_aload_n dX10_has_0 0 rfl ?_
  refine ex_iconst (v := 0) dX10_has_1 (by decide) ?_
  refine ex_putI dX10_has_2 fl_X10_80 (pf_X10_80 _) hB.1.1 hB.1.2 ?_
  have h1 := RM_mI h 0 0 (by decide)
  have ht1 : hs_I (hs_sI S m 0 0) m 0 = nI 0 := by rw [mI_mm]; rfl
  have hF1 := MF_mI (MF_rf S m ad) 0 0
  generalize hs_sI S m 0 0 = S1 at h1 ht1 hF1 ⊢
  clear h hB
  obtain ⟨hB, hMS, hMH, hML, hMT, hMR, hMN, hMD, hMW⟩ := id h1
  have hhd : hd_ok s x ↔ (0 ≤ x ∧ x < hs_I S1 m 1) := by rw [hMH.1]
  by_cases hq : hd_ok s x
  · obtain ⟨j, hj, hxj⟩ := hd_of hq hMH.2.1
    have hj6 := hMH.2.1
    have hcl : x.toNatClampNeg = j := by rw [hxj]; exact nI_clamp (by omega)
    refine ex_aload_n dX10_has_5 0 rfl ?_
    refine ex_aload_n dX10_has_6 0 rfl ?_
    refine ex_iload_n dX10_has_7 1 rfl ?_
    refine ex_cVr [.int x] [.ref m] dX10_has_8 cV_X10_93 (m_isH1 g hB (hhd.mp hq)) hB.1.1 hB.1.2 rfl rfl rfl (by decide) (Nat.le_of_ble_eq_true rfl) rfl ?_
    refine ex_if_ne (tgt := 18) dX10_has_11 (by decide) (fun c11 => ?_) (fun c11 => absurd c11 (by decide))
    refine ex_iconst (v := 0) dX10_has_18 (by decide) ?_
    refine ex_iconst (v := 1) dX10_has_19 (by decide) ?_
    refine ex_cVr [.int 0, .int 1] [] dX10_has_20 cV_X10_86 (m_bad0 g hB) hB.1.1 hB.1.2 rfl rfl rfl (by decide) (Nat.le_of_ble_eq_true rfl) rfl ?_
    refine ex_if_eq (tgt := 28) dX10_has_23 (by decide) (fun c23 => ?_) (fun c23 => absurd (by decide) c23)
    refine ex_aload_n dX10_has_28 0 rfl ?_
    refine ex_iload_n dX10_has_29 1 rfl ?_
    refine ex_iconst (v := 0) dX10_has_30 (by decide) ?_
    refine ex_ldc dX10_has_31 lc_X10_101 ?_
    refine ex_cVr [.int x, .int 0, .int 1000000000] [] dX10_has_33 cV_X10_113 (m_hasOf g hB hML hxj (a0 := 0) (b0 := 1000000000) rfl rfl (by omega) (by omega) (by omega)) hB.1.1 hB.1.2 rfl rfl rfl (by decide) (Nat.le_of_ble_eq_true rfl) rfl ?_
    refine ex_l2i dX10_has_36 ?_
    exact ex_irt rfl dX10_has_37 (mp_i (by unfold sp_has; rw [if_pos hq, hcl, lN_i]) ht1 h1 hF1)
  · refine ex_aload_n dX10_has_5 0 rfl ?_
    refine ex_aload_n dX10_has_6 0 rfl ?_
    refine ex_iload_n dX10_has_7 1 rfl ?_
    refine ex_cVr [.int x] [.ref m] dX10_has_8 cV_X10_93 (m_isH0 g hB (fun z => hq (hhd.mpr z))) hB.1.1 hB.1.2 rfl rfl rfl (by decide) (Nat.le_of_ble_eq_true rfl) rfl ?_
    refine ex_if_ne (tgt := 18) dX10_has_11 (by decide) (fun c11 => absurd (by decide) c11) (fun c11 => ?_)
    refine ex_iconst (v := 1) dX10_has_14 (by decide) ?_
    refine ex_goto (tgt := 19) dX10_has_15 (by decide) ?_
    refine ex_iconst (v := 1) dX10_has_19 (by decide) ?_
    refine ex_cVr [.int 1, .int 1] [] dX10_has_20 cV_X10_86 (m_bad1 g hB) hB.1.1 hB.1.2 rfl rfl rfl (by decide) (Nat.le_of_ble_eq_true rfl) rfl ?_
    refine ex_if_eq (tgt := 28) dX10_has_23 (by decide) (fun c23 => absurd c23 (by decide)) (fun c23 => ?_)
    refine ex_iconst (v := 0) dX10_has_26 (by decide) ?_
    exact ex_irt rfl dX10_has_27 (mp_i (by unfold sp_has; rw [if_neg hq]) (by rw [mI_mm]; rfl) (RM_mI h1 0 1 (by decide)) (MF_mI hF1 0 1))
