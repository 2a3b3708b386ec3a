noncomputable def sp_fault (s : st_T) : Nat × Value × st_T := (0, .int (eN (s_fp s)), s)
noncomputable def sp_carried (s : st_T) : Nat × Value × st_T := (0, .long (lN (s_cr s)), s)
set_option maxRecDepth 20000 in
set_option maxHeartbeats 4000000 in
theorem m_fault (g : gl_T) {S : hs_T} {n k m : Nat} {ad : Nat → Nat} {s : st_T} (h : RM S m ad s)  : ex_M g 0 mX10_fault [.ref m] S n k (mp S m ad n k (sp_fault s)) := by
  refine ex_enter (by decide +kernel) (Nat.le_of_ble_eq_true rfl) ?_
  show ex_W _ _ _ _ 0 [(0, .ref m)] [] _ _ _
  have hB := h.1
  refine ex_aload_n dX10_fault_0 0 rfl ?_
  refine ex_iconst (v := 0) dX10_fault_1 (by decide) ?_
  refine ex_putI dX10_fault_2 fl_X10_80 (pf_X10_80 _) hB.1.1 hB.1.2 ?_
  have h1 := RM_mI h 0 0 (by decide)
  have ht1 : hs_I (hs_sI S m 0 0) m 0 = nI 0 := by rw [mI_mm]; rfl
  have hF1 := MF_mI (MF_rf S m ad) 0 0
  generalize hs_sI S m 0 0 = S1 at h1 ht1 hF1 ⊢
  clear h hB
  obtain ⟨hB, hMS, hMH, hML, hMT, hMR, hMN, hMD, hMW⟩ := id h1
  refine ex_aload_n dX10_fault_5 0 rfl ?_
  refine ex_getI dX10_fault_6 fl_X10_37 hB.1.1 hB.1.2 ?_
  exact ex_irt rfl dX10_fault_9 (mp_i (c := 0) (s' := s) (by unfold sp_fault; rw [hMS.1.2.2.1]) ht1 h1 hF1)
set_option maxRecDepth 20000 in
set_option maxHeartbeats 4000000 in
theorem m_carried (g : gl_T) {S : hs_T} {n k m : Nat} {ad : Nat → Nat} {s : st_T} (h : RM S m ad s)  : ex_M g 0 mX10_carried [.ref m] S n k (mp S m ad n k (sp_carried s)) := by
  refine ex_enter (by decide +kernel) (Nat.le_of_ble_eq_true rfl) ?_
  show ex_W _ _ _ _ 0 [(0, .ref m)] [] _ _ _
  have hB := h.1
  refine ex_aload_n dX10_carried_0 0 rfl ?_
  refine ex_iconst (v := 0) dX10_carried_1 (by decide) ?_
  refine ex_putI dX10_carried_2 fl_X10_80 (pf_X10_80 _) hB.1.1 hB.1.2 ?_
  have h1 := RM_mI h 0 0 (by decide)
  have ht1 : hs_I (hs_sI S m 0 0) m 0 = nI 0 := by rw [mI_mm]; rfl
  have hF1 := MF_mI (MF_rf S m ad) 0 0
  generalize hs_sI S m 0 0 = S1 at h1 ht1 hF1 ⊢
  clear h hB
  obtain ⟨hB, hMS, hMH, hML, hMT, hMR, hMN, hMD, hMW⟩ := id h1
  refine ex_aload_n dX10_carried_5 0 rfl ?_
  refine ex_getJ dX10_carried_6 fl_X10_234 hB.1.1 hB.1.2 ?_
  exact ex_lrt rfl dX10_carried_9 (mp_i (c := 0) (s' := s) (by unfold sp_carried; rw [hMS.1.2.2.2]) ht1 h1 hF1)
noncomputable def sp_noise (s : st_T) (x : Int32) : Nat × Value × st_T := if (s_ns s).length = 20 then (0, .int (-1), s) else (0, .int (nI ((s_ns s).length + 1)), w_ns s (s_ns s ++ [x]))
theorem gd_app {α : Type} (l : List α) (x d : α) (j : Nat) : (l ++ [x]).getD j d = if j = l.length then x else l.getD j d := by
  rw [List.getD_eq_getElem?_getD, List.getD_eq_getElem?_getD, List.getElem?_append]
  by_cases q : j < l.length
  · rw [if_pos q, if_neg (by omega)]
  · rw [if_neg q]
    by_cases q2 : j = l.length
    · subst q2; simp
    · rw [if_neg q2, List.getElem?_eq_none (by omega : l.length ≤ j), List.getElem?_eq_none (by simp; omega)]
theorem MN_new {S : hs_T} {m : Nat} {ad : Nat → Nat} (hA : AD m ad) {ns : List Int32} (h : MN S m ad ns) (hl : ns.length ≠ 20) (x : Int32) {v : Int32} (hv : v = nI (ns.length + 1)) : MN (hs_sI (hs_sI S (ad 24) ns.length x) m 25 v) m ad (ns ++ [x]) := by
  obtain ⟨h1, h2, h3⟩ := h
  refine ⟨by rw [mI_mm, if_pos rfl, hv]; simp, by simp; omega, fun j hj => ?_⟩
  rw [mI_sm hA, mI_aa hA, gd_app]
  simp at hj
  by_cases q : j = ns.length
  · simp [q]
  · rw [if_neg (fun z => q z.2), if_neg q]; exact h3 j (by omega)
set_option maxRecDepth 20000 in
set_option maxHeartbeats 4000000 in
theorem m_noise (g : gl_T) {S : hs_T} {n k m : Nat} {ad : Nat → Nat} {s : st_T} (h : RM S m ad s) {x : Int32} : ex_M g 0 mX10_noise [.ref m, .int x] S n k (mp S m ad n k (sp_noise s x)) := by
  refine ex_enter (by decide +kernel) (Nat.le_of_ble_eq_true rfl) ?_
  show ex_W _ _ _ _ 0 [(0, .ref m), (1, .int x)] [] _ _ _
  have hB := h.1
  refine ex_aload_n dX10_noise_0 0 rfl ?_
  refine ex_iconst (v := 0) dX10_noise_1 (by decide) ?_
  refine ex_putI dX10_noise_2 fl_X10_80 (pf_X10_80 _) hB.1.1 hB.1.2 ?_
  have h1 := RM_mI h 0 0 (by decide)
  have ht1 : hs_I (hs_sI S m 0 0) m 0 = nI 0 := by rw [mI_mm]; rfl
  have hF1 := MF_mI (MF_rf S m ad) 0 0
  generalize hs_sI S m 0 0 = S1 at h1 ht1 hF1 ⊢
  clear h hB
  obtain ⟨hB, hMS, hMH, hML, hMT, hMR, hMN, hMD, hMW⟩ := id h1
  have hh6 := hMN.2.1
  by_cases hq : (s_ns s).length = 20
  · refine ex_aload_n dX10_noise_5 0 rfl ?_
    refine ex_getI dX10_noise_6 fl_X10_206 hB.1.1 hB.1.2 ?_
    refine ex_bipush (v := 20) dX10_noise_9 (by decide) ?_
    refine ex_icmp_ne (tgt := 16) dX10_noise_11 (by decide) (fun c11 => absurd (by rw [hMN.1, hq]; rfl) c11) (fun c11 => ?_)
    refine ex_iconst (v := (-1)) dX10_noise_14 (by decide) ?_
    exact ex_irt rfl dX10_noise_15 (mp_i (c := 0) (s' := s) (by unfold sp_noise; rw [if_pos hq]) ht1 h1 hF1)
  · refine ex_aload_n dX10_noise_5 0 rfl ?_
    refine ex_getI dX10_noise_6 fl_X10_206 hB.1.1 hB.1.2 ?_
    refine ex_bipush (v := 20) dX10_noise_9 (by decide) ?_
    refine ex_icmp_ne (tgt := 16) dX10_noise_11 (by decide) (fun c11 => ?_) (fun c11 => absurd c11 (fun z => hq ((nI_eq (by omega) (by decide)).mp (hMN.1.symm.trans z))))
    refine ex_aload_n dX10_noise_16 0 rfl ?_
    refine ex_getR (b := ad 24) dX10_noise_17 fl_X10_56 hB.1.1 hB.1.2 (mb_24 hB).1 ?_
    refine ex_aload_n dX10_noise_20 0 rfl ?_
    refine ex_getI dX10_noise_21 fl_X10_206 hB.1.1 hB.1.2 ?_
    refine ex_iload_n dX10_noise_24 1 rfl ?_
    refine ex_iast (j := (s_ns s).length) dX10_noise_25 (mb_24 hB).2.1 (mb_24 hB).2.2.1 hMN.1 (Nat.lt_of_lt_of_eq (show (s_ns s).length < 20 by omega) (mb_24 hB).2.2.2.symm) (show (s_ns s).length < 2 ^ 31 by omega) ?_
    refine ex_aload_n dX10_noise_26 0 rfl ?_
    refine ex_dup dX10_noise_27 rfl ?_
    refine ex_getI dX10_noise_28 fl_X10_206 hB.1.1 hB.1.2 ?_
    refine ex_iconst (v := 1) dX10_noise_31 (by decide) ?_
    refine ex_iadd dX10_noise_32 ?_
    refine ex_putI dX10_noise_33 fl_X10_206 (pf_X10_206 _) hB.1.1 hB.1.2 ?_
    have hv : hs_I (hs_sI S1 (ad 24) (s_ns s).length x) m 25 + 1 = nI ((s_ns s).length + 1) := by rw [mI_sa hB.2.2, hMN.1]; exact nI_1 _
    refine ex_aload_n dX10_noise_36 0 rfl ?_
    refine ex_getI dX10_noise_37 fl_X10_206 hB.1.1 hB.1.2 ?_
    exact ex_irt rfl dX10_noise_40 (mp_i (c := 0) (s' := w_ns s (s_ns s ++ [x])) (by unfold sp_noise; rw [if_neg hq, mI_mm, if_pos rfl, hv]) (by rw [mI_mm, if_neg (by decide), mI_sa hB.2.2]; exact ht1) ⟨hB, MS_mI hB.2.2 (MS_aI hB.2.2 hMS 24 _ _ (by decide)) 25 _ (by decide), MH_mI hB.2.2 (MH_aI hB.2.2 hMH 24 _ _ (by decide)) 25 _ (by decide), ML_mI hB.2.2 (ML_aI hB.2.2 hML 24 _ _ (by decide)) 25 _ (by decide), MT_mI hB.2.2 (MT_aI hB.2.2 hMT 24 _ _ (by decide)) 25 _ (by decide), MR_mI hB.2.2 (MR_aI hB.2.2 hMR 24 _ _ (by decide)) 25 _ (by decide), MN_new hB.2.2 hMN hq x hv, MD_mI hB.2.2 (MD_aI hB.2.2 hMD 24 _ _ (by decide)) 25 _ (by decide), MW_mI hB.2.2 (MW_aI hB.2.2 hMW 24 _ _ (by decide)) 25 _ (by decide)⟩ (MF_mI (MF_aI hF1 24 (by decide) _ _) 25 _))
/-- an index among l -/
abbrev ix_ok (x : Int32) (l : Nat) : Prop := 0 ≤ x ∧ x < nI l
theorem ix_of {x : Int32} {l : Nat} (h : ix_ok x l) (hl : l < 2 ^ 31) : ∃ j, j < l ∧ x = nI j := by
  obtain ⟨h1, h2⟩ := h
  obtain ⟨j, hj, rfl⟩ := nI_of (x := x) (by rw [i_lt]; rw [i_le] at h1; omega)
  exact ⟨j, (nI_ltI hj (by omega)).mp h2, rfl⟩
noncomputable def sp_drawn (s : st_T) (x y : Int32) : Nat × Value × st_T := if ix_ok x (s_ds s).length then (if 0 ≤ y ∧ y ≤ 8 then (0, .long ((s_ds s).getD x.toNatClampNeg (fun _ => 0) y.toNatClampNeg), s) else (2, .long 0, s)) else (1, .long 0, s)
set_option maxRecDepth 20000 in
set_option maxHeartbeats 4000000 in
theorem m_drawn (g : gl_T) {S : hs_T} {n k m : Nat} {ad : Nat → Nat} {s : st_T} (h : RM S m ad s) {x y : Int32} : ex_M g 1 mX10_drawn [.ref m, .int x, .int y] S n k (mp S m ad n k (sp_drawn s x y)) := by
  refine ex_enter (by decide +kernel) (Nat.le_of_ble_eq_true rfl) ?_
  show ex_W _ _ _ _ 0 [(0, .ref m), (1, .int x), (2, .int y)] [] _ _ _
  have hB := h.1
  refine ex_aload_n dX10_drawn_0 0 rfl ?_
  refine ex_iconst (v := 0) dX10_drawn_1 (by decide) ?_
  refine ex_putI dX10_drawn_2 fl_X10_80 (pf_X10_80 _) hB.1.1 hB.1.2 ?_
  have h1 := RM_mI h 0 0 (by decide)
  have ht1 : hs_I (hs_sI S m 0 0) m 0 = nI 0 := by rw [mI_mm]; rfl
  have hF1 := MF_mI (MF_rf S m ad) 0 0
  generalize hs_sI S m 0 0 = S1 at h1 ht1 hF1 ⊢
  clear h hB
  obtain ⟨hB, hMS, hMH, hML, hMT, hMR, hMN, hMD, hMW⟩ := id h1
  have hl4 := hMD.2.1
  refine ex_aload_n dX10_drawn_5 0 rfl ?_
  refine ex_iload_n dX10_drawn_6 1 rfl ?_
  refine ex_if_lt (tgt := 18) dX10_drawn_7 (by decide) (fun c7 => ?_) (fun c7 => ?_)
  · refine ex_iconst (v := 1) dX10_drawn_18 (by decide) ?_
    refine ex_goto (tgt := 23) dX10_drawn_19 (by decide) ?_
    refine ex_iconst (v := 1) dX10_drawn_23 (by decide) ?_
    refine ex_cVr [.int 1, .int 1] [] dX10_drawn_24 cV_X10_86 (m_bad1 g hB) hB.1.1 hB.1.2 rfl rfl rfl (by decide) (Nat.le_of_ble_eq_true rfl) rfl ?_
    refine ex_if_ne (tgt := 53) dX10_drawn_27 (by decide) (fun c27 => ?_) (fun c27 => absurd c27 (by decide))
    refine ex_lconst (v := 0) dX10_drawn_53 (by decide) ?_
    exact ex_lrt rfl dX10_drawn_54 (mp_i (by unfold sp_drawn; rw [if_neg (fun z => by simp only [ix_ok, i_le, i_lt, hMD.1, Int32.reduceToInt] at *; omega)]) (by rw [mI_mm]; rfl) (RM_mI h1 0 1 (by decide)) (MF_mI hF1 0 1))
  · refine ex_iload_n dX10_drawn_10 1 rfl ?_
    refine ex_aload_n dX10_drawn_11 0 rfl ?_
    refine ex_getI dX10_drawn_12 fl_X10_218 hB.1.1 hB.1.2 ?_
    refine ex_icmp_lt (tgt := 22) dX10_drawn_15 (by decide) (fun c15 => ?_) (fun c15 => ?_)
    · refine ex_iconst (v := 0) dX10_drawn_22 (by decide) ?_
      refine ex_iconst (v := 1) dX10_drawn_23 (by decide) ?_
      refine ex_cVr [.int 0, .int 1] [] dX10_drawn_24 cV_X10_86 (m_bad0 g hB) hB.1.1 hB.1.2 rfl rfl rfl (by decide) (Nat.le_of_ble_eq_true rfl) rfl ?_
      refine ex_if_ne (tgt := 53) dX10_drawn_27 (by decide) (fun c27 => absurd (by decide) c27) (fun c27 => ?_)
      refine ex_aload_n dX10_drawn_30 0 rfl ?_
      refine ex_iload_n dX10_drawn_31 2 rfl ?_
      refine ex_if_lt (tgt := 41) dX10_drawn_32 (by decide) (fun c32 => ?_) (fun c32 => ?_)
      · refine ex_iconst (v := 1) dX10_drawn_41 (by decide) ?_
        refine ex_goto (tgt := 46) dX10_drawn_42 (by decide) ?_
        refine ex_iconst (v := 2) dX10_drawn_46 (by decide) ?_
        refine ex_cVr [.int 1, .int 2] [] dX10_drawn_47 cV_X10_86 (m_bad1 g hB) hB.1.1 hB.1.2 rfl rfl rfl (by decide) (Nat.le_of_ble_eq_true rfl) rfl ?_
        refine ex_if_eq (tgt := 55) dX10_drawn_50 (by decide) (fun c50 => absurd c50 (by decide)) (fun c50 => ?_)
        refine ex_lconst (v := 0) dX10_drawn_53 (by decide) ?_
        exact ex_lrt rfl dX10_drawn_54 (mp_i (by unfold sp_drawn; rw [if_pos ⟨by rw [i_le]; rw [i_lt] at c7; exact Int.not_lt.mp c7, hMD.1 ▸ c15⟩, if_neg (fun z => by simp only [i_le, i_lt, Int32.reduceToInt] at *; omega)]) (by rw [mI_mm]; rfl) (RM_mI h1 0 2 (by decide)) (MF_mI hF1 0 2))
      · refine ex_iload_n dX10_drawn_35 2 rfl ?_
        refine ex_bipush (v := 8) dX10_drawn_36 (by decide) ?_
        refine ex_icmp_le (tgt := 45) dX10_drawn_38 (by decide) (fun c38 => ?_) (fun c38 => ?_)
        · refine ex_iconst (v := 0) dX10_drawn_45 (by decide) ?_
          refine ex_iconst (v := 2) dX10_drawn_46 (by decide) ?_
          refine ex_cVr [.int 0, .int 2] [] dX10_drawn_47 cV_X10_86 (m_bad0 g hB) hB.1.1 hB.1.2 rfl rfl rfl (by decide) (Nat.le_of_ble_eq_true rfl) rfl ?_
          refine ex_if_eq (tgt := 55) dX10_drawn_50 (by decide) (fun c50 => ?_) (fun c50 => absurd (by decide) c50)
          have hxx : ix_ok x (s_ds s).length := ⟨by rw [i_le]; rw [i_lt] at c7; exact Int.not_lt.mp c7, hMD.1 ▸ c15⟩
          have hyy : 0 ≤ y ∧ y ≤ 8 := ⟨by rw [i_le]; rw [i_lt] at c32; exact Int.not_lt.mp c32, c38⟩
          obtain ⟨j, hj, hxj⟩ := ix_of hxx (by omega)
          obtain ⟨w, hw9, hyj⟩ := ix_of (x := y) (l := 9) ⟨hyy.1, by rw [i_lt]; have := hyy.2; rw [i_le] at this; simp only [Int32.reduceToInt] at this ⊢; rw [nI_toInt (by decide)]; omega⟩ (by decide)
          refine ex_aload_n dX10_drawn_55 0 rfl ?_
          refine ex_getR (b := ad 26) dX10_drawn_56 fl_X10_59 hB.1.1 hB.1.2 (mb_26 hB).1 ?_
          refine ex_bipush (v := 9) dX10_drawn_59 (by decide) ?_
          refine ex_iload_n dX10_drawn_61 1 rfl ?_
          refine ex_imul dX10_drawn_62 ?_
          refine ex_iload_n dX10_drawn_63 2 rfl ?_
          refine ex_iadd dX10_drawn_64 ?_
          refine ex_lald (j := 9 * j + w) dX10_drawn_65 (mb_26 hB).2.1 (mb_26 hB).2.2.1 (by rw [hxj, hyj]; exact (congrArg (· + nI w) (pk_mul 9 j)).trans (nI_add _ _)) (Nat.lt_of_lt_of_eq (show 9 * j + w < 360 by omega) (mb_26 hB).2.2.2.symm) (show 9 * j + w < 2 ^ 31 by omega) ?_
          exact ex_lrt rfl dX10_drawn_66 (mp_i (c := 0) (s' := s) (by unfold sp_drawn; rw [if_pos hxx, if_pos hyy, hxj, hyj, nI_clamp (by omega), nI_clamp (by omega)]; congr 2; rw [hMD.2.2 j hj w hw9]) ht1 h1 hF1)
        · refine ex_iconst (v := 1) dX10_drawn_41 (by decide) ?_
          refine ex_goto (tgt := 46) dX10_drawn_42 (by decide) ?_
          refine ex_iconst (v := 2) dX10_drawn_46 (by decide) ?_
          refine ex_cVr [.int 1, .int 2] [] dX10_drawn_47 cV_X10_86 (m_bad1 g hB) hB.1.1 hB.1.2 rfl rfl rfl (by decide) (Nat.le_of_ble_eq_true rfl) rfl ?_
          refine ex_if_eq (tgt := 55) dX10_drawn_50 (by decide) (fun c50 => absurd c50 (by decide)) (fun c50 => ?_)
          refine ex_lconst (v := 0) dX10_drawn_53 (by decide) ?_
          exact ex_lrt rfl dX10_drawn_54 (mp_i (by unfold sp_drawn; rw [if_pos ⟨by rw [i_le]; rw [i_lt] at c7; exact Int.not_lt.mp c7, hMD.1 ▸ c15⟩, if_neg (fun z => by simp only [i_le, i_lt, Int32.reduceToInt] at *; omega)]) (by rw [mI_mm]; rfl) (RM_mI h1 0 2 (by decide)) (MF_mI hF1 0 2))
    · refine ex_iconst (v := 1) dX10_drawn_18 (by decide) ?_
      refine ex_goto (tgt := 23) dX10_drawn_19 (by decide) ?_
      refine ex_iconst (v := 1) dX10_drawn_23 (by decide) ?_
      refine ex_cVr [.int 1, .int 1] [] dX10_drawn_24 cV_X10_86 (m_bad1 g hB) hB.1.1 hB.1.2 rfl rfl rfl (by decide) (Nat.le_of_ble_eq_true rfl) rfl ?_
      refine ex_if_ne (tgt := 53) dX10_drawn_27 (by decide) (fun c27 => ?_) (fun c27 => absurd c27 (by decide))
      refine ex_lconst (v := 0) dX10_drawn_53 (by decide) ?_
      exact ex_lrt rfl dX10_drawn_54 (mp_i (by unfold sp_drawn; rw [if_neg (fun z => by simp only [ix_ok, i_le, i_lt, hMD.1, Int32.reduceToInt] at *; omega)]) (by rw [mI_mm]; rfl) (RM_mI h1 0 1 (by decide)) (MF_mI hF1 0 1))
noncomputable def sp_line (s : st_T) (x y : Int32) : Nat × Value × st_T := if ix_ok x (s_ls s).length then (if 0 ≤ y ∧ y ≤ 4 then (0, .int (if y = 0 then nI (ln_at (s_ls s) x.toNatClampNeg).1 else if y = 1 then nI (ln_at (s_ls s) x.toNatClampNeg).2.1 else if y = 2 then nI (ln_at (s_ls s) x.toNatClampNeg).2.2.1 else if y = 3 then nI (ln_at (s_ls s) x.toNatClampNeg).2.2.2.1 else eN (ln_at (s_ls s) x.toNatClampNeg).2.2.2.2), s) else (2, .int 0, s)) else (1, .int 0, s)
set_option maxRecDepth 20000 in
set_option maxHeartbeats 4000000 in
theorem m_line (g : gl_T) {S : hs_T} {n k m : Nat} {ad : Nat → Nat} {s : st_T} (h : RM S m ad s) {x y : Int32} : ex_M g 1 mX10_line [.ref m, .int x, .int y] S n k (mp S m ad n k (sp_line s x y)) := by
  refine ex_enter (by decide +kernel) (Nat.le_of_ble_eq_true rfl) ?_
  show ex_W _ _ _ _ 0 [(0, .ref m), (1, .int x), (2, .int y)] [] _ _ _
  have hB := h.1
  refine ex_aload_n dX10_line_0 0 rfl ?_
  refine ex_iconst (v := 0) dX10_line_1 (by decide) ?_
  refine ex_putI dX10_line_2 fl_X10_80 (pf_X10_80 _) hB.1.1 hB.1.2 ?_
  have h1 := RM_mI h 0 0 (by decide)
  have ht1 : hs_I (hs_sI S m 0 0) m 0 = nI 0 := by rw [mI_mm]; rfl
  have hF1 := MF_mI (MF_rf S m ad) 0 0
  generalize hs_sI S m 0 0 = S1 at h1 ht1 hF1 ⊢
  clear h hB
  obtain ⟨hB, hMS, hMH, hML, hMT, hMR, hMN, hMD, hMW⟩ := id h1
  have hl4 := hML.2.1
  refine ex_aload_n dX10_line_5 0 rfl ?_
  refine ex_iload_n dX10_line_6 1 rfl ?_
  refine ex_if_lt (tgt := 18) dX10_line_7 (by decide) (fun c7 => ?_) (fun c7 => ?_)
  · refine ex_iconst (v := 1) dX10_line_18 (by decide) ?_
    refine ex_goto (tgt := 23) dX10_line_19 (by decide) ?_
    refine ex_iconst (v := 1) dX10_line_23 (by decide) ?_
    refine ex_cVr [.int 1, .int 1] [] dX10_line_24 cV_X10_86 (m_bad1 g hB) hB.1.1 hB.1.2 rfl rfl rfl (by decide) (Nat.le_of_ble_eq_true rfl) rfl ?_
    refine ex_if_ne (tgt := 52) dX10_line_27 (by decide) (fun c27 => ?_) (fun c27 => absurd c27 (by decide))
    refine ex_iconst (v := 0) dX10_line_52 (by decide) ?_
    exact ex_irt rfl dX10_line_53 (mp_i (by unfold sp_line; rw [if_neg (fun z => by simp only [ix_ok, i_le, i_lt, hML.1, Int32.reduceToInt] at *; omega)]) (by rw [mI_mm]; rfl) (RM_mI h1 0 1 (by decide)) (MF_mI hF1 0 1))
  · refine ex_iload_n dX10_line_10 1 rfl ?_
    refine ex_aload_n dX10_line_11 0 rfl ?_
    refine ex_getI dX10_line_12 fl_X10_90 hB.1.1 hB.1.2 ?_
    refine ex_icmp_lt (tgt := 22) dX10_line_15 (by decide) (fun c15 => ?_) (fun c15 => ?_)
    · refine ex_iconst (v := 0) dX10_line_22 (by decide) ?_
      refine ex_iconst (v := 1) dX10_line_23 (by decide) ?_
      refine ex_cVr [.int 0, .int 1] [] dX10_line_24 cV_X10_86 (m_bad0 g hB) hB.1.1 hB.1.2 rfl rfl rfl (by decide) (Nat.le_of_ble_eq_true rfl) rfl ?_
      refine ex_if_ne (tgt := 52) dX10_line_27 (by decide) (fun c27 => absurd (by decide) c27) (fun c27 => ?_)
      refine ex_aload_n dX10_line_30 0 rfl ?_
      refine ex_iload_n dX10_line_31 2 rfl ?_
      refine ex_if_lt (tgt := 40) dX10_line_32 (by decide) (fun c32 => ?_) (fun c32 => ?_)
      · refine ex_iconst (v := 1) dX10_line_40 (by decide) ?_
        refine ex_goto (tgt := 45) dX10_line_41 (by decide) ?_
        refine ex_iconst (v := 2) dX10_line_45 (by decide) ?_
        refine ex_cVr [.int 1, .int 2] [] dX10_line_46 cV_X10_86 (m_bad1 g hB) hB.1.1 hB.1.2 rfl rfl rfl (by decide) (Nat.le_of_ble_eq_true rfl) rfl ?_
        refine ex_if_eq (tgt := 54) dX10_line_49 (by decide) (fun c49 => absurd c49 (by decide)) (fun c49 => ?_)
        refine ex_iconst (v := 0) dX10_line_52 (by decide) ?_
        exact ex_irt rfl dX10_line_53 (mp_i (by unfold sp_line; rw [if_pos ⟨by rw [i_le]; rw [i_lt] at c7; exact Int.not_lt.mp c7, hML.1 ▸ c15⟩, if_neg (fun z => by simp only [i_le, i_lt, Int32.reduceToInt] at *; omega)]) (by rw [mI_mm]; rfl) (RM_mI h1 0 2 (by decide)) (MF_mI hF1 0 2))
      · refine ex_iload_n dX10_line_35 2 rfl ?_
        refine ex_iconst (v := 4) dX10_line_36 (by decide) ?_
        refine ex_icmp_le (tgt := 44) dX10_line_37 (by decide) (fun c37 => ?_) (fun c37 => ?_)
        · refine ex_iconst (v := 0) dX10_line_44 (by decide) ?_
          refine ex_iconst (v := 2) dX10_line_45 (by decide) ?_
          refine ex_cVr [.int 0, .int 2] [] dX10_line_46 cV_X10_86 (m_bad0 g hB) hB.1.1 hB.1.2 rfl rfl rfl (by decide) (Nat.le_of_ble_eq_true rfl) rfl ?_
          refine ex_if_eq (tgt := 54) dX10_line_49 (by decide) (fun c49 => ?_) (fun c49 => absurd (by decide) c49)
          have hxx : ix_ok x (s_ls s).length := ⟨by rw [i_le]; rw [i_lt] at c7; exact Int.not_lt.mp c7, hML.1 ▸ c15⟩
          have hyy : 0 ≤ y ∧ y ≤ 4 := ⟨by rw [i_le]; rw [i_lt] at c32; exact Int.not_lt.mp c32, c37⟩
          obtain ⟨j, hj, hxj⟩ := ix_of hxx (by omega)
          obtain ⟨hok, h6, h7, h8, h9, h10⟩ := hML.2.2 j hj
          refine ex_iload_n dX10_line_54 2 rfl ?_
          refine ex_if_ne (tgt := 67) dX10_line_55 (by decide) (fun c55 => ?_) (fun c55 => ?_)
          · refine ex_iload_n dX10_line_67 2 rfl ?_
            refine ex_iconst (v := 1) dX10_line_68 (by decide) ?_
            refine ex_icmp_ne (tgt := 81) dX10_line_69 (by decide) (fun c69 => ?_) (fun c69 => ?_)
            · refine ex_iload_n dX10_line_81 2 rfl ?_
              refine ex_iconst (v := 2) dX10_line_82 (by decide) ?_
              refine ex_icmp_ne (tgt := 95) dX10_line_83 (by decide) (fun c83 => ?_) (fun c83 => ?_)
              · refine ex_iload_n dX10_line_95 2 rfl ?_
                refine ex_iconst (v := 3) dX10_line_96 (by decide) ?_
                refine ex_icmp_ne (tgt := 109) dX10_line_97 (by decide) (fun c97 => ?_) (fun c97 => ?_)
                · refine ex_aload_n dX10_line_109 0 rfl ?_
                  refine ex_getR (b := ad 10) dX10_line_110 fl_X10_30 hB.1.1 hB.1.2 (mb_10 hB).1 ?_
                  refine ex_iload_n dX10_line_113 1 rfl ?_
                  refine ex_iald (j := j) dX10_line_114 (mb_10 hB).2.1 (mb_10 hB).2.2.1 hxj (Nat.lt_of_lt_of_eq (show j < 1500 by omega) (mb_10 hB).2.2.2.symm) (show j < 2 ^ 31 by omega) ?_
                  exact ex_irt rfl dX10_line_115 (mp_i (c := 0) (s' := s) (by unfold sp_line; rw [if_pos hxx, if_pos hyy, hxj, nI_clamp (by omega)]; simp [h6, h7, h8, h9, h10, *]) ht1 h1 hF1)
                · refine ex_aload_n dX10_line_100 0 rfl ?_
                  refine ex_getR (b := ad 9) dX10_line_101 fl_X10_27 hB.1.1 hB.1.2 (mb_9 hB).1 ?_
                  refine ex_iload_n dX10_line_104 1 rfl ?_
                  refine ex_iald (j := j) dX10_line_105 (mb_9 hB).2.1 (mb_9 hB).2.2.1 hxj (Nat.lt_of_lt_of_eq (show j < 1500 by omega) (mb_9 hB).2.2.2.symm) (show j < 2 ^ 31 by omega) ?_
                  refine ex_goto (tgt := 115) dX10_line_106 (by decide) ?_
                  exact ex_irt rfl dX10_line_115 (mp_i (c := 0) (s' := s) (by unfold sp_line; rw [if_pos hxx, if_pos hyy, hxj, nI_clamp (by omega)]; simp [h6, h7, h8, h9, h10, *]) ht1 h1 hF1)
              · refine ex_aload_n dX10_line_86 0 rfl ?_
                refine ex_getR (b := ad 8) dX10_line_87 fl_X10_24 hB.1.1 hB.1.2 (mb_8 hB).1 ?_
                refine ex_iload_n dX10_line_90 1 rfl ?_
                refine ex_iald (j := j) dX10_line_91 (mb_8 hB).2.1 (mb_8 hB).2.2.1 hxj (Nat.lt_of_lt_of_eq (show j < 1500 by omega) (mb_8 hB).2.2.2.symm) (show j < 2 ^ 31 by omega) ?_
                refine ex_goto (tgt := 115) dX10_line_92 (by decide) ?_
                exact ex_irt rfl dX10_line_115 (mp_i (c := 0) (s' := s) (by unfold sp_line; rw [if_pos hxx, if_pos hyy, hxj, nI_clamp (by omega)]; simp [h6, h7, h8, h9, h10, *]) ht1 h1 hF1)
            · refine ex_aload_n dX10_line_72 0 rfl ?_
              refine ex_getR (b := ad 7) dX10_line_73 fl_X10_21 hB.1.1 hB.1.2 (mb_7 hB).1 ?_
              refine ex_iload_n dX10_line_76 1 rfl ?_
              refine ex_iald (j := j) dX10_line_77 (mb_7 hB).2.1 (mb_7 hB).2.2.1 hxj (Nat.lt_of_lt_of_eq (show j < 1500 by omega) (mb_7 hB).2.2.2.symm) (show j < 2 ^ 31 by omega) ?_
              refine ex_goto (tgt := 115) dX10_line_78 (by decide) ?_
              exact ex_irt rfl dX10_line_115 (mp_i (c := 0) (s' := s) (by unfold sp_line; rw [if_pos hxx, if_pos hyy, hxj, nI_clamp (by omega)]; simp [h6, h7, h8, h9, h10, *]) ht1 h1 hF1)
          · refine ex_aload_n dX10_line_58 0 rfl ?_
            refine ex_getR (b := ad 6) dX10_line_59 fl_X10_17 hB.1.1 hB.1.2 (mb_6 hB).1 ?_
            refine ex_iload_n dX10_line_62 1 rfl ?_
            refine ex_iald (j := j) dX10_line_63 (mb_6 hB).2.1 (mb_6 hB).2.2.1 hxj (Nat.lt_of_lt_of_eq (show j < 1500 by omega) (mb_6 hB).2.2.2.symm) (show j < 2 ^ 31 by omega) ?_
            refine ex_goto (tgt := 115) dX10_line_64 (by decide) ?_
            exact ex_irt rfl dX10_line_115 (mp_i (c := 0) (s' := s) (by unfold sp_line; rw [if_pos hxx, if_pos hyy, hxj, nI_clamp (by omega)]; simp [h6, h7, h8, h9, h10, *]) ht1 h1 hF1)
        · refine ex_iconst (v := 1) dX10_line_40 (by decide) ?_
          refine ex_goto (tgt := 45) dX10_line_41 (by decide) ?_
          refine ex_iconst (v := 2) dX10_line_45 (by decide) ?_
          refine ex_cVr [.int 1, .int 2] [] dX10_line_46 cV_X10_86 (m_bad1 g hB) hB.1.1 hB.1.2 rfl rfl rfl (by decide) (Nat.le_of_ble_eq_true rfl) rfl ?_
          refine ex_if_eq (tgt := 54) dX10_line_49 (by decide) (fun c49 => absurd c49 (by decide)) (fun c49 => ?_)
          refine ex_iconst (v := 0) dX10_line_52 (by decide) ?_
          exact ex_irt rfl dX10_line_53 (mp_i (by unfold sp_line; rw [if_pos ⟨by rw [i_le]; rw [i_lt] at c7; exact Int.not_lt.mp c7, hML.1 ▸ c15⟩, if_neg (fun z => by simp only [i_le, i_lt, Int32.reduceToInt] at *; omega)]) (by rw [mI_mm]; rfl) (RM_mI h1 0 2 (by decide)) (MF_mI hF1 0 2))
    · refine ex_iconst (v := 1) dX10_line_18 (by decide) ?_
      refine ex_goto (tgt := 23) dX10_line_19 (by decide) ?_
      refine ex_iconst (v := 1) dX10_line_23 (by decide) ?_
      refine ex_cVr [.int 1, .int 1] [] dX10_line_24 cV_X10_86 (m_bad1 g hB) hB.1.1 hB.1.2 rfl rfl rfl (by decide) (Nat.le_of_ble_eq_true rfl) rfl ?_
      refine ex_if_ne (tgt := 52) dX10_line_27 (by decide) (fun c27 => ?_) (fun c27 => absurd c27 (by decide))
      refine ex_iconst (v := 0) dX10_line_52 (by decide) ?_
      exact ex_irt rfl dX10_line_53 (mp_i (by unfold sp_line; rw [if_neg (fun z => by simp only [ix_ok, i_le, i_lt, hML.1, Int32.reduceToInt] at *; omega)]) (by rw [mI_mm]; rfl) (RM_mI h1 0 1 (by decide)) (MF_mI hF1 0 1))
noncomputable def sp_paid (s : st_T) (x : Int32) : Nat × Value × st_T := if hd_ok s x then (0, .long (lN ((s_hs s).getD x.toNatClampNeg (0, 0)).2), s) else (1, .long 0, s)
set_option maxRecDepth 20000 in
set_option maxHeartbeats 4000000 in
theorem m_paid (g : gl_T) {S : hs_T} {n k m : Nat} {ad : Nat → Nat} {s : st_T} (h : RM S m ad s) {x : Int32} : ex_M g 1 mX10_paid [.ref m, .int x] S n k (mp S m ad n k (sp_paid s x)) := by
  refine ex_enter (by decide +kernel) (Nat.le_of_ble_eq_true rfl) ?_
  show ex_W _ _ _ _ 0 [(0, .ref m), (1, .int x)] [] _ _ _
  have hB := h.1
  refine ex_aload_n dX10_paid_0 0 rfl ?_
  refine ex_iconst (v := 0) dX10_paid_1 (by decide) ?_
  refine ex_putI dX10_paid_2 fl_X10_80 (pf_X10_80 _) hB.1.1 hB.1.2 ?_
  have h1 := RM_mI h 0 0 (by decide)
  have ht1 : hs_I (hs_sI S m 0 0) m 0 = nI 0 := by rw [mI_mm]; rfl
  have hF1 := MF_mI (MF_rf S m ad) 0 0
  generalize hs_sI S m 0 0 = S1 at h1 ht1 hF1 ⊢
  clear h hB
  obtain ⟨hB, hMS, hMH, hML, hMT, hMR, hMN, hMD, hMW⟩ := id h1
  have hhd : hd_ok s x ↔ (0 ≤ x ∧ x < hs_I S1 m 1) := by rw [hMH.1]
  by_cases hq : hd_ok s x
  · obtain ⟨j, hj, hxj⟩ := hd_of hq hMH.2.1
    have hj6 := hMH.2.1
    refine ex_aload_n dX10_paid_5 0 rfl ?_
    refine ex_aload_n dX10_paid_6 0 rfl ?_
    refine ex_iload_n dX10_paid_7 1 rfl ?_
    refine ex_cVr [.int x] [.ref m] dX10_paid_8 cV_X10_93 (m_isH1 g hB (hhd.mp hq)) hB.1.1 hB.1.2 rfl rfl rfl (by decide) (Nat.le_of_ble_eq_true rfl) rfl ?_
    refine ex_if_ne (tgt := 18) dX10_paid_11 (by decide) (fun c11 => ?_) (fun c11 => absurd c11 (by decide))
    refine ex_iconst (v := 0) dX10_paid_18 (by decide) ?_
    refine ex_iconst (v := 1) dX10_paid_19 (by decide) ?_
    refine ex_cVr [.int 0, .int 1] [] dX10_paid_20 cV_X10_86 (m_bad0 g hB) hB.1.1 hB.1.2 rfl rfl rfl (by decide) (Nat.le_of_ble_eq_true rfl) rfl ?_
    refine ex_if_eq (tgt := 30) dX10_paid_23 (by decide) (fun c23 => ?_) (fun c23 => absurd (by decide) c23)
    refine ex_aload_n dX10_paid_30 0 rfl ?_
    refine ex_getR (b := ad 5) dX10_paid_31 fl_X10_13 hB.1.1 hB.1.2 (mb_5 hB).1 ?_
    refine ex_iload_n dX10_paid_34 1 rfl ?_
    refine ex_lald (j := j) dX10_paid_35 (mb_5 hB).2.1 (mb_5 hB).2.2.1 hxj (Nat.lt_of_lt_of_eq (show j < 60 by omega) (mb_5 hB).2.2.2.symm) (show j < 2 ^ 31 by omega) ?_
    exact ex_lrt rfl dX10_paid_36 (mp_i (c := 0) (s' := s) (by unfold sp_paid; rw [if_pos hq, hxj, nI_clamp (by omega), (hMH.2.2 j (by omega)).2.1]) ht1 h1 hF1)
  · refine ex_aload_n dX10_paid_5 0 rfl ?_
    refine ex_aload_n dX10_paid_6 0 rfl ?_
    refine ex_iload_n dX10_paid_7 1 rfl ?_
    refine ex_cVr [.int x] [.ref m] dX10_paid_8 cV_X10_93 (m_isH0 g hB (fun z => hq (hhd.mpr z))) hB.1.1 hB.1.2 rfl rfl rfl (by decide) (Nat.le_of_ble_eq_true rfl) rfl ?_
    refine ex_if_ne (tgt := 18) dX10_paid_11 (by decide) (fun c11 => absurd (by decide) c11) (fun c11 => ?_)
    refine ex_iconst (v := 1) dX10_paid_14 (by decide) ?_
    refine ex_goto (tgt := 19) dX10_paid_15 (by decide) ?_
    refine ex_iconst (v := 1) dX10_paid_19 (by decide) ?_
    refine ex_cVr [.int 1, .int 1] [] dX10_paid_20 cV_X10_86 (m_bad1 g hB) hB.1.1 hB.1.2 rfl rfl rfl (by decide) (Nat.le_of_ble_eq_true rfl) rfl ?_
    refine ex_if_eq (tgt := 30) dX10_paid_23 (by decide) (fun c23 => absurd c23 (by decide)) (fun c23 => ?_)
    refine ex_lconst (v := 0) dX10_paid_26 (by decide) ?_
    refine ex_goto (tgt := 36) dX10_paid_27 (by decide) ?_
    exact ex_lrt rfl dX10_paid_36 (mp_i (by unfold sp_paid; rw [if_neg hq]) (by rw [mI_mm]; rfl) (RM_mI h1 0 1 (by decide)) (MF_mI hF1 0 1))
