/-- the four bytes of a number -/
def fb1 (v sh : Int32) : Int32 := (v >>> (sh &&& 31)).toInt8.toInt32
def fb (v : Int32) : List Int32 := [fb1 v 24, fb1 v 16, fb1 v 8, fb1 v 0]
def tpS (S : hs_T) (m : Nat) (ad : Nat → Nat) (i : Nat) (b : Int32) : hs_T := hs_sI (hs_sI S (ad 12) i b) m 13 (nI (i + 1))
theorem RM_tp {S : hs_T} {m : Nat} {ad : Nat → Nat} {s : st_T} (h : RM S m ad s) (hl : (s_tp s).length < 400) (b : Int32) : RM (tpS S m ad (s_tp s).length b) m ad (w_tp s (s_tp s ++ [b])) := by
  obtain ⟨hB, hMS, hMH, hML, hMT, hMR, hMN, hMD, hMW⟩ := h
  have hT : MT (tpS S m ad (s_tp s).length b) m ad (s_tp s ++ [b]) := by
    obtain ⟨h1, h2, h3⟩ := hMT
    unfold tpS
    refine ⟨by rw [mI_mm, if_pos rfl]; simp, by simp; omega, fun j hj => ?_⟩
    rw [mI_sm hB.2.2, mI_aa hB.2.2, gd_app]
    simp at hj
    by_cases q : j = (s_tp s).length
    · simp [q]
    · rw [if_neg (fun z => q z.2), if_neg q]; exact h3 j (by omega)
  exact ⟨hB, (MS_mI hB.2.2 (MS_aI hB.2.2 (hMS) 12 _ _ (by decide)) 13 _ (by decide)), (MH_mI hB.2.2 (MH_aI hB.2.2 (hMH) 12 _ _ (by decide)) 13 _ (by decide)), (ML_mI hB.2.2 (ML_aI hB.2.2 (hML) 12 _ _ (by decide)) 13 _ (by decide)), hT, (MR_mI hB.2.2 (MR_aI hB.2.2 (hMR) 12 _ _ (by decide)) 13 _ (by decide)), (MN_mI hB.2.2 (MN_aI hB.2.2 (hMN) 12 _ _ (by decide)) 13 _ (by decide)), (MD_mI hB.2.2 (MD_aI hB.2.2 (hMD) 12 _ _ (by decide)) 13 _ (by decide)), (MW_mI hB.2.2 (MW_aI hB.2.2 (hMW) 12 _ _ (by decide)) 13 _ (by decide))⟩
theorem MF_tp {S S1 : hs_T} {m : Nat} {ad : Nat → Nat} (hF1 : MF S S1 m ad) (i : Nat) (b : Int32) : MF S (tpS S1 m ad i b) m ad := MF_mI (MF_aI (hF1) 12 (by decide) _ _) 13 _
theorem tp_0 {S : hs_T} {m i : Nat} {ad : Nat → Nat} (hA : AD m ad) (b : Int32) : hs_I (tpS S m ad i b) m 0 = hs_I S m 0 := by
  unfold tpS; rw [mI_mm, if_neg (by decide), mI_sa hA]
noncomputable def sp_feed (s : st_T) (a b c d e : Int32) : Nat × Value × st_T := if 380 < (s_tp s).length then (0, .int (-1), s) else (0, .int (nI ((s_tp s).length + 20)), w_tp s (s_tp s ++ fb a ++ fb b ++ fb c ++ fb d ++ fb e))
set_option maxRecDepth 20000 in
set_option maxHeartbeats 2000000 in
theorem m_feed_b {g : gl_T} {S1 : hs_T} {n k m i : Nat} {ad : Nat → Nat} {Po : ex_R} {sh v u a b c e1 e2 : Int32} (hB : MB S1 m ad) (hi : hs_I S1 m 13 = nI i) (hi2 : i < 400)
    (kk : ex_W g 0 mX10_feed Po 107 [(8, .int sh), (7, .int v), (6, .int u), (0, .ref m), (1, .int a), (2, .int b), (3, .int c), (4, .int e1), (5, .int e2)] [] (tpS S1 m ad i (fb1 v sh)) n k) : ex_W g 0 mX10_feed Po 82 [(8, .int sh), (7, .int v), (6, .int u), (0, .ref m), (1, .int a), (2, .int b), (3, .int c), (4, .int e1), (5, .int e2)] [] S1 n k := by
  refine ex_aload_n dX10_feed_82 3 rfl ?_
  refine ex_getR (b := ad 12) dX10_feed_83 fl_X10_33 hB.1.1 hB.1.2 (mb_12 hB).1 ?_
  refine ex_aload_n dX10_feed_86 3 rfl ?_
  refine ex_getI dX10_feed_87 fl_X10_125 hB.1.1 hB.1.2 ?_
  refine ex_iload dX10_feed_90 1 rfl ?_
  refine ex_iload dX10_feed_92 0 rfl ?_
  refine ex_ishr dX10_feed_94 ?_
  refine ex_i2b dX10_feed_95 ?_
  refine ex_bast (j := i) dX10_feed_96 (mb_12 hB).2.1 (mb_12 hB).2.2.1 hi (Nat.lt_of_lt_of_eq (show i < 400 by omega) (mb_12 hB).2.2.2.symm) (show i < 2 ^ 31 by omega) ?_
  refine ex_aload_n dX10_feed_97 3 rfl ?_
  refine ex_dup dX10_feed_98 rfl ?_
  refine ex_getI dX10_feed_99 fl_X10_125 hB.1.1 hB.1.2 ?_
  refine ex_iconst (v := 1) dX10_feed_102 (by decide) ?_
  refine ex_iadd dX10_feed_103 ?_
  refine ex_putI dX10_feed_104 fl_X10_125 (pf_X10_125 _) hB.1.1 hB.1.2 ?_
  have he : hs_sI (hs_sI S1 (ad 12) i (vp_nar .byte ((v >>> (sh &&& 31)).toInt8.toInt32))) m 13 (hs_I (hs_sI S1 (ad 12) i (vp_nar .byte ((v >>> (sh &&& 31)).toInt8.toInt32))) m 13 + 1) = tpS S1 m ad i (fb1 v sh) := by unfold tpS fb1; rw [pk_vb, mI_sa hB.2.2, hi, nI_1]
  rw [he]
  exact kk
theorem tpl (s : st_T) (l : List Int32) : s_tp (w_tp s l) = l := rfl
set_option maxRecDepth 20000 in
set_option maxHeartbeats 2000000 in
theorem m_feed_w {g : gl_T} {S1 : hs_T} {n k m : Nat} {ad : Nat → Nat} {s : st_T} {Po : ex_R} {v u a b c e1 e2 : Int32} (h1 : RM S1 m ad s) (hl : (s_tp s).length ≤ 396)
    (kk : ∀ S2, RM S2 m ad (w_tp s (s_tp s ++ fb v)) → MF S1 S2 m ad → hs_I S2 m 0 = hs_I S1 m 0 → ex_W g 0 mX10_feed Po 113 [(6, .int u), (0, .ref m), (1, .int a), (2, .int b), (3, .int c), (4, .int e1), (5, .int e2)] [] S2 n k) : ex_W g 0 mX10_feed Po 73 [(7, .int v), (6, .int u), (0, .ref m), (1, .int a), (2, .int b), (3, .int c), (4, .int e1), (5, .int e2)] [] S1 n k := by
  have g1 := MF_rf S1 m ad
  have z1 : hs_I S1 m 0 = hs_I S1 m 0 := rfl
  refine ex_bipush (v := 24) dX10_feed_73 (by decide) ?_
  refine ex_istore [(8, .int 24), (7, .int v), (6, .int u), (0, .ref m), (1, .int a), (2, .int b), (3, .int c), (4, .int e1), (5, .int e2)] dX10_feed_75 (by decide) rfl ?_
  refine ex_iload dX10_feed_77 0 rfl ?_
  refine ex_if_lt (tgt := 113) dX10_feed_79 (by decide) (fun c79 => absurd c79 (by decide)) (fun c79 => ?_)
  refine ex_lv [0, 1, 2, 3, 4, 5, 6, 7, 8] rfl ?_
  refine m_feed_b (i := (s_tp s).length) h1.1 h1.2.2.2.2.1.1 (by first | omega | (simp only [tpl, List.length_append, List.length_cons, List.length_nil]; omega)) ?_
  have h2 : RM (tpS S1 m ad (s_tp s).length (fb1 v 24)) m ad (w_tp s (s_tp s ++ [fb1 v 24])) := RM_tp h1 (by first | omega | (simp only [tpl, List.length_append, List.length_cons, List.length_nil]; omega)) (fb1 v 24)
  have g2 := MF_tp g1 (s_tp s).length (fb1 v 24)
  have z2 := (tp_0 h1.1.2.2 (i := (s_tp s).length) (fb1 v 24)).trans z1
  generalize hg1 : tpS S1 m ad (s_tp s).length (fb1 v 24) = S2 at h2 g2 z2 ⊢
  refine ex_iinc (v := 16) 0 [(8, .int 16), (7, .int v), (6, .int u), (0, .ref m), (1, .int a), (2, .int b), (3, .int c), (4, .int e1), (5, .int e2)] dX10_feed_107 rfl (by decide) (by decide) rfl ?_
  refine ex_goto (tgt := 77) dX10_feed_110 (by decide) ?_
  refine ex_iload dX10_feed_77 0 rfl ?_
  refine ex_if_lt (tgt := 113) dX10_feed_79 (by decide) (fun c79 => absurd c79 (by decide)) (fun c79 => ?_)
  refine ex_lv [0, 1, 2, 3, 4, 5, 6, 7, 8] rfl ?_
  refine m_feed_b (i := (s_tp s ++ [fb1 v 24]).length) h2.1 h2.2.2.2.2.1.1 (by first | omega | (simp only [tpl, List.length_append, List.length_cons, List.length_nil]; omega)) ?_
  have h3 : RM (tpS S2 m ad (s_tp s ++ [fb1 v 24]).length (fb1 v 16)) m ad (w_tp s (s_tp s ++ [fb1 v 24] ++ [fb1 v 16])) := RM_tp h2 (by first | omega | (simp only [tpl, List.length_append, List.length_cons, List.length_nil]; omega)) (fb1 v 16)
  have g3 := MF_tp g2 (s_tp s ++ [fb1 v 24]).length (fb1 v 16)
  have z3 := (tp_0 h2.1.2.2 (i := (s_tp s ++ [fb1 v 24]).length) (fb1 v 16)).trans z2
  generalize hg2 : tpS S2 m ad (s_tp s ++ [fb1 v 24]).length (fb1 v 16) = S3 at h3 g3 z3 ⊢
  refine ex_iinc (v := 8) 0 [(8, .int 8), (7, .int v), (6, .int u), (0, .ref m), (1, .int a), (2, .int b), (3, .int c), (4, .int e1), (5, .int e2)] dX10_feed_107 rfl (by decide) (by decide) rfl ?_
  refine ex_goto (tgt := 77) dX10_feed_110 (by decide) ?_
  refine ex_iload dX10_feed_77 0 rfl ?_
  refine ex_if_lt (tgt := 113) dX10_feed_79 (by decide) (fun c79 => absurd c79 (by decide)) (fun c79 => ?_)
  refine ex_lv [0, 1, 2, 3, 4, 5, 6, 7, 8] rfl ?_
  refine m_feed_b (i := (s_tp s ++ [fb1 v 24] ++ [fb1 v 16]).length) h3.1 h3.2.2.2.2.1.1 (by first | omega | (simp only [tpl, List.length_append, List.length_cons, List.length_nil]; omega)) ?_
  have h4 : RM (tpS S3 m ad (s_tp s ++ [fb1 v 24] ++ [fb1 v 16]).length (fb1 v 8)) m ad (w_tp s (s_tp s ++ [fb1 v 24] ++ [fb1 v 16] ++ [fb1 v 8])) := RM_tp h3 (by first | omega | (simp only [tpl, List.length_append, List.length_cons, List.length_nil]; omega)) (fb1 v 8)
  have g4 := MF_tp g3 (s_tp s ++ [fb1 v 24] ++ [fb1 v 16]).length (fb1 v 8)
  have z4 := (tp_0 h3.1.2.2 (i := (s_tp s ++ [fb1 v 24] ++ [fb1 v 16]).length) (fb1 v 8)).trans z3
  generalize hg3 : tpS S3 m ad (s_tp s ++ [fb1 v 24] ++ [fb1 v 16]).length (fb1 v 8) = S4 at h4 g4 z4 ⊢
  refine ex_iinc (v := 0) 0 [(8, .int 0), (7, .int v), (6, .int u), (0, .ref m), (1, .int a), (2, .int b), (3, .int c), (4, .int e1), (5, .int e2)] dX10_feed_107 rfl (by decide) (by decide) rfl ?_
  refine ex_goto (tgt := 77) dX10_feed_110 (by decide) ?_
  refine ex_iload dX10_feed_77 0 rfl ?_
  refine ex_if_lt (tgt := 113) dX10_feed_79 (by decide) (fun c79 => absurd c79 (by decide)) (fun c79 => ?_)
  refine ex_lv [0, 1, 2, 3, 4, 5, 6, 7, 8] rfl ?_
  refine m_feed_b (i := (s_tp s ++ [fb1 v 24] ++ [fb1 v 16] ++ [fb1 v 8]).length) h4.1 h4.2.2.2.2.1.1 (by first | omega | (simp only [tpl, List.length_append, List.length_cons, List.length_nil]; omega)) ?_
  have h5 : RM (tpS S4 m ad (s_tp s ++ [fb1 v 24] ++ [fb1 v 16] ++ [fb1 v 8]).length (fb1 v 0)) m ad (w_tp s (s_tp s ++ [fb1 v 24] ++ [fb1 v 16] ++ [fb1 v 8] ++ [fb1 v 0])) := RM_tp h4 (by first | omega | (simp only [tpl, List.length_append, List.length_cons, List.length_nil]; omega)) (fb1 v 0)
  have g5 := MF_tp g4 (s_tp s ++ [fb1 v 24] ++ [fb1 v 16] ++ [fb1 v 8]).length (fb1 v 0)
  have z5 := (tp_0 h4.1.2.2 (i := (s_tp s ++ [fb1 v 24] ++ [fb1 v 16] ++ [fb1 v 8]).length) (fb1 v 0)).trans z4
  generalize hg4 : tpS S4 m ad (s_tp s ++ [fb1 v 24] ++ [fb1 v 16] ++ [fb1 v 8]).length (fb1 v 0) = S5 at h5 g5 z5 ⊢
  refine ex_iinc (v := (-8)) 0 [(8, .int (-8)), (7, .int v), (6, .int u), (0, .ref m), (1, .int a), (2, .int b), (3, .int c), (4, .int e1), (5, .int e2)] dX10_feed_107 rfl (by decide) (by decide) rfl ?_
  refine ex_goto (tgt := 77) dX10_feed_110 (by decide) ?_
  refine ex_iload dX10_feed_77 0 rfl ?_
  refine ex_if_lt (tgt := 113) dX10_feed_79 (by decide) (fun c79 => ?_) (fun c79 => absurd (by decide) c79)
  refine ex_lv [2, 3, 4, 5, 6, 7, 8] rfl ?_
  have e4 : w_tp s ((((s_tp s ++ [fb1 v 24]) ++ [fb1 v 16]) ++ [fb1 v 8]) ++ [fb1 v 0]) = w_tp s (s_tp s ++ fb v) := by simp [fb]
  exact kk S5 (e4 ▸ h5) g5 z5
set_option maxRecDepth 20000 in
set_option maxHeartbeats 4000000 in
theorem m_feed (g : gl_T) {S : hs_T} {n k m : Nat} {ad : Nat → Nat} {s : st_T} (h : RM S m ad s) {a b c e1 e2 : Int32} : ex_M g 0 mX10_feed [.ref m, .int a, .int b, .int c, .int e1, .int e2] S n k (mp S m ad n k (sp_feed s a b c e1 e2)) := by
  refine ex_enter (by decide +kernel) (Nat.le_of_ble_eq_true rfl) ?_
  show ex_W _ _ _ _ 0 [(0, .ref m), (1, .int a), (2, .int b), (3, .int c), (4, .int e1), (5, .int e2)] [] _ _ _
  have hB := h.1
  refine ex_aload_n dX10_feed_0 0 rfl ?_
  refine ex_iconst (v := 0) dX10_feed_1 (by decide) ?_
  refine ex_putI dX10_feed_2 fl_X10_80 (pf_X10_80 _) hB.1.1 hB.1.2 ?_
  have h1 := RM_mI h 0 0 (by decide)
  have ht1 : hs_I (hs_sI S m 0 0) m 0 = nI 0 := by rw [mI_mm]; rfl
  have hF1 := MF_mI (MF_rf S m ad) 0 0
  generalize hs_sI S m 0 0 = S1 at h1 ht1 hF1 ⊢
  clear h hB
  obtain ⟨hB, hMS, hMH, hML, hMT, hMR, hMN, hMD, hMW⟩ := id h1
  have hl4 := hMT.2.1
  refine ex_aload_n dX10_feed_5 0 rfl ?_
  refine ex_getI dX10_feed_6 fl_X10_125 hB.1.1 hB.1.2 ?_
  refine ex_bipush (v := 20) dX10_feed_9 (by decide) ?_
  refine ex_iadd dX10_feed_11 ?_
  refine ex_sipush (v := 400) dX10_feed_12 (by decide) ?_
  refine ex_icmp_le (tgt := 20) dX10_feed_15 (by decide) (fun c15 => ?_) (fun c15 => ?_)
  · have hle : ¬ 380 < (s_tp s).length := by
      intro q
      have z : hs_I S1 m 13 + 20 ≤ nI 400 := c15
      rw [hMT.1] at z
      have z2 := (nI_leI (by omega) (by decide)).mp ((nI_add _ 20) ▸ z)
      omega
    refine ex_iconst (v := 0) dX10_feed_20 (by decide) ?_
    refine ex_istore [(6, .int 0), (0, .ref m), (1, .int a), (2, .int b), (3, .int c), (4, .int e1), (5, .int e2)] dX10_feed_21 (by decide) rfl ?_
    refine ex_iload dX10_feed_23 0 rfl ?_
    refine ex_iconst (v := 5) dX10_feed_25 (by decide) ?_
    refine ex_icmp_ge (tgt := 119) dX10_feed_26 (by decide) (fun c26 => absurd c26 (by decide)) (fun c26 => ?_)
    refine ex_iload dX10_feed_29 0 rfl ?_
    refine ex_if_ne (tgt := 38) dX10_feed_31 (by decide) (fun c31 => absurd (by decide) c31) (fun c31 => ?_)
    refine ex_iload_n dX10_feed_34 2 rfl ?_
    refine ex_goto (tgt := 71) dX10_feed_35 (by decide) ?_
    refine ex_istore [(7, .int a), (6, .int 0), (0, .ref m), (1, .int a), (2, .int b), (3, .int c), (4, .int e1), (5, .int e2)] dX10_feed_71 (by decide) rfl ?_
    refine ex_lv [0, 1, 2, 3, 4, 5, 6, 7] rfl ?_
    refine m_feed_w h1 (by first | omega | (simp only [tpl, List.length_append, fb, List.length_cons, List.length_nil]; omega)) (fun S2 h2 q1 z1 => ?_)
    have hF2 := MF_tr hF1 q1
    have ht2 := z1.trans ht1
    have hB := h2.1
    refine ex_iinc (v := 1) 0 [(6, .int 1), (0, .ref m), (1, .int a), (2, .int b), (3, .int c), (4, .int e1), (5, .int e2)] dX10_feed_113 rfl (by decide) (by decide) rfl ?_
    refine ex_goto (tgt := 23) dX10_feed_116 (by decide) ?_
    refine ex_iload dX10_feed_23 0 rfl ?_
    refine ex_iconst (v := 5) dX10_feed_25 (by decide) ?_
    refine ex_icmp_ge (tgt := 119) dX10_feed_26 (by decide) (fun c26 => absurd c26 (by decide)) (fun c26 => ?_)
    refine ex_iload dX10_feed_29 0 rfl ?_
    refine ex_if_ne (tgt := 38) dX10_feed_31 (by decide) (fun c31 => ?_) (fun c31 => absurd c31 (by decide))
    refine ex_iload dX10_feed_38 0 rfl ?_
    refine ex_iconst (v := 1) dX10_feed_40 (by decide) ?_
    refine ex_icmp_ne (tgt := 48) dX10_feed_41 (by decide) (fun c41 => absurd (by decide) c41) (fun c41 => ?_)
    refine ex_iload_n dX10_feed_44 3 rfl ?_
    refine ex_goto (tgt := 71) dX10_feed_45 (by decide) ?_
    refine ex_istore [(7, .int b), (6, .int 1), (0, .ref m), (1, .int a), (2, .int b), (3, .int c), (4, .int e1), (5, .int e2)] dX10_feed_71 (by decide) rfl ?_
    refine ex_lv [0, 1, 2, 3, 4, 5, 6, 7] rfl ?_
    refine m_feed_w h2 (by first | omega | (simp only [tpl, List.length_append, fb, List.length_cons, List.length_nil]; omega)) (fun S3 h3 q2 z2 => ?_)
    have hF3 := MF_tr hF2 q2
    have ht3 := z2.trans ht2
    have hB := h3.1
    refine ex_iinc (v := 2) 0 [(6, .int 2), (0, .ref m), (1, .int a), (2, .int b), (3, .int c), (4, .int e1), (5, .int e2)] dX10_feed_113 rfl (by decide) (by decide) rfl ?_
    refine ex_goto (tgt := 23) dX10_feed_116 (by decide) ?_
    refine ex_iload dX10_feed_23 0 rfl ?_
    refine ex_iconst (v := 5) dX10_feed_25 (by decide) ?_
    refine ex_icmp_ge (tgt := 119) dX10_feed_26 (by decide) (fun c26 => absurd c26 (by decide)) (fun c26 => ?_)
    refine ex_iload dX10_feed_29 0 rfl ?_
    refine ex_if_ne (tgt := 38) dX10_feed_31 (by decide) (fun c31 => ?_) (fun c31 => absurd c31 (by decide))
    refine ex_iload dX10_feed_38 0 rfl ?_
    refine ex_iconst (v := 1) dX10_feed_40 (by decide) ?_
    refine ex_icmp_ne (tgt := 48) dX10_feed_41 (by decide) (fun c41 => ?_) (fun c41 => absurd c41 (by decide))
    refine ex_iload dX10_feed_48 0 rfl ?_
    refine ex_iconst (v := 2) dX10_feed_50 (by decide) ?_
    refine ex_icmp_ne (tgt := 58) dX10_feed_51 (by decide) (fun c51 => absurd (by decide) c51) (fun c51 => ?_)
    refine ex_iload_n dX10_feed_54 4 rfl ?_
    refine ex_goto (tgt := 71) dX10_feed_55 (by decide) ?_
    refine ex_istore [(7, .int c), (6, .int 2), (0, .ref m), (1, .int a), (2, .int b), (3, .int c), (4, .int e1), (5, .int e2)] dX10_feed_71 (by decide) rfl ?_
    refine ex_lv [0, 1, 2, 3, 4, 5, 6, 7] rfl ?_
    refine m_feed_w h3 (by first | omega | (simp only [tpl, List.length_append, fb, List.length_cons, List.length_nil]; omega)) (fun S4 h4 q3 z3 => ?_)
    have hF4 := MF_tr hF3 q3
    have ht4 := z3.trans ht3
    have hB := h4.1
    refine ex_iinc (v := 3) 0 [(6, .int 3), (0, .ref m), (1, .int a), (2, .int b), (3, .int c), (4, .int e1), (5, .int e2)] dX10_feed_113 rfl (by decide) (by decide) rfl ?_
    refine ex_goto (tgt := 23) dX10_feed_116 (by decide) ?_
    refine ex_iload dX10_feed_23 0 rfl ?_
    refine ex_iconst (v := 5) dX10_feed_25 (by decide) ?_
    refine ex_icmp_ge (tgt := 119) dX10_feed_26 (by decide) (fun c26 => absurd c26 (by decide)) (fun c26 => ?_)
    refine ex_iload dX10_feed_29 0 rfl ?_
    refine ex_if_ne (tgt := 38) dX10_feed_31 (by decide) (fun c31 => ?_) (fun c31 => absurd c31 (by decide))
    refine ex_iload dX10_feed_38 0 rfl ?_
    refine ex_iconst (v := 1) dX10_feed_40 (by decide) ?_
    refine ex_icmp_ne (tgt := 48) dX10_feed_41 (by decide) (fun c41 => ?_) (fun c41 => absurd c41 (by decide))
    refine ex_iload dX10_feed_48 0 rfl ?_
    refine ex_iconst (v := 2) dX10_feed_50 (by decide) ?_
    refine ex_icmp_ne (tgt := 58) dX10_feed_51 (by decide) (fun c51 => ?_) (fun c51 => absurd c51 (by decide))
    refine ex_iload dX10_feed_58 0 rfl ?_
    refine ex_iconst (v := 3) dX10_feed_60 (by decide) ?_
    refine ex_icmp_ne (tgt := 69) dX10_feed_61 (by decide) (fun c61 => absurd (by decide) c61) (fun c61 => ?_)
    refine ex_iload dX10_feed_64 5 rfl ?_
    refine ex_goto (tgt := 71) dX10_feed_66 (by decide) ?_
    refine ex_istore [(7, .int e1), (6, .int 3), (0, .ref m), (1, .int a), (2, .int b), (3, .int c), (4, .int e1), (5, .int e2)] dX10_feed_71 (by decide) rfl ?_
    refine ex_lv [0, 1, 2, 3, 4, 5, 6, 7] rfl ?_
    refine m_feed_w h4 (by first | omega | (simp only [tpl, List.length_append, fb, List.length_cons, List.length_nil]; omega)) (fun S5 h5 q4 z4 => ?_)
    have hF5 := MF_tr hF4 q4
    have ht5 := z4.trans ht4
    have hB := h5.1
    refine ex_iinc (v := 4) 0 [(6, .int 4), (0, .ref m), (1, .int a), (2, .int b), (3, .int c), (4, .int e1), (5, .int e2)] dX10_feed_113 rfl (by decide) (by decide) rfl ?_
    refine ex_goto (tgt := 23) dX10_feed_116 (by decide) ?_
    refine ex_iload dX10_feed_23 0 rfl ?_
    refine ex_iconst (v := 5) dX10_feed_25 (by decide) ?_
    refine ex_icmp_ge (tgt := 119) dX10_feed_26 (by decide) (fun c26 => absurd c26 (by decide)) (fun c26 => ?_)
    refine ex_iload dX10_feed_29 0 rfl ?_
    refine ex_if_ne (tgt := 38) dX10_feed_31 (by decide) (fun c31 => ?_) (fun c31 => absurd c31 (by decide))
    refine ex_iload dX10_feed_38 0 rfl ?_
    refine ex_iconst (v := 1) dX10_feed_40 (by decide) ?_
    refine ex_icmp_ne (tgt := 48) dX10_feed_41 (by decide) (fun c41 => ?_) (fun c41 => absurd c41 (by decide))
    refine ex_iload dX10_feed_48 0 rfl ?_
    refine ex_iconst (v := 2) dX10_feed_50 (by decide) ?_
    refine ex_icmp_ne (tgt := 58) dX10_feed_51 (by decide) (fun c51 => ?_) (fun c51 => absurd c51 (by decide))
    refine ex_iload dX10_feed_58 0 rfl ?_
    refine ex_iconst (v := 3) dX10_feed_60 (by decide) ?_
    refine ex_icmp_ne (tgt := 69) dX10_feed_61 (by decide) (fun c61 => ?_) (fun c61 => absurd c61 (by decide))
    refine ex_iload dX10_feed_69 6 rfl ?_
    refine ex_istore [(7, .int e2), (6, .int 4), (0, .ref m), (1, .int a), (2, .int b), (3, .int c), (4, .int e1), (5, .int e2)] dX10_feed_71 (by decide) rfl ?_
    refine ex_lv [0, 1, 2, 3, 4, 5, 6, 7] rfl ?_
    refine m_feed_w h5 (by first | omega | (simp only [tpl, List.length_append, fb, List.length_cons, List.length_nil]; omega)) (fun S6 h6 q5 z5 => ?_)
    have hF6 := MF_tr hF5 q5
    have ht6 := z5.trans ht5
    have hB := h6.1
    refine ex_iinc (v := 5) 0 [(6, .int 5), (0, .ref m), (1, .int a), (2, .int b), (3, .int c), (4, .int e1), (5, .int e2)] dX10_feed_113 rfl (by decide) (by decide) rfl ?_
    refine ex_goto (tgt := 23) dX10_feed_116 (by decide) ?_
    refine ex_iload dX10_feed_23 0 rfl ?_
    refine ex_iconst (v := 5) dX10_feed_25 (by decide) ?_
    refine ex_icmp_ge (tgt := 119) dX10_feed_26 (by decide) (fun c26 => ?_) (fun c26 => absurd (by decide) c26)
    refine ex_aload_n dX10_feed_119 1 rfl ?_
    refine ex_getI dX10_feed_120 fl_X10_125 hB.1.1 hB.1.2 ?_
    exact ex_irt rfl dX10_feed_123 (mp_i (c := 0) (by unfold sp_feed; rw [if_neg hle, h6.2.2.2.2.1.1]; simp [tpl, fb]; rfl) ht6 h6 hF6)
  · refine ex_iconst (v := (-1)) dX10_feed_18 (by decide) ?_
    exact ex_irt rfl dX10_feed_19 (mp_i (c := 0) (s' := s) (by unfold sp_feed; rw [if_pos (Nat.lt_of_not_le (fun q => c15 (by rw [hMT.1]; exact (nI_add _ 20) ▸ nI_le (show (s_tp s).length + 20 ≤ 400 by omega) (by decide))))]) ht1 h1 hF1)
