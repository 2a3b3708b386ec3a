/-! a win more -/
def wS (S : hs_T) (m : Nat) (ad : Nat → Nat) (i : Nat) (a b c d : Int32) : hs_T := hs_sI (hs_sI (hs_sI (hs_sI (hs_sI (hs_sI S (ad 28) i a) (ad 29) i b) (ad 30) i c) (ad 31) i d) (ad 32) i 0) m 33 (nI (i + 1))
theorem MW_new {S : hs_T} {m : Nat} {ad : Nat → Nat} (hA : AD m ad) {ws : List wi_T} (h : MW S m ad ws) (hl : ws.length < 2000) {a b c d : Int32} {w : wi_T} (ha : a = nI w.1) (hb : b = nI w.2.2.1) (hc : c = nI w.2.2.2.1) (hd : d = nI w.2.2.2.2.1) (he : w.2.2.2.2.2 = 0) : MW (wS S m ad ws.length a b c d) m ad (ws ++ [w]) := by
  obtain ⟨h1, h2, h3⟩ := h
  unfold wS
  refine ⟨by rw [mI_mm, if_pos rfl]; simp, by simp; omega, fun j hj => ?_⟩
  simp at hj
  simp only [mI_sm hA, mI_aa hA, gd_app]
  by_cases q : j = ws.length
  · subst q; simp [ha, hb, hc, hd, he]; rfl
  · simpa [q] using h3 j (by omega)
theorem RM_win {S : hs_T} {m : Nat} {ad : Nat → Nat} {s : st_T} (h : RM S m ad s) (hl : (s_ws s).length < 2000) {a b c d : Int32} {w : wi_T} (ha : a = nI w.1) (hb : b = nI w.2.2.1) (hc : c = nI w.2.2.2.1) (hd : d = nI w.2.2.2.2.1) (he : w.2.2.2.2.2 = 0) : RM (wS S m ad (s_ws s).length a b c d) m ad (w_ws s (s_ws s ++ [w])) := by
  obtain ⟨hB, hMS, hMH, hML, hMT, hMR, hMN, hMD, hMW⟩ := h
  have hW := MW_new hB.2.2 hMW hl ha hb hc hd he
  exact ⟨hB, (MS_mI hB.2.2 (MS_aI hB.2.2 (MS_aI hB.2.2 (MS_aI hB.2.2 (MS_aI hB.2.2 (MS_aI hB.2.2 (hMS) 28 _ _ (by decide)) 29 _ _ (by decide)) 30 _ _ (by decide)) 31 _ _ (by decide)) 32 _ _ (by decide)) 33 _ (by decide)), (MH_mI hB.2.2 (MH_aI hB.2.2 (MH_aI hB.2.2 (MH_aI hB.2.2 (MH_aI hB.2.2 (MH_aI hB.2.2 (hMH) 28 _ _ (by decide)) 29 _ _ (by decide)) 30 _ _ (by decide)) 31 _ _ (by decide)) 32 _ _ (by decide)) 33 _ (by decide)), (ML_mI hB.2.2 (ML_aI hB.2.2 (ML_aI hB.2.2 (ML_aI hB.2.2 (ML_aI hB.2.2 (ML_aI hB.2.2 (hML) 28 _ _ (by decide)) 29 _ _ (by decide)) 30 _ _ (by decide)) 31 _ _ (by decide)) 32 _ _ (by decide)) 33 _ (by decide)), (MT_mI hB.2.2 (MT_aI hB.2.2 (MT_aI hB.2.2 (MT_aI hB.2.2 (MT_aI hB.2.2 (MT_aI hB.2.2 (hMT) 28 _ _ (by decide)) 29 _ _ (by decide)) 30 _ _ (by decide)) 31 _ _ (by decide)) 32 _ _ (by decide)) 33 _ (by decide)), (MR_mI hB.2.2 (MR_aI hB.2.2 (MR_aI hB.2.2 (MR_aI hB.2.2 (MR_aI hB.2.2 (MR_aI hB.2.2 (hMR) 28 _ _ (by decide)) 29 _ _ (by decide)) 30 _ _ (by decide)) 31 _ _ (by decide)) 32 _ _ (by decide)) 33 _ (by decide)), (MN_mI hB.2.2 (MN_aI hB.2.2 (MN_aI hB.2.2 (MN_aI hB.2.2 (MN_aI hB.2.2 (MN_aI hB.2.2 (hMN) 28 _ _ (by decide)) 29 _ _ (by decide)) 30 _ _ (by decide)) 31 _ _ (by decide)) 32 _ _ (by decide)) 33 _ (by decide)), (MD_mI hB.2.2 (MD_aI hB.2.2 (MD_aI hB.2.2 (MD_aI hB.2.2 (MD_aI hB.2.2 (MD_aI hB.2.2 (hMD) 28 _ _ (by decide)) 29 _ _ (by decide)) 30 _ _ (by decide)) 31 _ _ (by decide)) 32 _ _ (by decide)) 33 _ (by decide)), hW⟩
theorem MF_win {S S1 : hs_T} {m : Nat} {ad : Nat → Nat} (hF1 : MF S S1 m ad) (i : Nat) (a b c d : Int32) : MF S (wS S1 m ad i a b c d) m ad := MF_mI (MF_aI (MF_aI (MF_aI (MF_aI (MF_aI (hF1) 28 (by decide) _ _) 29 (by decide) _ _) 30 (by decide) _ _) 31 (by decide) _ _) 32 (by decide) _ _) 33 _
theorem wS_o {S : hs_T} {m i : Nat} {ad : Nat → Nat} (hA : AD m ad) (a b c d : Int32) : hs_I (wS S m ad i a b c d) m 0 = hs_I S m 0 ∧ hs_I (wS S m ad i a b c d) (ad 35) = hs_I S (ad 35) ∧ hs_J (wS S m ad i a b c d) = hs_J S := by
  unfold wS
  refine ⟨by simp only [mI_mm, mI_sa hA]; rfl, funext fun w => ?_, rfl⟩
  simp only [mI_sm hA, mI_aa hA]
  simp
theorem MY_of {S S1 : hs_T} {ad : Nat → Nat} {zs : List Nat} (h : MY S ad zs) (e : hs_I S1 (ad 35) = hs_I S (ad 35)) : MY S1 ad zs := fun j hj => by rw [e]; exact h j hj
theorem dr_i {zs : List Nat} {i : Nat} (h : i < zs.length) : zs.drop i = zs.getD i 0 :: zs.drop (i + 1) := by
  rw [List.getD_eq_getElem?_getD, List.getElem?_eq_getElem h]
  exact List.drop_eq_getElem_cons h
set_option maxRecDepth 20000 in
set_option maxHeartbeats 2000000 in
theorem m_winsAt_e {g : gl_T} {S : hs_T} {n k m : Nat} {ad : Nat → Nat} {s : st_T} {zs : List Nat} {xq : Int64} {xp : Int32} {pr td : Nat} {i q q0 : Nat} (h : RM S m ad s) (hmy : MY S ad zs) (hwl : (s_ws s).length < 2000) (hxp : xp = nI pr) (hil : i < zs.length) (hzi : zs.getD i 0 < (s_ls s).length) (hbo : ((ln_at (s_ls s) (zs.getD i 0)).1 + q, (ln_at (s_ls s) (zs.getD i 0)).2.2.1) = bo (s_ls s) zs q0) (hz15 : zs.length ≤ 1500) : ex_W g 0 mX10_winsAt (fun r S' n' k' => r = .inl none ∧ SX S S' m ad (w_ws s (s_ws s ++ [((s_ds s).length, td, (bo (s_ls s) zs q0).1, (bo (s_ls s) zs q0).2, pr, 0)])) ∧ MY S' ad zs ∧ hs_J S' = hs_J S ∧ n' = n ∧ k' = k) 77 [(6, .int (nI i)), (4, .long (lN q)), (0, .ref m), (1, .long xq), (3, .int xp)] [] S n k := by
  obtain ⟨hB, hMS, hMH, hML, hMT, hMR, hMN, hMD, hMW⟩ := id h
  have hl15 := hML.2.1
  obtain ⟨hok, h6, h7, h8, h9, h10⟩ := hML.2.2 _ hzi
  refine ex_aload_n dX10_winsAt_77 2 rfl ?_
  refine ex_getR (b := ad 28) dX10_winsAt_78 fl_X10_62 hB.1.1 hB.1.2 (mb_28 hB).1 ?_
  refine ex_aload_n dX10_winsAt_81 2 rfl ?_
  refine ex_getI dX10_winsAt_82 fl_X10_121 hB.1.1 hB.1.2 ?_
  refine ex_aload_n dX10_winsAt_85 2 rfl ?_
  refine ex_getI dX10_winsAt_86 fl_X10_218 hB.1.1 hB.1.2 ?_
  refine ex_iast (j := (s_ws s).length) dX10_winsAt_89 (mb_28 hB).2.1 (mb_28 hB).2.2.1 hMW.1 (Nat.lt_of_lt_of_eq (show (s_ws s).length < 2000 by omega) (mb_28 hB).2.2.2.symm) (show (s_ws s).length < 2 ^ 31 by omega) ?_
  refine ex_aload_n dX10_winsAt_90 2 rfl ?_
  refine ex_getR (b := ad 29) dX10_winsAt_91 fl_X10_65 hB.1.1 hB.1.2 (mb_29 hB).1 ?_
  refine ex_aload_n dX10_winsAt_94 2 rfl ?_
  refine ex_getI dX10_winsAt_95 fl_X10_121 hB.1.1 hB.1.2 ?_
  refine ex_aload_n dX10_winsAt_98 2 rfl ?_
  refine ex_getR (b := ad 6) dX10_winsAt_99 fl_X10_17 hB.1.1 hB.1.2 (mb_6 hB).1 ?_
  refine ex_aload_n dX10_winsAt_102 2 rfl ?_
  refine ex_getR (b := ad 35) dX10_winsAt_103 fl_X10_77 hB.1.1 hB.1.2 (mb_35 hB).1 ?_
  refine ex_iload dX10_winsAt_106 0 rfl ?_
  refine ex_iald (j := i) dX10_winsAt_108 (mb_35 hB).2.1 (mb_35 hB).2.2.1 rfl (Nat.lt_of_lt_of_eq (show i < 1500 by omega) (mb_35 hB).2.2.2.symm) (show i < 2 ^ 31 by omega) ?_
  refine ex_iald (j := (zs.getD i 0)) dX10_winsAt_109 (mb_6 hB).2.1 (mb_6 hB).2.2.1 (by rw [mI_aa hB.2.2, if_neg (by simp)]; exact hmy i hil) (Nat.lt_of_lt_of_eq (show (zs.getD i 0) < 1500 by omega) (mb_6 hB).2.2.2.symm) (show (zs.getD i 0) < 2 ^ 31 by omega) ?_
  refine ex_lload dX10_winsAt_110 1 rfl ?_
  refine ex_l2i dX10_winsAt_112 ?_
  refine ex_iadd dX10_winsAt_113 ?_
  refine ex_iast (j := (s_ws s).length) dX10_winsAt_114 (mb_29 hB).2.1 (mb_29 hB).2.2.1 (by simp only [mI_sa hB.2.2]; exact hMW.1) (Nat.lt_of_lt_of_eq (show (s_ws s).length < 2000 by omega) (mb_29 hB).2.2.2.symm) (show (s_ws s).length < 2 ^ 31 by omega) ?_
  refine ex_aload_n dX10_winsAt_115 2 rfl ?_
  refine ex_getR (b := ad 30) dX10_winsAt_116 fl_X10_68 hB.1.1 hB.1.2 (mb_30 hB).1 ?_
  refine ex_aload_n dX10_winsAt_119 2 rfl ?_
  refine ex_getI dX10_winsAt_120 fl_X10_121 hB.1.1 hB.1.2 ?_
  refine ex_aload_n dX10_winsAt_123 2 rfl ?_
  refine ex_getR (b := ad 8) dX10_winsAt_124 fl_X10_24 hB.1.1 hB.1.2 (mb_8 hB).1 ?_
  refine ex_aload_n dX10_winsAt_127 2 rfl ?_
  refine ex_getR (b := ad 35) dX10_winsAt_128 fl_X10_77 hB.1.1 hB.1.2 (mb_35 hB).1 ?_
  refine ex_iload dX10_winsAt_131 0 rfl ?_
  refine ex_iald (j := i) dX10_winsAt_133 (mb_35 hB).2.1 (mb_35 hB).2.2.1 rfl (Nat.lt_of_lt_of_eq (show i < 1500 by omega) (mb_35 hB).2.2.2.symm) (show i < 2 ^ 31 by omega) ?_
  refine ex_iald (j := (zs.getD i 0)) dX10_winsAt_134 (mb_8 hB).2.1 (mb_8 hB).2.2.1 (by rw [mI_aa hB.2.2, if_neg (by simp)]; rw [mI_aa hB.2.2, if_neg (by simp)]; exact hmy i hil) (Nat.lt_of_lt_of_eq (show (zs.getD i 0) < 1500 by omega) (mb_8 hB).2.2.2.symm) (show (zs.getD i 0) < 2 ^ 31 by omega) ?_
  refine ex_iast (j := (s_ws s).length) dX10_winsAt_135 (mb_30 hB).2.1 (mb_30 hB).2.2.1 (by simp only [mI_sa hB.2.2]; exact hMW.1) (Nat.lt_of_lt_of_eq (show (s_ws s).length < 2000 by omega) (mb_30 hB).2.2.2.symm) (show (s_ws s).length < 2 ^ 31 by omega) ?_
  refine ex_aload_n dX10_winsAt_136 2 rfl ?_
  refine ex_getR (b := ad 31) dX10_winsAt_137 fl_X10_71 hB.1.1 hB.1.2 (mb_31 hB).1 ?_
  refine ex_aload_n dX10_winsAt_140 2 rfl ?_
  refine ex_getI dX10_winsAt_141 fl_X10_121 hB.1.1 hB.1.2 ?_
  refine ex_iload_n dX10_winsAt_144 4 rfl ?_
  refine ex_iast (j := (s_ws s).length) dX10_winsAt_145 (mb_31 hB).2.1 (mb_31 hB).2.2.1 (by simp only [mI_sa hB.2.2]; exact hMW.1) (Nat.lt_of_lt_of_eq (show (s_ws s).length < 2000 by omega) (mb_31 hB).2.2.2.symm) (show (s_ws s).length < 2 ^ 31 by omega) ?_
  refine ex_aload_n dX10_winsAt_146 2 rfl ?_
  refine ex_getR (b := ad 32) dX10_winsAt_147 fl_X10_74 hB.1.1 hB.1.2 (mb_32 hB).1 ?_
  refine ex_aload_n dX10_winsAt_150 2 rfl ?_
  refine ex_getI dX10_winsAt_151 fl_X10_121 hB.1.1 hB.1.2 ?_
  refine ex_iconst (v := 0) dX10_winsAt_154 (by decide) ?_
  refine ex_iast (j := (s_ws s).length) dX10_winsAt_155 (mb_32 hB).2.1 (mb_32 hB).2.2.1 (by simp only [mI_sa hB.2.2]; exact hMW.1) (Nat.lt_of_lt_of_eq (show (s_ws s).length < 2000 by omega) (mb_32 hB).2.2.2.symm) (show (s_ws s).length < 2 ^ 31 by omega) ?_
  refine ex_aload_n dX10_winsAt_156 2 rfl ?_
  refine ex_dup dX10_winsAt_157 rfl ?_
  refine ex_getI dX10_winsAt_158 fl_X10_121 hB.1.1 hB.1.2 ?_
  refine ex_iconst (v := 1) dX10_winsAt_161 (by decide) ?_
  refine ex_iadd dX10_winsAt_162 ?_
  refine ex_putI dX10_winsAt_163 fl_X10_121 (pf_X10_121 _) hB.1.1 hB.1.2 ?_
  exact ex_vrt rfl dX10_winsAt_166 (by
  have e1 : hs_I S m 27 = nI (s_ds s).length := hMD.1
  have hfin : hs_sI (hs_sI (hs_sI (hs_sI (hs_sI (hs_sI S (ad 28) (s_ws s).length (hs_I S m 27)) (ad 29) (s_ws s).length (hs_I (hs_sI S (ad 28) (s_ws s).length (hs_I S m 27)) (ad 6) (zs.getD i 0) + (lN q).toInt32)) (ad 30) (s_ws s).length (hs_I (hs_sI (hs_sI S (ad 28) (s_ws s).length (hs_I S m 27)) (ad 29) (s_ws s).length (hs_I (hs_sI S (ad 28) (s_ws s).length (hs_I S m 27)) (ad 6) (zs.getD i 0) + (lN q).toInt32)) (ad 8) (zs.getD i 0))) (ad 31) (s_ws s).length xp) (ad 32) (s_ws s).length 0) m 33 (hs_I (hs_sI (hs_sI (hs_sI (hs_sI (hs_sI S (ad 28) (s_ws s).length (hs_I S m 27)) (ad 29) (s_ws s).length (hs_I (hs_sI S (ad 28) (s_ws s).length (hs_I S m 27)) (ad 6) (zs.getD i 0) + (lN q).toInt32)) (ad 30) (s_ws s).length (hs_I (hs_sI (hs_sI S (ad 28) (s_ws s).length (hs_I S m 27)) (ad 29) (s_ws s).length (hs_I (hs_sI S (ad 28) (s_ws s).length (hs_I S m 27)) (ad 6) (zs.getD i 0) + (lN q).toInt32)) (ad 8) (zs.getD i 0))) (ad 31) (s_ws s).length xp) (ad 32) (s_ws s).length 0) m 33 + 1) = wS S m ad (s_ws s).length (nI (s_ds s).length) (nI ((ln_at (s_ls s) (zs.getD i 0)).1 + q)) (nI (ln_at (s_ls s) (zs.getD i 0)).2.2.1) xp := by
    unfold wS
    have e2 : hs_I (hs_sI S (ad 28) (s_ws s).length (hs_I S m 27)) (ad 6) (zs.getD i 0) + (lN q).toInt32 = nI ((ln_at (s_ls s) (zs.getD i 0)).1 + q) := by
      rw [mI_aa hB.2.2, if_neg (by simp), h6, lN_i]; exact nI_add _ _
    rw [e2, e1]
    have e3 : hs_I (hs_sI (hs_sI S (ad 28) (s_ws s).length (nI (s_ds s).length)) (ad 29) (s_ws s).length (nI ((ln_at (s_ls s) (zs.getD i 0)).1 + q))) (ad 8) (zs.getD i 0) = nI (ln_at (s_ls s) (zs.getD i 0)).2.2.1 := by
      rw [mI_aa hB.2.2, if_neg (by simp), mI_aa hB.2.2, if_neg (by simp), h8]
    rw [e3]
    congr 1
    simp only [mI_sa hB.2.2]
    rw [hMW.1]; exact nI_1 _
  rw [hfin]
  have hw := wS_o (S := S) (i := (s_ws s).length) hB.2.2 (nI (s_ds s).length) (nI ((ln_at (s_ls s) (zs.getD i 0)).1 + q)) (nI (ln_at (s_ls s) (zs.getD i 0)).2.2.1) xp
  refine ⟨rfl, ⟨RM_win h hwl rfl ?_ ?_ hxp rfl, MF_win (MF_rf _ _ _) _ _ _ _ _, hw.1⟩, MY_of hmy hw.2.1, hw.2.2, rfl, rfl⟩
  · rw [← hbo]
  · rw [← hbo])
set_option maxRecDepth 20000 in
set_option maxHeartbeats 2000000 in
theorem m_winsAt_l {g : gl_T} {S : hs_T} {n k m : Nat} {ad : Nat → Nat} {s : st_T} {zs : List Nat} {xq : Int64} {xp : Int32} {pr td : Nat} {q0 : Nat} (h : RM S m ad s) (hmy : MY S ad zs) (hwl : (s_ws s).length < 2000) (hxp : xp = nI pr) (hz15 : zs.length ≤ 1500) (hzs : ∀ j, j < zs.length → zs.getD j 0 < (s_ls s).length) : ∀ t i q, zs.length < i + t → q < sz (s_ls s) (zs.drop i) → q < 2 ^ 40 → bo (s_ls s) (zs.drop i) q = bo (s_ls s) zs q0 → ex_W g 0 mX10_winsAt (fun r S' n' k' => r = .inl none ∧ SX S S' m ad (w_ws s (s_ws s ++ [((s_ds s).length, td, (bo (s_ls s) zs q0).1, (bo (s_ls s) zs q0).2, pr, 0)])) ∧ MY S' ad zs ∧ hs_J S' = hs_J S ∧ n' = n ∧ k' = k) 6 [(6, .int (nI i)), (4, .long (lN q)), (0, .ref m), (1, .long xq), (3, .int xp)] [] S n k := by
  obtain ⟨hB, hMS, hMH, hML, hMT, hMR, hMN, hMD, hMW⟩ := id h
  have hl15 := hML.2.1
  intro t
  induction t with
  | zero =>
    intro i q h1 h2
    rw [List.drop_of_length_le (by omega)] at h2
    exact absurd h2 (by simp [sz])
  | succ t ih =>
    intro i q ht hq hq40 hbo
    have hil : i < zs.length := by
      rcases Nat.lt_or_ge i zs.length with z | z
      · exact z
      · rw [List.drop_of_length_le z] at hq; exact absurd hq (by simp [sz])
    have hdr := dr_i hil
    have hzi := hzs i hil
    obtain ⟨hok, h6, h7, h8, h9, h10⟩ := hML.2.2 _ hzi
    have hb1 := hok.1
    have hb2 := hok.2.1
    have hsub : (hs_I S (ad 7) (zs.getD i 0) - hs_I S (ad 6) (zs.getD i 0)).toInt64 = lN ((ln_at (s_ls s) (zs.getD i 0)).2.1 - (ln_at (s_ls s) (zs.getD i 0)).1) := by
      rw [h6, h7, pk_sub hok.1, nI_l (by omega)]
    refine ex_lload dX10_winsAt_6 1 rfl ?_
    refine ex_aload_n dX10_winsAt_8 2 rfl ?_
    refine ex_getR (b := ad 7) dX10_winsAt_9 fl_X10_21 hB.1.1 hB.1.2 (mb_7 hB).1 ?_
    refine ex_aload_n dX10_winsAt_12 2 rfl ?_
    refine ex_getR (b := ad 35) dX10_winsAt_13 fl_X10_77 hB.1.1 hB.1.2 (mb_35 hB).1 ?_
    refine ex_iload dX10_winsAt_16 0 rfl ?_
    refine ex_iald (j := i) dX10_winsAt_18 (mb_35 hB).2.1 (mb_35 hB).2.2.1 rfl (Nat.lt_of_lt_of_eq (show i < 1500 by omega) (mb_35 hB).2.2.2.symm) (show i < 2 ^ 31 by omega) ?_
    refine ex_iald (j := (zs.getD i 0)) dX10_winsAt_19 (mb_7 hB).2.1 (mb_7 hB).2.2.1 (hmy i hil) (Nat.lt_of_lt_of_eq (show (zs.getD i 0) < 1500 by omega) (mb_7 hB).2.2.2.symm) (show (zs.getD i 0) < 2 ^ 31 by omega) ?_
    refine ex_aload_n dX10_winsAt_20 2 rfl ?_
    refine ex_getR (b := ad 6) dX10_winsAt_21 fl_X10_17 hB.1.1 hB.1.2 (mb_6 hB).1 ?_
    refine ex_aload_n dX10_winsAt_24 2 rfl ?_
    refine ex_getR (b := ad 35) dX10_winsAt_25 fl_X10_77 hB.1.1 hB.1.2 (mb_35 hB).1 ?_
    refine ex_iload dX10_winsAt_28 0 rfl ?_
    refine ex_iald (j := i) dX10_winsAt_30 (mb_35 hB).2.1 (mb_35 hB).2.2.1 rfl (Nat.lt_of_lt_of_eq (show i < 1500 by omega) (mb_35 hB).2.2.2.symm) (show i < 2 ^ 31 by omega) ?_
    refine ex_iald (j := (zs.getD i 0)) dX10_winsAt_31 (mb_6 hB).2.1 (mb_6 hB).2.2.1 (hmy i hil) (Nat.lt_of_lt_of_eq (show (zs.getD i 0) < 1500 by omega) (mb_6 hB).2.2.2.symm) (show (zs.getD i 0) < 2 ^ 31 by omega) ?_
    refine ex_isub dX10_winsAt_32 ?_
    refine ex_i2l dX10_winsAt_33 ?_
    refine ex_lcmp dX10_winsAt_34 ?_
    refine ex_if_le (tgt := 77) dX10_winsAt_35 (by decide) (fun c35 => ?_) (fun c35 => ?_)
    · refine m_winsAt_e h hmy hwl hxp hil hzi ?_ hz15
      rw [← hbo, hdr]
      show _ = if _ then _ else _
      rw [if_pos]
      have := (lg_leN (by omega) (by omega)).mp (hsub ▸ c35)
      unfold ln_sz; omega
    · refine ex_lload dX10_winsAt_38 1 rfl ?_
      refine ex_aload_n dX10_winsAt_40 2 rfl ?_
      refine ex_getR (b := ad 7) dX10_winsAt_41 fl_X10_21 hB.1.1 hB.1.2 (mb_7 hB).1 ?_
      refine ex_aload_n dX10_winsAt_44 2 rfl ?_
      refine ex_getR (b := ad 35) dX10_winsAt_45 fl_X10_77 hB.1.1 hB.1.2 (mb_35 hB).1 ?_
      refine ex_iload dX10_winsAt_48 0 rfl ?_
      refine ex_iald (j := i) dX10_winsAt_50 (mb_35 hB).2.1 (mb_35 hB).2.2.1 rfl (Nat.lt_of_lt_of_eq (show i < 1500 by omega) (mb_35 hB).2.2.2.symm) (show i < 2 ^ 31 by omega) ?_
      refine ex_iald (j := (zs.getD i 0)) dX10_winsAt_51 (mb_7 hB).2.1 (mb_7 hB).2.2.1 (hmy i hil) (Nat.lt_of_lt_of_eq (show (zs.getD i 0) < 1500 by omega) (mb_7 hB).2.2.2.symm) (show (zs.getD i 0) < 2 ^ 31 by omega) ?_
      refine ex_aload_n dX10_winsAt_52 2 rfl ?_
      refine ex_getR (b := ad 6) dX10_winsAt_53 fl_X10_17 hB.1.1 hB.1.2 (mb_6 hB).1 ?_
      refine ex_aload_n dX10_winsAt_56 2 rfl ?_
      refine ex_getR (b := ad 35) dX10_winsAt_57 fl_X10_77 hB.1.1 hB.1.2 (mb_35 hB).1 ?_
      refine ex_iload dX10_winsAt_60 0 rfl ?_
      refine ex_iald (j := i) dX10_winsAt_62 (mb_35 hB).2.1 (mb_35 hB).2.2.1 rfl (Nat.lt_of_lt_of_eq (show i < 1500 by omega) (mb_35 hB).2.2.2.symm) (show i < 2 ^ 31 by omega) ?_
      refine ex_iald (j := (zs.getD i 0)) dX10_winsAt_63 (mb_6 hB).2.1 (mb_6 hB).2.2.1 (hmy i hil) (Nat.lt_of_lt_of_eq (show (zs.getD i 0) < 1500 by omega) (mb_6 hB).2.2.2.symm) (show (zs.getD i 0) < 2 ^ 31 by omega) ?_
      refine ex_isub dX10_winsAt_64 ?_
      refine ex_i2l dX10_winsAt_65 ?_
      refine ex_lconst (v := 1) dX10_winsAt_66 (by decide) ?_
      refine ex_ladd dX10_winsAt_67 ?_
      refine ex_lsub dX10_winsAt_68 ?_
      refine ex_lstore [(4, .long ((lN q) - ((((hs_I S (ad 7) (zs.getD i 0)) - (hs_I S (ad 6) (zs.getD i 0))).toInt64) + 1))), (6, .int (nI i)), (0, .ref m), (1, .long xq), (3, .int xp)] dX10_winsAt_69 (by decide) rfl ?_
      refine ex_iinc (v := nI (i + 1)) 1 [(6, .int (nI (i + 1))), (4, .long ((lN q) - ((((hs_I S (ad 7) (zs.getD i 0)) - (hs_I S (ad 6) (zs.getD i 0))).toInt64) + 1))), (0, .ref m), (1, .long xq), (3, .int xp)] dX10_winsAt_71 rfl (nI_1 i) (by decide) rfl ?_
      refine ex_goto (tgt := 6) dX10_winsAt_74 (by decide) ?_
      refine ex_lv [0, 1, 2, 3, 4] rfl ?_
      have hgt : ln_sz (ln_at (s_ls s) (zs.getD i 0)) ≤ q := by
        have z : ¬ q ≤ (ln_at (s_ls s) (zs.getD i 0)).2.1 - (ln_at (s_ls s) (zs.getD i 0)).1 := fun y => c35 (by rw [hsub]; exact (lg_leN (by omega) (by omega)).mpr y)
        unfold ln_sz; omega
      have hq9 : lN q - ((hs_I S (ad 7) (zs.getD i 0) - hs_I S (ad 6) (zs.getD i 0)).toInt64 + 1) = lN (q - ln_sz (ln_at (s_ls s) (zs.getD i 0))) := by
        rw [ln_add h7 h6 hok.1 (by omega)]
        exact lN_sub hgt
      rw [hq9]
      refine ih (i + 1) (q - ln_sz (ln_at (s_ls s) (zs.getD i 0))) (by omega) (by rw [hdr] at hq; simp only [sz] at hq; omega) (by omega) ?_
      rw [← hbo, hdr]
      show _ = if _ then _ else _
      rw [if_neg (by omega)]
set_option maxRecDepth 20000 in
set_option maxHeartbeats 2000000 in
theorem m_winsAt (g : gl_T) {S : hs_T} {n k : Nat} {m : Nat} {ad : Nat → Nat} {s : st_T} {zs : List Nat} {xq : Int64} {xp : Int32} {pr td q0 : Nat} (h : RM S m ad s) (hmy : MY S ad zs) (hwl : (s_ws s).length < 2000) (hxp : xp = nI pr) (hz15 : zs.length ≤ 1500) (hzs : ∀ j, j < zs.length → zs.getD j 0 < (s_ls s).length) (hxq : xq = lN q0) (hq : q0 < sz (s_ls s) zs) (hq40 : q0 < 2 ^ 40) : ex_M g 0 mX10_winsAt [.ref m, .long xq, .int xp] S n k (fun r S' n' k' => r = .inl none ∧ SX S S' m ad (w_ws s (s_ws s ++ [((s_ds s).length, td, (bo (s_ls s) zs q0).1, (bo (s_ls s) zs q0).2, pr, 0)])) ∧ MY S' ad zs ∧ hs_J S' = hs_J S ∧ n' = n ∧ k' = k) := by
  have hB := h.1
  refine ex_enter (by decide +kernel) (Nat.le_of_ble_eq_true rfl) ?_
  show ex_W _ _ _ _ 0 [(0, .ref m), (1, .long xq), (3, .int xp)] [] _ _ _
  refine ex_lload_n dX10_winsAt_0 1 rfl ?_
  refine ex_lstore [(4, .long xq), (0, .ref m), (1, .long xq), (3, .int xp)] dX10_winsAt_1 (by decide) rfl ?_
  refine ex_iconst (v := 0) dX10_winsAt_3 (by decide) ?_
  refine ex_istore [(6, .int 0), (4, .long xq), (0, .ref m), (1, .long xq), (3, .int xp)] dX10_winsAt_4 (by decide) rfl ?_
  rw [hxq]
  exact m_winsAt_l h hmy hwl hxp hz15 hzs (zs.length + 1) 0 q0 (by omega) hq hq40 rfl
