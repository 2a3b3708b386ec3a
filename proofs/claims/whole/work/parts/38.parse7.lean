theorem MR_new {S : hs_T} {m : Nat} {ad : Nat → Nat} (hA : AD m ad) {rs : List ru_T} (h : MR S m ad rs) (hl : rs.length < 20) {day : Nat} {cs : List cl_T} (hd : day ≤ 100000) (hc : cs.length ≤ 10) (hcs : ∀ c, c < cs.length → hs_I S (ad 20) (10 * rs.length + c) = nI (cs.getD c (0, 0, 0)).1 ∧ hs_I S (ad 21) (10 * rs.length + c) = nI (cs.getD c (0, 0, 0)).2.1 ∧ ((cs.getD c (0, 0, 0)).1 ≠ 1 → hs_I S (ad 22) (10 * rs.length + c) = nI (cs.getD c (0, 0, 0)).2.2)) {v u w : Int32} (hv : v = nI day) (hu : u = nI cs.length) (hw : w = nI (rs.length + 1)) : MR (hs_sI (hs_sI (hs_sI S (ad 18) rs.length v) (ad 19) rs.length u) m 23 w) m ad (rs ++ [(day, cs)]) := by
  obtain ⟨h1, h2, h3⟩ := h
  refine ⟨by rw [mI_mm, if_pos rfl, hw]; simp, by simp; omega, fun j hj => ?_⟩
  simp at hj
  simp only [mI_sm hA, mI_aa hA, gd_app]
  by_cases q : j = rs.length
  · subst q
    simp only [if_pos]
    exact ⟨⟨hd, hc⟩, by simpa using hv, by simpa using hu, fun c hcc => by simpa using hcs c hcc⟩
  · have h4 := h3 j (by omega)
    simpa [q] using h4
set_option maxRecDepth 20000 in
set_option maxHeartbeats 2000000 in
theorem m_rule_e {g : gl_T} {S S2 S4 : hs_T} {n k m N : Nat} {ad : Nat → Nat} {s : st_T} {T : List Int32} {x y : Int32} {R : List cl_T × ps_T} {dd : Nat} {sp : Nat × Value × st_T} (h4 : RI S2 S4 m ad (w_tp s []) T N R.1 R.2) (hF2 : MF S S2 m ad) (ht2 : hs_I S2 m 0 = nI 0) (hrl : (s_rs s).length < 20) (hy : y = nI dd) (hdd : dd ≤ 100000) (hsp1 : 0 < R.2.2.1 → sp = (0, .int (nI R.2.2.1 - 10), w_fp (w_tp s []) R.2.2.2)) (hsp2 : ¬ 0 < R.2.2.1 → sp = (0, .int (nI (s_rs s).length), w_rs (w_fp (w_tp s []) R.2.2.2) (s_rs s ++ [(dd, R.1)]))) : ex_W g 7 mX10_rule (mp S m ad n k sp) 206 [(3, .int (nI R.1.length)), (0, .ref m), (1, .int x), (2, .int y)] [] S4 n k := by
  have hP := h4.1.1
  have hF4 := MF_tr hF2 h4.1.2.1
  obtain ⟨hB, hMS, hMH, hML, hMT, hMR, hMN, hMD, hMW⟩ := id hP.1
  change MR S4 m ad (s_rs s) at hMR
  refine ex_aload_n dX10_rule_206 1 rfl ?_
  refine ex_getI dX10_rule_207 fl_X10_138 hB.1.1 hB.1.2 ?_
  refine ex_if_le (tgt := 221) dX10_rule_210 (by decide) (fun c210 => ?_) (fun c210 => ?_)
  · refine ex_aload_n dX10_rule_221 1 rfl ?_
    refine ex_getR (b := ad 18) dX10_rule_222 fl_X10_41 hB.1.1 hB.1.2 (mb_18 hB).1 ?_
    refine ex_aload_n dX10_rule_225 1 rfl ?_
    refine ex_getI dX10_rule_226 fl_X10_197 hB.1.1 hB.1.2 ?_
    refine ex_iload_n dX10_rule_229 3 rfl ?_
    refine ex_iast (j := (s_rs s).length) dX10_rule_230 (mb_18 hB).2.1 (mb_18 hB).2.2.1 hMR.1 (Nat.lt_of_lt_of_eq (show (s_rs s).length < 20 by omega) (mb_18 hB).2.2.2.symm) (show (s_rs s).length < 2 ^ 31 by omega) ?_
    refine ex_aload_n dX10_rule_231 1 rfl ?_
    refine ex_getR (b := ad 19) dX10_rule_232 fl_X10_44 hB.1.1 hB.1.2 (mb_19 hB).1 ?_
    refine ex_aload_n dX10_rule_235 1 rfl ?_
    refine ex_getI dX10_rule_236 fl_X10_197 hB.1.1 hB.1.2 ?_
    refine ex_iload_n dX10_rule_239 0 rfl ?_
    refine ex_iast (j := (s_rs s).length) dX10_rule_240 (mb_19 hB).2.1 (mb_19 hB).2.2.1 (by rw [mI_sa hB.2.2]; exact hMR.1) (Nat.lt_of_lt_of_eq (show (s_rs s).length < 20 by omega) (mb_19 hB).2.2.2.symm) (show (s_rs s).length < 2 ^ 31 by omega) ?_
    refine ex_aload_n dX10_rule_241 1 rfl ?_
    refine ex_dup dX10_rule_242 rfl ?_
    refine ex_getI dX10_rule_243 fl_X10_197 hB.1.1 hB.1.2 ?_
    refine ex_iconst (v := 1) dX10_rule_246 (by decide) ?_
    refine ex_iadd dX10_rule_247 ?_
    refine ex_putI dX10_rule_248 fl_X10_197 (pf_X10_197 _) hB.1.1 hB.1.2 ?_
    have hw : hs_I (hs_sI (hs_sI S4 (ad 18) (s_rs s).length y) (ad 19) (s_rs s).length (nI R.1.length)) m 23 + 1 = nI ((s_rs s).length + 1) := by rw [mI_sa hB.2.2, mI_sa hB.2.2, hMR.1]; exact nI_1 _
    refine ex_aload_n dX10_rule_251 1 rfl ?_
    refine ex_getI dX10_rule_252 fl_X10_197 hB.1.1 hB.1.2 ?_
    refine ex_iconst (v := 1) dX10_rule_255 (by decide) ?_
    refine ex_isub dX10_rule_256 ?_
    exact ex_irt rfl dX10_rule_257 (mp_i (c := 0) (s' := w_rs (w_fp (w_tp s []) R.2.2.2) (s_rs s ++ [(dd, R.1)])) ((hsp2 (fun z => by rw [hP.2.1.2.2] at c210; exact nI_nle z (by have := hP.2.2.2.2.2; omega) c210)).trans (by rw [mI_mm, if_pos rfl, hw, nI_pred])) (by rw [mI_mm, if_neg (by decide), mI_sa hB.2.2, mI_sa hB.2.2]; exact h4.1.2.2.trans ht2) ⟨hB, (MS_mI hB.2.2 (MS_aI hB.2.2 (MS_aI hB.2.2 (hMS) 18 _ _ (by decide)) 19 _ _ (by decide)) 23 _ (by decide)), (MH_mI hB.2.2 (MH_aI hB.2.2 (MH_aI hB.2.2 (hMH) 18 _ _ (by decide)) 19 _ _ (by decide)) 23 _ (by decide)), (ML_mI hB.2.2 (ML_aI hB.2.2 (ML_aI hB.2.2 (hML) 18 _ _ (by decide)) 19 _ _ (by decide)) 23 _ (by decide)), (MT_mI hB.2.2 (MT_aI hB.2.2 (MT_aI hB.2.2 (hMT) 18 _ _ (by decide)) 19 _ _ (by decide)) 23 _ (by decide)), (MR_new hB.2.2 hMR hrl hdd h4.2.1 h4.2.2 hy rfl hw), (MN_mI hB.2.2 (MN_aI hB.2.2 (MN_aI hB.2.2 (hMN) 18 _ _ (by decide)) 19 _ _ (by decide)) 23 _ (by decide)), (MD_mI hB.2.2 (MD_aI hB.2.2 (MD_aI hB.2.2 (hMD) 18 _ _ (by decide)) 19 _ _ (by decide)) 23 _ (by decide)), (MW_mI hB.2.2 (MW_aI hB.2.2 (MW_aI hB.2.2 (hMW) 18 _ _ (by decide)) 19 _ _ (by decide)) 23 _ (by decide))⟩ (MF_mI (MF_aI (MF_aI (hF4) 18 (by decide) _ _) 19 (by decide) _ _) 23 _))
  · refine ex_aload_n dX10_rule_213 1 rfl ?_
    refine ex_getI dX10_rule_214 fl_X10_138 hB.1.1 hB.1.2 ?_
    refine ex_bipush (v := 10) dX10_rule_217 (by decide) ?_
    refine ex_isub dX10_rule_219 ?_
    exact ex_irt rfl dX10_rule_220 (mp_i (c := 0) ((hsp1 (Nat.pos_of_ne_zero (fun z => c210 (by rw [hP.2.1.2.2, z]; decide)))).trans (by rw [hP.2.1.2.2])) (h4.1.2.2.trans ht2) hP.1 hF4)
set_option maxRecDepth 20000 in
set_option maxHeartbeats 4000000 in
theorem m_rule (g : gl_T) {S : hs_T} {n k m : Nat} {ad : Nat → Nat} {s : st_T} (h : RM S m ad s) {x y : Int32} : ex_M g 7 mX10_rule [.ref m, .int x, .int y] S n k (mp S m ad n k (sp_rule s x y)) := by
  refine ex_enter (by decide +kernel) (Nat.le_of_ble_eq_true rfl) ?_
  show ex_W _ _ _ _ 0 [(0, .ref m), (1, .int x), (2, .int y)] [] _ _ _
  have hB := h.1
  refine ex_aload_n dX10_rule_0 0 rfl ?_
  refine ex_iconst (v := 0) dX10_rule_1 (by decide) ?_
  refine ex_putI dX10_rule_2 fl_X10_80 (pf_X10_80 _) hB.1.1 hB.1.2 ?_
  have h1 := RM_mI h 0 0 (by decide)
  have ht1 : hs_I (hs_sI S m 0 0) m 0 = nI 0 := by rw [mI_mm]; rfl
  have hF1 := MF_mI (MF_rf S m ad) 0 0
  generalize hs_sI S m 0 0 = S1 at h1 ht1 hF1 ⊢
  clear h hB
  obtain ⟨hB, hMS, hMH, hML, hMT, hMR, hMN, hMD, hMW⟩ := id h1
  have hl4 := hMT.2.1
  have e13 := hMT.1
  have hr20 := hMR.2.1
  refine ex_aload_n dX10_rule_5 0 rfl ?_
  refine ex_iload_n dX10_rule_6 1 rfl ?_
  refine ex_if_lt (tgt := 28) dX10_rule_7 (by decide) (fun c7 => ?_) (fun c7 => ?_)
  · refine ex_iconst (v := 1) dX10_rule_28 (by decide) ?_
    refine ex_goto (tgt := 33) dX10_rule_29 (by decide) ?_
    refine ex_iconst (v := 1) dX10_rule_33 (by decide) ?_
    refine ex_cVr [.int 1, .int 1] [] dX10_rule_34 cV_X10_86 (m_bad1 g hB) hB.1.1 hB.1.2 rfl rfl rfl (by decide) (Nat.le_of_ble_eq_true rfl) rfl ?_
    refine ex_if_ne (tgt := 62) dX10_rule_37 (by decide) (fun c37 => ?_) (fun c37 => absurd c37 (by decide))
    refine ex_iconst (v := 0) dX10_rule_62 (by decide) ?_
    exact ex_irt rfl dX10_rule_63 (mp_i (by unfold sp_rule; rw [if_pos (by first | exact Or.inl c7 | exact Or.inr (Or.inl (e13 ▸ c15)) | exact Or.inr (Or.inr (Or.inl c19)) | exact Or.inr (Or.inr (Or.inr (by rw [i_lt]; rw [i_le] at c25; omega))))]) (by rw [mI_mm]; rfl) (RM_mI h1 0 1 (by decide)) (MF_mI hF1 0 1))
  · refine ex_iload_n dX10_rule_10 1 rfl ?_
    refine ex_aload_n dX10_rule_11 0 rfl ?_
    refine ex_getI dX10_rule_12 fl_X10_125 hB.1.1 hB.1.2 ?_
    refine ex_icmp_gt (tgt := 28) dX10_rule_15 (by decide) (fun c15 => ?_) (fun c15 => ?_)
    · refine ex_iconst (v := 1) dX10_rule_28 (by decide) ?_
      refine ex_goto (tgt := 33) dX10_rule_29 (by decide) ?_
      refine ex_iconst (v := 1) dX10_rule_33 (by decide) ?_
      refine ex_cVr [.int 1, .int 1] [] dX10_rule_34 cV_X10_86 (m_bad1 g hB) hB.1.1 hB.1.2 rfl rfl rfl (by decide) (Nat.le_of_ble_eq_true rfl) rfl ?_
      refine ex_if_ne (tgt := 62) dX10_rule_37 (by decide) (fun c37 => ?_) (fun c37 => absurd c37 (by decide))
      refine ex_iconst (v := 0) dX10_rule_62 (by decide) ?_
      exact ex_irt rfl dX10_rule_63 (mp_i (by unfold sp_rule; rw [if_pos (by first | exact Or.inl c7 | exact Or.inr (Or.inl (e13 ▸ c15)) | exact Or.inr (Or.inr (Or.inl c19)) | exact Or.inr (Or.inr (Or.inr (by rw [i_lt]; rw [i_le] at c25; omega))))]) (by rw [mI_mm]; rfl) (RM_mI h1 0 1 (by decide)) (MF_mI hF1 0 1))
    · refine ex_iload_n dX10_rule_18 2 rfl ?_
      refine ex_if_lt (tgt := 28) dX10_rule_19 (by decide) (fun c19 => ?_) (fun c19 => ?_)
      · refine ex_iconst (v := 1) dX10_rule_28 (by decide) ?_
        refine ex_goto (tgt := 33) dX10_rule_29 (by decide) ?_
        refine ex_iconst (v := 1) dX10_rule_33 (by decide) ?_
        refine ex_cVr [.int 1, .int 1] [] dX10_rule_34 cV_X10_86 (m_bad1 g hB) hB.1.1 hB.1.2 rfl rfl rfl (by decide) (Nat.le_of_ble_eq_true rfl) rfl ?_
        refine ex_if_ne (tgt := 62) dX10_rule_37 (by decide) (fun c37 => ?_) (fun c37 => absurd c37 (by decide))
        refine ex_iconst (v := 0) dX10_rule_62 (by decide) ?_
        exact ex_irt rfl dX10_rule_63 (mp_i (by unfold sp_rule; rw [if_pos (by first | exact Or.inl c7 | exact Or.inr (Or.inl (e13 ▸ c15)) | exact Or.inr (Or.inr (Or.inl c19)) | exact Or.inr (Or.inr (Or.inr (by rw [i_lt]; rw [i_le] at c25; omega))))]) (by rw [mI_mm]; rfl) (RM_mI h1 0 1 (by decide)) (MF_mI hF1 0 1))
      · refine ex_iload_n dX10_rule_22 2 rfl ?_
        refine ex_ldc dX10_rule_23 lc_X10_124 ?_
        refine ex_icmp_le (tgt := 32) dX10_rule_25 (by decide) (fun c25 => ?_) (fun c25 => ?_)
        · refine ex_iconst (v := 0) dX10_rule_32 (by decide) ?_
          refine ex_iconst (v := 1) dX10_rule_33 (by decide) ?_
          refine ex_cVr [.int 0, .int 1] [] dX10_rule_34 cV_X10_86 (m_bad0 g hB) hB.1.1 hB.1.2 rfl rfl rfl (by decide) (Nat.le_of_ble_eq_true rfl) rfl ?_
          refine ex_if_ne (tgt := 62) dX10_rule_37 (by decide) (fun c37 => absurd (by decide) c37) (fun c37 => ?_)
          have hok : ¬ (x < 0 ∨ nI (s_tp s).length < x ∨ y < 0 ∨ 100000 < y) := by
            rintro (z | z | z | z)
            · exact c7 z
            · exact c15 (e13 ▸ z)
            · exact c19 z
            · rw [i_lt] at z; rw [i_le] at c25; omega
          obtain ⟨N, hN, hxN⟩ := nI_of2 (x := x) (M := nI (s_tp s).length) (n := (s_tp s).length) (nI_toInt (by omega)) c7 (by rw [i_le]; rw [e13, i_lt] at c15; omega)
          obtain ⟨dd, hdd, hyd⟩ := nI_of2 (x := y) (M := 100000) (n := 100000) (by decide) c19 c25
          have hcx : x.toNatClampNeg = N := by rw [hxN]; exact nI_clamp (by omega)
          have hcy : y.toNatClampNeg = dd := by rw [hyd]; exact nI_clamp (by omega)
          refine ex_aload_n dX10_rule_40 0 rfl ?_
          refine ex_aload_n dX10_rule_41 0 rfl ?_
          refine ex_getI dX10_rule_42 fl_X10_197 hB.1.1 hB.1.2 ?_
          refine ex_bipush (v := 20) dX10_rule_45 (by decide) ?_
          refine ex_icmp_ne (tgt := 54) dX10_rule_47 (by decide) (fun c47 => ?_) (fun c47 => ?_)
          · refine ex_iconst (v := 0) dX10_rule_54 (by decide) ?_
            refine ex_iconst (v := 2) dX10_rule_55 (by decide) ?_
            refine ex_cVr [.int 0, .int 2] [] dX10_rule_56 cV_X10_86 (m_bad0 g hB) hB.1.1 hB.1.2 rfl rfl rfl (by decide) (Nat.le_of_ble_eq_true rfl) rfl ?_
            refine ex_if_eq (tgt := 64) dX10_rule_59 (by decide) (fun c59 => ?_) (fun c59 => absurd (by decide) c59)
            have hrl : ¬ (s_rs s).length = 20 := fun z => c47 (by rw [hMR.1, z]; rfl)
            refine ex_aload_n dX10_rule_64 0 rfl ?_
            refine ex_iload_n dX10_rule_65 1 rfl ?_
            refine ex_putI dX10_rule_66 fl_X10_128 (pf_X10_128 _) hB.1.1 hB.1.2 ?_
            refine ex_aload_n dX10_rule_69 0 rfl ?_
            refine ex_iconst (v := 0) dX10_rule_70 (by decide) ?_
            refine ex_putI dX10_rule_71 fl_X10_125 (pf_X10_125 _) hB.1.1 hB.1.2 ?_
            refine ex_aload_n dX10_rule_74 0 rfl ?_
            refine ex_iconst (v := 0) dX10_rule_75 (by decide) ?_
            refine ex_putI dX10_rule_76 fl_X10_131 (pf_X10_131 _) hB.1.1 hB.1.2 ?_
            refine ex_aload_n dX10_rule_79 0 rfl ?_
            refine ex_iconst (v := 0) dX10_rule_80 (by decide) ?_
            refine ex_putI dX10_rule_81 fl_X10_138 (pf_X10_138 _) hB.1.1 hB.1.2 ?_
            refine ex_aload_n dX10_rule_84 0 rfl ?_
            refine ex_iconst (v := (-1)) dX10_rule_85 (by decide) ?_
            refine ex_putI dX10_rule_86 fl_X10_37 (pf_X10_37 _) hB.1.1 hB.1.2 ?_
            have hP0 := PS_start h1 hxN hN
            have hF2 := MF_mI (MF_mI (MF_mI (MF_mI (MF_mI hF1 14 x) 13 0) 15 0) 16 0) 17 (-1)
            have ht2 : hs_I (hs_sI (hs_sI (hs_sI (hs_sI (hs_sI S1 m 14 x) m 13 0) m 15 0) m 16 0) m 17 (-1)) m 0 = nI 0 := by simp only [mI_mm]; exact ht1
            generalize hs_sI (hs_sI (hs_sI (hs_sI (hs_sI S1 m 14 x) m 13 0) m 15 0) m 16 0) m 17 (-1) = S2 at hP0 hF2 ht2 ⊢
            have hB := hP0.1.1
            refine ex_iconst (v := 0) dX10_rule_89 (by decide) ?_
            refine ex_istore_n [(3, .int 0), (0, .ref m), (1, .int x), (2, .int y)] dX10_rule_90 (by decide) rfl ?_
            refine ex_aload_n dX10_rule_91 1 rfl ?_
            refine ex_cVg [] [] dX10_rule_92 cV_X10_141 (m_blanks g hP0) hB.1.1 hB.1.2 rfl rfl rfl (by decide) (Nat.le_of_ble_eq_true rfl) rfl ?_ (fun E S' n' k' h => by obtain ⟨h1, -⟩ := h; cases h1)
            rintro v' S3 n' k' ⟨hr, hq3, hn, hk⟩
            cases hr
            have hn := hn.symm
            have hk := hk.symm
            subst hn hk
            show ex_W _ _ _ _ 95 [(3, .int 0), (0, .ref m), (1, .int x), (2, .int y)] [] S3 n k
            refine m_rule_l (S0 := S2) (s := w_tp s []) (T := s_tp s) (N := N) (R := p_all (s_tp s) N) (fun S4 h4 => m_rule_e h4 hF2 ht2 (by omega) hyd hdd (fun z => ?_) (fun z => ?_)) (N + 1) [] (p_bl (pb (s_tp s) N) N (0, 0, none)) S3 ⟨⟨hq3.1, hq3.2.1, hq3.2.2.1⟩, by decide, fun c hc => absurd hc (by simp)⟩ (sk_sk (Nat.zero_le _)) (by omega) (fun _ => by omega) rfl
            · unfold sp_rule
              rw [if_neg hok, if_neg hrl, hcx, if_pos z]
            · unfold sp_rule
              rw [if_neg hok, if_neg hrl, hcx, if_neg z, hcy]
          · refine ex_iconst (v := 1) dX10_rule_50 (by decide) ?_
            refine ex_goto (tgt := 55) dX10_rule_51 (by decide) ?_
            refine ex_iconst (v := 2) dX10_rule_55 (by decide) ?_
            refine ex_cVr [.int 1, .int 2] [] dX10_rule_56 cV_X10_86 (m_bad1 g hB) hB.1.1 hB.1.2 rfl rfl rfl (by decide) (Nat.le_of_ble_eq_true rfl) rfl ?_
            refine ex_if_eq (tgt := 64) dX10_rule_59 (by decide) (fun c59 => absurd c59 (by decide)) (fun c59 => ?_)
            refine ex_iconst (v := 0) dX10_rule_62 (by decide) ?_
            exact ex_irt rfl dX10_rule_63 (mp_i (by unfold sp_rule; rw [if_neg hok, if_pos ((nI_eq (b := 20) (by omega) (by decide)).mp (hMR.1.symm.trans c47))]) (by rw [mI_mm]; rfl) (RM_mI h1 0 2 (by decide)) (MF_mI hF1 0 2))
        · refine ex_iconst (v := 1) dX10_rule_28 (by decide) ?_
          refine ex_goto (tgt := 33) dX10_rule_29 (by decide) ?_
          refine ex_iconst (v := 1) dX10_rule_33 (by decide) ?_
          refine ex_cVr [.int 1, .int 1] [] dX10_rule_34 cV_X10_86 (m_bad1 g hB) hB.1.1 hB.1.2 rfl rfl rfl (by decide) (Nat.le_of_ble_eq_true rfl) rfl ?_
          refine ex_if_ne (tgt := 62) dX10_rule_37 (by decide) (fun c37 => ?_) (fun c37 => absurd c37 (by decide))
          refine ex_iconst (v := 0) dX10_rule_62 (by decide) ?_
          exact ex_irt rfl dX10_rule_63 (mp_i (by unfold sp_rule; rw [if_pos (by first | exact Or.inl c7 | exact Or.inr (Or.inl (e13 ▸ c15)) | exact Or.inr (Or.inr (Or.inl c19)) | exact Or.inr (Or.inr (Or.inr (by rw [i_lt]; rw [i_le] at c25; omega))))]) (by rw [mI_mm]; rfl) (RM_mI h1 0 1 (by decide)) (MF_mI hF1 0 1))
