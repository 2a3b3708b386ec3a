theorem RM_ho {S : hs_T} {m : Nat} {ad : Nat → Nat} {s : st_T} (h : RM S m ad s) {i : Nat} (hi : i < (s_ws s).length) (c : Nat) {v : Int32} (hv : v = nI c) : RM (hs_sI S (ad 30) i v) m ad (w_ws s ((s_ws s).set i (wi_ho (wi_at (s_ws s) i) c))) := by
  obtain ⟨hB, hMS, hMH, hML, hMT, hMR, hMN, hMD, hMW⟩ := h
  exact ⟨hB, (MS_aI hB.2.2 (hMS) 30 _ _ (by decide)), (MH_aI hB.2.2 (hMH) 30 _ _ (by decide)), (ML_aI hB.2.2 (hML) 30 _ _ (by decide)), (MT_aI hB.2.2 (hMT) 30 _ _ (by decide)), (MR_aI hB.2.2 (hMR) 30 _ _ (by decide)), (MN_aI hB.2.2 (hMN) 30 _ _ (by decide)), (MD_aI hB.2.2 (hMD) 30 _ _ (by decide)), MW_ho hB.2.2 hMW hi c hv⟩
theorem RM_dead {S : hs_T} {m : Nat} {ad : Nat → Nat} {s : st_T} (h : RM S m ad s) {i : Nat} (hi : i < (s_hs s).length) {v : Int32} (hv : v = 1) : RM (hs_sI S (ad 4) i v) m ad (w_hs s ((s_hs s).set i (1, (hd_at (s_hs s) i).2))) := by
  obtain ⟨hB, hMS, hMH, hML, hMT, hMR, hMN, hMD, hMW⟩ := h
  exact ⟨hB, (MS_aI hB.2.2 (hMS) 4 _ _ (by decide)), MH_dead hB.2.2 hMH hi hv, (ML_aI hB.2.2 (hML) 4 _ _ (by decide)), (MT_aI hB.2.2 (hMT) 4 _ _ (by decide)), (MR_aI hB.2.2 (hMR) 4 _ _ (by decide)), (MN_aI hB.2.2 (hMN) 4 _ _ (by decide)), (MD_aI hB.2.2 (hMD) 4 _ _ (by decide)), (MW_aI hB.2.2 (hMW) 4 _ _ (by decide))⟩
set_option maxRecDepth 20000 in
set_option maxHeartbeats 2000000 in
theorem m_died_w {g : gl_T} {S : hs_T} {n k m j t0 : Nat} {ad : Nat → Nat} {s : st_T} {Po : ex_R} {x y xn v : Int32} (hxj : x = nI j) (hyt : y = nI t0) (hj6 : j < 60) (hO : ∀ j, j < (s_ws s).length → (wi_at (s_ws s) j).2.2.2.1 < 60 ∧ (wi_at (s_ws s) j).2.2.2.2.2 ≤ 2) (kk : ∀ w S1, RM S1 m ad (w_ws s (dw j t0 (s_ws s) (s_ws s).length)) → MF S S1 m ad → hs_I S1 m 0 = hs_I S m 0 → ex_W g 2 mX10_died Po 250 [(5, .int w), (4, .int v), (3, .int xn), (0, .ref m), (1, .int x), (2, .int y)] [] S1 n k) : ∀ t i S1, i ≤ (s_ws s).length → (s_ws s).length < i + t → RM S1 m ad (w_ws s (dw j t0 (s_ws s) i)) → MF S S1 m ad → hs_I S1 m 0 = hs_I S m 0 → ex_W g 2 mX10_died Po 206 [(5, .int (nI i)), (4, .int v), (3, .int xn), (0, .ref m), (1, .int x), (2, .int y)] [] S1 n k := by
  intro t
  induction t with
  | zero => intro i S1 h1 h2; exact absurd h2 (by omega)
  | succ t ih =>
    intro i S1 hi1 hi2 h1 hF1 ht1
    obtain ⟨hB, hMS, hMH, hML, hMT, hMR, hMN, hMD, hMW⟩ := id h1
    have hwl : hs_I S1 m 33 = nI (s_ws s).length := by have := hMW.1; change hs_I S1 m 33 = nI (dw j t0 (s_ws s) i).length at this; rw [this, dw_len]
    have hl2 : (s_ws s).length ≤ 2000 := by have := hMW.2.1; change (dw j t0 (s_ws s) i).length ≤ 2000 at this; rwa [dw_len] at this
    refine ex_iload dX10_died_206 0 rfl ?_
    refine ex_aload_n dX10_died_208 3 rfl ?_
    refine ex_getI dX10_died_209 fl_X10_121 hB.1.1 hB.1.2 ?_
    refine ex_icmp_ge (tgt := 250) dX10_died_212 (by decide) (fun c212 => ?_) (fun c212 => ?_)
    · have hil : i = (s_ws s).length := by have := (nI_leI (by omega) (by omega)).mp (hwl ▸ c212); omega
      exact kk _ S1 (hil ▸ h1) hF1 ht1
    · have hil : i < (s_ws s).length := by
        rcases Nat.lt_or_ge i (s_ws s).length with q | q
        · exact q
        · exact absurd (by rw [hwl]; exact nI_le q (by omega)) c212
      obtain ⟨h28, h29, h30, h31, h32⟩ := hMW.2.2 i (show i < (dw j t0 (s_ws s) i).length by rw [dw_len]; exact hil)
      change hs_I S1 (ad 30) i = nI (wi_at (dw j t0 (s_ws s) i) i).2.2.2.1 at h30
      change hs_I S1 (ad 32) i = nI (wi_at (dw j t0 (s_ws s) i) i).2.2.2.2.2 at h32
      rw [dw_at _ _ _ i i (Nat.le_refl _)] at h30 h32
      have hw := hO i hil
      refine ex_aload_n dX10_died_215 3 rfl ?_
      refine ex_getR (b := ad 32) dX10_died_216 fl_X10_74 hB.1.1 hB.1.2 (mb_32 hB).1 ?_
      refine ex_iload dX10_died_219 0 rfl ?_
      refine ex_iald (j := i) dX10_died_221 (mb_32 hB).2.1 (mb_32 hB).2.2.1 rfl (Nat.lt_of_lt_of_eq (show i < 2000 by omega) (mb_32 hB).2.2.2.symm) (show i < 2 ^ 31 by omega) ?_
      refine ex_if_ne (tgt := 244) dX10_died_222 (by decide) (fun c222 => ?_) (fun c222 => ?_)
      · refine ex_iinc (v := nI (i + 1)) 0 [(5, .int (nI (i + 1))), (4, .int v), (3, .int xn), (0, .ref m), (1, .int x), (2, .int y)] dX10_died_244 rfl (nI_1 i) (by decide) rfl ?_
        refine ex_goto (tgt := 206) dX10_died_247 (by decide) ?_
        have hnh : ¬ wi_hit j (wi_at (s_ws s) i) := by
          rintro ⟨z1, z2⟩
          first
            | exact c222 (by rw [h32, z1]; rfl)
            | exact c233 (by rw [h30, z2, hxj])
        refine ex_lv [0, 1, 2, 3, 4, 5] rfl ?_
        exact ih (i + 1) S1 (by omega) (by omega) (by rw [dw, if_neg hnh]; exact h1) hF1 ht1
      · refine ex_aload_n dX10_died_225 3 rfl ?_
        refine ex_getR (b := ad 30) dX10_died_226 fl_X10_68 hB.1.1 hB.1.2 (mb_30 hB).1 ?_
        refine ex_iload dX10_died_229 0 rfl ?_
        refine ex_iald (j := i) dX10_died_231 (mb_30 hB).2.1 (mb_30 hB).2.2.1 rfl (Nat.lt_of_lt_of_eq (show i < 2000 by omega) (mb_30 hB).2.2.2.symm) (show i < 2 ^ 31 by omega) ?_
        refine ex_iload_n dX10_died_232 4 rfl ?_
        refine ex_icmp_ne (tgt := 244) dX10_died_233 (by decide) (fun c233 => ?_) (fun c233 => ?_)
        · refine ex_iinc (v := nI (i + 1)) 0 [(5, .int (nI (i + 1))), (4, .int v), (3, .int xn), (0, .ref m), (1, .int x), (2, .int y)] dX10_died_244 rfl (nI_1 i) (by decide) rfl ?_
          refine ex_goto (tgt := 206) dX10_died_247 (by decide) ?_
          have hnh : ¬ wi_hit j (wi_at (s_ws s) i) := by
            rintro ⟨z1, z2⟩
            first
              | exact c222 (by rw [h32, z1]; rfl)
              | exact c233 (by rw [h30, z2, hxj])
          refine ex_lv [0, 1, 2, 3, 4, 5] rfl ?_
          exact ih (i + 1) S1 (by omega) (by omega) (by rw [dw, if_neg hnh]; exact h1) hF1 ht1
        · refine ex_aload_n dX10_died_236 3 rfl ?_
          refine ex_getR (b := ad 30) dX10_died_237 fl_X10_68 hB.1.1 hB.1.2 (mb_30 hB).1 ?_
          refine ex_iload dX10_died_240 0 rfl ?_
          refine ex_iload_n dX10_died_242 5 rfl ?_
          refine ex_iast (j := i) dX10_died_243 (mb_30 hB).2.1 (mb_30 hB).2.2.1 rfl (Nat.lt_of_lt_of_eq (show i < 2000 by omega) (mb_30 hB).2.2.2.symm) (show i < 2 ^ 31 by omega) ?_
          refine ex_iinc (v := nI (i + 1)) 0 [(5, .int (nI (i + 1))), (4, .int v), (3, .int xn), (0, .ref m), (1, .int x), (2, .int y)] dX10_died_244 rfl (nI_1 i) (by decide) rfl ?_
          refine ex_goto (tgt := 206) dX10_died_247 (by decide) ?_
          have hht : wi_hit j (wi_at (s_ws s) i) := ⟨(nI_eq (b := 0) (by omega) (by decide)).mp (h32.symm.trans c222), (nI_eq (by omega) (by omega)).mp (h30.symm.trans (c233.trans hxj))⟩
          refine ex_lv [0, 1, 2, 3, 4, 5] rfl ?_
          refine ih (i + 1) _ (by omega) (by omega) ?_ (MF_aI hF1 30 (by decide) _ _) ((mI_sa hB.2.2 ..).trans ht1)
          rw [dw, if_pos hht]
          have hh := RM_ho h1 (show i < (dw j t0 (s_ws s) i).length by rw [dw_len]; exact hil) t0 hyt
          change RM _ m ad (w_ws s ((dw j t0 (s_ws s) i).set i (wi_ho (wi_at (dw j t0 (s_ws s) i) i) t0))) at hh
          rw [dw_at _ _ _ i i (Nat.le_refl _)] at hh
          exact hh
set_option maxRecDepth 20000 in
set_option maxHeartbeats 4000000 in
theorem m_died (g : gl_T) {S : hs_T} {n k m : Nat} {ad : Nat → Nat} {s : st_T} (h : RM S m ad s) (hO : ∀ j, j < (s_ws s).length → wi_ok s (wi_at (s_ws s) j)) {x y : Int32} : ex_M g 2 mX10_died [.ref m, .int x, .int y] S n k (mp S m ad n k (sp_died s x y)) := by
  refine ex_enter (by decide +kernel) (Nat.le_of_ble_eq_true rfl) ?_
  show ex_W _ _ _ _ 0 [(0, .ref m), (1, .int x), (2, .int y)] [] _ _ _
  have hB := h.1
  refine ex_aload_n dX10_died_0 0 rfl ?_
  refine ex_iconst (v := 0) dX10_died_1 (by decide) ?_
  refine ex_putI dX10_died_2 fl_X10_80 (pf_X10_80 _) hB.1.1 hB.1.2 ?_
  have h1 := RM_mI h 0 0 (by decide)
  have ht1 : hs_I (hs_sI S m 0 0) m 0 = nI 0 := by rw [mI_mm]; rfl
  have hF1 := MF_mI (MF_rf S m ad) 0 0
  generalize hs_sI S m 0 0 = S1 at h1 ht1 hF1 ⊢
  clear h hB
  obtain ⟨hB, hMS, hMH, hML, hMT, hMR, hMN, hMD, hMW⟩ := id h1
  have hhx : hd_ok s x ↔ (0 ≤ x ∧ x < hs_I S1 m 1) := by rw [hMH.1]
  have hhy : hd_ok s y ↔ (0 ≤ y ∧ y < hs_I S1 m 1) := by rw [hMH.1]
  by_cases hq : hd_ok s x
  · by_cases hq2 : hd_ok s y
    · obtain ⟨j, hj, hxj⟩ := hd_of hq hMH.2.1
      obtain ⟨t, htt, hyt⟩ := hd_of hq2 hMH.2.1
      have hj6 := hMH.2.1
      have hcx : x.toNatClampNeg = j := by rw [hxj]; exact nI_clamp (by omega)
      have hcy : y.toNatClampNeg = t := by rw [hyt]; exact nI_clamp (by omega)
      obtain ⟨hdj, hpj, hd1⟩ := hMH.2.2 j (by omega)
      obtain ⟨hdt, hpt, hd2⟩ := hMH.2.2 t (by omega)
      change hs_I S1 (ad 4) j = nI (hd_at (s_hs s) j).1 at hdj
      change hs_I S1 (ad 4) t = nI (hd_at (s_hs s) t).1 at hdt
      change (hd_at (s_hs s) j).1 ≤ 1 at hd1
      change (hd_at (s_hs s) t).1 ≤ 1 at hd2
      have hl15 := hML.2.1
      have hgl := gm_le j 0 1000000000 (s_td s) (some t) (s_ls s) (s_ls s).length
      refine ex_aload_n dX10_died_5 0 rfl ?_
      refine ex_aload_n dX10_died_6 0 rfl ?_
      refine ex_iload_n dX10_died_7 1 rfl ?_
      refine ex_cVr [.int x] [.ref m] dX10_died_8 cV_X10_93 (m_isH1 g hB (hhx.mp hq)) hB.1.1 hB.1.2 rfl rfl rfl (by decide) (Nat.le_of_ble_eq_true rfl) rfl ?_
      refine ex_if_eq (tgt := 22) dX10_died_11 (by decide) (fun c11 => absurd c11 (by decide)) (fun c11 => ?_)
      refine ex_aload_n dX10_died_14 0 rfl ?_
      refine ex_iload_n dX10_died_15 2 rfl ?_
      refine ex_cVr [.int y] [.ref m] dX10_died_16 cV_X10_93 (m_isH1 g hB (hhy.mp hq2)) hB.1.1 hB.1.2 rfl rfl rfl (by decide) (Nat.le_of_ble_eq_true rfl) rfl ?_
      refine ex_if_ne (tgt := 26) dX10_died_19 (by decide) (fun c19 => ?_) (fun c19 => absurd c19 (by decide))
      refine ex_iconst (v := 0) dX10_died_26 (by decide) ?_
      refine ex_iconst (v := 1) dX10_died_27 (by decide) ?_
      refine ex_cVr [.int 0, .int 1] [] dX10_died_28 cV_X10_86 (m_bad0 g hB) hB.1.1 hB.1.2 rfl rfl rfl (by decide) (Nat.le_of_ble_eq_true rfl) rfl ?_
      refine ex_if_ne (tgt := 83) dX10_died_31 (by decide) (fun c31 => absurd (by decide) c31) (fun c31 => ?_)
      refine ex_aload_n dX10_died_34 0 rfl ?_
      refine ex_iload_n dX10_died_35 1 rfl ?_
      refine ex_iload_n dX10_died_36 2 rfl ?_
      refine ex_icmp_ne (tgt := 44) dX10_died_37 (by decide) (fun c37 => ?_) (fun c37 => ?_)
      · refine ex_iconst (v := 0) dX10_died_44 (by decide) ?_
        refine ex_iconst (v := 2) dX10_died_45 (by decide) ?_
        refine ex_cVr [.int 0, .int 2] [] dX10_died_46 cV_X10_86 (m_bad0 g hB) hB.1.1 hB.1.2 rfl rfl rfl (by decide) (Nat.le_of_ble_eq_true rfl) rfl ?_
        refine ex_if_ne (tgt := 83) dX10_died_49 (by decide) (fun c49 => absurd (by decide) c49) (fun c49 => ?_)
        refine ex_aload_n dX10_died_52 0 rfl ?_
        refine ex_aload_n dX10_died_53 0 rfl ?_
        refine ex_getR (b := ad 4) dX10_died_54 fl_X10_9 hB.1.1 hB.1.2 (mb_4 hB).1 ?_
        refine ex_iload_n dX10_died_57 1 rfl ?_
        refine ex_zald (j := j) dX10_died_58 (mb_4 hB).2.1 (mb_4 hB).2.2.1 hxj (Nat.lt_of_lt_of_eq (show j < 60 by omega) (mb_4 hB).2.2.2.symm) (show j < 2 ^ 31 by omega) ?_
        refine ex_if_ne (tgt := 71) dX10_died_59 (by decide) (fun c59 => ?_) (fun c59 => ?_)
        · refine ex_iconst (v := 1) dX10_died_71 (by decide) ?_
          refine ex_goto (tgt := 76) dX10_died_72 (by decide) ?_
          refine ex_iconst (v := 3) dX10_died_76 (by decide) ?_
          refine ex_cVr [.int 1, .int 3] [] dX10_died_77 cV_X10_86 (m_bad1 g hB) hB.1.1 hB.1.2 rfl rfl rfl (by decide) (Nat.le_of_ble_eq_true rfl) rfl ?_
          refine ex_if_eq (tgt := 85) dX10_died_80 (by decide) (fun c80 => absurd c80 (by decide)) (fun c80 => ?_)
          refine ex_iconst (v := 0) dX10_died_83 (by decide) ?_
          exact ex_irt rfl dX10_died_84 (mp_i (by unfold sp_died; rw [if_pos ⟨hq, hq2⟩, if_neg c37, hcx, hcy, if_pos (by first | exact Or.inl (by have : ¬ (hd_at (s_hs s) j).1 = 0 := fun z => c59 (by rw [hdj, z]; rfl); omega) | exact Or.inr (by have : ¬ (hd_at (s_hs s) t).1 = 0 := fun z => c68 (by rw [hdt, z]; rfl); omega))]) (by rw [mI_mm]; rfl) (RM_mI h1 0 3 (by decide)) (MF_mI hF1 0 3))
        · refine ex_aload_n dX10_died_62 0 rfl ?_
          refine ex_getR (b := ad 4) dX10_died_63 fl_X10_9 hB.1.1 hB.1.2 (mb_4 hB).1 ?_
          refine ex_iload_n dX10_died_66 2 rfl ?_
          refine ex_zald (j := t) dX10_died_67 (mb_4 hB).2.1 (mb_4 hB).2.2.1 hyt (Nat.lt_of_lt_of_eq (show t < 60 by omega) (mb_4 hB).2.2.2.symm) (show t < 2 ^ 31 by omega) ?_
          refine ex_if_eq (tgt := 75) dX10_died_68 (by decide) (fun c68 => ?_) (fun c68 => ?_)
          · refine ex_iconst (v := 0) dX10_died_75 (by decide) ?_
            refine ex_iconst (v := 3) dX10_died_76 (by decide) ?_
            refine ex_cVr [.int 0, .int 3] [] dX10_died_77 cV_X10_86 (m_bad0 g hB) hB.1.1 hB.1.2 rfl rfl rfl (by decide) (Nat.le_of_ble_eq_true rfl) rfl ?_
            refine ex_if_eq (tgt := 85) dX10_died_80 (by decide) (fun c80 => ?_) (fun c80 => absurd (by decide) c80)
            refine ex_aload_n dX10_died_85 0 rfl ?_
            refine ex_getI dX10_died_86 fl_X10_90 hB.1.1 hB.1.2 ?_
            refine ex_istore_n [(3, .int (hs_I S1 m 11)), (0, .ref m), (1, .int x), (2, .int y)] dX10_died_89 (by decide) rfl ?_
            refine ex_iconst (v := 0) dX10_died_90 (by decide) ?_
            refine ex_istore [(4, .int 0), (3, .int (hs_I S1 m 11)), (0, .ref m), (1, .int x), (2, .int y)] dX10_died_91 (by decide) rfl ?_
            refine ex_iconst (v := 0) dX10_died_93 (by decide) ?_
            refine ex_istore [(5, .int 0), (4, .int 0), (3, .int (hs_I S1 m 11)), (0, .ref m), (1, .int x), (2, .int y)] dX10_died_94 (by decide) rfl ?_
            have hnz : ¬ ((hd_at (s_hs s) j).1 = 1 ∨ (hd_at (s_hs s) t).1 = 1) := (fun z => z.elim (fun z => absurd (hdj.symm.trans c59) (by rw [z]; decide)) (fun z => absurd (hdt.symm.trans c68) (by rw [z]; decide)))
            refine ex_lv [0, 1, 2, 3, 4, 5] rfl ?_
            refine m_died_c hxj hyt (by omega) (by omega) h1 hML.1 (fun w v hv => ?_) ((s_ls s).length + 1) 0 _ (by omega) (by omega) rfl
            have hsum : hs_I S1 m 11 + v = nI ((s_ls s).length + gm j 0 1000000000 (s_td s) (some t) (s_ls s) (s_ls s).length) := by rw [hML.1, hv]; exact nI_add _ _
            refine ex_iload_n dX10_died_128 2 rfl ?_
            refine ex_iload dX10_died_129 1 rfl ?_
            refine ex_iadd dX10_died_131 ?_
            refine ex_sipush (v := 1500) dX10_died_132 (by decide) ?_
            refine ex_icmp_le (tgt := 141) dX10_died_135 (by decide) (fun c135 => ?_) (fun c135 => ?_)
            · refine ex_iconst (v := 0) dX10_died_141 (by decide) ?_
              refine ex_istore [(5, .int 0), (4, .int v), (3, .int (hs_I S1 m 11)), (0, .ref m), (1, .int x), (2, .int y)] dX10_died_142 (by decide) rfl ?_
              have hle : (s_ls s).length + gm j 0 1000000000 (s_td s) (some t) (s_ls s) (s_ls s).length ≤ 1500 := (nI_leI (b := 1500) (by omega) (by decide)).mp (hsum ▸ c135)
              refine ex_lv [0, 1, 2, 3, 4, 5] rfl ?_
              refine m_died_l hxj hyt (by omega) (by omega) hML.1 hle (fun w2 S2 h2 hF2 ht2 => ?_) ((s_ls s).length + 1) 0 S1 (by omega) (by omega) h1 (MF_rf _ _ _) rfl
              have hB2 := h2.1
              refine ex_iconst (v := 0) dX10_died_203 (by decide) ?_
              refine ex_istore [(5, .int 0), (4, .int v), (3, .int (hs_I S1 m 11)), (0, .ref m), (1, .int x), (2, .int y)] dX10_died_204 (by decide) rfl ?_
              refine ex_lv [0, 1, 2, 3, 4, 5] rfl ?_
              refine m_died_w (s := w_ls s (gs j 0 1000000000 (s_td s) (some t) (s_ls s) (s_ls s).length)) (t0 := t) hxj hyt (by omega) (fun q hq => ⟨Nat.lt_of_lt_of_le (hO q hq).2.2.2.2.1 hj6, (hO q hq).2.2.2.2.2.2⟩) (fun w3 S3 h3 hF3 ht3 => ?_) ((s_ws s).length + 1) 0 S2 (Nat.zero_le _) (by show (s_ws s).length < _; omega) h2 (MF_rf _ _ _) rfl
              have hB := h3.1
              refine ex_aload_n dX10_died_250 3 rfl ?_
              refine ex_getR (b := ad 4) dX10_died_251 fl_X10_9 hB.1.1 hB.1.2 (mb_4 hB).1 ?_
              refine ex_iload_n dX10_died_254 4 rfl ?_
              refine ex_iconst (v := 1) dX10_died_255 (by decide) ?_
              refine ex_zast (j := j) dX10_died_256 (mb_4 hB).2.1 (mb_4 hB).2.2.1 hxj (Nat.lt_of_lt_of_eq (show j < 60 by omega) (mb_4 hB).2.2.2.symm) (show j < 2 ^ 31 by omega) ?_
              refine ex_iload dX10_died_257 1 rfl ?_
              exact ex_irt rfl dX10_died_259 (mp_i (c := 0) (by unfold sp_died; rw [if_pos ⟨hq, hq2⟩, if_neg c37, hcx, hcy, if_neg hnz, if_neg (by omega), hv]; rfl) ((mI_sa hB.2.2 ..).trans (ht3.trans (ht2.trans ht1))) (RM_dead h3 hj rfl) (MF_aI (MF_tr hF1 (MF_tr hF2 hF3)) 4 (by decide) _ _))
            · refine ex_bipush (v := (-2)) dX10_died_138 (by decide) ?_
              exact ex_irt rfl dX10_died_140 (mp_i (c := 0) (s' := s) (by unfold sp_died; rw [if_pos ⟨hq, hq2⟩, if_neg c37, hcx, hcy, if_neg hnz, if_pos (Nat.lt_of_not_le (fun q => c135 (by rw [hsum]; exact nI_le q (by decide))))]) ht1 h1 hF1)
          · refine ex_iconst (v := 1) dX10_died_71 (by decide) ?_
            refine ex_goto (tgt := 76) dX10_died_72 (by decide) ?_
            refine ex_iconst (v := 3) dX10_died_76 (by decide) ?_
            refine ex_cVr [.int 1, .int 3] [] dX10_died_77 cV_X10_86 (m_bad1 g hB) hB.1.1 hB.1.2 rfl rfl rfl (by decide) (Nat.le_of_ble_eq_true rfl) rfl ?_
            refine ex_if_eq (tgt := 85) dX10_died_80 (by decide) (fun c80 => absurd c80 (by decide)) (fun c80 => ?_)
            refine ex_iconst (v := 0) dX10_died_83 (by decide) ?_
            exact ex_irt rfl dX10_died_84 (mp_i (by unfold sp_died; rw [if_pos ⟨hq, hq2⟩, if_neg c37, hcx, hcy, if_pos (by first | exact Or.inl (by have : ¬ (hd_at (s_hs s) j).1 = 0 := fun z => c59 (by rw [hdj, z]; rfl); omega) | exact Or.inr (by have : ¬ (hd_at (s_hs s) t).1 = 0 := fun z => c68 (by rw [hdt, z]; rfl); omega))]) (by rw [mI_mm]; rfl) (RM_mI h1 0 3 (by decide)) (MF_mI hF1 0 3))
      · refine ex_iconst (v := 1) dX10_died_40 (by decide) ?_
        refine ex_goto (tgt := 45) dX10_died_41 (by decide) ?_
        refine ex_iconst (v := 2) dX10_died_45 (by decide) ?_
        refine ex_cVr [.int 1, .int 2] [] dX10_died_46 cV_X10_86 (m_bad1 g hB) hB.1.1 hB.1.2 rfl rfl rfl (by decide) (Nat.le_of_ble_eq_true rfl) rfl ?_
        refine ex_if_ne (tgt := 83) dX10_died_49 (by decide) (fun c49 => ?_) (fun c49 => absurd c49 (by decide))
        refine ex_iconst (v := 0) dX10_died_83 (by decide) ?_
        exact ex_irt rfl dX10_died_84 (mp_i (by unfold sp_died; rw [if_pos ⟨hq, hq2⟩, if_pos c37]) (by rw [mI_mm]; rfl) (RM_mI h1 0 2 (by decide)) (MF_mI hF1 0 2))
    · refine ex_aload_n dX10_died_5 0 rfl ?_
      refine ex_aload_n dX10_died_6 0 rfl ?_
      refine ex_iload_n dX10_died_7 1 rfl ?_
      refine ex_cVr [.int x] [.ref m] dX10_died_8 cV_X10_93 (m_isH1 g hB (hhx.mp hq)) hB.1.1 hB.1.2 rfl rfl rfl (by decide) (Nat.le_of_ble_eq_true rfl) rfl ?_
      refine ex_if_eq (tgt := 22) dX10_died_11 (by decide) (fun c11 => absurd c11 (by decide)) (fun c11 => ?_)
      refine ex_aload_n dX10_died_14 0 rfl ?_
      refine ex_iload_n dX10_died_15 2 rfl ?_
      refine ex_cVr [.int y] [.ref m] dX10_died_16 cV_X10_93 (m_isH0 g hB (fun z => hq2 (hhy.mpr z))) hB.1.1 hB.1.2 rfl rfl rfl (by decide) (Nat.le_of_ble_eq_true rfl) rfl ?_
      refine ex_if_ne (tgt := 26) dX10_died_19 (by decide) (fun c19 => absurd (by decide) c19) (fun c19 => ?_)
      refine ex_iconst (v := 1) dX10_died_22 (by decide) ?_
      refine ex_goto (tgt := 27) dX10_died_23 (by decide) ?_
      refine ex_iconst (v := 1) dX10_died_27 (by decide) ?_
      refine ex_cVr [.int 1, .int 1] [] dX10_died_28 cV_X10_86 (m_bad1 g hB) hB.1.1 hB.1.2 rfl rfl rfl (by decide) (Nat.le_of_ble_eq_true rfl) rfl ?_
      refine ex_if_ne (tgt := 83) dX10_died_31 (by decide) (fun c31 => ?_) (fun c31 => absurd c31 (by decide))
      refine ex_iconst (v := 0) dX10_died_83 (by decide) ?_
      exact ex_irt rfl dX10_died_84 (mp_i (by unfold sp_died; rw [if_neg (fun z => hq2 z.2)]) (by rw [mI_mm]; rfl) (RM_mI h1 0 1 (by decide)) (MF_mI hF1 0 1))
  · refine ex_aload_n dX10_died_5 0 rfl ?_
    refine ex_aload_n dX10_died_6 0 rfl ?_
    refine ex_iload_n dX10_died_7 1 rfl ?_
    refine ex_cVr [.int x] [.ref m] dX10_died_8 cV_X10_93 (m_isH0 g hB (fun z => hq (hhx.mpr z))) hB.1.1 hB.1.2 rfl rfl rfl (by decide) (Nat.le_of_ble_eq_true rfl) rfl ?_
    refine ex_if_eq (tgt := 22) dX10_died_11 (by decide) (fun c11 => ?_) (fun c11 => absurd (by decide) c11)
    refine ex_iconst (v := 1) dX10_died_22 (by decide) ?_
    refine ex_goto (tgt := 27) dX10_died_23 (by decide) ?_
    refine ex_iconst (v := 1) dX10_died_27 (by decide) ?_
    refine ex_cVr [.int 1, .int 1] [] dX10_died_28 cV_X10_86 (m_bad1 g hB) hB.1.1 hB.1.2 rfl rfl rfl (by decide) (Nat.le_of_ble_eq_true rfl) rfl ?_
    refine ex_if_ne (tgt := 83) dX10_died_31 (by decide) (fun c31 => ?_) (fun c31 => absurd c31 (by decide))
    refine ex_iconst (v := 0) dX10_died_83 (by decide) ?_
    exact ex_irt rfl dX10_died_84 (mp_i (by unfold sp_died; rw [if_neg (fun z => hq z.1)]) (by rw [mI_mm]; rfl) (RM_mI h1 0 1 (by decide)) (MF_mI hF1 0 1))
