set_option maxRecDepth 20000 in
set_option maxHeartbeats 4000000 in
theorem m_goes (g : gl_T) {S : hs_T} {n k m : Nat} {ad : Nat → Nat} {s : st_T} (h : RM S m ad s) {h0 : Nat} {to : Option Nat} {xh xa xb xt : Int32} (hxh : xh = nI h0) (hxt : xt = eN to) (hh6 : h0 < 60) (hto : ∀ t, to = some t → t < 60) : ex_M g 2 mX10_goes [.ref m, .int xh, .int xa, .int xb, .int xt] S n k (mg S m ad n k (sp_goes s h0 xa xb to)) := by
  refine ex_enter (by decide +kernel) (Nat.le_of_ble_eq_true rfl) ?_
  show ex_W _ _ _ _ 0 [(0, .ref m), (1, .int xh), (2, .int xa), (3, .int xb), (4, .int xt)] [] _ _ _
  obtain ⟨hB, hMS, hMH, hML, hMT, hMR, hMN, hMD, hMW⟩ := id h
  have hl15 := hML.2.1
  refine ex_iload_n dX10_goes_0 2 rfl ?_
  refine ex_if_lt (tgt := 26) dX10_goes_1 (by decide) (fun c1 => ?_) (fun c1 => ?_)
  · refine ex_iconst (v := (-1)) dX10_goes_26 (by decide) ?_
    exact ex_irt rfl dX10_goes_27 (mg_i (by unfold sp_goes; rw [if_neg (fun z => by first | (have := z.1; simp only [i_lt, i_le, Int32.reduceToInt] at *; omega) | (have := z.2.1; simp only [i_lt, i_le, Int32.reduceToInt] at *; omega) | (have z3 := z.2.2; rw [hca, hcb] at z3; exact c23 (lg_eq.mpr (by rw [z3, ln_add hxb hxa hab hb31]))))]) rfl h (MF_rf _ _ _))
  · refine ex_iload_n dX10_goes_4 2 rfl ?_
    refine ex_iload_n dX10_goes_5 3 rfl ?_
    refine ex_icmp_gt (tgt := 26) dX10_goes_6 (by decide) (fun c6 => ?_) (fun c6 => ?_)
    · refine ex_iconst (v := (-1)) dX10_goes_26 (by decide) ?_
      exact ex_irt rfl dX10_goes_27 (mg_i (by unfold sp_goes; rw [if_neg (fun z => by first | (have := z.1; simp only [i_lt, i_le, Int32.reduceToInt] at *; omega) | (have := z.2.1; simp only [i_lt, i_le, Int32.reduceToInt] at *; omega) | (have z3 := z.2.2; rw [hca, hcb] at z3; exact c23 (lg_eq.mpr (by rw [z3, ln_add hxb hxa hab hb31]))))]) rfl h (MF_rf _ _ _))
    · obtain ⟨a, ha31, hxa⟩ := nI_of (x := xa) c1
      obtain ⟨b, hb31, hxb⟩ := nI_of (x := xb) (by simp only [i_lt, i_le, Int32.reduceToInt] at *; omega)
      have hab : a ≤ b := (nI_leI ha31 hb31).mp (by rw [← hxa, ← hxb]; simp only [i_lt, i_le] at *; omega)
      have hca : xa.toNatClampNeg = a := by rw [hxa]; exact nI_clamp ha31
      have hcb : xb.toNatClampNeg = b := by rw [hxb]; exact nI_clamp hb31
      have hsl : su (fun j => ln_ov h0 a b (ln_at (s_ls s) j)) (s_ls s).length < 2 ^ 63 := by
        have q : ∀ i, i ≤ (s_ls s).length → su (fun j => ln_ov h0 a b (ln_at (s_ls s) j)) i ≤ 1000000000 * i := by
          intro i
          induction i with
          | zero => intro _; exact Nat.le_refl _
          | succ i ih => intro hi; have := ih (by omega); have := ln_ov_le h0 a b _ (hML.2.2 i (by omega)).1; show su _ i + ln_ov h0 a b (ln_at (s_ls s) i) ≤ _; omega
        have := q _ (Nat.le_refl _); omega
      refine ex_aload_n dX10_goes_9 0 rfl ?_
      refine ex_iload_n dX10_goes_10 1 rfl ?_
      refine ex_iload_n dX10_goes_11 2 rfl ?_
      refine ex_iload_n dX10_goes_12 3 rfl ?_
      refine ex_cVr [.int xh, .int xa, .int xb] [] dX10_goes_13 cV_X10_113 (m_hasOf g hB hML hxh hxa hxb (by omega) ha31 hb31) hB.1.1 hB.1.2 rfl rfl rfl (by decide) (Nat.le_of_ble_eq_true rfl) rfl ?_
      refine ex_iload_n dX10_goes_16 3 rfl ?_
      refine ex_iload_n dX10_goes_17 2 rfl ?_
      refine ex_isub dX10_goes_18 ?_
      refine ex_i2l dX10_goes_19 ?_
      refine ex_lconst (v := 1) dX10_goes_20 (by decide) ?_
      refine ex_ladd dX10_goes_21 ?_
      refine ex_lcmp dX10_goes_22 ?_
      refine ex_if_eq (tgt := 28) dX10_goes_23 (by decide) (fun c23 => ?_) (fun c23 => ?_)
      · have heq : su (fun j => ln_ov h0 a b (ln_at (s_ls s) j)) (s_ls s).length = b - a + 1 := by
          have z := lg_eq.mp c23
          rw [ln_add hxb hxa hab hb31] at z
          exact (pk_lEQ hsl (by omega)).mp z
        have hgate : 0 ≤ xa ∧ xa ≤ xb ∧ su (fun j => ln_ov h0 xa.toNatClampNeg xb.toNatClampNeg (ln_at (s_ls s) j)) (s_ls s).length = xb.toNatClampNeg - xa.toNatClampNeg + 1 := ⟨by simp only [i_lt, i_le, Int32.reduceToInt] at *; omega, by simp only [i_lt, i_le] at *; omega, by rw [hca, hcb]; exact heq⟩
        refine ex_aload_n dX10_goes_28 0 rfl ?_
        refine ex_getI dX10_goes_29 fl_X10_90 hB.1.1 hB.1.2 ?_
        refine ex_istore [(5, .int (hs_I S m 11)), (0, .ref m), (1, .int xh), (2, .int xa), (3, .int xb), (4, .int xt)] dX10_goes_32 (by decide) rfl ?_
        refine ex_iconst (v := 0) dX10_goes_34 (by decide) ?_
        refine ex_istore [(6, .int 0), (5, .int (hs_I S m 11)), (0, .ref m), (1, .int xh), (2, .int xa), (3, .int xb), (4, .int xt)] dX10_goes_35 (by decide) rfl ?_
        refine ex_iconst (v := 0) dX10_goes_37 (by decide) ?_
        refine ex_istore [(7, .int 0), (6, .int 0), (5, .int (hs_I S m 11)), (0, .ref m), (1, .int xh), (2, .int xa), (3, .int xb), (4, .int xt)] dX10_goes_38 (by decide) rfl ?_
        refine ex_lv [0, 1, 2, 3, 4, 5, 6, 7] rfl ?_
        refine m_goes_c hxh hxa hxb hxt hh6 hab ha31 hb31 hto h hML.1 (fun w v hv => ?_) ((s_ls s).length + 1) 0 _ (by omega) (by omega) rfl
        have hgl := gm_le h0 a b (s_td s) to (s_ls s) (s_ls s).length
        have hsum : hs_I S m 11 + v = nI ((s_ls s).length + gm h0 a b (s_td s) to (s_ls s) (s_ls s).length) := by rw [hML.1, hv]; exact nI_add _ _
        refine ex_iload dX10_goes_134 2 rfl ?_
        refine ex_iload dX10_goes_136 1 rfl ?_
        refine ex_iadd dX10_goes_138 ?_
        refine ex_sipush (v := 1500) dX10_goes_139 (by decide) ?_
        refine ex_icmp_le (tgt := 148) dX10_goes_142 (by decide) (fun c142 => ?_) (fun c142 => ?_)
        · refine ex_iconst (v := 0) dX10_goes_148 (by decide) ?_
          refine ex_istore [(7, .int 0), (6, .int v), (5, .int (hs_I S m 11)), (0, .ref m), (1, .int xh), (2, .int xa), (3, .int xb), (4, .int xt)] dX10_goes_149 (by decide) rfl ?_
          have hle : (s_ls s).length + gm h0 a b (s_td s) to (s_ls s) (s_ls s).length ≤ 1500 := (nI_leI (b := 1500) (by omega) (by decide)).mp (hsum ▸ c142)
          refine ex_lv [0, 1, 2, 3, 4, 5, 6, 7] rfl ?_
          exact m_goes_l hxh hxa hxb hxt hh6 hab ha31 hb31 hto hML.1 hle (fun S1 h1 hF1 ht1 => mg_i (by unfold sp_goes; rw [if_pos hgate, hca, hcb, if_neg (by omega)]) ht1 h1 hF1) ((s_ls s).length + 1) 0 S (by omega) (by omega) h (MF_rf _ _ _) rfl
        · refine ex_bipush (v := (-2)) dX10_goes_145 (by decide) ?_
          exact ex_irt rfl dX10_goes_147 (mg_i (by unfold sp_goes; rw [if_pos hgate, hca, hcb, if_pos (Nat.lt_of_not_le (fun q => c142 (by rw [hsum]; exact nI_le q (by decide))))]) rfl h (MF_rf _ _ _))
      · refine ex_iconst (v := (-1)) dX10_goes_26 (by decide) ?_
        exact ex_irt rfl dX10_goes_27 (mg_i (by unfold sp_goes; rw [if_neg (fun z => by first | (have := z.1; simp only [i_lt, i_le, Int32.reduceToInt] at *; omega) | (have := z.2.1; simp only [i_lt, i_le, Int32.reduceToInt] at *; omega) | (have z3 := z.2.2; rw [hca, hcb] at z3; exact c23 (lg_eq.mpr (by rw [z3, ln_add hxb hxa hab hb31]))))]) rfl h (MF_rf _ _ _))
noncomputable def sp_give (s : st_T) (x xa xb y : Int32) : Nat × Value × st_T := if hd_ok s x ∧ hd_ok s y then (if x = y then (2, .int 0, s) else if (hd_at (s_hs s) x.toNatClampNeg).1 = 1 ∨ (hd_at (s_hs s) y.toNatClampNeg).1 = 1 then (3, .int 0, s) else (0, .int (sp_goes s x.toNatClampNeg xa xb (some y.toNatClampNeg)).1, (sp_goes s x.toNatClampNeg xa xb (some y.toNatClampNeg)).2)) else (1, .int 0, s)
noncomputable def sp_cash (s : st_T) (x xa xb : Int32) : Nat × Value × st_T := if hd_ok s x then (if (hd_at (s_hs s) x.toNatClampNeg).1 = 1 then (2, .int 0, s) else (0, .int (if (sp_goes s x.toNatClampNeg xa xb none).1 < 0 then (sp_goes s x.toNatClampNeg xa xb none).1 else xb - xa + 1), (sp_goes s x.toNatClampNeg xa xb none).2)) else (1, .int 0, s)
set_option maxRecDepth 20000 in
set_option maxHeartbeats 4000000 in
theorem m_give (g : gl_T) {S : hs_T} {n k m : Nat} {ad : Nat → Nat} {s : st_T} (h : RM S m ad s) {x xa xb y : Int32} : ex_M g 3 mX10_give [.ref m, .int x, .int xa, .int xb, .int y] S n k (mp S m ad n k (sp_give s x xa xb y)) := by
  refine ex_enter (by decide +kernel) (Nat.le_of_ble_eq_true rfl) ?_
  show ex_W _ _ _ _ 0 [(0, .ref m), (1, .int x), (2, .int xa), (3, .int xb), (4, .int y)] [] _ _ _
  have hB := h.1
  refine ex_aload_n dX10_give_0 0 rfl ?_
  refine ex_iconst (v := 0) dX10_give_1 (by decide) ?_
  refine ex_putI dX10_give_2 fl_X10_80 (pf_X10_80 _) hB.1.1 hB.1.2 ?_
  have h1 := RM_mI h 0 0 (by decide)
  have ht1 : hs_I (hs_sI S m 0 0) m 0 = nI 0 := by rw [mI_mm]; rfl
  have hF1 := MF_mI (MF_rf S m ad) 0 0
  generalize hs_sI S m 0 0 = S1 at h1 ht1 hF1 ⊢
  clear h hB
  obtain ⟨hB, hMS, hMH, hML, hMT, hMR, hMN, hMD, hMW⟩ := id h1
  have hhx : hd_ok s x ↔ (0 ≤ x ∧ x < hs_I S1 m 1) := by rw [hMH.1]
  have hhy : hd_ok s y ↔ (0 ≤ y ∧ y < hs_I S1 m 1) := by rw [hMH.1]
  by_cases hq : hd_ok s x
  · by_cases hq2 : hd_ok s y
    · obtain ⟨j, hj, hxj⟩ := hd_of hq hMH.2.1
      obtain ⟨t, htt, hyt⟩ := hd_of hq2 hMH.2.1
      have hj6 := hMH.2.1
      have hcx : x.toNatClampNeg = j := by rw [hxj]; exact nI_clamp (by omega)
      have hcy : y.toNatClampNeg = t := by rw [hyt]; exact nI_clamp (by omega)
      obtain ⟨hdj, hpj, hd1⟩ := hMH.2.2 j (by omega)
      obtain ⟨hdt, hpt, hd2⟩ := hMH.2.2 t (by omega)
      change hs_I S1 (ad 4) j = nI (hd_at (s_hs s) j).1 at hdj
      change hs_I S1 (ad 4) t = nI (hd_at (s_hs s) t).1 at hdt
      change (hd_at (s_hs s) j).1 ≤ 1 at hd1
      change (hd_at (s_hs s) t).1 ≤ 1 at hd2
      refine ex_aload_n dX10_give_5 0 rfl ?_
      refine ex_aload_n dX10_give_6 0 rfl ?_
      refine ex_iload_n dX10_give_7 1 rfl ?_
      refine ex_cVr [.int x] [.ref m] dX10_give_8 cV_X10_93 (m_isH1 g hB (hhx.mp hq)) hB.1.1 hB.1.2 rfl rfl rfl (by decide) (Nat.le_of_ble_eq_true rfl) rfl ?_
      refine ex_if_eq (tgt := 23) dX10_give_11 (by decide) (fun c11 => absurd c11 (by decide)) (fun c11 => ?_)
      refine ex_aload_n dX10_give_14 0 rfl ?_
      refine ex_iload dX10_give_15 4 rfl ?_
      refine ex_cVr [.int y] [.ref m] dX10_give_17 cV_X10_93 (m_isH1 g hB (hhy.mp hq2)) hB.1.1 hB.1.2 rfl rfl rfl (by decide) (Nat.le_of_ble_eq_true rfl) rfl ?_
      refine ex_if_ne (tgt := 27) dX10_give_20 (by decide) (fun c20 => ?_) (fun c20 => absurd c20 (by decide))
      refine ex_iconst (v := 0) dX10_give_27 (by decide) ?_
      refine ex_iconst (v := 1) dX10_give_28 (by decide) ?_
      refine ex_cVr [.int 0, .int 1] [] dX10_give_29 cV_X10_86 (m_bad0 g hB) hB.1.1 hB.1.2 rfl rfl rfl (by decide) (Nat.le_of_ble_eq_true rfl) rfl ?_
      refine ex_if_ne (tgt := 86) dX10_give_32 (by decide) (fun c32 => absurd (by decide) c32) (fun c32 => ?_)
      refine ex_aload_n dX10_give_35 0 rfl ?_
      refine ex_iload_n dX10_give_36 1 rfl ?_
      refine ex_iload dX10_give_37 4 rfl ?_
      refine ex_icmp_ne (tgt := 46) dX10_give_39 (by decide) (fun c39 => ?_) (fun c39 => ?_)
      · refine ex_iconst (v := 0) dX10_give_46 (by decide) ?_
        refine ex_iconst (v := 2) dX10_give_47 (by decide) ?_
        refine ex_cVr [.int 0, .int 2] [] dX10_give_48 cV_X10_86 (m_bad0 g hB) hB.1.1 hB.1.2 rfl rfl rfl (by decide) (Nat.le_of_ble_eq_true rfl) rfl ?_
        refine ex_if_ne (tgt := 86) dX10_give_51 (by decide) (fun c51 => absurd (by decide) c51) (fun c51 => ?_)
        refine ex_aload_n dX10_give_54 0 rfl ?_
        refine ex_aload_n dX10_give_55 0 rfl ?_
        refine ex_getR (b := ad 4) dX10_give_56 fl_X10_9 hB.1.1 hB.1.2 (mb_4 hB).1 ?_
        refine ex_iload_n dX10_give_59 1 rfl ?_
        refine ex_zald (j := j) dX10_give_60 (mb_4 hB).2.1 (mb_4 hB).2.2.1 hxj (Nat.lt_of_lt_of_eq (show j < 60 by omega) (mb_4 hB).2.2.2.symm) (show j < 2 ^ 31 by omega) ?_
        refine ex_if_ne (tgt := 74) dX10_give_61 (by decide) (fun c61 => ?_) (fun c61 => ?_)
        · refine ex_iconst (v := 1) dX10_give_74 (by decide) ?_
          refine ex_goto (tgt := 79) dX10_give_75 (by decide) ?_
          refine ex_iconst (v := 3) dX10_give_79 (by decide) ?_
          refine ex_cVr [.int 1, .int 3] [] dX10_give_80 cV_X10_86 (m_bad1 g hB) hB.1.1 hB.1.2 rfl rfl rfl (by decide) (Nat.le_of_ble_eq_true rfl) rfl ?_
          refine ex_if_eq (tgt := 88) dX10_give_83 (by decide) (fun c83 => absurd c83 (by decide)) (fun c83 => ?_)
          refine ex_iconst (v := 0) dX10_give_86 (by decide) ?_
          exact ex_irt rfl dX10_give_87 (mp_i (by unfold sp_give; rw [if_pos ⟨hq, hq2⟩, if_neg c39, hcx, hcy, if_pos (by first | exact Or.inl (by have : ¬ (hd_at (s_hs s) j).1 = 0 := fun z => c61 (by rw [hdj, z]; rfl); omega) | exact Or.inr (by have : ¬ (hd_at (s_hs s) t).1 = 0 := fun z => c71 (by rw [hdt, z]; rfl); omega))]) (by rw [mI_mm]; rfl) (RM_mI h1 0 3 (by decide)) (MF_mI hF1 0 3))
        · refine ex_aload_n dX10_give_64 0 rfl ?_
          refine ex_getR (b := ad 4) dX10_give_65 fl_X10_9 hB.1.1 hB.1.2 (mb_4 hB).1 ?_
          refine ex_iload dX10_give_68 4 rfl ?_
          refine ex_zald (j := t) dX10_give_70 (mb_4 hB).2.1 (mb_4 hB).2.2.1 hyt (Nat.lt_of_lt_of_eq (show t < 60 by omega) (mb_4 hB).2.2.2.symm) (show t < 2 ^ 31 by omega) ?_
          refine ex_if_eq (tgt := 78) dX10_give_71 (by decide) (fun c71 => ?_) (fun c71 => ?_)
          · refine ex_iconst (v := 0) dX10_give_78 (by decide) ?_
            refine ex_iconst (v := 3) dX10_give_79 (by decide) ?_
            refine ex_cVr [.int 0, .int 3] [] dX10_give_80 cV_X10_86 (m_bad0 g hB) hB.1.1 hB.1.2 rfl rfl rfl (by decide) (Nat.le_of_ble_eq_true rfl) rfl ?_
            refine ex_if_eq (tgt := 88) dX10_give_83 (by decide) (fun c83 => ?_) (fun c83 => absurd (by decide) c83)
            refine ex_aload_n dX10_give_88 0 rfl ?_
            refine ex_iload_n dX10_give_89 1 rfl ?_
            refine ex_iload_n dX10_give_90 2 rfl ?_
            refine ex_iload_n dX10_give_91 3 rfl ?_
            refine ex_iload dX10_give_92 4 rfl ?_
            refine ex_cVg [.int x, .int xa, .int xb, .int y] [] dX10_give_94 cV_X10_117 (m_goes g h1 (to := some t) hxj hyt (by omega) (fun t2 ht2 => by cases ht2; omega)) hB.1.1 hB.1.2 rfl rfl rfl (by decide) (Nat.le_of_ble_eq_true rfl) rfl ?_ (fun E S' n' k' h => by obtain ⟨h1, -⟩ := h; cases h1)
            rintro v' S2 n' k' ⟨hr, ht2, h2, hF2, hn, hk⟩
            cases hr
            have hn := hn.symm
            have hk := hk.symm
            subst hn hk
            show ex_W _ _ _ _ 97 [(0, .ref m), (1, .int x), (2, .int xa), (3, .int xb), (4, .int y)] [.int ((sp_goes s j xa xb (some t)).1)] S2 n k
            exact ex_irt rfl dX10_give_97 (mp_i (by unfold sp_give; rw [if_pos ⟨hq, hq2⟩, if_neg c39, hcx, hcy, if_neg (fun z => z.elim (fun z => absurd (hdj.symm.trans c61) (by rw [z]; decide)) (fun z => absurd (hdt.symm.trans c71) (by rw [z]; decide)))]) (ht2.trans ht1) h2 (MF_tr hF1 hF2))
          · refine ex_iconst (v := 1) dX10_give_74 (by decide) ?_
            refine ex_goto (tgt := 79) dX10_give_75 (by decide) ?_
            refine ex_iconst (v := 3) dX10_give_79 (by decide) ?_
            refine ex_cVr [.int 1, .int 3] [] dX10_give_80 cV_X10_86 (m_bad1 g hB) hB.1.1 hB.1.2 rfl rfl rfl (by decide) (Nat.le_of_ble_eq_true rfl) rfl ?_
            refine ex_if_eq (tgt := 88) dX10_give_83 (by decide) (fun c83 => absurd c83 (by decide)) (fun c83 => ?_)
            refine ex_iconst (v := 0) dX10_give_86 (by decide) ?_
            exact ex_irt rfl dX10_give_87 (mp_i (by unfold sp_give; rw [if_pos ⟨hq, hq2⟩, if_neg c39, hcx, hcy, if_pos (by first | exact Or.inl (by have : ¬ (hd_at (s_hs s) j).1 = 0 := fun z => c61 (by rw [hdj, z]; rfl); omega) | exact Or.inr (by have : ¬ (hd_at (s_hs s) t).1 = 0 := fun z => c71 (by rw [hdt, z]; rfl); omega))]) (by rw [mI_mm]; rfl) (RM_mI h1 0 3 (by decide)) (MF_mI hF1 0 3))
      · refine ex_iconst (v := 1) dX10_give_42 (by decide) ?_
        refine ex_goto (tgt := 47) dX10_give_43 (by decide) ?_
        refine ex_iconst (v := 2) dX10_give_47 (by decide) ?_
        refine ex_cVr [.int 1, .int 2] [] dX10_give_48 cV_X10_86 (m_bad1 g hB) hB.1.1 hB.1.2 rfl rfl rfl (by decide) (Nat.le_of_ble_eq_true rfl) rfl ?_
        refine ex_if_ne (tgt := 86) dX10_give_51 (by decide) (fun c51 => ?_) (fun c51 => absurd c51 (by decide))
        refine ex_iconst (v := 0) dX10_give_86 (by decide) ?_
        exact ex_irt rfl dX10_give_87 (mp_i (by unfold sp_give; rw [if_pos ⟨hq, hq2⟩, if_pos c39]) (by rw [mI_mm]; rfl) (RM_mI h1 0 2 (by decide)) (MF_mI hF1 0 2))
    · refine ex_aload_n dX10_give_5 0 rfl ?_
      refine ex_aload_n dX10_give_6 0 rfl ?_
      refine ex_iload_n dX10_give_7 1 rfl ?_
      refine ex_cVr [.int x] [.ref m] dX10_give_8 cV_X10_93 (m_isH1 g hB (hhx.mp hq)) hB.1.1 hB.1.2 rfl rfl rfl (by decide) (Nat.le_of_ble_eq_true rfl) rfl ?_
      refine ex_if_eq (tgt := 23) dX10_give_11 (by decide) (fun c11 => absurd c11 (by decide)) (fun c11 => ?_)
      refine ex_aload_n dX10_give_14 0 rfl ?_
      refine ex_iload dX10_give_15 4 rfl ?_
      refine ex_cVr [.int y] [.ref m] dX10_give_17 cV_X10_93 (m_isH0 g hB (fun z => hq2 (hhy.mpr z))) hB.1.1 hB.1.2 rfl rfl rfl (by decide) (Nat.le_of_ble_eq_true rfl) rfl ?_
      refine ex_if_ne (tgt := 27) dX10_give_20 (by decide) (fun c20 => absurd (by decide) c20) (fun c20 => ?_)
      refine ex_iconst (v := 1) dX10_give_23 (by decide) ?_
      refine ex_goto (tgt := 28) dX10_give_24 (by decide) ?_
      refine ex_iconst (v := 1) dX10_give_28 (by decide) ?_
      refine ex_cVr [.int 1, .int 1] [] dX10_give_29 cV_X10_86 (m_bad1 g hB) hB.1.1 hB.1.2 rfl rfl rfl (by decide) (Nat.le_of_ble_eq_true rfl) rfl ?_
      refine ex_if_ne (tgt := 86) dX10_give_32 (by decide) (fun c32 => ?_) (fun c32 => absurd c32 (by decide))
      refine ex_iconst (v := 0) dX10_give_86 (by decide) ?_
      exact ex_irt rfl dX10_give_87 (mp_i (by unfold sp_give; rw [if_neg (fun z => hq2 z.2)]) (by rw [mI_mm]; rfl) (RM_mI h1 0 1 (by decide)) (MF_mI hF1 0 1))
  · refine ex_aload_n dX10_give_5 0 rfl ?_
    refine ex_aload_n dX10_give_6 0 rfl ?_
    refine ex_iload_n dX10_give_7 1 rfl ?_
    refine ex_cVr [.int x] [.ref m] dX10_give_8 cV_X10_93 (m_isH0 g hB (fun z => hq (hhx.mpr z))) hB.1.1 hB.1.2 rfl rfl rfl (by decide) (Nat.le_of_ble_eq_true rfl) rfl ?_
    refine ex_if_eq (tgt := 23) dX10_give_11 (by decide) (fun c11 => ?_) (fun c11 => absurd (by decide) c11)
    refine ex_iconst (v := 1) dX10_give_23 (by decide) ?_
    refine ex_goto (tgt := 28) dX10_give_24 (by decide) ?_
    refine ex_iconst (v := 1) dX10_give_28 (by decide) ?_
    refine ex_cVr [.int 1, .int 1] [] dX10_give_29 cV_X10_86 (m_bad1 g hB) hB.1.1 hB.1.2 rfl rfl rfl (by decide) (Nat.le_of_ble_eq_true rfl) rfl ?_
    refine ex_if_ne (tgt := 86) dX10_give_32 (by decide) (fun c32 => ?_) (fun c32 => absurd c32 (by decide))
    refine ex_iconst (v := 0) dX10_give_86 (by decide) ?_
    exact ex_irt rfl dX10_give_87 (mp_i (by unfold sp_give; rw [if_neg (fun z => hq z.1)]) (by rw [mI_mm]; rfl) (RM_mI h1 0 1 (by decide)) (MF_mI hF1 0 1))
set_option maxRecDepth 20000 in
set_option maxHeartbeats 4000000 in
theorem m_cash (g : gl_T) {S : hs_T} {n k m : Nat} {ad : Nat → Nat} {s : st_T} (h : RM S m ad s) {x xa xb : Int32} : ex_M g 3 mX10_cash [.ref m, .int x, .int xa, .int xb] S n k (mp S m ad n k (sp_cash s x xa xb)) := by
  refine ex_enter (by decide +kernel) (Nat.le_of_ble_eq_true rfl) ?_
  show ex_W _ _ _ _ 0 [(0, .ref m), (1, .int x), (2, .int xa), (3, .int xb)] [] _ _ _
  have hB := h.1
  refine ex_aload_n dX10_cash_0 0 rfl ?_
  refine ex_iconst (v := 0) dX10_cash_1 (by decide) ?_
  refine ex_putI dX10_cash_2 fl_X10_80 (pf_X10_80 _) hB.1.1 hB.1.2 ?_
  have h1 := RM_mI h 0 0 (by decide)
  have ht1 : hs_I (hs_sI S m 0 0) m 0 = nI 0 := by rw [mI_mm]; rfl
  have hF1 := MF_mI (MF_rf S m ad) 0 0
  generalize hs_sI S m 0 0 = S1 at h1 ht1 hF1 ⊢
  clear h hB
  obtain ⟨hB, hMS, hMH, hML, hMT, hMR, hMN, hMD, hMW⟩ := id h1
  have hhx : hd_ok s x ↔ (0 ≤ x ∧ x < hs_I S1 m 1) := by rw [hMH.1]
  by_cases hq : hd_ok s x
  · obtain ⟨j, hj, hxj⟩ := hd_of hq hMH.2.1
    have hj6 := hMH.2.1
    have hcx : x.toNatClampNeg = j := by rw [hxj]; exact nI_clamp (by omega)
    obtain ⟨hdj, hpj, hd1⟩ := hMH.2.2 j (by omega)
    change hs_I S1 (ad 4) j = nI (hd_at (s_hs s) j).1 at hdj
    change (hd_at (s_hs s) j).1 ≤ 1 at hd1
    by_cases hdd : (hd_at (s_hs s) j).1 = 1
    · refine ex_aload_n dX10_cash_5 0 rfl ?_
      refine ex_aload_n dX10_cash_6 0 rfl ?_
      refine ex_iload_n dX10_cash_7 1 rfl ?_
      refine ex_cVr [.int x] [.ref m] dX10_cash_8 cV_X10_93 (m_isH1 g hB (hhx.mp hq)) hB.1.1 hB.1.2 rfl rfl rfl (by decide) (Nat.le_of_ble_eq_true rfl) rfl ?_
      refine ex_if_ne (tgt := 18) dX10_cash_11 (by decide) (fun c11 => ?_) (fun c11 => absurd c11 (by decide))
      refine ex_iconst (v := 0) dX10_cash_18 (by decide) ?_
      refine ex_iconst (v := 1) dX10_cash_19 (by decide) ?_
      refine ex_cVr [.int 0, .int 1] [] dX10_cash_20 cV_X10_86 (m_bad0 g hB) hB.1.1 hB.1.2 rfl rfl rfl (by decide) (Nat.le_of_ble_eq_true rfl) rfl ?_
      refine ex_if_ne (tgt := 40) dX10_cash_23 (by decide) (fun c23 => absurd (by decide) c23) (fun c23 => ?_)
      refine ex_aload_n dX10_cash_26 0 rfl ?_
      refine ex_aload_n dX10_cash_27 0 rfl ?_
      refine ex_getR (b := ad 4) dX10_cash_28 fl_X10_9 hB.1.1 hB.1.2 (mb_4 hB).1 ?_
      refine ex_iload_n dX10_cash_31 1 rfl ?_
      refine ex_zald (j := j) dX10_cash_32 (mb_4 hB).2.1 (mb_4 hB).2.2.1 hxj (Nat.lt_of_lt_of_eq (show j < 60 by omega) (mb_4 hB).2.2.2.symm) (show j < 2 ^ 31 by omega) ?_
      refine ex_iconst (v := 2) dX10_cash_33 (by decide) ?_
      refine ex_cVr [.int (hs_I S1 (ad 4) j), .int 2] [] dX10_cash_34 cV_X10_86 (m_bado g hB (by rw [hdj, hdd]; rfl)) hB.1.1 hB.1.2 rfl rfl rfl (by decide) (Nat.le_of_ble_eq_true rfl) rfl ?_
      refine ex_if_eq (tgt := 42) dX10_cash_37 (by decide) (fun c37 => absurd c37 (by decide)) (fun c37 => ?_)
      refine ex_iconst (v := 0) dX10_cash_40 (by decide) ?_
      exact ex_irt rfl dX10_cash_41 (mp_i (by unfold sp_cash; rw [if_pos hq, hcx, if_pos hdd]) (by rw [mI_mm]; rfl) (RM_mI h1 0 2 (by decide)) (MF_mI hF1 0 2))
    · have hd0 : (hd_at (s_hs s) j).1 = 0 := by omega
      refine ex_aload_n dX10_cash_5 0 rfl ?_
      refine ex_aload_n dX10_cash_6 0 rfl ?_
      refine ex_iload_n dX10_cash_7 1 rfl ?_
      refine ex_cVr [.int x] [.ref m] dX10_cash_8 cV_X10_93 (m_isH1 g hB (hhx.mp hq)) hB.1.1 hB.1.2 rfl rfl rfl (by decide) (Nat.le_of_ble_eq_true rfl) rfl ?_
      refine ex_if_ne (tgt := 18) dX10_cash_11 (by decide) (fun c11 => ?_) (fun c11 => absurd c11 (by decide))
      refine ex_iconst (v := 0) dX10_cash_18 (by decide) ?_
      refine ex_iconst (v := 1) dX10_cash_19 (by decide) ?_
      refine ex_cVr [.int 0, .int 1] [] dX10_cash_20 cV_X10_86 (m_bad0 g hB) hB.1.1 hB.1.2 rfl rfl rfl (by decide) (Nat.le_of_ble_eq_true rfl) rfl ?_
      refine ex_if_ne (tgt := 40) dX10_cash_23 (by decide) (fun c23 => absurd (by decide) c23) (fun c23 => ?_)
      refine ex_aload_n dX10_cash_26 0 rfl ?_
      refine ex_aload_n dX10_cash_27 0 rfl ?_
      refine ex_getR (b := ad 4) dX10_cash_28 fl_X10_9 hB.1.1 hB.1.2 (mb_4 hB).1 ?_
      refine ex_iload_n dX10_cash_31 1 rfl ?_
      refine ex_zald (j := j) dX10_cash_32 (mb_4 hB).2.1 (mb_4 hB).2.2.1 hxj (Nat.lt_of_lt_of_eq (show j < 60 by omega) (mb_4 hB).2.2.2.symm) (show j < 2 ^ 31 by omega) ?_
      refine ex_iconst (v := 2) dX10_cash_33 (by decide) ?_
      refine ex_cVr [.int (hs_I S1 (ad 4) j), .int 2] [] dX10_cash_34 cV_X10_86 (m_badz g hB (by rw [hdj, hd0]; rfl)) hB.1.1 hB.1.2 rfl rfl rfl (by decide) (Nat.le_of_ble_eq_true rfl) rfl ?_
      refine ex_if_eq (tgt := 42) dX10_cash_37 (by decide) (fun c37 => ?_) (fun c37 => absurd (by decide) c37)
      refine ex_aload_n dX10_cash_42 0 rfl ?_
      refine ex_iload_n dX10_cash_43 1 rfl ?_
      refine ex_iload_n dX10_cash_44 2 rfl ?_
      refine ex_iload_n dX10_cash_45 3 rfl ?_
      refine ex_iconst (v := (-1)) dX10_cash_46 (by decide) ?_
      refine ex_cVg [.int x, .int xa, .int xb, .int (-1)] [] dX10_cash_47 cV_X10_117 (m_goes g h1 (to := none) hxj rfl (by omega) (fun t2 ht2 => by cases ht2)) hB.1.1 hB.1.2 rfl rfl rfl (by decide) (Nat.le_of_ble_eq_true rfl) rfl ?_ (fun E S' n' k' h => by obtain ⟨h1, -⟩ := h; cases h1)
      rintro v' S2 n' k' ⟨hr, ht2, h2, hF2, hn, hk⟩
      cases hr
      have hn := hn.symm
      have hk := hk.symm
      subst hn hk
      show ex_W _ _ _ _ 50 [(0, .ref m), (1, .int x), (2, .int xa), (3, .int xb)] [.int ((sp_goes s j xa xb (none)).1)] S2 n k
      refine ex_istore [(4, .int ((sp_goes s j xa xb (none)).1)), (0, .ref m), (1, .int x), (2, .int xa), (3, .int xb)] dX10_cash_50 (by decide) rfl ?_
      refine ex_iload dX10_cash_52 0 rfl ?_
      refine ex_if_ge (tgt := 62) dX10_cash_54 (by decide) (fun c54 => ?_) (fun c54 => ?_)
      · refine ex_iload_n dX10_cash_62 4 rfl ?_
        refine ex_iload_n dX10_cash_63 3 rfl ?_
        refine ex_isub dX10_cash_64 ?_
        refine ex_iconst (v := 1) dX10_cash_65 (by decide) ?_
        refine ex_iadd dX10_cash_66 ?_
        exact ex_irt rfl dX10_cash_67 (mp_i (by unfold sp_cash; rw [if_pos hq, hcx, if_neg hdd]; first | rw [if_neg (by simp only [i_lt, i_le, Int32.reduceToInt] at *; omega)] | rw [if_pos (by simp only [i_lt, i_le, Int32.reduceToInt] at *; omega)]) (ht2.trans ht1) h2 (MF_tr hF1 hF2))
      · refine ex_iload dX10_cash_57 0 rfl ?_
        refine ex_goto (tgt := 67) dX10_cash_59 (by decide) ?_
        exact ex_irt rfl dX10_cash_67 (mp_i (by unfold sp_cash; rw [if_pos hq, hcx, if_neg hdd]; first | rw [if_neg (by simp only [i_lt, i_le, Int32.reduceToInt] at *; omega)] | rw [if_pos (by simp only [i_lt, i_le, Int32.reduceToInt] at *; omega)]) (ht2.trans ht1) h2 (MF_tr hF1 hF2))
  · refine ex_aload_n dX10_cash_5 0 rfl ?_
    refine ex_aload_n dX10_cash_6 0 rfl ?_
    refine ex_iload_n dX10_cash_7 1 rfl ?_
    refine ex_cVr [.int x] [.ref m] dX10_cash_8 cV_X10_93 (m_isH0 g hB (fun z => hq (hhx.mpr z))) hB.1.1 hB.1.2 rfl rfl rfl (by decide) (Nat.le_of_ble_eq_true rfl) rfl ?_
    refine ex_if_ne (tgt := 18) dX10_cash_11 (by decide) (fun c11 => absurd (by decide) c11) (fun c11 => ?_)
    refine ex_iconst (v := 1) dX10_cash_14 (by decide) ?_
    refine ex_goto (tgt := 19) dX10_cash_15 (by decide) ?_
    refine ex_iconst (v := 1) dX10_cash_19 (by decide) ?_
    refine ex_cVr [.int 1, .int 1] [] dX10_cash_20 cV_X10_86 (m_bad1 g hB) hB.1.1 hB.1.2 rfl rfl rfl (by decide) (Nat.le_of_ble_eq_true rfl) rfl ?_
    refine ex_if_ne (tgt := 40) dX10_cash_23 (by decide) (fun c23 => ?_) (fun c23 => absurd c23 (by decide))
    refine ex_iconst (v := 0) dX10_cash_40 (by decide) ?_
    exact ex_irt rfl dX10_cash_41 (mp_i (by unfold sp_cash; rw [if_neg hq]) (by rw [mI_mm]; rfl) (RM_mI h1 0 1 (by decide)) (MF_mI hF1 0 1))
