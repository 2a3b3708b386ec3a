/-! what holds of every state -/
def wi_at (ws : List wi_T) (j : Nat) : wi_T := ws.getD j (0, 0, 0, 0, 0, 0)
def ru_at (rs : List ru_T) (j : Nat) : ru_T := rs.getD j (0, [])
def hd_at (hs : List (Nat × Nat)) (j : Nat) : Nat × Nat := hs.getD j (0, 0)
/-- the lines that go on, in the order of their bonds -/
def GO (ls : List li_T) (ys : List Nat) : Prop := ys.Pairwise (fun i j => (ln_at ls i).2.1 < (ln_at ls j).1) ∧ ∀ i, i ∈ ys ↔ i < ls.length ∧ (ln_at ls i).2.2.2.2 = none
def wi_ok (s : st_T) (w : wi_T) : Prop := w.1 < (s_ds s).length ∧ w.2.1 ≤ s_td s ∧ (s_ds s).getD w.1 (fun _ => 0) 0 = lN w.2.1 ∧ w.2.2.1 < 1000000000 ∧ w.2.2.2.1 < (s_hs s).length ∧ w.2.2.2.2.1 ≤ 1000000000 ∧ w.2.2.2.2.2 ≤ 2
def cl_ok (c : cl_T) : Prop := c.1 ≤ 3 ∧ c.2.1 ≤ 1000000000 ∧ c.2.2 ≤ 1000000000 ∧ (c.1 = 0 → c.2.1 ≤ 1000000 ∧ 1 ≤ c.2.2) ∧ (c.1 = 1 → c.2.2 = 0) ∧ (2 ≤ c.1 → 1 ≤ c.2.1) ∧ (c.1 = 3 → c.2.2 ≤ 100)
/-- a prize that is open -/
def wi_op (w : wi_T) : Nat := if w.2.2.2.2.2 = 0 then w.2.2.2.2.1 else 0
def OK (s : st_T) : Prop := (∃ ys, GO (s_ls s) ys) ∧ (∀ j, j < (s_ls s).length → (ln_at (s_ls s) j).2.1 < s_sd s ∧ (ln_at (s_ls s) j).2.2.1 < (s_hs s).length ∧ (ln_at (s_ls s) j).2.2.2.1 ≤ s_td s) ∧ (∀ j, j < (s_rs s).length → ∀ c ∈ (ru_at (s_rs s) j).2, cl_ok c) ∧ (∀ j, j < (s_ws s).length → wi_ok s (wi_at (s_ws s) j)) ∧ (s_ws s).length ≤ 50 * (s_ds s).length ∧ s_cr s + su (fun j => wi_op (wi_at (s_ws s) j)) (s_ws s).length ≤ 10000000000000000 * (s_ds s).length
theorem ex_rt_s {v : Option Value} {S S2 : hs_T} {n k : Nat} (h : S2 = S) : ex_rt v S n k (.inl v) S2 n k := by subst h; exact ex_rt_i
theorem m_badz (g : gl_T) {S : hs_T} {n k m : Nat} {ad : Nat → Nat} (hB : MB S m ad) {x y : Int32} (hx : x = 0) : ex_M g 0 mX10_bad [.ref m, .int x, .int y] S n k (ex_rt (some (.int 0)) S n k) := by subst hx; exact m_bad0 g hB
theorem m_bado (g : gl_T) {S : hs_T} {n k m : Nat} {ad : Nat → Nat} (hB : MB S m ad) {x y : Int32} (hx : x = 1) : ex_M g 0 mX10_bad [.ref m, .int x, .int y] S n k (ex_rt (some (.int 1)) (hs_sI S m 0 y) n k) := by subst hx; exact m_bad1 g hB
/-! a line more -/
def ads (S : hs_T) (m : Nat) (ad : Nat → Nat) (i : Nat) (a b h d : Int32) : hs_T := hs_sI (hs_sI (hs_sI (hs_sI (hs_sI (hs_sI S (ad 6) i a) (ad 7) i b) (ad 8) i h) (ad 9) i d) (ad 10) i (-1)) m 11 (nI (i + 1))
set_option maxRecDepth 20000 in
set_option maxHeartbeats 2000000 in
theorem m_adds (g : gl_T) {S : hs_T} {n k : Nat} {m i : Nat} {ad : Nat → Nat} (hB : MB S m ad) (hi : hs_I S m 11 = nI i) (hi2 : i < 1500) {xa xb xh xd : Int32} : ex_M g 0 mX10_adds [.ref m, .int xa, .int xb, .int xh, .int xd] S n k (ex_rt none (ads S m ad i xa xb xh xd) n k) := by
  refine ex_enter (by decide +kernel) (Nat.le_of_ble_eq_true rfl) ?_
  show ex_W _ _ _ _ 0 [(0, .ref m), (1, .int xa), (2, .int xb), (3, .int xh), (4, .int xd)] [] _ _ _
  refine ex_aload_n dX10_adds_0 0 rfl ?_
  refine ex_getR (b := ad 6) dX10_adds_1 fl_X10_17 hB.1.1 hB.1.2 (mb_6 hB).1 ?_
  refine ex_aload_n dX10_adds_4 0 rfl ?_
  refine ex_getI dX10_adds_5 fl_X10_90 hB.1.1 hB.1.2 ?_
  refine ex_iload_n dX10_adds_8 1 rfl ?_
  refine ex_iast (j := i) dX10_adds_9 (mb_6 hB).2.1 (mb_6 hB).2.2.1 hi (Nat.lt_of_lt_of_eq hi2 (mb_6 hB).2.2.2.symm) (Nat.lt_trans hi2 (by decide)) ?_
  refine ex_aload_n dX10_adds_10 0 rfl ?_
  refine ex_getR (b := ad 7) dX10_adds_11 fl_X10_21 hB.1.1 hB.1.2 (mb_7 hB).1 ?_
  refine ex_aload_n dX10_adds_14 0 rfl ?_
  refine ex_getI dX10_adds_15 fl_X10_90 hB.1.1 hB.1.2 ?_
  refine ex_iload_n dX10_adds_18 2 rfl ?_
  refine ex_iast (j := i) dX10_adds_19 (mb_7 hB).2.1 (mb_7 hB).2.2.1 (by simp only [mI_sa hB.2.2]; exact hi) (Nat.lt_of_lt_of_eq hi2 (mb_7 hB).2.2.2.symm) (Nat.lt_trans hi2 (by decide)) ?_
  refine ex_aload_n dX10_adds_20 0 rfl ?_
  refine ex_getR (b := ad 8) dX10_adds_21 fl_X10_24 hB.1.1 hB.1.2 (mb_8 hB).1 ?_
  refine ex_aload_n dX10_adds_24 0 rfl ?_
  refine ex_getI dX10_adds_25 fl_X10_90 hB.1.1 hB.1.2 ?_
  refine ex_iload_n dX10_adds_28 3 rfl ?_
  refine ex_iast (j := i) dX10_adds_29 (mb_8 hB).2.1 (mb_8 hB).2.2.1 (by simp only [mI_sa hB.2.2]; exact hi) (Nat.lt_of_lt_of_eq hi2 (mb_8 hB).2.2.2.symm) (Nat.lt_trans hi2 (by decide)) ?_
  refine ex_aload_n dX10_adds_30 0 rfl ?_
  refine ex_getR (b := ad 9) dX10_adds_31 fl_X10_27 hB.1.1 hB.1.2 (mb_9 hB).1 ?_
  refine ex_aload_n dX10_adds_34 0 rfl ?_
  refine ex_getI dX10_adds_35 fl_X10_90 hB.1.1 hB.1.2 ?_
  refine ex_iload dX10_adds_38 4 rfl ?_
  refine ex_iast (j := i) dX10_adds_40 (mb_9 hB).2.1 (mb_9 hB).2.2.1 (by simp only [mI_sa hB.2.2]; exact hi) (Nat.lt_of_lt_of_eq hi2 (mb_9 hB).2.2.2.symm) (Nat.lt_trans hi2 (by decide)) ?_
  refine ex_aload_n dX10_adds_41 0 rfl ?_
  refine ex_getR (b := ad 10) dX10_adds_42 fl_X10_30 hB.1.1 hB.1.2 (mb_10 hB).1 ?_
  refine ex_aload_n dX10_adds_45 0 rfl ?_
  refine ex_getI dX10_adds_46 fl_X10_90 hB.1.1 hB.1.2 ?_
  refine ex_iconst (v := (-1)) dX10_adds_49 (by decide) ?_
  refine ex_iast (j := i) dX10_adds_50 (mb_10 hB).2.1 (mb_10 hB).2.2.1 (by simp only [mI_sa hB.2.2]; exact hi) (Nat.lt_of_lt_of_eq hi2 (mb_10 hB).2.2.2.symm) (Nat.lt_trans hi2 (by decide)) ?_
  refine ex_aload_n dX10_adds_51 0 rfl ?_
  refine ex_dup dX10_adds_52 rfl ?_
  refine ex_getI dX10_adds_53 fl_X10_90 hB.1.1 hB.1.2 ?_
  refine ex_iconst (v := 1) dX10_adds_56 (by decide) ?_
  refine ex_iadd dX10_adds_57 ?_
  refine ex_putI dX10_adds_58 fl_X10_90 (pf_X10_90 _) hB.1.1 hB.1.2 ?_
  exact ex_vrt rfl dX10_adds_61 (ex_rt_s (by unfold ads; congr 1; simp only [mI_sa hB.2.2]; rw [hi]; exact nI_1 i))
theorem ln_app (ls : List li_T) (l : li_T) (j : Nat) : ln_at (ls ++ [l]) j = if j = ls.length then l else ln_at ls j := gd_app ls l _ j
theorem ML_ads {S : hs_T} {m : Nat} {ad : Nat → Nat} (hA : AD m ad) {ls : List li_T} (h : ML S m ad ls) (hl : ls.length < 1500) {a b hh d : Nat} (hok : ln_ok (a, b, hh, d, none)) : ML (ads S m ad ls.length (nI a) (nI b) (nI hh) (nI d)) m ad (ls ++ [(a, b, hh, d, none)]) := by
  obtain ⟨h1, h2, h3⟩ := h
  unfold ads
  refine ⟨by rw [mI_mm, if_pos rfl]; simp, by simp; omega, fun j hj => ?_⟩
  simp only [List.length_append, List.length_cons, List.length_nil] at hj
  simp only [mI_sm hA, mI_aa hA, ln_app]
  by_cases q : j = ls.length
  · subst q; simp [eN]; exact hok
  · have h4 := h3 j (by omega)
    simpa [q] using h4
theorem RM_ads {S : hs_T} {m : Nat} {ad : Nat → Nat} {s : st_T} (h : RM S m ad s) (hl : (s_ls s).length < 1500) {a b hh d : Nat} {xa xb xh xd : Int32} (hok : ln_ok (a, b, hh, d, none)) (ha : xa = nI a) (hb : xb = nI b) (hh2 : xh = nI hh) (hd : xd = nI d) : RM (ads S m ad (s_ls s).length xa xb xh xd) m ad (w_ls s (s_ls s ++ [(a, b, hh, d, none)])) := by
  subst ha hb hh2 hd
  obtain ⟨hB, hMS, hMH, hML, hMT, hMR, hMN, hMD, hMW⟩ := h
  exact ⟨hB, (MS_mI hB.2.2 (MS_aI hB.2.2 (MS_aI hB.2.2 (MS_aI hB.2.2 (MS_aI hB.2.2 (MS_aI hB.2.2 (hMS) 6 _ _ (by decide)) 7 _ _ (by decide)) 8 _ _ (by decide)) 9 _ _ (by decide)) 10 _ _ (by decide)) 11 _ (by decide)), (MH_mI hB.2.2 (MH_aI hB.2.2 (MH_aI hB.2.2 (MH_aI hB.2.2 (MH_aI hB.2.2 (MH_aI hB.2.2 (hMH) 6 _ _ (by decide)) 7 _ _ (by decide)) 8 _ _ (by decide)) 9 _ _ (by decide)) 10 _ _ (by decide)) 11 _ (by decide)), ML_ads hB.2.2 hML hl hok, (MT_mI hB.2.2 (MT_aI hB.2.2 (MT_aI hB.2.2 (MT_aI hB.2.2 (MT_aI hB.2.2 (MT_aI hB.2.2 (hMT) 6 _ _ (by decide)) 7 _ _ (by decide)) 8 _ _ (by decide)) 9 _ _ (by decide)) 10 _ _ (by decide)) 11 _ (by decide)), (MR_mI hB.2.2 (MR_aI hB.2.2 (MR_aI hB.2.2 (MR_aI hB.2.2 (MR_aI hB.2.2 (MR_aI hB.2.2 (hMR) 6 _ _ (by decide)) 7 _ _ (by decide)) 8 _ _ (by decide)) 9 _ _ (by decide)) 10 _ _ (by decide)) 11 _ (by decide)), (MN_mI hB.2.2 (MN_aI hB.2.2 (MN_aI hB.2.2 (MN_aI hB.2.2 (MN_aI hB.2.2 (MN_aI hB.2.2 (hMN) 6 _ _ (by decide)) 7 _ _ (by decide)) 8 _ _ (by decide)) 9 _ _ (by decide)) 10 _ _ (by decide)) 11 _ (by decide)), (MD_mI hB.2.2 (MD_aI hB.2.2 (MD_aI hB.2.2 (MD_aI hB.2.2 (MD_aI hB.2.2 (MD_aI hB.2.2 (hMD) 6 _ _ (by decide)) 7 _ _ (by decide)) 8 _ _ (by decide)) 9 _ _ (by decide)) 10 _ _ (by decide)) 11 _ (by decide)), (MW_mI hB.2.2 (MW_aI hB.2.2 (MW_aI hB.2.2 (MW_aI hB.2.2 (MW_aI hB.2.2 (MW_aI hB.2.2 (hMW) 6 _ _ (by decide)) 7 _ _ (by decide)) 8 _ _ (by decide)) 9 _ _ (by decide)) 10 _ _ (by decide)) 11 _ (by decide))⟩
theorem MF_ads {S S1 : hs_T} {m : Nat} {ad : Nat → Nat} (hF1 : MF S S1 m ad) (i : Nat) (xa xb xh xd : Int32) : MF S (ads S1 m ad i xa xb xh xd) m ad := MF_mI (MF_aI (MF_aI (MF_aI (MF_aI (MF_aI (hF1) 6 (by decide) _ _) 7 (by decide) _ _) 8 (by decide) _ _) 9 (by decide) _ _) 10 (by decide) _ _) 11 _
theorem ads_m {S : hs_T} {m i j : Nat} {ad : Nat → Nat} (hA : AD m ad) (hj : j ≠ 11) (xa xb xh xd : Int32) : hs_I (ads S m ad i xa xb xh xd) m j = hs_I S m j := by
  unfold ads; rw [mI_mm, if_neg hj]; simp only [mI_sa hA]
theorem RM_sd {S : hs_T} {m : Nat} {ad : Nat → Nat} {s : st_T} (h : RM S m ad s) {v : Int32} {x : Nat} (hv : v = nI x) (hx : x ≤ 1000000000) : RM (hs_sI S m 3 v) m ad (w_sd s x) := by
  obtain ⟨hB, hMS, hMH, hML, hMT, hMR, hMN, hMD, hMW⟩ := h
  exact ⟨hB, ⟨⟨by rw [mI_mm, if_neg (by decide)]; exact hMS.1.1, by rw [mI_mm, if_pos rfl, hv]; rfl, by rw [mI_mm, if_neg (by decide)]; exact hMS.1.2.2.1, hMS.1.2.2.2⟩, hMS.2.1, hx, hMS.2.2.2⟩, (MH_mI hB.2.2 (hMH) 3 _ (by decide)), (ML_mI hB.2.2 (hML) 3 _ (by decide)), (MT_mI hB.2.2 (hMT) 3 _ (by decide)), (MR_mI hB.2.2 (hMR) 3 _ (by decide)), (MN_mI hB.2.2 (hMN) 3 _ (by decide)), (MD_mI hB.2.2 (hMD) 3 _ (by decide)), (MW_mI hB.2.2 (hMW) 3 _ (by decide))⟩
noncomputable def sp_buy (s : st_T) (x y : Int32) : Nat × Value × st_T := if hd_ok s x then (if 1 ≤ y ∧ y ≤ 10000000 then (if (hd_at (s_hs s) x.toNatClampNeg).1 = 1 then (3, .int 0, s) else if 1000000000 < s_sd s + y.toNatClampNeg then (0, .int (-1), s) else if (s_ls s).length = 1500 then (0, .int (-2), s) else (0, .int (nI (s_sd s)), w_sd (w_ls s (s_ls s ++ [(s_sd s, s_sd s + y.toNatClampNeg - 1, x.toNatClampNeg, s_td s, none)])) (s_sd s + y.toNatClampNeg))) else (2, .int 0, s)) else (1, .int 0, s)
set_option maxRecDepth 20000 in
set_option maxHeartbeats 4000000 in
theorem m_buy (g : gl_T) {S : hs_T} {n k m : Nat} {ad : Nat → Nat} {s : st_T} (h : RM S m ad s) {x y : Int32} : ex_M g 1 mX10_buy [.ref m, .int x, .int y] S n k (mp S m ad n k (sp_buy s x y)) := by
  refine ex_enter (by decide +kernel) (Nat.le_of_ble_eq_true rfl) ?_
  show ex_W _ _ _ _ 0 [(0, .ref m), (1, .int x), (2, .int y)] [] _ _ _
  have hB := h.1
  refine ex_aload_n dX10_buy_0 0 rfl ?_
  refine ex_iconst (v := 0) dX10_buy_1 (by decide) ?_
  refine ex_putI dX10_buy_2 fl_X10_80 (pf_X10_80 _) hB.1.1 hB.1.2 ?_
  have h1 := RM_mI h 0 0 (by decide)
  have ht1 : hs_I (hs_sI S m 0 0) m 0 = nI 0 := by rw [mI_mm]; rfl
  have hF1 := MF_mI (MF_rf S m ad) 0 0
  generalize hs_sI S m 0 0 = S1 at h1 ht1 hF1 ⊢
  clear h hB
  obtain ⟨hB, hMS, hMH, hML, hMT, hMR, hMN, hMD, hMW⟩ := id h1
  have hhd : hd_ok s x ↔ (0 ≤ x ∧ x < hs_I S1 m 1) := by rw [hMH.1]
  by_cases hq : hd_ok s x
  · obtain ⟨j, hj, hxj⟩ := hd_of hq hMH.2.1
    have hj6 := hMH.2.1
    have hsd := hMS.2.2.1
    have hcl : x.toNatClampNeg = j := by rw [hxj]; exact nI_clamp (by omega)
    obtain ⟨hdj, hpj, hd1⟩ := hMH.2.2 j (by omega)
    by_cases hdd : (hd_at (s_hs s) j).1 = 1
    · refine ex_aload_n dX10_buy_5 0 rfl ?_
      refine ex_aload_n dX10_buy_6 0 rfl ?_
      refine ex_iload_n dX10_buy_7 1 rfl ?_
      refine ex_cVr [.int x] [.ref m] dX10_buy_8 cV_X10_93 (m_isH1 g hB (hhd.mp hq)) hB.1.1 hB.1.2 rfl rfl rfl (by decide) (Nat.le_of_ble_eq_true rfl) rfl ?_
      refine ex_if_ne (tgt := 18) dX10_buy_11 (by decide) (fun c11 => ?_) (fun c11 => absurd c11 (by decide))
      refine ex_iconst (v := 0) dX10_buy_18 (by decide) ?_
      refine ex_iconst (v := 1) dX10_buy_19 (by decide) ?_
      refine ex_cVr [.int 0, .int 1] [] dX10_buy_20 cV_X10_86 (m_bad0 g hB) hB.1.1 hB.1.2 rfl rfl rfl (by decide) (Nat.le_of_ble_eq_true rfl) rfl ?_
      refine ex_if_ne (tgt := 64) dX10_buy_23 (by decide) (fun c23 => absurd (by decide) c23) (fun c23 => ?_)
      refine ex_aload_n dX10_buy_26 0 rfl ?_
      refine ex_iload_n dX10_buy_27 2 rfl ?_
      refine ex_iconst (v := 1) dX10_buy_28 (by decide) ?_
      refine ex_icmp_lt (tgt := 38) dX10_buy_29 (by decide) (fun c29 => ?_) (fun c29 => ?_)
      · refine ex_iconst (v := 1) dX10_buy_38 (by decide) ?_
        refine ex_goto (tgt := 43) dX10_buy_39 (by decide) ?_
        refine ex_iconst (v := 2) dX10_buy_43 (by decide) ?_
        refine ex_cVr [.int 1, .int 2] [] dX10_buy_44 cV_X10_86 (m_bad1 g hB) hB.1.1 hB.1.2 rfl rfl rfl (by decide) (Nat.le_of_ble_eq_true rfl) rfl ?_
        refine ex_if_ne (tgt := 64) dX10_buy_47 (by decide) (fun c47 => ?_) (fun c47 => absurd c47 (by decide))
        refine ex_iconst (v := 0) dX10_buy_64 (by decide) ?_
        exact ex_irt rfl dX10_buy_65 (mp_i (by unfold sp_buy; rw [if_pos hq, if_neg (fun z => by simp only [i_le, i_lt, Int32.reduceToInt] at *; omega)]) (by rw [mI_mm]; rfl) (RM_mI h1 0 2 (by decide)) (MF_mI hF1 0 2))
      · refine ex_iload_n dX10_buy_32 2 rfl ?_
        refine ex_ldc dX10_buy_33 lc_X10_97 ?_
        refine ex_icmp_le (tgt := 42) dX10_buy_35 (by decide) (fun c35 => ?_) (fun c35 => ?_)
        · refine ex_iconst (v := 0) dX10_buy_42 (by decide) ?_
          refine ex_iconst (v := 2) dX10_buy_43 (by decide) ?_
          refine ex_cVr [.int 0, .int 2] [] dX10_buy_44 cV_X10_86 (m_bad0 g hB) hB.1.1 hB.1.2 rfl rfl rfl (by decide) (Nat.le_of_ble_eq_true rfl) rfl ?_
          refine ex_if_ne (tgt := 64) dX10_buy_47 (by decide) (fun c47 => absurd (by decide) c47) (fun c47 => ?_)
          refine ex_aload_n dX10_buy_50 0 rfl ?_
          refine ex_aload_n dX10_buy_51 0 rfl ?_
          refine ex_getR (b := ad 4) dX10_buy_52 fl_X10_9 hB.1.1 hB.1.2 (mb_4 hB).1 ?_
          refine ex_iload_n dX10_buy_55 1 rfl ?_
          refine ex_zald (j := j) dX10_buy_56 (mb_4 hB).2.1 (mb_4 hB).2.2.1 hxj (Nat.lt_of_lt_of_eq (show j < 60 by omega) (mb_4 hB).2.2.2.symm) (show j < 2 ^ 31 by omega) ?_
          refine ex_iconst (v := 3) dX10_buy_57 (by decide) ?_
          refine ex_cVr [.int (hs_I S1 (ad 4) j), .int 3] [] dX10_buy_58 cV_X10_86 (m_bado g hB (by rw [hdj]; show nI (hd_at (s_hs s) j).1 = 1; rw [hdd]; rfl)) hB.1.1 hB.1.2 rfl rfl rfl (by decide) (Nat.le_of_ble_eq_true rfl) rfl ?_
          refine ex_if_eq (tgt := 66) dX10_buy_61 (by decide) (fun c61 => absurd c61 (by decide)) (fun c61 => ?_)
          refine ex_iconst (v := 0) dX10_buy_64 (by decide) ?_
          exact ex_irt rfl dX10_buy_65 (mp_i (by unfold sp_buy; rw [if_pos hq, if_pos (by constructor <;> simp only [i_le, i_lt, Int32.reduceToInt] at * <;> omega), hcl, if_pos hdd]) (by rw [mI_mm]; rfl) (RM_mI h1 0 3 (by decide)) (MF_mI hF1 0 3))
        · refine ex_iconst (v := 1) dX10_buy_38 (by decide) ?_
          refine ex_goto (tgt := 43) dX10_buy_39 (by decide) ?_
          refine ex_iconst (v := 2) dX10_buy_43 (by decide) ?_
          refine ex_cVr [.int 1, .int 2] [] dX10_buy_44 cV_X10_86 (m_bad1 g hB) hB.1.1 hB.1.2 rfl rfl rfl (by decide) (Nat.le_of_ble_eq_true rfl) rfl ?_
          refine ex_if_ne (tgt := 64) dX10_buy_47 (by decide) (fun c47 => ?_) (fun c47 => absurd c47 (by decide))
          refine ex_iconst (v := 0) dX10_buy_64 (by decide) ?_
          exact ex_irt rfl dX10_buy_65 (mp_i (by unfold sp_buy; rw [if_pos hq, if_neg (fun z => by simp only [i_le, i_lt, Int32.reduceToInt] at *; omega)]) (by rw [mI_mm]; rfl) (RM_mI h1 0 2 (by decide)) (MF_mI hF1 0 2))
    · have hd0 : (hd_at (s_hs s) j).1 = 0 := by have : (hd_at (s_hs s) j).1 ≤ 1 := hd1; omega
      refine ex_aload_n dX10_buy_5 0 rfl ?_
      refine ex_aload_n dX10_buy_6 0 rfl ?_
      refine ex_iload_n dX10_buy_7 1 rfl ?_
      refine ex_cVr [.int x] [.ref m] dX10_buy_8 cV_X10_93 (m_isH1 g hB (hhd.mp hq)) hB.1.1 hB.1.2 rfl rfl rfl (by decide) (Nat.le_of_ble_eq_true rfl) rfl ?_
      refine ex_if_ne (tgt := 18) dX10_buy_11 (by decide) (fun c11 => ?_) (fun c11 => absurd c11 (by decide))
      refine ex_iconst (v := 0) dX10_buy_18 (by decide) ?_
      refine ex_iconst (v := 1) dX10_buy_19 (by decide) ?_
      refine ex_cVr [.int 0, .int 1] [] dX10_buy_20 cV_X10_86 (m_bad0 g hB) hB.1.1 hB.1.2 rfl rfl rfl (by decide) (Nat.le_of_ble_eq_true rfl) rfl ?_
      refine ex_if_ne (tgt := 64) dX10_buy_23 (by decide) (fun c23 => absurd (by decide) c23) (fun c23 => ?_)
      refine ex_aload_n dX10_buy_26 0 rfl ?_
      refine ex_iload_n dX10_buy_27 2 rfl ?_
      refine ex_iconst (v := 1) dX10_buy_28 (by decide) ?_
      refine ex_icmp_lt (tgt := 38) dX10_buy_29 (by decide) (fun c29 => ?_) (fun c29 => ?_)
      · refine ex_iconst (v := 1) dX10_buy_38 (by decide) ?_
        refine ex_goto (tgt := 43) dX10_buy_39 (by decide) ?_
        refine ex_iconst (v := 2) dX10_buy_43 (by decide) ?_
        refine ex_cVr [.int 1, .int 2] [] dX10_buy_44 cV_X10_86 (m_bad1 g hB) hB.1.1 hB.1.2 rfl rfl rfl (by decide) (Nat.le_of_ble_eq_true rfl) rfl ?_
        refine ex_if_ne (tgt := 64) dX10_buy_47 (by decide) (fun c47 => ?_) (fun c47 => absurd c47 (by decide))
        refine ex_iconst (v := 0) dX10_buy_64 (by decide) ?_
        exact ex_irt rfl dX10_buy_65 (mp_i (by unfold sp_buy; rw [if_pos hq, if_neg (fun z => by simp only [i_le, i_lt, Int32.reduceToInt] at *; omega)]) (by rw [mI_mm]; rfl) (RM_mI h1 0 2 (by decide)) (MF_mI hF1 0 2))
      · refine ex_iload_n dX10_buy_32 2 rfl ?_
        refine ex_ldc dX10_buy_33 lc_X10_97 ?_
        refine ex_icmp_le (tgt := 42) dX10_buy_35 (by decide) (fun c35 => ?_) (fun c35 => ?_)
        · refine ex_iconst (v := 0) dX10_buy_42 (by decide) ?_
          refine ex_iconst (v := 2) dX10_buy_43 (by decide) ?_
          refine ex_cVr [.int 0, .int 2] [] dX10_buy_44 cV_X10_86 (m_bad0 g hB) hB.1.1 hB.1.2 rfl rfl rfl (by decide) (Nat.le_of_ble_eq_true rfl) rfl ?_
          refine ex_if_ne (tgt := 64) dX10_buy_47 (by decide) (fun c47 => absurd (by decide) c47) (fun c47 => ?_)
          refine ex_aload_n dX10_buy_50 0 rfl ?_
          refine ex_aload_n dX10_buy_51 0 rfl ?_
          refine ex_getR (b := ad 4) dX10_buy_52 fl_X10_9 hB.1.1 hB.1.2 (mb_4 hB).1 ?_
          refine ex_iload_n dX10_buy_55 1 rfl ?_
          refine ex_zald (j := j) dX10_buy_56 (mb_4 hB).2.1 (mb_4 hB).2.2.1 hxj (Nat.lt_of_lt_of_eq (show j < 60 by omega) (mb_4 hB).2.2.2.symm) (show j < 2 ^ 31 by omega) ?_
          refine ex_iconst (v := 3) dX10_buy_57 (by decide) ?_
          refine ex_cVr [.int (hs_I S1 (ad 4) j), .int 3] [] dX10_buy_58 cV_X10_86 (m_badz g hB (by rw [hdj]; show nI (hd_at (s_hs s) j).1 = 0; rw [hd0]; rfl)) hB.1.1 hB.1.2 rfl rfl rfl (by decide) (Nat.le_of_ble_eq_true rfl) rfl ?_
          refine ex_if_eq (tgt := 66) dX10_buy_61 (by decide) (fun c61 => ?_) (fun c61 => absurd (by decide) c61)
          have hyy : 1 ≤ y ∧ y ≤ 10000000 := (by constructor <;> simp only [i_le, i_lt, Int32.reduceToInt] at * <;> omega)
          obtain ⟨b, hb, hyb⟩ := nI_of2 (x := y) (M := 10000000) (n := 10000000) (by decide) (by have := hyy.1; simp only [i_le, i_lt, Int32.reduceToInt] at *; omega) hyy.2
          have hyc : y.toNatClampNeg = b := by rw [hyb]; exact nI_clamp (by omega)
          have hb1 : 1 ≤ b := (nI_leI (a := 1) (by decide) (by omega)).mp (hyb ▸ hyy.1)
          have e3 : hs_I S1 m 3 = nI (s_sd s) := hMS.1.2.1
          have hsum : hs_I S1 m 3 + y = nI (s_sd s + b) := by rw [e3, hyb]; exact nI_add _ _
          refine ex_aload_n dX10_buy_66 0 rfl ?_
          refine ex_getI dX10_buy_67 fl_X10_98 hB.1.1 hB.1.2 ?_
          refine ex_iload_n dX10_buy_70 2 rfl ?_
          refine ex_iadd dX10_buy_71 ?_
          refine ex_ldc dX10_buy_72 lc_X10_101 ?_
          refine ex_icmp_le (tgt := 79) dX10_buy_74 (by decide) (fun c74 => ?_) (fun c74 => ?_)
          · have hle : s_sd s + b ≤ 1000000000 := (nI_leI (b := 1000000000) (by omega) (by decide)).mp (hsum ▸ c74)
            refine ex_aload_n dX10_buy_79 0 rfl ?_
            refine ex_getI dX10_buy_80 fl_X10_90 hB.1.1 hB.1.2 ?_
            refine ex_sipush (v := 1500) dX10_buy_83 (by decide) ?_
            refine ex_icmp_ne (tgt := 92) dX10_buy_86 (by decide) (fun c86 => ?_) (fun c86 => ?_)
            · have hl5 : (s_ls s).length < 1500 := by have h15 := hML.2.1; have : (s_ls s).length ≠ 1500 := fun z => c86 (by rw [hML.1, z]; rfl); omega
              refine ex_aload_n dX10_buy_92 0 rfl ?_
              refine ex_aload_n dX10_buy_93 0 rfl ?_
              refine ex_getI dX10_buy_94 fl_X10_98 hB.1.1 hB.1.2 ?_
              refine ex_aload_n dX10_buy_97 0 rfl ?_
              refine ex_getI dX10_buy_98 fl_X10_98 hB.1.1 hB.1.2 ?_
              refine ex_iload_n dX10_buy_101 2 rfl ?_
              refine ex_iadd dX10_buy_102 ?_
              refine ex_iconst (v := 1) dX10_buy_103 (by decide) ?_
              refine ex_isub dX10_buy_104 ?_
              refine ex_iload_n dX10_buy_105 1 rfl ?_
              refine ex_aload_n dX10_buy_106 0 rfl ?_
              refine ex_getI dX10_buy_107 fl_X10_102 hB.1.1 hB.1.2 ?_
              refine ex_cVv [.int (hs_I S1 m 3), .int (((hs_I S1 m 3) + y) - 1), .int x, .int (hs_I S1 m 2)] [] dX10_buy_110 cV_X10_105 (m_adds g hB hML.1 hl5) hB.1.1 hB.1.2 rfl rfl rfl (by decide) (Nat.le_of_ble_eq_true rfl) rfl ?_
              refine ex_aload_n dX10_buy_113 0 rfl ?_
              refine ex_dup dX10_buy_114 rfl ?_
              refine ex_getI dX10_buy_115 fl_X10_98 hB.1.1 hB.1.2 ?_
              refine ex_iload_n dX10_buy_118 2 rfl ?_
              refine ex_iadd dX10_buy_119 ?_
              refine ex_putI dX10_buy_120 fl_X10_98 (pf_X10_98 _) hB.1.1 hB.1.2 ?_
              refine ex_aload_n dX10_buy_123 0 rfl ?_
              refine ex_getI dX10_buy_124 fl_X10_98 hB.1.1 hB.1.2 ?_
              refine ex_iload_n dX10_buy_127 2 rfl ?_
              refine ex_isub dX10_buy_128 ?_
              exact ex_irt rfl dX10_buy_129 (mp_i (c := 0) (s' := w_sd (w_ls s (s_ls s ++ [(s_sd s, s_sd s + b - 1, j, s_td s, none)])) (s_sd s + b)) (by unfold sp_buy; rw [if_pos hq, if_pos hyy, hcl, if_neg hdd, hyc, if_neg (by omega), if_neg (by omega), mI_mm, if_pos rfl, ads_m hB.2.2 (by decide), hsum]; rw [hyb, pk_sub (by omega), Nat.add_sub_cancel]) (by rw [mI_mm, if_neg (by decide), ads_m hB.2.2 (by decide)]; exact ht1) (RM_sd (RM_ads h1 hl5 ⟨by show s_sd s ≤ s_sd s + b - 1; omega, by show s_sd s + b - 1 < 1000000000; omega, by show j < 60; omega, hMS.2.1, fun d hd => by cases hd⟩ e3 (by rw [hsum]; exact pk_sub (b := 1) (by omega)) hxj hMS.1.1) (by rw [ads_m hB.2.2 (by decide), hsum]) hle) (MF_mI (MF_ads hF1 _ _ _ _ _) 3 _))
            · refine ex_bipush (v := (-2)) dX10_buy_89 (by decide) ?_
              exact ex_irt rfl dX10_buy_91 (mp_i (c := 0) (s' := s) (by unfold sp_buy; rw [if_pos hq, if_pos hyy, hcl, if_neg hdd, hyc, if_neg (by omega), if_pos (by have := hML.2.1; exact (nI_eq (by omega) (by decide)).mp (hML.1.symm.trans c86))]) ht1 h1 hF1)
          · refine ex_iconst (v := (-1)) dX10_buy_77 (by decide) ?_
            exact ex_irt rfl dX10_buy_78 (mp_i (c := 0) (s' := s) (by unfold sp_buy; rw [if_pos hq, if_pos hyy, hcl, if_neg hdd, hyc, if_pos (Nat.lt_of_not_le (fun q => c74 (hsum ▸ nI_le q (by decide))))]) ht1 h1 hF1)
        · refine ex_iconst (v := 1) dX10_buy_38 (by decide) ?_
          refine ex_goto (tgt := 43) dX10_buy_39 (by decide) ?_
          refine ex_iconst (v := 2) dX10_buy_43 (by decide) ?_
          refine ex_cVr [.int 1, .int 2] [] dX10_buy_44 cV_X10_86 (m_bad1 g hB) hB.1.1 hB.1.2 rfl rfl rfl (by decide) (Nat.le_of_ble_eq_true rfl) rfl ?_
          refine ex_if_ne (tgt := 64) dX10_buy_47 (by decide) (fun c47 => ?_) (fun c47 => absurd c47 (by decide))
          refine ex_iconst (v := 0) dX10_buy_64 (by decide) ?_
          exact ex_irt rfl dX10_buy_65 (mp_i (by unfold sp_buy; rw [if_pos hq, if_neg (fun z => by simp only [i_le, i_lt, Int32.reduceToInt] at *; omega)]) (by rw [mI_mm]; rfl) (RM_mI h1 0 2 (by decide)) (MF_mI hF1 0 2))
  · refine ex_aload_n dX10_buy_5 0 rfl ?_
    refine ex_aload_n dX10_buy_6 0 rfl ?_
    refine ex_iload_n dX10_buy_7 1 rfl ?_
    refine ex_cVr [.int x] [.ref m] dX10_buy_8 cV_X10_93 (m_isH0 g hB (fun z => hq (hhd.mpr z))) hB.1.1 hB.1.2 rfl rfl rfl (by decide) (Nat.le_of_ble_eq_true rfl) rfl ?_
    refine ex_if_ne (tgt := 18) dX10_buy_11 (by decide) (fun c11 => absurd (by decide) c11) (fun c11 => ?_)
    refine ex_iconst (v := 1) dX10_buy_14 (by decide) ?_
    refine ex_goto (tgt := 19) dX10_buy_15 (by decide) ?_
    refine ex_iconst (v := 1) dX10_buy_19 (by decide) ?_
    refine ex_cVr [.int 1, .int 1] [] dX10_buy_20 cV_X10_86 (m_bad1 g hB) hB.1.1 hB.1.2 rfl rfl rfl (by decide) (Nat.le_of_ble_eq_true rfl) rfl ?_
    refine ex_if_ne (tgt := 64) dX10_buy_23 (by decide) (fun c23 => ?_) (fun c23 => absurd c23 (by decide))
    refine ex_iconst (v := 0) dX10_buy_64 (by decide) ?_
    exact ex_irt rfl dX10_buy_65 (mp_i (by unfold sp_buy; rw [if_neg hq]) (by rw [mI_mm]; rfl) (RM_mI h1 0 1 (by decide)) (MF_mI hF1 0 1))
