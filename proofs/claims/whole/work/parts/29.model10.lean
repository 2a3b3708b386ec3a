theorem lc_all {l : li_T} (h : ln_ok l) (td t : Nat) : lc 0 1000000000 td (some t) l = [(l.1, l.2.1, t, td, none)] := by
  have h2 := h.2.1
  unfold lc lc1 lc2 lc3
  rw [if_neg (by omega), if_neg (by omega), Nat.max_eq_left (by omega), Nat.min_eq_left (by omega)]
  rfl
theorem hit_all {l : li_T} (h : ln_ok l) (h0 : Nat) : ln_hit h0 0 1000000000 l ↔ l.2.2.2.2 = none ∧ l.2.2.1 = h0 := ⟨fun z => z.1, fun z => ⟨z, by have := h.1; have := h.2.1; omega, by omega⟩⟩
abbrev wi_hit (h : Nat) (w : wi_T) : Prop := w.2.2.2.2.2 = 0 ∧ w.2.2.2.1 = h
/-- open wins of one who died are the heir's -/
def dw (h t : Nat) (ws : List wi_T) : Nat → List wi_T
  | 0 => ws
  | i + 1 => if wi_hit h (wi_at ws i) then (dw h t ws i).set i (wi_ho (wi_at ws i) t) else dw h t ws i
theorem dw_len (h t : Nat) (ws : List wi_T) : ∀ i, (dw h t ws i).length = ws.length
  | 0 => rfl
  | i + 1 => by
    unfold dw
    split
    · rw [List.length_set]; exact dw_len h t ws i
    · exact dw_len h t ws i
theorem dw_at (h t : Nat) (ws : List wi_T) : ∀ i j, i ≤ j → wi_at (dw h t ws i) j = wi_at ws j
  | 0, _, _ => rfl
  | i + 1, j, hij => by
    have ih := dw_at h t ws i j (by omega)
    unfold dw
    split
    · rw [← ih]
      unfold wi_at
      rw [List.getD_eq_getElem?_getD, List.getElem?_set, if_neg (by omega)]
      exact (List.getD_eq_getElem?_getD ..).symm
    · exact ih
noncomputable def sp_died (s : st_T) (x y : Int32) : Nat × Value × st_T := if hd_ok s x ∧ hd_ok s y then (if x = y then (2, .int 0, s) else if (hd_at (s_hs s) x.toNatClampNeg).1 = 1 ∨ (hd_at (s_hs s) y.toNatClampNeg).1 = 1 then (3, .int 0, s) else if 1500 < (s_ls s).length + gm x.toNatClampNeg 0 1000000000 (s_td s) (some y.toNatClampNeg) (s_ls s) (s_ls s).length then (0, .int (-2), s) else (0, .int (nI (gm x.toNatClampNeg 0 1000000000 (s_td s) (some y.toNatClampNeg) (s_ls s) (s_ls s).length)), w_hs (w_ws (w_ls s (gs x.toNatClampNeg 0 1000000000 (s_td s) (some y.toNatClampNeg) (s_ls s) (s_ls s).length)) (dw x.toNatClampNeg y.toNatClampNeg (s_ws s) (s_ws s).length)) ((s_hs s).set x.toNatClampNeg (1, (hd_at (s_hs s) x.toNatClampNeg).2)))) else (1, .int 0, s)
set_option maxRecDepth 20000 in
set_option maxHeartbeats 2000000 in
theorem m_died_c {S1 : hs_T} {g : gl_T} {n k m j t0 : Nat} {ad : Nat → Nat} {s : st_T} {Po : ex_R} {x y xn : Int32} (hxj : x = nI j) (hyt : y = nI t0) (hj6 : j < 60) (ht6 : t0 < 60) (h1 : RM S1 m ad s) (hxn : xn = nI (s_ls s).length) (kk : ∀ w v, v = nI (gm j 0 1000000000 (s_td s) (some t0) (s_ls s) (s_ls s).length) → ex_W g 2 mX10_died Po 128 [(5, .int w), (4, .int v), (3, .int xn), (0, .ref m), (1, .int x), (2, .int y)] [] S1 n k) : ∀ t i v, i ≤ (s_ls s).length → (s_ls s).length < i + t → v = nI (gm j 0 1000000000 (s_td s) (some t0) (s_ls s) i) → ex_W g 2 mX10_died Po 96 [(5, .int (nI i)), (4, .int v), (3, .int xn), (0, .ref m), (1, .int x), (2, .int y)] [] S1 n k := by
  obtain ⟨hB, hMS, hMH, hML, hMT, hMR, hMN, hMD, hMW⟩ := id h1
  have hl := hML.2.1
  intro t
  induction t with
  | zero => intro i v h1 h2; exact absurd h2 (by omega)
  | succ t ih =>
    intro i v hi1 hi2 hv
    refine ex_iload dX10_died_96 0 rfl ?_
    refine ex_iload_n dX10_died_98 2 rfl ?_
    refine ex_icmp_ge (tgt := 128) dX10_died_99 (by decide) (fun c99 => ?_) (fun c99 => ?_)
    · have hil : i = (s_ls s).length := by have := (nI_leI (by omega) (by omega)).mp (hxn ▸ c99); omega
      exact kk _ _ (hil ▸ hv)
    · have hil : i < (s_ls s).length := by
        rcases Nat.lt_or_ge i (s_ls s).length with q | q
        · exact q
        · exact absurd (by rw [hxn]; exact nI_le q (by omega)) c99
      obtain ⟨hok, h6, h7, h8, h9, h10⟩ := hML.2.2 i hil
      change ln_ok (ln_at (s_ls s) i) at hok
      change hs_I S1 (ad 6) i = nI (ln_at (s_ls s) i).1 at h6
      change hs_I S1 (ad 7) i = nI (ln_at (s_ls s) i).2.1 at h7
      change hs_I S1 (ad 8) i = nI (ln_at (s_ls s) i).2.2.1 at h8
      change hs_I S1 (ad 10) i = eN (ln_at (s_ls s) i).2.2.2.2 at h10
      have hh7 : hs_I S1 (ad 10) i = -1 ∧ hs_I S1 (ad 8) i = x ↔ (ln_at (s_ls s) i).2.2.2.2 = none ∧ (ln_at (s_ls s) i).2.2.1 = j := by
        constructor
        · rintro ⟨z1, z2⟩
          exact ⟨(eN_m1 hok.2.2.2.2).mp (h10.symm.trans z1), (nI_eq (by have := hok.2.2.1; omega) (by omega)).mp (h8.symm.trans (z2.trans hxj))⟩
        · rintro ⟨z1, z2⟩
          exact ⟨h10.trans ((eN_m1 hok.2.2.2.2).mpr z1), by rw [h8, z2, hxj]⟩
      refine ex_iload dX10_died_102 1 rfl ?_
      refine ex_aload_n dX10_died_104 3 rfl ?_
      refine ex_iload dX10_died_105 0 rfl ?_
      refine ex_iload_n dX10_died_107 4 rfl ?_
      refine ex_cVr [.int (nI i), .int x] [.int v] dX10_died_108 cV_X10_109 (m_goesOn g hB rfl (by omega)) hB.1.1 hB.1.2 rfl rfl rfl (by decide) (Nat.le_of_ble_eq_true rfl) rfl ?_
      refine ex_if_eq (tgt := 118) dX10_died_111 (by decide) (fun c111 => ?_) (fun c111 => ?_)
      · refine ex_iconst (v := 0) dX10_died_118 (by decide) ?_
        refine ex_iadd dX10_died_119 ?_
        refine ex_istore [(4, .int (v + 0)), (5, .int (nI i)), (3, .int xn), (0, .ref m), (1, .int x), (2, .int y)] dX10_died_120 (by decide) rfl ?_
        refine ex_iinc (v := nI (i + 1)) 1 [(5, .int (nI (i + 1))), (4, .int (v + 0)), (3, .int xn), (0, .ref m), (1, .int x), (2, .int y)] dX10_died_122 rfl (nI_1 i) (by decide) rfl ?_
        refine ex_goto (tgt := 96) dX10_died_125 (by decide) ?_
        have hnh : ¬ ln_hit j 0 1000000000 (ln_at (s_ls s) i) := fun z => by
          rw [if_pos (hh7.mpr z.1)] at c111; exact absurd c111 (by decide)
        refine ex_lv [0, 1, 2, 3, 4, 5] rfl ?_
        refine ih (i + 1) _ (by omega) (by omega) ?_
        rw [gm_1, hv]
        rw [if_neg hnh]; exact nI_add _ 0
      · refine ex_iconst (v := 1) dX10_died_114 (by decide) ?_
        refine ex_goto (tgt := 119) dX10_died_115 (by decide) ?_
        refine ex_iadd dX10_died_119 ?_
        refine ex_istore [(4, .int (v + 1)), (5, .int (nI i)), (3, .int xn), (0, .ref m), (1, .int x), (2, .int y)] dX10_died_120 (by decide) rfl ?_
        refine ex_iinc (v := nI (i + 1)) 1 [(5, .int (nI (i + 1))), (4, .int (v + 1)), (3, .int xn), (0, .ref m), (1, .int x), (2, .int y)] dX10_died_122 rfl (nI_1 i) (by decide) rfl ?_
        refine ex_goto (tgt := 96) dX10_died_125 (by decide) ?_
        have hht : ln_hit j 0 1000000000 (ln_at (s_ls s) i) := by
          refine (hit_all hok j).mpr ?_
          by_cases z : hs_I S1 (ad 10) i = -1 ∧ hs_I S1 (ad 8) i = x
          · exact hh7.mp z
          · rw [if_neg z] at c111; exact absurd rfl c111
        refine ex_lv [0, 1, 2, 3, 4, 5] rfl ?_
        refine ih (i + 1) _ (by omega) (by omega) ?_
        rw [gm_1, hv]
        rw [if_pos hht, lc_all hok]; exact nI_1 _
set_option maxRecDepth 20000 in
set_option maxHeartbeats 2000000 in
theorem m_died_l {S : hs_T} {g : gl_T} {n k m j t0 : Nat} {ad : Nat → Nat} {s : st_T} {Po : ex_R} {x y xn : Int32} (hxj : x = nI j) (hyt : y = nI t0) (hj6 : j < 60) (ht6 : t0 < 60) {v : Int32} (hxn : xn = nI (s_ls s).length) (hl : (s_ls s).length + gm j 0 1000000000 (s_td s) (some t0) (s_ls s) (s_ls s).length ≤ 1500) (kk : ∀ w S1, RM S1 m ad (w_ls s (gs j 0 1000000000 (s_td s) (some t0) (s_ls s) (s_ls s).length)) → MF S S1 m ad → hs_I S1 m 0 = hs_I S m 0 → ex_W g 2 mX10_died Po 203 [(5, .int w), (4, .int v), (3, .int xn), (0, .ref m), (1, .int x), (2, .int y)] [] S1 n k) : ∀ t i S1, i ≤ (s_ls s).length → (s_ls s).length < i + t → RM S1 m ad (w_ls s (gs j 0 1000000000 (s_td s) (some t0) (s_ls s) i)) → MF S S1 m ad → hs_I S1 m 0 = hs_I S m 0 → ex_W g 2 mX10_died Po 144 [(5, .int (nI i)), (4, .int v), (3, .int xn), (0, .ref m), (1, .int x), (2, .int y)] [] S1 n k := by
  intro t
  induction t with
  | zero => intro i S1 h1 h2; exact absurd h2 (by omega)
  | succ t ih =>
    intro i S1 hi1 hi2 h1 hF1 ht1
    obtain ⟨hB, hMS, hMH, hML, hMT, hMR, hMN, hMD, hMW⟩ := id h1
    refine ex_iload dX10_died_144 0 rfl ?_
    refine ex_iload_n dX10_died_146 2 rfl ?_
    refine ex_icmp_ge (tgt := 203) dX10_died_147 (by decide) (fun c147 => ?_) (fun c147 => ?_)
    · have hil : i = (s_ls s).length := by have := (nI_leI (by omega) (by omega)).mp (hxn ▸ c147); omega
      exact kk _ S1 (hil ▸ h1) hF1 ht1
    · have hil : i < (s_ls s).length := by
        rcases Nat.lt_or_ge i (s_ls s).length with q | q
        · exact q
        · exact absurd (by rw [hxn]; exact nI_le q (by omega)) c147
      obtain ⟨hok, h6, h7, h8, h9, h10⟩ := hML.2.2 i (show i < (gs j 0 1000000000 (s_td s) (some t0) (s_ls s) i).length by rw [gs_len]; omega)
      change ln_ok (ln_at (gs j 0 1000000000 (s_td s) (some t0) (s_ls s) i) i) at hok
      change hs_I S1 (ad 6) i = nI (ln_at (gs j 0 1000000000 (s_td s) (some t0) (s_ls s) i) i).1 at h6
      change hs_I S1 (ad 7) i = nI (ln_at (gs j 0 1000000000 (s_td s) (some t0) (s_ls s) i) i).2.1 at h7
      change hs_I S1 (ad 8) i = nI (ln_at (gs j 0 1000000000 (s_td s) (some t0) (s_ls s) i) i).2.2.1 at h8
      change hs_I S1 (ad 10) i = eN (ln_at (gs j 0 1000000000 (s_td s) (some t0) (s_ls s) i) i).2.2.2.2 at h10
      have hgi : ln_at (gs j 0 1000000000 (s_td s) (some t0) (s_ls s) i) i = ln_at (s_ls s) i := gs_at _ _ _ _ _ _ i i (Nat.le_refl _) hil
      have hiL : i < (gs j 0 1000000000 (s_td s) (some t0) (s_ls s) i).length := by rw [gs_len]; omega
      rw [hgi] at hok h6 h7 h8 h10
      have hh7 : hs_I S1 (ad 10) i = -1 ∧ hs_I S1 (ad 8) i = x ↔ (ln_at (s_ls s) i).2.2.2.2 = none ∧ (ln_at (s_ls s) i).2.2.1 = j := by
        constructor
        · rintro ⟨z1, z2⟩
          exact ⟨(eN_m1 hok.2.2.2.2).mp (h10.symm.trans z1), (nI_eq (by have := hok.2.2.1; omega) (by omega)).mp (h8.symm.trans (z2.trans hxj))⟩
        · rintro ⟨z1, z2⟩
          exact ⟨h10.trans ((eN_m1 hok.2.2.2.2).mpr z1), by rw [h8, z2, hxj]⟩
      refine ex_aload_n dX10_died_150 3 rfl ?_
      refine ex_iload dX10_died_151 0 rfl ?_
      refine ex_iload_n dX10_died_153 4 rfl ?_
      refine ex_cVr [.int (nI i), .int x] [] dX10_died_154 cV_X10_109 (m_goesOn g hB rfl (by omega)) hB.1.1 hB.1.2 rfl rfl rfl (by decide) (Nat.le_of_ble_eq_true rfl) rfl ?_
      refine ex_if_ne (tgt := 163) dX10_died_157 (by decide) (fun c157 => ?_) (fun c157 => ?_)
      · refine ex_aload_n dX10_died_163 3 rfl ?_
        refine ex_getR (b := ad 10) dX10_died_164 fl_X10_30 hB.1.1 hB.1.2 (mb_10 hB).1 ?_
        refine ex_iload dX10_died_167 0 rfl ?_
        refine ex_aload_n dX10_died_169 3 rfl ?_
        refine ex_getI dX10_died_170 fl_X10_102 hB.1.1 hB.1.2 ?_
        refine ex_iast (j := i) dX10_died_173 (mb_10 hB).2.1 (mb_10 hB).2.2.1 rfl (Nat.lt_of_lt_of_eq (show i < 1500 by omega) (mb_10 hB).2.2.2.symm) (show i < 2 ^ 31 by omega) ?_
        have hht : ln_hit j 0 1000000000 (ln_at (s_ls s) i) := by
          refine (hit_all hok j).mpr ?_
          by_cases z : hs_I S1 (ad 10) i = -1 ∧ hs_I S1 (ad 8) i = x
          · exact hh7.mp z
          · rw [if_neg z] at c157; exact absurd rfl c157
        have hE := RM_end (s := w_ls s (gs j 0 1000000000 (s_td s) (some t0) (s_ls s) i)) h1 hiL (v := hs_I S1 m 2) hMS.1.1
        change RM _ m ad (w_ls s ((gs j 0 1000000000 (s_td s) (some t0) (s_ls s) i).set i (ln_end (ln_at (gs j 0 1000000000 (s_td s) (some t0) (s_ls s) i) i) (s_td s)))) at hE
        rw [hgi] at hE
        have hEF := MF_aI hF1 10 (by decide) i (hs_I S1 m 2)
        have hEt : hs_I (hs_sI S1 (ad 10) i (hs_I S1 m 2)) m 0 = hs_I S m 0 := by rw [mI_sa hB.2.2]; exact ht1
        have e6 : hs_I (hs_sI S1 (ad 10) i (hs_I S1 m 2)) (ad 6) i = nI (ln_at (s_ls s) i).1 := by rw [mI_aa hB.2.2, if_neg (by simp)]; exact h6
        have e7 : hs_I (hs_sI S1 (ad 10) i (hs_I S1 m 2)) (ad 7) i = nI (ln_at (s_ls s) i).2.1 := by rw [mI_aa hB.2.2, if_neg (by simp)]; exact h7
        generalize hs_sI S1 (ad 10) i (hs_I S1 m 2) = S2 at hE hEF hEt e6 e7 ⊢
        have hLe : ((gs j 0 1000000000 (s_td s) (some t0) (s_ls s) i).set i (ln_end (ln_at (s_ls s) i) (s_td s))).length = (s_ls s).length + gm j 0 1000000000 (s_td s) (some t0) (s_ls s) i := by rw [List.length_set, gs_len]
        have hgm := gm_1 j 0 1000000000 (s_td s) (some t0) (s_ls s) i
        rw [if_pos hht, lc_all hok] at hgm
        change gm j 0 1000000000 (s_td s) (some t0) (s_ls s) (i + 1) = gm j 0 1000000000 (s_td s) (some t0) (s_ls s) i + 1 at hgm
        have hgm2 := su_mono (f := fun q => if ln_hit j 0 1000000000 (ln_at (s_ls s) q) then (lc 0 1000000000 (s_td s) (some t0) (ln_at (s_ls s) q)).length else 0) (show i + 1 ≤ (s_ls s).length from hil)
        change gm j 0 1000000000 (s_td s) (some t0) (s_ls s) (i + 1) ≤ gm j 0 1000000000 (s_td s) (some t0) (s_ls s) (s_ls s).length at hgm2
        have hg1 : gs j 0 1000000000 (s_td s) (some t0) (s_ls s) (i + 1) = (gs j 0 1000000000 (s_td s) (some t0) (s_ls s) i).set i (ln_end (ln_at (s_ls s) i) (s_td s)) ++ [((ln_at (s_ls s) i).1, (ln_at (s_ls s) i).2.1, t0, s_td s, none)] := by rw [gs, if_pos hht, lc_all hok]
        generalize (gs j 0 1000000000 (s_td s) (some t0) (s_ls s) i).set i (ln_end (ln_at (s_ls s) i) (s_td s)) = L at hE hLe hg1
        have hB := hE.1
        have hlt : L.length < 1500 := by omega
        refine ex_aload_n dX10_died_174 3 rfl ?_
        refine ex_aload_n dX10_died_175 3 rfl ?_
        refine ex_getR (b := ad 6) dX10_died_176 fl_X10_17 hB.1.1 hB.1.2 (mb_6 hB).1 ?_
        refine ex_iload dX10_died_179 0 rfl ?_
        refine ex_iald (j := i) dX10_died_181 (mb_6 hB).2.1 (mb_6 hB).2.2.1 rfl (Nat.lt_of_lt_of_eq (show i < 1500 by omega) (mb_6 hB).2.2.2.symm) (show i < 2 ^ 31 by omega) ?_
        refine ex_aload_n dX10_died_182 3 rfl ?_
        refine ex_getR (b := ad 7) dX10_died_183 fl_X10_21 hB.1.1 hB.1.2 (mb_7 hB).1 ?_
        refine ex_iload dX10_died_186 0 rfl ?_
        refine ex_iald (j := i) dX10_died_188 (mb_7 hB).2.1 (mb_7 hB).2.2.1 rfl (Nat.lt_of_lt_of_eq (show i < 1500 by omega) (mb_7 hB).2.2.2.symm) (show i < 2 ^ 31 by omega) ?_
        refine ex_iload_n dX10_died_189 5 rfl ?_
        refine ex_aload_n dX10_died_190 3 rfl ?_
        refine ex_getI dX10_died_191 fl_X10_102 hB.1.1 hB.1.2 ?_
        refine ex_cVv [.int (hs_I S2 (ad 6) i), .int (hs_I S2 (ad 7) i), .int y, .int (hs_I S2 m 2)] [] dX10_died_194 cV_X10_105 (m_adds g hB hE.2.2.2.1.1 hlt) hB.1.1 hB.1.2 rfl rfl rfl (by decide) (Nat.le_of_ble_eq_true rfl) rfl ?_
        refine ex_iinc (v := nI (i + 1)) 0 [(5, .int (nI (i + 1))), (4, .int v), (3, .int xn), (0, .ref m), (1, .int x), (2, .int y)] dX10_died_197 rfl (nI_1 i) (by decide) rfl ?_
        refine ex_goto (tgt := 144) dX10_died_200 (by decide) ?_
        refine ex_lv [0, 1, 2, 3, 4, 5] rfl ?_
        refine ih (i + 1) _ (by omega) (by omega) ?_ (MF_ads hEF _ _ _ _ _) ((ads_m hB.2.2 (by decide) _ _ _ _).trans hEt)
        rw [hg1]
        exact RM_ads (s := w_ls s L) hE hlt ⟨hok.1, hok.2.1, ht6, hMS.2.1, fun d hd => by cases hd⟩ e6 e7 hyt hE.2.1.1.1
      · refine ex_goto (tgt := 197) dX10_died_160 (by decide) ?_
        refine ex_iinc (v := nI (i + 1)) 0 [(5, .int (nI (i + 1))), (4, .int v), (3, .int xn), (0, .ref m), (1, .int x), (2, .int y)] dX10_died_197 rfl (nI_1 i) (by decide) rfl ?_
        refine ex_goto (tgt := 144) dX10_died_200 (by decide) ?_
        have hnh : ¬ ln_hit j 0 1000000000 (ln_at (s_ls s) i) := fun z => by
          rw [if_pos (hh7.mpr z.1)] at c157; exact absurd c157 (by decide)
        refine ex_lv [0, 1, 2, 3, 4, 5] rfl ?_
        exact ih (i + 1) S1 (by omega) (by omega) (by rw [gs, if_neg hnh]; exact h1) hF1 ht1
