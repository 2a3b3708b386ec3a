set_option maxRecDepth 20000 in
set_option maxHeartbeats 2000000 in
theorem m_isWin1 (g : gl_T) {S : hs_T} {n k : Nat} {m : Nat} {ad : Nat → Nat} {ws : List wi_T} (hB : MB S m ad) (hMW : MW S m ad ws) {x : Int32} (hx : ix_ok x ws.length) : ex_M g 0 mX10_isWin [.ref m, .int x] S n k (ex_rt (some (.int 1)) (hs_sI S m 0 0) n k) := by
  refine ex_enter (by decide +kernel) (Nat.le_of_ble_eq_true rfl) ?_
  show ex_W _ _ _ _ 0 [(0, .ref m), (1, .int x)] [] _ _ _
  refine ex_aload_n dX10_isWin_0 0 rfl ?_
  refine ex_iload_n dX10_isWin_1 1 rfl ?_
  refine ex_if_lt (tgt := 13) dX10_isWin_2 (by decide) (fun c2 => absurd c2 (by have := hx.1; simp only [i_le, i_lt, Int32.reduceToInt] at *; omega)) (fun c2 => ?_)
  refine ex_iload_n dX10_isWin_5 1 rfl ?_
  refine ex_aload_n dX10_isWin_6 0 rfl ?_
  refine ex_getI dX10_isWin_7 fl_X10_121 hB.1.1 hB.1.2 ?_
  refine ex_icmp_lt (tgt := 17) dX10_isWin_10 (by decide) (fun c10 => ?_) (fun c10 => absurd (hMW.1 ▸ hx.2) c10)
  refine ex_iconst (v := 0) dX10_isWin_17 (by decide) ?_
  refine ex_putI dX10_isWin_18 fl_X10_80 (pf_X10_80 _) hB.1.1 hB.1.2 ?_
  refine ex_aload_n dX10_isWin_21 0 rfl ?_
  refine ex_getI dX10_isWin_22 fl_X10_80 hB.1.1 hB.1.2 ?_
  refine ex_if_ne (tgt := 32) dX10_isWin_25 (by decide) (fun c25 => absurd (by rw [mI_mm]; rfl) c25) (fun c25 => ?_)
  refine ex_iconst (v := 1) dX10_isWin_28 (by decide) ?_
  refine ex_goto (tgt := 33) dX10_isWin_29 (by decide) ?_
  exact ex_bret rfl (by decide) dX10_isWin_33 ex_rt_i
set_option maxRecDepth 20000 in
set_option maxHeartbeats 2000000 in
theorem m_isWin0 (g : gl_T) {S : hs_T} {n k : Nat} {m : Nat} {ad : Nat → Nat} {ws : List wi_T} (hB : MB S m ad) (hMW : MW S m ad ws) {x : Int32} (hx : ¬ ix_ok x ws.length) : ex_M g 0 mX10_isWin [.ref m, .int x] S n k (ex_rt (some (.int 0)) (hs_sI S m 0 1) n k) := by
  refine ex_enter (by decide +kernel) (Nat.le_of_ble_eq_true rfl) ?_
  show ex_W _ _ _ _ 0 [(0, .ref m), (1, .int x)] [] _ _ _
  refine ex_aload_n dX10_isWin_0 0 rfl ?_
  refine ex_iload_n dX10_isWin_1 1 rfl ?_
  refine ex_if_lt (tgt := 13) dX10_isWin_2 (by decide) (fun c2 => ?_) (fun c2 => ?_)
  · refine ex_iconst (v := 1) dX10_isWin_13 (by decide) ?_
    refine ex_goto (tgt := 18) dX10_isWin_14 (by decide) ?_
    refine ex_putI dX10_isWin_18 fl_X10_80 (pf_X10_80 _) hB.1.1 hB.1.2 ?_
    refine ex_aload_n dX10_isWin_21 0 rfl ?_
    refine ex_getI dX10_isWin_22 fl_X10_80 hB.1.1 hB.1.2 ?_
    refine ex_if_ne (tgt := 32) dX10_isWin_25 (by decide) (fun c25 => ?_) (fun c25 => absurd c25 (by rw [mI_mm, if_pos rfl]; decide))
    refine ex_iconst (v := 0) dX10_isWin_32 (by decide) ?_
    exact ex_bret rfl (by decide) dX10_isWin_33 ex_rt_i
  · refine ex_iload_n dX10_isWin_5 1 rfl ?_
    refine ex_aload_n dX10_isWin_6 0 rfl ?_
    refine ex_getI dX10_isWin_7 fl_X10_121 hB.1.1 hB.1.2 ?_
    refine ex_icmp_lt (tgt := 17) dX10_isWin_10 (by decide) (fun c10 => absurd c10 (fun z => hx ⟨by simp only [i_le, i_lt, Int32.reduceToInt] at *; omega, hMW.1 ▸ z⟩)) (fun c10 => ?_)
    refine ex_iconst (v := 1) dX10_isWin_13 (by decide) ?_
    refine ex_goto (tgt := 18) dX10_isWin_14 (by decide) ?_
    refine ex_putI dX10_isWin_18 fl_X10_80 (pf_X10_80 _) hB.1.1 hB.1.2 ?_
    refine ex_aload_n dX10_isWin_21 0 rfl ?_
    refine ex_getI dX10_isWin_22 fl_X10_80 hB.1.1 hB.1.2 ?_
    refine ex_if_ne (tgt := 32) dX10_isWin_25 (by decide) (fun c25 => ?_) (fun c25 => absurd c25 (by rw [mI_mm, if_pos rfl]; decide))
    refine ex_iconst (v := 0) dX10_isWin_32 (by decide) ?_
    exact ex_bret rfl (by decide) dX10_isWin_33 ex_rt_i
noncomputable def sp_win (s : st_T) (x y : Int32) : Nat × Value × st_T := if ix_ok x (s_ws s).length then (if 0 ≤ y ∧ y ≤ 4 then (0, .int (if y = 0 then nI (wi_at (s_ws s) x.toNatClampNeg).1 else if y = 1 then nI (wi_at (s_ws s) x.toNatClampNeg).2.2.1 else if y = 2 then nI (wi_at (s_ws s) x.toNatClampNeg).2.2.2.1 else if y = 3 then nI (wi_at (s_ws s) x.toNatClampNeg).2.2.2.2.1 else nI (wi_at (s_ws s) x.toNatClampNeg).2.2.2.2.2), s) else (2, .int 0, s)) else (1, .int 0, s)
set_option maxRecDepth 20000 in
set_option maxHeartbeats 4000000 in
theorem m_win (g : gl_T) {S : hs_T} {n k m : Nat} {ad : Nat → Nat} {s : st_T} (h : RM S m ad s) {x y : Int32} : ex_M g 1 mX10_win [.ref m, .int x, .int y] S n k (mp S m ad n k (sp_win s x y)) := by
  refine ex_enter (by decide +kernel) (Nat.le_of_ble_eq_true rfl) ?_
  show ex_W _ _ _ _ 0 [(0, .ref m), (1, .int x), (2, .int y)] [] _ _ _
  have hB := h.1
  have hMW := h.2.2.2.2.2.2.2.2
  by_cases hq : ix_ok x (s_ws s).length
  · refine ex_aload_n dX10_win_0 0 rfl ?_
    refine ex_iload_n dX10_win_1 1 rfl ?_
    refine ex_cVr [.int x] [] dX10_win_2 cV_X10_250 (m_isWin1 g hB hMW hq) hB.1.1 hB.1.2 rfl rfl rfl (by decide) (Nat.le_of_ble_eq_true rfl) rfl ?_
    have h1 := RM_mI h 0 0 (by decide)
    have ht1 : hs_I (hs_sI S m 0 0) m 0 = nI 0 := by rw [mI_mm]; rfl
    have hF1 := MF_mI (MF_rf S m ad) 0 0
    generalize hs_sI S m 0 0 = S1 at h1 ht1 hF1 ⊢
    clear h hB hMW
    obtain ⟨hB, hMS, hMH, hML, hMT, hMR, hMN, hMD, hMW⟩ := id h1
    have hl4 := hMW.2.1
    obtain ⟨j, hj, hxj⟩ := ix_of hq (by omega)
    have hcl : x.toNatClampNeg = j := by rw [hxj]; exact nI_clamp (by omega)
    obtain ⟨h28, h29, h30, h31, h32⟩ := hMW.2.2 j hj
    change hs_I S1 (ad 28) j = nI (wi_at (s_ws s) j).1 at h28
    change hs_I S1 (ad 29) j = nI (wi_at (s_ws s) j).2.2.1 at h29
    change hs_I S1 (ad 30) j = nI (wi_at (s_ws s) j).2.2.2.1 at h30
    change hs_I S1 (ad 31) j = nI (wi_at (s_ws s) j).2.2.2.2.1 at h31
    change hs_I S1 (ad 32) j = nI (wi_at (s_ws s) j).2.2.2.2.2 at h32
    refine ex_if_eq (tgt := 30) dX10_win_5 (by decide) (fun c5 => absurd c5 (by decide)) (fun c5 => ?_)
    refine ex_aload_n dX10_win_8 0 rfl ?_
    refine ex_iload_n dX10_win_9 2 rfl ?_
    refine ex_if_lt (tgt := 18) dX10_win_10 (by decide) (fun c10 => ?_) (fun c10 => ?_)
    · refine ex_iconst (v := 1) dX10_win_18 (by decide) ?_
      refine ex_goto (tgt := 23) dX10_win_19 (by decide) ?_
      refine ex_iconst (v := 2) dX10_win_23 (by decide) ?_
      refine ex_cVr [.int 1, .int 2] [] dX10_win_24 cV_X10_86 (m_bad1 g hB) hB.1.1 hB.1.2 rfl rfl rfl (by decide) (Nat.le_of_ble_eq_true rfl) rfl ?_
      refine ex_if_eq (tgt := 32) dX10_win_27 (by decide) (fun c27 => absurd c27 (by decide)) (fun c27 => ?_)
      refine ex_iconst (v := 0) dX10_win_30 (by decide) ?_
      exact ex_irt rfl dX10_win_31 (mp_i (by unfold sp_win; rw [if_pos hq, if_neg (fun z => by simp only [i_le, i_lt, Int32.reduceToInt] at *; omega)]) (by rw [mI_mm]; rfl) (RM_mI h1 0 2 (by decide)) (MF_mI hF1 0 2))
    · refine ex_iload_n dX10_win_13 2 rfl ?_
      refine ex_iconst (v := 4) dX10_win_14 (by decide) ?_
      refine ex_icmp_le (tgt := 22) dX10_win_15 (by decide) (fun c15 => ?_) (fun c15 => ?_)
      · refine ex_iconst (v := 0) dX10_win_22 (by decide) ?_
        refine ex_iconst (v := 2) dX10_win_23 (by decide) ?_
        refine ex_cVr [.int 0, .int 2] [] dX10_win_24 cV_X10_86 (m_bad0 g hB) hB.1.1 hB.1.2 rfl rfl rfl (by decide) (Nat.le_of_ble_eq_true rfl) rfl ?_
        refine ex_if_eq (tgt := 32) dX10_win_27 (by decide) (fun c27 => ?_) (fun c27 => absurd (by decide) c27)
        refine ex_iload_n dX10_win_32 2 rfl ?_
        refine ex_if_ne (tgt := 45) dX10_win_33 (by decide) (fun c33 => ?_) (fun c33 => ?_)
        · refine ex_iload_n dX10_win_45 2 rfl ?_
          refine ex_iconst (v := 1) dX10_win_46 (by decide) ?_
          refine ex_icmp_ne (tgt := 59) dX10_win_47 (by decide) (fun c47 => ?_) (fun c47 => ?_)
          · refine ex_iload_n dX10_win_59 2 rfl ?_
            refine ex_iconst (v := 2) dX10_win_60 (by decide) ?_
            refine ex_icmp_ne (tgt := 73) dX10_win_61 (by decide) (fun c61 => ?_) (fun c61 => ?_)
            · refine ex_iload_n dX10_win_73 2 rfl ?_
              refine ex_iconst (v := 3) dX10_win_74 (by decide) ?_
              refine ex_icmp_ne (tgt := 87) dX10_win_75 (by decide) (fun c75 => ?_) (fun c75 => ?_)
              · refine ex_aload_n dX10_win_87 0 rfl ?_
                refine ex_getR (b := ad 32) dX10_win_88 fl_X10_74 hB.1.1 hB.1.2 (mb_32 hB).1 ?_
                refine ex_iload_n dX10_win_91 1 rfl ?_
                refine ex_iald (j := j) dX10_win_92 (mb_32 hB).2.1 (mb_32 hB).2.2.1 hxj (Nat.lt_of_lt_of_eq (show j < 2000 by omega) (mb_32 hB).2.2.2.symm) (show j < 2 ^ 31 by omega) ?_
                exact ex_irt rfl dX10_win_93 (mp_i (c := 0) (s' := s) (by unfold sp_win; rw [if_pos hq, if_pos (by constructor <;> simp only [i_le, i_lt, Int32.reduceToInt] at * <;> omega), hcl]; simp [h28, h29, h30, h31, h32, *]) ht1 h1 hF1)
              · refine ex_aload_n dX10_win_78 0 rfl ?_
                refine ex_getR (b := ad 31) dX10_win_79 fl_X10_71 hB.1.1 hB.1.2 (mb_31 hB).1 ?_
                refine ex_iload_n dX10_win_82 1 rfl ?_
                refine ex_iald (j := j) dX10_win_83 (mb_31 hB).2.1 (mb_31 hB).2.2.1 hxj (Nat.lt_of_lt_of_eq (show j < 2000 by omega) (mb_31 hB).2.2.2.symm) (show j < 2 ^ 31 by omega) ?_
                refine ex_goto (tgt := 93) dX10_win_84 (by decide) ?_
                exact ex_irt rfl dX10_win_93 (mp_i (c := 0) (s' := s) (by unfold sp_win; rw [if_pos hq, if_pos (by constructor <;> simp only [i_le, i_lt, Int32.reduceToInt] at * <;> omega), hcl]; simp [h28, h29, h30, h31, h32, *]) ht1 h1 hF1)
            · refine ex_aload_n dX10_win_64 0 rfl ?_
              refine ex_getR (b := ad 30) dX10_win_65 fl_X10_68 hB.1.1 hB.1.2 (mb_30 hB).1 ?_
              refine ex_iload_n dX10_win_68 1 rfl ?_
              refine ex_iald (j := j) dX10_win_69 (mb_30 hB).2.1 (mb_30 hB).2.2.1 hxj (Nat.lt_of_lt_of_eq (show j < 2000 by omega) (mb_30 hB).2.2.2.symm) (show j < 2 ^ 31 by omega) ?_
              refine ex_goto (tgt := 93) dX10_win_70 (by decide) ?_
              exact ex_irt rfl dX10_win_93 (mp_i (c := 0) (s' := s) (by unfold sp_win; rw [if_pos hq, if_pos (by constructor <;> simp only [i_le, i_lt, Int32.reduceToInt] at * <;> omega), hcl]; simp [h28, h29, h30, h31, h32, *]) ht1 h1 hF1)
          · refine ex_aload_n dX10_win_50 0 rfl ?_
            refine ex_getR (b := ad 29) dX10_win_51 fl_X10_65 hB.1.1 hB.1.2 (mb_29 hB).1 ?_
            refine ex_iload_n dX10_win_54 1 rfl ?_
            refine ex_iald (j := j) dX10_win_55 (mb_29 hB).2.1 (mb_29 hB).2.2.1 hxj (Nat.lt_of_lt_of_eq (show j < 2000 by omega) (mb_29 hB).2.2.2.symm) (show j < 2 ^ 31 by omega) ?_
            refine ex_goto (tgt := 93) dX10_win_56 (by decide) ?_
            exact ex_irt rfl dX10_win_93 (mp_i (c := 0) (s' := s) (by unfold sp_win; rw [if_pos hq, if_pos (by constructor <;> simp only [i_le, i_lt, Int32.reduceToInt] at * <;> omega), hcl]; simp [h28, h29, h30, h31, h32, *]) ht1 h1 hF1)
        · refine ex_aload_n dX10_win_36 0 rfl ?_
          refine ex_getR (b := ad 28) dX10_win_37 fl_X10_62 hB.1.1 hB.1.2 (mb_28 hB).1 ?_
          refine ex_iload_n dX10_win_40 1 rfl ?_
          refine ex_iald (j := j) dX10_win_41 (mb_28 hB).2.1 (mb_28 hB).2.2.1 hxj (Nat.lt_of_lt_of_eq (show j < 2000 by omega) (mb_28 hB).2.2.2.symm) (show j < 2 ^ 31 by omega) ?_
          refine ex_goto (tgt := 93) dX10_win_42 (by decide) ?_
          exact ex_irt rfl dX10_win_93 (mp_i (c := 0) (s' := s) (by unfold sp_win; rw [if_pos hq, if_pos (by constructor <;> simp only [i_le, i_lt, Int32.reduceToInt] at * <;> omega), hcl]; simp [h28, h29, h30, h31, h32, *]) ht1 h1 hF1)
      · refine ex_iconst (v := 1) dX10_win_18 (by decide) ?_
        refine ex_goto (tgt := 23) dX10_win_19 (by decide) ?_
        refine ex_iconst (v := 2) dX10_win_23 (by decide) ?_
        refine ex_cVr [.int 1, .int 2] [] dX10_win_24 cV_X10_86 (m_bad1 g hB) hB.1.1 hB.1.2 rfl rfl rfl (by decide) (Nat.le_of_ble_eq_true rfl) rfl ?_
        refine ex_if_eq (tgt := 32) dX10_win_27 (by decide) (fun c27 => absurd c27 (by decide)) (fun c27 => ?_)
        refine ex_iconst (v := 0) dX10_win_30 (by decide) ?_
        exact ex_irt rfl dX10_win_31 (mp_i (by unfold sp_win; rw [if_pos hq, if_neg (fun z => by simp only [i_le, i_lt, Int32.reduceToInt] at *; omega)]) (by rw [mI_mm]; rfl) (RM_mI h1 0 2 (by decide)) (MF_mI hF1 0 2))
  · refine ex_aload_n dX10_win_0 0 rfl ?_
    refine ex_iload_n dX10_win_1 1 rfl ?_
    refine ex_cVr [.int x] [] dX10_win_2 cV_X10_250 (m_isWin0 g hB hMW hq) hB.1.1 hB.1.2 rfl rfl rfl (by decide) (Nat.le_of_ble_eq_true rfl) rfl ?_
    refine ex_if_eq (tgt := 30) dX10_win_5 (by decide) (fun c5 => ?_) (fun c5 => absurd (by decide) c5)
    refine ex_iconst (v := 0) dX10_win_30 (by decide) ?_
    exact ex_irt rfl dX10_win_31 (mp_i (by unfold sp_win; rw [if_neg hq]) (by rw [mI_mm]; rfl) (RM_mI h 0 1 (by decide)) (MF_mI (MF_rf S m ad) 0 1))
theorem gd_set {α : Type} (l : List α) (i : Nat) (x d : α) (j : Nat) (hi : i < l.length) : (l.set i x).getD j d = if j = i then x else l.getD j d := by
  rw [List.getD_eq_getElem?_getD, List.getD_eq_getElem?_getD, List.getElem?_set]
  by_cases q : i = j
  · subst q; simp [hi]
  · rw [if_neg q, if_neg (Ne.symm q)]
def wi_st (w : wi_T) (c : Nat) : wi_T := (w.1, w.2.1, w.2.2.1, w.2.2.2.1, w.2.2.2.2.1, c)
def wi_ho (w : wi_T) (c : Nat) : wi_T := (w.1, w.2.1, w.2.2.1, c, w.2.2.2.2.1, w.2.2.2.2.2)
theorem MW_st {S : hs_T} {m : Nat} {ad : Nat → Nat} (hA : AD m ad) {ws : List wi_T} (h : MW S m ad ws) {i : Nat} (hi : i < ws.length) (c : Nat) {v : Int32} (hv : v = nI c) : MW (hs_sI S (ad 32) i v) m ad (ws.set i (wi_st (wi_at ws i) c)) := by
  obtain ⟨h1, h2, h3⟩ := h
  refine ⟨by rw [mI_sa hA, h1]; simp, by simpa using h2, fun j hj => ?_⟩
  simp at hj
  have h4 := h3 j hj
  simp only [mI_aa hA, gd_set _ _ _ _ _ hi]
  by_cases q : j = i
  · subst q; simp only [if_pos, wi_st, wi_at]; simpa [hv] using ⟨h4.1, h4.2.1, h4.2.2.1, h4.2.2.2.1⟩
  · simpa [q] using h4
theorem MW_ho {S : hs_T} {m : Nat} {ad : Nat → Nat} (hA : AD m ad) {ws : List wi_T} (h : MW S m ad ws) {i : Nat} (hi : i < ws.length) (c : Nat) {v : Int32} (hv : v = nI c) : MW (hs_sI S (ad 30) i v) m ad (ws.set i (wi_ho (wi_at ws i) c)) := by
  obtain ⟨h1, h2, h3⟩ := h
  refine ⟨by rw [mI_sa hA, h1]; simp, by simpa using h2, fun j hj => ?_⟩
  simp at hj
  have h4 := h3 j hj
  simp only [mI_aa hA, gd_set _ _ _ _ _ hi]
  by_cases q : j = i
  · subst q; simp only [if_pos, wi_ho, wi_at]; simpa [hv] using ⟨h4.1, h4.2.1, h4.2.2.2.1, h4.2.2.2.2⟩
  · simpa [q] using h4
theorem MH_pay {S : hs_T} {m : Nat} {ad : Nat → Nat} (hA : AD m ad) {hs : List (Nat × Nat)} (h : MH S m ad hs) {i : Nat} (hi : i < hs.length) (c : Nat) {v : Int64} (hv : v = lN c) : MH (hs_sJ S (ad 5) i v) m ad (hs.set i ((hd_at hs i).1, c)) := by
  obtain ⟨h1, h2, h3⟩ := h
  refine ⟨by rw [hs_I_sJ, h1]; simp, by simpa using h2, fun j hj => ?_⟩
  have h4 := h3 j hj
  simp only [mJ_aa hA, hs_I_sJ, gd_set _ _ _ _ _ hi]
  by_cases q : j = i
  · subst q; simp only [if_pos, hd_at]; simpa [hv] using ⟨h4.1, h4.2.2⟩
  · simpa [q] using h4
theorem MH_dead {S : hs_T} {m : Nat} {ad : Nat → Nat} (hA : AD m ad) {hs : List (Nat × Nat)} (h : MH S m ad hs) {i : Nat} (hi : i < hs.length) {v : Int32} (hv : v = 1) : MH (hs_sI S (ad 4) i v) m ad (hs.set i (1, (hd_at hs i).2)) := by
  obtain ⟨h1, h2, h3⟩ := h
  refine ⟨by rw [mI_sa hA, h1]; simp, by simpa using h2, fun j hj => ?_⟩
  have h4 := h3 j hj
  simp only [mI_aa hA, hs_J_sI, gd_set _ _ _ _ _ hi]
  by_cases q : j = i
  · subst q; simp only [if_pos, hd_at]; simpa [hv, show nI 1 = 1 from rfl] using h4.2.1
  · simpa [q] using h4
theorem lg_le {x y : Int64} : lg_cmp x y ≤ 0 ↔ x ≤ y := by
  unfold lg_cmp
  rw [j_le]
  split
  · next h => have h' : y.toInt < x.toInt := (j_lt _ _).mp h; exact ⟨fun z => absurd z (by decide), fun z => by omega⟩
  · next h =>
    have h' : ¬ y.toInt < x.toInt := fun z => h ((j_lt _ _).mpr z)
    split
    · next h2 => subst h2; exact ⟨fun _ => by omega, fun _ => by decide⟩
    · next h2 => exact ⟨fun z => by omega, fun z => by decide⟩
noncomputable def sp_claim (s : st_T) (x : Int32) : Nat × Value × st_T := if ix_ok x (s_ws s).length then (if (wi_at (s_ws s) x.toNatClampNeg).2.2.2.2.2 = 1 then (0, .int (-1), s) else if (wi_at (s_ws s) x.toNatClampNeg).2.2.2.2.2 = 2 ∨ (wi_at (s_ws s) x.toNatClampNeg).2.1 + 500 < s_td s then (0, .int (-2), s) else (0, .int (nI (wi_at (s_ws s) x.toNatClampNeg).2.2.2.2.1), w_hs (w_ws s ((s_ws s).set x.toNatClampNeg (wi_st (wi_at (s_ws s) x.toNatClampNeg) 1))) ((s_hs s).set (wi_at (s_ws s) x.toNatClampNeg).2.2.2.1 ((hd_at (s_hs s) (wi_at (s_ws s) x.toNatClampNeg).2.2.2.1).1, (hd_at (s_hs s) (wi_at (s_ws s) x.toNatClampNeg).2.2.2.1).2 + (wi_at (s_ws s) x.toNatClampNeg).2.2.2.2.1)))) else (1, .int 0, s)
set_option maxRecDepth 20000 in
set_option maxHeartbeats 4000000 in
theorem m_claim (g : gl_T) {S : hs_T} {n k m : Nat} {ad : Nat → Nat} {s : st_T} (h : RM S m ad s) (hO : ∀ j, j < (s_ws s).length → wi_ok s (wi_at (s_ws s) j)) {x : Int32} : ex_M g 1 mX10_claim [.ref m, .int x] S n k (mp S m ad n k (sp_claim s x)) := by
  refine ex_enter (by decide +kernel) (Nat.le_of_ble_eq_true rfl) ?_
  show ex_W _ _ _ _ 0 [(0, .ref m), (1, .int x)] [] _ _ _
  have hB := h.1
  have hMW := h.2.2.2.2.2.2.2.2
  by_cases hq : ix_ok x (s_ws s).length
  · refine ex_aload_n dX10_claim_0 0 rfl ?_
    refine ex_iload_n dX10_claim_1 1 rfl ?_
    refine ex_cVr [.int x] [] dX10_claim_2 cV_X10_250 (m_isWin1 g hB hMW hq) hB.1.1 hB.1.2 rfl rfl rfl (by decide) (Nat.le_of_ble_eq_true rfl) rfl ?_
    have h1 := RM_mI h 0 0 (by decide)
    have ht1 : hs_I (hs_sI S m 0 0) m 0 = nI 0 := by rw [mI_mm]; rfl
    have hF1 := MF_mI (MF_rf S m ad) 0 0
    generalize hs_sI S m 0 0 = S1 at h1 ht1 hF1 ⊢
    clear h hB hMW
    obtain ⟨hB, hMS, hMH, hML, hMT, hMR, hMN, hMD, hMW⟩ := id h1
    have hl4 := hMW.2.1
    obtain ⟨j, hj, hxj⟩ := ix_of hq (by omega)
    have hcl : x.toNatClampNeg = j := by rw [hxj]; exact nI_clamp (by omega)
    obtain ⟨h28, h29, h30, h31, h32⟩ := hMW.2.2 j hj
    change hs_I S1 (ad 28) j = nI (wi_at (s_ws s) j).1 at h28
    change hs_I S1 (ad 29) j = nI (wi_at (s_ws s) j).2.2.1 at h29
    change hs_I S1 (ad 30) j = nI (wi_at (s_ws s) j).2.2.2.1 at h30
    change hs_I S1 (ad 31) j = nI (wi_at (s_ws s) j).2.2.2.2.1 at h31
    change hs_I S1 (ad 32) j = nI (wi_at (s_ws s) j).2.2.2.2.2 at h32
    obtain ⟨hw1, hw2, hw3, hw4, hw5, hw6, hw7⟩ := hO j hj
    have hhs := hMH.2.1
    have hd4 := hMD.2.1
    have htd := hMS.2.1
    have e26 : hs_J S1 (ad 26) (9 * (wi_at (s_ws s) j).1) = lN (wi_at (s_ws s) j).2.1 := by have := hMD.2.2 _ hw1 0 (by decide); rw [Nat.add_zero] at this; rw [this, hw3]
    have e34 : (hs_I S1 m 2).toInt64 - hs_J S1 (ad 26) (9 * (wi_at (s_ws s) j).1) = lN (s_td s - (wi_at (s_ws s) j).2.1) := by rw [e26, hMS.1.1, nI_l (by omega), lN_sub hw2]
    refine ex_if_ne (tgt := 10) dX10_claim_5 (by decide) (fun c5 => ?_) (fun c5 => absurd c5 (by decide))
    refine ex_aload_n dX10_claim_10 0 rfl ?_
    refine ex_getR (b := ad 32) dX10_claim_11 fl_X10_74 hB.1.1 hB.1.2 (mb_32 hB).1 ?_
    refine ex_iload_n dX10_claim_14 1 rfl ?_
    refine ex_iald (j := j) dX10_claim_15 (mb_32 hB).2.1 (mb_32 hB).2.2.1 hxj (Nat.lt_of_lt_of_eq (show j < 2000 by omega) (mb_32 hB).2.2.2.symm) (show j < 2 ^ 31 by omega) ?_
    refine ex_iconst (v := 1) dX10_claim_16 (by decide) ?_
    refine ex_icmp_ne (tgt := 22) dX10_claim_17 (by decide) (fun c17 => ?_) (fun c17 => ?_)
    · refine ex_aload_n dX10_claim_22 0 rfl ?_
      refine ex_getR (b := ad 32) dX10_claim_23 fl_X10_74 hB.1.1 hB.1.2 (mb_32 hB).1 ?_
      refine ex_iload_n dX10_claim_26 1 rfl ?_
      refine ex_iald (j := j) dX10_claim_27 (mb_32 hB).2.1 (mb_32 hB).2.2.1 hxj (Nat.lt_of_lt_of_eq (show j < 2000 by omega) (mb_32 hB).2.2.2.symm) (show j < 2 ^ 31 by omega) ?_
      refine ex_iconst (v := 2) dX10_claim_28 (by decide) ?_
      refine ex_icmp_eq (tgt := 59) dX10_claim_29 (by decide) (fun c29 => ?_) (fun c29 => ?_)
      · refine ex_bipush (v := (-2)) dX10_claim_59 (by decide) ?_
        exact ex_irt rfl dX10_claim_61 (mp_i (c := 0) (s' := s) (by unfold sp_claim; rw [if_pos hq, hcl, if_neg (fun z => c17 (by rw [h32, z]; rfl)), if_pos (by first | exact Or.inl ((nI_eq (b := 2) (by omega) (by decide)).mp (h32.symm.trans c29)) | exact Or.inr (by have z : ¬ (s_td s - (wi_at (s_ws s) j).2.1 ≤ 500) := fun q => c56 (lg_le.mpr (e34 ▸ (pk_lLE (a := s_td s - (wi_at (s_ws s) j).2.1) (b := 500) (by omega) (by decide)).mpr q)); omega))]) ht1 h1 hF1)
      · refine ex_aload_n dX10_claim_32 0 rfl ?_
        refine ex_getI dX10_claim_33 fl_X10_102 hB.1.1 hB.1.2 ?_
        refine ex_i2l dX10_claim_36 ?_
        refine ex_aload_n dX10_claim_37 0 rfl ?_
        refine ex_getR (b := ad 26) dX10_claim_38 fl_X10_59 hB.1.1 hB.1.2 (mb_26 hB).1 ?_
        refine ex_bipush (v := 9) dX10_claim_41 (by decide) ?_
        refine ex_aload_n dX10_claim_43 0 rfl ?_
        refine ex_getR (b := ad 28) dX10_claim_44 fl_X10_62 hB.1.1 hB.1.2 (mb_28 hB).1 ?_
        refine ex_iload_n dX10_claim_47 1 rfl ?_
        refine ex_iald (j := j) dX10_claim_48 (mb_28 hB).2.1 (mb_28 hB).2.2.1 hxj (Nat.lt_of_lt_of_eq (show j < 2000 by omega) (mb_28 hB).2.2.2.symm) (show j < 2 ^ 31 by omega) ?_
        refine ex_imul dX10_claim_49 ?_
        refine ex_lald (j := 9 * (wi_at (s_ws s) j).1) dX10_claim_50 (mb_26 hB).2.1 (mb_26 hB).2.2.1 (by rw [h28]; exact pk_mul 9 _) (Nat.lt_of_lt_of_eq (show 9 * (wi_at (s_ws s) j).1 < 360 by omega) (mb_26 hB).2.2.2.symm) (by omega) ?_
        refine ex_lsub dX10_claim_51 ?_
        refine ex_ldc2 dX10_claim_52 lc_X10_232 ?_
        refine ex_lcmp dX10_claim_55 ?_
        refine ex_if_le (tgt := 62) dX10_claim_56 (by decide) (fun c56 => ?_) (fun c56 => ?_)
        · refine ex_aload_n dX10_claim_62 0 rfl ?_
          refine ex_getR (b := ad 32) dX10_claim_63 fl_X10_74 hB.1.1 hB.1.2 (mb_32 hB).1 ?_
          refine ex_iload_n dX10_claim_66 1 rfl ?_
          refine ex_iconst (v := 1) dX10_claim_67 (by decide) ?_
          refine ex_iast (j := j) dX10_claim_68 (mb_32 hB).2.1 (mb_32 hB).2.2.1 hxj (Nat.lt_of_lt_of_eq (show j < 2000 by omega) (mb_32 hB).2.2.2.symm) (show j < 2 ^ 31 by omega) ?_
          have hpay : hs_J S1 (ad 5) (wi_at (s_ws s) j).2.2.2.1 + (hs_I (hs_sI S1 (ad 32) j 1) (ad 31) j).toInt64 = lN ((hd_at (s_hs s) (wi_at (s_ws s) j).2.2.2.1).2 + (wi_at (s_ws s) j).2.2.2.2.1) := by
            rw [mI_aa hB.2.2, if_neg (by simp), h31, nI_l (by omega), (hMH.2.2 _ (by omega)).2.1]
            exact lN_add _ _
          refine ex_aload_n dX10_claim_69 0 rfl ?_
          refine ex_getR (b := ad 5) dX10_claim_70 fl_X10_13 hB.1.1 hB.1.2 (mb_5 hB).1 ?_
          refine ex_aload_n dX10_claim_73 0 rfl ?_
          refine ex_getR (b := ad 30) dX10_claim_74 fl_X10_68 hB.1.1 hB.1.2 (mb_30 hB).1 ?_
          refine ex_iload_n dX10_claim_77 1 rfl ?_
          refine ex_iald (j := j) dX10_claim_78 (mb_30 hB).2.1 (mb_30 hB).2.2.1 hxj (Nat.lt_of_lt_of_eq (show j < 2000 by omega) (mb_30 hB).2.2.2.symm) (show j < 2 ^ 31 by omega) ?_
          refine ex_dup2_11 dX10_claim_79 rfl rfl ?_
          refine ex_lald (j := (wi_at (s_ws s) j).2.2.2.1) dX10_claim_80 (mb_5 hB).2.1 (mb_5 hB).2.2.1 (by rw [mI_aa hB.2.2, if_neg (by simp), h30]) (Nat.lt_of_lt_of_eq (show (wi_at (s_ws s) j).2.2.2.1 < 60 by omega) (mb_5 hB).2.2.2.symm) (show (wi_at (s_ws s) j).2.2.2.1 < 2 ^ 31 by omega) ?_
          refine ex_aload_n dX10_claim_81 0 rfl ?_
          refine ex_getR (b := ad 31) dX10_claim_82 fl_X10_71 hB.1.1 hB.1.2 (mb_31 hB).1 ?_
          refine ex_iload_n dX10_claim_85 1 rfl ?_
          refine ex_iald (j := j) dX10_claim_86 (mb_31 hB).2.1 (mb_31 hB).2.2.1 hxj (Nat.lt_of_lt_of_eq (show j < 2000 by omega) (mb_31 hB).2.2.2.symm) (show j < 2 ^ 31 by omega) ?_
          refine ex_i2l dX10_claim_87 ?_
          refine ex_ladd dX10_claim_88 ?_
          refine ex_last (j := (wi_at (s_ws s) j).2.2.2.1) dX10_claim_89 (mb_5 hB).2.1 (mb_5 hB).2.2.1 (by rw [mI_aa hB.2.2, if_neg (by simp), h30]) (Nat.lt_of_lt_of_eq (show (wi_at (s_ws s) j).2.2.2.1 < 60 by omega) (mb_5 hB).2.2.2.symm) (show (wi_at (s_ws s) j).2.2.2.1 < 2 ^ 31 by omega) ?_
          refine ex_aload_n dX10_claim_90 0 rfl ?_
          refine ex_getR (b := ad 31) dX10_claim_91 fl_X10_71 hB.1.1 hB.1.2 (mb_31 hB).1 ?_
          refine ex_iload_n dX10_claim_94 1 rfl ?_
          refine ex_iald (j := j) dX10_claim_95 (mb_31 hB).2.1 (mb_31 hB).2.2.1 hxj (Nat.lt_of_lt_of_eq (show j < 2000 by omega) (mb_31 hB).2.2.2.symm) (show j < 2 ^ 31 by omega) ?_
          exact ex_irt rfl dX10_claim_96 (mp_i (c := 0) (s' := w_hs (w_ws s ((s_ws s).set j (wi_st (wi_at (s_ws s) j) 1))) ((s_hs s).set (wi_at (s_ws s) j).2.2.2.1 ((hd_at (s_hs s) (wi_at (s_ws s) j).2.2.2.1).1, (hd_at (s_hs s) (wi_at (s_ws s) j).2.2.2.1).2 + (wi_at (s_ws s) j).2.2.2.2.1))) (by unfold sp_claim; rw [if_pos hq, hcl, if_neg (fun z => c17 (by rw [h32, z]; rfl)), if_neg (fun z => by rcases z with z | z; exact c29 (by rw [h32, z]; rfl); exact absurd ((pk_lLE (a := s_td s - (wi_at (s_ws s) j).2.1) (b := 500) (by omega) (by decide)).mp (e34 ▸ lg_le.mp c56)) (by omega)), hs_I_sJ, mI_aa hB.2.2, if_neg (by simp), h31]) (by rw [hs_I_sJ, mI_sa hB.2.2]; exact ht1) ⟨hB, (MS_aJ hB.2.2 (MS_aI hB.2.2 (hMS) 32 _ _ (by decide)) 5 _ _ (by decide)), MH_pay hB.2.2 (MH_aI hB.2.2 hMH 32 _ _ (by decide)) hw5 _ hpay, (ML_aJ hB.2.2 (ML_aI hB.2.2 (hML) 32 _ _ (by decide)) 5 _ _ (by decide)), (MT_aJ hB.2.2 (MT_aI hB.2.2 (hMT) 32 _ _ (by decide)) 5 _ _ (by decide)), (MR_aJ hB.2.2 (MR_aI hB.2.2 (hMR) 32 _ _ (by decide)) 5 _ _ (by decide)), (MN_aJ hB.2.2 (MN_aI hB.2.2 (hMN) 32 _ _ (by decide)) 5 _ _ (by decide)), (MD_aJ hB.2.2 (MD_aI hB.2.2 (hMD) 32 _ _ (by decide)) 5 _ _ (by decide)), MW_aJ hB.2.2 (MW_st hB.2.2 hMW hj 1 rfl) 5 _ _ (by decide)⟩ (MF_aJ (MF_aI (hF1) 32 (by decide) _ _) 5 (by decide) _ _))
        · refine ex_bipush (v := (-2)) dX10_claim_59 (by decide) ?_
          exact ex_irt rfl dX10_claim_61 (mp_i (c := 0) (s' := s) (by unfold sp_claim; rw [if_pos hq, hcl, if_neg (fun z => c17 (by rw [h32, z]; rfl)), if_pos (by first | exact Or.inl ((nI_eq (b := 2) (by omega) (by decide)).mp (h32.symm.trans c29)) | exact Or.inr (by have z : ¬ (s_td s - (wi_at (s_ws s) j).2.1 ≤ 500) := fun q => c56 (lg_le.mpr (e34 ▸ (pk_lLE (a := s_td s - (wi_at (s_ws s) j).2.1) (b := 500) (by omega) (by decide)).mpr q)); omega))]) ht1 h1 hF1)
    · refine ex_iconst (v := (-1)) dX10_claim_20 (by decide) ?_
      exact ex_irt rfl dX10_claim_21 (mp_i (c := 0) (s' := s) (by unfold sp_claim; rw [if_pos hq, hcl, if_pos ((nI_eq (b := 1) (by omega) (by decide)).mp (h32.symm.trans c17))]) ht1 h1 hF1)
  · refine ex_aload_n dX10_claim_0 0 rfl ?_
    refine ex_iload_n dX10_claim_1 1 rfl ?_
    refine ex_cVr [.int x] [] dX10_claim_2 cV_X10_250 (m_isWin0 g hB hMW hq) hB.1.1 hB.1.2 rfl rfl rfl (by decide) (Nat.le_of_ble_eq_true rfl) rfl ?_
    refine ex_if_ne (tgt := 10) dX10_claim_5 (by decide) (fun c5 => absurd (by decide) c5) (fun c5 => ?_)
    refine ex_iconst (v := 0) dX10_claim_8 (by decide) ?_
    exact ex_irt rfl dX10_claim_9 (mp_i (by unfold sp_claim; rw [if_neg hq]) (by rw [mI_mm]; rfl) (RM_mI h 0 1 (by decide)) (MF_mI (MF_rf S m ad) 0 1))
