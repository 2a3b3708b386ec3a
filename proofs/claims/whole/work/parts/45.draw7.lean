/-! a draw -/
def d_cs (s : st_T) (r : Nat) : List cl_T := (ru_at (s_rs s) r).2
def d_dy (s : st_T) (r : Nat) : Nat := dy (ru_at (s_rs s) r).2 (ru_at (s_rs s) r).2.length
def d_zs (s : st_T) (ys : List Nat) (r : Nat) : List Nat := el (s_ls s) (s_td s) (d_dy s r) ys
def d_M (s : st_T) (ys : List Nat) (r : Nat) : Nat := sz (s_ls s) (d_zs s ys r)
def d_st (s : st_T) (ys : List Nat) (r : Nat) : Nat := mx (s_ns s) 31 (d_M s ys r) (s_ns s).length
def d_sp (s : st_T) (ys : List Nat) (r : Nat) : Nat := nx (d_M s ys r) (d_M s ys r + 2) (1 + mx (s_ns s) 37 (d_M s ys r) (s_ns s).length)
def d_ws (s : st_T) : List wi_T := lp (s_td s) (s_ws s) (s_ws s).length
def d_cr (s : st_T) : Nat := s_cr s + lpc (s_td s) (s_ws s) (s_ws s).length
def d_H (s : st_T) : Nat := su (fun j => ln_go (ln_at (s_ls s) j)) (s_ls s).length
def d_F (s : st_T) (r : Nat) : Nat := d_cr s + fu (d_H s) (ru_at (s_rs s) r).2 (ru_at (s_rs s) r).2.length
def d_f (s : st_T) (ys : List Nat) (r : Nat) : Nat → Nat × Nat := fun n => bo (s_ls s) (d_zs s ys r) ((d_st s ys r + n * d_sp s ys r) % d_M s ys r)
def d_a (s : st_T) (ys : List Nat) (r : Nat) : aw_T := pzs (d_f s ys r) (s_ds s).length (s_td s) (d_M s ys r) (d_F s r) (ru_at (s_rs s) r).2 (0, d_F s r, d_ws s) (ru_at (s_rs s) r).2.length
def d_dr (s : st_T) (ys : List Nat) (r : Nat) : dr_T := drf (s_td s) r (d_M s ys r) (d_st s ys r) (d_sp s ys r) (d_F s r) (s_ws s).length (d_a s ys r).1 (d_a s ys r).2.1
def d_s (s : st_T) (ys : List Nat) (r : Nat) : st_T := w_cr (w_ns (w_ds (w_ws s (d_a s ys r).2.2) (s_ds s ++ [d_dr s ys r])) []) (d_a s ys r).2.1
def sp_draw (s : st_T) (ys : List Nat) : Nat × Value × st_T := match fo (s_rs s) (nI (s_td s)) (s_rs s).length with
  | none => (0, .int (-1), s)
  | some r => if (s_ns s).length < 2 then (0, .int (-2), s) else if d_M s ys r = 0 then (0, .int (-3), s) else if (s_ds s).length = 40 then (0, .int (-4), s) else (0, .int (nI (s_ds s).length), d_s s ys r)
theorem nx_le (M : Nat) : ∀ t q, q ≤ M + 1 → nx M t q ≤ M + 1
  | 0, q, h => h
  | t + 1, q, h => by
    unfold nx
    split
    · next hg =>
      refine nx_le M t (q + 1) ?_
      by_cases z : q = M + 1
      · rw [z, gcd_next] at hg; omega
      · omega
    · exact h
theorem cl_all {s : st_T} (hO : OK s) {r : Nat} (hr : r < (s_rs s).length) : ∀ c ∈ (ru_at (s_rs s) r).2, cl_ok c := hO.2.2.1 r hr
theorem zs_lt {ls : List li_T} {td days : Nat} {ys : List Nat} (hG : GO ls ys) : ∀ j, j < (el ls td days ys).length → (el ls td days ys).getD j 0 < ls.length := by
  intro j hj
  have h1 : (el ls td days ys).getD j 0 ∈ el ls td days ys := by rw [List.getD_eq_getElem?_getD, List.getElem?_eq_getElem hj]; exact List.getElem_mem hj
  exact ((hG.2 _).mp (List.mem_filter.mp h1).1).1
theorem nd_len : ∀ {ys : List Nat} {n : Nat}, ys.Nodup → (∀ i ∈ ys, i < n) → ys.length ≤ n
  | ys, 0, _, h => by
    cases ys with
    | nil => exact Nat.le_refl _
    | cons y ys => exact absurd (h y List.mem_cons_self) (by omega)
  | ys, n + 1, hd, h => by
    have h1 := nd_len (ys := ys.erase n) (n := n) (hd.erase n) (fun i hi => by
      have h2 := (hd.mem_erase_iff).mp hi
      have h3 := h i h2.2
      have h4 := h2.1
      omega)
    have h5 := List.length_erase (a := n) (l := ys)
    split at h5 <;> omega
theorem el_len {ls : List li_T} {td days : Nat} {ys : List Nat} (hf : ∀ i, (ln_at ls i).1 ≤ (ln_at ls i).2.1) (hG : GO ls ys) : (el ls td days ys).length ≤ ls.length :=
  Nat.le_trans (List.length_filter_le _ _) (nd_len (GO_nd hf hG) (fun i hi => ((hG.2 i).mp hi).1))
theorem d_bd {S : hs_T} {m : Nat} {ad : Nat → Nat} {s : st_T} {ys : List Nat} (h : RM S m ad s) (hO : OK s) (hG : GO (s_ls s) ys) {r : Nat} (hr : r < (s_rs s).length) (hd : (s_ds s).length < 40) : d_H s ≤ 1000000000 ∧ d_F s r < 1000000000000000000 ∧ (s_ws s).length + 50 ≤ 2000 := by
  have hf := ML_fl h.2.2.2.1
  have h1 : d_H s ≤ 1000000000 := by
    unfold d_H
    rw [GO_H hf hG]
    exact sz_le (b := 0) hG.1 (fun i hi => ⟨hf i, (h.2.2.2.1.2.2 i ((hG.2 i).mp hi).1).1.2.1, Nat.zero_le _⟩) (by omega)
  obtain ⟨_, _, _, _, h2, h3⟩ := id hO
  have h4 := lpc_le (s_td s) (s_ws s) (s_ws s).length
  have h5 := fu_le h1 (hO.2.2.1 r hr) _ (Nat.le_refl _)
  have h6 : (ru_at (s_rs s) r).2.length ≤ 10 := (MR_at h.2.2.2.2.2.1 hr).1
  refine ⟨h1, ?_, by omega⟩
  unfold d_F d_cr
  omega
theorem d_Mle {S : hs_T} {m : Nat} {ad : Nat → Nat} {s : st_T} {ys : List Nat} (h : RM S m ad s) (hG : GO (s_ls s) ys) (r : Nat) : d_M s ys r ≤ 1000000000 := by
  have hf := ML_fl h.2.2.2.1
  exact sz_le (b := 0) (List.Pairwise.filter _ hG.1) (fun i hi => ⟨hf i, (h.2.2.2.1.2.2 i ((hG.2 i).mp (List.mem_filter.mp hi).1).1).1.2.1, Nat.zero_le _⟩) (by omega)
set_option maxRecDepth 20000 in
set_option maxHeartbeats 4000000 in
theorem m_draw (g : gl_T) {S : hs_T} {n k m : Nat} {ad : Nat → Nat} {s : st_T} (h : RM S m ad s) (hO : OK s) {ys : List Nat} (hG : GO (s_ls s) ys) : ex_M g 1 mX10_draw [.ref m] S n k (mp S m ad n k (sp_draw s ys)) := by
  refine ex_enter (by decide +kernel) (Nat.le_of_ble_eq_true rfl) ?_
  show ex_W _ _ _ _ 0 [(0, .ref m)] [] _ _ _
  have hB := h.1
  refine ex_aload_n dX10_draw_0 0 rfl ?_
  refine ex_iconst (v := 0) dX10_draw_1 (by decide) ?_
  refine ex_putI dX10_draw_2 fl_X10_80 (pf_X10_80 _) hB.1.1 hB.1.2 ?_
  have h1 := RM_mI h 0 0 (by decide)
  have ht1 : hs_I (hs_sI S m 0 0) m 0 = nI 0 := by rw [mI_mm]; rfl
  have hF1 := MF_mI (MF_rf S m ad) 0 0
  generalize hs_sI S m 0 0 = S1 at h1 ht1 hF1 ⊢
  clear h hB
  obtain ⟨hB, hMS, hMH, hML, hMT, hMR, hMN, hMD, hMW⟩ := id h1
  have hcall : ex_M g 0 mX10_forceOf [.ref m, .int (nI (s_td s))] S1 n k (ex_rt (some (.int (eN (fo (s_rs s) (nI (s_td s)) (s_rs s).length)))) S1 n k) := m_forceOf g hB hMR
  have hr20 := hMR.2.1
  have hn20 := hMN.2.1
  have hd4 := hMD.2.1
  have hw2 := hMW.2.1
  rcases hfo : fo (s_rs s) (nI (s_td s)) (s_rs s).length with _ | r
  · rw [hfo] at hcall
    refine ex_aload_n dX10_draw_5 0 rfl ?_
    refine ex_aload_n dX10_draw_6 0 rfl ?_
    refine ex_getI dX10_draw_7 fl_X10_102 hB.1.1 hB.1.2 ?_
    rw [hMS.1.1]
    refine ex_cVr [.int (nI (s_td s))] [] dX10_draw_10 cV_X10_203 (hcall) hB.1.1 hB.1.2 rfl rfl rfl (by decide) (Nat.le_of_ble_eq_true rfl) rfl ?_
    refine ex_istore_n [(1, .int (-1)), (0, .ref m)] dX10_draw_13 (by decide) rfl ?_
    refine ex_iload_n dX10_draw_14 0 rfl ?_
    refine ex_if_ge (tgt := 20) dX10_draw_15 (by decide) (fun c15 => absurd c15 (by decide)) (fun c15 => ?_)
    refine ex_iconst (v := (-1)) dX10_draw_18 (by decide) ?_
    exact ex_irt rfl dX10_draw_19 (mp_i (c := 0) (s' := s) (by unfold sp_draw; rw [hfo]) ht1 h1 hF1)
  · rw [hfo] at hcall
    have hr := fo_lt _ _ _ _ hfo
    have hC := cl_all hO hr
    have hMle := d_Mle h1 hG r
    obtain ⟨hc10, _, _⟩ := MR_at hMR hr
    by_cases hn : (s_ns s).length < 2
    · refine ex_aload_n dX10_draw_5 0 rfl ?_
      refine ex_aload_n dX10_draw_6 0 rfl ?_
      refine ex_getI dX10_draw_7 fl_X10_102 hB.1.1 hB.1.2 ?_
      rw [hMS.1.1]
      refine ex_cVr [.int (nI (s_td s))] [] dX10_draw_10 cV_X10_203 (hcall) hB.1.1 hB.1.2 rfl rfl rfl (by decide) (Nat.le_of_ble_eq_true rfl) rfl ?_
      refine ex_istore_n [(1, .int (nI r)), (0, .ref m)] dX10_draw_13 (by decide) rfl ?_
      refine ex_iload_n dX10_draw_14 0 rfl ?_
      refine ex_if_ge (tgt := 20) dX10_draw_15 (by decide) (fun c15 => ?_) (fun c15 => absurd (nI_pos' (by omega)) c15)
      refine ex_aload_n dX10_draw_20 1 rfl ?_
      refine ex_getI dX10_draw_21 fl_X10_206 hB.1.1 hB.1.2 ?_
      refine ex_iconst (v := 2) dX10_draw_24 (by decide) ?_
      refine ex_icmp_ge (tgt := 31) dX10_draw_25 (by decide) (fun c25 => absurd c25 (fun z => absurd ((nI_leI (a := 2) (by decide) (by omega)).mp (hMN.1 ▸ z)) (by omega))) (fun c25 => ?_)
      refine ex_bipush (v := (-2)) dX10_draw_28 (by decide) ?_
      exact ex_irt rfl dX10_draw_30 (mp_i (c := 0) (s' := s) (by unfold sp_draw; rw [hfo]; show (if _ then _ else _) = _; rw [if_pos hn]) ht1 h1 hF1)
    · by_cases hM0 : d_M s ys r = 0
      · refine ex_aload_n dX10_draw_5 0 rfl ?_
        refine ex_aload_n dX10_draw_6 0 rfl ?_
        refine ex_getI dX10_draw_7 fl_X10_102 hB.1.1 hB.1.2 ?_
        rw [hMS.1.1]
        refine ex_cVr [.int (nI (s_td s))] [] dX10_draw_10 cV_X10_203 (hcall) hB.1.1 hB.1.2 rfl rfl rfl (by decide) (Nat.le_of_ble_eq_true rfl) rfl ?_
        refine ex_istore_n [(1, .int (nI r)), (0, .ref m)] dX10_draw_13 (by decide) rfl ?_
        refine ex_iload_n dX10_draw_14 0 rfl ?_
        refine ex_if_ge (tgt := 20) dX10_draw_15 (by decide) (fun c15 => ?_) (fun c15 => absurd (nI_pos' (by omega)) c15)
        refine ex_aload_n dX10_draw_20 1 rfl ?_
        refine ex_getI dX10_draw_21 fl_X10_206 hB.1.1 hB.1.2 ?_
        refine ex_iconst (v := 2) dX10_draw_24 (by decide) ?_
        refine ex_icmp_ge (tgt := 31) dX10_draw_25 (by decide) (fun c25 => ?_) (fun c25 => absurd (by rw [hMN.1]; exact nI_le (a := 2) (by omega) (by omega)) c25)
        refine ex_iconst (v := 0) dX10_draw_31 (by decide) ?_
        refine ex_istore_n [(2, .int 0), (1, .int (nI r)), (0, .ref m)] dX10_draw_32 (by decide) rfl ?_
        refine ex_bipush (v := 10) dX10_draw_33 (by decide) ?_
        refine ex_iload_n dX10_draw_35 1 rfl ?_
        refine ex_imul dX10_draw_36 ?_
        refine ex_istore_n [(3, .int (10 * (nI r))), (2, .int 0), (1, .int (nI r)), (0, .ref m)] dX10_draw_37 (by decide) rfl ?_
        rw [show (10 : Int32) * nI r = nI (10 * r + 0) from pk_mul 10 r]
        refine ex_lv [0, 1, 3, 2] rfl ?_
        refine m_draw_b hB hMR hr hC (fun w => ?_) ((ru_at (s_rs s) r).2.length + 1) 0 0 (by omega) (by omega) rfl
        refine ex_aload_n dX10_draw_90 2 rfl ?_
        refine ex_iload_n dX10_draw_91 1 rfl ?_
        refine ex_cVg [.int (nI (d_dy s r))] [] dX10_draw_92 cV_X10_214 (m_sorts g h1 hG (days := d_dy s r) rfl (dy_le hC _ (Nat.le_refl _))) hB.1.1 hB.1.2 rfl rfl rfl (by decide) (Nat.le_of_ble_eq_true rfl) rfl ?_ (fun E S' n' k' h => by obtain ⟨h1, -⟩ := h; cases h1)
        rintro v' S2 n' k' ⟨hr2, hx2, hy2, hn2, hk2⟩
        cases hr2
        have hn2 := hn2.symm
        have hk2 := hk2.symm
        subst hn2 hk2
        clear hB hMS hMH hML hMT hMR hMN hMD hMW
        obtain ⟨hB, hMS, hMH, hML, hMT, hMR, hMN, hMD, hMW⟩ := id hx2.1
        show ex_W _ _ _ _ 95 [(3, .int w), (2, .int (nI (d_dy s r))), (0, .ref m), (1, .int (nI r))] [.long (lN (d_M s ys r))] S2 n k
        refine ex_lstore_n [(3, .long (lN (d_M s ys r))), (2, .int (nI (d_dy s r))), (0, .ref m), (1, .int (nI r))] dX10_draw_95 (by decide) rfl ?_
        refine ex_lload_n dX10_draw_96 0 rfl ?_
        refine ex_lconst (v := 0) dX10_draw_97 (by decide) ?_
        refine ex_lcmp dX10_draw_98 ?_
        refine ex_if_ne (tgt := 105) dX10_draw_99 (by decide) (fun c99 => absurd (by rw [hM0]; decide) c99) (fun c99 => ?_)
        refine ex_bipush (v := (-3)) dX10_draw_102 (by decide) ?_
        exact ex_irt rfl dX10_draw_104 (mp_i (c := 0) (s' := s) (by unfold sp_draw; rw [hfo]; show (if _ then _ else _) = _; rw [if_neg hn, if_pos hM0]) (hx2.2.2.trans ht1) hx2.1 (MF_tr hF1 hx2.2.1))
      · by_cases h40 : (s_ds s).length = 40
        · refine ex_aload_n dX10_draw_5 0 rfl ?_
          refine ex_aload_n dX10_draw_6 0 rfl ?_
          refine ex_getI dX10_draw_7 fl_X10_102 hB.1.1 hB.1.2 ?_
          rw [hMS.1.1]
          refine ex_cVr [.int (nI (s_td s))] [] dX10_draw_10 cV_X10_203 (hcall) hB.1.1 hB.1.2 rfl rfl rfl (by decide) (Nat.le_of_ble_eq_true rfl) rfl ?_
          refine ex_istore_n [(1, .int (nI r)), (0, .ref m)] dX10_draw_13 (by decide) rfl ?_
          refine ex_iload_n dX10_draw_14 0 rfl ?_
          refine ex_if_ge (tgt := 20) dX10_draw_15 (by decide) (fun c15 => ?_) (fun c15 => absurd (nI_pos' (by omega)) c15)
          refine ex_aload_n dX10_draw_20 1 rfl ?_
          refine ex_getI dX10_draw_21 fl_X10_206 hB.1.1 hB.1.2 ?_
          refine ex_iconst (v := 2) dX10_draw_24 (by decide) ?_
          refine ex_icmp_ge (tgt := 31) dX10_draw_25 (by decide) (fun c25 => ?_) (fun c25 => absurd (by rw [hMN.1]; exact nI_le (a := 2) (by omega) (by omega)) c25)
          refine ex_iconst (v := 0) dX10_draw_31 (by decide) ?_
          refine ex_istore_n [(2, .int 0), (1, .int (nI r)), (0, .ref m)] dX10_draw_32 (by decide) rfl ?_
          refine ex_bipush (v := 10) dX10_draw_33 (by decide) ?_
          refine ex_iload_n dX10_draw_35 1 rfl ?_
          refine ex_imul dX10_draw_36 ?_
          refine ex_istore_n [(3, .int (10 * (nI r))), (2, .int 0), (1, .int (nI r)), (0, .ref m)] dX10_draw_37 (by decide) rfl ?_
          rw [show (10 : Int32) * nI r = nI (10 * r + 0) from pk_mul 10 r]
          refine ex_lv [0, 1, 3, 2] rfl ?_
          refine m_draw_b hB hMR hr hC (fun w => ?_) ((ru_at (s_rs s) r).2.length + 1) 0 0 (by omega) (by omega) rfl
          refine ex_aload_n dX10_draw_90 2 rfl ?_
          refine ex_iload_n dX10_draw_91 1 rfl ?_
          refine ex_cVg [.int (nI (d_dy s r))] [] dX10_draw_92 cV_X10_214 (m_sorts g h1 hG (days := d_dy s r) rfl (dy_le hC _ (Nat.le_refl _))) hB.1.1 hB.1.2 rfl rfl rfl (by decide) (Nat.le_of_ble_eq_true rfl) rfl ?_ (fun E S' n' k' h => by obtain ⟨h1, -⟩ := h; cases h1)
          rintro v' S2 n' k' ⟨hr2, hx2, hy2, hn2, hk2⟩
          cases hr2
          have hn2 := hn2.symm
          have hk2 := hk2.symm
          subst hn2 hk2
          clear hB hMS hMH hML hMT hMR hMN hMD hMW
          obtain ⟨hB, hMS, hMH, hML, hMT, hMR, hMN, hMD, hMW⟩ := id hx2.1
          show ex_W _ _ _ _ 95 [(3, .int w), (2, .int (nI (d_dy s r))), (0, .ref m), (1, .int (nI r))] [.long (lN (d_M s ys r))] S2 n k
          refine ex_lstore_n [(3, .long (lN (d_M s ys r))), (2, .int (nI (d_dy s r))), (0, .ref m), (1, .int (nI r))] dX10_draw_95 (by decide) rfl ?_
          refine ex_lload_n dX10_draw_96 0 rfl ?_
          refine ex_lconst (v := 0) dX10_draw_97 (by decide) ?_
          refine ex_lcmp dX10_draw_98 ?_
          refine ex_if_ne (tgt := 105) dX10_draw_99 (by decide) (fun c99 => ?_) (fun c99 => absurd c99 (fun z => hM0 ((lg_eqN (b := 0) (by omega) (by decide)).mp z)))
          refine ex_aload_n dX10_draw_105 2 rfl ?_
          refine ex_getI dX10_draw_106 fl_X10_218 hB.1.1 hB.1.2 ?_
          refine ex_bipush (v := 40) dX10_draw_109 (by decide) ?_
          refine ex_icmp_ne (tgt := 117) dX10_draw_111 (by decide) (fun c111 => absurd (by rw [hMD.1, h40]; decide) c111) (fun c111 => ?_)
          refine ex_bipush (v := (-4)) dX10_draw_114 (by decide) ?_
          exact ex_irt rfl dX10_draw_116 (mp_i (c := 0) (s' := s) (by unfold sp_draw; rw [hfo]; show (if _ then _ else _) = _; rw [if_neg hn, if_neg hM0, if_pos h40]) (hx2.2.2.trans ht1) hx2.1 (MF_tr hF1 hx2.2.1))
        · refine ex_aload_n dX10_draw_5 0 rfl ?_
          refine ex_aload_n dX10_draw_6 0 rfl ?_
          refine ex_getI dX10_draw_7 fl_X10_102 hB.1.1 hB.1.2 ?_
          rw [hMS.1.1]
          refine ex_cVr [.int (nI (s_td s))] [] dX10_draw_10 cV_X10_203 (hcall) hB.1.1 hB.1.2 rfl rfl rfl (by decide) (Nat.le_of_ble_eq_true rfl) rfl ?_
          refine ex_istore_n [(1, .int (nI r)), (0, .ref m)] dX10_draw_13 (by decide) rfl ?_
          refine ex_iload_n dX10_draw_14 0 rfl ?_
          refine ex_if_ge (tgt := 20) dX10_draw_15 (by decide) (fun c15 => ?_) (fun c15 => absurd (nI_pos' (by omega)) c15)
          refine ex_aload_n dX10_draw_20 1 rfl ?_
          refine ex_getI dX10_draw_21 fl_X10_206 hB.1.1 hB.1.2 ?_
          refine ex_iconst (v := 2) dX10_draw_24 (by decide) ?_
          refine ex_icmp_ge (tgt := 31) dX10_draw_25 (by decide) (fun c25 => ?_) (fun c25 => absurd (by rw [hMN.1]; exact nI_le (a := 2) (by omega) (by omega)) c25)
          refine ex_iconst (v := 0) dX10_draw_31 (by decide) ?_
          refine ex_istore_n [(2, .int 0), (1, .int (nI r)), (0, .ref m)] dX10_draw_32 (by decide) rfl ?_
          refine ex_bipush (v := 10) dX10_draw_33 (by decide) ?_
          refine ex_iload_n dX10_draw_35 1 rfl ?_
          refine ex_imul dX10_draw_36 ?_
          refine ex_istore_n [(3, .int (10 * (nI r))), (2, .int 0), (1, .int (nI r)), (0, .ref m)] dX10_draw_37 (by decide) rfl ?_
          rw [show (10 : Int32) * nI r = nI (10 * r + 0) from pk_mul 10 r]
          refine ex_lv [0, 1, 3, 2] rfl ?_
          refine m_draw_b hB hMR hr hC (fun w => ?_) ((ru_at (s_rs s) r).2.length + 1) 0 0 (by omega) (by omega) rfl
          refine ex_aload_n dX10_draw_90 2 rfl ?_
          refine ex_iload_n dX10_draw_91 1 rfl ?_
          refine ex_cVg [.int (nI (d_dy s r))] [] dX10_draw_92 cV_X10_214 (m_sorts g h1 hG (days := d_dy s r) rfl (dy_le hC _ (Nat.le_refl _))) hB.1.1 hB.1.2 rfl rfl rfl (by decide) (Nat.le_of_ble_eq_true rfl) rfl ?_ (fun E S' n' k' h => by obtain ⟨h1, -⟩ := h; cases h1)
          rintro v' S2 n' k' ⟨hr2, hx2, hy2, hn2, hk2⟩
          cases hr2
          have hn2 := hn2.symm
          have hk2 := hk2.symm
          subst hn2 hk2
          clear hB hMS hMH hML hMT hMR hMN hMD hMW
          obtain ⟨hB, hMS, hMH, hML, hMT, hMR, hMN, hMD, hMW⟩ := id hx2.1
          show ex_W _ _ _ _ 95 [(3, .int w), (2, .int (nI (d_dy s r))), (0, .ref m), (1, .int (nI r))] [.long (lN (d_M s ys r))] S2 n k
          refine ex_lstore_n [(3, .long (lN (d_M s ys r))), (2, .int (nI (d_dy s r))), (0, .ref m), (1, .int (nI r))] dX10_draw_95 (by decide) rfl ?_
          refine ex_lload_n dX10_draw_96 0 rfl ?_
          refine ex_lconst (v := 0) dX10_draw_97 (by decide) ?_
          refine ex_lcmp dX10_draw_98 ?_
          refine ex_if_ne (tgt := 105) dX10_draw_99 (by decide) (fun c99 => ?_) (fun c99 => absurd c99 (fun z => hM0 ((lg_eqN (b := 0) (by omega) (by decide)).mp z)))
          refine ex_aload_n dX10_draw_105 2 rfl ?_
          refine ex_getI dX10_draw_106 fl_X10_218 hB.1.1 hB.1.2 ?_
          refine ex_bipush (v := 40) dX10_draw_109 (by decide) ?_
          refine ex_icmp_ne (tgt := 117) dX10_draw_111 (by decide) (fun c111 => ?_) (fun c111 => absurd c111 (fun z => h40 ((nI_eq (b := 40) (by omega) (by decide)).mp (hMD.1.symm.trans z))))
          refine ex_aload_n dX10_draw_117 2 rfl ?_
          refine ex_ldc2 dX10_draw_118 lc_X10_221 ?_
          refine ex_lload_n dX10_draw_121 0 rfl ?_
          refine ex_cVr [.long 31, .long (lN (d_M s ys r))] [] dX10_draw_122 cV_X10_223 (m_mix g hB hMN (f := 31) (Mm := d_M s ys r) rfl rfl (by decide) (by omega) hMle) hB.1.1 hB.1.2 rfl rfl rfl (by decide) (Nat.le_of_ble_eq_true rfl) rfl ?_
          refine ex_lstore [(5, .long (lN (d_st s ys r))), (3, .long (lN (d_M s ys r))), (2, .int (nI (d_dy s r))), (0, .ref m), (1, .int (nI r))] dX10_draw_125 (by decide) rfl ?_
          refine ex_lconst (v := 1) dX10_draw_127 (by decide) ?_
          refine ex_aload_n dX10_draw_128 3 rfl ?_
          refine ex_ldc2 dX10_draw_129 lc_X10_227 ?_
          refine ex_lload_n dX10_draw_132 1 rfl ?_
          refine ex_cVr [.long 37, .long (lN (d_M s ys r))] [.long 1] dX10_draw_133 cV_X10_223 (m_mix g hB hMN (f := 37) (Mm := d_M s ys r) rfl rfl (by decide) (by omega) hMle) hB.1.1 hB.1.2 rfl rfl rfl (by decide) (Nat.le_of_ble_eq_true rfl) rfl ?_
          refine ex_ladd dX10_draw_136 ?_
          refine ex_lstore [(7, .long (1 + (lN (mx (s_ns s) 37 (d_M s ys r) (s_ns s).length)))), (5, .long (lN (d_st s ys r))), (3, .long (lN (d_M s ys r))), (2, .int (nI (d_dy s r))), (0, .ref m), (1, .int (nI r))] dX10_draw_137 (by decide) rfl ?_
          refine ex_lv [0, 1, 2, 4, 5, 3] rfl ?_
          rw [show (1 : Int64) + lN (mx (s_ns s) 37 (d_M s ys r) (s_ns s).length) = lN (1 + mx (s_ns s) 37 (d_M s ys r) (s_ns s).length) from lN_add 1 _]
          have hmx := mx_lt (s_ns s) 37 (M := d_M s ys r) (by omega) (s_ns s).length
          refine m_draw_e (R := d_sp s ys r) hMle ?_ (d_M s ys r + 2) _ (by omega) (by omega) rfl
          refine ex_iconst (v := 0) dX10_draw_159 (by decide) ?_
          refine ex_istore [(9, .int 0), (7, .long (lN (d_sp s ys r))), (5, .long (lN (d_st s ys r))), (3, .long (lN (d_M s ys r))), (0, .ref m), (1, .int (nI r)), (2, .int (nI (d_dy s r)))] dX10_draw_160 (by decide) rfl ?_
          refine m_draw_f (S0 := S1) (s := s) (zs := d_zs s ys r) hO.2.2.2.1 (fun S3 h3 => ?_) ((s_ws s).length + 1) 0 S2 (by omega) (by omega) ⟨hx2, hy2⟩
          change DX S1 S3 m ad (w_cr (w_ws s (d_ws s)) (d_cr s)) (d_zs s ys r) at h3
          clear hB hMS hMH hML hMT hMR hMN hMD hMW
          obtain ⟨hB, hMS, hMH, hML, hMT, hMR, hMN, hMD, hMW⟩ := id h3.1.1
          obtain ⟨hb1, hb2, hb3⟩ := d_bd h1 hO hG hr (by omega)
          have hmx := mx_lt (s_ns s) 37 (M := d_M s ys r) (by omega) (s_ns s).length
          have hwl : (d_ws s).length = (s_ws s).length := lp_len _ _ _
          refine ex_aload_n dX10_draw_243 3 rfl ?_
          refine ex_cVr [] [] dX10_draw_244 cV_X10_238 (m_heldNow g hB hML) hB.1.1 hB.1.2 rfl rfl rfl (by decide) (Nat.le_of_ble_eq_true rfl) rfl ?_
          refine ex_lstore [(9, .long (lN (d_H s))), (7, .long (lN (d_sp s ys r))), (5, .long (lN (d_st s ys r))), (3, .long (lN (d_M s ys r))), (0, .ref m), (1, .int (nI r)), (2, .int (nI (d_dy s r)))] dX10_draw_247 (by decide) rfl ?_
          refine ex_aload_n dX10_draw_249 4 rfl ?_
          refine ex_getJ dX10_draw_250 fl_X10_234 hB.1.1 hB.1.2 ?_
          rw [hMS.1.2.2.2]
          show ex_W _ _ _ _ 253 [(9, .long (lN (d_H s))), (7, .long (lN (d_sp s ys r))), (5, .long (lN (d_st s ys r))), (3, .long (lN (d_M s ys r))), (0, .ref m), (1, .int (nI r)), (2, .int (nI (d_dy s r)))] [.long (lN (d_cr s))] _ _ _
          refine ex_lstore [(11, .long (lN (d_cr s))), (9, .long (lN (d_H s))), (7, .long (lN (d_sp s ys r))), (5, .long (lN (d_st s ys r))), (3, .long (lN (d_M s ys r))), (0, .ref m), (1, .int (nI r)), (2, .int (nI (d_dy s r)))] dX10_draw_253 (by decide) rfl ?_
          refine ex_bipush (v := 10) dX10_draw_255 (by decide) ?_
          refine ex_iload_n dX10_draw_257 6 rfl ?_
          refine ex_imul dX10_draw_258 ?_
          refine ex_istore [(13, .int (10 * (nI r))), (11, .long (lN (d_cr s))), (9, .long (lN (d_H s))), (7, .long (lN (d_sp s ys r))), (5, .long (lN (d_st s ys r))), (3, .long (lN (d_M s ys r))), (0, .ref m), (1, .int (nI r)), (2, .int (nI (d_dy s r)))] dX10_draw_259 (by decide) rfl ?_
          rw [show (10 : Int32) * nI r = nI (10 * r + 0) from pk_mul 10 r]
          refine ex_lv [0, 1, 2, 3, 4, 5, 6, 7, 8] rfl ?_
          refine m_draw_g (H := d_H s) (c0 := d_cr s) (rs := s_rs s) hB hMR hr hC (by omega) ?_ ((ru_at (s_rs s) r).2.length + 1) 0 _ (by omega) (by omega) rfl
          refine m_draw_h (S0 := S1) (s := w_cr (w_ws s (d_ws s)) (d_cr s)) (r := r) (F := d_F s r) (sp := d_sp s ys r) (st := d_st s ys r) (Mm := d_M s ys r) h3 (by show (s_ds s).length < 40; omega) (by omega) (fun S4 h4 hv4 => ?_)
          clear hB hMS hMH hML hMT hMR hMN hMD hMW
          obtain ⟨hB, hMS, hMH, hML, hMT, hMR, hMN, hMD, hMW⟩ := id h4.1.1
          refine ex_lload dX10_draw_410 1 rfl ?_
          refine ex_lstore [(14, .long (lN (d_F s r))), (13, .int (nI (9 * (s_ds s).length))), (11, .long (lN (d_F s r))), (7, .long (lN (d_sp s ys r))), (5, .long (lN (d_st s ys r))), (3, .long (lN (d_M s ys r))), (0, .ref m), (1, .int (nI r)), (2, .int (nI (d_dy s r)))] dX10_draw_412 (by decide) rfl ?_
          refine ex_lload dX10_draw_414 4 rfl ?_
          refine ex_lstore [(16, .long (lN (d_st s ys r))), (14, .long (lN (d_F s r))), (13, .int (nI (9 * (s_ds s).length))), (11, .long (lN (d_F s r))), (7, .long (lN (d_sp s ys r))), (5, .long (lN (d_st s ys r))), (3, .long (lN (d_M s ys r))), (0, .ref m), (1, .int (nI r)), (2, .int (nI (d_dy s r)))] dX10_draw_416 (by decide) rfl ?_
          refine ex_iconst (v := 0) dX10_draw_418 (by decide) ?_
          refine ex_istore [(18, .int 0), (16, .long (lN (d_st s ys r))), (14, .long (lN (d_F s r))), (13, .int (nI (9 * (s_ds s).length))), (11, .long (lN (d_F s r))), (7, .long (lN (d_sp s ys r))), (5, .long (lN (d_st s ys r))), (3, .long (lN (d_M s ys r))), (0, .ref m), (1, .int (nI r)), (2, .int (nI (d_dy s r)))] dX10_draw_419 (by decide) rfl ?_
          refine ex_bipush (v := 10) dX10_draw_421 (by decide) ?_
          refine ex_iload_n dX10_draw_423 9 rfl ?_
          refine ex_imul dX10_draw_424 ?_
          refine ex_istore [(19, .int (10 * (nI r))), (18, .int 0), (16, .long (lN (d_st s ys r))), (14, .long (lN (d_F s r))), (13, .int (nI (9 * (s_ds s).length))), (11, .long (lN (d_F s r))), (7, .long (lN (d_sp s ys r))), (5, .long (lN (d_st s ys r))), (3, .long (lN (d_M s ys r))), (0, .ref m), (1, .int (nI r)), (2, .int (nI (d_dy s r)))] dX10_draw_425 (by decide) rfl ?_
          refine ex_lv [0, 1, 2, 3, 4, 5, 6, 7, 8, 9, 10, 11] rfl ?_
          refine m_draw_o0 (S0 := S1) (s := w_cr (w_ws s (d_ws s)) (d_cr s)) (zs := d_zs s ys r) (a0 := (0, d_F s r, d_ws s)) (F := d_F s r) (sp := d_sp s ys r) (st := d_st s ys r) (Mm := d_M s ys r) (by omega) rfl hMle (nx_le _ _ _ (by omega)) (mx_lt _ _ (by omega) _) hb2 (by show (d_ws s).length + 50 ≤ 2000; omega) (by show (s_ds s).length < 40; omega) (Nat.le_trans (el_len (ML_fl h1.2.2.2.1) hG) h1.2.2.2.1.2.1) (zs_lt hG) hr hC (fun S5 h5 => ?_) rfl (pk_mul 10 r) rfl rfl rfl ⟨h4, hv4, Nat.zero_le _, Nat.le_refl _, rfl⟩
          refine m_draw_j (S0 := S1) (s := w_cr (w_ws s (d_ws s)) (d_cr s)) (zs := d_zs s ys r) (a := d_a s ys r) (F := d_F s r) (sp := d_sp s ys r) (st := d_st s ys r) (Mm := d_M s ys r) h5 (by show (s_ds s).length < 40; omega) hF1 ht1 ?_
          unfold sp_draw
          rw [hfo]
          show (if _ then _ else _) = _
          rw [if_neg hn, if_neg hM0, if_neg h40]
          show (0, _, d_s s ys r) = (0, _, w_cr (w_ns (w_ds (w_ws s (d_a s ys r).2.2) (s_ds s ++ [drf (s_td s) r (d_M s ys r) (d_st s ys r) (d_sp s ys r) (d_F s r) (d_ws s).length (d_a s ys r).1 (d_a s ys r).2.1])) []) (d_a s ys r).2.1)
          rw [hwl]
          rfl
