theorem sg_l {q : Nat} (h : q < 128) : (sg q).toInt64 = lN q := by
  unfold sg; rw [if_pos h]; exact nI_l (by omega)
set_option maxRecDepth 20000 in
set_option maxHeartbeats 4000000 in
theorem r_exp_5 (g : gl_T) {S : hs_T} {n k : Nat} {r tp N : Nat} {T : List Int32} {p : ps_T} (hP : RS S r tp T N p)  : ex_M g 5 mX7_expect [.ref r, .ref (g.2.2.2.2 15)] S n k (rq S r tp n k T N (p_sign (pb T N) N 47 p) none) := by
  have hN4 := hP.2.2.2.2.1
  have hpN := hP.2.2.2.2.2.1
  refine ex_enter (by decide +kernel) (Nat.le_of_ble_eq_true rfl) ?_
  show ex_W _ _ _ _ 0 [(0, .ref r), (1, .ref (g.2.2.2.2 15))] [] _ _ _
  refine ex_aload_n dX7_expect_0 0 rfl ?_
  refine ex_getI dX7_expect_1 fl_X7_15 hP.1.1 hP.1.2 ?_
  refine ex_if_eq (tgt := 8) dX7_expect_4 (by decide) (fun c4 => ?_) (fun c4 => ?_)
  · refine ex_aload_n dX7_expect_8 0 rfl ?_
    refine ex_cVg [] [] dX7_expect_9 cV_X7_28 (r_skip g hP) hP.1.1 hP.1.2 rfl rfl rfl (by decide) (Nat.le_of_ble_eq_true rfl) rfl ?_ (fun E S' n' k' h => by obtain ⟨h1, -⟩ := h; cases h1)
    rintro v' S2 n' k' ⟨hr, hP2, hG2, hn, hk⟩
    cases hr
    have hn := hn.symm
    have hk := hk.symm
    subst hn hk
    have hF2 := hs_fr_tr (hs_fr_rf S [r]) hG2
    show ex_W _ _ _ _ 12 [(0, .ref r), (1, .ref (g.2.2.2.2 15))] [] S2 n k
    refine ex_aload_n dX7_expect_12 0 rfl ?_
    refine ex_aload_n dX7_expect_13 0 rfl ?_
    refine ex_getI dX7_expect_14 fl_X7_9 hP2.1.1 hP2.1.2 ?_
    refine ex_cVr [.int (hs_I S2 r 2)] [] dX7_expect_17 cV_X7_101 (r_eot g hP2 hP2.2.1.2.2.1 hP2.2.2.2.2.2.1) hP2.1.1 hP2.1.2 rfl rfl rfl (by decide) (Nat.le_of_ble_eq_true rfl) rfl ?_
    refine ex_istore_n [(2, .int (nI (tk (pb T N) N (sk (pb T N) N p.1)))), (0, .ref r), (1, .ref (g.2.2.2.2 15))] dX7_expect_20 (by decide) rfl ?_
    refine ex_aload_n dX7_expect_21 1 rfl ?_
    refine ex_aload_n dX7_expect_22 1 rfl ?_
    refine ex_getI dX7_expect_23 fl_X7_9 hP2.1.1 hP2.1.2 ?_
    refine ex_iload_n dX7_expect_26 0 rfl ?_
    refine ex_aload_n dX7_expect_27 2 rfl ?_
    refine ex_cVr [.int (hs_I S2 r 2), .int (nI (tk (pb T N) N (sk (pb T N) N p.1))), .ref (g.2.2.2.2 15)] [] dX7_expect_28 cV_X7_112 (r_isTok_5 g hP2 hP2.2.1.2.2.1 rfl (tk_ge _ _ _) (tk_le _ hP2.2.2.2.2.2.1)) hP2.1.1 hP2.1.2 rfl rfl rfl (by decide) (Nat.le_of_ble_eq_true rfl) rfl ?_
    refine ex_if_eq (tgt := 42) dX7_expect_31 (by decide) (fun c31 => ?_) (fun c31 => ?_)
    · change (if tk (pb T N) N (sk (pb T N) N p.1) - sk (pb T N) N p.1 = 1 ∧ mt (pb T N) (sk (pb T N) N p.1) [47] then 1 else 0) = 0 at c31
      have hc : ¬ (sk (pb T N) N p.1 < N ∧ pb T N (sk (pb T N) N p.1) = 47) := fun z => by
        have z9 : tk (pb T N) N (sk (pb T N) N p.1) - sk (pb T N) N p.1 = 1 ∧ mt (pb T N) (sk (pb T N) N p.1) [47] := (tk_sg (pb_0 T N) (by decide) (by decide)).mpr z
        rw [if_pos z9] at c31; exact absurd c31 (by decide)
      refine ex_aload_n dX7_expect_42 1 rfl ?_
      refine ex_iconst (v := 1) dX7_expect_43 (by decide) ?_
      refine ex_aload_n dX7_expect_44 1 rfl ?_
      refine ex_getI dX7_expect_45 fl_X7_9 hP2.1.1 hP2.1.2 ?_
      refine ex_cVg [.int 1, .int (hs_I S2 r 2)] [] dX7_expect_48 cV_X7_39 (r_blame g hP2 (c := 1) rfl (by decide) hP2.2.1.2.2.1) hP2.1.1 hP2.1.2 rfl rfl rfl (by decide) (Nat.le_of_ble_eq_true rfl) rfl ?_ (fun E S' n' k' h => by obtain ⟨h1, -⟩ := h; cases h1)
      rintro v' S3 n' k' ⟨hr, hP3, hG3, hn, hk⟩
      cases hr
      have hn := hn.symm
      have hk := hk.symm
      subst hn hk
      have hF3 := hs_fr_tr hF2 hG3
      show ex_W _ _ _ _ 51 [(2, .int (nI (tk (pb T N) N (sk (pb T N) N p.1)))), (0, .ref r), (1, .ref (g.2.2.2.2 15))] [] S3 n k
      exact ex_vrt rfl dX7_expect_51 ⟨rfl, by unfold p_sign; rw [if_neg (fun z => by have z2 := (nI_eq (b := 0) (by have := hP.2.2.2.2.2.2; omega) (by decide)).mp (hP.2.1.2.2.2.1.symm.trans c4); omega), if_neg hc]; unfold p_wr; rw [if_neg (show ¬ 0 < (p_bl (pb T N) N p).2.1 from (show ¬ 0 < p.2.1 from (fun z => by have z2 := (nI_eq (b := 0) (by have := hP.2.2.2.2.2.2; omega) (by decide)).mp (hP.2.1.2.2.2.1.symm.trans c4); omega)))]; exact hP3, hF3, rfl, rfl⟩
    · change ¬ (if tk (pb T N) N (sk (pb T N) N p.1) - sk (pb T N) N p.1 = 1 ∧ mt (pb T N) (sk (pb T N) N p.1) [47] then 1 else 0) = 0 at c31
      have hc : (sk (pb T N) N p.1 < N ∧ pb T N (sk (pb T N) N p.1) = 47) := by
        by_cases z : tk (pb T N) N (sk (pb T N) N p.1) - sk (pb T N) N p.1 = 1 ∧ mt (pb T N) (sk (pb T N) N p.1) [47]
        · exact (tk_sg (pb_0 T N) (by decide) (by decide)).mp z
        · rw [if_neg z] at c31; exact absurd rfl c31
      have ht1 : tk (pb T N) N (sk (pb T N) N p.1) = sk (pb T N) N p.1 + 1 := by have z := ((tk_sg (pb_0 T N) (by decide) (by decide)).mpr hc).1; have := tk_ge (pb T N) N (sk (pb T N) N p.1); simp only [List.length_singleton] at z; omega
      refine ex_aload_n dX7_expect_34 1 rfl ?_
      refine ex_iload_n dX7_expect_35 0 rfl ?_
      refine ex_putI dX7_expect_36 fl_X7_9 (pf_X7_9 _) hP2.1.1 hP2.1.2 ?_
      refine ex_goto (tgt := 51) dX7_expect_39 (by decide) ?_
      exact ex_vrt rfl dX7_expect_51 ⟨rfl, by unfold p_sign; rw [if_neg (fun z => by have z2 := (nI_eq (b := 0) (by have := hP.2.2.2.2.2.2; omega) (by decide)).mp (hP.2.1.2.2.2.1.symm.trans c4); omega), if_pos hc]; exact RS_at hP2 (by rw [ht1]) (by have := tk_le (pb T N) (N := N) (a := sk (pb T N) N p.1) hP2.2.2.2.2.2.1; omega), hs_fr_tr hF2 (hs_fr_sI _ _ _ _), rfl, rfl⟩
  · exact ex_vrt rfl dX7_expect_7 ⟨rfl, by unfold p_sign; rw [if_pos (Nat.pos_of_ne_zero (fun z => c4 (by rw [hP.2.1.2.2.2.1, z]; rfl)))]; exact hP, hs_fr_rf _ _, rfl, rfl⟩
set_option maxRecDepth 20000 in
set_option maxHeartbeats 4000000 in
theorem r_exp_6 (g : gl_T) {S : hs_T} {n k : Nat} {r tp N : Nat} {T : List Int32} {p : ps_T} (hP : RS S r tp T N p)  : ex_M g 5 mX7_expect [.ref r, .ref (g.2.2.2.2 16)] S n k (rq S r tp n k T N (p_need (pb T N) N [120] p) none) := by
  have hN4 := hP.2.2.2.2.1
  have hpN := hP.2.2.2.2.2.1
  refine ex_enter (by decide +kernel) (Nat.le_of_ble_eq_true rfl) ?_
  show ex_W _ _ _ _ 0 [(0, .ref r), (1, .ref (g.2.2.2.2 16))] [] _ _ _
  refine ex_aload_n dX7_expect_0 0 rfl ?_
  refine ex_getI dX7_expect_1 fl_X7_15 hP.1.1 hP.1.2 ?_
  refine ex_if_eq (tgt := 8) dX7_expect_4 (by decide) (fun c4 => ?_) (fun c4 => ?_)
  · refine ex_aload_n dX7_expect_8 0 rfl ?_
    refine ex_cVg [] [] dX7_expect_9 cV_X7_28 (r_skip g hP) hP.1.1 hP.1.2 rfl rfl rfl (by decide) (Nat.le_of_ble_eq_true rfl) rfl ?_ (fun E S' n' k' h => by obtain ⟨h1, -⟩ := h; cases h1)
    rintro v' S2 n' k' ⟨hr, hP2, hG2, hn, hk⟩
    cases hr
    have hn := hn.symm
    have hk := hk.symm
    subst hn hk
    have hF2 := hs_fr_tr (hs_fr_rf S [r]) hG2
    show ex_W _ _ _ _ 12 [(0, .ref r), (1, .ref (g.2.2.2.2 16))] [] S2 n k
    refine ex_aload_n dX7_expect_12 0 rfl ?_
    refine ex_aload_n dX7_expect_13 0 rfl ?_
    refine ex_getI dX7_expect_14 fl_X7_9 hP2.1.1 hP2.1.2 ?_
    refine ex_cVr [.int (hs_I S2 r 2)] [] dX7_expect_17 cV_X7_101 (r_eot g hP2 hP2.2.1.2.2.1 hP2.2.2.2.2.2.1) hP2.1.1 hP2.1.2 rfl rfl rfl (by decide) (Nat.le_of_ble_eq_true rfl) rfl ?_
    refine ex_istore_n [(2, .int (nI (tk (pb T N) N (sk (pb T N) N p.1)))), (0, .ref r), (1, .ref (g.2.2.2.2 16))] dX7_expect_20 (by decide) rfl ?_
    refine ex_aload_n dX7_expect_21 1 rfl ?_
    refine ex_aload_n dX7_expect_22 1 rfl ?_
    refine ex_getI dX7_expect_23 fl_X7_9 hP2.1.1 hP2.1.2 ?_
    refine ex_iload_n dX7_expect_26 0 rfl ?_
    refine ex_aload_n dX7_expect_27 2 rfl ?_
    refine ex_cVr [.int (hs_I S2 r 2), .int (nI (tk (pb T N) N (sk (pb T N) N p.1))), .ref (g.2.2.2.2 16)] [] dX7_expect_28 cV_X7_112 (r_isTok_6 g hP2 hP2.2.1.2.2.1 rfl (tk_ge _ _ _) (tk_le _ hP2.2.2.2.2.2.1)) hP2.1.1 hP2.1.2 rfl rfl rfl (by decide) (Nat.le_of_ble_eq_true rfl) rfl ?_
    refine ex_if_eq (tgt := 42) dX7_expect_31 (by decide) (fun c31 => ?_) (fun c31 => ?_)
    · change (if tk (pb T N) N (sk (pb T N) N p.1) - sk (pb T N) N p.1 = 1 ∧ mt (pb T N) (sk (pb T N) N p.1) [120] then 1 else 0) = 0 at c31
      have hc : ¬ (wd (pb T N) (sk (pb T N) N p.1) [120]) := fun z => by
        have z9 : tk (pb T N) N (sk (pb T N) N p.1) - sk (pb T N) N p.1 = 1 ∧ mt (pb T N) (sk (pb T N) N p.1) [120] := (tk_wd (pb_0 T N) (by decide)).mpr z
        rw [if_pos z9] at c31; exact absurd c31 (by decide)
      refine ex_aload_n dX7_expect_42 1 rfl ?_
      refine ex_iconst (v := 1) dX7_expect_43 (by decide) ?_
      refine ex_aload_n dX7_expect_44 1 rfl ?_
      refine ex_getI dX7_expect_45 fl_X7_9 hP2.1.1 hP2.1.2 ?_
      refine ex_cVg [.int 1, .int (hs_I S2 r 2)] [] dX7_expect_48 cV_X7_39 (r_blame g hP2 (c := 1) rfl (by decide) hP2.2.1.2.2.1) hP2.1.1 hP2.1.2 rfl rfl rfl (by decide) (Nat.le_of_ble_eq_true rfl) rfl ?_ (fun E S' n' k' h => by obtain ⟨h1, -⟩ := h; cases h1)
      rintro v' S3 n' k' ⟨hr, hP3, hG3, hn, hk⟩
      cases hr
      have hn := hn.symm
      have hk := hk.symm
      subst hn hk
      have hF3 := hs_fr_tr hF2 hG3
      show ex_W _ _ _ _ 51 [(2, .int (nI (tk (pb T N) N (sk (pb T N) N p.1)))), (0, .ref r), (1, .ref (g.2.2.2.2 16))] [] S3 n k
      exact ex_vrt rfl dX7_expect_51 ⟨rfl, by unfold p_need; rw [if_neg (fun z => by have z2 := (nI_eq (b := 0) (by have := hP.2.2.2.2.2.2; omega) (by decide)).mp (hP.2.1.2.2.2.1.symm.trans c4); omega), if_neg hc]; unfold p_wr; rw [if_neg (show ¬ 0 < (p_bl (pb T N) N p).2.1 from (show ¬ 0 < p.2.1 from (fun z => by have z2 := (nI_eq (b := 0) (by have := hP.2.2.2.2.2.2; omega) (by decide)).mp (hP.2.1.2.2.2.1.symm.trans c4); omega)))]; exact hP3, hF3, rfl, rfl⟩
    · change ¬ (if tk (pb T N) N (sk (pb T N) N p.1) - sk (pb T N) N p.1 = 1 ∧ mt (pb T N) (sk (pb T N) N p.1) [120] then 1 else 0) = 0 at c31
      have hc : (wd (pb T N) (sk (pb T N) N p.1) [120]) := by
        by_cases z : tk (pb T N) N (sk (pb T N) N p.1) - sk (pb T N) N p.1 = 1 ∧ mt (pb T N) (sk (pb T N) N p.1) [120]
        · exact (tk_wd (pb_0 T N) (by decide)).mp z
        · rw [if_neg z] at c31; exact absurd rfl c31
      have ht1 : tk (pb T N) N (sk (pb T N) N p.1) = sk (pb T N) N p.1 + 1 := by have z := ((tk_wd (pb_0 T N) (by decide)).mpr hc).1; have := tk_ge (pb T N) N (sk (pb T N) N p.1); simp only [List.length_singleton] at z; omega
      refine ex_aload_n dX7_expect_34 1 rfl ?_
      refine ex_iload_n dX7_expect_35 0 rfl ?_
      refine ex_putI dX7_expect_36 fl_X7_9 (pf_X7_9 _) hP2.1.1 hP2.1.2 ?_
      refine ex_goto (tgt := 51) dX7_expect_39 (by decide) ?_
      exact ex_vrt rfl dX7_expect_51 ⟨rfl, by unfold p_need; rw [if_neg (fun z => by have z2 := (nI_eq (b := 0) (by have := hP.2.2.2.2.2.2; omega) (by decide)).mp (hP.2.1.2.2.2.1.symm.trans c4); omega), if_pos hc]; exact RS_at hP2 (by rw [ht1]; rfl) (by have := tk_le (pb T N) (N := N) (a := sk (pb T N) N p.1) hP2.2.2.2.2.2.1; show _ + 1 ≤ N; omega), hs_fr_tr hF2 (hs_fr_sI _ _ _ _), rfl, rfl⟩
  · exact ex_vrt rfl dX7_expect_7 ⟨rfl, by unfold p_need; rw [if_pos (Nat.pos_of_ne_zero (fun z => c4 (by rw [hP.2.1.2.2.2.1, z]; rfl)))]; exact hP, hs_fr_rf _ _, rfl, rfl⟩
set_option maxRecDepth 20000 in
set_option maxHeartbeats 4000000 in
theorem r_exp_7 (g : gl_T) {S : hs_T} {n k : Nat} {r tp N : Nat} {T : List Int32} {p : ps_T} (hP : RS S r tp T N p)  : ex_M g 5 mX7_expect [.ref r, .ref (g.2.2.2.2 17)] S n k (rq S r tp n k T N (p_sign (pb T N) N 59 p) none) := by
  have hN4 := hP.2.2.2.2.1
  have hpN := hP.2.2.2.2.2.1
  refine ex_enter (by decide +kernel) (Nat.le_of_ble_eq_true rfl) ?_
  show ex_W _ _ _ _ 0 [(0, .ref r), (1, .ref (g.2.2.2.2 17))] [] _ _ _
  refine ex_aload_n dX7_expect_0 0 rfl ?_
  refine ex_getI dX7_expect_1 fl_X7_15 hP.1.1 hP.1.2 ?_
  refine ex_if_eq (tgt := 8) dX7_expect_4 (by decide) (fun c4 => ?_) (fun c4 => ?_)
  · refine ex_aload_n dX7_expect_8 0 rfl ?_
    refine ex_cVg [] [] dX7_expect_9 cV_X7_28 (r_skip g hP) hP.1.1 hP.1.2 rfl rfl rfl (by decide) (Nat.le_of_ble_eq_true rfl) rfl ?_ (fun E S' n' k' h => by obtain ⟨h1, -⟩ := h; cases h1)
    rintro v' S2 n' k' ⟨hr, hP2, hG2, hn, hk⟩
    cases hr
    have hn := hn.symm
    have hk := hk.symm
    subst hn hk
    have hF2 := hs_fr_tr (hs_fr_rf S [r]) hG2
    show ex_W _ _ _ _ 12 [(0, .ref r), (1, .ref (g.2.2.2.2 17))] [] S2 n k
    refine ex_aload_n dX7_expect_12 0 rfl ?_
    refine ex_aload_n dX7_expect_13 0 rfl ?_
    refine ex_getI dX7_expect_14 fl_X7_9 hP2.1.1 hP2.1.2 ?_
    refine ex_cVr [.int (hs_I S2 r 2)] [] dX7_expect_17 cV_X7_101 (r_eot g hP2 hP2.2.1.2.2.1 hP2.2.2.2.2.2.1) hP2.1.1 hP2.1.2 rfl rfl rfl (by decide) (Nat.le_of_ble_eq_true rfl) rfl ?_
    refine ex_istore_n [(2, .int (nI (tk (pb T N) N (sk (pb T N) N p.1)))), (0, .ref r), (1, .ref (g.2.2.2.2 17))] dX7_expect_20 (by decide) rfl ?_
    refine ex_aload_n dX7_expect_21 1 rfl ?_
    refine ex_aload_n dX7_expect_22 1 rfl ?_
    refine ex_getI dX7_expect_23 fl_X7_9 hP2.1.1 hP2.1.2 ?_
    refine ex_iload_n dX7_expect_26 0 rfl ?_
    refine ex_aload_n dX7_expect_27 2 rfl ?_
    refine ex_cVr [.int (hs_I S2 r 2), .int (nI (tk (pb T N) N (sk (pb T N) N p.1))), .ref (g.2.2.2.2 17)] [] dX7_expect_28 cV_X7_112 (r_isTok_7 g hP2 hP2.2.1.2.2.1 rfl (tk_ge _ _ _) (tk_le _ hP2.2.2.2.2.2.1)) hP2.1.1 hP2.1.2 rfl rfl rfl (by decide) (Nat.le_of_ble_eq_true rfl) rfl ?_
    refine ex_if_eq (tgt := 42) dX7_expect_31 (by decide) (fun c31 => ?_) (fun c31 => ?_)
    · change (if tk (pb T N) N (sk (pb T N) N p.1) - sk (pb T N) N p.1 = 1 ∧ mt (pb T N) (sk (pb T N) N p.1) [59] then 1 else 0) = 0 at c31
      have hc : ¬ (sk (pb T N) N p.1 < N ∧ pb T N (sk (pb T N) N p.1) = 59) := fun z => by
        have z9 : tk (pb T N) N (sk (pb T N) N p.1) - sk (pb T N) N p.1 = 1 ∧ mt (pb T N) (sk (pb T N) N p.1) [59] := (tk_sg (pb_0 T N) (by decide) (by decide)).mpr z
        rw [if_pos z9] at c31; exact absurd c31 (by decide)
      refine ex_aload_n dX7_expect_42 1 rfl ?_
      refine ex_iconst (v := 1) dX7_expect_43 (by decide) ?_
      refine ex_aload_n dX7_expect_44 1 rfl ?_
      refine ex_getI dX7_expect_45 fl_X7_9 hP2.1.1 hP2.1.2 ?_
      refine ex_cVg [.int 1, .int (hs_I S2 r 2)] [] dX7_expect_48 cV_X7_39 (r_blame g hP2 (c := 1) rfl (by decide) hP2.2.1.2.2.1) hP2.1.1 hP2.1.2 rfl rfl rfl (by decide) (Nat.le_of_ble_eq_true rfl) rfl ?_ (fun E S' n' k' h => by obtain ⟨h1, -⟩ := h; cases h1)
      rintro v' S3 n' k' ⟨hr, hP3, hG3, hn, hk⟩
      cases hr
      have hn := hn.symm
      have hk := hk.symm
      subst hn hk
      have hF3 := hs_fr_tr hF2 hG3
      show ex_W _ _ _ _ 51 [(2, .int (nI (tk (pb T N) N (sk (pb T N) N p.1)))), (0, .ref r), (1, .ref (g.2.2.2.2 17))] [] S3 n k
      exact ex_vrt rfl dX7_expect_51 ⟨rfl, by unfold p_sign; rw [if_neg (fun z => by have z2 := (nI_eq (b := 0) (by have := hP.2.2.2.2.2.2; omega) (by decide)).mp (hP.2.1.2.2.2.1.symm.trans c4); omega), if_neg hc]; unfold p_wr; rw [if_neg (show ¬ 0 < (p_bl (pb T N) N p).2.1 from (show ¬ 0 < p.2.1 from (fun z => by have z2 := (nI_eq (b := 0) (by have := hP.2.2.2.2.2.2; omega) (by decide)).mp (hP.2.1.2.2.2.1.symm.trans c4); omega)))]; exact hP3, hF3, rfl, rfl⟩
    · change ¬ (if tk (pb T N) N (sk (pb T N) N p.1) - sk (pb T N) N p.1 = 1 ∧ mt (pb T N) (sk (pb T N) N p.1) [59] then 1 else 0) = 0 at c31
      have hc : (sk (pb T N) N p.1 < N ∧ pb T N (sk (pb T N) N p.1) = 59) := by
        by_cases z : tk (pb T N) N (sk (pb T N) N p.1) - sk (pb T N) N p.1 = 1 ∧ mt (pb T N) (sk (pb T N) N p.1) [59]
        · exact (tk_sg (pb_0 T N) (by decide) (by decide)).mp z
        · rw [if_neg z] at c31; exact absurd rfl c31
      have ht1 : tk (pb T N) N (sk (pb T N) N p.1) = sk (pb T N) N p.1 + 1 := by have z := ((tk_sg (pb_0 T N) (by decide) (by decide)).mpr hc).1; have := tk_ge (pb T N) N (sk (pb T N) N p.1); simp only [List.length_singleton] at z; omega
      refine ex_aload_n dX7_expect_34 1 rfl ?_
      refine ex_iload_n dX7_expect_35 0 rfl ?_
      refine ex_putI dX7_expect_36 fl_X7_9 (pf_X7_9 _) hP2.1.1 hP2.1.2 ?_
      refine ex_goto (tgt := 51) dX7_expect_39 (by decide) ?_
      exact ex_vrt rfl dX7_expect_51 ⟨rfl, by unfold p_sign; rw [if_neg (fun z => by have z2 := (nI_eq (b := 0) (by have := hP.2.2.2.2.2.2; omega) (by decide)).mp (hP.2.1.2.2.2.1.symm.trans c4); omega), if_pos hc]; exact RS_at hP2 (by rw [ht1]) (by have := tk_le (pb T N) (N := N) (a := sk (pb T N) N p.1) hP2.2.2.2.2.2.1; omega), hs_fr_tr hF2 (hs_fr_sI _ _ _ _), rfl, rfl⟩
  · exact ex_vrt rfl dX7_expect_7 ⟨rfl, by unfold p_sign; rw [if_pos (Nat.pos_of_ne_zero (fun z => c4 (by rw [hP.2.1.2.2.2.1, z]; rfl)))]; exact hP, hs_fr_rf _ _, rfl, rfl⟩
set_option maxRecDepth 20000 in
set_option maxHeartbeats 2000000 in
theorem r_num_l {g : gl_T} {S0 : hs_T} {n k r tp N : Nat} {T : List Int32} {q0 : ps_T} {xf xl xm : Int32} {l mm : Nat} (hxf : xf = nI (sk (pb T N) N q0.1)) (hqN : sk (pb T N) N q0.1 ≤ N) (hq0 : q0.2.1 = 0) (hxl : xl = nI l) (hxm : xm = nI mm) (hl : l ≤ 1) (hm : mm ≤ 1000000000) : ∀ t e V v S, RS S r tp T N (e, q0.2) → hs_fr S0 S [r] → v = lN (min V 1000000001) → N < e + t → sk (pb T N) N q0.1 ≤ e → dg (pb T N) N e = dg (pb T N) N (sk (pb T N) N q0.1) → dv (pb T N) N e V = dv (pb T N) N (sk (pb T N) N q0.1) 0 →
    ex_W g 2 mX7_readNumber (rq S0 r tp n k T N (p_num (pb T N) N l mm q0) (some (.int (nI (p_val (pb T N) N l mm q0))))) 21 [(4, .long v), (3, .int xf), (0, .ref r), (1, .int xl), (2, .int xm)] [] S n k := by
  intro t
  induction t with
  | zero => intro e V v S hP hF hv h2; exact absurd h2 (by have : e ≤ N := hP.2.2.2.2.2.1; omega)
  | succ t ih =>
    intro e V v S hP hF hv ht hae hdg hdv
    have hN4 := hP.2.2.2.2.1
    have hpN : e ≤ N := hP.2.2.2.2.2.1
    refine ex_aload_n dX7_readNumber_21 2 rfl ?_
    refine ex_getI dX7_readNumber_22 fl_X7_9 hP.1.1 hP.1.2 ?_
    refine ex_aload_n dX7_readNumber_25 2 rfl ?_
    refine ex_getI dX7_readNumber_26 fl_X7_25 hP.1.1 hP.1.2 ?_
    refine ex_icmp_ge (tgt := 87) dX7_readNumber_29 (by decide) (fun c29 => ?_) (fun c29 => ?_)
    · have hd : ¬ (e < N ∧ dgt (pb T N e)) := by
        rintro ⟨z1, z2⟩
        first
          | (rw [if_pos z2] at c43; exact absurd c43 (by decide))
          | (rw [hP.2.1.2.1, show hs_I S r 2 = nI e from hP.2.1.2.2.1] at c29; exact absurd ((nI_leI (by omega) (by omega)).mp c29) (by omega))
      have hge : dg (pb T N) N (sk (pb T N) N q0.1) = e := by rw [← hdg]; exact dg_stop hd
      have hgv : dv (pb T N) N (sk (pb T N) N q0.1) 0 = V := by rw [← hdv]; exact dv_stop hd
      have hnum : p_num (pb T N) N l mm q0 = p_nu2 (pb T N) N l mm (dg (pb T N) N (sk (pb T N) N q0.1), (p_nu1 (pb T N) N (p_bl (pb T N) N q0)).2) (sk (pb T N) N q0.1) (dv (pb T N) N (sk (pb T N) N q0.1) 0) := by unfold p_num; rw [if_neg (by omega)]
      rw [hge, hgv] at hnum
      refine ex_aload_n dX7_readNumber_87 2 rfl ?_
      refine ex_getI dX7_readNumber_88 fl_X7_9 hP.1.1 hP.1.2 ?_
      refine ex_iload_n dX7_readNumber_91 1 rfl ?_
      refine ex_icmp_ne (tgt := 103) dX7_readNumber_92 (by decide) (fun c92 => ?_) (fun c92 => ?_)
      · have hne : e ≠ sk (pb T N) N q0.1 := fun z => c92 (by rw [hxf, ← z]; exact hP.2.1.2.2.1)
        have hdd : dgt (pb T N (sk (pb T N) N q0.1)) := by
          by_cases z : sk (pb T N) N q0.1 < N ∧ dgt (pb T N (sk (pb T N) N q0.1))
          · exact z.2
          · exact absurd ((dg_stop z).symm.trans hge).symm hne
        have hn1 : p_nu1 (pb T N) N (p_bl (pb T N) N q0) = p_bl (pb T N) N q0 := by unfold p_nu1; exact if_pos hdd
        have hlt : lg_cmp v xl.toInt64 < 0 ↔ V < l := by
          rw [hv, hxl, nI_l (by omega)]
          exact (lg_ltN (by omega) (by omega)).trans (by omega)
        have hle : lg_cmp v xm.toInt64 ≤ 0 ↔ V ≤ mm := by
          rw [hv, hxm, nI_l (by omega)]
          exact (lg_leN (by omega) (by omega)).trans (by omega)
        refine ex_lload dX7_readNumber_103 0 rfl ?_
        refine ex_iload_n dX7_readNumber_105 3 rfl ?_
        refine ex_i2l dX7_readNumber_106 ?_
        refine ex_lcmp dX7_readNumber_107 ?_
        refine ex_if_lt (tgt := 119) dX7_readNumber_108 (by decide) (fun c108 => ?_) (fun c108 => ?_)
        · have hbad : V < l ∨ mm < V := by
            first
              | exact Or.inl (hlt.mp c108)
              | exact Or.inr (Nat.lt_of_not_le (fun z => c116 (hle.mpr z)))
          have hres : p_num (pb T N) N l mm q0 = (e, 2, some (sk (pb T N) N q0.1)) := by
            rw [hnum, hn1]
            unfold p_nu2 p_wr
            rw [if_pos hbad]
            exact if_neg (show ¬ 0 < q0.2.1 by omega)
          refine ex_aload_n dX7_readNumber_119 2 rfl ?_
          refine ex_iconst (v := 2) dX7_readNumber_120 (by decide) ?_
          refine ex_iload_n dX7_readNumber_121 1 rfl ?_
          refine ex_cVg [.int 2, .int xf] [] dX7_readNumber_122 cV_X7_39 (r_blame g hP (c := 2) rfl (by decide) hxf) hP.1.1 hP.1.2 rfl rfl rfl (by decide) (Nat.le_of_ble_eq_true rfl) rfl ?_ (fun E S' n' k' h => by obtain ⟨h1, -⟩ := h; cases h1)
          rintro v' S2 n' k' ⟨hr, hP2, hG2, hn, hk⟩
          cases hr
          have hn := hn.symm
          have hk := hk.symm
          subst hn hk
          show ex_W _ _ _ _ 125 [(4, .long v), (3, .int xf), (0, .ref r), (1, .int xl), (2, .int xm)] [] S2 n k
          refine ex_iconst (v := 0) dX7_readNumber_125 (by decide) ?_
          exact ex_irt rfl dX7_readNumber_126 ⟨by rw [show p_val (pb T N) N l mm q0 = 0 from by unfold p_val; rw [hres]; exact if_pos (Nat.succ_pos _)]; rfl, by rw [hres]; exact hP2, hs_fr_tr hF hG2, rfl, rfl⟩
        · refine ex_lload dX7_readNumber_111 0 rfl ?_
          refine ex_iload_n dX7_readNumber_113 4 rfl ?_
          refine ex_i2l dX7_readNumber_114 ?_
          refine ex_lcmp dX7_readNumber_115 ?_
          refine ex_if_le (tgt := 127) dX7_readNumber_116 (by decide) (fun c116 => ?_) (fun c116 => ?_)
          · have hres : p_num (pb T N) N l mm q0 = (e, q0.2) := by
              rw [hnum, hn1]
              unfold p_nu2
              rw [if_neg (by rintro (z | z); exact c108 (hlt.mpr z); exact absurd (hle.mp c116) (by omega))]
              rfl
            have hVm : V ≤ mm := hle.mp c116
            refine ex_lload dX7_readNumber_127 0 rfl ?_
            refine ex_l2i dX7_readNumber_129 ?_
            exact ex_irt rfl dX7_readNumber_130 ⟨by rw [show p_val (pb T N) N l mm q0 = V from by unfold p_val; rw [hres, hgv]; exact if_neg (show ¬ 0 < q0.2.1 by omega), hv, lN_i, show min V 1000000001 = V by omega], by rw [hres]; exact hP, hF, rfl, rfl⟩
          · have hbad : V < l ∨ mm < V := by
              first
                | exact Or.inl (hlt.mp c108)
                | exact Or.inr (Nat.lt_of_not_le (fun z => c116 (hle.mpr z)))
            have hres : p_num (pb T N) N l mm q0 = (e, 2, some (sk (pb T N) N q0.1)) := by
              rw [hnum, hn1]
              unfold p_nu2 p_wr
              rw [if_pos hbad]
              exact if_neg (show ¬ 0 < q0.2.1 by omega)
            refine ex_aload_n dX7_readNumber_119 2 rfl ?_
            refine ex_iconst (v := 2) dX7_readNumber_120 (by decide) ?_
            refine ex_iload_n dX7_readNumber_121 1 rfl ?_
            refine ex_cVg [.int 2, .int xf] [] dX7_readNumber_122 cV_X7_39 (r_blame g hP (c := 2) rfl (by decide) hxf) hP.1.1 hP.1.2 rfl rfl rfl (by decide) (Nat.le_of_ble_eq_true rfl) rfl ?_ (fun E S' n' k' h => by obtain ⟨h1, -⟩ := h; cases h1)
            rintro v' S2 n' k' ⟨hr, hP2, hG2, hn, hk⟩
            cases hr
            have hn := hn.symm
            have hk := hk.symm
            subst hn hk
            show ex_W _ _ _ _ 125 [(4, .long v), (3, .int xf), (0, .ref r), (1, .int xl), (2, .int xm)] [] S2 n k
            refine ex_iconst (v := 0) dX7_readNumber_125 (by decide) ?_
            exact ex_irt rfl dX7_readNumber_126 ⟨by rw [show p_val (pb T N) N l mm q0 = 0 from by unfold p_val; rw [hres]; exact if_pos (Nat.succ_pos _)]; rfl, by rw [hres]; exact hP2, hs_fr_tr hF hG2, rfl, rfl⟩
      · have hea : e = sk (pb T N) N q0.1 := (nI_eq (by omega) (by omega)).mp (by rw [← hxf, ← show hs_I S r 2 = nI e from hP.2.1.2.2.1]; exact c92)
        have hnd : ¬ dgt (pb T N (sk (pb T N) N q0.1)) := fun z => by
          have z2 : ¬ (e < N) := fun y => hd ⟨y, by rw [hea]; exact z⟩
          have z3 := pb_0 T N (sk (pb T N) N q0.1) (by omega)
          have := z.1
          omega
        have hn1 : p_nu1 (pb T N) N (p_bl (pb T N) N q0) = (sk (pb T N) N q0.1, 1, some (sk (pb T N) N q0.1)) := by
          unfold p_nu1 p_wr
          rw [if_neg (show ¬ dgt (pb T N (p_bl (pb T N) N q0).1) from hnd), if_neg (show ¬ 0 < (p_bl (pb T N) N q0).2.1 from by show ¬ 0 < q0.2.1; omega)]
          rfl
        have hres : p_num (pb T N) N l mm q0 = (e, 1, some (sk (pb T N) N q0.1)) := by
          rw [hnum, hn1]
          unfold p_nu2 p_wr
          split
          · exact if_pos (Nat.succ_pos _)
          · rfl
        refine ex_aload_n dX7_readNumber_95 2 rfl ?_
        refine ex_iconst (v := 1) dX7_readNumber_96 (by decide) ?_
        refine ex_iload_n dX7_readNumber_97 1 rfl ?_
        refine ex_cVg [.int 1, .int xf] [] dX7_readNumber_98 cV_X7_39 (r_blame g hP (c := 1) rfl (by decide) hxf) hP.1.1 hP.1.2 rfl rfl rfl (by decide) (Nat.le_of_ble_eq_true rfl) rfl ?_ (fun E S' n' k' h => by obtain ⟨h1, -⟩ := h; cases h1)
        rintro v' S2 n' k' ⟨hr, hP2, hG2, hn, hk⟩
        cases hr
        have hn := hn.symm
        have hk := hk.symm
        subst hn hk
        show ex_W _ _ _ _ 101 [(4, .long v), (3, .int xf), (0, .ref r), (1, .int xl), (2, .int xm)] [] S2 n k
        refine ex_iconst (v := 0) dX7_readNumber_101 (by decide) ?_
        exact ex_irt rfl dX7_readNumber_102 ⟨by rw [show p_val (pb T N) N l mm q0 = 0 from by unfold p_val; rw [hres]; exact if_pos (Nat.succ_pos _)]; rfl, by rw [hres]; exact hP2, hs_fr_tr hF hG2, rfl, rfl⟩
    · have heN : e < N := Nat.lt_of_not_le (fun z => c29 (by rw [hP.2.1.2.1, show hs_I S r 2 = nI e from hP.2.1.2.2.1]; exact nI_le z (by omega)))
      have hpl := pb_lt T N e
      refine ex_aload_n dX7_readNumber_32 2 rfl ?_
      refine ex_aload_n dX7_readNumber_33 2 rfl ?_
      refine ex_getI dX7_readNumber_34 fl_X7_9 hP.1.1 hP.1.2 ?_
      refine ex_cVr [.int (hs_I S r 2)] [] dX7_readNumber_37 cV_X7_116 (r_byteAt g hP hP.2.1.2.2.1 (by show e < _; omega)) hP.1.1 hP.1.2 rfl rfl rfl (by decide) (Nat.le_of_ble_eq_true rfl) rfl ?_
      refine ex_cSr [.int (sg (pb T N e))] [] dX7_readNumber_40 cS_X7_119 (r_isDigit g (c := pb T N e) rfl (pb_lt _ _ _)) rfl (by decide) (Nat.le_of_ble_eq_true rfl) rfl ?_
      refine ex_if_eq (tgt := 87) dX7_readNumber_43 (by decide) (fun c43 => ?_) (fun c43 => ?_)
      · have hd : ¬ (e < N ∧ dgt (pb T N e)) := by
          rintro ⟨z1, z2⟩
          first
            | (rw [if_pos z2] at c43; exact absurd c43 (by decide))
            | (rw [hP.2.1.2.1, show hs_I S r 2 = nI e from hP.2.1.2.2.1] at c29; exact absurd ((nI_leI (by omega) (by omega)).mp c29) (by omega))
        have hge : dg (pb T N) N (sk (pb T N) N q0.1) = e := by rw [← hdg]; exact dg_stop hd
        have hgv : dv (pb T N) N (sk (pb T N) N q0.1) 0 = V := by rw [← hdv]; exact dv_stop hd
        have hnum : p_num (pb T N) N l mm q0 = p_nu2 (pb T N) N l mm (dg (pb T N) N (sk (pb T N) N q0.1), (p_nu1 (pb T N) N (p_bl (pb T N) N q0)).2) (sk (pb T N) N q0.1) (dv (pb T N) N (sk (pb T N) N q0.1) 0) := by unfold p_num; rw [if_neg (by omega)]
        rw [hge, hgv] at hnum
        refine ex_aload_n dX7_readNumber_87 2 rfl ?_
        refine ex_getI dX7_readNumber_88 fl_X7_9 hP.1.1 hP.1.2 ?_
        refine ex_iload_n dX7_readNumber_91 1 rfl ?_
        refine ex_icmp_ne (tgt := 103) dX7_readNumber_92 (by decide) (fun c92 => ?_) (fun c92 => ?_)
        · have hne : e ≠ sk (pb T N) N q0.1 := fun z => c92 (by rw [hxf, ← z]; exact hP.2.1.2.2.1)
          have hdd : dgt (pb T N (sk (pb T N) N q0.1)) := by
            by_cases z : sk (pb T N) N q0.1 < N ∧ dgt (pb T N (sk (pb T N) N q0.1))
            · exact z.2
            · exact absurd ((dg_stop z).symm.trans hge).symm hne
          have hn1 : p_nu1 (pb T N) N (p_bl (pb T N) N q0) = p_bl (pb T N) N q0 := by unfold p_nu1; exact if_pos hdd
          have hlt : lg_cmp v xl.toInt64 < 0 ↔ V < l := by
            rw [hv, hxl, nI_l (by omega)]
            exact (lg_ltN (by omega) (by omega)).trans (by omega)
          have hle : lg_cmp v xm.toInt64 ≤ 0 ↔ V ≤ mm := by
            rw [hv, hxm, nI_l (by omega)]
            exact (lg_leN (by omega) (by omega)).trans (by omega)
          refine ex_lload dX7_readNumber_103 0 rfl ?_
          refine ex_iload_n dX7_readNumber_105 3 rfl ?_
          refine ex_i2l dX7_readNumber_106 ?_
          refine ex_lcmp dX7_readNumber_107 ?_
          refine ex_if_lt (tgt := 119) dX7_readNumber_108 (by decide) (fun c108 => ?_) (fun c108 => ?_)
          · have hbad : V < l ∨ mm < V := by
              first
                | exact Or.inl (hlt.mp c108)
                | exact Or.inr (Nat.lt_of_not_le (fun z => c116 (hle.mpr z)))
            have hres : p_num (pb T N) N l mm q0 = (e, 2, some (sk (pb T N) N q0.1)) := by
              rw [hnum, hn1]
              unfold p_nu2 p_wr
              rw [if_pos hbad]
              exact if_neg (show ¬ 0 < q0.2.1 by omega)
            refine ex_aload_n dX7_readNumber_119 2 rfl ?_
            refine ex_iconst (v := 2) dX7_readNumber_120 (by decide) ?_
            refine ex_iload_n dX7_readNumber_121 1 rfl ?_
            refine ex_cVg [.int 2, .int xf] [] dX7_readNumber_122 cV_X7_39 (r_blame g hP (c := 2) rfl (by decide) hxf) hP.1.1 hP.1.2 rfl rfl rfl (by decide) (Nat.le_of_ble_eq_true rfl) rfl ?_ (fun E S' n' k' h => by obtain ⟨h1, -⟩ := h; cases h1)
            rintro v' S2 n' k' ⟨hr, hP2, hG2, hn, hk⟩
            cases hr
            have hn := hn.symm
            have hk := hk.symm
            subst hn hk
            show ex_W _ _ _ _ 125 [(4, .long v), (3, .int xf), (0, .ref r), (1, .int xl), (2, .int xm)] [] S2 n k
            refine ex_iconst (v := 0) dX7_readNumber_125 (by decide) ?_
            exact ex_irt rfl dX7_readNumber_126 ⟨by rw [show p_val (pb T N) N l mm q0 = 0 from by unfold p_val; rw [hres]; exact if_pos (Nat.succ_pos _)]; rfl, by rw [hres]; exact hP2, hs_fr_tr hF hG2, rfl, rfl⟩
          · refine ex_lload dX7_readNumber_111 0 rfl ?_
            refine ex_iload_n dX7_readNumber_113 4 rfl ?_
            refine ex_i2l dX7_readNumber_114 ?_
            refine ex_lcmp dX7_readNumber_115 ?_
            refine ex_if_le (tgt := 127) dX7_readNumber_116 (by decide) (fun c116 => ?_) (fun c116 => ?_)
            · have hres : p_num (pb T N) N l mm q0 = (e, q0.2) := by
                rw [hnum, hn1]
                unfold p_nu2
                rw [if_neg (by rintro (z | z); exact c108 (hlt.mpr z); exact absurd (hle.mp c116) (by omega))]
                rfl
              have hVm : V ≤ mm := hle.mp c116
              refine ex_lload dX7_readNumber_127 0 rfl ?_
              refine ex_l2i dX7_readNumber_129 ?_
              exact ex_irt rfl dX7_readNumber_130 ⟨by rw [show p_val (pb T N) N l mm q0 = V from by unfold p_val; rw [hres, hgv]; exact if_neg (show ¬ 0 < q0.2.1 by omega), hv, lN_i, show min V 1000000001 = V by omega], by rw [hres]; exact hP, hF, rfl, rfl⟩
            · have hbad : V < l ∨ mm < V := by
                first
                  | exact Or.inl (hlt.mp c108)
                  | exact Or.inr (Nat.lt_of_not_le (fun z => c116 (hle.mpr z)))
              have hres : p_num (pb T N) N l mm q0 = (e, 2, some (sk (pb T N) N q0.1)) := by
                rw [hnum, hn1]
                unfold p_nu2 p_wr
                rw [if_pos hbad]
                exact if_neg (show ¬ 0 < q0.2.1 by omega)
              refine ex_aload_n dX7_readNumber_119 2 rfl ?_
              refine ex_iconst (v := 2) dX7_readNumber_120 (by decide) ?_
              refine ex_iload_n dX7_readNumber_121 1 rfl ?_
              refine ex_cVg [.int 2, .int xf] [] dX7_readNumber_122 cV_X7_39 (r_blame g hP (c := 2) rfl (by decide) hxf) hP.1.1 hP.1.2 rfl rfl rfl (by decide) (Nat.le_of_ble_eq_true rfl) rfl ?_ (fun E S' n' k' h => by obtain ⟨h1, -⟩ := h; cases h1)
              rintro v' S2 n' k' ⟨hr, hP2, hG2, hn, hk⟩
              cases hr
              have hn := hn.symm
              have hk := hk.symm
              subst hn hk
              show ex_W _ _ _ _ 125 [(4, .long v), (3, .int xf), (0, .ref r), (1, .int xl), (2, .int xm)] [] S2 n k
              refine ex_iconst (v := 0) dX7_readNumber_125 (by decide) ?_
              exact ex_irt rfl dX7_readNumber_126 ⟨by rw [show p_val (pb T N) N l mm q0 = 0 from by unfold p_val; rw [hres]; exact if_pos (Nat.succ_pos _)]; rfl, by rw [hres]; exact hP2, hs_fr_tr hF hG2, rfl, rfl⟩
        · have hea : e = sk (pb T N) N q0.1 := (nI_eq (by omega) (by omega)).mp (by rw [← hxf, ← show hs_I S r 2 = nI e from hP.2.1.2.2.1]; exact c92)
          have hnd : ¬ dgt (pb T N (sk (pb T N) N q0.1)) := fun z => by
            have z2 : ¬ (e < N) := fun y => hd ⟨y, by rw [hea]; exact z⟩
            have z3 := pb_0 T N (sk (pb T N) N q0.1) (by omega)
            have := z.1
            omega
          have hn1 : p_nu1 (pb T N) N (p_bl (pb T N) N q0) = (sk (pb T N) N q0.1, 1, some (sk (pb T N) N q0.1)) := by
            unfold p_nu1 p_wr
            rw [if_neg (show ¬ dgt (pb T N (p_bl (pb T N) N q0).1) from hnd), if_neg (show ¬ 0 < (p_bl (pb T N) N q0).2.1 from by show ¬ 0 < q0.2.1; omega)]
            rfl
          have hres : p_num (pb T N) N l mm q0 = (e, 1, some (sk (pb T N) N q0.1)) := by
            rw [hnum, hn1]
            unfold p_nu2 p_wr
            split
            · exact if_pos (Nat.succ_pos _)
            · rfl
          refine ex_aload_n dX7_readNumber_95 2 rfl ?_
          refine ex_iconst (v := 1) dX7_readNumber_96 (by decide) ?_
          refine ex_iload_n dX7_readNumber_97 1 rfl ?_
          refine ex_cVg [.int 1, .int xf] [] dX7_readNumber_98 cV_X7_39 (r_blame g hP (c := 1) rfl (by decide) hxf) hP.1.1 hP.1.2 rfl rfl rfl (by decide) (Nat.le_of_ble_eq_true rfl) rfl ?_ (fun E S' n' k' h => by obtain ⟨h1, -⟩ := h; cases h1)
          rintro v' S2 n' k' ⟨hr, hP2, hG2, hn, hk⟩
          cases hr
          have hn := hn.symm
          have hk := hk.symm
          subst hn hk
          show ex_W _ _ _ _ 101 [(4, .long v), (3, .int xf), (0, .ref r), (1, .int xl), (2, .int xm)] [] S2 n k
          refine ex_iconst (v := 0) dX7_readNumber_101 (by decide) ?_
          exact ex_irt rfl dX7_readNumber_102 ⟨by rw [show p_val (pb T N) N l mm q0 = 0 from by unfold p_val; rw [hres]; exact if_pos (Nat.succ_pos _)]; rfl, by rw [hres]; exact hP2, hs_fr_tr hF hG2, rfl, rfl⟩
      · refine ex_lload dX7_readNumber_46 0 rfl ?_
        refine ex_ldc2 dX7_readNumber_48 lc_X7_123 ?_
        refine ex_lmul dX7_readNumber_51 ?_
        refine ex_aload_n dX7_readNumber_52 2 rfl ?_
        refine ex_aload_n dX7_readNumber_53 2 rfl ?_
        refine ex_getI dX7_readNumber_54 fl_X7_9 hP.1.1 hP.1.2 ?_
        refine ex_cVr [.int (hs_I S r 2)] [.long (v * 10)] dX7_readNumber_57 cV_X7_116 (r_byteAt g hP hP.2.1.2.2.1 (by show e < _; omega)) hP.1.1 hP.1.2 rfl rfl rfl (by decide) (Nat.le_of_ble_eq_true rfl) rfl ?_
        refine ex_i2l dX7_readNumber_60 ?_
        refine ex_ladd dX7_readNumber_61 ?_
        refine ex_ldc2 dX7_readNumber_62 lc_X7_125 ?_
        refine ex_lsub dX7_readNumber_65 ?_
        refine ex_ldc2 dX7_readNumber_66 lc_X7_127 ?_
        refine ex_mminL dX7_readNumber_69 ml_X7_129 mw_minL (by decide) (Nat.le_of_ble_eq_true rfl) ?_
        refine ex_lstore [(4, .long ((if 1000000001 < (((v * 10) + ((sg (pb T N e)).toInt64)) - 48) then 1000000001 else ((v * 10) + ((sg (pb T N e)).toInt64)) - 48))), (3, .int xf), (0, .ref r), (1, .int xl), (2, .int xm)] dX7_readNumber_72 (by decide) rfl ?_
        refine ex_aload_n dX7_readNumber_74 2 rfl ?_
        refine ex_dup dX7_readNumber_75 rfl ?_
        refine ex_getI dX7_readNumber_76 fl_X7_9 hP.1.1 hP.1.2 ?_
        refine ex_iconst (v := 1) dX7_readNumber_79 (by decide) ?_
        refine ex_iadd dX7_readNumber_80 ?_
        refine ex_putI dX7_readNumber_81 fl_X7_9 (pf_X7_9 _) hP.1.1 hP.1.2 ?_
        refine ex_goto (tgt := 21) dX7_readNumber_84 (by decide) ?_
        have hd : e < N ∧ dgt (pb T N e) := ⟨heN, by
          by_cases z : dgt (pb T N e)
          · exact z
          · rw [if_neg z] at c43; exact absurd rfl c43⟩
        have hd1 := hd.2.1
        have hd2 := hd.2.2
        have hx1 : v * 10 + (sg (pb T N e)).toInt64 - 48 = lN (10 * min V 1000000001 + (pb T N e - 48)) := by
          rw [sg_l (by omega), hv]
          have e1 : lN (min V 1000000001) * 10 = lN (min V 1000000001 * 10) := lN_mul _ 10
          rw [e1, lN_add]
          exact (lN_sub (b := 48) (by omega)).trans (congrArg lN (by omega))
        have hx2 : (if 1000000001 < (((v * 10) + ((sg (pb T N e)).toInt64)) - 48) then 1000000001 else ((v * 10) + ((sg (pb T N e)).toInt64)) - 48) = lN (min (10 * V + (pb T N e - 48)) 1000000001) := by
          rw [hx1]
          split
          · next z =>
            have z2 := (pk_lLT (a := 1000000001) (by decide) (by omega)).mp z
            show lN 1000000001 = _
            congr 1; omega
          · next z =>
            have z2 : ¬ 1000000001 < 10 * min V 1000000001 + (pb T N e - 48) := fun y => z ((pk_lLT (a := 1000000001) (by decide) (by omega)).mpr y)
            congr 1; omega
        rw [hx2]
        refine ex_lv [0, 1, 2, 3, 4] rfl ?_
        exact ih (e + 1) (10 * V + (pb T N e - 48)) _ _ (RS_at hP (by have e9 : hs_I S r 2 = nI e := hP.2.1.2.2.1; rw [e9]; exact nI_1 e) (by omega)) (hs_fr_tr hF (hs_fr_sI _ _ _ _)) rfl (by omega) (by omega) (by rw [← hdg, dg_go hd]) (by rw [← hdv, dv_go hd])
set_option maxRecDepth 20000 in
set_option maxHeartbeats 4000000 in
theorem r_num (g : gl_T) {S : hs_T} {n k : Nat} {r tp N : Nat} {T : List Int32} {p : ps_T} (hP : RS S r tp T N p) {xl xm : Int32} {l mm : Nat} (hxl : xl = nI l) (hxm : xm = nI mm) (hl : l ≤ 1) (hm : mm ≤ 1000000000) : ex_M g 2 mX7_readNumber [.ref r, .int xl, .int xm] S n k (rq S r tp n k T N (p_num (pb T N) N l mm p) (some (.int (nI (p_val (pb T N) N l mm p))))) := by
  have hN4 := hP.2.2.2.2.1
  have hpN := hP.2.2.2.2.2.1
  refine ex_enter (by decide +kernel) (Nat.le_of_ble_eq_true rfl) ?_
  show ex_W _ _ _ _ 0 [(0, .ref r), (1, .int xl), (2, .int xm)] [] _ _ _
  refine ex_aload_n dX7_readNumber_0 0 rfl ?_
  refine ex_getI dX7_readNumber_1 fl_X7_15 hP.1.1 hP.1.2 ?_
  refine ex_if_eq (tgt := 9) dX7_readNumber_4 (by decide) (fun c4 => ?_) (fun c4 => ?_)
  · refine ex_aload_n dX7_readNumber_9 0 rfl ?_
    refine ex_cVg [] [] dX7_readNumber_10 cV_X7_28 (r_skip g hP) hP.1.1 hP.1.2 rfl rfl rfl (by decide) (Nat.le_of_ble_eq_true rfl) rfl ?_ (fun E S' n' k' h => by obtain ⟨h1, -⟩ := h; cases h1)
    rintro v' S2 n' k' ⟨hr, hP2, hG2, hn, hk⟩
    cases hr
    have hn := hn.symm
    have hk := hk.symm
    subst hn hk
    have hF2 := hs_fr_tr (hs_fr_rf S [r]) hG2
    show ex_W _ _ _ _ 13 [(0, .ref r), (1, .int xl), (2, .int xm)] [] S2 n k
    refine ex_aload_n dX7_readNumber_13 0 rfl ?_
    refine ex_getI dX7_readNumber_14 fl_X7_9 hP2.1.1 hP2.1.2 ?_
    refine ex_istore_n [(3, .int (hs_I S2 r 2)), (0, .ref r), (1, .int xl), (2, .int xm)] dX7_readNumber_17 (by decide) rfl ?_
    refine ex_lconst (v := 0) dX7_readNumber_18 (by decide) ?_
    refine ex_lstore [(4, .long 0), (3, .int (hs_I S2 r 2)), (0, .ref r), (1, .int xl), (2, .int xm)] dX7_readNumber_19 (by decide) rfl ?_
    have h0 : p.2.1 = 0 := (nI_eq (b := 0) (by have := hP.2.2.2.2.2.2; omega) (by decide)).mp (hP.2.1.2.2.2.1.symm.trans c4)
    refine ex_lv [0, 1, 2, 3, 4] rfl ?_
    exact r_num_l (q0 := p) hP2.2.1.2.2.1 hP2.2.2.2.2.2.1 h0 hxl hxm hl hm (N + 1) (sk (pb T N) N p.1) 0 _ S2 hP2 hF2 rfl (by omega) (Nat.le_refl _) rfl rfl
  · refine ex_iconst (v := 0) dX7_readNumber_7 (by decide) ?_
    exact ex_irt rfl dX7_readNumber_8 ⟨by rw [show p_val (pb T N) N l mm p = 0 from by unfold p_val; exact if_pos (by unfold p_num; rw [if_pos (Nat.pos_of_ne_zero (fun z => c4 (by rw [hP.2.1.2.2.2.1, z]; rfl)))]; exact (Nat.pos_of_ne_zero (fun z => c4 (by rw [hP.2.1.2.2.2.1, z]; rfl))))]; rfl, by unfold p_num; rw [if_pos (Nat.pos_of_ne_zero (fun z => c4 (by rw [hP.2.1.2.2.2.1, z]; rfl)))]; exact hP, hs_fr_rf _ _, rfl, rfl⟩
set_option maxRecDepth 20000 in
set_option maxHeartbeats 4000000 in
theorem r_kind_0 (g : gl_T) {S : hs_T} {n k : Nat} {r tp N : Nat} {T : List Int32} {p : ps_T} (hP : RS S r tp T N p) (w0 : wd (pb T N) p.1 [102, 117, 110, 100]) : ex_M g 5 mX7_readKind [.ref r] S n k (rq S r tp n k T N (p.1 + 4, p.2) (some (.ref (g.2.2.2.2 3)))) := by
  have hN4 := hP.2.2.2.2.1
  have hpN := hP.2.2.2.2.2.1
  refine ex_enter (by decide +kernel) (Nat.le_of_ble_eq_true rfl) ?_
  show ex_W _ _ _ _ 0 [(0, .ref r)] [] _ _ _
  refine ex_aload_n dX7_readKind_0 0 rfl ?_
  refine ex_aload_n dX7_readKind_1 0 rfl ?_
  refine ex_getI dX7_readKind_2 fl_X7_9 hP.1.1 hP.1.2 ?_
  refine ex_cVr [.int (hs_I S r 2)] [] dX7_readKind_5 cV_X7_101 (r_eot g hP hP.2.1.2.2.1 hpN) hP.1.1 hP.1.2 rfl rfl rfl (by decide) (Nat.le_of_ble_eq_true rfl) rfl ?_
  refine ex_istore_n [(1, .int (nI (tk (pb T N) N p.1))), (0, .ref r)] dX7_readKind_8 (by decide) rfl ?_
  refine ex_iconst (v := 0) dX7_readKind_9 (by decide) ?_
  refine ex_istore_n [(2, .int 0), (1, .int (nI (tk (pb T N) N p.1))), (0, .ref r)] dX7_readKind_10 (by decide) rfl ?_
  refine ex_iload_n dX7_readKind_11 0 rfl ?_
  refine ex_gets (q := ("BondOffice$RuleReader", "KINDS", "[LBondOffice$Kind;", fun ad => .ref (ad 2))) dX7_readKind_12 cZ_1 gs_X7_105 ?_
  refine ex_alenC (q := (.object "BondOffice$Kind", 2, 4, fun ad i => .ref (ad (3 + i)))) dX7_readKind_15 cT_1 ?_
  refine ex_icmp_ge (tgt := 56) dX7_readKind_16 (by decide) (fun c16 => absurd c16 (by decide)) (fun c16 => ?_)
  refine ex_aload_n dX7_readKind_19 2 rfl ?_
  refine ex_aload_n dX7_readKind_20 2 rfl ?_
  refine ex_getI dX7_readKind_21 fl_X7_9 hP.1.1 hP.1.2 ?_
  refine ex_iload_n dX7_readKind_24 1 rfl ?_
  refine ex_gets (q := ("BondOffice$RuleReader", "KINDS", "[LBondOffice$Kind;", fun ad => .ref (ad 2))) dX7_readKind_25 cZ_1 gs_X7_105 ?_
  refine ex_iload_n dX7_readKind_28 0 rfl ?_
  refine ex_aaldC (q := (.object "BondOffice$Kind", 2, 4, fun ad i => .ref (ad (3 + i)))) (j := 0) dX7_readKind_29 cT_1 rfl rfl (by decide) (by decide) ?_
  refine ex_getC (q := ("BondOffice$Kind", "word", "Ljava/lang/String;", 3, fun ad => .ref (ad 10))) dX7_readKind_30 cF_0 gc_X7_109 ?_
  refine ex_cVr [.int (hs_I S r 2), .int (nI (tk (pb T N) N p.1)), .ref (g.2.2.2.2 10)] [] dX7_readKind_33 cV_X7_112 (r_isTok_0 g hP hP.2.1.2.2.1 rfl (tk_ge _ _ _) (tk_le _ hpN)) hP.1.1 hP.1.2 rfl rfl rfl (by decide) (Nat.le_of_ble_eq_true rfl) rfl ?_
  refine ex_if_eq (tgt := 50) dX7_readKind_36 (by decide) (fun c36 => absurd c36 (by rw [if_pos (show tk (pb T N) N p.1 - p.1 = 4 ∧ mt (pb T N) p.1 [102, 117, 110, 100] from (tk_wd (pb_0 T N) (by decide)).mpr w0)]; decide)) (fun c36 => ?_)
  refine ex_aload_n dX7_readKind_39 2 rfl ?_
  refine ex_iload_n dX7_readKind_40 1 rfl ?_
  refine ex_putI dX7_readKind_41 fl_X7_9 (pf_X7_9 _) hP.1.1 hP.1.2 ?_
  refine ex_gets (q := ("BondOffice$RuleReader", "KINDS", "[LBondOffice$Kind;", fun ad => .ref (ad 2))) dX7_readKind_44 cZ_1 gs_X7_105 ?_
  refine ex_iload_n dX7_readKind_47 0 rfl ?_
  refine ex_aaldC (q := (.object "BondOffice$Kind", 2, 4, fun ad i => .ref (ad (3 + i)))) (j := 0) dX7_readKind_48 cT_1 rfl rfl (by decide) (by decide) ?_
  exact ex_art rfl (Or.inl ⟨_, rfl⟩) dX7_readKind_49 ⟨rfl, RS_at hP (by rw [tk_wl (pb_0 T N) (by decide) w0]; rfl) (by have := tk_le (pb T N) hpN; rw [tk_wl (pb_0 T N) (by decide) w0] at this; exact this), hs_fr_sI _ _ _ _, rfl, rfl⟩
set_option maxRecDepth 20000 in
set_option maxHeartbeats 4000000 in
theorem r_kind_1 (g : gl_T) {S : hs_T} {n k : Nat} {r tp N : Nat} {T : List Int32} {p : ps_T} (hP : RS S r tp T N p) (w0 : ¬ wd (pb T N) p.1 [102, 117, 110, 100]) (w1 : wd (pb T N) p.1 [100, 97, 121, 115]) : ex_M g 5 mX7_readKind [.ref r] S n k (rq S r tp n k T N (p.1 + 4, p.2) (some (.ref (g.2.2.2.2 4)))) := by
  have hN4 := hP.2.2.2.2.1
  have hpN := hP.2.2.2.2.2.1
  refine ex_enter (by decide +kernel) (Nat.le_of_ble_eq_true rfl) ?_
  show ex_W _ _ _ _ 0 [(0, .ref r)] [] _ _ _
  refine ex_aload_n dX7_readKind_0 0 rfl ?_
  refine ex_aload_n dX7_readKind_1 0 rfl ?_
  refine ex_getI dX7_readKind_2 fl_X7_9 hP.1.1 hP.1.2 ?_
  refine ex_cVr [.int (hs_I S r 2)] [] dX7_readKind_5 cV_X7_101 (r_eot g hP hP.2.1.2.2.1 hpN) hP.1.1 hP.1.2 rfl rfl rfl (by decide) (Nat.le_of_ble_eq_true rfl) rfl ?_
  refine ex_istore_n [(1, .int (nI (tk (pb T N) N p.1))), (0, .ref r)] dX7_readKind_8 (by decide) rfl ?_
  refine ex_iconst (v := 0) dX7_readKind_9 (by decide) ?_
  refine ex_istore_n [(2, .int 0), (1, .int (nI (tk (pb T N) N p.1))), (0, .ref r)] dX7_readKind_10 (by decide) rfl ?_
  refine ex_iload_n dX7_readKind_11 0 rfl ?_
  refine ex_gets (q := ("BondOffice$RuleReader", "KINDS", "[LBondOffice$Kind;", fun ad => .ref (ad 2))) dX7_readKind_12 cZ_1 gs_X7_105 ?_
  refine ex_alenC (q := (.object "BondOffice$Kind", 2, 4, fun ad i => .ref (ad (3 + i)))) dX7_readKind_15 cT_1 ?_
  refine ex_icmp_ge (tgt := 56) dX7_readKind_16 (by decide) (fun c16 => absurd c16 (by decide)) (fun c16 => ?_)
  refine ex_aload_n dX7_readKind_19 2 rfl ?_
  refine ex_aload_n dX7_readKind_20 2 rfl ?_
  refine ex_getI dX7_readKind_21 fl_X7_9 hP.1.1 hP.1.2 ?_
  refine ex_iload_n dX7_readKind_24 1 rfl ?_
  refine ex_gets (q := ("BondOffice$RuleReader", "KINDS", "[LBondOffice$Kind;", fun ad => .ref (ad 2))) dX7_readKind_25 cZ_1 gs_X7_105 ?_
  refine ex_iload_n dX7_readKind_28 0 rfl ?_
  refine ex_aaldC (q := (.object "BondOffice$Kind", 2, 4, fun ad i => .ref (ad (3 + i)))) (j := 0) dX7_readKind_29 cT_1 rfl rfl (by decide) (by decide) ?_
  refine ex_getC (q := ("BondOffice$Kind", "word", "Ljava/lang/String;", 3, fun ad => .ref (ad 10))) dX7_readKind_30 cF_0 gc_X7_109 ?_
  refine ex_cVr [.int (hs_I S r 2), .int (nI (tk (pb T N) N p.1)), .ref (g.2.2.2.2 10)] [] dX7_readKind_33 cV_X7_112 (r_isTok_0 g hP hP.2.1.2.2.1 rfl (tk_ge _ _ _) (tk_le _ hpN)) hP.1.1 hP.1.2 rfl rfl rfl (by decide) (Nat.le_of_ble_eq_true rfl) rfl ?_
  refine ex_if_eq (tgt := 50) dX7_readKind_36 (by decide) (fun c36 => ?_) (fun c36 => absurd (if_neg (fun z => w0 ((tk_wd (pb_0 T N) (by decide)).mp z))) c36)
  refine ex_iinc (v := 1) 0 [(2, .int 1), (1, .int (nI (tk (pb T N) N p.1))), (0, .ref r)] dX7_readKind_50 rfl (by decide) (by decide) rfl ?_
  refine ex_goto (tgt := 11) dX7_readKind_53 (by decide) ?_
  refine ex_iload_n dX7_readKind_11 0 rfl ?_
  refine ex_gets (q := ("BondOffice$RuleReader", "KINDS", "[LBondOffice$Kind;", fun ad => .ref (ad 2))) dX7_readKind_12 cZ_1 gs_X7_105 ?_
  refine ex_alenC (q := (.object "BondOffice$Kind", 2, 4, fun ad i => .ref (ad (3 + i)))) dX7_readKind_15 cT_1 ?_
  refine ex_icmp_ge (tgt := 56) dX7_readKind_16 (by decide) (fun c16 => absurd c16 (by decide)) (fun c16 => ?_)
  refine ex_aload_n dX7_readKind_19 2 rfl ?_
  refine ex_aload_n dX7_readKind_20 2 rfl ?_
  refine ex_getI dX7_readKind_21 fl_X7_9 hP.1.1 hP.1.2 ?_
  refine ex_iload_n dX7_readKind_24 1 rfl ?_
  refine ex_gets (q := ("BondOffice$RuleReader", "KINDS", "[LBondOffice$Kind;", fun ad => .ref (ad 2))) dX7_readKind_25 cZ_1 gs_X7_105 ?_
  refine ex_iload_n dX7_readKind_28 0 rfl ?_
  refine ex_aaldC (q := (.object "BondOffice$Kind", 2, 4, fun ad i => .ref (ad (3 + i)))) (j := 1) dX7_readKind_29 cT_1 rfl rfl (by decide) (by decide) ?_
  refine ex_getC (q := ("BondOffice$Kind", "word", "Ljava/lang/String;", 4, fun ad => .ref (ad 11))) dX7_readKind_30 cF_6 gc_X7_109 ?_
  refine ex_cVr [.int (hs_I S r 2), .int (nI (tk (pb T N) N p.1)), .ref (g.2.2.2.2 11)] [] dX7_readKind_33 cV_X7_112 (r_isTok_1 g hP hP.2.1.2.2.1 rfl (tk_ge _ _ _) (tk_le _ hpN)) hP.1.1 hP.1.2 rfl rfl rfl (by decide) (Nat.le_of_ble_eq_true rfl) rfl ?_
  refine ex_if_eq (tgt := 50) dX7_readKind_36 (by decide) (fun c36 => absurd c36 (by rw [if_pos (show tk (pb T N) N p.1 - p.1 = 4 ∧ mt (pb T N) p.1 [100, 97, 121, 115] from (tk_wd (pb_0 T N) (by decide)).mpr w1)]; decide)) (fun c36 => ?_)
  refine ex_aload_n dX7_readKind_39 2 rfl ?_
  refine ex_iload_n dX7_readKind_40 1 rfl ?_
  refine ex_putI dX7_readKind_41 fl_X7_9 (pf_X7_9 _) hP.1.1 hP.1.2 ?_
  refine ex_gets (q := ("BondOffice$RuleReader", "KINDS", "[LBondOffice$Kind;", fun ad => .ref (ad 2))) dX7_readKind_44 cZ_1 gs_X7_105 ?_
  refine ex_iload_n dX7_readKind_47 0 rfl ?_
  refine ex_aaldC (q := (.object "BondOffice$Kind", 2, 4, fun ad i => .ref (ad (3 + i)))) (j := 1) dX7_readKind_48 cT_1 rfl rfl (by decide) (by decide) ?_
  exact ex_art rfl (Or.inl ⟨_, rfl⟩) dX7_readKind_49 ⟨rfl, RS_at hP (by rw [tk_wl (pb_0 T N) (by decide) w1]; rfl) (by have := tk_le (pb T N) hpN; rw [tk_wl (pb_0 T N) (by decide) w1] at this; exact this), hs_fr_sI _ _ _ _, rfl, rfl⟩
set_option maxRecDepth 20000 in
set_option maxHeartbeats 4000000 in
theorem r_kind_2 (g : gl_T) {S : hs_T} {n k : Nat} {r tp N : Nat} {T : List Int32} {p : ps_T} (hP : RS S r tp T N p) (w0 : ¬ wd (pb T N) p.1 [102, 117, 110, 100]) (w1 : ¬ wd (pb T N) p.1 [100, 97, 121, 115]) (w2 : wd (pb T N) p.1 [116, 105, 101, 114]) : ex_M g 5 mX7_readKind [.ref r] S n k (rq S r tp n k T N (p.1 + 4, p.2) (some (.ref (g.2.2.2.2 5)))) := by
  have hN4 := hP.2.2.2.2.1
  have hpN := hP.2.2.2.2.2.1
  refine ex_enter (by decide +kernel) (Nat.le_of_ble_eq_true rfl) ?_
  show ex_W _ _ _ _ 0 [(0, .ref r)] [] _ _ _
  refine ex_aload_n dX7_readKind_0 0 rfl ?_
  refine ex_aload_n dX7_readKind_1 0 rfl ?_
  refine ex_getI dX7_readKind_2 fl_X7_9 hP.1.1 hP.1.2 ?_
  refine ex_cVr [.int (hs_I S r 2)] [] dX7_readKind_5 cV_X7_101 (r_eot g hP hP.2.1.2.2.1 hpN) hP.1.1 hP.1.2 rfl rfl rfl (by decide) (Nat.le_of_ble_eq_true rfl) rfl ?_
  refine ex_istore_n [(1, .int (nI (tk (pb T N) N p.1))), (0, .ref r)] dX7_readKind_8 (by decide) rfl ?_
  refine ex_iconst (v := 0) dX7_readKind_9 (by decide) ?_
  refine ex_istore_n [(2, .int 0), (1, .int (nI (tk (pb T N) N p.1))), (0, .ref r)] dX7_readKind_10 (by decide) rfl ?_
  refine ex_iload_n dX7_readKind_11 0 rfl ?_
  refine ex_gets (q := ("BondOffice$RuleReader", "KINDS", "[LBondOffice$Kind;", fun ad => .ref (ad 2))) dX7_readKind_12 cZ_1 gs_X7_105 ?_
  refine ex_alenC (q := (.object "BondOffice$Kind", 2, 4, fun ad i => .ref (ad (3 + i)))) dX7_readKind_15 cT_1 ?_
  refine ex_icmp_ge (tgt := 56) dX7_readKind_16 (by decide) (fun c16 => absurd c16 (by decide)) (fun c16 => ?_)
  refine ex_aload_n dX7_readKind_19 2 rfl ?_
  refine ex_aload_n dX7_readKind_20 2 rfl ?_
  refine ex_getI dX7_readKind_21 fl_X7_9 hP.1.1 hP.1.2 ?_
  refine ex_iload_n dX7_readKind_24 1 rfl ?_
  refine ex_gets (q := ("BondOffice$RuleReader", "KINDS", "[LBondOffice$Kind;", fun ad => .ref (ad 2))) dX7_readKind_25 cZ_1 gs_X7_105 ?_
  refine ex_iload_n dX7_readKind_28 0 rfl ?_
  refine ex_aaldC (q := (.object "BondOffice$Kind", 2, 4, fun ad i => .ref (ad (3 + i)))) (j := 0) dX7_readKind_29 cT_1 rfl rfl (by decide) (by decide) ?_
  refine ex_getC (q := ("BondOffice$Kind", "word", "Ljava/lang/String;", 3, fun ad => .ref (ad 10))) dX7_readKind_30 cF_0 gc_X7_109 ?_
  refine ex_cVr [.int (hs_I S r 2), .int (nI (tk (pb T N) N p.1)), .ref (g.2.2.2.2 10)] [] dX7_readKind_33 cV_X7_112 (r_isTok_0 g hP hP.2.1.2.2.1 rfl (tk_ge _ _ _) (tk_le _ hpN)) hP.1.1 hP.1.2 rfl rfl rfl (by decide) (Nat.le_of_ble_eq_true rfl) rfl ?_
  refine ex_if_eq (tgt := 50) dX7_readKind_36 (by decide) (fun c36 => ?_) (fun c36 => absurd (if_neg (fun z => w0 ((tk_wd (pb_0 T N) (by decide)).mp z))) c36)
  refine ex_iinc (v := 1) 0 [(2, .int 1), (1, .int (nI (tk (pb T N) N p.1))), (0, .ref r)] dX7_readKind_50 rfl (by decide) (by decide) rfl ?_
  refine ex_goto (tgt := 11) dX7_readKind_53 (by decide) ?_
  refine ex_iload_n dX7_readKind_11 0 rfl ?_
  refine ex_gets (q := ("BondOffice$RuleReader", "KINDS", "[LBondOffice$Kind;", fun ad => .ref (ad 2))) dX7_readKind_12 cZ_1 gs_X7_105 ?_
  refine ex_alenC (q := (.object "BondOffice$Kind", 2, 4, fun ad i => .ref (ad (3 + i)))) dX7_readKind_15 cT_1 ?_
  refine ex_icmp_ge (tgt := 56) dX7_readKind_16 (by decide) (fun c16 => absurd c16 (by decide)) (fun c16 => ?_)
  refine ex_aload_n dX7_readKind_19 2 rfl ?_
  refine ex_aload_n dX7_readKind_20 2 rfl ?_
  refine ex_getI dX7_readKind_21 fl_X7_9 hP.1.1 hP.1.2 ?_
  refine ex_iload_n dX7_readKind_24 1 rfl ?_
  refine ex_gets (q := ("BondOffice$RuleReader", "KINDS", "[LBondOffice$Kind;", fun ad => .ref (ad 2))) dX7_readKind_25 cZ_1 gs_X7_105 ?_
  refine ex_iload_n dX7_readKind_28 0 rfl ?_
  refine ex_aaldC (q := (.object "BondOffice$Kind", 2, 4, fun ad i => .ref (ad (3 + i)))) (j := 1) dX7_readKind_29 cT_1 rfl rfl (by decide) (by decide) ?_
  refine ex_getC (q := ("BondOffice$Kind", "word", "Ljava/lang/String;", 4, fun ad => .ref (ad 11))) dX7_readKind_30 cF_6 gc_X7_109 ?_
  refine ex_cVr [.int (hs_I S r 2), .int (nI (tk (pb T N) N p.1)), .ref (g.2.2.2.2 11)] [] dX7_readKind_33 cV_X7_112 (r_isTok_1 g hP hP.2.1.2.2.1 rfl (tk_ge _ _ _) (tk_le _ hpN)) hP.1.1 hP.1.2 rfl rfl rfl (by decide) (Nat.le_of_ble_eq_true rfl) rfl ?_
  refine ex_if_eq (tgt := 50) dX7_readKind_36 (by decide) (fun c36 => ?_) (fun c36 => absurd (if_neg (fun z => w1 ((tk_wd (pb_0 T N) (by decide)).mp z))) c36)
  refine ex_iinc (v := 2) 0 [(2, .int 2), (1, .int (nI (tk (pb T N) N p.1))), (0, .ref r)] dX7_readKind_50 rfl (by decide) (by decide) rfl ?_
  refine ex_goto (tgt := 11) dX7_readKind_53 (by decide) ?_
  refine ex_iload_n dX7_readKind_11 0 rfl ?_
  refine ex_gets (q := ("BondOffice$RuleReader", "KINDS", "[LBondOffice$Kind;", fun ad => .ref (ad 2))) dX7_readKind_12 cZ_1 gs_X7_105 ?_
  refine ex_alenC (q := (.object "BondOffice$Kind", 2, 4, fun ad i => .ref (ad (3 + i)))) dX7_readKind_15 cT_1 ?_
  refine ex_icmp_ge (tgt := 56) dX7_readKind_16 (by decide) (fun c16 => absurd c16 (by decide)) (fun c16 => ?_)
  refine ex_aload_n dX7_readKind_19 2 rfl ?_
  refine ex_aload_n dX7_readKind_20 2 rfl ?_
  refine ex_getI dX7_readKind_21 fl_X7_9 hP.1.1 hP.1.2 ?_
  refine ex_iload_n dX7_readKind_24 1 rfl ?_
  refine ex_gets (q := ("BondOffice$RuleReader", "KINDS", "[LBondOffice$Kind;", fun ad => .ref (ad 2))) dX7_readKind_25 cZ_1 gs_X7_105 ?_
  refine ex_iload_n dX7_readKind_28 0 rfl ?_
  refine ex_aaldC (q := (.object "BondOffice$Kind", 2, 4, fun ad i => .ref (ad (3 + i)))) (j := 2) dX7_readKind_29 cT_1 rfl rfl (by decide) (by decide) ?_
  refine ex_getC (q := ("BondOffice$Kind", "word", "Ljava/lang/String;", 5, fun ad => .ref (ad 12))) dX7_readKind_30 cF_12 gc_X7_109 ?_
  refine ex_cVr [.int (hs_I S r 2), .int (nI (tk (pb T N) N p.1)), .ref (g.2.2.2.2 12)] [] dX7_readKind_33 cV_X7_112 (r_isTok_2 g hP hP.2.1.2.2.1 rfl (tk_ge _ _ _) (tk_le _ hpN)) hP.1.1 hP.1.2 rfl rfl rfl (by decide) (Nat.le_of_ble_eq_true rfl) rfl ?_
  refine ex_if_eq (tgt := 50) dX7_readKind_36 (by decide) (fun c36 => absurd c36 (by rw [if_pos (show tk (pb T N) N p.1 - p.1 = 4 ∧ mt (pb T N) p.1 [116, 105, 101, 114] from (tk_wd (pb_0 T N) (by decide)).mpr w2)]; decide)) (fun c36 => ?_)
  refine ex_aload_n dX7_readKind_39 2 rfl ?_
  refine ex_iload_n dX7_readKind_40 1 rfl ?_
  refine ex_putI dX7_readKind_41 fl_X7_9 (pf_X7_9 _) hP.1.1 hP.1.2 ?_
  refine ex_gets (q := ("BondOffice$RuleReader", "KINDS", "[LBondOffice$Kind;", fun ad => .ref (ad 2))) dX7_readKind_44 cZ_1 gs_X7_105 ?_
  refine ex_iload_n dX7_readKind_47 0 rfl ?_
  refine ex_aaldC (q := (.object "BondOffice$Kind", 2, 4, fun ad i => .ref (ad (3 + i)))) (j := 2) dX7_readKind_48 cT_1 rfl rfl (by decide) (by decide) ?_
  exact ex_art rfl (Or.inl ⟨_, rfl⟩) dX7_readKind_49 ⟨rfl, RS_at hP (by rw [tk_wl (pb_0 T N) (by decide) w2]; rfl) (by have := tk_le (pb T N) hpN; rw [tk_wl (pb_0 T N) (by decide) w2] at this; exact this), hs_fr_sI _ _ _ _, rfl, rfl⟩
set_option maxRecDepth 20000 in
set_option maxHeartbeats 4000000 in
theorem r_kind_3 (g : gl_T) {S : hs_T} {n k : Nat} {r tp N : Nat} {T : List Int32} {p : ps_T} (hP : RS S r tp T N p) (w0 : ¬ wd (pb T N) p.1 [102, 117, 110, 100]) (w1 : ¬ wd (pb T N) p.1 [100, 97, 121, 115]) (w2 : ¬ wd (pb T N) p.1 [116, 105, 101, 114]) (w3 : wd (pb T N) p.1 [115, 104, 97, 114, 101]) : ex_M g 5 mX7_readKind [.ref r] S n k (rq S r tp n k T N (p.1 + 5, p.2) (some (.ref (g.2.2.2.2 6)))) := by
  have hN4 := hP.2.2.2.2.1
  have hpN := hP.2.2.2.2.2.1
  refine ex_enter (by decide +kernel) (Nat.le_of_ble_eq_true rfl) ?_
  show ex_W _ _ _ _ 0 [(0, .ref r)] [] _ _ _
  refine ex_aload_n dX7_readKind_0 0 rfl ?_
  refine ex_aload_n dX7_readKind_1 0 rfl ?_
  refine ex_getI dX7_readKind_2 fl_X7_9 hP.1.1 hP.1.2 ?_
  refine ex_cVr [.int (hs_I S r 2)] [] dX7_readKind_5 cV_X7_101 (r_eot g hP hP.2.1.2.2.1 hpN) hP.1.1 hP.1.2 rfl rfl rfl (by decide) (Nat.le_of_ble_eq_true rfl) rfl ?_
  refine ex_istore_n [(1, .int (nI (tk (pb T N) N p.1))), (0, .ref r)] dX7_readKind_8 (by decide) rfl ?_
  refine ex_iconst (v := 0) dX7_readKind_9 (by decide) ?_
  refine ex_istore_n [(2, .int 0), (1, .int (nI (tk (pb T N) N p.1))), (0, .ref r)] dX7_readKind_10 (by decide) rfl ?_
  refine ex_iload_n dX7_readKind_11 0 rfl ?_
  refine ex_gets (q := ("BondOffice$RuleReader", "KINDS", "[LBondOffice$Kind;", fun ad => .ref (ad 2))) dX7_readKind_12 cZ_1 gs_X7_105 ?_
  refine ex_alenC (q := (.object "BondOffice$Kind", 2, 4, fun ad i => .ref (ad (3 + i)))) dX7_readKind_15 cT_1 ?_
  refine ex_icmp_ge (tgt := 56) dX7_readKind_16 (by decide) (fun c16 => absurd c16 (by decide)) (fun c16 => ?_)
  refine ex_aload_n dX7_readKind_19 2 rfl ?_
  refine ex_aload_n dX7_readKind_20 2 rfl ?_
  refine ex_getI dX7_readKind_21 fl_X7_9 hP.1.1 hP.1.2 ?_
  refine ex_iload_n dX7_readKind_24 1 rfl ?_
  refine ex_gets (q := ("BondOffice$RuleReader", "KINDS", "[LBondOffice$Kind;", fun ad => .ref (ad 2))) dX7_readKind_25 cZ_1 gs_X7_105 ?_
  refine ex_iload_n dX7_readKind_28 0 rfl ?_
  refine ex_aaldC (q := (.object "BondOffice$Kind", 2, 4, fun ad i => .ref (ad (3 + i)))) (j := 0) dX7_readKind_29 cT_1 rfl rfl (by decide) (by decide) ?_
  refine ex_getC (q := ("BondOffice$Kind", "word", "Ljava/lang/String;", 3, fun ad => .ref (ad 10))) dX7_readKind_30 cF_0 gc_X7_109 ?_
  refine ex_cVr [.int (hs_I S r 2), .int (nI (tk (pb T N) N p.1)), .ref (g.2.2.2.2 10)] [] dX7_readKind_33 cV_X7_112 (r_isTok_0 g hP hP.2.1.2.2.1 rfl (tk_ge _ _ _) (tk_le _ hpN)) hP.1.1 hP.1.2 rfl rfl rfl (by decide) (Nat.le_of_ble_eq_true rfl) rfl ?_
  refine ex_if_eq (tgt := 50) dX7_readKind_36 (by decide) (fun c36 => ?_) (fun c36 => absurd (if_neg (fun z => w0 ((tk_wd (pb_0 T N) (by decide)).mp z))) c36)
  refine ex_iinc (v := 1) 0 [(2, .int 1), (1, .int (nI (tk (pb T N) N p.1))), (0, .ref r)] dX7_readKind_50 rfl (by decide) (by decide) rfl ?_
  refine ex_goto (tgt := 11) dX7_readKind_53 (by decide) ?_
  refine ex_iload_n dX7_readKind_11 0 rfl ?_
  refine ex_gets (q := ("BondOffice$RuleReader", "KINDS", "[LBondOffice$Kind;", fun ad => .ref (ad 2))) dX7_readKind_12 cZ_1 gs_X7_105 ?_
  refine ex_alenC (q := (.object "BondOffice$Kind", 2, 4, fun ad i => .ref (ad (3 + i)))) dX7_readKind_15 cT_1 ?_
  refine ex_icmp_ge (tgt := 56) dX7_readKind_16 (by decide) (fun c16 => absurd c16 (by decide)) (fun c16 => ?_)
  refine ex_aload_n dX7_readKind_19 2 rfl ?_
  refine ex_aload_n dX7_readKind_20 2 rfl ?_
  refine ex_getI dX7_readKind_21 fl_X7_9 hP.1.1 hP.1.2 ?_
  refine ex_iload_n dX7_readKind_24 1 rfl ?_
  refine ex_gets (q := ("BondOffice$RuleReader", "KINDS", "[LBondOffice$Kind;", fun ad => .ref (ad 2))) dX7_readKind_25 cZ_1 gs_X7_105 ?_
  refine ex_iload_n dX7_readKind_28 0 rfl ?_
  refine ex_aaldC (q := (.object "BondOffice$Kind", 2, 4, fun ad i => .ref (ad (3 + i)))) (j := 1) dX7_readKind_29 cT_1 rfl rfl (by decide) (by decide) ?_
  refine ex_getC (q := ("BondOffice$Kind", "word", "Ljava/lang/String;", 4, fun ad => .ref (ad 11))) dX7_readKind_30 cF_6 gc_X7_109 ?_
  refine ex_cVr [.int (hs_I S r 2), .int (nI (tk (pb T N) N p.1)), .ref (g.2.2.2.2 11)] [] dX7_readKind_33 cV_X7_112 (r_isTok_1 g hP hP.2.1.2.2.1 rfl (tk_ge _ _ _) (tk_le _ hpN)) hP.1.1 hP.1.2 rfl rfl rfl (by decide) (Nat.le_of_ble_eq_true rfl) rfl ?_
  refine ex_if_eq (tgt := 50) dX7_readKind_36 (by decide) (fun c36 => ?_) (fun c36 => absurd (if_neg (fun z => w1 ((tk_wd (pb_0 T N) (by decide)).mp z))) c36)
  refine ex_iinc (v := 2) 0 [(2, .int 2), (1, .int (nI (tk (pb T N) N p.1))), (0, .ref r)] dX7_readKind_50 rfl (by decide) (by decide) rfl ?_
  refine ex_goto (tgt := 11) dX7_readKind_53 (by decide) ?_
  refine ex_iload_n dX7_readKind_11 0 rfl ?_
  refine ex_gets (q := ("BondOffice$RuleReader", "KINDS", "[LBondOffice$Kind;", fun ad => .ref (ad 2))) dX7_readKind_12 cZ_1 gs_X7_105 ?_
  refine ex_alenC (q := (.object "BondOffice$Kind", 2, 4, fun ad i => .ref (ad (3 + i)))) dX7_readKind_15 cT_1 ?_
  refine ex_icmp_ge (tgt := 56) dX7_readKind_16 (by decide) (fun c16 => absurd c16 (by decide)) (fun c16 => ?_)
  refine ex_aload_n dX7_readKind_19 2 rfl ?_
  refine ex_aload_n dX7_readKind_20 2 rfl ?_
  refine ex_getI dX7_readKind_21 fl_X7_9 hP.1.1 hP.1.2 ?_
  refine ex_iload_n dX7_readKind_24 1 rfl ?_
  refine ex_gets (q := ("BondOffice$RuleReader", "KINDS", "[LBondOffice$Kind;", fun ad => .ref (ad 2))) dX7_readKind_25 cZ_1 gs_X7_105 ?_
  refine ex_iload_n dX7_readKind_28 0 rfl ?_
  refine ex_aaldC (q := (.object "BondOffice$Kind", 2, 4, fun ad i => .ref (ad (3 + i)))) (j := 2) dX7_readKind_29 cT_1 rfl rfl (by decide) (by decide) ?_
  refine ex_getC (q := ("BondOffice$Kind", "word", "Ljava/lang/String;", 5, fun ad => .ref (ad 12))) dX7_readKind_30 cF_12 gc_X7_109 ?_
  refine ex_cVr [.int (hs_I S r 2), .int (nI (tk (pb T N) N p.1)), .ref (g.2.2.2.2 12)] [] dX7_readKind_33 cV_X7_112 (r_isTok_2 g hP hP.2.1.2.2.1 rfl (tk_ge _ _ _) (tk_le _ hpN)) hP.1.1 hP.1.2 rfl rfl rfl (by decide) (Nat.le_of_ble_eq_true rfl) rfl ?_
  refine ex_if_eq (tgt := 50) dX7_readKind_36 (by decide) (fun c36 => ?_) (fun c36 => absurd (if_neg (fun z => w2 ((tk_wd (pb_0 T N) (by decide)).mp z))) c36)
  refine ex_iinc (v := 3) 0 [(2, .int 3), (1, .int (nI (tk (pb T N) N p.1))), (0, .ref r)] dX7_readKind_50 rfl (by decide) (by decide) rfl ?_
  refine ex_goto (tgt := 11) dX7_readKind_53 (by decide) ?_
  refine ex_iload_n dX7_readKind_11 0 rfl ?_
  refine ex_gets (q := ("BondOffice$RuleReader", "KINDS", "[LBondOffice$Kind;", fun ad => .ref (ad 2))) dX7_readKind_12 cZ_1 gs_X7_105 ?_
  refine ex_alenC (q := (.object "BondOffice$Kind", 2, 4, fun ad i => .ref (ad (3 + i)))) dX7_readKind_15 cT_1 ?_
  refine ex_icmp_ge (tgt := 56) dX7_readKind_16 (by decide) (fun c16 => absurd c16 (by decide)) (fun c16 => ?_)
  refine ex_aload_n dX7_readKind_19 2 rfl ?_
  refine ex_aload_n dX7_readKind_20 2 rfl ?_
  refine ex_getI dX7_readKind_21 fl_X7_9 hP.1.1 hP.1.2 ?_
  refine ex_iload_n dX7_readKind_24 1 rfl ?_
  refine ex_gets (q := ("BondOffice$RuleReader", "KINDS", "[LBondOffice$Kind;", fun ad => .ref (ad 2))) dX7_readKind_25 cZ_1 gs_X7_105 ?_
  refine ex_iload_n dX7_readKind_28 0 rfl ?_
  refine ex_aaldC (q := (.object "BondOffice$Kind", 2, 4, fun ad i => .ref (ad (3 + i)))) (j := 3) dX7_readKind_29 cT_1 rfl rfl (by decide) (by decide) ?_
  refine ex_getC (q := ("BondOffice$Kind", "word", "Ljava/lang/String;", 6, fun ad => .ref (ad 13))) dX7_readKind_30 cF_18 gc_X7_109 ?_
  refine ex_cVr [.int (hs_I S r 2), .int (nI (tk (pb T N) N p.1)), .ref (g.2.2.2.2 13)] [] dX7_readKind_33 cV_X7_112 (r_isTok_3 g hP hP.2.1.2.2.1 rfl (tk_ge _ _ _) (tk_le _ hpN)) hP.1.1 hP.1.2 rfl rfl rfl (by decide) (Nat.le_of_ble_eq_true rfl) rfl ?_
  refine ex_if_eq (tgt := 50) dX7_readKind_36 (by decide) (fun c36 => absurd c36 (by rw [if_pos (show tk (pb T N) N p.1 - p.1 = 5 ∧ mt (pb T N) p.1 [115, 104, 97, 114, 101] from (tk_wd (pb_0 T N) (by decide)).mpr w3)]; decide)) (fun c36 => ?_)
  refine ex_aload_n dX7_readKind_39 2 rfl ?_
  refine ex_iload_n dX7_readKind_40 1 rfl ?_
  refine ex_putI dX7_readKind_41 fl_X7_9 (pf_X7_9 _) hP.1.1 hP.1.2 ?_
  refine ex_gets (q := ("BondOffice$RuleReader", "KINDS", "[LBondOffice$Kind;", fun ad => .ref (ad 2))) dX7_readKind_44 cZ_1 gs_X7_105 ?_
  refine ex_iload_n dX7_readKind_47 0 rfl ?_
  refine ex_aaldC (q := (.object "BondOffice$Kind", 2, 4, fun ad i => .ref (ad (3 + i)))) (j := 3) dX7_readKind_48 cT_1 rfl rfl (by decide) (by decide) ?_
  exact ex_art rfl (Or.inl ⟨_, rfl⟩) dX7_readKind_49 ⟨rfl, RS_at hP (by rw [tk_wl (pb_0 T N) (by decide) w3]; rfl) (by have := tk_le (pb T N) hpN; rw [tk_wl (pb_0 T N) (by decide) w3] at this; exact this), hs_fr_sI _ _ _ _, rfl, rfl⟩
set_option maxRecDepth 20000 in
set_option maxHeartbeats 4000000 in
theorem r_kind_n (g : gl_T) {S : hs_T} {n k : Nat} {r tp N : Nat} {T : List Int32} {p : ps_T} (hP : RS S r tp T N p) (w0 : ¬ wd (pb T N) p.1 [102, 117, 110, 100]) (w1 : ¬ wd (pb T N) p.1 [100, 97, 121, 115]) (w2 : ¬ wd (pb T N) p.1 [116, 105, 101, 114]) (w3 : ¬ wd (pb T N) p.1 [115, 104, 97, 114, 101]) : ex_M g 5 mX7_readKind [.ref r] S n k (ex_rt (some .null) S n k) := by
  have hN4 := hP.2.2.2.2.1
  have hpN := hP.2.2.2.2.2.1
  refine ex_enter (by decide +kernel) (Nat.le_of_ble_eq_true rfl) ?_
  show ex_W _ _ _ _ 0 [(0, .ref r)] [] _ _ _
  refine ex_aload_n dX7_readKind_0 0 rfl ?_
  refine ex_aload_n dX7_readKind_1 0 rfl ?_
  refine ex_getI dX7_readKind_2 fl_X7_9 hP.1.1 hP.1.2 ?_
  refine ex_cVr [.int (hs_I S r 2)] [] dX7_readKind_5 cV_X7_101 (r_eot g hP hP.2.1.2.2.1 hpN) hP.1.1 hP.1.2 rfl rfl rfl (by decide) (Nat.le_of_ble_eq_true rfl) rfl ?_
  refine ex_istore_n [(1, .int (nI (tk (pb T N) N p.1))), (0, .ref r)] dX7_readKind_8 (by decide) rfl ?_
  refine ex_iconst (v := 0) dX7_readKind_9 (by decide) ?_
  refine ex_istore_n [(2, .int 0), (1, .int (nI (tk (pb T N) N p.1))), (0, .ref r)] dX7_readKind_10 (by decide) rfl ?_
  refine ex_iload_n dX7_readKind_11 0 rfl ?_
  refine ex_gets (q := ("BondOffice$RuleReader", "KINDS", "[LBondOffice$Kind;", fun ad => .ref (ad 2))) dX7_readKind_12 cZ_1 gs_X7_105 ?_
  refine ex_alenC (q := (.object "BondOffice$Kind", 2, 4, fun ad i => .ref (ad (3 + i)))) dX7_readKind_15 cT_1 ?_
  refine ex_icmp_ge (tgt := 56) dX7_readKind_16 (by decide) (fun c16 => absurd c16 (by decide)) (fun c16 => ?_)
  refine ex_aload_n dX7_readKind_19 2 rfl ?_
  refine ex_aload_n dX7_readKind_20 2 rfl ?_
  refine ex_getI dX7_readKind_21 fl_X7_9 hP.1.1 hP.1.2 ?_
  refine ex_iload_n dX7_readKind_24 1 rfl ?_
  refine ex_gets (q := ("BondOffice$RuleReader", "KINDS", "[LBondOffice$Kind;", fun ad => .ref (ad 2))) dX7_readKind_25 cZ_1 gs_X7_105 ?_
  refine ex_iload_n dX7_readKind_28 0 rfl ?_
  refine ex_aaldC (q := (.object "BondOffice$Kind", 2, 4, fun ad i => .ref (ad (3 + i)))) (j := 0) dX7_readKind_29 cT_1 rfl rfl (by decide) (by decide) ?_
  refine ex_getC (q := ("BondOffice$Kind", "word", "Ljava/lang/String;", 3, fun ad => .ref (ad 10))) dX7_readKind_30 cF_0 gc_X7_109 ?_
  refine ex_cVr [.int (hs_I S r 2), .int (nI (tk (pb T N) N p.1)), .ref (g.2.2.2.2 10)] [] dX7_readKind_33 cV_X7_112 (r_isTok_0 g hP hP.2.1.2.2.1 rfl (tk_ge _ _ _) (tk_le _ hpN)) hP.1.1 hP.1.2 rfl rfl rfl (by decide) (Nat.le_of_ble_eq_true rfl) rfl ?_
  refine ex_if_eq (tgt := 50) dX7_readKind_36 (by decide) (fun c36 => ?_) (fun c36 => absurd (if_neg (fun z => w0 ((tk_wd (pb_0 T N) (by decide)).mp z))) c36)
  refine ex_iinc (v := 1) 0 [(2, .int 1), (1, .int (nI (tk (pb T N) N p.1))), (0, .ref r)] dX7_readKind_50 rfl (by decide) (by decide) rfl ?_
  refine ex_goto (tgt := 11) dX7_readKind_53 (by decide) ?_
  refine ex_iload_n dX7_readKind_11 0 rfl ?_
  refine ex_gets (q := ("BondOffice$RuleReader", "KINDS", "[LBondOffice$Kind;", fun ad => .ref (ad 2))) dX7_readKind_12 cZ_1 gs_X7_105 ?_
  refine ex_alenC (q := (.object "BondOffice$Kind", 2, 4, fun ad i => .ref (ad (3 + i)))) dX7_readKind_15 cT_1 ?_
  refine ex_icmp_ge (tgt := 56) dX7_readKind_16 (by decide) (fun c16 => absurd c16 (by decide)) (fun c16 => ?_)
  refine ex_aload_n dX7_readKind_19 2 rfl ?_
  refine ex_aload_n dX7_readKind_20 2 rfl ?_
  refine ex_getI dX7_readKind_21 fl_X7_9 hP.1.1 hP.1.2 ?_
  refine ex_iload_n dX7_readKind_24 1 rfl ?_
  refine ex_gets (q := ("BondOffice$RuleReader", "KINDS", "[LBondOffice$Kind;", fun ad => .ref (ad 2))) dX7_readKind_25 cZ_1 gs_X7_105 ?_
  refine ex_iload_n dX7_readKind_28 0 rfl ?_
  refine ex_aaldC (q := (.object "BondOffice$Kind", 2, 4, fun ad i => .ref (ad (3 + i)))) (j := 1) dX7_readKind_29 cT_1 rfl rfl (by decide) (by decide) ?_
  refine ex_getC (q := ("BondOffice$Kind", "word", "Ljava/lang/String;", 4, fun ad => .ref (ad 11))) dX7_readKind_30 cF_6 gc_X7_109 ?_
  refine ex_cVr [.int (hs_I S r 2), .int (nI (tk (pb T N) N p.1)), .ref (g.2.2.2.2 11)] [] dX7_readKind_33 cV_X7_112 (r_isTok_1 g hP hP.2.1.2.2.1 rfl (tk_ge _ _ _) (tk_le _ hpN)) hP.1.1 hP.1.2 rfl rfl rfl (by decide) (Nat.le_of_ble_eq_true rfl) rfl ?_
  refine ex_if_eq (tgt := 50) dX7_readKind_36 (by decide) (fun c36 => ?_) (fun c36 => absurd (if_neg (fun z => w1 ((tk_wd (pb_0 T N) (by decide)).mp z))) c36)
  refine ex_iinc (v := 2) 0 [(2, .int 2), (1, .int (nI (tk (pb T N) N p.1))), (0, .ref r)] dX7_readKind_50 rfl (by decide) (by decide) rfl ?_
  refine ex_goto (tgt := 11) dX7_readKind_53 (by decide) ?_
  refine ex_iload_n dX7_readKind_11 0 rfl ?_
  refine ex_gets (q := ("BondOffice$RuleReader", "KINDS", "[LBondOffice$Kind;", fun ad => .ref (ad 2))) dX7_readKind_12 cZ_1 gs_X7_105 ?_
  refine ex_alenC (q := (.object "BondOffice$Kind", 2, 4, fun ad i => .ref (ad (3 + i)))) dX7_readKind_15 cT_1 ?_
  refine ex_icmp_ge (tgt := 56) dX7_readKind_16 (by decide) (fun c16 => absurd c16 (by decide)) (fun c16 => ?_)
  refine ex_aload_n dX7_readKind_19 2 rfl ?_
  refine ex_aload_n dX7_readKind_20 2 rfl ?_
  refine ex_getI dX7_readKind_21 fl_X7_9 hP.1.1 hP.1.2 ?_
  refine ex_iload_n dX7_readKind_24 1 rfl ?_
  refine ex_gets (q := ("BondOffice$RuleReader", "KINDS", "[LBondOffice$Kind;", fun ad => .ref (ad 2))) dX7_readKind_25 cZ_1 gs_X7_105 ?_
  refine ex_iload_n dX7_readKind_28 0 rfl ?_
  refine ex_aaldC (q := (.object "BondOffice$Kind", 2, 4, fun ad i => .ref (ad (3 + i)))) (j := 2) dX7_readKind_29 cT_1 rfl rfl (by decide) (by decide) ?_
  refine ex_getC (q := ("BondOffice$Kind", "word", "Ljava/lang/String;", 5, fun ad => .ref (ad 12))) dX7_readKind_30 cF_12 gc_X7_109 ?_
  refine ex_cVr [.int (hs_I S r 2), .int (nI (tk (pb T N) N p.1)), .ref (g.2.2.2.2 12)] [] dX7_readKind_33 cV_X7_112 (r_isTok_2 g hP hP.2.1.2.2.1 rfl (tk_ge _ _ _) (tk_le _ hpN)) hP.1.1 hP.1.2 rfl rfl rfl (by decide) (Nat.le_of_ble_eq_true rfl) rfl ?_
  refine ex_if_eq (tgt := 50) dX7_readKind_36 (by decide) (fun c36 => ?_) (fun c36 => absurd (if_neg (fun z => w2 ((tk_wd (pb_0 T N) (by decide)).mp z))) c36)
  refine ex_iinc (v := 3) 0 [(2, .int 3), (1, .int (nI (tk (pb T N) N p.1))), (0, .ref r)] dX7_readKind_50 rfl (by decide) (by decide) rfl ?_
  refine ex_goto (tgt := 11) dX7_readKind_53 (by decide) ?_
  refine ex_iload_n dX7_readKind_11 0 rfl ?_
  refine ex_gets (q := ("BondOffice$RuleReader", "KINDS", "[LBondOffice$Kind;", fun ad => .ref (ad 2))) dX7_readKind_12 cZ_1 gs_X7_105 ?_
  refine ex_alenC (q := (.object "BondOffice$Kind", 2, 4, fun ad i => .ref (ad (3 + i)))) dX7_readKind_15 cT_1 ?_
  refine ex_icmp_ge (tgt := 56) dX7_readKind_16 (by decide) (fun c16 => absurd c16 (by decide)) (fun c16 => ?_)
  refine ex_aload_n dX7_readKind_19 2 rfl ?_
  refine ex_aload_n dX7_readKind_20 2 rfl ?_
  refine ex_getI dX7_readKind_21 fl_X7_9 hP.1.1 hP.1.2 ?_
  refine ex_iload_n dX7_readKind_24 1 rfl ?_
  refine ex_gets (q := ("BondOffice$RuleReader", "KINDS", "[LBondOffice$Kind;", fun ad => .ref (ad 2))) dX7_readKind_25 cZ_1 gs_X7_105 ?_
  refine ex_iload_n dX7_readKind_28 0 rfl ?_
  refine ex_aaldC (q := (.object "BondOffice$Kind", 2, 4, fun ad i => .ref (ad (3 + i)))) (j := 3) dX7_readKind_29 cT_1 rfl rfl (by decide) (by decide) ?_
  refine ex_getC (q := ("BondOffice$Kind", "word", "Ljava/lang/String;", 6, fun ad => .ref (ad 13))) dX7_readKind_30 cF_18 gc_X7_109 ?_
  refine ex_cVr [.int (hs_I S r 2), .int (nI (tk (pb T N) N p.1)), .ref (g.2.2.2.2 13)] [] dX7_readKind_33 cV_X7_112 (r_isTok_3 g hP hP.2.1.2.2.1 rfl (tk_ge _ _ _) (tk_le _ hpN)) hP.1.1 hP.1.2 rfl rfl rfl (by decide) (Nat.le_of_ble_eq_true rfl) rfl ?_
  refine ex_if_eq (tgt := 50) dX7_readKind_36 (by decide) (fun c36 => ?_) (fun c36 => absurd (if_neg (fun z => w3 ((tk_wd (pb_0 T N) (by decide)).mp z))) c36)
  refine ex_iinc (v := 4) 0 [(2, .int 4), (1, .int (nI (tk (pb T N) N p.1))), (0, .ref r)] dX7_readKind_50 rfl (by decide) (by decide) rfl ?_
  refine ex_goto (tgt := 11) dX7_readKind_53 (by decide) ?_
  refine ex_iload_n dX7_readKind_11 0 rfl ?_
  refine ex_gets (q := ("BondOffice$RuleReader", "KINDS", "[LBondOffice$Kind;", fun ad => .ref (ad 2))) dX7_readKind_12 cZ_1 gs_X7_105 ?_
  refine ex_alenC (q := (.object "BondOffice$Kind", 2, 4, fun ad i => .ref (ad (3 + i)))) dX7_readKind_15 cT_1 ?_
  refine ex_icmp_ge (tgt := 56) dX7_readKind_16 (by decide) (fun c16 => ?_) (fun c16 => absurd (by decide) c16)
  refine ex_null dX7_readKind_56 ?_
  exact ex_artN rfl (Or.inl ⟨_, rfl⟩) dX7_readKind_57 ⟨rfl, rfl, rfl, rfl⟩
theorem c_has2_0 (g : gl_T) {S : hs_T} {n k : Nat} : ex_M g 0 mX3_hasSecond [.ref (g.2.2.2.2 3)] S n k (ex_rt (some (.int 1)) S n k) := by
  refine ex_enter (by decide +kernel) (Nat.le_of_ble_eq_true rfl) ?_
  show ex_W _ _ _ _ 0 [(0, .ref (g.2.2.2.2 3))] [] _ _ _
  refine ex_aload_n dX3_hasSecond_0 0 rfl ?_
  refine ex_getC (q := ("BondOffice$Kind", "secondMost", "I", 3, fun _ => .int (1000000000))) dX3_hasSecond_1 cF_5 gc_X3_54 ?_
  refine ex_iconst (v := (-1)) dX3_hasSecond_4 (by decide) ?_
  refine ex_icmp_eq (tgt := 12) dX3_hasSecond_5 (by decide) (fun c5 => absurd c5 (by decide)) (fun c5 => ?_)
  refine ex_iconst (v := 1) dX3_hasSecond_8 (by decide) ?_
  refine ex_goto (tgt := 13) dX3_hasSecond_9 (by decide) ?_
  exact ex_bret rfl (by decide) dX3_hasSecond_13 ex_rt_i
theorem c_has2_1 (g : gl_T) {S : hs_T} {n k : Nat} : ex_M g 0 mX3_hasSecond [.ref (g.2.2.2.2 4)] S n k (ex_rt (some (.int 0)) S n k) := by
  refine ex_enter (by decide +kernel) (Nat.le_of_ble_eq_true rfl) ?_
  show ex_W _ _ _ _ 0 [(0, .ref (g.2.2.2.2 4))] [] _ _ _
  refine ex_aload_n dX3_hasSecond_0 0 rfl ?_
  refine ex_getC (q := ("BondOffice$Kind", "secondMost", "I", 4, fun _ => .int (-1))) dX3_hasSecond_1 cF_11 gc_X3_54 ?_
  refine ex_iconst (v := (-1)) dX3_hasSecond_4 (by decide) ?_
  refine ex_icmp_eq (tgt := 12) dX3_hasSecond_5 (by decide) (fun c5 => ?_) (fun c5 => absurd (by decide) c5)
  refine ex_iconst (v := 0) dX3_hasSecond_12 (by decide) ?_
  exact ex_bret rfl (by decide) dX3_hasSecond_13 ex_rt_i
theorem c_has2_2 (g : gl_T) {S : hs_T} {n k : Nat} : ex_M g 0 mX3_hasSecond [.ref (g.2.2.2.2 5)] S n k (ex_rt (some (.int 1)) S n k) := by
  refine ex_enter (by decide +kernel) (Nat.le_of_ble_eq_true rfl) ?_
  show ex_W _ _ _ _ 0 [(0, .ref (g.2.2.2.2 5))] [] _ _ _
  refine ex_aload_n dX3_hasSecond_0 0 rfl ?_
  refine ex_getC (q := ("BondOffice$Kind", "secondMost", "I", 5, fun _ => .int (1000000000))) dX3_hasSecond_1 cF_17 gc_X3_54 ?_
  refine ex_iconst (v := (-1)) dX3_hasSecond_4 (by decide) ?_
  refine ex_icmp_eq (tgt := 12) dX3_hasSecond_5 (by decide) (fun c5 => absurd c5 (by decide)) (fun c5 => ?_)
  refine ex_iconst (v := 1) dX3_hasSecond_8 (by decide) ?_
  refine ex_goto (tgt := 13) dX3_hasSecond_9 (by decide) ?_
  exact ex_bret rfl (by decide) dX3_hasSecond_13 ex_rt_i
theorem c_has2_3 (g : gl_T) {S : hs_T} {n k : Nat} : ex_M g 0 mX3_hasSecond [.ref (g.2.2.2.2 6)] S n k (ex_rt (some (.int 1)) S n k) := by
  refine ex_enter (by decide +kernel) (Nat.le_of_ble_eq_true rfl) ?_
  show ex_W _ _ _ _ 0 [(0, .ref (g.2.2.2.2 6))] [] _ _ _
  refine ex_aload_n dX3_hasSecond_0 0 rfl ?_
  refine ex_getC (q := ("BondOffice$Kind", "secondMost", "I", 6, fun _ => .int (100))) dX3_hasSecond_1 cF_23 gc_X3_54 ?_
  refine ex_iconst (v := (-1)) dX3_hasSecond_4 (by decide) ?_
  refine ex_icmp_eq (tgt := 12) dX3_hasSecond_5 (by decide) (fun c5 => absurd c5 (by decide)) (fun c5 => ?_)
  refine ex_iconst (v := 1) dX3_hasSecond_8 (by decide) ?_
  refine ex_goto (tgt := 13) dX3_hasSecond_9 (by decide) ?_
  exact ex_bret rfl (by decide) dX3_hasSecond_13 ex_rt_i
