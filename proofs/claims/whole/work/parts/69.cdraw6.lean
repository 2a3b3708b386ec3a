theorem d_bdc {s : st_T} {ys : List Nat} (hb : BD s) (hO : OK s) (hG : GO (s_ls s) ys) {r : Nat} (hr : r < (s_rs s).length) (hd : (s_ds s).length < 40) : d_H s ≤ 1000000000 ∧ d_F s r < 1000000000000000000 ∧ (s_ws s).length + 50 ≤ 2000 := by
  have hf : ∀ i, (ln_at (s_ls s) i).1 ≤ (ln_at (s_ls s) i).2.1 := fun i => by
    by_cases z : i < (s_ls s).length
    · exact (hb.2.2.2.1.2 i z).1
    · unfold ln_at; rw [List.getD_eq_getElem?_getD, List.getElem?_eq_none (by omega)]; exact Nat.le_refl _
  have h1 : d_H s ≤ 1000000000 := by
    unfold d_H
    rw [GO_H hf hG]
    exact sz_le (b := 0) hG.1 (fun i hi => ⟨hf i, (hb.2.2.2.1.2 i ((hG.2 i).mp hi).1).2.1, Nat.zero_le _⟩) (by omega)
  obtain ⟨_, _, _, _, h2, h3⟩ := id hO
  have h4 := lpc_le (s_td s) (s_ws s) (s_ws s).length
  have h5 := fu_le h1 (hO.2.2.1 r hr) _ (Nat.le_refl _)
  have h6 : (ru_at (s_rs s) r).2.length ≤ 10 := (hb.2.2.2.2.2.1.2 r hr).2
  refine ⟨h1, ?_, by omega⟩
  unfold d_F d_cr
  omega
theorem d_Mlc {s : st_T} {ys : List Nat} (hb : BD s) (hG : GO (s_ls s) ys) (r : Nat) : d_M s ys r ≤ 1000000000 := by
  have hf : ∀ i, (ln_at (s_ls s) i).1 ≤ (ln_at (s_ls s) i).2.1 := fun i => by
    by_cases z : i < (s_ls s).length
    · exact (hb.2.2.2.1.2 i z).1
    · unfold ln_at; rw [List.getD_eq_getElem?_getD, List.getElem?_eq_none (by omega)]; exact Nat.le_refl _
  exact sz_le (b := 0) (List.Pairwise.filter _ hG.1) (fun i hi => ⟨hf i, (hb.2.2.2.1.2 i ((hG.2 i).mp (List.mem_filter.mp hi).1).1).2.1, Nat.zero_le _⟩) (by omega)
theorem BD_lp {s : st_T} (hb : BD s) : BD (w_cr (w_ws s (d_ws s)) (d_cr s)) := by
  obtain ⟨b1, b2, b3, b4, b5, b6, b7, b8, b9, b10⟩ := hb
  exact ⟨b1, b2, b3, b4, b5, b6, b7, b8, by show (d_ws s).length ≤ 2000; unfold d_ws; rw [lp_len]; exact b9, b10⟩
/-- what stands when the draw's object is made -/
theorem AR_0 {g : gl_T} {S0 S1 S3 : hs_T} {ow0 ow1 ow3 : Nat → Nat} {x l tp nz : Nat} {s : st_T} {ys : List Nat} {c : Nat → Nat} {md ru r : Nat} {cs : List cl_T} {cal : List Nat} (hR : RC g S1 ow1 x l tp nz s ys c) (hU : CUo g S1 ow1 ru r cs cal) (hC1 : CK ow0 ow1 cDk cDs S0 S1) (hC3 : CK ow1 ow3 [] [] S1 S3) (hm : md ∈ hs_L S3 ∧ hs_K S3 md = 2) (hm1 : md ∉ hs_L S1) : AR g S0 ow0 S3 ow3 x l tp nz s ys c md ru r cs cal := by
  obtain ⟨hB, hCS, hCH, hCG, hCT, hCR, hCN, hCD, hCW⟩ := id hR
  obtain ⟨da, d1, d2, d3⟩ := id hCD
  have hDA : DA g S1 ow1 x (c 2) md (s_ds s) := ⟨da, d1, fun z => hm1 (CL_mem d1 z).1, d2, d3⟩
  exact ⟨RC_ck hR hC3 (by simp) (by simp), DA_ck hB.1 hDA hC3 (by decide) (by decide) (by decide) (by decide), CUo_ck hU hC3 (by decide) (by decide) (by decide) (by simp), hm, fun z => hm1 (hC1.1 md z).1, CK_tr hC1 (CK_mono hC3 (by decide) (by decide))⟩
def w9 : Nat := 2 ^ 32 - 1
theorem m1w : (-1 : Int32) = nI w9 := by decide
theorem DM_0 {S : hs_T} {a td r M : Nat} {y1 y2 y3 : Int32} (h1 : y1 = nI td) (h2 : y2 = nI r) (h3 : y3 = nI M) {w0 : Nat} (hw : (-1 : Int32) = nI w0) (hz : (0 : Int64) = lN 0) (ho : (1 : Int64) = lN 1) (hi : (0 : Int32) = nI 0) : DM (hs_sI (hs_sI (hs_sI (hs_sJ (hs_sI (hs_sI (hs_sJ (hs_sJ (hs_sJ S a 3 0) a 4 1) a 5 0) a 6 0) a 7 (-1)) a 8 0) a 0 y1) a 1 y2) a 2 y3) a td r M 0 1 0 w0 0 0 := by
  unfold DM
  refine ⟨?_, ?_, ?_, ?_, ?_, ?_, ?_, ?_, ?_⟩
  · rw [hs_I_sI, if_neg (fun w => absurd w.2 (by decide)), hs_I_sI, if_neg (fun w => absurd w.2 (by decide)), hs_I_sI, if_pos ⟨rfl, rfl⟩]; exact h1
  · rw [hs_I_sI, if_neg (fun w => absurd w.2 (by decide)), hs_I_sI, if_pos ⟨rfl, rfl⟩]; exact h2
  · rw [hs_I_sI, if_pos ⟨rfl, rfl⟩]; exact h3
  · rw [hs_J_sI, hs_J_sI, hs_J_sI, hs_J_sJ, if_neg (fun w => absurd w.2 (by decide)), hs_J_sI, hs_J_sI, hs_J_sJ, if_neg (fun w => absurd w.2 (by decide)), hs_J_sJ, if_neg (fun w => absurd w.2 (by decide)), hs_J_sJ, if_pos ⟨rfl, rfl⟩]; exact hz
  · rw [hs_J_sI, hs_J_sI, hs_J_sI, hs_J_sJ, if_neg (fun w => absurd w.2 (by decide)), hs_J_sI, hs_J_sI, hs_J_sJ, if_neg (fun w => absurd w.2 (by decide)), hs_J_sJ, if_pos ⟨rfl, rfl⟩]; exact ho
  · rw [hs_J_sI, hs_J_sI, hs_J_sI, hs_J_sJ, if_neg (fun w => absurd w.2 (by decide)), hs_J_sI, hs_J_sI, hs_J_sJ, if_pos ⟨rfl, rfl⟩]; exact hz
  · rw [hs_I_sI, if_neg (fun w => absurd w.2 (by decide)), hs_I_sI, if_neg (fun w => absurd w.2 (by decide)), hs_I_sI, if_neg (fun w => absurd w.2 (by decide)), hs_I_sJ, hs_I_sI, if_neg (fun w => absurd w.2 (by decide)), hs_I_sI, if_pos ⟨rfl, rfl⟩]; exact hi
  · rw [hs_I_sI, if_neg (fun w => absurd w.2 (by decide)), hs_I_sI, if_neg (fun w => absurd w.2 (by decide)), hs_I_sI, if_neg (fun w => absurd w.2 (by decide)), hs_I_sJ, hs_I_sI, if_pos ⟨rfl, rfl⟩]; exact hw
  · rw [hs_J_sI, hs_J_sI, hs_J_sI, hs_J_sJ, if_pos ⟨rfl, rfl⟩]; exact hz
set_option maxRecDepth 20000 in
set_option maxHeartbeats 2000000 in
theorem c_draw_e {g : gl_T} {S : hs_T} {n k x l tp nz ru r : Nat} {ow : Nat → Nat} {s : st_T} {ys : List Nat} {c : Nat → Nat} {cal : List Nat} {yy : Int32} (h : RC g S ow x l tp nz s ys c) (hb : BD s) (hO : OK s) (hn : n + 40000 ≤ ex_NM) (hk : k + 200000 ≤ ex_KM) (hG : GO (s_ls s) ys) (hr : r < (s_rs s).length) (hM0 : 0 < (d_M s ys r)) (hMle : (d_M s ys r) ≤ 1000000000) (hd40 : (s_ds s).length < 40) (hU : CUo g S ow ru r (ru_at (s_rs s) r).2 cal) (hpf : ∀ j, j < (s_ls s).length → (nI (ln_at (s_ls s) j).2.2.2.1 ≤ yy ↔ (fun i => decide ((ln_at (s_ls s) i).2.2.2.1 + d_dy s r ≤ s_td s)) j = true)) (hsp : sp_draw s ys = (0, .int (nI (s_ds s).length), d_s s ys r)) : ex_W g 10 mX9_draw (cp g S ow x l tp nz c n k (exN exS) s (sp_draw s ys)) 93 [(4, .int (nI (d_M s ys r))), (3, .int yy), (2, .ref ru), (1, .int (nI r)), (0, .ref x)] [] S n k := by
  obtain ⟨bd1, bd2, bd3, ⟨bd4, bd5⟩, bd6, ⟨bd7, bd8⟩, bd9, bd10, bd11, bd12⟩ := id hb
  have hcok := hO.2.2.1 r hr
  have hc10 := (bd8 r hr).2
  obtain ⟨hH9, hF, hw50⟩ := d_bdc hb hO hG hr hd40
  have hmx := mx_lt (s_ns s) 37 (M := (d_M s ys r)) hM0 (s_ns s).length
  have hwl : (d_ws s).length = (s_ws s).length := lp_len _ _ _
  have hfl : ∀ i, (ln_at (s_ls s) i).1 ≤ (ln_at (s_ls s) i).2.1 := fun i => by
    by_cases z : i < (s_ls s).length
    · exact (bd5 i z).1
    · unfold ln_at; rw [List.getD_eq_getElem?_getD, List.getElem?_eq_none (by omega)]; exact Nat.le_refl _
  have hHe : sz (s_ls s) ys = d_H s := (GO_H hfl hG).symm
  refine ex_aload_n dX9_draw_93 4 rfl ?_
  refine ex_cVg [] [] dX9_draw_94 cV_X9_181 (c_lapse g h hb hO) h.1.1.1 h.1.1.2 rfl rfl rfl (by decide) (Nat.le_of_ble_eq_true rfl) rfl ?_ (fun E S' n' k' h => by obtain ⟨h1, -⟩ := h; cases h1)
  rintro v' S1 n' k' ⟨hr1, hR1, hC1, hn1, hk1⟩
  cases hr1
  have hn1 := hn1.symm
  have hk1 := hk1.symm
  subst hn1 hk1
  show ex_W _ _ _ _ 97 [(4, .int (nI (d_M s ys r))), (3, .int yy), (2, .ref ru), (1, .int (nI r)), (0, .ref x)] [] S1 n k
  change RC g S1 ow x l tp nz (w_cr (w_ws s (d_ws s)) (d_cr s)) ys c at hR1
  refine ex_new (N := 9) dX9_draw_97 nl_X9_184 rfl (by omega) (by omega) (fun md hmd => ?_)
  refine ex_dup dX9_draw_100 rfl ?_
  have hC2 : CK ow (va_up ow md 0) [] [] S1 (hs_new S1 md 2 0) := CK_new ow 2 0 0 hmd
  have hm2 : md ∈ hs_L (hs_new S1 md 2 0) ∧ hs_K (hs_new S1 md 2 0) md = 2 := ⟨(hs_new_q S1 md 2 0).1, (hs_new_q S1 md 2 0).2.1⟩
  generalize hs_new S1 md 2 0 = S2 at hC2 hm2 ⊢
  have hB2 := CB_ck hR1.1 hC2
  have htd2 : hs_I S2 x 11 = nI (s_td s) := by rw [(ck_at hC2 hR1.1.1.1 hR1.1.1.2 (by decide) (by decide)).1]; exact hR1.2.1.1
  refine ex_aload_n dX9_draw_101 4 rfl ?_
  refine ex_getI dX9_draw_102 fl_X9_54 hB2.1.1 hB2.1.2 ?_
  refine ex_iload_n dX9_draw_105 3 rfl ?_
  refine ex_iload dX9_draw_106 0 rfl ?_
  refine ex_cIv [.int (hs_I S2 x 11), .int (nI r), .int (nI (d_M s ys r))] [.ref md] dX9_draw_108 cI_X9_186 (c_Draw_init g hm2.1 hm2.2) rfl (by decide) (Nat.le_of_ble_eq_true rfl) rfl ?_
  have hC3 : CK ow (va_up ow md 0) [] [] S1 (hs_sI (hs_sI (hs_sI (hs_sJ (hs_sI (hs_sI (hs_sJ (hs_sJ (hs_sJ S2 md 3 0) md 4 1) md 5 0) md 6 0) md 7 (-1)) md 8 0) md 0 (hs_I S2 x 11)) md 1 (nI r)) md 2 (nI (d_M s ys r))) := CK_fI (CK_fI (CK_fI (CK_fJ (CK_fI (CK_fI (CK_fJ (CK_fJ (CK_fJ hC2 hmd _ _) hmd _ _) hmd _ _) hmd _ _) hmd _ _) hmd _ _) hmd _ _) hmd _ _) hmd _ _
  have hm3 : md ∈ hs_L (hs_sI (hs_sI (hs_sI (hs_sJ (hs_sI (hs_sI (hs_sJ (hs_sJ (hs_sJ S2 md 3 0) md 4 1) md 5 0) md 6 0) md 7 (-1)) md 8 0) md 0 (hs_I S2 x 11)) md 1 (nI r)) md 2 (nI (d_M s ys r))) ∧ hs_K (hs_sI (hs_sI (hs_sI (hs_sJ (hs_sI (hs_sI (hs_sJ (hs_sJ (hs_sJ S2 md 3 0) md 4 1) md 5 0) md 6 0) md 7 (-1)) md 8 0) md 0 (hs_I S2 x 11)) md 1 (nI r)) md 2 (nI (d_M s ys r))) md = 2 := ⟨hm2.1, hm2.2⟩
  have hD3 : DM (hs_sI (hs_sI (hs_sI (hs_sJ (hs_sI (hs_sI (hs_sJ (hs_sJ (hs_sJ S2 md 3 0) md 4 1) md 5 0) md 6 0) md 7 (-1)) md 8 0) md 0 (hs_I S2 x 11)) md 1 (nI r)) md 2 (nI (d_M s ys r))) md (s_td s) r (d_M s ys r) 0 1 0 w9 0 0 := DM_0 htd2 rfl rfl m1w rfl rfl rfl
  generalize hs_sI (hs_sI (hs_sI (hs_sJ (hs_sI (hs_sI (hs_sJ (hs_sJ (hs_sJ S2 md 3 0) md 4 1) md 5 0) md 6 0) md 7 (-1)) md 8 0) md 0 (hs_I S2 x 11)) md 1 (nI r)) md 2 (nI (d_M s ys r)) = S3 at hC3 hm3 hD3 ⊢
  have hA3 := AR_0 hR1 (CUo_ck hU hC1 (by decide) (by decide) (by decide) (by simp)) (CK_mono hC1 (by decide) (by decide)) hC3 hm3 hmd
  clear hC2 hm2 hB2 htd2 hC3 hm3
  have hmix1 : ∀ n k, ex_M g 0 mX9_mixNoise [.ref x, .int 31, .int (nI (d_M s ys r))] S3 n k (ex_rt (some (.long (lN (d_st s ys r)))) S3 n k) := fun n k => c_mix g hA3.1.1 hA3.1.2.2.2.2.2.2.1 bd9 (f := 31) (Mm := (d_M s ys r)) rfl rfl (by decide) hM0 hMle
  refine ex_astore [(5, .ref md), (4, .int (nI (d_M s ys r))), (3, .int yy), (2, .ref ru), (1, .int (nI r)), (0, .ref x)] dX9_draw_111 (by decide) rfl ?_
  refine ex_aload dX9_draw_113 0 rfl ?_
  refine ex_aload_n dX9_draw_115 5 rfl ?_
  refine ex_bipush (v := 31) dX9_draw_116 (by decide) ?_
  refine ex_iload dX9_draw_118 1 rfl ?_
  refine ex_cVr [.int 31, .int (nI (d_M s ys r))] [.ref md] dX9_draw_120 cV_X9_189 (hmix1 _ _) hA3.1.1.1.1 hA3.1.1.1.2 rfl rfl rfl (by decide) (Nat.le_of_ble_eq_true rfl) rfl ?_
  refine ex_putJ dX9_draw_123 fl_X9_193 (pf_X9_193 _) hA3.2.2.2.1.1 hA3.2.2.2.1.2 ?_
  have hD4 := DM_3 hD3 (v := (lN (d_st s ys r))) (q := d_st s ys r) rfl
  have hA4 := AR_mJ hA3 3 ((lN (d_st s ys r)))
  generalize hs_sJ S3 md 3 (lN (d_st s ys r)) = S4 at hD4 hA4 ⊢
  clear hD3 hA3
  have hmix2 : ∀ n k, ex_M g 0 mX9_mixNoise [.ref x, .int 37, .int (nI (d_M s ys r))] S4 n k (ex_rt (some (.long (lN (mx (s_ns s) 37 (d_M s ys r) (s_ns s).length)))) S4 n k) := fun n k => c_mix g hA4.1.1 hA4.1.2.2.2.2.2.2.1 bd9 (f := 37) (Mm := (d_M s ys r)) rfl rfl (by decide) hM0 hMle
  have hnwd : ∀ n k, ex_M g 1 mX9_nextWithoutDivisor [.long (1 + lN (mx (s_ns s) 37 (d_M s ys r) (s_ns s).length)), .int (nI (d_M s ys r))] S4 n k (ex_rt (some (.long (lN (d_sp s ys r)))) S4 n k) := fun n k => c_nwd g (q := 1 + mx (s_ns s) 37 (d_M s ys r) (s_ns s).length) hM0 hMle rfl (lN_add 1 _) (by omega)
  refine ex_aload dX9_draw_126 0 rfl ?_
  refine ex_lconst (v := 1) dX9_draw_128 (by decide) ?_
  refine ex_aload_n dX9_draw_129 5 rfl ?_
  refine ex_bipush (v := 37) dX9_draw_130 (by decide) ?_
  refine ex_iload dX9_draw_132 1 rfl ?_
  refine ex_cVr [.int 37, .int (nI (d_M s ys r))] [.long 1, .ref md] dX9_draw_134 cV_X9_189 (hmix2 _ _) hA4.1.1.1.1 hA4.1.1.1.2 rfl rfl rfl (by decide) (Nat.le_of_ble_eq_true rfl) rfl ?_
  refine ex_ladd dX9_draw_137 ?_
  refine ex_iload dX9_draw_138 1 rfl ?_
  refine ex_cSr [.long (1 + (lN (mx (s_ns s) 37 (d_M s ys r) (s_ns s).length))), .int (nI (d_M s ys r))] [.ref md] dX9_draw_140 cS_X9_196 (hnwd _ _) rfl (by decide) (Nat.le_of_ble_eq_true rfl) rfl ?_
  refine ex_putJ dX9_draw_143 fl_X9_200 (pf_X9_200 _) hA4.2.2.2.1.1 hA4.2.2.2.1.2 ?_
  have hD5 := DM_4 hD4 (v := (lN (d_sp s ys r))) (q := d_sp s ys r) rfl
  have hA5 := AR_mJ hA4 4 ((lN (d_sp s ys r)))
  generalize hs_sJ S4 md 4 (lN (d_sp s ys r)) = S5 at hD5 hA5 ⊢
  clear hD4 hA4
  refine ex_aload dX9_draw_146 0 rfl ?_
  refine ex_aload_n dX9_draw_148 3 rfl ?_
  refine ex_aload_n dX9_draw_149 5 rfl ?_
  refine ex_getR (b := l) dX9_draw_150 fl_X9_19 hA5.1.1.1.1 hA5.1.1.1.2 hA5.1.1.2.1.1 ?_
  refine ex_cVr [] [.ref ru, .ref md] dX9_draw_153 cV_X9_203 (c_held g (⟨⟨hA5.1.1.2.1.2.1, hA5.1.1.2.1.2.2⟩, hA5.1.2.2.2.1, hb.2.2.2.1.1, hb.2.2.2.1.2⟩ : LG g S5 (va_up ow md 0) l (c 4) (c 5) (s_ls s) ys)) hA5.1.1.2.1.2.1 hA5.1.1.2.1.2.2 rfl rfl rfl (by decide) (Nat.le_of_ble_eq_true rfl) rfl ?_
  refine ex_i2l dX9_draw_156 ?_
  refine ex_cVr [.long ((nI (sz (s_ls s) ys)).toInt64)] [.ref md] dX9_draw_157 cV_X9_206 (c_fund g (H := d_H s) (CU_of hA5.2.2.1 hc10 hcok) (by rw [hHe, nI_l (by omega)]) (by omega)) hA5.2.2.1.1.1 hA5.2.2.1.1.2 rfl rfl rfl (by decide) (Nat.le_of_ble_eq_true rfl) rfl ?_
  refine ex_aload_n dX9_draw_160 5 rfl ?_
  refine ex_getJ dX9_draw_161 fl_X9_50 hA5.1.1.1.1 hA5.1.1.1.2 ?_
  refine ex_ladd dX9_draw_164 ?_
  refine ex_putJ dX9_draw_165 fl_X9_210 (pf_X9_210 _) hA5.2.2.2.1.1 hA5.2.2.2.1.2 ?_
  have hD6 := DM_5 hD5 (v := ((lN (fu (d_H s) (ru_at (s_rs s) r).2 (ru_at (s_rs s) r).2.length)) + (hs_J S5 x 10))) (q := d_F s r) (by rw [hA5.1.2.1.2.2.2]; show lN _ + lN (d_cr s) = _; rw [lN_add]; unfold d_F; rw [Nat.add_comm])
  have hA6 := AR_mJ hA5 5 (((lN (fu (d_H s) (ru_at (s_rs s) r).2 (ru_at (s_rs s) r).2.length)) + (hs_J S5 x 10)))
  generalize hs_sJ S5 md 5 ((lN (fu (d_H s) (ru_at (s_rs s) r).2 (ru_at (s_rs s) r).2.length)) + (hs_J S5 x 10)) = S6 at hD6 hA6 ⊢
  clear hD5 hA5
  obtain ⟨wa, ⟨a3, e3, r3, l3, o3, p3⟩, nd3, len3, f3⟩ := id hA6.1.2.2.2.2.2.2.2.2
  change wa.length = (d_ws s).length at len3
  rw [hwl] at len3
  refine ex_aload dX9_draw_168 0 rfl ?_
  refine ex_aload_n dX9_draw_170 5 rfl ?_
  refine ex_getR (b := a3) dX9_draw_171 fl_X9_47 hA6.1.1.1.1 hA6.1.1.1.2 r3 ?_
  refine ex_cVr [] [.ref md] dX9_draw_174 cV_X9_57 (c_szn g l3 len3) l3.1.1 l3.1.2.1 rfl rfl rfl (by decide) (Nat.le_of_ble_eq_true rfl) rfl ?_
  refine ex_putI dX9_draw_177 fl_X9_213 (pf_X9_213 _) hA6.2.2.2.1.1 hA6.2.2.2.1.2 ?_
  have hD7 := DM_7 hD6 (v := (nI (s_ws s).length)) (q := (s_ws s).length) rfl
  have hA7 := AR_mI hA6 7 ((nI (s_ws s).length))
  generalize hs_sI S6 md 7 (nI (s_ws s).length) = S7 at hD7 hA7 ⊢
  clear hD6 hA6
  refine ex_aload_n dX9_draw_180 5 rfl ?_
  refine ex_aload dX9_draw_181 0 rfl ?_
  refine ex_aload_n dX9_draw_183 3 rfl ?_
  refine ex_iload_n dX9_draw_184 2 rfl ?_
  refine ex_cVg [.ref md, .ref ru, .int yy] [] dX9_draw_185 cV_X9_216 (c_prizes g (s := (w_cr (w_ws s (d_ws s)) (d_cr s))) (n0 := n + 1) (k0 := k + 9) (c0 := c) (pf := (fun i => decide ((ln_at (s_ls s) i).2.2.2.1 + d_dy s r ≤ s_td s))) (BD_lp hb) hpf hM0 rfl hMle (mx_lt _ _ hM0 _) (nx_le _ _ _ (by omega)) hF (by omega) hc10 hcok (by omega) (by omega) hA7 hD7 (by omega) (by omega) hwl.symm) hA7.1.1.1.1 hA7.1.1.1.2 rfl rfl rfl (by decide) (Nat.le_of_ble_eq_true rfl) rfl ?_ (fun E S' n' k' h => by obtain ⟨h1, -⟩ := h; cases h1)
  rintro v' S8 n8 k8 ⟨hr8, hAW8⟩
  cases hr8
  show ex_W _ _ _ _ 188 [(5, .ref md), (4, .int (nI (d_M s ys r))), (3, .int yy), (2, .ref ru), (1, .int (nI r)), (0, .ref x)] [] S8 n8 k8
  refine ex_lv [0, 5] rfl ?_
  exact c_draw_f hAW8 rfl hb (by omega) hMle hd40 hn hk hsp
