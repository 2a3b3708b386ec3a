/-! prizes, of the class -/
def CUo (g : gl_T) (S : hs_T) (ow : Nat → Nat) (ru r : Nat) (cs : List cl_T) (cal : List Nat) : Prop := (ru ∈ hs_L S ∧ hs_K S ru = 6) ∧ ∃ cc, CL g S ow (100 + r) ru 1 1 cc cal ∧ cal.length = cs.length ∧ ∀ i, i < cal.length → CCl g S (cal.getD i 0) (cl_at cs i)
def DM (S : hs_T) (md td r M st sp F w0 a1 a2 : Nat) : Prop := hs_I S md 0 = nI td ∧ hs_I S md 1 = nI r ∧ hs_I S md 2 = nI M ∧ hs_J S md 3 = lN st ∧ hs_J S md 4 = lN sp ∧ hs_J S md 5 = lN F ∧ hs_I S md 6 = nI a1 ∧ hs_I S md 7 = nI w0 ∧ hs_J S md 8 = lN a2
def DA (g : gl_T) (S : hs_T) (ow : Nat → Nat) (x c md : Nat) (ds : List dr_T) : Prop := ∃ da, CL g S ow 2 x 8 2 c da ∧ md ∉ da ∧ da.length = ds.length ∧ ∀ j, j < ds.length → CDr S (da.getD j 0) (ds.getD j (fun _ => 0))
def AR (g : gl_T) (S0 : hs_T) (ow0 : Nat → Nat) (S : hs_T) (ow : Nat → Nat) (x l tp nz : Nat) (s : st_T) (ys : List Nat) (c : Nat → Nat) (md ru r : Nat) (cs : List cl_T) (cal : List Nat) : Prop := RC g S ow x l tp nz s ys c ∧ DA g S ow x (c 2) md (s_ds s) ∧ CUo g S ow ru r cs cal ∧ (md ∈ hs_L S ∧ hs_K S md = 2) ∧ md ∉ hs_L S0 ∧ CK ow0 ow cDk cDs S0 S
theorem CU_of {g : gl_T} {S : hs_T} {ow : Nat → Nat} {ru r : Nat} {cs : List cl_T} {cal : List Nat} (h : CUo g S ow ru r cs cal) (h10 : cs.length ≤ 10) (hok : ∀ c ∈ cs, cl_ok c) : CU g S ru cs := by
  obtain ⟨h1, cc, h2, h3, h4⟩ := h
  exact ⟨h1, ⟨ow, 100 + r, cc, cal, h2, h3, h4⟩, h10, hok⟩
theorem CUo_ck {g : gl_T} {S S' : hs_T} {ow ow' : Nat → Nat} {dk ds : List Nat} {ru r : Nat} {cs : List cl_T} {cal : List Nat} (h : CUo g S ow ru r cs cal) (hC : CK ow ow' dk ds S S') (h0 : 0 ∉ dk) (h15 : 15 ∉ dk) (h1 : 1 ∉ dk) (hs : 100 + r ∉ ds) : CUo g S' ow' ru r cs cal := by
  obtain ⟨⟨z1, z2⟩, cc, h2, h3, h4⟩ := h
  refine ⟨⟨(hC.1 ru z1).1, (hC.1 ru z1).2.1.trans z2⟩, cc, CL_ck h2 ⟨z1, Or.inr (Or.inr z2)⟩ hC h0 h15 hs, h3, fun i hi => ?_⟩
  obtain ⟨x1, x2⟩ := CL_el h2 hi
  have k7 := ck_at hC x1 x2 h1 (by decide)
  have h9 := h4 i hi
  unfold CCl at h9 ⊢
  rw [k7.1, k7.2.2]; exact h9
theorem DA_ck {g : gl_T} {S S' : hs_T} {ow ow' : Nat → Nat} {dk ds : List Nat} {x c md : Nat} {dd : List dr_T} (hx : x ∈ hs_L S ∧ hs_K S x = 9) (h : DA g S ow x c md dd) (hC : CK ow ow' dk ds S S') (h0 : 0 ∉ dk) (h15 : 15 ∉ dk) (h2 : 2 ∉ dk) (hs : 2 ∉ ds) : DA g S' ow' x c md dd := by
  obtain ⟨da, h3, h4, h5, h6⟩ := h
  refine ⟨da, CL_ck h3 ⟨hx.1, Or.inl hx.2⟩ hC h0 h15 hs, h4, h5, fun j hj => ?_⟩
  obtain ⟨x1, x2⟩ := CL_el h3 (j := j) (by omega)
  have k7 := ck_at hC x1 x2 h2 (by decide)
  have h9 := h6 j hj
  unfold CDr at h9 ⊢
  rw [k7.1, k7.2.1]; exact h9
theorem DM_ck {S S' : hs_T} {ow ow' : Nat → Nat} {dk ds : List Nat} {md td r M st sp F w0 a1 a2 : Nat} (hm : md ∈ hs_L S ∧ hs_K S md = 2) (h : DM S md td r M st sp F w0 a1 a2) (hC : CK ow ow' dk ds S S') (h2 : 2 ∉ dk) : DM S' md td r M st sp F w0 a1 a2 := by
  have k7 := ck_at hC hm.1 hm.2 h2 (by decide)
  unfold DM at h ⊢
  rw [k7.1, k7.2.1]; exact h
/-- what is not the draw that is made -/
theorem AR_ck {g : gl_T} {S0 S S' : hs_T} {ow0 ow ow' : Nat → Nat} {dk ds : List Nat} {x l tp nz : Nat} {s s' : st_T} {ys : List Nat} {c c' : Nat → Nat} {md ru r : Nat} {cs : List cl_T} {cal : List Nat} (h : AR g S0 ow0 S ow x l tp nz s ys c md ru r cs cal) (hC : CK ow ow' dk ds S S') (hR : RC g S' ow' x l tp nz s' ys c') (hc2 : c' 2 = c 2) (hds : s_ds s' = s_ds s) (h0 : 0 ∉ dk) (h15 : 15 ∉ dk) (h1 : 1 ∉ dk) (h2 : 2 ∉ dk) (hs2 : 2 ∉ ds) (hsr : 100 + r ∉ ds) (hk : ∀ x ∈ dk, x ∈ cDk) (hs : ∀ x ∈ ds, x ∈ cDs) : AR g S0 ow0 S' ow' x l tp nz s' ys c' md ru r cs cal := by
  obtain ⟨h3, h4, h5, h6, h7, h8⟩ := h
  exact ⟨hR, by rw [hc2, hds]; exact DA_ck h3.1.1 h4 hC h0 h15 h2 hs2, CUo_ck h5 hC h0 h15 h1 hsr, ⟨(hC.1 md h6.1).1, (hC.1 md h6.1).2.1.trans h6.2⟩, h7, CK_tr h8 (CK_mono hC hk hs)⟩
/-- the draw that is made, written to -/
theorem AR_mI {g : gl_T} {S0 S : hs_T} {ow0 ow : Nat → Nat} {x l tp nz : Nat} {s : st_T} {ys : List Nat} {c : Nat → Nat} {md ru r : Nat} {cs : List cl_T} {cal : List Nat} (h : AR g S0 ow0 S ow x l tp nz s ys c md ru r cs cal) (i : Nat) (v : Int32) : AR g S0 ow0 (hs_sI S md i v) ow x l tp nz s ys c md ru r cs cal := by
  obtain ⟨hB, hCS, hCH, hCG, hCT, hCR, hCN, hCD, hCW⟩ := id h.1
  obtain ⟨h3, h4, h5, h6, h7, h8⟩ := id h
  have hC := CK_sI ow S md i v
  rw [h6.2] at hC
  obtain ⟨da, d1, d2, d3, d4⟩ := id h4
  have hDA : DA g (hs_sI S md i v) ow x (c 2) md (s_ds s) := by
    refine ⟨da, CL_ck d1 ⟨hB.1.1, Or.inl hB.1.2⟩ hC (by decide) (by decide) (by decide), d2, d3, fun j hj => ?_⟩
    have hne : da.getD j 0 ≠ md := fun w => d2 (by rw [← w]; exact gd_mem (by omega))
    have k7 : hs_I (hs_sI S md i v) (da.getD j 0) = hs_I S (da.getD j 0) ∧ hs_J (hs_sI S md i v) (da.getD j 0) = hs_J S (da.getD j 0) := ⟨hs_u_off _ _ _ hne, rfl⟩
    have h9 := d4 j hj
    unfold CDr at h9 ⊢
    rw [k7.1, k7.2]; exact h9
  have hCDn : CD g (hs_sI S md i v) ow x (c 2) (s_ds s) := by
    obtain ⟨db, e1, e2, e3, e4⟩ := id hDA
    exact ⟨db, e1, e3, e4⟩
  exact ⟨⟨CB_ck hB hC, (CS_ck hB hCS hC (by decide) (by decide)), (CH_ck hB hCH hC (by decide) (by decide) (by decide) (by decide)), (CG_ck hB hCG hC (by decide) (by decide) (by decide) (by decide) (by decide)), (CT_ck hB hCT hC (by decide) (by decide) (by decide)), (CR_ck hB hCR hC (by decide) (by decide) (by decide) (by decide) (by decide) (by intro j z; simp at z; try omega)), (CN_ck hB hCN hC (by decide) (by decide) (by decide)), hCDn, (CW_ck hB hCW hC (by decide) (by decide) (by decide) (by decide))⟩, hDA, CUo_ck h5 hC (by decide) (by decide) (by decide) (by simp), ⟨h6.1, h6.2⟩, h7, CK_fI h8 h7 i v⟩
/-- the draw that is made, written to -/
theorem AR_mJ {g : gl_T} {S0 S : hs_T} {ow0 ow : Nat → Nat} {x l tp nz : Nat} {s : st_T} {ys : List Nat} {c : Nat → Nat} {md ru r : Nat} {cs : List cl_T} {cal : List Nat} (h : AR g S0 ow0 S ow x l tp nz s ys c md ru r cs cal) (i : Nat) (v : Int64) : AR g S0 ow0 (hs_sJ S md i v) ow x l tp nz s ys c md ru r cs cal := by
  obtain ⟨hB, hCS, hCH, hCG, hCT, hCR, hCN, hCD, hCW⟩ := id h.1
  obtain ⟨h3, h4, h5, h6, h7, h8⟩ := id h
  have hC := CK_sJ ow S md i v
  rw [h6.2] at hC
  obtain ⟨da, d1, d2, d3, d4⟩ := id h4
  have hDA : DA g (hs_sJ S md i v) ow x (c 2) md (s_ds s) := by
    refine ⟨da, CL_ck d1 ⟨hB.1.1, Or.inl hB.1.2⟩ hC (by decide) (by decide) (by decide), d2, d3, fun j hj => ?_⟩
    have hne : da.getD j 0 ≠ md := fun w => d2 (by rw [← w]; exact gd_mem (by omega))
    have k7 : hs_I (hs_sJ S md i v) (da.getD j 0) = hs_I S (da.getD j 0) ∧ hs_J (hs_sJ S md i v) (da.getD j 0) = hs_J S (da.getD j 0) := ⟨rfl, hs_u_off _ _ _ hne⟩
    have h9 := d4 j hj
    unfold CDr at h9 ⊢
    rw [k7.1, k7.2]; exact h9
  have hCDn : CD g (hs_sJ S md i v) ow x (c 2) (s_ds s) := by
    obtain ⟨db, e1, e2, e3, e4⟩ := id hDA
    exact ⟨db, e1, e3, e4⟩
  exact ⟨⟨CB_ck hB hC, (CS_ck hB hCS hC (by decide) (by decide)), (CH_ck hB hCH hC (by decide) (by decide) (by decide) (by decide)), (CG_ck hB hCG hC (by decide) (by decide) (by decide) (by decide) (by decide)), (CT_ck hB hCT hC (by decide) (by decide) (by decide)), (CR_ck hB hCR hC (by decide) (by decide) (by decide) (by decide) (by decide) (by intro j z; simp at z; try omega)), (CN_ck hB hCN hC (by decide) (by decide) (by decide)), hCDn, (CW_ck hB hCW hC (by decide) (by decide) (by decide) (by decide))⟩, hDA, CUo_ck h5 hC (by decide) (by decide) (by decide) (by simp), ⟨h6.1, h6.2⟩, h7, CK_fJ h8 h7 i v⟩
theorem CW_app {g : gl_T} {S S' : hs_T} {ow ow' : Nat → Nat} {x c c' z : Nat} {ws : List wi_T} {wa : List Nat} {w : wi_T} (hL : CL g S ow 3 x 9 8 c wa) (nd : wa.Nodup) (len : wa.length = ws.length) (f : ∀ j, j < ws.length → CWn S (wa.getD j 0) (wi_at ws j)) (hC : CK ow ow' [] [3] S S') (hL' : CL g S' ow' 3 x 9 8 c' (wa ++ [z])) (hz : z ∈ hs_L S ∧ hs_K S z = 8) (hzn : z ∉ wa) (hw : CWn S z w) : CW g S' ow' x c' (ws ++ [w]) := by
  refine ⟨wa ++ [z], hL', nd_app nd hzn, by simp [len], fun j hj => ?_⟩
  rw [gd_app, len]
  unfold wi_at
  rw [gd_app]
  by_cases q : j = ws.length
  · rw [if_pos q, if_pos q]
    unfold CWn at hw ⊢
    rw [(ck_at hC hz.1 hz.2 (by decide) (by decide)).1]; exact hw
  · rw [if_neg q, if_neg q]
    simp at hj
    obtain ⟨e1, e2⟩ := CL_el hL (j := j) (by omega)
    have h9 := f j (by omega)
    unfold CWn at h9 ⊢
    rw [(ck_at hC e1 e2 (by decide) (by decide)).1]; exact h9
theorem RC_wn {g : gl_T} {S S' : hs_T} {ow ow' : Nat → Nat} {x l tp nz c3 : Nat} {s : st_T} {ys : List Nat} {c : Nat → Nat} {ws : List wi_T} (h : RC g S ow x l tp nz s ys c) (hC : CK ow ow' [] [3] S S') (hW : CW g S' ow' x c3 ws) : RC g S' ow' x l tp nz (w_ws s ws) ys (va_up c 3 c3) := by
  obtain ⟨hB, hCS, hCH, hCG, hCT, hCR, hCN, hCD, hCW⟩ := id h
  exact ⟨CB_ck hB hC, (CS_ck hB hCS hC (by decide) (by decide)), (CH_ck hB hCH hC (by decide) (by decide) (by decide) (by decide)), (CG_ck hB hCG hC (by decide) (by decide) (by decide) (by decide) (by decide)), (CT_ck hB hCT hC (by decide) (by decide) (by decide)), (CR_ck hB hCR hC (by decide) (by decide) (by decide) (by decide) (by decide) (by intro j z; simp at z; try omega)), (CN_ck hB hCN hC (by decide) (by decide) (by decide)), (CD_ck hB hCD hC (by decide) (by decide) (by decide) (by decide)), hW⟩
theorem cN_le {g : gl_T} {S : hs_T} {ow : Nat → Nat} {x l tp nz : Nat} {s : st_T} {ys : List Nat} {c : Nat → Nat} (h : RC g S ow x l tp nz s ys c) : cN c ≤ 30000 := by
  obtain ⟨hB, hCS, hCH, hCG, hCT, hCR, hCN, hCD, hCW⟩ := h
  obtain ⟨as, ⟨a0, e0, r0, l0, o0, p0⟩, _⟩ := hCH
  obtain ⟨ra, ⟨a1, e1, r1, l1, o1, p1⟩, _⟩ := hCR
  obtain ⟨da, ⟨a2, e2, r2, l2, o2, p2⟩, _⟩ := hCD
  obtain ⟨wa, ⟨a3, e3, r3, l3, o3, p3⟩, _⟩ := hCW
  obtain ⟨la, ⟨a4, e4, r4, l4, o4, p4⟩, ⟨a5, e5, r5, l5, o5, p5⟩, _⟩ := hCG
  have b0 := l0.2.1.2
  have b1 := l1.2.1.2
  have b2 := l2.2.1.2
  have b3 := l3.2.1.2
  have b4 := l4.2.1.2
  have b5 := l5.2.1.2
  unfold cN
  omega
set_option maxRecDepth 20000 in
set_option maxHeartbeats 4000000 in
theorem c_award (g : gl_T) {S : hs_T} {n k : Nat} {S0 : hs_T} {ow0 ow : Nat → Nat} {x l tp nz : Nat} {s : st_T} {ys : List Nat} {c : Nat → Nat} {md ru r M st sp F w0 : Nat} {cs : List cl_T} {cal : List Nat} {y : Int32} {pf : Nat → Bool} {a : aw_T} {pr : Nat} {xp : Int32} (h : AR g S0 ow0 S ow x l tp nz (w_ws s a.2.2) ys c md ru r cs cal) (hD : DM S md (s_td s) r M st sp F w0 a.1 a.2.1) (hb : BD s) (hpf : ∀ j, j < (s_ls s).length → (nI (ln_at (s_ls s) j).2.2.2.1 ≤ y ↔ pf j = true)) (hM : 0 < M) (hMz : M = sz (s_ls s) (ys.filter pf)) (hM9 : M ≤ 1000000000) (hst : st < M) (hsp : sp ≤ M + 1) (hxp : xp = nI pr) (hpr : pr ≤ a.2.1) (hpr9 : pr ≤ 1000000000) (ha50 : a.1 < 50) (hwl : a.2.2.length < 2000) (hn : n + 10 ≤ ex_NM) (hk : k + 6000 ≤ ex_KM) : ex_M g 8 mX9_awardPrize [.ref x, .ref md, .int xp, .int y] S n k (fun ρ S' n' k' => ρ = .inl none ∧ ∃ ow' c', AR g S0 ow0 S' ow' x l tp nz (w_ws s (a.2.2 ++ [((s_ds s).length, s_td s, (bo (s_ls s) (ys.filter pf) ((st + a.1 * sp) % M)).1, (bo (s_ls s) (ys.filter pf) ((st + a.1 * sp) % M)).2, pr, 0)])) ys c' md ru r cs cal ∧ DM S' md (s_td s) r M st sp F w0 (a.1 + 1) (a.2.1 - pr) ∧ n' + cN c ≤ n + 1 + cN c' ∧ k' + 4 * cN c ≤ k + 6 + 4 * cN c') := by
  refine ex_enter (by decide +kernel) (Nat.le_of_ble_eq_true rfl) ?_
  show ex_W _ _ _ _ 0 [(0, .ref x), (1, .ref md), (2, .int xp), (3, .int y)] [] _ _ _
  obtain ⟨hB, hCS, hCH, hCG, hCT, hCR, hCN, hCD, hCW⟩ := id h.1
  obtain ⟨m0, m1, m2, m3, m4, m5, m6, m7, m8⟩ := id hD
  obtain ⟨_, hDA, hCU, hmd, hmd0, hCK0⟩ := id h
  have hLG : LG g S ow l (c 4) (c 5) (s_ls s) ys := ⟨⟨hB.2.1.2.1, hB.2.1.2.2⟩, hCG, hb.2.2.2.1.1, hb.2.2.2.1.2⟩
  have hqM : (st + a.1 * sp) % M < M := Nat.mod_lt _ hM
  obtain ⟨jj, hj1, rr, hj2, hj3⟩ := bo_in (ls := s_ls s) (zs := ys.filter pf) (q := (st + a.1 * sp) % M) (by omega)
  obtain ⟨pp, hp1, hp2⟩ := gd_ex (List.mem_filter.mp hj1).1
  obtain ⟨wa, hL3, nd3, len3, f3⟩ := id hCW
  change wa.length = a.2.2.length at len3
  refine ex_aload_n dX9_awardPrize_0 0 rfl ?_
  refine ex_getR (b := l) dX9_awardPrize_1 fl_X9_19 hB.1.1 hB.1.2 hB.2.1.1 ?_
  refine ex_aload_n dX9_awardPrize_4 1 rfl ?_
  refine ex_aload_n dX9_awardPrize_5 1 rfl ?_
  refine ex_getI dX9_awardPrize_6 fl_X9_293 hmd.1 hmd.2 ?_
  refine ex_cVr [.int (hs_I S md 6)] [.ref l] dX9_awardPrize_9 cV_X9_300 (c_placeOf g hmd.1 hmd.2 m2 m3 m4 m6 hM hM9 hst hsp (by omega)) hmd.1 hmd.2 rfl rfl rfl (by decide) (Nat.le_of_ble_eq_true rfl) rfl ?_
  refine ex_iload_n dX9_awardPrize_12 3 rfl ?_
  refine ex_cVr [.int (nI ((st + a.1 * sp) % M)), .int y] [] dX9_awardPrize_13 cV_X9_303 (c_bondAt g hLG hpf rfl (by omega) (by omega)) hB.2.1.2.1 hB.2.1.2.2 rfl rfl rfl (by decide) (Nat.le_of_ble_eq_true rfl) rfl ?_
  refine ex_istore [(4, .int (nI (bo (s_ls s) (ys.filter pf) ((st + a.1 * sp) % M)).1)), (0, .ref x), (1, .ref md), (2, .int xp), (3, .int y)] dX9_awardPrize_16 (by decide) rfl ?_
  refine ex_new (N := 6) dX9_awardPrize_18 nl_X9_111 rfl (by omega) (by omega) (fun z hz => ?_)
  refine ex_dup dX9_awardPrize_21 rfl ?_
  have hC1 : CK ow (va_up ow z 0) [] [] S (hs_new S z 8 0) := CK_new ow 8 0 0 hz
  have hz1 : z ∈ hs_L (hs_new S z 8 0) ∧ hs_K (hs_new S z 8 0) z = 8 := ⟨(hs_new_q S z 8 0).1, (hs_new_q S z 8 0).2.1⟩
  generalize hs_new S z 8 0 = S1 at hC1 hz1 ⊢
  have hR1 := RC_ck h.1 hC1 (by simp) (by simp)
  obtain ⟨hB1, hCS1, hCH1, hCG1, hCT1, hCR1, hCN1, hCD1, hCW1⟩ := id hR1
  obtain ⟨da, ⟨a2, e2, r2, l2, o2, p2⟩, len2, _⟩ := id hCD1
  change da.length = (s_ds s).length at len2
  have hLG1 : LG g S1 (va_up ow z 0) l (c 4) (c 5) (s_ls s) ys := ⟨⟨hB1.2.1.2.1, hB1.2.1.2.2⟩, hCG1, hb.2.2.2.1.1, hb.2.2.2.1.2⟩
  refine ex_aload_n dX9_awardPrize_22 1 rfl ?_
  refine ex_getR (b := a2) dX9_awardPrize_23 fl_X9_44 hB1.1.1 hB1.1.2 r2 ?_
  refine ex_cVr [] [.ref z, .ref z] dX9_awardPrize_26 cV_X9_57 (c_szn g l2 len2) l2.1.1 l2.1.2.1 rfl rfl rfl (by decide) (Nat.le_of_ble_eq_true rfl) rfl ?_
  refine ex_aload_n dX9_awardPrize_29 1 rfl ?_
  refine ex_getI dX9_awardPrize_30 fl_X9_54 hB1.1.1 hB1.1.2 ?_
  refine ex_iload dX9_awardPrize_33 0 rfl ?_
  refine ex_aload_n dX9_awardPrize_35 1 rfl ?_
  refine ex_getR (b := l) dX9_awardPrize_36 fl_X9_19 hB1.1.1 hB1.1.2 hB1.2.1.1 ?_
  refine ex_iload dX9_awardPrize_39 0 rfl ?_
  refine ex_cVr [.int (nI (bo (s_ls s) (ys.filter pf) ((st + a.1 * sp) % M)).1)] [.int (nI (bo (s_ls s) (ys.filter pf) ((st + a.1 * sp) % M)).1), .int (hs_I S1 x 11), .int (nI (s_ds s).length), .ref z, .ref z] dX9_awardPrize_41 cV_X9_306 (c_holderNow g (b := (bo (s_ls s) (ys.filter pf) ((st + a.1 * sp) % M)).1) hLG1 rfl hp1 (by rw [hj3, hp2]; exact Nat.le_add_right _ _) (by rw [hj3, hp2]; have := (hb.2.2.2.1.2 jj (by rw [← hp2]; exact (GO_at hCG.choose_spec.2.2.2.2.2 hp1).1)).1; show (ln_at (s_ls s) jj).1 + rr ≤ _; unfold ln_sz at hj2; omega)) hB1.2.1.2.1 hB1.2.1.2.2 rfl rfl rfl (by decide) (Nat.le_of_ble_eq_true rfl) rfl ?_
  refine ex_iload_n dX9_awardPrize_44 3 rfl ?_
  refine ex_cIv [.int (nI (s_ds s).length), .int (hs_I S1 x 11), .int (nI (bo (s_ls s) (ys.filter pf) ((st + a.1 * sp) % M)).1), .int (nI (ln_at (s_ls s) (ys.getD pp 0)).2.2.1), .int xp] [.ref z] dX9_awardPrize_45 cI_X9_309 (c_Win_init g hz1.1 hz1.2) rfl (by decide) (Nat.le_of_ble_eq_true rfl) rfl ?_
  have hC2 : CK ow (va_up ow z 0) [] [] S (hs_sI (hs_sI (hs_sI (hs_sI (hs_sI (hs_sI S1 z 5 0) z 0 (nI (s_ds s).length)) z 1 (hs_I S1 x 11)) z 2 (nI (bo (s_ls s) (ys.filter pf) ((st + a.1 * sp) % M)).1)) z 3 (nI (ln_at (s_ls s) (ys.getD pp 0)).2.2.1)) z 4 xp) := CK_fI (CK_fI (CK_fI (CK_fI (CK_fI (CK_fI hC1 hz _ _) hz _ _) hz _ _) hz _ _) hz _ _) hz _ _
  have hz2 : z ∈ hs_L (hs_sI (hs_sI (hs_sI (hs_sI (hs_sI (hs_sI S1 z 5 0) z 0 (nI (s_ds s).length)) z 1 (hs_I S1 x 11)) z 2 (nI (bo (s_ls s) (ys.filter pf) ((st + a.1 * sp) % M)).1)) z 3 (nI (ln_at (s_ls s) (ys.getD pp 0)).2.2.1)) z 4 xp) ∧ hs_K (hs_sI (hs_sI (hs_sI (hs_sI (hs_sI (hs_sI S1 z 5 0) z 0 (nI (s_ds s).length)) z 1 (hs_I S1 x 11)) z 2 (nI (bo (s_ls s) (ys.filter pf) ((st + a.1 * sp) % M)).1)) z 3 (nI (ln_at (s_ls s) (ys.getD pp 0)).2.2.1)) z 4 xp) z = 8 := ⟨hz1.1, hz1.2⟩
  have hw2 : CWn (hs_sI (hs_sI (hs_sI (hs_sI (hs_sI (hs_sI S1 z 5 0) z 0 (nI (s_ds s).length)) z 1 (hs_I S1 x 11)) z 2 (nI (bo (s_ls s) (ys.filter pf) ((st + a.1 * sp) % M)).1)) z 3 (nI (ln_at (s_ls s) (ys.getD pp 0)).2.2.1)) z 4 xp) z ((s_ds s).length, s_td s, (bo (s_ls s) (ys.filter pf) ((st + a.1 * sp) % M)).1, (bo (s_ls s) (ys.filter pf) ((st + a.1 * sp) % M)).2, pr, 0) := by
    unfold CWn
    refine ⟨?_, ?_, ?_, ?_, ?_, ?_⟩
    · simp [hs_I_sI]
    · simp [hs_I_sI]; exact hCS1.1
    · simp [hs_I_sI]
    · rw [hj3, hp2]; simp [hs_I_sI]
    · simp [hs_I_sI]; exact hxp
    · simp [hs_I_sI]; rfl
  generalize hs_sI (hs_sI (hs_sI (hs_sI (hs_sI (hs_sI S1 z 5 0) z 0 (nI (s_ds s).length)) z 1 (hs_I S1 x 11)) z 2 (nI (bo (s_ls s) (ys.filter pf) ((st + a.1 * sp) % M)).1)) z 3 (nI (ln_at (s_ls s) (ys.getD pp 0)).2.2.1)) z 4 xp = S2 at hC2 hz2 hw2 ⊢
  have hR2 := RC_ck h.1 hC2 (by simp) (by simp)
  have hA2 := AR_ck h hC2 hR2 rfl rfl (by decide) (by decide) (by decide) (by decide) (by decide) (by simp) (by decide) (by decide)
  have hD2 := DM_ck hmd hD hC2 (by decide)
  have hzn : z ∉ wa := fun w => hz (CL_mem hL3 w).1
  have hL3b := CL_ck hL3 ⟨hB.1.1, Or.inl hB.1.2⟩ hC2 (by decide) (by decide) (by decide)
  obtain ⟨a3, e3, r3, l3, o3, p3⟩ := id hL3b
  have hc3b : c 3 ≤ 5000 := l3.2.1.2
  have hf2 : ∀ j, j < a.2.2.length → CWn S2 (wa.getD j 0) (wi_at a.2.2 j) := fun j hj => by
    obtain ⟨e1, e2⟩ := CL_el hL3 (j := j) (by omega)
    have h9 := f3 j hj
    unfold CWn at h9 ⊢
    rw [(ck_at hC2 e1 e2 (by decide) (by decide)).1]; exact h9
  refine ex_c1 (fun hE => ?_)
  refine ex_astore [(5, .ref z), (4, .int (nI (bo (s_ls s) (ys.filter pf) ((st + a.1 * sp) % M)).1)), (0, .ref x), (1, .ref md), (2, .int xp), (3, .int y)] dX9_awardPrize_48 (by decide) rfl ?_
  refine ex_aload_n dX9_awardPrize_50 2 rfl ?_
  refine ex_getR (b := a3) dX9_awardPrize_51 fl_X9_47 hR2.1.1.1 hR2.1.1.2 r3 ?_
  refine ex_aload dX9_awardPrize_54 0 rfl ?_
  refine ex_cVg [.ref z] [] dX9_awardPrize_56 cV_X9_71 (c_AL_add g l3 ⟨hz2.1, hz2.2, by decide⟩ (by omega) (by omega) (by omega)) l3.1.1 l3.1.2.1 rfl rfl rfl (by decide) (Nat.le_of_ble_eq_true rfl) rfl ?_ (fun E S' n' k' h => by obtain ⟨h1, -⟩ := h; cases h1)
  rintro v' S3 n3 k3 ⟨hr3, hpo⟩
  cases hr3
  obtain ⟨ow3, c3, hC3, hL3c, hc3, hn3, hk3⟩ := CL_po ⟨hR2.1.1.1, Or.inl hR2.1.1.2⟩ r3 l3 o3 p3 hE hpo (Or.inl (by simp))
  show ex_W _ _ _ _ 59 [(5, .ref z), (4, .int (nI (bo (s_ls s) (ys.filter pf) ((st + a.1 * sp) % M)).1)), (0, .ref x), (1, .ref md), (2, .int xp), (3, .int y)] [.int 1] S3 n3 k3
  refine ex_pop dX9_awardPrize_59 rfl ?_
  have hW3 := CW_app hL3b nd3 len3 hf2 hC3 hL3c hz2 hzn hw2
  have hR3 := RC_wn hR2 hC3 hW3
  have hA3 := AR_ck hA2 hC3 hR3 rfl rfl (by decide) (by decide) (by decide) (by decide) (by decide) (by simp; omega) (by decide) (by decide)
  have hD3 := DM_ck hA2.2.2.2.1 hD2 hC3 (by decide)
  have hA4 := AR_mI hA3 6 (hs_I S3 md 6 + 1)
  have hmd3 := hA3.2.2.2.1
  refine ex_aload_n dX9_awardPrize_60 3 rfl ?_
  refine ex_dup dX9_awardPrize_61 rfl ?_
  refine ex_getI dX9_awardPrize_62 fl_X9_293 hmd3.1 hmd3.2 ?_
  refine ex_iconst (v := 1) dX9_awardPrize_65 (by decide) ?_
  refine ex_iadd dX9_awardPrize_66 ?_
  refine ex_putI dX9_awardPrize_67 fl_X9_293 (pf_X9_293 _) hmd3.1 hmd3.2 ?_
  refine ex_aload_n dX9_awardPrize_70 3 rfl ?_
  refine ex_dup dX9_awardPrize_71 rfl ?_
  refine ex_getJ dX9_awardPrize_72 fl_X9_220 hA4.2.2.2.1.1 hA4.2.2.2.1.2 ?_
  refine ex_iload_n dX9_awardPrize_75 4 rfl ?_
  refine ex_i2l dX9_awardPrize_76 ?_
  refine ex_lsub dX9_awardPrize_77 ?_
  refine ex_putJ dX9_awardPrize_78 fl_X9_220 (pf_X9_220 _) hA4.2.2.2.1.1 hA4.2.2.2.1.2 ?_
  exact ex_vrt rfl dX9_awardPrize_81 (by
  have hA5 := AR_mJ hA4 8 (((hs_J (hs_sI S3 md 6 ((hs_I S3 md 6) + 1)) md 8) - xp.toInt64))
  obtain ⟨n0, n1, n2, n3, n4, n5, n6, n7, n8⟩ := id hD3
  refine ⟨rfl, ow3, va_up c 3 c3, hA5, ?_, by simp [cN, va_up]; omega, by simp [cN, va_up]; omega⟩
  unfold DM
  simp only [hs_I_sI, hs_I_sJ, hs_J_sI, hs_J_sJ]
  refine ⟨?_, ?_, ?_, ?_, ?_, ?_, ?_, ?_, ?_⟩
  · simp; exact n0
  · simp; exact n1
  · simp; exact n2
  · simp; exact n3
  · simp; exact n4
  · simp; exact n5
  · simp; rw [n6]; exact nI_1 _
  · simp; exact n7
  · simp; rw [n8, hxp, nI_l (by omega)]; exact lN_sub hpr)
