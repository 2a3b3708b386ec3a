/-! the class's draw -/
theorem RC_dn {g : gl_T} {S S' : hs_T} {ow ow' : Nat → Nat} {x l tp nz c2 : Nat} {s : st_T} {ys : List Nat} {c : Nat → Nat} {ds : List dr_T} (h : RC g S ow x l tp nz s ys c) (hC : CK ow ow' [] [2] S S') (hD : CD g S' ow' x c2 ds) : RC g S' ow' x l tp nz (w_ds s ds) ys (va_up c 2 c2) := by
  obtain ⟨hB, hCS, hCH, hCG, hCT, hCR, hCN, hCD, hCW⟩ := id h
  exact ⟨CB_ck hB hC, (CS_ck hB hCS hC (by decide) (by decide)), (CH_ck hB hCH hC (by decide) (by decide) (by decide) (by decide)), (CG_ck hB hCG hC (by decide) (by decide) (by decide) (by decide) (by decide)), (CT_ck hB hCT hC (by decide) (by decide) (by decide)), (CR_ck hB hCR hC (by decide) (by decide) (by decide) (by decide) (by decide) (by intro j z; simp at z; try omega)), (CN_ck hB hCN hC (by decide) (by decide) (by decide)), hD, (CW_ck hB hCW hC (by decide) (by decide) (by decide) (by decide))⟩
theorem CD_app {g : gl_T} {S S' : hs_T} {ow ow' : Nat → Nat} {x c c' z : Nat} {ds : List dr_T} {da : List Nat} {d : dr_T} (hL : CL g S ow 2 x 8 2 c da) (len : da.length = ds.length) (f : ∀ j, j < ds.length → CDr S (da.getD j 0) (ds.getD j (fun _ => 0))) (hC : CK ow ow' [] [2] S S') (hL' : CL g S' ow' 2 x 8 2 c' (da ++ [z])) (hz : z ∈ hs_L S ∧ hs_K S z = 2) (hw : CDr S z d) : CD g S' ow' x c' (ds ++ [d]) := by
  refine ⟨da ++ [z], hL', by simp [len], fun j hj => ?_⟩
  rw [gd_app, gd_app, len]
  by_cases q : j = ds.length
  · rw [if_pos q, if_pos q]
    have k7 := ck_at hC hz.1 hz.2 (by decide) (by decide)
    unfold CDr at hw ⊢
    rw [k7.1, k7.2.1]; exact hw
  · rw [if_neg q, if_neg q]
    simp at hj
    obtain ⟨e1, e2⟩ := CL_el hL (j := j) (by omega)
    have k7 := ck_at hC e1 e2 (by decide) (by decide)
    have h9 := f j (by omega)
    unfold CDr at h9 ⊢
    rw [k7.1, k7.2.1]; exact h9
theorem DM_dr {S : hs_T} {md td r M st sp F w0 a1 a2 : Nat} (h : DM S md td r M st sp F w0 a1 a2) (htd : td ≤ 100000) (hr : r ≤ 20) (hM : M ≤ 1000000000) (hw : w0 ≤ 2000) (ha : a1 ≤ 50) : CDr S md (drf td r M st sp F w0 a1 a2) := by
  obtain ⟨m0, m1, m2, m3, m4, m5, m6, m7, m8⟩ := h
  have e6 : hs_I S md 6 = 0 ↔ a1 = 0 := by rw [m6]; exact nI_eq (b := 0) (by omega) (by decide)
  unfold CDr
  refine ⟨?_, ?_, ?_, ?_, ?_, ?_, ?_, ?_, ?_⟩
  · rw [m0, nI_l (by omega)]; rfl
  · rw [m1, nI_l (by omega)]; rfl
  · rw [m2, nI_l (by omega)]; rfl
  · rw [m3]; rfl
  · rw [m4]; rfl
  · rw [m5]; rfl
  · rw [m6, nI_l (by omega)]; rfl
  · show _ = (if a1 = 0 then -1 else lN w0)
    by_cases z : a1 = 0
    · rw [if_pos (e6.mpr z), if_pos z]
    · rw [if_neg (fun w => z (e6.mp w)), if_neg z, m7, nI_l (by omega)]
  · rw [m8]; rfl
theorem DM_3 {S : hs_T} {md td r M st sp F w0 a1 a2 : Nat} (h : DM S md td r M st sp F w0 a1 a2) {v : Int64} {q : Nat} (hv : v = lN q) : DM (hs_sJ S md 3 v) md td r M q sp F w0 a1 a2 := by
  obtain ⟨m0, m1, m2, m3, m4, m5, m6, m7, m8⟩ := h
  unfold DM
  simp only [hs_I_sI, hs_I_sJ, hs_J_sI, hs_J_sJ]
  refine ⟨?_, ?_, ?_, ?_, ?_, ?_, ?_, ?_, ?_⟩
  · (try simp); exact m0
  · (try simp); exact m1
  · (try simp); exact m2
  · (try simp); exact hv
  · (try simp); exact m4
  · (try simp); exact m5
  · (try simp); exact m6
  · (try simp); exact m7
  · (try simp); exact m8
theorem DM_4 {S : hs_T} {md td r M st sp F w0 a1 a2 : Nat} (h : DM S md td r M st sp F w0 a1 a2) {v : Int64} {q : Nat} (hv : v = lN q) : DM (hs_sJ S md 4 v) md td r M st q F w0 a1 a2 := by
  obtain ⟨m0, m1, m2, m3, m4, m5, m6, m7, m8⟩ := h
  unfold DM
  simp only [hs_I_sI, hs_I_sJ, hs_J_sI, hs_J_sJ]
  refine ⟨?_, ?_, ?_, ?_, ?_, ?_, ?_, ?_, ?_⟩
  · (try simp); exact m0
  · (try simp); exact m1
  · (try simp); exact m2
  · (try simp); exact m3
  · (try simp); exact hv
  · (try simp); exact m5
  · (try simp); exact m6
  · (try simp); exact m7
  · (try simp); exact m8
theorem DM_5 {S : hs_T} {md td r M st sp F w0 a1 a2 : Nat} (h : DM S md td r M st sp F w0 a1 a2) {v : Int64} {q : Nat} (hv : v = lN q) : DM (hs_sJ S md 5 v) md td r M st sp q w0 a1 a2 := by
  obtain ⟨m0, m1, m2, m3, m4, m5, m6, m7, m8⟩ := h
  unfold DM
  simp only [hs_I_sI, hs_I_sJ, hs_J_sI, hs_J_sJ]
  refine ⟨?_, ?_, ?_, ?_, ?_, ?_, ?_, ?_, ?_⟩
  · (try simp); exact m0
  · (try simp); exact m1
  · (try simp); exact m2
  · (try simp); exact m3
  · (try simp); exact m4
  · (try simp); exact hv
  · (try simp); exact m6
  · (try simp); exact m7
  · (try simp); exact m8
theorem DM_7 {S : hs_T} {md td r M st sp F w0 a1 a2 : Nat} (h : DM S md td r M st sp F w0 a1 a2) {v : Int32} {q : Nat} (hv : v = nI q) : DM (hs_sI S md 7 v) md td r M st sp F q a1 a2 := by
  obtain ⟨m0, m1, m2, m3, m4, m5, m6, m7, m8⟩ := h
  unfold DM
  simp only [hs_I_sI, hs_I_sJ, hs_J_sI, hs_J_sJ]
  refine ⟨?_, ?_, ?_, ?_, ?_, ?_, ?_, ?_, ?_⟩
  · (try simp); exact m0
  · (try simp); exact m1
  · (try simp); exact m2
  · (try simp); exact m3
  · (try simp); exact m4
  · (try simp); exact m5
  · (try simp); exact m6
  · (try simp); exact hv
  · (try simp); exact m8
set_option maxRecDepth 20000 in
set_option maxHeartbeats 2000000 in
theorem c_draw_f {g : gl_T} {S0 S : hs_T} {ow0 : Nat → Nat} {n0 k0 n k x l tp nz : Nat} {c0 : Nat → Nat} {s : st_T} {ys : List Nat} {md ru r : Nat} {cs : List cl_T} {cal : List Nat} {A : aw_T} (hAW : AW g S0 ow0 (n0 + 1) (k0 + 9) c0 S x l tp nz (w_cr (w_ws s (d_ws s)) (d_cr s)) ys md ru r (d_M s ys r) (d_st s ys r) (d_sp s ys r) (d_F s r) (s_ws s).length cs cal A n k) (hAe : A = d_a s ys r) (hb : BD s) (hr : r < 20) (hMle : d_M s ys r ≤ 1000000000) (hd40 : (s_ds s).length < 40) (hn0 : n0 + 40000 ≤ ex_NM) (hk0 : k0 + 200000 ≤ ex_KM) (hsp : sp_draw s ys = (0, .int (nI (s_ds s).length), d_s s ys r)) : ex_W g 10 mX9_draw (cp g S0 ow0 x l tp nz c0 n0 k0 (exN exS) s (sp_draw s ys)) 188 [(5, .ref md), (0, .ref x)] [] S n k := by
  obtain ⟨ow, c, hA, hD, ⟨hn, hk⟩, ⟨ha50, haM⟩, haF, hlen⟩ := id hAW
  obtain ⟨m0, m1, m2, m3, m4, m5, m6, m7, m8⟩ := id hD
  have hcN := cN_le hA.1
  refine ex_aload_n dX9_draw_188 1 rfl ?_
  refine ex_aload dX9_draw_189 0 rfl ?_
  refine ex_getJ dX9_draw_191 fl_X9_220 hA.2.2.2.1.1 hA.2.2.2.1.2 ?_
  refine ex_putJ dX9_draw_194 fl_X9_50 (pf_X9_50 _) hA.1.1.1.1 hA.1.1.1.2 ?_
  have hR1 := RC_cr hA.1 (v := hs_J S md 8) (t := A.2.1) m8
  have hC1 : CK ow ow [9] [] S (hs_sJ S x 10 (hs_J S md 8)) := by have z := CK_sJ ow S x 10 (hs_J S md 8); rw [hA.1.1.1.2] at z; exact z
  have hA1 := AR_ck hA hC1 hR1 rfl rfl (by decide) (by decide) (by decide) (by decide) (by decide) (by simp) (by decide) (by decide)
  have hD1 := DM_ck hA.2.2.2.1 hD hC1 (by decide)
  generalize hs_sJ S x 10 (hs_J S md 8) = S1 at hA1 hD1 ⊢
  clear hR1 hC1
  refine ex_aload_n dX9_draw_197 1 rfl ?_
  refine ex_iconst (v := 0) dX9_draw_198 (by decide) ?_
  refine ex_putI dX9_draw_199 fl_X9_41 (pf_X9_41 _) hA1.1.1.1.1 hA1.1.1.1.2 ?_
  have hR2 := RC_ns0 hA1.1
  have hC2 : CK ow ow [9] [] S1 (hs_sI S1 x 7 0) := CK_x hA1.1.1 7 0
  have hA2 := AR_ck hA1 hC2 hR2 rfl rfl (by decide) (by decide) (by decide) (by decide) (by decide) (by simp) (by decide) (by decide)
  have hD2 := DM_ck hA1.2.2.2.1 hD1 hC2 (by decide)
  generalize hs_sI S1 x 7 0 = S2 at hA2 hD2 ⊢
  clear hR2 hC2
  obtain ⟨da, hL2, hmn, len2, f2⟩ := id hA2.2.1
  change da.length = (s_ds s).length at len2
  obtain ⟨a2, e2, r2, l2, o2, p2⟩ := id hL2
  have hc2b : c 2 ≤ 5000 := l2.2.1.2
  have hx2 := hA2.1.1.1
  have hm2 := hA2.2.2.2.1
  refine ex_c1 (fun hE => ?_)
  refine ex_aload_n dX9_draw_202 1 rfl ?_
  refine ex_getR (b := a2) dX9_draw_203 fl_X9_44 hx2.1 hx2.2 r2 ?_
  refine ex_aload dX9_draw_206 0 rfl ?_
  refine ex_cVg [.ref md] [] dX9_draw_208 cV_X9_71 (c_AL_add g l2 ⟨hm2.1, hm2.2, by decide⟩ (by omega) (by omega) (by omega)) l2.1.1 l2.1.2.1 rfl rfl rfl (by decide) (Nat.le_of_ble_eq_true rfl) rfl ?_ (fun E S' n' k' h => by obtain ⟨h1, -⟩ := h; cases h1)
  rintro v' S3 n3 k3 ⟨hr3, hpo⟩
  cases hr3
  obtain ⟨ow3, c3, hC3, hL3, hc3, hn3, hk3⟩ := CL_po ⟨hx2.1, Or.inl hx2.2⟩ r2 l2 o2 p2 hE hpo (Or.inl (by simp))
  have hx3 : x ∈ hs_L S3 ∧ hs_K S3 x = 9 := ⟨(hC3.1 x hx2.1).1, (hC3.1 x hx2.1).2.1.trans hx2.2⟩
  obtain ⟨b2, d2, t2, w2, u2, v2⟩ := id hL3
  show ex_W _ _ _ _ 211 [(5, .ref md), (0, .ref x)] [.int 1] S3 n3 k3
  refine ex_pop dX9_draw_211 rfl ?_
  refine ex_aload_n dX9_draw_212 1 rfl ?_
  refine ex_getR (b := b2) dX9_draw_213 fl_X9_44 hx3.1 hx3.2 t2 ?_
  refine ex_cVr [] [] dX9_draw_216 cV_X9_57 (c_szn g w2 (N := (s_ds s).length + 1) (by simp [len2])) w2.1.1 w2.1.2.1 rfl rfl rfl (by decide) (Nat.le_of_ble_eq_true rfl) rfl ?_
  refine ex_iconst (v := 1) dX9_draw_219 (by decide) ?_
  refine ex_isub dX9_draw_220 ?_
  exact ex_irt rfl dX9_draw_221 (by
  have hdr := DM_dr hD2 (by show s_td s ≤ 100000; exact hb.1) (by omega) hMle hb.2.2.2.2.2.2.2.2.1 ha50
  have hCD3 := CD_app hL2 len2 f2 hC3 hL3 hm2 hdr
  have hR3 := RC_dn hA2.1 hC3 hCD3
  refine cp_i (ow' := ow3) (c' := va_up c 2 c3) (ys' := ys) (s' := d_s s ys r) ?_ ?_ (CK_tr hA2.2.2.2.2.2 (CK_mono hC3 (by decide) (by decide))) ?_
  · rw [hsp, nI_pred]
  · rw [hAe] at hR3; exact hR3
  · exact ⟨by show n3 + cN c0 + (s_ls s).length ≤ n0 + 60 + cN (va_up c 2 c3) + (s_ls s).length; simp [cN, va_up] at *; omega, by show k3 + 4 * cN c0 + 5 * (s_ls s).length ≤ k0 + 600 + 4 * cN (va_up c 2 c3) + 5 * (s_ls s).length; simp [cN, va_up] at *; omega⟩)
