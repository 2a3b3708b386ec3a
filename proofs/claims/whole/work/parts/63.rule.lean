theorem CK_fr {S S' : hs_T} {ow ow' : Nat → Nat} (hf : hs_fr S S' []) (how : ∀ y, y ∈ hs_L S → ow' y = ow y) : CK ow ow' [] [] S S' := ⟨fun y hy => ⟨(hf.1 y hy).1, (hf.1 y hy).2.1, (hf.1 y hy).2.2, how y hy⟩, fun y hy _ => hf.2 y hy (by simp), fun y hy _ => (hf.2 y hy (by simp)).2.2⟩
/-- a told rule's list gets its slot -/
theorem TL_ow {g : gl_T} {fd : Int32} {S0 S : hs_T} {told cc : Nat} {ca : List Nat} (h : TL g fd S0 S told cc ca) (ow : Nat → Nat) (sl : Nat) : ∃ ow', (∀ y, y ∈ hs_L S0 → ow' y = ow y) ∧ CL g S ow' sl told 1 1 cc ca := by
  obtain ⟨_, a, e, h1, h2, h3, h4⟩ := h
  by_cases z : cc = 0
  · exact ⟨va_up ow a sl, fun y hy => by simp [va_up, show y ≠ a from fun w => h3 (w ▸ hy)], a, e, h1, h2, by simp [va_up], fun w => absurd z w⟩
  · refine ⟨va_up (va_up ow a sl) e sl, fun y hy => by simp [va_up, show y ≠ a from fun w => h3 (w ▸ hy), show y ≠ e from fun w => h4 z (w ▸ hy)], a, e, h1, h2, ?_, fun _ => by simp [va_up]⟩
    by_cases y : a = e
    · simp [va_up, y]
    · simp [va_up, y]
/-- bytes -/
def TB (s : st_T) : Prop := ∀ j, j < (s_tp s).length → -128 ≤ ((s_tp s).getD j 0).toInt ∧ ((s_tp s).getD j 0).toInt < 128
/-- a rule, fresh -/
theorem ru_m1 {g : gl_T} {S S1 : hs_T} {told q : Nat} {z : Int32} (htold : told ∉ hs_L S) (hq : q ∉ hs_L (hs_new S told 6 0)) (hS : hs_sI (hs_sR (hs_sR (hs_sI (hs_new (hs_new S told 6 0) q 0 0) q 0 0) q 1 (some (g.2.2.2.2 1))) told 1 (some q)) told 0 z = S1) : hs_fr S S1 [] ∧ TL g z S S1 told 0 [] := by
  subst hS
  have hq0 : q ∉ hs_L S := fun w => hq (hs_new_o 6 0 htold w).1
  have hqt : q ≠ told := fun w => hq (w ▸ (hs_new_q S told 6 0).1)
  refine ⟨fr_zI (fr_zR (fr_zR (fr_zI (hs_fr_tr (hs_fr_new htold []) (hs_fr_new hq [])) hq0 _ _) hq0 _ _) htold _ _) htold _ _, ⟨(hs_new_o 0 0 hq (hs_new_q S told 6 0).1).1, (hs_new_o 0 0 hq (hs_new_q S told 6 0).1).2.1.trans (hs_new_q S told 6 0).2.1, htold, ?_⟩, q, g.2.2.2.2 1, ?_, ?_, hq0, fun w => absurd rfl w⟩
  · rw [hs_I_sI, if_pos ⟨rfl, rfl⟩]
  · rw [hs_R_sI, hs_R_sR, if_pos ⟨rfl, rfl⟩]
  · refine ⟨⟨(hs_new_q (hs_new S told 6 0) q 0 0).1, (hs_new_q (hs_new S told 6 0) q 0 0).2.1, ?_, ?_⟩, ⟨Nat.le_refl _, by decide⟩, Or.inr ⟨rfl, rfl⟩, fun i hi => absurd hi (by simp), fun x hx => absurd hx (by simp)⟩
    · rw [hs_R_sI, hs_R_sR, if_neg (fun w => hqt w.1), hs_R_sR, if_pos ⟨rfl, rfl⟩]
    · rw [hs_I_sI, if_neg (fun w => hqt w.1), hs_I_sR, hs_I_sR, hs_I_sI, if_neg (fun w => absurd w.2 (by decide)), hs_I_new, if_pos rfl]; rfl
/-- a reader, fresh -/
theorem ru_m2 {S1 S2 : hs_T} {rr tp : Nat} {y : Int32} (hrr : rr ∉ hs_L S1) (hS : hs_sI (hs_sR (hs_sI (hs_sI (hs_sI (hs_new S1 rr 7 0) rr 2 0) rr 3 0) rr 4 (-1)) rr 0 (some tp)) rr 1 y = S2) : hs_fr S1 S2 [] ∧ (rr ∈ hs_L S2 ∧ hs_K S2 rr = 7) ∧ hs_R S2 rr 0 = some tp ∧ hs_I S2 rr 1 = y ∧ hs_I S2 rr 2 = 0 ∧ hs_I S2 rr 3 = 0 ∧ hs_I S2 rr 4 = -1 := by
  subst hS
  refine ⟨fr_zI (fr_zR (fr_zI (fr_zI (fr_zI (hs_fr_new hrr []) hrr _ _) hrr _ _) hrr _ _) hrr _ _) hrr _ _, ⟨(hs_new_q S1 rr 7 0).1, (hs_new_q S1 rr 7 0).2.1⟩, ?_, ?_, ?_, ?_, ?_⟩
  · rw [hs_R_sI, hs_R_sR, if_pos ⟨rfl, rfl⟩]
  · rw [hs_I_sI, if_pos ⟨rfl, rfl⟩]
  · rw [hs_I_sI, if_neg (fun w => absurd w.2 (by decide)), hs_I_sR, hs_I_sI, if_neg (fun w => absurd w.2 (by decide)), hs_I_sI, if_neg (fun w => absurd w.2 (by decide)), hs_I_sI, if_pos ⟨rfl, rfl⟩]
  · rw [hs_I_sI, if_neg (fun w => absurd w.2 (by decide)), hs_I_sR, hs_I_sI, if_neg (fun w => absurd w.2 (by decide)), hs_I_sI, if_pos ⟨rfl, rfl⟩]
  · rw [hs_I_sI, if_neg (fun w => absurd w.2 (by decide)), hs_I_sR, hs_I_sI, if_pos ⟨rfl, rfl⟩]
theorem ru_TI {g : gl_T} {S S1 S2 : hs_T} {rr tp told N n k : Nat} {y z : Int32} {T : List Int32} (hf1 : hs_fr S S1 []) (htl : TL g z S S1 told 0 []) (hrr : rr ∉ hs_L S1) (hf2 : hs_fr S1 S2 []) (hr : rr ∈ hs_L S2 ∧ hs_K S2 rr = 7) (h0 : hs_R S2 rr 0 = some tp) (h1 : hs_I S2 rr 1 = nI N) (h2 : hs_I S2 rr 2 = 0) (h3 : hs_I S2 rr 3 = 0) (h4 : hs_I S2 rr 4 = -1) (ht : tp ∈ hs_L S ∧ hs_K S tp = 11 ∧ hs_N S tp = 400) (hT : ∀ j, j < N → hs_I S tp j = T.getD j 0 ∧ -128 ≤ (T.getD j 0).toInt ∧ (T.getD j 0).toInt < 128) (hN : N ≤ 400) : TI g z S S2 rr tp told T N [] (0, 0, none) 0 n n k k := by
  have hf3 := hs_fr_tr hf1 hf2
  have htp := hf3.1 tp ht.1
  obtain ⟨⟨t1, t2, t3, t4⟩, q, e, t5, t6, t7, t8⟩ := htl
  refine ⟨⟨hr, ⟨h0, h1, h2, h3, h4⟩, ⟨htp.1, htp.2.1.trans ht.2.1, htp.2.2.trans ht.2.2⟩, fun j hj => ?_, hN, Nat.zero_le _, Nat.zero_le _⟩, fun w => hrr (hf1.1 rr w).1, hf3, ⟨[], ⟨⟨(hf2.1 told t1).1, (hf2.1 told t1).2.1.trans t2, t3, ?_⟩, q, e, ?_, al_fr t6 hf2 (by simp) (by simp), t7, t8⟩, rfl, fun i hi => absurd hi (by simp)⟩, by simp, Or.inl rfl, by simp, by simp⟩
  · rw [(hf3.2 tp ht.1 (by simp)).1]; exact hT j hj
  · rw [(hf2.2 told t1 (by simp)).1]; exact t4
  · rw [(hf2.2 told t1 (by simp)).2.2]; exact t5
/-- the rules behind a rule more -/
theorem CR_app {g : gl_T} {S3 S5 S6 : hs_T} {ows ow6 : Nat → Nat} {x told cc c1 c6 b1 d1 : Nat} {ca ra5 : List Nat} {rs : List ru_T} {cs : List cl_T} {z : Int32} {dd : Nat} (m1 : al_at g S5 b1 d1 c1 6 ra5) (len5 : ra5.length = rs.length) (f5 : ∀ j, j < rs.length → hs_I S5 (ra5.getD j 0) 0 = nI (ru_at rs j).1 ∧ ∃ cc ca, CL g S5 ows (100 + j) (ra5.getD j 0) 1 1 cc ca ∧ ca.length = (ru_at rs j).2.length ∧ ∀ i, i < ca.length → CCl g S5 (ca.getD i 0) (cl_at (ru_at rs j).2 i)) (hL6 : CL g S6 ow6 1 x 4 6 c6 (ra5 ++ [told])) (mt3 : told ∈ hs_L S3 ∧ hs_K S3 told = 6) (hK35 : CK ows ows [9] [] S3 S5) (hC6 : CK ows ow6 [] [1] S5 S6) (hfd : hs_I S3 told 0 = z) (hzd : z = nI dd) (hCLt : CL g S3 ows (100 + rs.length) told 1 1 cc ca) (hca : ca.length = cs.length) (hcf : ∀ i, i < ca.length → CCl g S3 (ca.getD i 0) (cl_at cs i)) : CR g S6 ow6 x c6 (rs ++ [(dd, cs)]) := by
  have mt5 : told ∈ hs_L S5 ∧ hs_K S5 told = 6 := ⟨(hK35.1 _ mt3.1).1, (hK35.1 _ mt3.1).2.1.trans mt3.2⟩
  have hC56 : CK ows ow6 [9] [1] S3 S6 := CK_tr (CK_mono hK35 (by decide) (by decide)) (CK_mono hC6 (by decide) (by decide))
  refine ⟨ra5 ++ [told], hL6, by simp [len5], fun j hj => ?_⟩
  rw [gd_app, len5]
  unfold ru_at
  rw [gd_app]
  by_cases w0 : j = rs.length
  · rw [if_pos w0, if_pos w0]
    have k6 := ck_at hC56 mt3.1 mt3.2 (by decide) (by decide)
    refine ⟨by rw [k6.1, hfd]; exact hzd, cc, ca, ?_, hca, fun i hi => ?_⟩
    · rw [w0]; exact CL_ck hCLt ⟨mt3.1, Or.inr (Or.inr mt3.2)⟩ hC56 (by decide) (by decide) (by simp; omega)
    · obtain ⟨x1, x2⟩ := CL_el hCLt hi
      have k7 := ck_at hC56 x1 x2 (by decide) (by decide)
      have h9 := hcf i hi
      unfold CCl at h9 ⊢
      rw [k7.1, k7.2.2]; exact h9
  · rw [if_neg w0, if_neg w0]
    simp at hj
    have hj2 : j < rs.length := by omega
    obtain ⟨g1, cx, cy, g2, g3, g4⟩ := f5 j hj2
    obtain ⟨x1, x2⟩ := al_mem m1 (j := j) (by omega)
    have k7 := ck_at hC6 x1 x2 (by decide) (by decide)
    refine ⟨by rw [k7.1]; exact g1, cx, cy, CL_ck g2 ⟨x1, Or.inr (Or.inr x2)⟩ hC6 (by decide) (by decide) (by simp; omega), g3, fun i hi => ?_⟩
    obtain ⟨y1, y2⟩ := CL_el g2 hi
    have k8 := ck_at hC6 y1 y2 (by decide) (by decide)
    have h9 := g4 i hi
    unfold CCl at h9 ⊢
    rw [k8.1, k8.2.2]; exact h9
theorem RC_rs {g : gl_T} {S S' : hs_T} {ow ow' : Nat → Nat} {x l tp nz c6 : Nat} {s : st_T} {ys : List Nat} {c : Nat → Nat} {rs : List ru_T} (h : RC g S ow x l tp nz s ys c) (hC6 : CK ow ow' [] [1] S S') (hCR6 : CR g S' ow' x c6 rs) : RC g S' ow' x l tp nz (w_rs s rs) ys (va_up c 1 c6) := by
  obtain ⟨hB, hCS, hCH, hCG, hCT, hCR, hCN, hCD, hCW⟩ := h
  exact ⟨CB_ck hB hC6, (CS_ck hB hCS hC6 (by decide) (by decide)), (CH_ck hB hCH hC6 (by decide) (by decide) (by decide) (by decide)), (CG_ck hB hCG hC6 (by decide) (by decide) (by decide) (by decide) (by decide)), (CT_ck hB hCT hC6 (by decide) (by decide) (by decide)), hCR6, (CN_ck hB hCN hC6 (by decide) (by decide) (by decide)), (CD_ck hB hCD hC6 (by decide) (by decide) (by decide) (by decide)), (CW_ck hB hCW hC6 (by decide) (by decide) (by decide) (by decide))⟩
set_option maxRecDepth 20000 in
set_option maxHeartbeats 2000000 in
theorem c_rule_e (g : gl_T) {S S3 : hs_T} {n k n3 k3 x l tp nz rr told N cc dd : Nat} {ow : Nat → Nat} {s : st_T} {ys : List Nat} {c : Nat → Nat} {y z : Int32} {cs3 : List cl_T} {qq : ps_T} (h : RC g S ow x l tp nz s ys c) (hn : n + 40000 ≤ ex_NM) (hk : k + 200000 ≤ ex_KM) (hTI3 : TI g z S S3 rr tp told (s_tp s) N cs3 qq cc (n + 1 + 1 + 1) n3 (k + 2 + 3 + 5) k3) (eq1 : qq.2 = (p_all (s_tp s) N).2.2) (eq2 : qq.2.1 = 0 → cs3 = (p_all (s_tp s) N).1) (hok : ¬ (y < 0 ∨ nI (s_tp s).length < y ∨ z < 0 ∨ 100000 < z)) (hrl : ¬ (s_rs s).length = 20) (hrb : (s_rs s).length ≤ 20) (hcy : y.toNatClampNeg = N) (hcz : z.toNatClampNeg = dd) (hzd : z = nI dd) : ex_W g 10 mX9_rule (cp g S ow x l tp nz c n k (exJ exA exS) s (sp_rule s y z)) 83 [(4, .ref rr), (3, .ref told), (0, .ref x)] [] S3 n3 k3 := by
  obtain ⟨hP3, hr03, hF3, ⟨ca, hTL3, hca, hcf⟩, hcs10, hcc, hn3, hk3⟩ := id hTI3
  obtain ⟨ows, hows, hCLt⟩ := TL_ow hTL3 ow (100 + (s_rs s).length)
  have hC3 : CK ow ows [] [] S S3 := CK_fr hF3 hows
  have hR3 := RC_ck h hC3 (by simp) (by simp)
  have mt3 : told ∈ hs_L S3 ∧ hs_K S3 told = 6 := ⟨hTL3.1.1, hTL3.1.2.1⟩
  have hcs9 : n3 ≤ n + 20 := by split at hn3 <;> omega
  have hks9 : k3 ≤ k + 70 := by omega
  refine ex_aload_n dX9_rule_83 2 rfl ?_
  refine ex_iconst (v := 0) dX9_rule_84 (by decide) ?_
  refine ex_putI dX9_rule_85 fl_X9_27 (pf_X9_27 _) hR3.1.1.1 hR3.1.1.2 ?_
  have hR4 := RC_tp0 hR3
  have hK4 : CK ows ows [9] [] S3 (hs_sI S3 x 3 0) := CK_x hR3.1 3 0
  have hP4 : RS (hs_sI S3 x 3 0) rr tp (s_tp s) N qq := RS_fr hP3 (hs_fr_sI S3 x 3 0) (by simp; exact fun w => by have e1 := hP3.1.2; rw [w, hR3.1.1.2] at e1; omega) (by simp; exact fun w => by have e1 := hP3.2.2.1.2.1; rw [w, hR3.1.1.2] at e1; omega)
  generalize hs_sI S3 x 3 0 = S4 at hR4 hK4 hP4 ⊢
  refine ex_aload_n dX9_rule_88 2 rfl ?_
  refine ex_aload dX9_rule_89 0 rfl ?_
  refine ex_getI dX9_rule_91 fl_X9_165 hP4.1.1 hP4.1.2 ?_
  refine ex_putI dX9_rule_94 fl_X9_34 (pf_X9_34 _) hR4.1.1.1 hR4.1.1.2 ?_
  have hR5 := RC_fp hR4 (v := hs_I S4 rr 4) (t := qq.2.2) hP4.2.1.2.2.2.2
  have hK5 : CK ows ows [9] [] S4 (hs_sI S4 x 5 (hs_I S4 rr 4)) := CK_x hR4.1 5 _
  have hP5 : RS (hs_sI S4 x 5 (hs_I S4 rr 4)) rr tp (s_tp s) N qq := RS_fr hP4 (hs_fr_sI S4 x 5 _) (by simp; exact fun w => by have e1 := hP4.1.2; rw [w, hR4.1.1.2] at e1; omega) (by simp; exact fun w => by have e1 := hP4.2.2.1.2.1; rw [w, hR4.1.1.2] at e1; omega)
  generalize hs_sI S4 x 5 (hs_I S4 rr 4) = S5 at hR5 hK5 hP5 ⊢
  have hK35 : CK ows ows [9] [] S3 S5 := CK_tr hK4 hK5
  clear hR4 hP4 hK4 hK5
  refine ex_aload dX9_rule_97 0 rfl ?_
  refine ex_getI dX9_rule_99 fl_X9_166 hP5.1.1 hP5.1.2 ?_
  refine ex_if_eq (tgt := 114) dX9_rule_102 (by decide) (fun c102 => ?_) (fun c102 => ?_)
  · have hq00 : qq.2.1 = 0 := (nI_eq (b := 0) (by have := hP5.2.2.2.2.2.2; omega) (by decide)).mp (hP5.2.1.2.2.2.1.symm.trans c102)
    have hcse := eq2 hq00
    obtain ⟨hB5, hCS5, hCH5, hCG5, hCT5, hCR5, hCN5, hCD5, hCW5⟩ := id hR5
    obtain ⟨ra5, ⟨b1, d1, s1, m1, u1, v1⟩, len5, f5⟩ := id hCR5
    change ra5.length = (s_rs s).length at len5
    have mt5 : told ∈ hs_L S5 ∧ hs_K S5 told = 6 := ⟨(hK35.1 _ mt3.1).1, (hK35.1 _ mt3.1).2.1.trans mt3.2⟩
    have hc1b : c 1 ≤ 5000 := m1.2.1.2
    refine ex_c1 (fun hE5 => ?_)
    refine ex_aload_n dX9_rule_114 2 rfl ?_
    refine ex_getR (b := b1) dX9_rule_115 fl_X9_31 hR5.1.1.1 hR5.1.1.2 s1 ?_
    refine ex_aload_n dX9_rule_118 1 rfl ?_
    refine ex_cVg [.ref told] [] dX9_rule_119 cV_X9_71 (c_AL_add g m1 ⟨mt5.1, mt5.2, by decide⟩ (by omega) (by omega) (by omega)) m1.1.1 m1.1.2.1 rfl rfl rfl (by decide) (Nat.le_of_ble_eq_true rfl) rfl ?_ (fun E S' n' k' h => by obtain ⟨h1, -⟩ := h; cases h1)
    rintro v' S6 n6 k6 ⟨hr6, hpo⟩
    cases hr6
    obtain ⟨ow6, c6, hC6, hL6, hc6, hn6, hk6⟩ := CL_po ⟨hB5.1.1, Or.inl hB5.1.2⟩ s1 m1 u1 v1 hE5 hpo (Or.inl (by simp))
    have hB6 := CB_ck hB5 hC6
    obtain ⟨b6, d6, s6, m6, u6, v6⟩ := id hL6
    show ex_W _ _ _ _ 122 [(4, .ref rr), (3, .ref told), (0, .ref x)] [.int 1] S6 n6 k6
    refine ex_pop dX9_rule_122 rfl ?_
    refine ex_aload_n dX9_rule_123 2 rfl ?_
    refine ex_getR (b := b6) dX9_rule_124 fl_X9_31 hB6.1.1 hB6.1.2 s6 ?_
    refine ex_cVr [] [] dX9_rule_127 cV_X9_57 (c_szn g m6 (N := (s_rs s).length + 1) (by simp [len5])) m6.1.1 m6.1.2.1 rfl rfl rfl (by decide) (Nat.le_of_ble_eq_true rfl) rfl ?_
    refine ex_iconst (v := 1) dX9_rule_130 (by decide) ?_
    refine ex_isub dX9_rule_131 ?_
    exact ex_irt rfl dX9_rule_132 (by
  have hC56 : CK ows ow6 [9] [1] S3 S6 := CK_tr (CK_mono hK35 (by decide) (by decide)) (CK_mono hC6 (by decide) (by decide))
  have hCR6 := CR_app m1 len5 f5 hL6 mt3 hK35 hC6 hTL3.1.2.2.2 hzd hCLt hca hcf
  rw [hcse] at hCR6
  have hRC6 := RC_rs hR5 hC6 hCR6
  refine cp_i (ow' := ow6) (c' := va_up c 1 c6) (ys' := ys) (s' := w_rs (w_fp (w_tp s []) qq.2.2) (s_rs s ++ [(dd, (p_all (s_tp s) N).1)])) ?_ hRC6 (CK_tr (CK_mono hC3 (by decide) (by decide)) (CK_mono hC56 (by decide) (by decide))) ?_
  · rw [sp_rule, if_neg hok, if_neg hrl, hcy, if_neg (by rw [← eq1, hq00]; omega), hcz, ← eq1, nI_pred]
  · exact ⟨by show n6 + cN c + (s_ls s).length ≤ n + 60 + cN (va_up c 1 c6) + (s_ls s).length; simp [cN, va_up]; omega, by show k6 + 4 * cN c + 5 * (s_ls s).length ≤ k + 600 + 4 * cN (va_up c 1 c6) + 5 * (s_ls s).length; simp [cN, va_up]; omega⟩)
  · refine ex_aload dX9_rule_105 0 rfl ?_
    refine ex_getI dX9_rule_107 fl_X9_166 hP5.1.1 hP5.1.2 ?_
    refine ex_bipush (v := 10) dX9_rule_110 (by decide) ?_
    refine ex_isub dX9_rule_112 ?_
    exact ex_irt rfl dX9_rule_113 (by
  have hpos : 0 < qq.2.1 := Nat.pos_of_ne_zero (fun w => c102 (by rw [hP5.2.1.2.2.2.1, w]; rfl))
  refine cp_i (ow' := ows) (c' := c) (ys' := ys) (s' := w_fp (w_tp s []) qq.2.2) ?_ hR5 (CK_tr (CK_mono hC3 (by decide) (by decide)) (CK_mono hK35 (by decide) (by decide))) ⟨by show n3 + cN c + (s_ls s).length ≤ n + 60 + cN c + (s_ls s).length; omega, by show k3 + 4 * cN c + 5 * (s_ls s).length ≤ k + 600 + 4 * cN c + 5 * (s_ls s).length; omega⟩
  rw [sp_rule, if_neg hok, if_neg hrl, hcy, if_pos (by rw [← eq1]; exact hpos), ← eq1, hP5.2.1.2.2.2.1])
set_option maxRecDepth 20000 in
set_option maxHeartbeats 4000000 in
theorem c_rule (g : gl_T) {S : hs_T} {n k x l tp nz : Nat} {ow : Nat → Nat} {s : st_T} {ys : List Nat} {c : Nat → Nat} (h : RC g S ow x l tp nz s ys c) (hb : BD s) (hO : OK s) (hn : n + 40000 ≤ ex_NM) (hk : k + 200000 ≤ ex_KM) (hTB : TB s) {y z : Int32} : ex_M g 10 mX9_rule [.ref x, .int y, .int z] S n k (cp g S ow x l tp nz c n k (exJ exA exS) s (sp_rule s y z)) := by
  refine ex_enter (by decide +kernel) (Nat.le_of_ble_eq_true rfl) ?_
  show ex_W _ _ _ _ 0 [(0, .ref x), (1, .int y), (2, .int z)] [] _ _ _
  obtain ⟨hB, hCS, hCH, hCG, hCT, hCR, hCN, hCD, hCW⟩ := id h
  obtain ⟨bd1, bd2, bd3, ⟨bd4, bd5⟩, bd6, ⟨bd7, bd8⟩, bd9, bd10, bd11, bd12⟩ := id hb
  obtain ⟨ra, ⟨a1, e1, r1, l1, o1, p1⟩, len1, f1⟩ := id hCR
  refine ex_iload_n dX9_rule_0 1 rfl ?_
  refine ex_if_lt (tgt := 22) dX9_rule_1 (by decide) (fun c1 => ?_) (fun c1 => ?_)
  · exact ex_throw th_X9_80_148_84 dX9_rule_22 dX9_rule_25 dX9_rule_26 dX9_rule_28 dX9_rule_31 (by decide) (Nat.le_of_ble_eq_true rfl) (by omega) (by omega) (cp_x (code := 1) (by unfold sp_rule; rw [if_pos (by first | exact Or.inl c1 | exact Or.inr (Or.inl (hCT.1 ▸ c9)) | exact Or.inr (Or.inr (Or.inl c13)) | exact Or.inr (Or.inr (Or.inr (by rw [i_lt]; rw [i_le] at c19; omega))))]) (by decide) rfl h)
  · refine ex_iload_n dX9_rule_4 1 rfl ?_
    refine ex_aload_n dX9_rule_5 0 rfl ?_
    refine ex_getI dX9_rule_6 fl_X9_27 hB.1.1 hB.1.2 ?_
    refine ex_icmp_gt (tgt := 22) dX9_rule_9 (by decide) (fun c9 => ?_) (fun c9 => ?_)
    · exact ex_throw th_X9_80_148_84 dX9_rule_22 dX9_rule_25 dX9_rule_26 dX9_rule_28 dX9_rule_31 (by decide) (Nat.le_of_ble_eq_true rfl) (by omega) (by omega) (cp_x (code := 1) (by unfold sp_rule; rw [if_pos (by first | exact Or.inl c1 | exact Or.inr (Or.inl (hCT.1 ▸ c9)) | exact Or.inr (Or.inr (Or.inl c13)) | exact Or.inr (Or.inr (Or.inr (by rw [i_lt]; rw [i_le] at c19; omega))))]) (by decide) rfl h)
    · refine ex_iload_n dX9_rule_12 2 rfl ?_
      refine ex_if_lt (tgt := 22) dX9_rule_13 (by decide) (fun c13 => ?_) (fun c13 => ?_)
      · exact ex_throw th_X9_80_148_84 dX9_rule_22 dX9_rule_25 dX9_rule_26 dX9_rule_28 dX9_rule_31 (by decide) (Nat.le_of_ble_eq_true rfl) (by omega) (by omega) (cp_x (code := 1) (by unfold sp_rule; rw [if_pos (by first | exact Or.inl c1 | exact Or.inr (Or.inl (hCT.1 ▸ c9)) | exact Or.inr (Or.inr (Or.inl c13)) | exact Or.inr (Or.inr (Or.inr (by rw [i_lt]; rw [i_le] at c19; omega))))]) (by decide) rfl h)
      · refine ex_iload_n dX9_rule_16 2 rfl ?_
        refine ex_ldc dX9_rule_17 lc_X9_142 ?_
        refine ex_icmp_le (tgt := 32) dX9_rule_19 (by decide) (fun c19 => ?_) (fun c19 => ?_)
        · have hok : ¬ (y < 0 ∨ nI (s_tp s).length < y ∨ z < 0 ∨ 100000 < z) := by
            rintro (w | w | w | w)
            · exact c1 w
            · exact c9 (hCT.1 ▸ w)
            · exact c13 w
            · rw [i_lt] at w; rw [i_le] at c19; omega
          obtain ⟨N, hN, hyN⟩ := nI_of2 (x := y) (M := nI (s_tp s).length) (n := (s_tp s).length) (nI_toInt (by omega)) c1 (by rw [i_le]; rw [hCT.1, i_lt] at c9; omega)
          obtain ⟨dd, hdd, hzd⟩ := nI_of2 (x := z) (M := 100000) (n := 100000) (by decide) c13 c19
          have hcy : y.toNatClampNeg = N := by rw [hyN]; exact nI_clamp (by omega)
          have hcz : z.toNatClampNeg = dd := by rw [hzd]; exact nI_clamp (by omega)
          refine ex_aload_n dX9_rule_32 0 rfl ?_
          refine ex_getR (b := a1) dX9_rule_33 fl_X9_31 hB.1.1 hB.1.2 r1 ?_
          refine ex_cVr [] [] dX9_rule_36 cV_X9_57 (c_szn g l1 len1) l1.1.1 l1.1.2.1 rfl rfl rfl (by decide) (Nat.le_of_ble_eq_true rfl) rfl ?_
          refine ex_bipush (v := 20) dX9_rule_39 (by decide) ?_
          refine ex_icmp_lt (tgt := 54) dX9_rule_41 (by decide) (fun c41 => ?_) (fun c41 => ?_)
          · have hrl : ¬ (s_rs s).length = 20 := fun w => by rw [w] at c41; exact absurd c41 (by decide)
            refine ex_new (N := 2) dX9_rule_54 nl_X9_152 rfl (by omega) (by omega) (fun told htold => ?_)
            refine ex_dup dX9_rule_57 rfl ?_
            refine ex_iload_n dX9_rule_58 2 rfl ?_
            refine ex_cIg [.int z] [.ref told] dX9_rule_59 cI_X9_154 (c_Rule_init g (hs_new_q _ _ _ _).1 (hs_new_q _ _ _ _).2.1 (by omega) (by omega)) rfl (by decide) (Nat.le_of_ble_eq_true rfl) rfl (fun E S' n' k' h => by obtain ⟨_, _, h1, -⟩ := h; cases h1) ?_
            rintro v' S9 n9 k9 ⟨q, hq, hr9, hS9, hn9, hk9⟩
            cases hr9
            subst hS9
            subst hn9
            subst hk9
            show ex_W _ _ _ _ 62 [(0, .ref x), (1, .int y), (2, .int z)] [.ref told] (hs_sI (hs_sR (hs_sR (hs_sI (hs_new (hs_new S told 6 0) q 0 0) q 0 0) q 1 (some (g.2.2.2.2 1))) told 1 (some q)) told 0 z) (n + 1 + 1) (k + 2 + 3)
            obtain ⟨S1, hS1⟩ : ∃ S1, hs_sI (hs_sR (hs_sR (hs_sI (hs_new (hs_new S told 6 0) q 0 0) q 0 0) q 1 (some (g.2.2.2.2 1))) told 1 (some q)) told 0 z = S1 := ⟨_, rfl⟩
            rw [hS1]
            obtain ⟨hf1, htl⟩ := ru_m1 htold hq hS1
            clear hS1
            have hB1 := CB_ck hB (CK_fr (ow := ow) (ow' := ow) hf1 (fun _ _ => rfl))
            refine ex_astore_n [(3, .ref told), (0, .ref x), (1, .int y), (2, .int z)] dX9_rule_62 (by decide) rfl ?_
            refine ex_new (N := 5) dX9_rule_63 nl_X9_156 rfl (by omega) (by omega) (fun rr hrr => ?_)
            have hx1 : x ∈ hs_L (hs_new S1 rr 7 0) ∧ hs_K (hs_new S1 rr 7 0) x = 9 := ⟨(hs_new_o 7 0 hrr hB1.1.1).1, (hs_new_o 7 0 hrr hB1.1.1).2.1.trans hB1.1.2⟩
            have htr : hs_R (hs_new S1 rr 7 0) x 2 = some tp := by rw [(hs_new_o 7 0 hrr hB1.1.1).2.2.2.2.2]; exact hB1.2.2.1.1
            refine ex_dup dX9_rule_66 rfl ?_
            refine ex_aload_n dX9_rule_67 1 rfl ?_
            refine ex_getR (b := tp) dX9_rule_68 fl_X9_23 hx1.1 hx1.2 htr ?_
            refine ex_iload_n dX9_rule_71 2 rfl ?_
            refine ex_cIv [.ref tp, .int y] [.ref rr] dX9_rule_72 cI_X9_158 (c_RR_init g (hs_new_q _ _ _ _).1 (hs_new_q _ _ _ _).2.1) rfl (by decide) (Nat.le_of_ble_eq_true rfl) rfl ?_
            obtain ⟨S2, hS2⟩ : ∃ S2, hs_sI (hs_sR (hs_sI (hs_sI (hs_sI (hs_new S1 rr 7 0) rr 2 0) rr 3 0) rr 4 (-1)) rr 0 (some tp)) rr 1 y = S2 := ⟨_, rfl⟩
            rw [hS2]
            obtain ⟨hf2, hr2, g0, g1, g2, g3, g4⟩ := ru_m2 hrr hS2
            clear hS2 hx1 htr
            have hTI0 := ru_TI (n := n + 1 + 1 + 1) (k := k + 2 + 3 + 5) (T := s_tp s) (y := y) hf1 htl hrr hf2 hr2 g0 (g1.trans hyN) g2 g3 g4 ⟨hB.2.2.1.2.1, hB.2.2.1.2.2.1, hB.2.2.1.2.2.2.1⟩ (fun j hj => ⟨hCT.2 j (by omega), hTB j (by omega)⟩) (by omega)
            have mt2 : told ∈ hs_L S2 ∧ hs_K S2 told = 6 := ⟨(hf2.1 told htl.1.1).1, (hf2.1 told htl.1.1).2.1.trans htl.1.2.1⟩
            refine ex_astore [(4, .ref rr), (3, .ref told), (0, .ref x), (1, .int y), (2, .int z)] dX9_rule_75 (by decide) rfl ?_
            refine ex_aload dX9_rule_77 0 rfl ?_
            refine ex_aload_n dX9_rule_79 1 rfl ?_
            refine ex_cVg [.ref told] [] dX9_rule_80 cV_X9_161 (r_into g hTI0 (by omega) (by omega)) hr2.1 hr2.2 rfl rfl rfl (by decide) (Nat.le_of_ble_eq_true rfl) rfl ?_ (fun E S' n' k' h => by obtain ⟨h1, -⟩ := h; cases h1)
            rintro v' S3 n3 k3 ⟨hr3, qq, cc3, cs3, hTI3, eq1, eq2⟩
            cases hr3
            show ex_W _ _ _ _ 83 [(4, .ref rr), (3, .ref told), (0, .ref x), (1, .int y), (2, .int z)] [] S3 n3 k3
            refine ex_lv [0, 1, 2] rfl ?_
            exact c_rule_e g h hn hk hTI3 eq1 eq2 hok hrl (by omega) hcy hcz hzd
          · exact ex_throw th_X9_61_150_65 dX9_rule_44 dX9_rule_47 dX9_rule_48 dX9_rule_50 dX9_rule_53 (by decide) (Nat.le_of_ble_eq_true rfl) (by omega) (by omega) (cp_x (code := 2) (by unfold sp_rule; rw [if_neg hok, if_pos (by have w : ¬ (s_rs s).length < 20 := fun w => c41 (nI_lt w (by decide)); omega)]) (by decide) rfl h)
        · exact ex_throw th_X9_80_148_84 dX9_rule_22 dX9_rule_25 dX9_rule_26 dX9_rule_28 dX9_rule_31 (by decide) (Nat.le_of_ble_eq_true rfl) (by omega) (by omega) (cp_x (code := 1) (by unfold sp_rule; rw [if_pos (by first | exact Or.inl c1 | exact Or.inr (Or.inl (hCT.1 ▸ c9)) | exact Or.inr (Or.inr (Or.inl c13)) | exact Or.inr (Or.inr (Or.inr (by rw [i_lt]; rw [i_le] at c19; omega))))]) (by decide) rfl h)
