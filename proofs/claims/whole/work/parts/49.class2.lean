theorem CK_fI {ow ow' : Nat → Nat} {dk ds : List Nat} {S S1 : hs_T} (h : CK ow ow' dk ds S S1) {q : Nat} (hq : q ∉ hs_L S) (i : Nat) (v : Int32) : CK ow ow' dk ds S (hs_sI S1 q i v) := ⟨h.1, fun y hy hd => by
  obtain ⟨a1, a2, a3⟩ := h.2.1 y hy hd
  exact ⟨by show hs_u (hs_I S1) q i v y = _; rw [hs_u_off _ _ _ (show y ≠ q from fun z => hq (z ▸ hy))]; exact a1, a2, a3⟩, h.2.2⟩
theorem CK_fJ {ow ow' : Nat → Nat} {dk ds : List Nat} {S S1 : hs_T} (h : CK ow ow' dk ds S S1) {q : Nat} (hq : q ∉ hs_L S) (i : Nat) (v : Int64) : CK ow ow' dk ds S (hs_sJ S1 q i v) := ⟨h.1, fun y hy hd => by
  obtain ⟨a1, a2, a3⟩ := h.2.1 y hy hd
  exact ⟨a1, by show hs_u (hs_J S1) q i v y = _; rw [hs_u_off _ _ _ (show y ≠ q from fun z => hq (z ▸ hy))]; exact a2, a3⟩, h.2.2⟩
theorem CK_fR {ow ow' : Nat → Nat} {dk ds : List Nat} {S S1 : hs_T} (h : CK ow ow' dk ds S S1) {q : Nat} (hq : q ∉ hs_L S) (i : Nat) (v : Option Nat) : CK ow ow' dk ds S (hs_sR S1 q i v) := ⟨h.1, fun y hy hd => by
  obtain ⟨a1, a2, a3⟩ := h.2.1 y hy hd
  exact ⟨a1, a2, by show hs_u (hs_R S1) q i v y = _; rw [hs_u_off _ _ _ (show y ≠ q from fun z => hq (z ▸ hy))]; exact a3⟩, fun y hy hk => by show hs_u (hs_R S1) q i v y = _; rw [hs_u_off _ _ _ (show y ≠ q from fun z => hq (z ▸ hy))]; exact h.2.2 y hy hk⟩
theorem CL_po {g : gl_T} {S S' : hs_T} {ow : Nat → Nat} {a e c kd sl b fi n n' k k' : Nat} {xs xs' : List Nat} (hb : b ∈ hs_L S ∧ (hs_K S b = 9 ∨ hs_K S b = 4 ∨ hs_K S b = 6)) (hR : hs_R S b fi = some a) (h : al_at g S a e c kd xs) (ho : ow a = sl) (hp : c ≠ 0 → ow e = sl) (hE : g.2.2.2.2 1 ∉ hs_L S) (hpo : al_po g S S' a e c kd xs' n n' k k') (hsz : xs.length ≤ xs'.length ∨ c ≠ 0) : ∃ ow' c', CK ow ow' [] [sl] S S' ∧ CL g S' ow' sl b fi kd c' xs' ∧ c ≤ c' ∧ n' + c ≤ n + c' ∧ k' + 4 * c ≤ k + 4 * c' := by
  obtain ⟨e', c', p1, p2, p3, p4, p5, p6, _⟩ := hpo
  obtain ⟨ow', q1, q2, q3⟩ := CK_al (n := n) (n' := n') (k := k) (k' := k') h ho hp hE p2 p1 p3 p4 hsz
  exact ⟨ow', c', q1, ⟨a, e', by rw [q1.2.2 b hb.1 hb.2]; exact hR, p1, q2, q3⟩, p4, p5, p6⟩
theorem CS_xI {S : hs_T} {ow : Nat → Nat} {x l tp nz : Nat} (hB : CB S ow x l tp nz) {td sd : Nat} {fp : Option Nat} {cr : Nat} (h : CS S x l td sd fp cr) (i : Nat) (v : Int32) (h1 : i ≠ 11) (h2 : i ≠ 5) : CS (hs_sI S x i v) x l td sd fp cr := by
  have hxl : l ≠ x := fun z => by have e1 := hB.1.2; have e2 := hB.2.1.2.2; rw [z] at e2; omega
  obtain ⟨c1, c2, c3, c4⟩ := h
  exact ⟨by rw [hs_I_sI, if_neg (fun z => h1 z.2.symm)]; exact c1, by rw [hs_I_sI, if_neg (fun z => hxl z.1)]; exact c2, by rw [hs_I_sI, if_neg (fun z => h2 z.2.symm)]; exact c3, c4⟩
theorem CT_xI {S : hs_T} {ow : Nat → Nat} {x l tp nz : Nat} (hB : CB S ow x l tp nz) {t : List Int32} (h : CT S x tp t) (i : Nat) (v : Int32) (h1 : i ≠ 3) : CT (hs_sI S x i v) x tp t := by
  have hxl : tp ≠ x := fun z => by have e1 := hB.1.2; have e2 := hB.2.2.1.2.2.1; rw [z] at e2; omega
  exact ⟨by rw [hs_I_sI, if_neg (fun z => h1 z.2.symm)]; exact h.1, fun j hj => by rw [hs_I_sI, if_neg (fun z => hxl z.1)]; exact h.2 j hj⟩
theorem CN_xI {S : hs_T} {ow : Nat → Nat} {x l tp nz : Nat} (hB : CB S ow x l tp nz) {t : List Int32} (h : CN S x nz t) (i : Nat) (v : Int32) (h1 : i ≠ 7) : CN (hs_sI S x i v) x nz t := by
  have hxl : nz ≠ x := fun z => by have e1 := hB.1.2; have e2 := hB.2.2.2.2.2.1; rw [z] at e2; omega
  exact ⟨by rw [hs_I_sI, if_neg (fun z => h1 z.2.symm)]; exact h.1, fun j hj => by rw [hs_I_sI, if_neg (fun z => hxl z.1)]; exact h.2 j hj⟩
theorem CK_x {S : hs_T} {ow : Nat → Nat} {x l tp nz : Nat} (hB : CB S ow x l tp nz) (i : Nat) (v : Int32) : CK ow ow [9] [] S (hs_sI S x i v) := by have := CK_sI ow S x i v; rw [hB.1.2] at this; exact this
theorem CK_xJ {S : hs_T} {ow : Nat → Nat} {x l tp nz : Nat} (hB : CB S ow x l tp nz) (i : Nat) (v : Int64) : CK ow ow [9] [] S (hs_sJ S x i v) := by have := CK_sJ ow S x i v; rw [hB.1.2] at this; exact this
theorem RC_td {g : gl_T} {S : hs_T} {ow : Nat → Nat} {x l tp nz : Nat} {s : st_T} {ys : List Nat} {c : Nat → Nat} (h : RC g S ow x l tp nz s ys c) {v : Int32} {t : Nat} (hv : v = nI t) : RC g (hs_sI S x 11 v) ow x l tp nz (w_td s t) ys c := by
  obtain ⟨hB, hCS, hCH, hCG, hCT, hCR, hCN, hCD, hCW⟩ := h
  have hC := CK_x hB 11 v
  have hxl : l ≠ x := fun z => by have e1 := hB.1.2; have e2 := hB.2.1.2.2; rw [z] at e2; omega
  exact ⟨CB_ck hB hC, ⟨by rw [hs_I_sI, if_pos ⟨rfl, rfl⟩]; exact hv, by rw [hs_I_sI, if_neg (fun z => hxl z.1)]; exact hCS.2.1, by rw [hs_I_sI, if_neg (fun z => absurd z.2 (by decide))]; exact hCS.2.2.1, hCS.2.2.2⟩, (CH_ck hB hCH hC (by decide) (by decide) (by decide) (by decide)), (CG_ck hB hCG hC (by decide) (by decide) (by decide) (by decide) (by decide)), (CT_xI hB hCT 11 v (by decide)), (CR_ck hB hCR hC (by decide) (by decide) (by decide) (by decide) (by decide) (by intro j z; simp at z; try omega)), (CN_xI hB hCN 11 v (by decide)), (CD_ck hB hCD hC (by decide) (by decide) (by decide) (by decide)), (CW_ck hB hCW hC (by decide) (by decide) (by decide) (by decide))⟩
theorem RC_fp {g : gl_T} {S : hs_T} {ow : Nat → Nat} {x l tp nz : Nat} {s : st_T} {ys : List Nat} {c : Nat → Nat} (h : RC g S ow x l tp nz s ys c) {v : Int32} {t : Option Nat} (hv : v = eN t) : RC g (hs_sI S x 5 v) ow x l tp nz (w_fp s t) ys c := by
  obtain ⟨hB, hCS, hCH, hCG, hCT, hCR, hCN, hCD, hCW⟩ := h
  have hC := CK_x hB 5 v
  have hxl : l ≠ x := fun z => by have e1 := hB.1.2; have e2 := hB.2.1.2.2; rw [z] at e2; omega
  exact ⟨CB_ck hB hC, ⟨by rw [hs_I_sI, if_neg (fun z => absurd z.2 (by decide))]; exact hCS.1, by rw [hs_I_sI, if_neg (fun z => hxl z.1)]; exact hCS.2.1, by rw [hs_I_sI, if_pos ⟨rfl, rfl⟩]; exact hv, hCS.2.2.2⟩, (CH_ck hB hCH hC (by decide) (by decide) (by decide) (by decide)), (CG_ck hB hCG hC (by decide) (by decide) (by decide) (by decide) (by decide)), (CT_xI hB hCT 5 v (by decide)), (CR_ck hB hCR hC (by decide) (by decide) (by decide) (by decide) (by decide) (by intro j z; simp at z; try omega)), (CN_xI hB hCN 5 v (by decide)), (CD_ck hB hCD hC (by decide) (by decide) (by decide) (by decide)), (CW_ck hB hCW hC (by decide) (by decide) (by decide) (by decide))⟩
theorem RC_cr {g : gl_T} {S : hs_T} {ow : Nat → Nat} {x l tp nz : Nat} {s : st_T} {ys : List Nat} {c : Nat → Nat} (h : RC g S ow x l tp nz s ys c) {v : Int64} {t : Nat} (hv : v = lN t) : RC g (hs_sJ S x 10 v) ow x l tp nz (w_cr s t) ys c := by
  obtain ⟨hB, hCS, hCH, hCG, hCT, hCR, hCN, hCD, hCW⟩ := h
  have hC := CK_xJ hB 10 v
  exact ⟨CB_ck hB hC, ⟨hCS.1, hCS.2.1, hCS.2.2.1, by rw [hs_J_sJ, if_pos ⟨rfl, rfl⟩]; exact hv⟩, (CH_ck hB hCH hC (by decide) (by decide) (by decide) (by decide)), (CG_ck hB hCG hC (by decide) (by decide) (by decide) (by decide) (by decide)), hCT, (CR_ck hB hCR hC (by decide) (by decide) (by decide) (by decide) (by decide) (by intro j z; simp at z; try omega)), hCN, (CD_ck hB hCD hC (by decide) (by decide) (by decide) (by decide)), (CW_ck hB hCW hC (by decide) (by decide) (by decide) (by decide))⟩
theorem RC_ns {g : gl_T} {S : hs_T} {ow : Nat → Nat} {x l tp nz : Nat} {s : st_T} {ys : List Nat} {c : Nat → Nat} (h : RC g S ow x l tp nz s ys c) (y : Int32) {v : Int32} (hv : v = nI ((s_ns s).length + 1)) : RC g (hs_sI (hs_sI S nz (s_ns s).length y) x 7 v) ow x l tp nz (w_ns s (s_ns s ++ [y])) ys c ∧ CK ow ow [9] [7] S (hs_sI (hs_sI S nz (s_ns s).length y) x 7 v) := by
  obtain ⟨hB, hCS, hCH, hCG, hCT, hCR, hCN, hCD, hCW⟩ := h
  have k1 : CK ow ow [9] [7] S (hs_sI S nz (s_ns s).length y) := by
    have := CK_aI ow (S := S) (a := nz) (s_ns s).length y (Or.inr hB.2.2.2.2.2.1)
    rw [hB.2.2.2.2.2.2.2] at this
    exact CK_mono this (by decide) (by decide)
  have hC : CK ow ow [9] [7] S (hs_sI (hs_sI S nz (s_ns s).length y) x 7 v) := CK_tr k1 (CK_mono (CK_x (CB_ck hB k1) 7 v) (by decide) (by decide))
  have hxn : nz ≠ x := fun z => by have e1 := hB.1.2; have e2 := hB.2.2.2.2.2.1; rw [z] at e2; omega
  have hln : l ≠ nz := fun z => by have e1 := hB.2.1.2.2; have e2 := hB.2.2.2.2.2.1; rw [z] at e1; omega
  have htn : tp ≠ nz := fun z => by have e1 := hB.2.2.1.2.2.1; have e2 := hB.2.2.2.2.2.1; rw [z] at e1; omega
  have hB1 := CB_ck hB k1
  have hCS1 : CS (hs_sI S nz (s_ns s).length y) x l (s_td s) (s_sd s) (s_fp s) (s_cr s) := ⟨by rw [hs_I_sI, if_neg (fun z => hxn z.1.symm)]; exact hCS.1, by rw [hs_I_sI, if_neg (fun z => hln z.1)]; exact hCS.2.1, by rw [hs_I_sI, if_neg (fun z => hxn z.1.symm)]; exact hCS.2.2.1, hCS.2.2.2⟩
  have hCT1 : CT (hs_sI S nz (s_ns s).length y) x tp (s_tp s) := ⟨by rw [hs_I_sI, if_neg (fun z => hxn z.1.symm)]; exact hCT.1, fun j hj => by rw [hs_I_sI, if_neg (fun z => htn z.1)]; exact hCT.2 j hj⟩
  have hCN1 : CN (hs_sI (hs_sI S nz (s_ns s).length y) x 7 v) x nz (s_ns s ++ [y]) := by
    refine ⟨by rw [hs_I_sI, if_pos ⟨rfl, rfl⟩, hv]; simp, fun j hj => ?_⟩
    simp at hj
    rw [hs_I_sI, if_neg (fun z => hxn z.1), hs_I_sI, gd_app]
    by_cases q : j = (s_ns s).length
    · rw [if_pos ⟨rfl, q⟩, if_pos q]
    · rw [if_neg (fun z => q z.2), if_neg q]; exact hCN.2 j (by omega)
  exact ⟨⟨CB_ck hB hC, (CS_xI hB1 hCS1 7 v (by decide) (by decide)), (CH_ck hB hCH hC (by decide) (by decide) (by decide) (by decide)), (CG_ck hB hCG hC (by decide) (by decide) (by decide) (by decide) (by decide)), (CT_xI hB1 hCT1 7 v (by decide)), (CR_ck hB hCR hC (by decide) (by decide) (by decide) (by decide) (by decide) (by intro j z; simp at z; try omega)), hCN1, (CD_ck hB hCD hC (by decide) (by decide) (by decide) (by decide)), (CW_ck hB hCW hC (by decide) (by decide) (by decide) (by decide))⟩, hC⟩
theorem RC_ns0 {g : gl_T} {S : hs_T} {ow : Nat → Nat} {x l tp nz : Nat} {s : st_T} {ys : List Nat} {c : Nat → Nat} (h : RC g S ow x l tp nz s ys c) : RC g (hs_sI S x 7 0) ow x l tp nz (w_ns s []) ys c := by
  obtain ⟨hB, hCS, hCH, hCG, hCT, hCR, hCN, hCD, hCW⟩ := h
  have hC := CK_x hB 7 0
  exact ⟨CB_ck hB hC, (CS_xI hB hCS 7 0 (by decide) (by decide)), (CH_ck hB hCH hC (by decide) (by decide) (by decide) (by decide)), (CG_ck hB hCG hC (by decide) (by decide) (by decide) (by decide) (by decide)), (CT_xI hB hCT 7 0 (by decide)), (CR_ck hB hCR hC (by decide) (by decide) (by decide) (by decide) (by decide) (by intro j z; simp at z; try omega)), ⟨by rw [hs_I_sI, if_pos ⟨rfl, rfl⟩]; rfl, fun j hj => absurd hj (Nat.not_lt_zero _)⟩, (CD_ck hB hCD hC (by decide) (by decide) (by decide) (by decide)), (CW_ck hB hCW hC (by decide) (by decide) (by decide) (by decide))⟩
theorem RC_tp0 {g : gl_T} {S : hs_T} {ow : Nat → Nat} {x l tp nz : Nat} {s : st_T} {ys : List Nat} {c : Nat → Nat} (h : RC g S ow x l tp nz s ys c) : RC g (hs_sI S x 3 0) ow x l tp nz (w_tp s []) ys c := by
  obtain ⟨hB, hCS, hCH, hCG, hCT, hCR, hCN, hCD, hCW⟩ := h
  have hC := CK_x hB 3 0
  exact ⟨CB_ck hB hC, (CS_xI hB hCS 3 0 (by decide) (by decide)), (CH_ck hB hCH hC (by decide) (by decide) (by decide) (by decide)), (CG_ck hB hCG hC (by decide) (by decide) (by decide) (by decide) (by decide)), ⟨by rw [hs_I_sI, if_pos ⟨rfl, rfl⟩]; rfl, fun j hj => absurd hj (Nat.not_lt_zero _)⟩, (CR_ck hB hCR hC (by decide) (by decide) (by decide) (by decide) (by decide) (by intro j z; simp at z; try omega)), (CN_xI hB hCN 3 0 (by decide)), (CD_ck hB hCD hC (by decide) (by decide) (by decide) (by decide)), (CW_ck hB hCW hC (by decide) (by decide) (by decide) (by decide))⟩
set_option maxRecDepth 20000 in
set_option maxHeartbeats 4000000 in
theorem c_wait (g : gl_T) {S : hs_T} {n k x l tp nz : Nat} {ow : Nat → Nat} {s : st_T} {ys : List Nat} {c : Nat → Nat} (h : RC g S ow x l tp nz s ys c) (hb : BD s) (hO : OK s) (hn : n + 40000 ≤ ex_NM) (hk : k + 200000 ≤ ex_KM) {y : Int32} : ex_M g 6 mX9_wait [.ref x, .int y] S n k (cp g S ow x l tp nz c n k (exN exA) s (sp_wait s y)) := by
  refine ex_enter (by decide +kernel) (Nat.le_of_ble_eq_true rfl) ?_
  show ex_W _ _ _ _ 0 [(0, .ref x), (1, .int y)] [] _ _ _
  obtain ⟨hB, hCS, hCH, hCG, hCT, hCR, hCN, hCD, hCW⟩ := id h
  obtain ⟨bd1, bd2, bd3, ⟨bd4, bd5⟩, bd6, ⟨bd7, bd8⟩, bd9, bd10, bd11, bd12⟩ := id hb
  refine ex_iload_n dX9_wait_0 1 rfl ?_
  refine ex_if_lt (tgt := 22) dX9_wait_1 (by decide) (fun c1 => ?_) (fun c1 => ?_)
  · exact ex_throw th_X9_80_143_84 dX9_wait_22 dX9_wait_25 dX9_wait_26 dX9_wait_28 dX9_wait_31 (by decide) (Nat.le_of_ble_eq_true rfl) (by omega) (by omega) (cp_x (code := 1) (by unfold sp_wait; rw [if_pos (by first | exact Or.inl c1 | exact Or.inr (Or.inl c8) | exact Or.inr (Or.inr (by have z3 : ¬ j ≤ 100000 - s_td s := fun z => c19 (by rw [hsub, hyj]; exact nI_le z (by omega)); rw [hyj, nI_add]; exact nI_lt (a := 100000) (by omega) (by omega))))]) (by decide) rfl h)
  · refine ex_iload_n dX9_wait_4 1 rfl ?_
    refine ex_sipush (v := 10000) dX9_wait_5 (by decide) ?_
    refine ex_icmp_gt (tgt := 22) dX9_wait_8 (by decide) (fun c8 => ?_) (fun c8 => ?_)
    · exact ex_throw th_X9_80_143_84 dX9_wait_22 dX9_wait_25 dX9_wait_26 dX9_wait_28 dX9_wait_31 (by decide) (Nat.le_of_ble_eq_true rfl) (by omega) (by omega) (cp_x (code := 1) (by unfold sp_wait; rw [if_pos (by first | exact Or.inl c1 | exact Or.inr (Or.inl c8) | exact Or.inr (Or.inr (by have z3 : ¬ j ≤ 100000 - s_td s := fun z => c19 (by rw [hsub, hyj]; exact nI_le z (by omega)); rw [hyj, nI_add]; exact nI_lt (a := 100000) (by omega) (by omega))))]) (by decide) rfl h)
    · have hsub : (100000 : Int32) - hs_I S x 11 = nI (100000 - s_td s) := by rw [hCS.1]; exact pk_sub (a := 100000) bd1
      obtain ⟨j, hj, hyj⟩ := nI_of2 (x := y) (M := 10000) (n := 10000) (by decide) c1 (by rw [i_le]; rw [i_lt] at c8; omega)
      refine ex_iload_n dX9_wait_11 1 rfl ?_
      refine ex_ldc dX9_wait_12 lc_X9_142 ?_
      refine ex_aload_n dX9_wait_14 0 rfl ?_
      refine ex_getI dX9_wait_15 fl_X9_54 hB.1.1 hB.1.2 ?_
      refine ex_isub dX9_wait_18 ?_
      refine ex_icmp_le (tgt := 32) dX9_wait_19 (by decide) (fun c19 => ?_) (fun c19 => ?_)
      · have hok : ¬ (y < 0 ∨ 10000 < y ∨ 100000 < nI (s_td s) + y) := by
          rintro (z | z | z)
          · exact c1 z
          · exact c8 z
          · rw [hsub] at c19
            have z3 := (nI_leI (by omega) (by omega)).mp (hyj ▸ c19)
            rw [hyj, nI_add] at z
            have z2 := (nI_ltI (a := 100000) (b := s_td s + j) (by decide) (by omega)).mp z
            omega
        have hle : s_td s + j ≤ 100000 := by
          rw [hsub] at c19
          have z3 := (nI_leI (by omega) (by omega)).mp (hyj ▸ c19)
          omega
        have hsum : hs_I S x 11 + y = nI (s_td s + j) := by rw [hCS.1, hyj]; exact nI_add _ _
        have hcl : y.toNatClampNeg = j := by rw [hyj]; exact nI_clamp (by omega)
        refine ex_aload_n dX9_wait_32 0 rfl ?_
        refine ex_dup dX9_wait_33 rfl ?_
        refine ex_getI dX9_wait_34 fl_X9_54 hB.1.1 hB.1.2 ?_
        refine ex_iload_n dX9_wait_37 1 rfl ?_
        refine ex_iadd dX9_wait_38 ?_
        refine ex_putI dX9_wait_39 fl_X9_54 (pf_X9_54 _) hB.1.1 hB.1.2 ?_
        refine ex_aload_n dX9_wait_42 0 rfl ?_
        refine ex_getI dX9_wait_43 fl_X9_54 hB.1.1 hB.1.2 ?_
        exact ex_irt rfl dX9_wait_46 (cp_i (s' := w_td s (s_td s + j)) (by unfold sp_wait; rw [if_neg hok, hcl, hs_I_sI, if_pos ⟨rfl, rfl⟩, ← hCS.1]) (RC_td h hsum) (CK_mono (CK_x hB 11 _) (by decide) (by decide)) (rb_eq rfl _ _ _))
      · exact ex_throw th_X9_80_143_84 dX9_wait_22 dX9_wait_25 dX9_wait_26 dX9_wait_28 dX9_wait_31 (by decide) (Nat.le_of_ble_eq_true rfl) (by omega) (by omega) (cp_x (code := 1) (by unfold sp_wait; rw [if_pos (by first | exact Or.inl c1 | exact Or.inr (Or.inl c8) | exact Or.inr (Or.inr (by have z3 : ¬ j ≤ 100000 - s_td s := fun z => c19 (by rw [hsub, hyj]; exact nI_le z (by omega)); rw [hyj, nI_add]; exact nI_lt (a := 100000) (by omega) (by omega))))]) (by decide) rfl h)
set_option maxRecDepth 20000 in
set_option maxHeartbeats 4000000 in
theorem c_noise (g : gl_T) {S : hs_T} {n k x l tp nz : Nat} {ow : Nat → Nat} {s : st_T} {ys : List Nat} {c : Nat → Nat} (h : RC g S ow x l tp nz s ys c) (hb : BD s) (hO : OK s) (hn : n + 40000 ≤ ex_NM) (hk : k + 200000 ≤ ex_KM) {y : Int32} : ex_M g 6 mX9_noise [.ref x, .int y] S n k (cp g S ow x l tp nz c n k (exN exS) s (sp_noise s y)) := by
  refine ex_enter (by decide +kernel) (Nat.le_of_ble_eq_true rfl) ?_
  show ex_W _ _ _ _ 0 [(0, .ref x), (1, .int y)] [] _ _ _
  obtain ⟨hB, hCS, hCH, hCG, hCT, hCR, hCN, hCD, hCW⟩ := id h
  obtain ⟨bd1, bd2, bd3, ⟨bd4, bd5⟩, bd6, ⟨bd7, bd8⟩, bd9, bd10, bd11, bd12⟩ := id hb
  refine ex_aload_n dX9_noise_0 0 rfl ?_
  refine ex_getI dX9_noise_1 fl_X9_41 hB.1.1 hB.1.2 ?_
  refine ex_if_lt (tgt := 19) dX9_noise_4 (by decide) (fun c4 => absurd c4 (by rw [hCN.1]; exact nI_pos (by omega))) (fun c4 => ?_)
  refine ex_aload_n dX9_noise_7 0 rfl ?_
  refine ex_getI dX9_noise_8 fl_X9_41 hB.1.1 hB.1.2 ?_
  refine ex_aload_n dX9_noise_11 0 rfl ?_
  refine ex_getR (b := nz) dX9_noise_12 fl_X9_37 hB.1.1 hB.1.2 hB.2.2.2.1 ?_
  refine ex_alen dX9_noise_15 hB.2.2.2.2.1 (by rw [hB.2.2.2.2.2.1]; decide) ?_
  refine ex_icmp_lt (tgt := 21) dX9_noise_16 (by decide) (fun c16 => ?_) (fun c16 => ?_)
  · have hq : ¬ (s_ns s).length = 20 := fun z => by
      rw [hCN.1, hB.2.2.2.2.2.2.1, z] at c16
      exact absurd c16 (by decide)
    have hxn : x ≠ nz := fun z => by have e1 := hB.1.2; have e2 := hB.2.2.2.2.2.1; rw [← z] at e2; omega
    have hv : hs_I (hs_sI S nz (s_ns s).length y) x 7 + 1 = nI ((s_ns s).length + 1) := by rw [hs_I_sI, if_neg (fun z => hxn z.1), hCN.1]; exact nI_1 _
    refine ex_aload_n dX9_noise_21 0 rfl ?_
    refine ex_getR (b := nz) dX9_noise_22 fl_X9_37 hB.1.1 hB.1.2 hB.2.2.2.1 ?_
    refine ex_aload_n dX9_noise_25 0 rfl ?_
    refine ex_getI dX9_noise_26 fl_X9_41 hB.1.1 hB.1.2 ?_
    refine ex_iload_n dX9_noise_29 1 rfl ?_
    refine ex_iast (j := (s_ns s).length) dX9_noise_30 hB.2.2.2.2.1 hB.2.2.2.2.2.1 hCN.1 (by rw [hB.2.2.2.2.2.2.1]; omega) (by omega) ?_
    refine ex_aload_n dX9_noise_31 0 rfl ?_
    refine ex_dup dX9_noise_32 rfl ?_
    refine ex_getI dX9_noise_33 fl_X9_41 hB.1.1 hB.1.2 ?_
    refine ex_iconst (v := 1) dX9_noise_36 (by decide) ?_
    refine ex_iadd dX9_noise_37 ?_
    refine ex_putI dX9_noise_38 fl_X9_41 (pf_X9_41 _) hB.1.1 hB.1.2 ?_
    refine ex_aload_n dX9_noise_41 0 rfl ?_
    refine ex_getI dX9_noise_42 fl_X9_41 hB.1.1 hB.1.2 ?_
    exact ex_irt rfl dX9_noise_45 (cp_i (by unfold sp_noise; rw [if_neg hq, hs_I_sI, if_pos ⟨rfl, rfl⟩, hv]) (RC_ns h y hv).1 (CK_mono (RC_ns h y hv).2 (by decide) (by decide)) (rb_eq rfl _ _ _))
  · have hq : (s_ns s).length = 20 := by
      have z : ¬ (s_ns s).length < 20 := fun z => c16 (by rw [hCN.1, hB.2.2.2.2.2.2.1]; exact nI_lt z (by decide))
      omega
    refine ex_iconst (v := (-1)) dX9_noise_19 (by decide) ?_
    exact ex_irt rfl dX9_noise_20 (cp_s (by unfold sp_noise; rw [if_pos hq]) h)
set_option maxRecDepth 20000 in
set_option maxHeartbeats 4000000 in
theorem c_paid (g : gl_T) {S : hs_T} {n k x l tp nz : Nat} {ow : Nat → Nat} {s : st_T} {ys : List Nat} {c : Nat → Nat} (h : RC g S ow x l tp nz s ys c) (hb : BD s) (hO : OK s) (hn : n + 40000 ≤ ex_NM) (hk : k + 200000 ≤ ex_KM) {y : Int32} : ex_M g 7 mX9_paid [.ref x, .int y] S n k (cp g S ow x l tp nz c n k (exN exI) s (sp_paid s y)) := by
  refine ex_enter (by decide +kernel) (Nat.le_of_ble_eq_true rfl) ?_
  show ex_W _ _ _ _ 0 [(0, .ref x), (1, .int y)] [] _ _ _
  obtain ⟨hB, hCS, hCH, hCG, hCT, hCR, hCN, hCD, hCW⟩ := id h
  obtain ⟨bd1, bd2, bd3, ⟨bd4, bd5⟩, bd6, ⟨bd7, bd8⟩, bd9, bd10, bd11, bd12⟩ := id hb
  obtain ⟨as, ⟨a0, e0, r0, l0, o0, p0⟩, nd0, len0, f0⟩ := id hCH
  by_cases hq : hd_ok s y
  · obtain ⟨j, hj, hyj⟩ := hd_of hq bd3
    have hcl : y.toNatClampNeg = j := by rw [hyj]; exact nI_clamp (by omega)
    have hj0 : j < as.length := by omega
    have mj := al_mem l0 hj0
    refine ex_aload_n dX9_paid_0 0 rfl ?_
    refine ex_iload_n dX9_paid_1 1 rfl ?_
    refine ex_cVv [.int y] [] dX9_paid_2 cV_X9_75 (c_chkH1 g h hb (by omega) (by omega) hq) hB.1.1 hB.1.2 rfl rfl rfl (by decide) (Nat.le_of_ble_eq_true rfl) rfl ?_
    refine ex_aload_n dX9_paid_5 0 rfl ?_
    refine ex_getR (b := a0) dX9_paid_6 fl_X9_10 hB.1.1 hB.1.2 r0 ?_
    refine ex_iload_n dX9_paid_9 1 rfl ?_
    refine ex_cVr [.int y] [] dX9_paid_10 cV_X9_103 (c_getj g l0 hyj hj0) l0.1.1 l0.1.2.1 rfl rfl rfl (by decide) (Nat.le_of_ble_eq_true rfl) rfl ?_
    refine ex_cast dX9_paid_13 mj.1 mj.2 rfl kl_X9_68 ?_
    refine ex_getJ dX9_paid_16 fl_X9_246 mj.1 mj.2 ?_
    exact ex_lrt rfl dX9_paid_19 (cp_s (by unfold sp_paid; rw [if_pos hq, hcl, (f0 j hj).2]; rfl) h)
  · refine ex_aload_n dX9_paid_0 0 rfl ?_
    refine ex_iload_n dX9_paid_1 1 rfl ?_
    exact ex_cVg [.int y] [] dX9_paid_2 cV_X9_75 (c_chkH0 g h hb (by omega) (by omega) hq) hB.1.1 hB.1.2 rfl rfl rfl (by decide) (Nat.le_of_ble_eq_true rfl) rfl (fun v S9 n9 k9 h9 => by obtain ⟨h9, -⟩ := h9; cases h9) (fun E S9 n9 k9 h9 => by obtain ⟨h91, h92, h93, h94⟩ := h9; cases h91; subst h92 h93 h94; exact (cp_x (code := 1) (by unfold sp_paid; rw [if_neg hq]) (by decide) rfl h))
set_option maxRecDepth 20000 in
set_option maxHeartbeats 4000000 in
theorem c_line (g : gl_T) {S : hs_T} {n k x l tp nz : Nat} {ow : Nat → Nat} {s : st_T} {ys : List Nat} {c : Nat → Nat} (h : RC g S ow x l tp nz s ys c) (hb : BD s) (hO : OK s) (hn : n + 40000 ≤ ex_NM) (hk : k + 200000 ≤ ex_KM) {y z : Int32} : ex_M g 6 mX9_line [.ref x, .int y, .int z] S n k (cp g S ow x l tp nz c n k (exJ exI exA) s (sp_line s y z)) := by
  refine ex_enter (by decide +kernel) (Nat.le_of_ble_eq_true rfl) ?_
  show ex_W _ _ _ _ 0 [(0, .ref x), (1, .int y), (2, .int z)] [] _ _ _
  obtain ⟨hB, hCS, hCH, hCG, hCT, hCR, hCN, hCD, hCW⟩ := id h
  obtain ⟨bd1, bd2, bd3, ⟨bd4, bd5⟩, bd6, ⟨bd7, bd8⟩, bd9, bd10, bd11, bd12⟩ := id hb
  obtain ⟨la, ⟨a4, e4, r4, l4, o4, p4⟩, ⟨a5, e5, r5, l5, o5, p5⟩, nd4, len4, f4, hG⟩ := id hCG
  by_cases hq : ix_ok y (s_ls s).length
  · obtain ⟨j, hj, hyj⟩ := ix_of hq (by omega)
    have hcl : y.toNatClampNeg = j := by rw [hyj]; exact nI_clamp (by omega)
    have hj0 : j < la.length := by omega
    have mj := al_mem l4 hj0
    obtain ⟨g0, g1, g2, g3, g4⟩ := f4 j hj
    refine ex_iload_n dX9_line_0 1 rfl ?_
    refine ex_if_lt (tgt := 18) dX9_line_1 (by decide) (fun c1 => absurd c1 (by have := hq.1; simp only [i_le, i_lt, Int32.reduceToInt] at *; omega)) (fun c1 => ?_)
    refine ex_iload_n dX9_line_4 1 rfl ?_
    refine ex_aload_n dX9_line_5 0 rfl ?_
    refine ex_getR (b := l) dX9_line_6 fl_X9_19 hB.1.1 hB.1.2 hB.2.1.1 ?_
    refine ex_getR (b := a4) dX9_line_9 fl_X9_127 hB.2.1.2.1 hB.2.1.2.2 r4 ?_
    refine ex_cVr [] [.int y] dX9_line_12 cV_X9_57 (c_szn g l4 len4) l4.1.1 l4.1.2.1 rfl rfl rfl (by decide) (Nat.le_of_ble_eq_true rfl) rfl ?_
    refine ex_icmp_lt (tgt := 28) dX9_line_15 (by decide) (fun c15 => ?_) (fun c15 => absurd hq.2 c15)
    refine ex_iload_n dX9_line_28 2 rfl ?_
    refine ex_if_lt (tgt := 37) dX9_line_29 (by decide) (fun c29 => ?_) (fun c29 => ?_)
    · exact ex_throw th_X9_80_135_84 dX9_line_37 dX9_line_40 dX9_line_41 dX9_line_43 dX9_line_46 (by decide) (Nat.le_of_ble_eq_true rfl) (by omega) (by omega) (cp_x (code := 2) (by unfold sp_line; rw [if_pos hq, if_neg (fun z => by simp only [i_le, i_lt, Int32.reduceToInt] at *; omega)]) (by decide) rfl h)
    · refine ex_iload_n dX9_line_32 2 rfl ?_
      refine ex_iconst (v := 5) dX9_line_33 (by decide) ?_
      refine ex_icmp_lt (tgt := 47) dX9_line_34 (by decide) (fun c34 => ?_) (fun c34 => ?_)
      · refine ex_aload_n dX9_line_47 0 rfl ?_
        refine ex_getR (b := l) dX9_line_48 fl_X9_19 hB.1.1 hB.1.2 hB.2.1.1 ?_
        refine ex_getR (b := a4) dX9_line_51 fl_X9_127 hB.2.1.2.1 hB.2.1.2.2 r4 ?_
        refine ex_iload_n dX9_line_54 1 rfl ?_
        refine ex_cVr [.int y] [] dX9_line_55 cV_X9_103 (c_getj g l4 hyj hj0) l4.1.1 l4.1.2.1 rfl rfl rfl (by decide) (Nat.le_of_ble_eq_true rfl) rfl ?_
        refine ex_cast dX9_line_58 mj.1 mj.2 rfl kl_X9_137 ?_
        refine ex_iload_n dX9_line_61 2 rfl ?_
        refine ex_cVr [.int z] [] dX9_line_62 cV_X9_139 (c_Line_fact g mj.1 mj.2) mj.1 mj.2 rfl rfl rfl (by decide) (Nat.le_of_ble_eq_true rfl) rfl ?_
        exact ex_irt rfl dX9_line_65 (cp_s (by unfold sp_line; rw [if_pos hq, if_pos (by constructor <;> simp only [i_le, i_lt, Int32.reduceToInt] at * <;> omega), hcl, g0, g1, g2, g3, g4]) h)
      · exact ex_throw th_X9_80_135_84 dX9_line_37 dX9_line_40 dX9_line_41 dX9_line_43 dX9_line_46 (by decide) (Nat.le_of_ble_eq_true rfl) (by omega) (by omega) (cp_x (code := 2) (by unfold sp_line; rw [if_pos hq, if_neg (fun z => by simp only [i_le, i_lt, Int32.reduceToInt] at *; omega)]) (by decide) rfl h)
  · refine ex_iload_n dX9_line_0 1 rfl ?_
    refine ex_if_lt (tgt := 18) dX9_line_1 (by decide) (fun c1 => ?_) (fun c1 => ?_)
    · exact ex_throw th_X9_130_132_134 dX9_line_18 dX9_line_21 dX9_line_22 dX9_line_24 dX9_line_27 (by decide) (Nat.le_of_ble_eq_true rfl) (by omega) (by omega) (cp_x (code := 1) (by unfold sp_line; rw [if_neg hq]) (by decide) rfl h)
    · refine ex_iload_n dX9_line_4 1 rfl ?_
      refine ex_aload_n dX9_line_5 0 rfl ?_
      refine ex_getR (b := l) dX9_line_6 fl_X9_19 hB.1.1 hB.1.2 hB.2.1.1 ?_
      refine ex_getR (b := a4) dX9_line_9 fl_X9_127 hB.2.1.2.1 hB.2.1.2.2 r4 ?_
      refine ex_cVr [] [.int y] dX9_line_12 cV_X9_57 (c_szn g l4 len4) l4.1.1 l4.1.2.1 rfl rfl rfl (by decide) (Nat.le_of_ble_eq_true rfl) rfl ?_
      refine ex_icmp_lt (tgt := 28) dX9_line_15 (by decide) (fun c15 => absurd c15 (fun z => hq ⟨by simp only [i_le, i_lt, Int32.reduceToInt] at *; omega, z⟩)) (fun c15 => ?_)
      exact ex_throw th_X9_130_132_134 dX9_line_18 dX9_line_21 dX9_line_22 dX9_line_24 dX9_line_27 (by decide) (Nat.le_of_ble_eq_true rfl) (by omega) (by omega) (cp_x (code := 1) (by unfold sp_line; rw [if_neg hq]) (by decide) rfl h)
set_option maxRecDepth 20000 in
set_option maxHeartbeats 4000000 in
theorem c_drawn (g : gl_T) {S : hs_T} {n k x l tp nz : Nat} {ow : Nat → Nat} {s : st_T} {ys : List Nat} {c : Nat → Nat} (h : RC g S ow x l tp nz s ys c) (hb : BD s) (hO : OK s) (hn : n + 40000 ≤ ex_NM) (hk : k + 200000 ≤ ex_KM) {y z : Int32} : ex_M g 6 mX9_drawn [.ref x, .int y, .int z] S n k (cp g S ow x l tp nz c n k (exJ exI exA) s (sp_drawn s y z)) := by
  refine ex_enter (by decide +kernel) (Nat.le_of_ble_eq_true rfl) ?_
  show ex_W _ _ _ _ 0 [(0, .ref x), (1, .int y), (2, .int z)] [] _ _ _
  obtain ⟨hB, hCS, hCH, hCG, hCT, hCR, hCN, hCD, hCW⟩ := id h
  obtain ⟨bd1, bd2, bd3, ⟨bd4, bd5⟩, bd6, ⟨bd7, bd8⟩, bd9, bd10, bd11, bd12⟩ := id hb
  obtain ⟨da, ⟨a2, e2, r2, l2, o2, p2⟩, len2, f2⟩ := id hCD
  by_cases hq : ix_ok y (s_ds s).length
  · obtain ⟨j, hj, hyj⟩ := ix_of hq (by omega)
    have hcl : y.toNatClampNeg = j := by rw [hyj]; exact nI_clamp (by omega)
    have hj0 : j < da.length := by omega
    have mj := al_mem l2 hj0
    obtain ⟨g0, g1, g2, g3, g4, g5, g6, g7, g8⟩ := f2 j hj
    refine ex_iload_n dX9_drawn_0 1 rfl ?_
    refine ex_if_lt (tgt := 15) dX9_drawn_1 (by decide) (fun c1 => absurd c1 (by have := hq.1; simp only [i_le, i_lt, Int32.reduceToInt] at *; omega)) (fun c1 => ?_)
    refine ex_iload_n dX9_drawn_4 1 rfl ?_
    refine ex_aload_n dX9_drawn_5 0 rfl ?_
    refine ex_getR (b := a2) dX9_drawn_6 fl_X9_44 hB.1.1 hB.1.2 r2 ?_
    refine ex_cVr [] [.int y] dX9_drawn_9 cV_X9_57 (c_szn g l2 len2) l2.1.1 l2.1.2.1 rfl rfl rfl (by decide) (Nat.le_of_ble_eq_true rfl) rfl ?_
    refine ex_icmp_lt (tgt := 25) dX9_drawn_12 (by decide) (fun c12 => ?_) (fun c12 => absurd hq.2 c12)
    refine ex_iload_n dX9_drawn_25 2 rfl ?_
    refine ex_if_lt (tgt := 35) dX9_drawn_26 (by decide) (fun c26 => ?_) (fun c26 => ?_)
    · exact ex_throw th_X9_80_225_84 dX9_drawn_35 dX9_drawn_38 dX9_drawn_39 dX9_drawn_41 dX9_drawn_44 (by decide) (Nat.le_of_ble_eq_true rfl) (by omega) (by omega) (cp_x (code := 2) (by unfold sp_drawn; rw [if_pos hq, if_neg (fun z => by simp only [i_le, i_lt, Int32.reduceToInt] at *; omega)]) (by decide) rfl h)
    · refine ex_iload_n dX9_drawn_29 2 rfl ?_
      refine ex_bipush (v := 9) dX9_drawn_30 (by decide) ?_
      refine ex_icmp_lt (tgt := 45) dX9_drawn_32 (by decide) (fun c32 => ?_) (fun c32 => ?_)
      · have hz8 : 0 ≤ z ∧ z ≤ 8 := by constructor <;> simp only [i_le, i_lt, Int32.reduceToInt] at * <;> omega
        have hval : (if z = 0 then (hs_I S (da.getD j 0) 0).toInt64 else if z = 1 then (hs_I S (da.getD j 0) 1).toInt64 else if z = 2 then (hs_I S (da.getD j 0) 2).toInt64 else if z = 3 then hs_J S (da.getD j 0) 3 else if z = 4 then hs_J S (da.getD j 0) 4 else if z = 5 then hs_J S (da.getD j 0) 5 else if z = 6 then (hs_I S (da.getD j 0) 6).toInt64 else if z = 7 then (if hs_I S (da.getD j 0) 6 = 0 then -1 else (hs_I S (da.getD j 0) 7).toInt64) else hs_J S (da.getD j 0) 8) = (s_ds s).getD j (fun _ => 0) z.toNatClampNeg := by
          obtain ⟨t, ht, hzt⟩ := nI_of2 (x := z) (M := 8) (n := 8) (by decide) (by simp only [i_le, i_lt, Int32.reduceToInt] at *; omega) hz8.2
          have hct : z.toNatClampNeg = t := by rw [hzt]; exact nI_clamp (by omega)
          rw [hct]
          rcases (show t = 0 ∨ t = 1 ∨ t = 2 ∨ t = 3 ∨ t = 4 ∨ t = 5 ∨ t = 6 ∨ t = 7 ∨ t = 8 by omega) with e | e | e | e | e | e | e | e | e <;> subst e <;> subst hzt
          · exact g0
          · exact g1
          · exact g2
          · exact g3
          · exact g4
          · exact g5
          · exact g6
          · exact g7
          · exact g8
        refine ex_aload_n dX9_drawn_45 0 rfl ?_
        refine ex_getR (b := a2) dX9_drawn_46 fl_X9_44 hB.1.1 hB.1.2 r2 ?_
        refine ex_iload_n dX9_drawn_49 1 rfl ?_
        refine ex_cVr [.int y] [] dX9_drawn_50 cV_X9_103 (c_getj g l2 hyj hj0) l2.1.1 l2.1.2.1 rfl rfl rfl (by decide) (Nat.le_of_ble_eq_true rfl) rfl ?_
        refine ex_cast dX9_drawn_53 mj.1 mj.2 rfl kl_X9_184 ?_
        refine ex_iload_n dX9_drawn_56 2 rfl ?_
        refine ex_cVr [.int z] [] dX9_drawn_57 cV_X9_227 (c_Draw_fact g mj.1 mj.2) mj.1 mj.2 rfl rfl rfl (by decide) (Nat.le_of_ble_eq_true rfl) rfl ?_
        exact ex_lrt rfl dX9_drawn_60 (cp_s (by unfold sp_drawn; rw [if_pos hq, if_pos hz8, hcl, hval]) h)
      · exact ex_throw th_X9_80_225_84 dX9_drawn_35 dX9_drawn_38 dX9_drawn_39 dX9_drawn_41 dX9_drawn_44 (by decide) (Nat.le_of_ble_eq_true rfl) (by omega) (by omega) (cp_x (code := 2) (by unfold sp_drawn; rw [if_pos hq, if_neg (fun z => by simp only [i_le, i_lt, Int32.reduceToInt] at *; omega)]) (by decide) rfl h)
  · refine ex_iload_n dX9_drawn_0 1 rfl ?_
    refine ex_if_lt (tgt := 15) dX9_drawn_1 (by decide) (fun c1 => ?_) (fun c1 => ?_)
    · exact ex_throw th_X9_130_223_134 dX9_drawn_15 dX9_drawn_18 dX9_drawn_19 dX9_drawn_21 dX9_drawn_24 (by decide) (Nat.le_of_ble_eq_true rfl) (by omega) (by omega) (cp_x (code := 1) (by unfold sp_drawn; rw [if_neg hq]) (by decide) rfl h)
    · refine ex_iload_n dX9_drawn_4 1 rfl ?_
      refine ex_aload_n dX9_drawn_5 0 rfl ?_
      refine ex_getR (b := a2) dX9_drawn_6 fl_X9_44 hB.1.1 hB.1.2 r2 ?_
      refine ex_cVr [] [.int y] dX9_drawn_9 cV_X9_57 (c_szn g l2 len2) l2.1.1 l2.1.2.1 rfl rfl rfl (by decide) (Nat.le_of_ble_eq_true rfl) rfl ?_
      refine ex_icmp_lt (tgt := 25) dX9_drawn_12 (by decide) (fun c12 => absurd c12 (fun z => hq ⟨by simp only [i_le, i_lt, Int32.reduceToInt] at *; omega, z⟩)) (fun c12 => ?_)
      exact ex_throw th_X9_130_223_134 dX9_drawn_15 dX9_drawn_18 dX9_drawn_19 dX9_drawn_21 dX9_drawn_24 (by decide) (Nat.le_of_ble_eq_true rfl) (by omega) (by omega) (cp_x (code := 1) (by unfold sp_drawn; rw [if_neg hq]) (by decide) rfl h)
set_option maxRecDepth 20000 in
set_option maxHeartbeats 4000000 in
theorem c_win (g : gl_T) {S : hs_T} {n k x l tp nz : Nat} {ow : Nat → Nat} {s : st_T} {ys : List Nat} {c : Nat → Nat} (h : RC g S ow x l tp nz s ys c) (hb : BD s) (hO : OK s) (hn : n + 40000 ≤ ex_NM) (hk : k + 200000 ≤ ex_KM) {y z : Int32} : ex_M g 7 mX9_win [.ref x, .int y, .int z] S n k (cp g S ow x l tp nz c n k (exJ exI exA) s (sp_win s y z)) := by
  refine ex_enter (by decide +kernel) (Nat.le_of_ble_eq_true rfl) ?_
  show ex_W _ _ _ _ 0 [(0, .ref x), (1, .int y), (2, .int z)] [] _ _ _
  obtain ⟨hB, hCS, hCH, hCG, hCT, hCR, hCN, hCD, hCW⟩ := id h
  obtain ⟨bd1, bd2, bd3, ⟨bd4, bd5⟩, bd6, ⟨bd7, bd8⟩, bd9, bd10, bd11, bd12⟩ := id hb
  obtain ⟨wa, ⟨a3, e3, r3, l3, o3, p3⟩, nd3, len3, f3⟩ := id hCW
  by_cases hq : ix_ok y (s_ws s).length
  · obtain ⟨j, hj, hyj⟩ := ix_of hq (by omega)
    have hcl : y.toNatClampNeg = j := by rw [hyj]; exact nI_clamp (by omega)
    have hj0 : j < wa.length := by omega
    have mj := al_mem l3 hj0
    obtain ⟨g0, g1, g2, g3, g4, g5⟩ := f3 j hj
    refine ex_aload_n dX9_win_0 0 rfl ?_
    refine ex_iload_n dX9_win_1 1 rfl ?_
    refine ex_cVv [.int y] [] dX9_win_2 cV_X9_230 (c_chkW1 g h hb (by omega) (by omega) hq) hB.1.1 hB.1.2 rfl rfl rfl (by decide) (Nat.le_of_ble_eq_true rfl) rfl ?_
    refine ex_iload_n dX9_win_5 2 rfl ?_
    refine ex_if_lt (tgt := 14) dX9_win_6 (by decide) (fun c6 => ?_) (fun c6 => ?_)
    · exact ex_throw th_X9_80_233_84 dX9_win_14 dX9_win_17 dX9_win_18 dX9_win_20 dX9_win_23 (by decide) (Nat.le_of_ble_eq_true rfl) (by omega) (by omega) (cp_x (code := 2) (by unfold sp_win; rw [if_pos hq, if_neg (fun z => by simp only [i_le, i_lt, Int32.reduceToInt] at *; omega)]) (by decide) rfl h)
    · refine ex_iload_n dX9_win_9 2 rfl ?_
      refine ex_iconst (v := 5) dX9_win_10 (by decide) ?_
      refine ex_icmp_lt (tgt := 24) dX9_win_11 (by decide) (fun c11 => ?_) (fun c11 => ?_)
      · refine ex_aload_n dX9_win_24 0 rfl ?_
        refine ex_getR (b := a3) dX9_win_25 fl_X9_47 hB.1.1 hB.1.2 r3 ?_
        refine ex_iload_n dX9_win_28 1 rfl ?_
        refine ex_cVr [.int y] [] dX9_win_29 cV_X9_103 (c_getj g l3 hyj hj0) l3.1.1 l3.1.2.1 rfl rfl rfl (by decide) (Nat.le_of_ble_eq_true rfl) rfl ?_
        refine ex_cast dX9_win_32 mj.1 mj.2 rfl kl_X9_111 ?_
        refine ex_iload_n dX9_win_35 2 rfl ?_
        refine ex_cVr [.int z] [] dX9_win_36 cV_X9_235 (c_Win_fact g mj.1 mj.2) mj.1 mj.2 rfl rfl rfl (by decide) (Nat.le_of_ble_eq_true rfl) rfl ?_
        exact ex_irt rfl dX9_win_39 (cp_s (by unfold sp_win; rw [if_pos hq, if_pos (by constructor <;> simp only [i_le, i_lt, Int32.reduceToInt] at * <;> omega), hcl, g0, g2, g3, g4, g5]) h)
      · exact ex_throw th_X9_80_233_84 dX9_win_14 dX9_win_17 dX9_win_18 dX9_win_20 dX9_win_23 (by decide) (Nat.le_of_ble_eq_true rfl) (by omega) (by omega) (cp_x (code := 2) (by unfold sp_win; rw [if_pos hq, if_neg (fun z => by simp only [i_le, i_lt, Int32.reduceToInt] at *; omega)]) (by decide) rfl h)
  · refine ex_aload_n dX9_win_0 0 rfl ?_
    refine ex_iload_n dX9_win_1 1 rfl ?_
    exact ex_cVg [.int y] [] dX9_win_2 cV_X9_230 (c_chkW0 g h hb (by omega) (by omega) hq) hB.1.1 hB.1.2 rfl rfl rfl (by decide) (Nat.le_of_ble_eq_true rfl) rfl (fun v S9 n9 k9 h9 => by obtain ⟨h9, -⟩ := h9; cases h9) (fun E S9 n9 k9 h9 => by obtain ⟨h91, h92, h93, h94⟩ := h9; cases h91; subst h92 h93 h94; exact (cp_x (code := 1) (by unfold sp_win; rw [if_neg hq]) (by decide) rfl h))
