set_option maxRecDepth 20000 in
theorem c_Holder_init (g : gl_T) {S : hs_T} {n k a : Nat} (hL : a ∈ hs_L S) (hK : hs_K S a = 3)  : ex_M g 1 mX2_init [.ref a] S n k (ex_rt none (hs_sJ (hs_sI S a 0 0) a 1 0) n k) := by
  refine ex_enter (by decide +kernel) (Nat.le_of_ble_eq_true rfl) ?_
  show ex_W _ _ _ _ 0 [(0, .ref a)] [] _ _ _
  refine ex_aload_n dX2_init_0 0 rfl ?_
  refine ex_objInit dX2_init_1 oi_X2_1 (by decide) (Nat.le_of_ble_eq_true rfl) ?_
  refine ex_aload_n dX2_init_4 0 rfl ?_
  refine ex_iconst (v := 0) dX2_init_5 (by decide) ?_
  refine ex_putZ dX2_init_6 fl_X2_7 (pf_X2_7 _) hL hK (by decide) ?_
  refine ex_aload_n dX2_init_9 0 rfl ?_
  refine ex_lconst (v := 0) dX2_init_10 (by decide) ?_
  refine ex_putJ dX2_init_11 fl_X2_13 (pf_X2_13 _) hL hK ?_
  exact ex_vrt rfl dX2_init_14 ex_rt_i
set_option maxRecDepth 20000 in
theorem c_Line_init (g : gl_T) {S : hs_T} {n k a : Nat} (hL : a ∈ hs_L S) (hK : hs_K S a = 5) {y1 : Int32} {y2 : Int32} {y3 : Int32} {y4 : Int32} : ex_M g 1 mX5_init [.ref a, .int y1, .int y2, .int y3, .int y4] S n k (ex_rt none (hs_sI (hs_sI (hs_sI (hs_sI (hs_sI S a 4 (-1)) a 0 y1) a 1 y2) a 2 y3) a 3 y4) n k) := by
  refine ex_enter (by decide +kernel) (Nat.le_of_ble_eq_true rfl) ?_
  show ex_W _ _ _ _ 0 [(0, .ref a), (1, .int y1), (2, .int y2), (3, .int y3), (4, .int y4)] [] _ _ _
  refine ex_aload_n dX5_init_0 0 rfl ?_
  refine ex_objInit dX5_init_1 oi_X5_3 (by decide) (Nat.le_of_ble_eq_true rfl) ?_
  refine ex_aload_n dX5_init_4 0 rfl ?_
  refine ex_iconst (v := (-1)) dX5_init_5 (by decide) ?_
  refine ex_putI dX5_init_6 fl_X5_9 (pf_X5_9 _) hL hK ?_
  refine ex_aload_n dX5_init_9 0 rfl ?_
  refine ex_iload_n dX5_init_10 1 rfl ?_
  refine ex_putI dX5_init_11 fl_X5_15 (pf_X5_15 rfl rfl) hL hK ?_
  refine ex_aload_n dX5_init_14 0 rfl ?_
  refine ex_iload_n dX5_init_15 2 rfl ?_
  refine ex_putI dX5_init_16 fl_X5_18 (pf_X5_18 rfl rfl) hL hK ?_
  refine ex_aload_n dX5_init_19 0 rfl ?_
  refine ex_iload_n dX5_init_20 3 rfl ?_
  refine ex_putI dX5_init_21 fl_X5_21 (pf_X5_21 rfl rfl) hL hK ?_
  refine ex_aload_n dX5_init_24 0 rfl ?_
  refine ex_iload dX5_init_25 4 rfl ?_
  refine ex_putI dX5_init_27 fl_X5_24 (pf_X5_24 rfl rfl) hL hK ?_
  exact ex_vrt rfl dX5_init_30 ex_rt_i
set_option maxRecDepth 20000 in
theorem c_Win_init (g : gl_T) {S : hs_T} {n k a : Nat} (hL : a ∈ hs_L S) (hK : hs_K S a = 8) {y1 : Int32} {y2 : Int32} {y3 : Int32} {y4 : Int32} {y5 : Int32} : ex_M g 1 mX8_init [.ref a, .int y1, .int y2, .int y3, .int y4, .int y5] S n k (ex_rt none (hs_sI (hs_sI (hs_sI (hs_sI (hs_sI (hs_sI S a 5 0) a 0 y1) a 1 y2) a 2 y3) a 3 y4) a 4 y5) n k) := by
  refine ex_enter (by decide +kernel) (Nat.le_of_ble_eq_true rfl) ?_
  show ex_W _ _ _ _ 0 [(0, .ref a), (1, .int y1), (2, .int y2), (3, .int y3), (4, .int y4), (5, .int y5)] [] _ _ _
  refine ex_aload_n dX8_init_0 0 rfl ?_
  refine ex_objInit dX8_init_1 oi_X8_3 (by decide) (Nat.le_of_ble_eq_true rfl) ?_
  refine ex_aload_n dX8_init_4 0 rfl ?_
  refine ex_iconst (v := 0) dX8_init_5 (by decide) ?_
  refine ex_putI dX8_init_6 fl_X8_9 (pf_X8_9 _) hL hK ?_
  refine ex_aload_n dX8_init_9 0 rfl ?_
  refine ex_iload_n dX8_init_10 1 rfl ?_
  refine ex_putI dX8_init_11 fl_X8_15 (pf_X8_15 rfl rfl) hL hK ?_
  refine ex_aload_n dX8_init_14 0 rfl ?_
  refine ex_iload_n dX8_init_15 2 rfl ?_
  refine ex_putI dX8_init_16 fl_X8_18 (pf_X8_18 rfl rfl) hL hK ?_
  refine ex_aload_n dX8_init_19 0 rfl ?_
  refine ex_iload_n dX8_init_20 3 rfl ?_
  refine ex_putI dX8_init_21 fl_X8_21 (pf_X8_21 rfl rfl) hL hK ?_
  refine ex_aload_n dX8_init_24 0 rfl ?_
  refine ex_iload dX8_init_25 4 rfl ?_
  refine ex_putI dX8_init_27 fl_X8_24 (pf_X8_24 _) hL hK ?_
  refine ex_aload_n dX8_init_30 0 rfl ?_
  refine ex_iload dX8_init_31 5 rfl ?_
  refine ex_putI dX8_init_33 fl_X8_27 (pf_X8_27 rfl rfl) hL hK ?_
  exact ex_vrt rfl dX8_init_36 ex_rt_i
set_option maxRecDepth 20000 in
theorem c_Draw_init (g : gl_T) {S : hs_T} {n k a : Nat} (hL : a ∈ hs_L S) (hK : hs_K S a = 2) {y1 : Int32} {y2 : Int32} {y3 : Int32} : ex_M g 1 mX1_init [.ref a, .int y1, .int y2, .int y3] S n k (ex_rt none (hs_sI (hs_sI (hs_sI (hs_sJ (hs_sI (hs_sI (hs_sJ (hs_sJ (hs_sJ S a 3 0) a 4 1) a 5 0) a 6 0) a 7 (-1)) a 8 0) a 0 y1) a 1 y2) a 2 y3) n k) := by
  refine ex_enter (by decide +kernel) (Nat.le_of_ble_eq_true rfl) ?_
  show ex_W _ _ _ _ 0 [(0, .ref a), (1, .int y1), (2, .int y2), (3, .int y3)] [] _ _ _
  refine ex_aload_n dX1_init_0 0 rfl ?_
  refine ex_objInit dX1_init_1 oi_X1_3 (by decide) (Nat.le_of_ble_eq_true rfl) ?_
  refine ex_aload_n dX1_init_4 0 rfl ?_
  refine ex_lconst (v := 0) dX1_init_5 (by decide) ?_
  refine ex_putJ dX1_init_6 fl_X1_9 (pf_X1_9 _) hL hK ?_
  refine ex_aload_n dX1_init_9 0 rfl ?_
  refine ex_lconst (v := 1) dX1_init_10 (by decide) ?_
  refine ex_putJ dX1_init_11 fl_X1_15 (pf_X1_15 _) hL hK ?_
  refine ex_aload_n dX1_init_14 0 rfl ?_
  refine ex_lconst (v := 0) dX1_init_15 (by decide) ?_
  refine ex_putJ dX1_init_16 fl_X1_18 (pf_X1_18 _) hL hK ?_
  refine ex_aload_n dX1_init_19 0 rfl ?_
  refine ex_iconst (v := 0) dX1_init_20 (by decide) ?_
  refine ex_putI dX1_init_21 fl_X1_21 (pf_X1_21 _) hL hK ?_
  refine ex_aload_n dX1_init_24 0 rfl ?_
  refine ex_iconst (v := (-1)) dX1_init_25 (by decide) ?_
  refine ex_putI dX1_init_26 fl_X1_25 (pf_X1_25 _) hL hK ?_
  refine ex_aload_n dX1_init_29 0 rfl ?_
  refine ex_lconst (v := 0) dX1_init_30 (by decide) ?_
  refine ex_putJ dX1_init_31 fl_X1_28 (pf_X1_28 _) hL hK ?_
  refine ex_aload_n dX1_init_34 0 rfl ?_
  refine ex_iload_n dX1_init_35 1 rfl ?_
  refine ex_putI dX1_init_36 fl_X1_31 (pf_X1_31 rfl rfl) hL hK ?_
  refine ex_aload_n dX1_init_39 0 rfl ?_
  refine ex_iload_n dX1_init_40 2 rfl ?_
  refine ex_putI dX1_init_41 fl_X1_34 (pf_X1_34 rfl rfl) hL hK ?_
  refine ex_aload_n dX1_init_44 0 rfl ?_
  refine ex_iload_n dX1_init_45 3 rfl ?_
  refine ex_putI dX1_init_46 fl_X1_37 (pf_X1_37 rfl rfl) hL hK ?_
  exact ex_vrt rfl dX1_init_49 ex_rt_i
def cv (g : gl_T) (S : hs_T) (ow : Nat → Nat) (x l tp nz : Nat) (c : Nat → Nat) (n k : Nat) (s : st_T) (v : Value) (s' : st_T) : ex_R := fun r S' n' k' => r = .inl (some v) ∧ ∃ ow' c' ys', RC g S' ow' x l tp nz s' ys' c' ∧ CK ow ow' cDk cDs S S' ∧ rb s s' c c' n n' k k'
theorem cv_cp {g : gl_T} {S : hs_T} {ow : Nat → Nat} {x l tp nz n k : Nat} {c : Nat → Nat} {s s' : st_T} {v : Value} {ex : Nat → String} {sp : Nat × Value × st_T} (hsp : sp = (0, v, s')) {r : Option Value ⊕ String} {S' : hs_T} {n' k' : Nat} (h : cv g S ow x l tp nz c n k s v s' r S' n' k') : cp g S ow x l tp nz c n k ex s sp r S' n' k' := by
  subst hsp
  exact ⟨h.1, h.2⟩
theorem cv_s {g : gl_T} {S : hs_T} {ow : Nat → Nat} {x l tp nz n k : Nat} {c : Nat → Nat} {s : st_T} {ys : List Nat} {v w : Value} {s' : st_T} (hv : v = w) (hs : s' = s) (h : RC g S ow x l tp nz s ys c) : cv g S ow x l tp nz c n k s v s' (.inl (some w)) S n k := by
  subst hv hs
  exact ⟨rfl, ow, c, ys, h, CK_rf _ _ _ _, rb_rf _ _ _ _⟩
/-- the lines of the ledger -/
def LN1 (g : gl_T) (S : hs_T) (ow : Nat → Nat) (l c4 : Nat) (ls : List li_T) (la : List Nat) : Prop := CL g S ow 4 l 0 5 c4 la ∧ la.Nodup ∧ la.length = ls.length ∧ ∀ j, j < ls.length → CLn S (la.getD j 0) (ln_at ls j)
theorem LN1_ck {g : gl_T} {S S' : hs_T} {ow ow' : Nat → Nat} {dk ds : List Nat} {l c4 : Nat} {ls : List li_T} {la : List Nat} (hl : l ∈ hs_L S ∧ hs_K S l = 4) (h : LN1 g S ow l c4 ls la) (hC : CK ow ow' dk ds S S') (h0 : 0 ∉ dk) (h15 : 15 ∉ dk) (h5 : 5 ∉ dk) (hs4 : 4 ∉ ds) : LN1 g S' ow' l c4 ls la := by
  obtain ⟨h1, h2, h3, h4⟩ := h
  refine ⟨CL_ck h1 ⟨hl.1, Or.inr (Or.inl hl.2)⟩ hC h0 h15 hs4, h2, h3, fun j hj => ?_⟩
  obtain ⟨e1, e2⟩ := CL_el h1 (j := j) (by omega)
  unfold CLn
  rw [(ck_at hC e1 e2 h5 (by decide)).1]
  exact h4 j hj
theorem CL_mem {g : gl_T} {S : hs_T} {ow : Nat → Nat} {sl b fi kd c : Nat} {xs : List Nat} (h : CL g S ow sl b fi kd c xs) {y : Nat} (hy : y ∈ xs) : y ∈ hs_L S ∧ hs_K S y = kd := by
  obtain ⟨a, e, h1, h2, h3, h4⟩ := h
  exact ⟨(h2.2.2.2.2 y hy).1, (h2.2.2.2.2 y hy).2.1⟩
theorem nd_app {xs : List Nat} {q : Nat} (h : xs.Nodup) (hq : q ∉ xs) : (xs ++ [q]).Nodup := by
  rw [List.nodup_append]
  exact ⟨h, by simp, fun a ha b hb => by simp at hb; subst hb; exact fun z => hq (z ▸ ha)⟩
set_option maxRecDepth 20000 in
set_option maxHeartbeats 4000000 in
theorem c_begin (g : gl_T) {S : hs_T} {n k l c4 : Nat} {ow : Nat → Nat} {ls : List li_T} {la : List Nat} (hl : l ∈ hs_L S ∧ hs_K S l = 4) (hN : LN1 g S ow l c4 ls la) (hlen : ls.length < 1500) (hn : n + 10 ≤ ex_NM) (hk : k + 6000 ≤ ex_KM) {ya yb yh yd : Int32} {t : li_T} (hv1 : ya = nI t.1) (hv2 : yb = nI t.2.1) (hv3 : yh = nI t.2.2.1) (hv4 : yd = nI t.2.2.2.1) (hv5 : t.2.2.2.2 = none) : ex_M g 8 mX4_begin [.ref l, .int ya, .int yb, .int yh, .int yd] S n k (fun r S' n' k' => ∃ q ow' c', r = .inl (some (.ref q)) ∧ q ∉ hs_L S ∧ (q ∈ hs_L S' ∧ hs_K S' q = 5) ∧ CK ow ow' [] [4] S S' ∧ LN1 g S' ow' l c' (ls ++ [t]) (la ++ [q]) ∧ c4 ≤ c' ∧ n' + c4 ≤ n + 1 + c' ∧ k' + 4 * c4 ≤ k + 5 + 4 * c') := by
  obtain ⟨hL, nd4, len4, f4⟩ := id hN
  obtain ⟨a4, e4, r4, l4, o4, p4⟩ := id hL
  refine ex_enter (by decide +kernel) (Nat.le_of_ble_eq_true rfl) ?_
  show ex_W _ _ _ _ 0 [(0, .ref l), (1, .int ya), (2, .int yb), (3, .int yh), (4, .int yd)] [] _ _ _
  refine ex_new (N := 5) dX4_begin_0 nl_X4_50 rfl (by omega) (by omega) (fun q hq => ?_)
  refine ex_dup dX4_begin_3 rfl ?_
  refine ex_iload_n dX4_begin_4 1 rfl ?_
  refine ex_iload_n dX4_begin_5 2 rfl ?_
  refine ex_iload_n dX4_begin_6 3 rfl ?_
  refine ex_iload dX4_begin_7 4 rfl ?_
  refine ex_cIv [.int ya, .int yb, .int yh, .int yd] [.ref q] dX4_begin_9 cI_X4_92 (c_Line_init g (hs_new_q _ _ _ _).1 (hs_new_q _ _ _ _).2.1) rfl (by decide) (Nat.le_of_ble_eq_true rfl) rfl ?_
  have hC1 : CK ow (va_up ow q 0) [] [] S (hs_sI (hs_sI (hs_sI (hs_sI (hs_sI (hs_new S q 5 0) q 4 (-1)) q 0 ya) q 1 yb) q 2 yh) q 3 yd) := CK_fI (CK_fI (CK_fI (CK_fI (CK_fI (CK_new ow 5 0 0 hq) hq _ _) hq _ _) hq _ _) hq _ _) hq _ _
  have hq1 : q ∈ hs_L (hs_sI (hs_sI (hs_sI (hs_sI (hs_sI (hs_new S q 5 0) q 4 (-1)) q 0 ya) q 1 yb) q 2 yh) q 3 yd) ∧ hs_K (hs_sI (hs_sI (hs_sI (hs_sI (hs_sI (hs_new S q 5 0) q 4 (-1)) q 0 ya) q 1 yb) q 2 yh) q 3 yd) q = 5 := ⟨(hs_new_q S q 5 0).1, (hs_new_q S q 5 0).2.1⟩
  have hf1 : CLn (hs_sI (hs_sI (hs_sI (hs_sI (hs_sI (hs_new S q 5 0) q 4 (-1)) q 0 ya) q 1 yb) q 2 yh) q 3 yd) q t := by
    unfold CLn
    refine ⟨?_, ?_, ?_, ?_, ?_⟩
    · simp [hs_I_sI]; exact hv1
    · simp [hs_I_sI]; exact hv2
    · simp [hs_I_sI]; exact hv3
    · simp [hs_I_sI]; exact hv4
    · simp [hs_I_sI]; rw [hv5]; rfl
  generalize hs_sI (hs_sI (hs_sI (hs_sI (hs_sI (hs_new S q 5 0) q 4 (-1)) q 0 ya) q 1 yb) q 2 yh) q 3 yd = S1 at hC1 hq1 hf1 ⊢
  obtain ⟨l4a, o4a, p4a⟩ := al_ck l4 o4 p4 hC1 (by decide) (by decide) (by decide)
  have r4a : hs_R S1 l 0 = some a4 := by rw [hC1.2.2 l hl.1 (Or.inr (Or.inl hl.2))]; exact r4
  have hl1 : l ∈ hs_L S1 ∧ hs_K S1 l = 4 := ⟨(hC1.1 l hl.1).1, (hC1.1 l hl.1).2.1.trans hl.2⟩
  refine ex_c1 (fun hE => ?_)
  refine ex_astore [(5, .ref q), (0, .ref l), (1, .int ya), (2, .int yb), (3, .int yh), (4, .int yd)] dX4_begin_12 (by decide) rfl ?_
  refine ex_aload_n dX4_begin_14 1 rfl ?_
  refine ex_getR (b := a4) dX4_begin_15 fl_X4_12 hl1.1 hl1.2 r4a ?_
  refine ex_aload dX4_begin_18 0 rfl ?_
  refine ex_cVg [.ref q] [] dX4_begin_20 cV_X4_34 (c_AL_add g l4a ⟨hq1.1, hq1.2, by decide⟩ (by omega) (by omega) (by omega)) l4a.1.1 l4a.1.2.1 rfl rfl rfl (by decide) (Nat.le_of_ble_eq_true rfl) rfl ?_ (fun E S' n' k' h => by obtain ⟨h1, -⟩ := h; cases h1)
  rintro v' S2 n2 k2 ⟨hr2, hpo⟩
  cases hr2
  obtain ⟨ow2, c2, hC2, hL2, hc2, hn2, hk2⟩ := CL_po ⟨hl1.1, Or.inr (Or.inl hl1.2)⟩ r4a l4a o4a p4a hE hpo (Or.inl (by simp))
  show ex_W _ _ _ _ 23 [(5, .ref q), (0, .ref l), (1, .int ya), (2, .int yb), (3, .int yh), (4, .int yd)] [.int 1] S2 n2 k2
  refine ex_pop dX4_begin_23 rfl ?_
  refine ex_aload dX4_begin_24 0 rfl ?_
  exact ex_art rfl (Or.inl ⟨_, rfl⟩) dX4_begin_26 (by
  refine ⟨q, ow2, c2, rfl, hq, ⟨(hC2.1 q hq1.1).1, (hC2.1 q hq1.1).2.1.trans hq1.2⟩, CK_tr (CK_mono hC1 (by decide) (by decide)) hC2, ⟨hL2, nd_app nd4 (fun z => hq (CL_mem hL z).1), by simp [len4], fun j hj => ?_⟩, hc2, by omega, by omega⟩
  rw [gd_app, ln_app, len4]
  by_cases z : j = ls.length
  · rw [if_pos z, if_pos z]
    unfold CLn
    rw [(ck_at hC2 hq1.1 hq1.2 (by decide) (by decide)).1]
    exact hf1
  · rw [if_neg z, if_neg z]
    simp at hj
    obtain ⟨e1, e2⟩ := CL_el hL (j := j) (by omega)
    unfold CLn
    rw [(ck_at (CK_tr (CK_mono hC1 (ds' := [4]) (dk' := []) (by decide) (by decide)) hC2) e1 e2 (by decide) (by decide)).1]
    exact f4 j (by omega))
set_option maxRecDepth 20000 in
set_option maxHeartbeats 4000000 in
theorem c_holder (g : gl_T) {S : hs_T} {n k x l tp nz : Nat} {ow : Nat → Nat} {s : st_T} {ys : List Nat} {c : Nat → Nat} (h : RC g S ow x l tp nz s ys c) (hb : BD s) (hO : OK s) (hn : n + 40000 ≤ ex_NM) (hk : k + 200000 ≤ ex_KM)  : ex_M g 8 mX9_holder [.ref x] S n k (cp g S ow x l tp nz c n k (exN exS) s (sp_holder s)) := by
  refine ex_enter (by decide +kernel) (Nat.le_of_ble_eq_true rfl) ?_
  show ex_W _ _ _ _ 0 [(0, .ref x)] [] _ _ _
  obtain ⟨hB, hCS, hCH, hCG, hCT, hCR, hCN, hCD, hCW⟩ := id h
  obtain ⟨bd1, bd2, bd3, ⟨bd4, bd5⟩, bd6, ⟨bd7, bd8⟩, bd9, bd10, bd11, bd12⟩ := id hb
  obtain ⟨as, ⟨a0, e0, r0, l0, o0, p0⟩, nd0, len0, f0⟩ := id hCH
  refine ex_aload_n dX9_holder_0 0 rfl ?_
  refine ex_getR (b := a0) dX9_holder_1 fl_X9_10 hB.1.1 hB.1.2 r0 ?_
  refine ex_cVr [] [] dX9_holder_4 cV_X9_57 (c_szn g l0 len0) l0.1.1 l0.1.2.1 rfl rfl rfl (by decide) (Nat.le_of_ble_eq_true rfl) rfl ?_
  refine ex_bipush (v := 60) dX9_holder_7 (by decide) ?_
  refine ex_icmp_lt (tgt := 22) dX9_holder_9 (by decide) (fun c9 => ?_) (fun c9 => ?_)
  · have hq6 : ¬ (s_hs s).length = 60 := fun z => by rw [z] at c9; exact absurd c9 (by decide)
    refine ex_aload_n dX9_holder_22 0 rfl ?_
    refine ex_getR (b := a0) dX9_holder_23 fl_X9_10 hB.1.1 hB.1.2 r0 ?_
    refine ex_new (N := 2) dX9_holder_26 nl_X9_68 rfl (by omega) (by omega) (fun q hq => ?_)
    refine ex_dup dX9_holder_29 rfl ?_
    refine ex_cIv [] [.ref q, .ref a0] dX9_holder_30 cI_X9_70 (c_Holder_init g (hs_new_q _ _ _ _).1 (hs_new_q _ _ _ _).2.1) rfl (by decide) (Nat.le_of_ble_eq_true rfl) rfl ?_
    have hC1 : CK ow (va_up ow q 0) [] [] S (hs_sJ (hs_sI (hs_new S q 3 0) q 0 0) q 1 0) := CK_fJ (CK_fI (CK_new ow 3 0 0 hq) hq _ _) hq _ _
    have hq1 : q ∈ hs_L (hs_sJ (hs_sI (hs_new S q 3 0) q 0 0) q 1 0) ∧ hs_K (hs_sJ (hs_sI (hs_new S q 3 0) q 0 0) q 1 0) q = 3 := ⟨(hs_new_q S q 3 0).1, (hs_new_q S q 3 0).2.1⟩
    have hf1 : hs_I (hs_sJ (hs_sI (hs_new S q 3 0) q 0 0) q 1 0) q 0 = nI 0 ∧ hs_J (hs_sJ (hs_sI (hs_new S q 3 0) q 0 0) q 1 0) q 1 = lN 0 := ⟨by simp [hs_I_sI, hs_I_sJ]; rfl, by simp [hs_J_sJ]; rfl⟩
    generalize hs_sJ (hs_sI (hs_new S q 3 0) q 0 0) q 1 0 = S1 at hC1 hq1 hf1 ⊢
    obtain ⟨l0a, o0a, p0a⟩ := al_ck l0 o0 p0 hC1 (by decide) (by decide) (by decide)
    have hB1 := CB_ck hB hC1
    have r0a : hs_R S1 x 0 = some a0 := by rw [hC1.2.2 x hB.1.1 (Or.inl hB.1.2)]; exact r0
    refine ex_c1 (fun hE => ?_)
    refine ex_cVg [.ref q] [] dX9_holder_33 cV_X9_71 (c_AL_add g l0a ⟨hq1.1, hq1.2, by decide⟩ (by omega) (by omega) (by omega)) l0a.1.1 l0a.1.2.1 rfl rfl rfl (by decide) (Nat.le_of_ble_eq_true rfl) rfl ?_ (fun E S' n' k' h => by obtain ⟨h1, -⟩ := h; cases h1)
    rintro v' S2 n2 k2 ⟨hr2, hpo⟩
    cases hr2
    obtain ⟨ow2, c2, hC2, hL2, hc2, hn2, hk2⟩ := CL_po ⟨hB1.1.1, Or.inl hB1.1.2⟩ r0a l0a o0a p0a hE hpo (Or.inl (by simp))
    have hB2 := CB_ck hB1 hC2
    obtain ⟨b0, d0, t0, m0, u0, v0⟩ := id hL2
    show ex_W _ _ _ _ 36 [(0, .ref x)] [.int 1] S2 n2 k2
    refine ex_pop dX9_holder_36 rfl ?_
    refine ex_aload_n dX9_holder_37 0 rfl ?_
    refine ex_getR (b := b0) dX9_holder_38 fl_X9_10 hB2.1.1 hB2.1.2 t0 ?_
    refine ex_cVr [] [] dX9_holder_41 cV_X9_57 (c_szn g m0 (N := (s_hs s).length + 1) (by simp [len0])) m0.1.1 m0.1.2.1 rfl rfl rfl (by decide) (Nat.le_of_ble_eq_true rfl) rfl ?_
    refine ex_iconst (v := 1) dX9_holder_44 (by decide) ?_
    refine ex_isub dX9_holder_45 ?_
    exact ex_irt rfl dX9_holder_46 (by
  have hC3 : CK ow ow2 [] [0] S S2 := CK_tr (CK_mono hC1 (by decide) (by decide)) hC2
  refine cp_i (ow' := ow2) (c' := va_up c 0 c2) (ys' := ys) (s' := w_hs s (s_hs s ++ [(0, 0)])) ?_ ?_ (CK_mono hC3 (by decide) (by decide)) ?_
  · unfold sp_holder
    rw [if_neg hq6]
    congr 3
    exact (nI_pred _).symm
  · have hH : CH g S2 ow2 x (va_up c 0 c2 0) (s_hs s ++ [(0, 0)]) := by
      refine ⟨as ++ [q], by simpa [va_up] using hL2, nd_app nd0 (fun z => hq (CL_mem ⟨a0, e0, r0, l0, o0, p0⟩ z).1), by simp [len0], fun j hj => ?_⟩
      unfold hd_at
      rw [gd_app, gd_app, len0]
      by_cases z : j = (s_hs s).length
      · rw [if_pos z, if_pos z]
        obtain ⟨e1, e2, e3⟩ := ck_at hC2 hq1.1 hq1.2 (by decide) (by decide)
        rw [e1, e2]; exact hf1
      · rw [if_neg z, if_neg z]
        simp at hj
        obtain ⟨e1, e2⟩ := al_mem l0 (j := j) (by omega)
        obtain ⟨k1, k2, k3⟩ := ck_at hC3 e1 e2 (by decide) (by decide)
        rw [k1, k2]; exact f0 j (by omega)
    exact ⟨CB_ck hB hC3, (CS_ck hB hCS hC3 (by decide) (by decide)), hH, (CG_ck hB hCG hC3 (by decide) (by decide) (by decide) (by decide) (by decide)), (CT_ck hB hCT hC3 (by decide) (by decide) (by decide)), (CR_ck hB hCR hC3 (by decide) (by decide) (by decide) (by decide) (by decide) (by intro j z; simp at z; try omega)), (CN_ck hB hCN hC3 (by decide) (by decide) (by decide)), (CD_ck hB hCD hC3 (by decide) (by decide) (by decide) (by decide)), (CW_ck hB hCW hC3 (by decide) (by decide) (by decide) (by decide))⟩
  · exact ⟨by show n2 + cN c + (s_ls s).length ≤ n + 60 + cN (va_up c 0 c2) + (s_ls s).length; simp [cN, va_up]; omega, by show k2 + 4 * cN c + 5 * (s_ls s).length ≤ k + 600 + 4 * cN (va_up c 0 c2) + 5 * (s_ls s).length; simp [cN, va_up]; omega⟩)
  · exact ex_throw th_X9_61_63_65 dX9_holder_12 dX9_holder_15 dX9_holder_16 dX9_holder_18 dX9_holder_21 (by decide) (Nat.le_of_ble_eq_true rfl) (by omega) (by omega) (cp_x (code := 1) (by unfold sp_holder; rw [if_pos (by have z : ¬ (s_hs s).length < 60 := fun z => c9 (nI_lt z (by decide)); omega)]) (by decide) rfl h)
