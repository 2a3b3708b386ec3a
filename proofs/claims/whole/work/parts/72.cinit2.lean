theorem XI_led {g : gl_T} {S0 S : hs_T} {ow0 ow : Nat → Nat} {kx x : Nat} {R : Nat → Option Nat} {I : Nat → Int32} {J : Nat → Int64} {L : List (Nat × Nat)} {A : List (Nat × Nat × Nat × Nat)} (h : XI g S0 ow0 S ow kx x R I J L A) (hkx : kx ≠ 0) {l : Nat} {S2 : hs_T} {ow2 : Nat → Nat} {Rl : Nat → Option Nat} {Il : Nat → Int32} {Jl : Nat → Int64} {Ll : List (Nat × Nat)} (hl : l ∉ hs_L S) (hX : XI g (hs_new S l 4 0) ow S2 ow2 4 l Rl Il Jl Ll []) (i : Nat) : XI g S0 ow0 (hs_sR S2 x i (some l)) ow2 kx x (va_up R i (some l)) I J (Ll ++ L) A ∧ l ≠ x ∧ (l ∈ hs_L S2 ∧ hs_K S2 l = 4) ∧ hs_R (hs_sR S2 x i (some l)) l = Rl ∧ hs_I S2 l = Il := by
  obtain ⟨⟨⟨x1, x2⟩, x3, x4, x5⟩, x6, _, x8, x9⟩ := hX
  have hlx : l ≠ x := fun z => hl (z ▸ h.1.1.1)
  have hf1 : hs_fr S S2 [] := ⟨fun y hy => by
    obtain ⟨a1, a2, a3, _⟩ := hs_new_o 4 0 hl hy
    obtain ⟨b1, b2, b3⟩ := x8.1 y a1
    exact ⟨b1, b2.trans a2, b3.trans a3⟩, fun y hy _ => by
    obtain ⟨a1, a2, a3, a4, a5, a6⟩ := hs_new_o 4 0 hl hy
    obtain ⟨b1, b2, b3⟩ := x8.2 y a1 (fun z => hl ((List.mem_singleton.mp z) ▸ hy))
    exact ⟨b1.trans a4, b2.trans a5, b3.trans a6⟩⟩
  have how : ∀ y ∈ hs_L S, ow2 y = ow y := fun y hy => x9 y (hs_new_o 4 0 hl hy).1
  obtain ⟨f1, f2, f3⟩ := hf1.2 x h.1.1.1 (by simp)
  have hf : hs_fr S (hs_sR S2 x i (some l)) [x] := hs_fr_tr (hs_fr_mono hf1 (by simp)) (hs_fr_sR _ _ _ _)
  obtain ⟨g1, g2, g3, g4, g5⟩ := XI_fr (ow' := ow2) (R' := va_up R i (some l)) (I' := I) (J' := J) h hf how (by show hs_u (hs_R _) x i (some l) x = _; rw [hs_u_row, f3, h.1.2.1]) (f1.trans h.1.2.2.1) (f2.trans h.1.2.2.2)
  refine ⟨⟨g1, fun p hp => ?_, g3, g4, g5⟩, hlx, ⟨x1, x2⟩, ?_, x4⟩
  · rcases List.mem_append.mp hp with hp | hp
    · obtain ⟨a1, a2, a3⟩ := x6 p hp
      have hpx : p.1 ≠ x := fun z => by
        have e1 := (a1 0).1.2.1
        rw [z, show hs_K S2 x = kx from (hf1.1 x h.1.1.1).2.1.trans h.1.1.2] at e1
        exact hkx e1
      exact ⟨fun kd => al_fr (a1 kd) (hs_fr_sR S2 x i (some l)) (by simpa using hpx) (fun z => absurd rfl z), a2, hpx⟩
    · exact g2 p hp
  · show hs_u (hs_R S2) x i (some l) l = Rl
    rw [hs_u_off _ _ _ hlx]; exact x3
/-- all that is made, as the class's state -/
theorem RC_0 {g : gl_T} {S0 S3 S : hs_T} {ow0 ow3 ow : Nat → Nat} {x l tp nz q0 q1 q2 q3 q4 q5 : Nat} {R R0 : Nat → Option Nat} {I0 I : Nat → Int32} {J0 J : Nat → Int64} (h1 : XI g S0 ow0 S3 ow3 9 x R0 I0 J0 [(q5, 5), (q4, 4), (q0, 0)] []) (h2 : XI g S3 ow3 S ow 9 x R I J [(q3, 3), (q2, 2), (q1, 1)] [(nz, 12, 20, 7), (tp, 11, 400, 6)]) (hlx : l ≠ x) (hl : l ∈ hs_L S3 ∧ hs_K S3 l = 4) (hl0 : hs_R S3 l 0 = some q4) (hl1 : hs_R S3 l 1 = some q5) (hl2 : hs_I S3 l 2 = 0) (r0 : R 0 = some q0) (r1 : R 1 = some l) (r2 : R 2 = some tp) (r4 : R 4 = some q1) (r6 : R 6 = some nz) (r8 : R 8 = some q2) (r9 : R 9 = some q3) (i3 : I 3 = 0) (i5 : I 5 = -1) (i7 : I 7 = 0) (i11 : I 11 = 0) (j10 : J 10 = 0) : RC g S ow x l tp nz s_0 [] (fun _ => 0) := by
  obtain ⟨⟨hx, eR, eI, eJ⟩, hL2, hA2, hf, how⟩ := id h2
  obtain ⟨_, hL1, _, _, _⟩ := XI_fr (R' := hs_R S x) (I' := hs_I S x) (J' := hs_J S x) h1 hf how rfl rfl rfl
  obtain ⟨l1, l2, l3⟩ := hf.1 l hl.1
  obtain ⟨k1, k2, k3⟩ := hf.2 l hl.1 (by simpa using hlx)
  obtain ⟨⟨n1, n2, n3⟩, n4, _⟩ := hA2 (nz, 12, 20, 7) (by simp)
  obtain ⟨⟨t1, t2, t3⟩, t4, _⟩ := hA2 (tp, 11, 400, 6) (by simp)
  obtain ⟨a3, o3, _⟩ := hL2 (q3, 3) (by simp)
  obtain ⟨a2, o2, _⟩ := hL2 (q2, 2) (by simp)
  obtain ⟨a1, o1, _⟩ := hL2 (q1, 1) (by simp)
  obtain ⟨a5, o5, _⟩ := hL1 (q5, 5) (by simp)
  obtain ⟨a4, o4, _⟩ := hL1 (q4, 4) (by simp)
  obtain ⟨a0, o0, _⟩ := hL1 (q0, 0) (by simp)
  have cl : ∀ {sl b fi kd a : Nat}, hs_R S b fi = some a → (∀ kd, al_at g S a (g.2.2.2.2 1) 0 kd []) → ow a = sl → CL g S ow sl b fi kd 0 [] := fun z1 z2 z3 => ⟨_, _, z1, z2 _, z3, fun z => absurd rfl z⟩
  refine ⟨⟨hx, ⟨by rw [eR]; exact r1, l1, l2.trans hl.2⟩, ⟨by rw [eR]; exact r2, t1, t2, t3, t4⟩, ⟨by rw [eR]; exact r6, n1, n2, n3, n4⟩⟩, ⟨by rw [eI, i11]; rfl, by rw [k1, hl2]; rfl, by rw [eI, i5]; rfl, by rw [eJ, j10]; rfl⟩, ?_, ?_, ⟨by rw [eI, i3]; rfl, fun j hj => absurd hj (by simp [s_tp, s_0])⟩, ?_, ⟨by rw [eI, i7]; rfl, fun j hj => absurd hj (by simp [s_ns, s_0])⟩, ?_, ?_⟩
  · exact ⟨[], cl (by rw [eR]; exact r0) a0 o0, List.nodup_nil, rfl, fun j hj => absurd hj (by simp [s_hs, s_0])⟩
  · exact ⟨[], cl (by rw [k3]; exact hl0) a4 o4, cl (by rw [k3]; exact hl1) a5 o5, List.nodup_nil, rfl, fun j hj => absurd hj (by simp [s_ls, s_0]), ⟨List.Pairwise.nil, fun i => ⟨fun z => absurd z (by simp), fun z => absurd z.1 (by simp [s_ls, s_0])⟩⟩⟩
  · exact ⟨[], cl (by rw [eR]; exact r4) a1 o1, rfl, fun j hj => absurd hj (by simp [s_rs, s_0])⟩
  · exact ⟨[], cl (by rw [eR]; exact r8) a2 o2, rfl, fun j hj => absurd hj (by simp [s_ds, s_0])⟩
  · exact ⟨[], cl (by rw [eR]; exact r9) a3 o3, List.nodup_nil, rfl, fun j hj => absurd hj (by simp [s_ws, s_0])⟩
set_option maxRecDepth 20000 in
set_option maxHeartbeats 2000000 in
theorem c_init (g : gl_T) {S : hs_T} {n k x : Nat} (ow : Nat → Nat) (hx : x ∈ hs_L S ∧ hs_K S x = 9) (hn : n + 30 ≤ ex_NM) (hk : k + 600 ≤ ex_KM) : ex_M g 5 mX9_init [.ref x] S n k (fun r S' n' k' => r = .inl none ∧ ∃ ow' l tp nz, RC g S' ow' x l tp nz s_0 [] (fun _ => 0) ∧ hs_fr S S' [x] ∧ (∀ y ∈ hs_L S, ow' y = ow y) ∧ n' ≤ n + 9 ∧ k' ≤ k + 500) := by
  refine ex_enter (by decide +kernel) (Nat.le_of_ble_eq_true rfl) ?_
  show ex_W _ _ _ _ 0 [(0, .ref x)] [] _ _ _
  have X0 := XI_0 (g := g) ow hx
  refine ex_aload_n dX9_init_0 0 rfl ?_
  refine ex_objInit dX9_init_1 oi_X9_1 (by decide) (Nat.le_of_ble_eq_true rfl) ?_
  refine ex_aload_n dX9_init_4 0 rfl ?_
  refine ex_new (N := 3) dX9_init_5 nl_X9_7 rfl (by omega) (by omega) (fun q0 hq0 => ?_)
  refine ex_dup dX9_init_8 rfl ?_
  refine ex_cIv [] [.ref q0, .ref x] dX9_init_9 cI_X9_9 (c_AL_init g (hs_new_q _ _ _ _).1 (hs_new_q _ _ _ _).2.1) rfl (by decide) (Nat.le_of_ble_eq_true rfl) rfl ?_
  have hm12 : x ∈ hs_L (hs_sR (hs_sI (hs_new S q0 0 0) q0 0 0) q0 1 (some (g.2.2.2.2 1))) ∧ hs_K (hs_sR (hs_sI (hs_new S q0 0 0) q0 0 0) q0 1 (some (g.2.2.2.2 1))) x = 9 := ⟨(hs_new_o 0 0 hq0 X0.1.1.1).1, (hs_new_o 0 0 hq0 X0.1.1.1).2.1.trans X0.1.1.2⟩
  refine ex_putR dX9_init_12 fl_X9_10 (pf_X9_10 rfl rfl) (Or.inl ⟨_, rfl⟩) hm12.1 hm12.2 ?_
  have X1 := XI_list X0 hq0 0 0
  generalize hs_sR (hs_sR (hs_sI (hs_new S q0 0 0) q0 0 0) q0 1 (some (g.2.2.2.2 1))) x 0 (some q0) = S1 at X1 ⊢
  refine ex_aload_n dX9_init_15 0 rfl ?_
  refine ex_new (N := 3) dX9_init_16 nl_X9_16 rfl (by omega) (by omega) (fun l hl => ?_)
  refine ex_dup dX9_init_19 rfl ?_
  refine ex_cIg [] [.ref l, .ref x] dX9_init_20 cI_X9_18 (c_Ledger_init g (va_up ow q0 0) ⟨(hs_new_q _ _ _ _).1, (hs_new_q _ _ _ _).2.1⟩ (by omega) (by omega)) rfl (by decide) (Nat.le_of_ble_eq_true rfl) rfl (fun E S' n' k' h => by obtain ⟨h1, -⟩ := h; cases h1) ?_
  rintro v' S2 n2 k2 ⟨hr2, q4, q5, ow2, XL, hn2, hk2⟩
  cases hr2
  show ex_W _ _ _ _ 23 [(0, .ref x)] [.ref l, .ref x] S2 n2 k2
  obtain ⟨_, _, _, xf8, _⟩ := id XL
  have hm23 : x ∈ hs_L S2 ∧ hs_K S2 x = 9 := by
    obtain ⟨z1, z2, _⟩ := hs_new_o 4 0 hl X1.1.1.1
    exact ⟨(xf8.1 x z1).1, (xf8.1 x z1).2.1.trans (z2.trans X1.1.1.2)⟩
  refine ex_putR dX9_init_23 fl_X9_19 (pf_X9_19 rfl rfl) (Or.inl ⟨_, rfl⟩) hm23.1 hm23.2 ?_
  obtain ⟨XB, hlx, hlm, hlR, hlI⟩ := XI_led X1 (by decide) hl XL 1
  have hlm3 : l ∈ hs_L (hs_sR S2 x 1 (some l)) ∧ hs_K (hs_sR S2 x 1 (some l)) l = 4 := hlm
  have hlI3 : hs_I (hs_sR S2 x 1 (some l)) l 2 = 0 := by show hs_I S2 l 2 = 0; rw [hlI]; rfl
  generalize hs_sR S2 x 1 (some l) = S3 at XB hlR hlm3 hlI3 ⊢
  have X3 := XI_0 (g := g) ow2 XB.1.1
  refine ex_aload_n dX9_init_26 0 rfl ?_
  refine ex_sipush (v := 400) dX9_init_27 (by decide) ?_
  refine ex_newB (N := 400) dX9_init_30 aw_byte rfl (by decide) (by omega) (by omega) (fun tp htp => ?_)
  have hm32 : x ∈ hs_L (hs_new S3 tp 11 400) ∧ hs_K (hs_new S3 tp 11 400) x = 9 := ⟨(hs_new_o 11 400 htp X3.1.1.1).1, (hs_new_o 11 400 htp X3.1.1.1).2.1.trans X3.1.1.2⟩
  refine ex_putR dX9_init_32 fl_X9_23 (pf_X9_23 rfl rfl) (Or.inr ⟨_, rfl⟩) hm32.1 hm32.2 ?_
  have X4 := XI_arr X3 htp 2 6 11 400
  generalize hs_sR (hs_new S3 tp 11 400) x 2 (some tp) = S4 at X4 ⊢
  refine ex_aload_n dX9_init_35 0 rfl ?_
  refine ex_iconst (v := 0) dX9_init_36 (by decide) ?_
  refine ex_putI dX9_init_37 fl_X9_27 (pf_X9_27 _) X4.1.1.1 X4.1.1.2 ?_
  have X5 := XI_I X4 3 0
  generalize hs_sI S4 x 3 0 = S5 at X5 ⊢
  refine ex_aload_n dX9_init_40 0 rfl ?_
  refine ex_new (N := 3) dX9_init_41 nl_X9_7 rfl (by omega) (by omega) (fun q1 hq1 => ?_)
  refine ex_dup dX9_init_44 rfl ?_
  refine ex_cIv [] [.ref q1, .ref x] dX9_init_45 cI_X9_9 (c_AL_init g (hs_new_q _ _ _ _).1 (hs_new_q _ _ _ _).2.1) rfl (by decide) (Nat.le_of_ble_eq_true rfl) rfl ?_
  have hm48 : x ∈ hs_L (hs_sR (hs_sI (hs_new S5 q1 0 0) q1 0 0) q1 1 (some (g.2.2.2.2 1))) ∧ hs_K (hs_sR (hs_sI (hs_new S5 q1 0 0) q1 0 0) q1 1 (some (g.2.2.2.2 1))) x = 9 := ⟨(hs_new_o 0 0 hq1 X5.1.1.1).1, (hs_new_o 0 0 hq1 X5.1.1.1).2.1.trans X5.1.1.2⟩
  refine ex_putR dX9_init_48 fl_X9_31 (pf_X9_31 rfl rfl) (Or.inl ⟨_, rfl⟩) hm48.1 hm48.2 ?_
  have X6 := XI_list X5 hq1 4 1
  generalize hs_sR (hs_sR (hs_sI (hs_new S5 q1 0 0) q1 0 0) q1 1 (some (g.2.2.2.2 1))) x 4 (some q1) = S6 at X6 ⊢
  refine ex_aload_n dX9_init_51 0 rfl ?_
  refine ex_iconst (v := (-1)) dX9_init_52 (by decide) ?_
  refine ex_putI dX9_init_53 fl_X9_34 (pf_X9_34 _) X6.1.1.1 X6.1.1.2 ?_
  have X7 := XI_I X6 5 (-1)
  generalize hs_sI S6 x 5 (-1) = S7 at X7 ⊢
  refine ex_aload_n dX9_init_56 0 rfl ?_
  refine ex_bipush (v := 20) dX9_init_57 (by decide) ?_
  refine ex_newI (N := 20) dX9_init_59 aw_int rfl (by decide) (by omega) (by omega) (fun nz hnz => ?_)
  have hm61 : x ∈ hs_L (hs_new S7 nz 12 20) ∧ hs_K (hs_new S7 nz 12 20) x = 9 := ⟨(hs_new_o 12 20 hnz X7.1.1.1).1, (hs_new_o 12 20 hnz X7.1.1.1).2.1.trans X7.1.1.2⟩
  refine ex_putR dX9_init_61 fl_X9_37 (pf_X9_37 rfl rfl) (Or.inr ⟨_, rfl⟩) hm61.1 hm61.2 ?_
  have X8 := XI_arr X7 hnz 6 7 12 20
  generalize hs_sR (hs_new S7 nz 12 20) x 6 (some nz) = S8 at X8 ⊢
  refine ex_aload_n dX9_init_64 0 rfl ?_
  refine ex_iconst (v := 0) dX9_init_65 (by decide) ?_
  refine ex_putI dX9_init_66 fl_X9_41 (pf_X9_41 _) X8.1.1.1 X8.1.1.2 ?_
  have X9 := XI_I X8 7 0
  generalize hs_sI S8 x 7 0 = S9 at X9 ⊢
  refine ex_aload_n dX9_init_69 0 rfl ?_
  refine ex_new (N := 3) dX9_init_70 nl_X9_7 rfl (by omega) (by omega) (fun q2 hq2 => ?_)
  refine ex_dup dX9_init_73 rfl ?_
  refine ex_cIv [] [.ref q2, .ref x] dX9_init_74 cI_X9_9 (c_AL_init g (hs_new_q _ _ _ _).1 (hs_new_q _ _ _ _).2.1) rfl (by decide) (Nat.le_of_ble_eq_true rfl) rfl ?_
  have hm77 : x ∈ hs_L (hs_sR (hs_sI (hs_new S9 q2 0 0) q2 0 0) q2 1 (some (g.2.2.2.2 1))) ∧ hs_K (hs_sR (hs_sI (hs_new S9 q2 0 0) q2 0 0) q2 1 (some (g.2.2.2.2 1))) x = 9 := ⟨(hs_new_o 0 0 hq2 X9.1.1.1).1, (hs_new_o 0 0 hq2 X9.1.1.1).2.1.trans X9.1.1.2⟩
  refine ex_putR dX9_init_77 fl_X9_44 (pf_X9_44 rfl rfl) (Or.inl ⟨_, rfl⟩) hm77.1 hm77.2 ?_
  have X10 := XI_list X9 hq2 8 2
  generalize hs_sR (hs_sR (hs_sI (hs_new S9 q2 0 0) q2 0 0) q2 1 (some (g.2.2.2.2 1))) x 8 (some q2) = S10 at X10 ⊢
  refine ex_aload_n dX9_init_80 0 rfl ?_
  refine ex_new (N := 3) dX9_init_81 nl_X9_7 rfl (by omega) (by omega) (fun q3 hq3 => ?_)
  refine ex_dup dX9_init_84 rfl ?_
  refine ex_cIv [] [.ref q3, .ref x] dX9_init_85 cI_X9_9 (c_AL_init g (hs_new_q _ _ _ _).1 (hs_new_q _ _ _ _).2.1) rfl (by decide) (Nat.le_of_ble_eq_true rfl) rfl ?_
  have hm88 : x ∈ hs_L (hs_sR (hs_sI (hs_new S10 q3 0 0) q3 0 0) q3 1 (some (g.2.2.2.2 1))) ∧ hs_K (hs_sR (hs_sI (hs_new S10 q3 0 0) q3 0 0) q3 1 (some (g.2.2.2.2 1))) x = 9 := ⟨(hs_new_o 0 0 hq3 X10.1.1.1).1, (hs_new_o 0 0 hq3 X10.1.1.1).2.1.trans X10.1.1.2⟩
  refine ex_putR dX9_init_88 fl_X9_47 (pf_X9_47 rfl rfl) (Or.inl ⟨_, rfl⟩) hm88.1 hm88.2 ?_
  have X11 := XI_list X10 hq3 9 3
  generalize hs_sR (hs_sR (hs_sI (hs_new S10 q3 0 0) q3 0 0) q3 1 (some (g.2.2.2.2 1))) x 9 (some q3) = S11 at X11 ⊢
  refine ex_aload_n dX9_init_91 0 rfl ?_
  refine ex_lconst (v := 0) dX9_init_92 (by decide) ?_
  refine ex_putJ dX9_init_93 fl_X9_50 (pf_X9_50 _) X11.1.1.1 X11.1.1.2 ?_
  have X12 := XI_J X11 10 0
  generalize hs_sJ S11 x 10 0 = S12 at X12 ⊢
  refine ex_aload_n dX9_init_96 0 rfl ?_
  refine ex_iconst (v := 0) dX9_init_97 (by decide) ?_
  refine ex_putI dX9_init_98 fl_X9_54 (pf_X9_54 _) X12.1.1.1 X12.1.1.2 ?_
  have X13 := XI_I X12 11 0
  generalize hs_sI S12 x 11 0 = S13 at X13 ⊢
  exact ex_vrt rfl dX9_init_101 (by
  have eR := XB.1.2.1
  refine ⟨rfl, _, l, tp, nz, RC_0 (l := l) XB X13 hlx hlm3 (by rw [hlR]; rfl) (by rw [hlR]; rfl) hlI3 ?_ ?_ ?_ ?_ ?_ ?_ ?_ ?_ ?_ ?_ ?_ ?_, hs_fr_tr XB.2.2.2.1 X13.2.2.2.1, fun y hy => (X13.2.2.2.2 y (XB.2.2.2.1.1 y hy).1).trans (XB.2.2.2.2 y hy), by omega, by omega⟩
  · show hs_R S3 x 0 = _; rw [eR]; rfl
  · show hs_R S3 x 1 = _; rw [eR]; rfl
  all_goals rfl)
