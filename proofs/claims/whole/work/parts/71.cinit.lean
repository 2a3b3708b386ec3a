/-! the class is made -/
def XI (g : gl_T) (S0 : hs_T) (ow0 : Nat → Nat) (S : hs_T) (ow : Nat → Nat) (kx x : Nat) (R : Nat → Option Nat) (I : Nat → Int32) (J : Nat → Int64) (L : List (Nat × Nat)) (A : List (Nat × Nat × Nat × Nat)) : Prop := ((x ∈ hs_L S ∧ hs_K S x = kx) ∧ hs_R S x = R ∧ hs_I S x = I ∧ hs_J S x = J) ∧ (∀ p ∈ L, (∀ kd, al_at g S p.1 (g.2.2.2.2 1) 0 kd []) ∧ ow p.1 = p.2 ∧ p.1 ≠ x) ∧ (∀ p ∈ A, (p.1 ∈ hs_L S ∧ hs_K S p.1 = p.2.1 ∧ hs_N S p.1 = p.2.2.1) ∧ ow p.1 = p.2.2.2 ∧ p.1 ≠ x) ∧ hs_fr S0 S [x] ∧ ∀ y ∈ hs_L S0, ow y = ow0 y
theorem XI_0 {g : gl_T} {S : hs_T} (ow : Nat → Nat) {kx x : Nat} (hx : x ∈ hs_L S ∧ hs_K S x = kx) : XI g S ow S ow kx x (hs_R S x) (hs_I S x) (hs_J S x) [] [] := ⟨⟨hx, rfl, rfl, rfl⟩, fun p h => absurd h (by simp), fun p h => absurd h (by simp), ⟨fun y hy => ⟨hy, rfl, rfl⟩, fun y hy _ => ⟨rfl, rfl, rfl⟩⟩, fun y _ => rfl⟩
/-- what is made before stays -/
theorem XI_fr {g : gl_T} {S0 S : hs_T} {ow0 ow : Nat → Nat} {kx x : Nat} {R : Nat → Option Nat} {I : Nat → Int32} {J : Nat → Int64} {L : List (Nat × Nat)} {A : List (Nat × Nat × Nat × Nat)} {S' : hs_T} {ow' : Nat → Nat} {R' : Nat → Option Nat} {I' : Nat → Int32} {J' : Nat → Int64} (h : XI g S0 ow0 S ow kx x R I J L A) (hf : hs_fr S S' [x]) (how : ∀ y ∈ hs_L S, ow' y = ow y) (hR : hs_R S' x = R') (hI : hs_I S' x = I') (hJ : hs_J S' x = J') : XI g S0 ow0 S' ow' kx x R' I' J' L A := by
  obtain ⟨⟨⟨h1, h2⟩, h3, h4, h5⟩, h6, h7, h8, h9⟩ := h
  refine ⟨⟨⟨(hf.1 x h1).1, (hf.1 x h1).2.1.trans h2⟩, hR, hI, hJ⟩, fun p hp => ?_, fun p hp => ?_, hs_fr_tr h8 hf, fun y hy => (how y (h8.1 y hy).1).trans (h9 y hy)⟩
  · obtain ⟨a1, a2, a3⟩ := h6 p hp
    exact ⟨fun kd => al_fr (a1 kd) hf (by simpa using a3) (fun z => absurd rfl z), (how _ (a1 0).1.1).trans a2, a3⟩
  · obtain ⟨⟨a1, a2, a3⟩, a4, a5⟩ := h7 p hp
    obtain ⟨b1, b2, b3⟩ := hf.1 _ a1
    exact ⟨⟨b1, b2.trans a2, b3.trans a3⟩, (how _ a1).trans a4, a5⟩
theorem XI_I {g : gl_T} {S0 S : hs_T} {ow0 ow : Nat → Nat} {kx x : Nat} {R : Nat → Option Nat} {I : Nat → Int32} {J : Nat → Int64} {L : List (Nat × Nat)} {A : List (Nat × Nat × Nat × Nat)} (h : XI g S0 ow0 S ow kx x R I J L A) (i : Nat) (v : Int32) : XI g S0 ow0 (hs_sI S x i v) ow kx x R (va_up I i v) J L A :=
  XI_fr h (hs_fr_sI S x i v) (fun _ _ => rfl) h.1.2.1 (by show hs_u (hs_I S) x i v x = _; rw [hs_u_row, h.1.2.2.1]) h.1.2.2.2
theorem XI_J {g : gl_T} {S0 S : hs_T} {ow0 ow : Nat → Nat} {kx x : Nat} {R : Nat → Option Nat} {I : Nat → Int32} {J : Nat → Int64} {L : List (Nat × Nat)} {A : List (Nat × Nat × Nat × Nat)} (h : XI g S0 ow0 S ow kx x R I J L A) (i : Nat) (v : Int64) : XI g S0 ow0 (hs_sJ S x i v) ow kx x R I (va_up J i v) L A :=
  XI_fr h (hs_fr_sJ S x i v) (fun _ _ => rfl) h.1.2.1 h.1.2.2.1 (by show hs_u (hs_J S) x i v x = _; rw [hs_u_row, h.1.2.2.2])
theorem ow_up {S : hs_T} {q : Nat} (ow : Nat → Nat) (sl : Nat) (hq : q ∉ hs_L S) : ∀ y ∈ hs_L S, va_up ow q sl y = ow y := fun y hy => by simp [va_up, show y ≠ q from fun z => hq (z ▸ hy)]
theorem XI_list {g : gl_T} {S0 S : hs_T} {ow0 ow : Nat → Nat} {kx x : Nat} {R : Nat → Option Nat} {I : Nat → Int32} {J : Nat → Int64} {L : List (Nat × Nat)} {A : List (Nat × Nat × Nat × Nat)} (h : XI g S0 ow0 S ow kx x R I J L A) {q : Nat} (hq : q ∉ hs_L S) (i sl : Nat) : XI g S0 ow0 (hs_sR (hs_sR (hs_sI (hs_new S q 0 0) q 0 0) q 1 (some (g.2.2.2.2 1))) x i (some q)) (va_up ow q sl) kx x (va_up R i (some q)) I J ((q, sl) :: L) A := by
  have hxq : x ≠ q := fun z => hq (z ▸ h.1.1.1)
  have hf1 : hs_fr S (hs_sR (hs_sI (hs_new S q 0 0) q 0 0) q 1 (some (g.2.2.2.2 1))) [] := fr_zR (fr_zI (hs_fr_new hq []) hq _ _) hq _ _
  obtain ⟨f1, f2, f3⟩ := hf1.2 x h.1.1.1 (by simp)
  have hf : hs_fr S (hs_sR (hs_sR (hs_sI (hs_new S q 0 0) q 0 0) q 1 (some (g.2.2.2.2 1))) x i (some q)) [x] := hs_fr_tr (hs_fr_mono hf1 (by simp)) (hs_fr_sR _ _ _ _)
  have h2 := XI_fr (ow' := va_up ow q sl) (R' := va_up R i (some q)) (I' := I) (J' := J) h hf (ow_up ow sl hq) (by show hs_u (hs_R _) x i (some q) x = _; rw [hs_u_row, f3, h.1.2.1]) (f1.trans h.1.2.2.1) (f2.trans h.1.2.2.2)
  obtain ⟨g1, g2, g3, g4, g5⟩ := h2
  refine ⟨g1, fun p hp => ?_, g3, g4, g5⟩
  rcases List.mem_cons.mp hp with e | hp
  · subst e
    refine ⟨fun kd => ⟨⟨(hs_new_q S q 0 0).1, (hs_new_q S q 0 0).2.1, ?_, ?_⟩, ⟨Nat.le_refl _, by decide⟩, Or.inr ⟨rfl, rfl⟩, fun i hi => absurd hi (by simp), fun y hy => absurd hy (by simp)⟩, by simp [va_up], hxq.symm⟩
    · show hs_R _ q 1 = _
      rw [hs_R_sR, if_neg (fun w => hxq w.1.symm), hs_R_sR, if_pos ⟨rfl, rfl⟩]
    · show hs_I _ q 2 = _
      rw [hs_I_sR, hs_I_sR, hs_I_sI, if_neg (fun w => absurd w.2 (by decide)), hs_I_new, if_pos rfl]; rfl
  · exact g2 p hp
theorem XI_arr {g : gl_T} {S0 S : hs_T} {ow0 ow : Nat → Nat} {kx x : Nat} {R : Nat → Option Nat} {I : Nat → Int32} {J : Nat → Int64} {L : List (Nat × Nat)} {A : List (Nat × Nat × Nat × Nat)} (h : XI g S0 ow0 S ow kx x R I J L A) {q : Nat} (hq : q ∉ hs_L S) (i sl kd N : Nat) : XI g S0 ow0 (hs_sR (hs_new S q kd N) x i (some q)) (va_up ow q sl) kx x (va_up R i (some q)) I J L ((q, kd, N, sl) :: A) := by
  have hxq : x ≠ q := fun z => hq (z ▸ h.1.1.1)
  have hf1 : hs_fr S (hs_new S q kd N) [] := hs_fr_new hq []
  obtain ⟨f1, f2, f3⟩ := hf1.2 x h.1.1.1 (by simp)
  have hf : hs_fr S (hs_sR (hs_new S q kd N) x i (some q)) [x] := hs_fr_tr (hs_fr_mono hf1 (by simp)) (hs_fr_sR _ _ _ _)
  have h2 := XI_fr (ow' := va_up ow q sl) (R' := va_up R i (some q)) (I' := I) (J' := J) h hf (ow_up ow sl hq) (by show hs_u (hs_R _) x i (some q) x = _; rw [hs_u_row, f3, h.1.2.1]) (f1.trans h.1.2.2.1) (f2.trans h.1.2.2.2)
  obtain ⟨g1, g2, g3, g4, g5⟩ := h2
  refine ⟨g1, g2, fun p hp => ?_, g4, g5⟩
  rcases List.mem_cons.mp hp with e | hp
  · subst e
    exact ⟨hs_new_q S q kd N, by simp [va_up], hxq.symm⟩
  · exact g3 p hp
set_option maxRecDepth 20000 in
set_option maxHeartbeats 2000000 in
theorem c_Ledger_init (g : gl_T) {S : hs_T} {n k a : Nat} (ow : Nat → Nat) (hL : a ∈ hs_L S ∧ hs_K S a = 4) (hn : n + 10 ≤ ex_NM) (hk : k + 10 ≤ ex_KM) : ex_M g 4 mX4_init [.ref a] S n k (fun r S' n' k' => r = .inl none ∧ ∃ q4 q5 ow', XI g S ow S' ow' 4 a (va_up (va_up (hs_R S a) 0 (some q4)) 1 (some q5)) (va_up (hs_I S a) 2 0) (hs_J S a) [(q5, 5), (q4, 4)] [] ∧ n' = n + 1 + 1 ∧ k' = k + 3 + 3) := by
  refine ex_enter (by decide +kernel) (Nat.le_of_ble_eq_true rfl) ?_
  show ex_W _ _ _ _ 0 [(0, .ref a)] [] _ _ _
  have X0 := XI_0 (g := g) ow hL
  refine ex_aload_n dX4_init_0 0 rfl ?_
  refine ex_objInit dX4_init_1 oi_X4_3 (by decide) (Nat.le_of_ble_eq_true rfl) ?_
  refine ex_aload_n dX4_init_4 0 rfl ?_
  refine ex_new (N := 3) dX4_init_5 nl_X4_9 rfl (by omega) (by omega) (fun q4 hq4 => ?_)
  refine ex_dup dX4_init_8 rfl ?_
  refine ex_cIv [] [.ref q4, .ref a] dX4_init_9 cI_X4_11 (c_AL_init g (hs_new_q _ _ _ _).1 (hs_new_q _ _ _ _).2.1) rfl (by decide) (Nat.le_of_ble_eq_true rfl) rfl ?_
  have hm12 : a ∈ hs_L (hs_sR (hs_sI (hs_new S q4 0 0) q4 0 0) q4 1 (some (g.2.2.2.2 1))) ∧ hs_K (hs_sR (hs_sI (hs_new S q4 0 0) q4 0 0) q4 1 (some (g.2.2.2.2 1))) a = 4 := ⟨(hs_new_o 0 0 hq4 X0.1.1.1).1, (hs_new_o 0 0 hq4 X0.1.1.1).2.1.trans X0.1.1.2⟩
  refine ex_putR dX4_init_12 fl_X4_12 (pf_X4_12 rfl rfl) (Or.inl ⟨_, rfl⟩) hm12.1 hm12.2 ?_
  have X1 := XI_list X0 hq4 0 4
  generalize hs_sR (hs_sR (hs_sI (hs_new S q4 0 0) q4 0 0) q4 1 (some (g.2.2.2.2 1))) a 0 (some q4) = S1 at X1 ⊢
  refine ex_aload_n dX4_init_15 0 rfl ?_
  refine ex_new (N := 3) dX4_init_16 nl_X4_9 rfl (by omega) (by omega) (fun q5 hq5 => ?_)
  refine ex_dup dX4_init_19 rfl ?_
  refine ex_cIv [] [.ref q5, .ref a] dX4_init_20 cI_X4_11 (c_AL_init g (hs_new_q _ _ _ _).1 (hs_new_q _ _ _ _).2.1) rfl (by decide) (Nat.le_of_ble_eq_true rfl) rfl ?_
  have hm23 : a ∈ hs_L (hs_sR (hs_sI (hs_new S1 q5 0 0) q5 0 0) q5 1 (some (g.2.2.2.2 1))) ∧ hs_K (hs_sR (hs_sI (hs_new S1 q5 0 0) q5 0 0) q5 1 (some (g.2.2.2.2 1))) a = 4 := ⟨(hs_new_o 0 0 hq5 X1.1.1.1).1, (hs_new_o 0 0 hq5 X1.1.1.1).2.1.trans X1.1.1.2⟩
  refine ex_putR dX4_init_23 fl_X4_18 (pf_X4_18 rfl rfl) (Or.inl ⟨_, rfl⟩) hm23.1 hm23.2 ?_
  have X2 := XI_list X1 hq5 1 5
  generalize hs_sR (hs_sR (hs_sI (hs_new S1 q5 0 0) q5 0 0) q5 1 (some (g.2.2.2.2 1))) a 1 (some q5) = S2 at X2 ⊢
  refine ex_aload_n dX4_init_26 0 rfl ?_
  refine ex_iconst (v := 0) dX4_init_27 (by decide) ?_
  refine ex_putI dX4_init_28 fl_X4_21 (pf_X4_21 _) X2.1.1.1 X2.1.1.2 ?_
  have X3 := XI_I X2 2 0
  generalize hs_sI S2 a 2 0 = S3 at X3 ⊢
  exact ex_vrt rfl dX4_init_31 ⟨rfl, q4, q5, _, X3, rfl, rfl⟩
