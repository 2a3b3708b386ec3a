/-! the reference is made -/
def s_0 : st_T := ((0, 0, none, 0), [], [], [], [], [], [], [])
def IN (S0 S : hs_T) (m : Nat) (A : Nat → Nat) (I : Nat → Int32) (l : List (Nat × Nat × Nat)) : Prop := (m ∈ hs_L S ∧ hs_K S m = 10 ∧ hs_I S m = I ∧ hs_J S m = hs_J S0 m) ∧ (∀ q ∈ l, hs_R S m q.1 = some (A q.1) ∧ A q.1 ∈ hs_L S ∧ hs_K S (A q.1) = q.2.1 ∧ hs_N S (A q.1) = q.2.2 ∧ hs_I S (A q.1) = (fun _ => 0) ∧ hs_J S (A q.1) = (fun _ => 0)) ∧ (∀ q ∈ l, A q.1 ∉ hs_L S0 ∧ A q.1 ≠ m) ∧ (∀ q ∈ l, ∀ r ∈ l, A q.1 = A r.1 → q.1 = r.1) ∧ hs_fr S0 S [m]
theorem IN_step {S0 S : hs_T} {m : Nat} {A : Nat → Nat} {I : Nat → Int32} {l : List (Nat × Nat × Nat)} (h : IN S0 S m A I l) {q : Nat} (hq : q ∉ hs_L S) (i kd N : Nat) (hi : ∀ r ∈ l, r.1 ≠ i) : IN S0 (hs_sR (hs_new S q kd N) m i (some q)) m (va_up A i q) I ((i, kd, N) :: l) := by
  obtain ⟨⟨h1, h2, h3, h3j⟩, h4, h5, h6, h7⟩ := h
  have hqm : m ≠ q := fun z => hq (z ▸ h1)
  have hq0 : q ∉ hs_L S0 := fun z => hq (h7.1 q z).1
  obtain ⟨a1, a2, a3, a4, a5, a6⟩ := hs_new_o kd N hq h1
  obtain ⟨b1, b2, b3⟩ := hs_new_q S q kd N
  have e1 : va_up A i q i = q := by simp [va_up]
  have e2 : ∀ r ∈ l, va_up A i q r.1 = A r.1 := fun r hr => by simp [va_up, hi r hr]
  refine ⟨⟨a1, a2.trans h2, ?_, ?_⟩, ?_, ?_, ?_, hs_fr_tr h7 (hs_fr_tr (hs_fr_new hq [m]) (hs_fr_sR _ _ _ _))⟩
  · rw [hs_I_sR, a4, h3]
  · rw [hs_J_sR, a5, h3j]
  · intro r hr
    rcases List.mem_cons.mp hr with rfl | hr
    · show hs_R _ m i = some (va_up A i q i) ∧ _
      rw [e1]
      exact ⟨by rw [hs_R_sR, if_pos ⟨rfl, rfl⟩], b1, b2, b3, funext fun j => by rw [hs_I_sR, hs_I_new, if_pos rfl], funext fun j => by rw [hs_J_sR, hs_J_new, if_pos rfl]⟩
    · rw [e2 r hr]
      obtain ⟨c1, c2, c3, c4, c5, c6⟩ := h4 r hr
      obtain ⟨d1, d2, d3, d4, d5, d6⟩ := hs_new_o kd N hq c2
      exact ⟨by rw [hs_R_sR, if_neg (fun z => hi r hr z.2), a6]; exact c1, d1, d2.trans c3, d3.trans c4, by rw [hs_I_sR, d4]; exact c5, by rw [hs_J_sR, d5]; exact c6⟩
  · intro r hr
    rcases List.mem_cons.mp hr with rfl | hr
    · show va_up A i q i ∉ _ ∧ va_up A i q i ≠ m
      rw [e1]; exact ⟨hq0, hqm.symm⟩
    · rw [e2 r hr]; exact h5 r hr
  · intro r hr r2 hr2
    rcases List.mem_cons.mp hr with rfl | hr <;> rcases List.mem_cons.mp hr2 with rfl | hr2
    · intro _; rfl
    · show va_up A i q i = _ → _
      rw [e1, e2 r2 hr2]
      intro z
      exact absurd (h4 r2 hr2).2.1 (z ▸ hq)
    · show _ = va_up A i q i → _
      rw [e1, e2 r hr]
      intro z
      exact absurd (h4 r hr).2.1 (z.symm ▸ hq)
    · rw [e2 r hr, e2 r2 hr2]; exact h6 r hr r2 hr2
theorem IN_int {S0 S : hs_T} {m : Nat} {A : Nat → Nat} {I : Nat → Int32} {l : List (Nat × Nat × Nat)} (h : IN S0 S m A I l) (i : Nat) (v : Int32) : IN S0 (hs_sI S m i v) m A (va_up I i v) l := by
  obtain ⟨⟨h1, h2, h3, h3j⟩, h4, h5, h6, h7⟩ := h
  refine ⟨⟨h1, h2, ?_, h3j⟩, fun r hr => ?_, h5, h6, hs_fr_tr h7 (hs_fr_sI _ _ _ _)⟩
  · show hs_u (hs_I S) m i v m = _
    rw [hs_u_row, h3]
  · obtain ⟨c1, c2, c3, c4, c5, c6⟩ := h4 r hr
    exact ⟨c1, c2, c3, c4, by show hs_u (hs_I S) m i v _ = _; rw [hs_u_off _ _ _ (h5 r hr).2]; exact c5, c6⟩
def mb_has (i : Nat) : Bool := mb_T.any (fun q => q.1 == i)
def mb_sum (A : Nat → Nat) : List (Nat × Nat × Nat) → Nat
  | [] => 0
  | q :: l => A q.1 + mb_sum A l
theorem mb_sum_le (A : Nat → Nat) : ∀ {l : List (Nat × Nat × Nat)} {q}, q ∈ l → A q.1 ≤ mb_sum A l
  | r :: l, q, h => by
    rcases List.mem_cons.mp h with rfl | h
    · show _ ≤ _ + _; omega
    · have := mb_sum_le A h; show _ ≤ _ + _; omega
def mb_ad (m : Nat) (A : Nat → Nat) : Nat → Nat := fun i => if mb_has i then A i else m + mb_sum A mb_T + 1 + i
theorem mb_hasI {i : Nat} (h : mb_has i = true) : ∃ q ∈ mb_T, q.1 = i := by
  obtain ⟨q, h1, h2⟩ := List.any_eq_true.mp h
  exact ⟨q, h1, by simpa using h2⟩
theorem mb_hasQ {q : Nat × Nat × Nat} (h : q ∈ mb_T) : mb_has q.1 = true := List.any_eq_true.mpr ⟨q, h, by simp⟩
theorem IN_AD {S0 S : hs_T} {m : Nat} {A : Nat → Nat} {I : Nat → Int32} {l : List (Nat × Nat × Nat)} (h : IN S0 S m A I l) (hl : ∀ q ∈ mb_T, q ∈ l) : AD m (mb_ad m A) := by
  obtain ⟨_, h4, h5, h6, h7⟩ := h
  refine ⟨fun i j => ?_, fun i => ?_⟩
  · unfold mb_ad
    by_cases a : mb_has i = true <;> by_cases b : mb_has j = true
    · rw [if_pos a, if_pos b]
      obtain ⟨q, hq, rfl⟩ := mb_hasI a
      obtain ⟨r, hr, rfl⟩ := mb_hasI b
      exact h6 q (hl q hq) r (hl r hr)
    · rw [if_pos a, if_neg b]
      obtain ⟨q, hq, rfl⟩ := mb_hasI a
      have := mb_sum_le A hq
      intro z; omega
    · rw [if_neg a, if_pos b]
      obtain ⟨q, hq, rfl⟩ := mb_hasI b
      have := mb_sum_le A hq
      intro z; omega
    · rw [if_neg a, if_neg b]
      intro z; omega
  · unfold mb_ad
    by_cases a : mb_has i = true
    · rw [if_pos a]
      obtain ⟨q, hq, rfl⟩ := mb_hasI a
      exact (h5 q (hl q hq)).2
    · rw [if_neg a]; omega
theorem IN_RM {S0 S : hs_T} {m : Nat} {A : Nat → Nat} {I : Nat → Int32} {l : List (Nat × Nat × Nat)} (h : IN S0 S m A I l) (hl : ∀ q ∈ mb_T, q ∈ l) (hI : I = va_up (fun _ => 0) 17 (-1)) (hJ : hs_J S0 m = fun _ => 0) : RM S m (mb_ad m A) s_0 ∧ ∀ q ∈ mb_T, mb_ad m A q.1 ∉ hs_L S0 := by
  have hA := IN_AD h hl
  obtain ⟨⟨h1, h2, h3, h3j⟩, h4, h5, h6, h7⟩ := h
  have e : ∀ q ∈ mb_T, mb_ad m A q.1 = A q.1 := fun q hq => by unfold mb_ad; rw [if_pos (mb_hasQ hq)]
  have f : ∀ q ∈ mb_T, hs_I S (mb_ad m A q.1) = (fun _ => 0) ∧ hs_J S (mb_ad m A q.1) = (fun _ => 0) := fun q hq => by rw [e q hq]; exact (h4 q (hl q hq)).2.2.2.2
  have i0 : ∀ j, j ≠ 17 → hs_I S m j = 0 := fun j hj => by rw [h3, hI]; simp [va_up, hj]
  refine ⟨⟨⟨⟨h1, h2⟩, fun q hq => ?_, hA⟩, ⟨⟨i0 2 (by decide), i0 3 (by decide), ?_, ?_⟩, by decide, by decide, fun d hd => by cases hd⟩, ⟨i0 1 (by decide), by decide, fun j hj => ⟨?_, ?_, by show (0 : Nat) ≤ 1; decide⟩⟩, ⟨i0 11 (by decide), by decide, fun j hj => absurd hj (Nat.not_lt_zero _)⟩, ⟨i0 13 (by decide), by decide, fun j hj => absurd hj (Nat.not_lt_zero _)⟩, ⟨i0 23 (by decide), by decide, fun j hj => absurd hj (Nat.not_lt_zero _)⟩, ⟨i0 25 (by decide), by decide, fun j hj => absurd hj (Nat.not_lt_zero _)⟩, ⟨i0 27 (by decide), by decide, fun j hj => absurd hj (Nat.not_lt_zero _)⟩, ⟨i0 33 (by decide), by decide, fun j hj => absurd hj (Nat.not_lt_zero _)⟩⟩, fun q hq => ?_⟩
  · rw [e q hq]
    obtain ⟨c1, c2, c3, c4, _⟩ := h4 q (hl q hq)
    exact ⟨c1, c2, c3, c4⟩
  · rw [h3, hI]; rfl
  · rw [h3j, hJ]; rfl
  · have := (f (4, 14, 60) (by decide)).1; rw [this]; rfl
  · have := (f (5, 13, 60) (by decide)).2; rw [this]; rfl
  · rw [e q hq]; exact (h5 q (hl q hq)).1
set_option maxRecDepth 20000 in
set_option maxHeartbeats 4000000 in
theorem m_init (g : gl_T) {S : hs_T} {n k m : Nat} (hm : m ∈ hs_L S ∧ hs_K S m = 10) (hI : hs_I S m = fun _ => 0) (hJ : hs_J S m = fun _ => 0) (hn : n + 30 ≤ ex_NM) (hk : k + 30000 ≤ ex_KM) : ex_M g 1 mX10_init [.ref m] S n k (fun r S' n' k' => r = .inl none ∧ ∃ ad, RM S' m ad s_0 ∧ (∀ q ∈ mb_T, ad q.1 ∉ hs_L S) ∧ hs_fr S S' [m] ∧ n' = n + 21 ∧ k' = k + 20570) := by
  have hI0 : IN S S m (fun _ => 0) (fun _ => 0) [] := ⟨⟨hm.1, hm.2, hI, rfl⟩, fun q hq => absurd hq (by simp), fun q hq => absurd hq (by simp), fun q hq => absurd hq (by simp), hs_fr_rf _ _⟩
  refine ex_enter (by decide +kernel) (Nat.le_of_ble_eq_true rfl) ?_
  show ex_W _ _ _ _ 0 [(0, .ref m)] [] _ _ _
  refine ex_aload_n dX10_init_0 0 rfl ?_
  refine ex_objInit dX10_init_1 oi_X10_1 (by decide) (Nat.le_of_ble_eq_true rfl) ?_
  refine ex_aload_n dX10_init_4 0 rfl ?_
  refine ex_bipush (v := 60) dX10_init_5 (by decide) ?_
  refine ex_newZ (N := 60) dX10_init_7 aw_boolean rfl (by decide) (by omega) (by omega) (fun q7 hq7 => ?_)
  refine ex_putR dX10_init_9 fl_X10_9 (pf_X10_9 rfl rfl) (Or.inr ⟨_, rfl⟩) (hs_new_o _ _ hq7 hI0.1.1).1 ((hs_new_o _ _ hq7 hI0.1.1).2.1.trans hI0.1.2.1) ?_
  have hI1 := IN_step hI0 hq7 4 14 60 (by decide)
  generalize hs_sR (hs_new S q7 14 60) m 4 (some q7) = S1 at hI1 ⊢
  clear hI0
  refine ex_aload_n dX10_init_12 0 rfl ?_
  refine ex_bipush (v := 60) dX10_init_13 (by decide) ?_
  refine ex_newJ (N := 60) dX10_init_15 aw_long rfl (by decide) (by omega) (by omega) (fun q15 hq15 => ?_)
  refine ex_putR dX10_init_17 fl_X10_13 (pf_X10_13 rfl rfl) (Or.inr ⟨_, rfl⟩) (hs_new_o _ _ hq15 hI1.1.1).1 ((hs_new_o _ _ hq15 hI1.1.1).2.1.trans hI1.1.2.1) ?_
  have hI2 := IN_step hI1 hq15 5 13 60 (by decide)
  generalize hs_sR (hs_new S1 q15 13 60) m 5 (some q15) = S2 at hI2 ⊢
  clear hI1
  refine ex_aload_n dX10_init_20 0 rfl ?_
  refine ex_sipush (v := 1500) dX10_init_21 (by decide) ?_
  refine ex_newI (N := 1500) dX10_init_24 aw_int rfl (by decide) (by omega) (by omega) (fun q24 hq24 => ?_)
  refine ex_putR dX10_init_26 fl_X10_17 (pf_X10_17 rfl rfl) (Or.inr ⟨_, rfl⟩) (hs_new_o _ _ hq24 hI2.1.1).1 ((hs_new_o _ _ hq24 hI2.1.1).2.1.trans hI2.1.2.1) ?_
  have hI3 := IN_step hI2 hq24 6 12 1500 (by decide)
  generalize hs_sR (hs_new S2 q24 12 1500) m 6 (some q24) = S3 at hI3 ⊢
  clear hI2
  refine ex_aload_n dX10_init_29 0 rfl ?_
  refine ex_sipush (v := 1500) dX10_init_30 (by decide) ?_
  refine ex_newI (N := 1500) dX10_init_33 aw_int rfl (by decide) (by omega) (by omega) (fun q33 hq33 => ?_)
  refine ex_putR dX10_init_35 fl_X10_21 (pf_X10_21 rfl rfl) (Or.inr ⟨_, rfl⟩) (hs_new_o _ _ hq33 hI3.1.1).1 ((hs_new_o _ _ hq33 hI3.1.1).2.1.trans hI3.1.2.1) ?_
  have hI4 := IN_step hI3 hq33 7 12 1500 (by decide)
  generalize hs_sR (hs_new S3 q33 12 1500) m 7 (some q33) = S4 at hI4 ⊢
  clear hI3
  refine ex_aload_n dX10_init_38 0 rfl ?_
  refine ex_sipush (v := 1500) dX10_init_39 (by decide) ?_
  refine ex_newI (N := 1500) dX10_init_42 aw_int rfl (by decide) (by omega) (by omega) (fun q42 hq42 => ?_)
  refine ex_putR dX10_init_44 fl_X10_24 (pf_X10_24 rfl rfl) (Or.inr ⟨_, rfl⟩) (hs_new_o _ _ hq42 hI4.1.1).1 ((hs_new_o _ _ hq42 hI4.1.1).2.1.trans hI4.1.2.1) ?_
  have hI5 := IN_step hI4 hq42 8 12 1500 (by decide)
  generalize hs_sR (hs_new S4 q42 12 1500) m 8 (some q42) = S5 at hI5 ⊢
  clear hI4
  refine ex_aload_n dX10_init_47 0 rfl ?_
  refine ex_sipush (v := 1500) dX10_init_48 (by decide) ?_
  refine ex_newI (N := 1500) dX10_init_51 aw_int rfl (by decide) (by omega) (by omega) (fun q51 hq51 => ?_)
  refine ex_putR dX10_init_53 fl_X10_27 (pf_X10_27 rfl rfl) (Or.inr ⟨_, rfl⟩) (hs_new_o _ _ hq51 hI5.1.1).1 ((hs_new_o _ _ hq51 hI5.1.1).2.1.trans hI5.1.2.1) ?_
  have hI6 := IN_step hI5 hq51 9 12 1500 (by decide)
  generalize hs_sR (hs_new S5 q51 12 1500) m 9 (some q51) = S6 at hI6 ⊢
  clear hI5
  refine ex_aload_n dX10_init_56 0 rfl ?_
  refine ex_sipush (v := 1500) dX10_init_57 (by decide) ?_
  refine ex_newI (N := 1500) dX10_init_60 aw_int rfl (by decide) (by omega) (by omega) (fun q60 hq60 => ?_)
  refine ex_putR dX10_init_62 fl_X10_30 (pf_X10_30 rfl rfl) (Or.inr ⟨_, rfl⟩) (hs_new_o _ _ hq60 hI6.1.1).1 ((hs_new_o _ _ hq60 hI6.1.1).2.1.trans hI6.1.2.1) ?_
  have hI7 := IN_step hI6 hq60 10 12 1500 (by decide)
  generalize hs_sR (hs_new S6 q60 12 1500) m 10 (some q60) = S7 at hI7 ⊢
  clear hI6
  refine ex_aload_n dX10_init_65 0 rfl ?_
  refine ex_sipush (v := 400) dX10_init_66 (by decide) ?_
  refine ex_newB (N := 400) dX10_init_69 aw_byte rfl (by decide) (by omega) (by omega) (fun q69 hq69 => ?_)
  refine ex_putR dX10_init_71 fl_X10_33 (pf_X10_33 rfl rfl) (Or.inr ⟨_, rfl⟩) (hs_new_o _ _ hq69 hI7.1.1).1 ((hs_new_o _ _ hq69 hI7.1.1).2.1.trans hI7.1.2.1) ?_
  have hI8 := IN_step hI7 hq69 12 11 400 (by decide)
  generalize hs_sR (hs_new S7 q69 11 400) m 12 (some q69) = S8 at hI8 ⊢
  clear hI7
  refine ex_aload_n dX10_init_74 0 rfl ?_
  refine ex_iconst (v := (-1)) dX10_init_75 (by decide) ?_
  refine ex_putI dX10_init_76 fl_X10_37 (pf_X10_37 _) hI8.1.1 hI8.1.2.1 ?_
  have hI9 := IN_int hI8 17 (-1)
  generalize hs_sI S8 m 17 (-1) = S9 at hI9 ⊢
  clear hI8
  refine ex_aload_n dX10_init_79 0 rfl ?_
  refine ex_bipush (v := 20) dX10_init_80 (by decide) ?_
  refine ex_newI (N := 20) dX10_init_82 aw_int rfl (by decide) (by omega) (by omega) (fun q82 hq82 => ?_)
  refine ex_putR dX10_init_84 fl_X10_41 (pf_X10_41 rfl rfl) (Or.inr ⟨_, rfl⟩) (hs_new_o _ _ hq82 hI9.1.1).1 ((hs_new_o _ _ hq82 hI9.1.1).2.1.trans hI9.1.2.1) ?_
  have hI10 := IN_step hI9 hq82 18 12 20 (by decide)
  generalize hs_sR (hs_new S9 q82 12 20) m 18 (some q82) = S10 at hI10 ⊢
  clear hI9
  refine ex_aload_n dX10_init_87 0 rfl ?_
  refine ex_bipush (v := 20) dX10_init_88 (by decide) ?_
  refine ex_newI (N := 20) dX10_init_90 aw_int rfl (by decide) (by omega) (by omega) (fun q90 hq90 => ?_)
  refine ex_putR dX10_init_92 fl_X10_44 (pf_X10_44 rfl rfl) (Or.inr ⟨_, rfl⟩) (hs_new_o _ _ hq90 hI10.1.1).1 ((hs_new_o _ _ hq90 hI10.1.1).2.1.trans hI10.1.2.1) ?_
  have hI11 := IN_step hI10 hq90 19 12 20 (by decide)
  generalize hs_sR (hs_new S10 q90 12 20) m 19 (some q90) = S11 at hI11 ⊢
  clear hI10
  refine ex_aload_n dX10_init_95 0 rfl ?_
  refine ex_sipush (v := 210) dX10_init_96 (by decide) ?_
  refine ex_newI (N := 210) dX10_init_99 aw_int rfl (by decide) (by omega) (by omega) (fun q99 hq99 => ?_)
  refine ex_putR dX10_init_101 fl_X10_47 (pf_X10_47 rfl rfl) (Or.inr ⟨_, rfl⟩) (hs_new_o _ _ hq99 hI11.1.1).1 ((hs_new_o _ _ hq99 hI11.1.1).2.1.trans hI11.1.2.1) ?_
  have hI12 := IN_step hI11 hq99 20 12 210 (by decide)
  generalize hs_sR (hs_new S11 q99 12 210) m 20 (some q99) = S12 at hI12 ⊢
  clear hI11
  refine ex_aload_n dX10_init_104 0 rfl ?_
  refine ex_sipush (v := 210) dX10_init_105 (by decide) ?_
  refine ex_newI (N := 210) dX10_init_108 aw_int rfl (by decide) (by omega) (by omega) (fun q108 hq108 => ?_)
  refine ex_putR dX10_init_110 fl_X10_50 (pf_X10_50 rfl rfl) (Or.inr ⟨_, rfl⟩) (hs_new_o _ _ hq108 hI12.1.1).1 ((hs_new_o _ _ hq108 hI12.1.1).2.1.trans hI12.1.2.1) ?_
  have hI13 := IN_step hI12 hq108 21 12 210 (by decide)
  generalize hs_sR (hs_new S12 q108 12 210) m 21 (some q108) = S13 at hI13 ⊢
  clear hI12
  refine ex_aload_n dX10_init_113 0 rfl ?_
  refine ex_sipush (v := 210) dX10_init_114 (by decide) ?_
  refine ex_newI (N := 210) dX10_init_117 aw_int rfl (by decide) (by omega) (by omega) (fun q117 hq117 => ?_)
  refine ex_putR dX10_init_119 fl_X10_53 (pf_X10_53 rfl rfl) (Or.inr ⟨_, rfl⟩) (hs_new_o _ _ hq117 hI13.1.1).1 ((hs_new_o _ _ hq117 hI13.1.1).2.1.trans hI13.1.2.1) ?_
  have hI14 := IN_step hI13 hq117 22 12 210 (by decide)
  generalize hs_sR (hs_new S13 q117 12 210) m 22 (some q117) = S14 at hI14 ⊢
  clear hI13
  refine ex_aload_n dX10_init_122 0 rfl ?_
  refine ex_bipush (v := 20) dX10_init_123 (by decide) ?_
  refine ex_newI (N := 20) dX10_init_125 aw_int rfl (by decide) (by omega) (by omega) (fun q125 hq125 => ?_)
  refine ex_putR dX10_init_127 fl_X10_56 (pf_X10_56 rfl rfl) (Or.inr ⟨_, rfl⟩) (hs_new_o _ _ hq125 hI14.1.1).1 ((hs_new_o _ _ hq125 hI14.1.1).2.1.trans hI14.1.2.1) ?_
  have hI15 := IN_step hI14 hq125 24 12 20 (by decide)
  generalize hs_sR (hs_new S14 q125 12 20) m 24 (some q125) = S15 at hI15 ⊢
  clear hI14
  refine ex_aload_n dX10_init_130 0 rfl ?_
  refine ex_sipush (v := 360) dX10_init_131 (by decide) ?_
  refine ex_newJ (N := 360) dX10_init_134 aw_long rfl (by decide) (by omega) (by omega) (fun q134 hq134 => ?_)
  refine ex_putR dX10_init_136 fl_X10_59 (pf_X10_59 rfl rfl) (Or.inr ⟨_, rfl⟩) (hs_new_o _ _ hq134 hI15.1.1).1 ((hs_new_o _ _ hq134 hI15.1.1).2.1.trans hI15.1.2.1) ?_
  have hI16 := IN_step hI15 hq134 26 13 360 (by decide)
  generalize hs_sR (hs_new S15 q134 13 360) m 26 (some q134) = S16 at hI16 ⊢
  clear hI15
  refine ex_aload_n dX10_init_139 0 rfl ?_
  refine ex_sipush (v := 2000) dX10_init_140 (by decide) ?_
  refine ex_newI (N := 2000) dX10_init_143 aw_int rfl (by decide) (by omega) (by omega) (fun q143 hq143 => ?_)
  refine ex_putR dX10_init_145 fl_X10_62 (pf_X10_62 rfl rfl) (Or.inr ⟨_, rfl⟩) (hs_new_o _ _ hq143 hI16.1.1).1 ((hs_new_o _ _ hq143 hI16.1.1).2.1.trans hI16.1.2.1) ?_
  have hI17 := IN_step hI16 hq143 28 12 2000 (by decide)
  generalize hs_sR (hs_new S16 q143 12 2000) m 28 (some q143) = S17 at hI17 ⊢
  clear hI16
  refine ex_aload_n dX10_init_148 0 rfl ?_
  refine ex_sipush (v := 2000) dX10_init_149 (by decide) ?_
  refine ex_newI (N := 2000) dX10_init_152 aw_int rfl (by decide) (by omega) (by omega) (fun q152 hq152 => ?_)
  refine ex_putR dX10_init_154 fl_X10_65 (pf_X10_65 rfl rfl) (Or.inr ⟨_, rfl⟩) (hs_new_o _ _ hq152 hI17.1.1).1 ((hs_new_o _ _ hq152 hI17.1.1).2.1.trans hI17.1.2.1) ?_
  have hI18 := IN_step hI17 hq152 29 12 2000 (by decide)
  generalize hs_sR (hs_new S17 q152 12 2000) m 29 (some q152) = S18 at hI18 ⊢
  clear hI17
  refine ex_aload_n dX10_init_157 0 rfl ?_
  refine ex_sipush (v := 2000) dX10_init_158 (by decide) ?_
  refine ex_newI (N := 2000) dX10_init_161 aw_int rfl (by decide) (by omega) (by omega) (fun q161 hq161 => ?_)
  refine ex_putR dX10_init_163 fl_X10_68 (pf_X10_68 rfl rfl) (Or.inr ⟨_, rfl⟩) (hs_new_o _ _ hq161 hI18.1.1).1 ((hs_new_o _ _ hq161 hI18.1.1).2.1.trans hI18.1.2.1) ?_
  have hI19 := IN_step hI18 hq161 30 12 2000 (by decide)
  generalize hs_sR (hs_new S18 q161 12 2000) m 30 (some q161) = S19 at hI19 ⊢
  clear hI18
  refine ex_aload_n dX10_init_166 0 rfl ?_
  refine ex_sipush (v := 2000) dX10_init_167 (by decide) ?_
  refine ex_newI (N := 2000) dX10_init_170 aw_int rfl (by decide) (by omega) (by omega) (fun q170 hq170 => ?_)
  refine ex_putR dX10_init_172 fl_X10_71 (pf_X10_71 rfl rfl) (Or.inr ⟨_, rfl⟩) (hs_new_o _ _ hq170 hI19.1.1).1 ((hs_new_o _ _ hq170 hI19.1.1).2.1.trans hI19.1.2.1) ?_
  have hI20 := IN_step hI19 hq170 31 12 2000 (by decide)
  generalize hs_sR (hs_new S19 q170 12 2000) m 31 (some q170) = S20 at hI20 ⊢
  clear hI19
  refine ex_aload_n dX10_init_175 0 rfl ?_
  refine ex_sipush (v := 2000) dX10_init_176 (by decide) ?_
  refine ex_newI (N := 2000) dX10_init_179 aw_int rfl (by decide) (by omega) (by omega) (fun q179 hq179 => ?_)
  refine ex_putR dX10_init_181 fl_X10_74 (pf_X10_74 rfl rfl) (Or.inr ⟨_, rfl⟩) (hs_new_o _ _ hq179 hI20.1.1).1 ((hs_new_o _ _ hq179 hI20.1.1).2.1.trans hI20.1.2.1) ?_
  have hI21 := IN_step hI20 hq179 32 12 2000 (by decide)
  generalize hs_sR (hs_new S20 q179 12 2000) m 32 (some q179) = S21 at hI21 ⊢
  clear hI20
  refine ex_aload_n dX10_init_184 0 rfl ?_
  refine ex_sipush (v := 1500) dX10_init_185 (by decide) ?_
  refine ex_newI (N := 1500) dX10_init_188 aw_int rfl (by decide) (by omega) (by omega) (fun q188 hq188 => ?_)
  refine ex_putR dX10_init_190 fl_X10_77 (pf_X10_77 rfl rfl) (Or.inr ⟨_, rfl⟩) (hs_new_o _ _ hq188 hI21.1.1).1 ((hs_new_o _ _ hq188 hI21.1.1).2.1.trans hI21.1.2.1) ?_
  have hI22 := IN_step hI21 hq188 35 12 1500 (by decide)
  generalize hs_sR (hs_new S21 q188 12 1500) m 35 (some q188) = S22 at hI22 ⊢
  clear hI21
  exact ex_vrt rfl dX10_init_193 ⟨rfl, _, (IN_RM hI22 (by decide) rfl hJ).1, (IN_RM hI22 (by decide) rfl hJ).2, hI22.2.2.2.2, rfl, rfl⟩
