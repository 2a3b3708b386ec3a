theorem fd_none {α : Type} (p : α → Bool) (d : α) : ∀ ls : List α, (∀ j, j < ls.length → p (ls.getD j d) = false) → ls.find? p = none
  | [], _ => rfl
  | x :: xs, h => by
    have h0 := h 0 (by simp)
    simp at h0
    rw [List.find?_cons, h0]
    exact fd_none p d xs (fun j hj => by simpa using h (j + 1) (by simpa using hj))
theorem fd_some {α : Type} (p : α → Bool) (d : α) : ∀ (ls : List α) (j : Nat), j < ls.length → p (ls.getD j d) = true → (∀ i, i < j → p (ls.getD i d) = false) → ls.find? p = some (ls.getD j d)
  | [], _, h, _, _ => absurd h (by simp)
  | x :: xs, 0, _, h, _ => by simp at h; simp [List.find?_cons, h]
  | x :: xs, j + 1, hj, h, hb => by
    have h0 := hb 0 (by omega)
    simp at h0
    rw [List.find?_cons, h0]
    simpa using fd_some p d xs j (by simpa using hj) (by simpa using h) (fun i hi => by simpa using hb (i + 1) (by omega))
theorem bf_1 {P : Nat → Prop} {i : Nat} (h : ∀ j, j < i → P j) (hi : P i) : ∀ j, j < i + 1 → P j := fun j hj => by
  rcases Nat.lt_succ_iff_lt_or_eq.mp hj with q | q
  · exact h j q
  · rw [q]; exact hi
/-- a line has a bond on a day -/
def ln_on (x y : Int32) (l : li_T) : Bool := decide (nI l.1 ≤ x ∧ x ≤ nI l.2.1 ∧ nI l.2.2.2.1 ≤ y ∧ (l.2.2.2.2 = none ∨ y < eN l.2.2.2.2))
def ln_wh : Option li_T → Int32
  | some l => nI l.2.2.1
  | none => -1
def sp_held (s : st_T) (x y : Int32) : Nat × Value × st_T := (0, .int (ln_wh ((s_ls s).find? (ln_on x y))), s)
set_option maxRecDepth 20000 in
set_option maxHeartbeats 2000000 in
theorem m_held_l {g : gl_T} {S S1 : hs_T} {n k m : Nat} {ad : Nat → Nat} {s : st_T} {x y : Int32} (hB : MB S1 m ad) (hML : ML S1 m ad (s_ls s)) (ht1 : hs_I S1 m 0 = nI 0) (h1 : RM S1 m ad s) (hF1 : MF S S1 m ad) : ∀ t i, i ≤ (s_ls s).length → (s_ls s).length < i + t → (∀ j, j < i → ln_on x y (ln_at (s_ls s) j) = false) →
    ex_W g 0 mX10_held (mp S m ad n k (sp_held s x y)) 7 [(3, .int (nI i)), (0, .ref m), (1, .int x), (2, .int y)] [] S1 n k := by
  have hl := hML.2.1
  intro t
  induction t with
  | zero => intro i h1 h2; exact absurd h2 (by omega)
  | succ t ih =>
    intro i hi1 hi2 hbf
    refine ex_iload_n dX10_held_7 0 rfl ?_
    refine ex_aload_n dX10_held_8 1 rfl ?_
    refine ex_getI dX10_held_9 fl_X10_90 hB.1.1 hB.1.2 ?_
    refine ex_icmp_ge (tgt := 78) dX10_held_12 (by decide) (fun c12 => ?_) (fun c12 => ?_)
    · have hil : i = (s_ls s).length := by have := (nI_leI (by omega) (by omega)).mp (hML.1 ▸ c12); omega
      subst hil
      refine ex_iconst (v := (-1)) dX10_held_78 (by decide) ?_
      exact ex_irt rfl dX10_held_79 (mp_i (c := 0) (s' := s) (by unfold sp_held; rw [fd_none (ln_on x y) _ (s_ls s) hbf]; rfl) ht1 h1 hF1)
    · have hil : i < (s_ls s).length := by
        rcases Nat.lt_or_ge i (s_ls s).length with q | q
        · exact q
        · exact absurd (by rw [hML.1]; exact nI_le q (by omega)) c12
      obtain ⟨hok, h6, h7, h8, h9, h10⟩ := hML.2.2 i hil
      refine ex_aload_n dX10_held_15 1 rfl ?_
      refine ex_getR (b := ad 6) dX10_held_16 fl_X10_17 hB.1.1 hB.1.2 (mb_6 hB).1 ?_
      refine ex_iload_n dX10_held_19 0 rfl ?_
      refine ex_iald (j := i) dX10_held_20 (mb_6 hB).2.1 (mb_6 hB).2.2.1 rfl (Nat.lt_of_lt_of_eq (show i < 1500 by omega) (mb_6 hB).2.2.2.symm) (show i < 2 ^ 31 by omega) ?_
      refine ex_iload_n dX10_held_21 2 rfl ?_
      refine ex_icmp_gt (tgt := 72) dX10_held_22 (by decide) (fun c22 => ?_) (fun c22 => ?_)
      · 
        refine ex_iinc (v := nI (i + 1)) 0 [(3, .int (nI (i + 1))), (0, .ref m), (1, .int x), (2, .int y)] dX10_held_72 rfl (nI_1 i) (by decide) rfl ?_
        refine ex_goto (tgt := 7) dX10_held_75 (by decide) ?_
        have hoff : ln_on x y (ln_at (s_ls s) i) = false := (by unfold ln_on; refine decide_eq_false (fun z => ?_); obtain ⟨z1, z2, z3, z4⟩ := z; simp only [h6, h7, h9, h10, i_lt, i_le] at *; first | omega | exact z4.elim (fun z4 => c52 ((eN_m1 hok.2.2.2.2).mpr z4)) (fun z4 => by omega))
        exact ih (i + 1) (by omega) (by omega) (bf_1 hbf hoff)
      · refine ex_aload_n dX10_held_25 1 rfl ?_
        refine ex_getR (b := ad 7) dX10_held_26 fl_X10_21 hB.1.1 hB.1.2 (mb_7 hB).1 ?_
        refine ex_iload_n dX10_held_29 0 rfl ?_
        refine ex_iald (j := i) dX10_held_30 (mb_7 hB).2.1 (mb_7 hB).2.2.1 rfl (Nat.lt_of_lt_of_eq (show i < 1500 by omega) (mb_7 hB).2.2.2.symm) (show i < 2 ^ 31 by omega) ?_
        refine ex_iload_n dX10_held_31 2 rfl ?_
        refine ex_icmp_lt (tgt := 72) dX10_held_32 (by decide) (fun c32 => ?_) (fun c32 => ?_)
        · 
          refine ex_iinc (v := nI (i + 1)) 0 [(3, .int (nI (i + 1))), (0, .ref m), (1, .int x), (2, .int y)] dX10_held_72 rfl (nI_1 i) (by decide) rfl ?_
          refine ex_goto (tgt := 7) dX10_held_75 (by decide) ?_
          have hoff : ln_on x y (ln_at (s_ls s) i) = false := (by unfold ln_on; refine decide_eq_false (fun z => ?_); obtain ⟨z1, z2, z3, z4⟩ := z; simp only [h6, h7, h9, h10, i_lt, i_le] at *; first | omega | exact z4.elim (fun z4 => c52 ((eN_m1 hok.2.2.2.2).mpr z4)) (fun z4 => by omega))
          exact ih (i + 1) (by omega) (by omega) (bf_1 hbf hoff)
        · refine ex_aload_n dX10_held_35 1 rfl ?_
          refine ex_getR (b := ad 9) dX10_held_36 fl_X10_27 hB.1.1 hB.1.2 (mb_9 hB).1 ?_
          refine ex_iload_n dX10_held_39 0 rfl ?_
          refine ex_iald (j := i) dX10_held_40 (mb_9 hB).2.1 (mb_9 hB).2.2.1 rfl (Nat.lt_of_lt_of_eq (show i < 1500 by omega) (mb_9 hB).2.2.2.symm) (show i < 2 ^ 31 by omega) ?_
          refine ex_iload_n dX10_held_41 3 rfl ?_
          refine ex_icmp_gt (tgt := 72) dX10_held_42 (by decide) (fun c42 => ?_) (fun c42 => ?_)
          · 
            refine ex_iinc (v := nI (i + 1)) 0 [(3, .int (nI (i + 1))), (0, .ref m), (1, .int x), (2, .int y)] dX10_held_72 rfl (nI_1 i) (by decide) rfl ?_
            refine ex_goto (tgt := 7) dX10_held_75 (by decide) ?_
            have hoff : ln_on x y (ln_at (s_ls s) i) = false := (by unfold ln_on; refine decide_eq_false (fun z => ?_); obtain ⟨z1, z2, z3, z4⟩ := z; simp only [h6, h7, h9, h10, i_lt, i_le] at *; first | omega | exact z4.elim (fun z4 => c52 ((eN_m1 hok.2.2.2.2).mpr z4)) (fun z4 => by omega))
            exact ih (i + 1) (by omega) (by omega) (bf_1 hbf hoff)
          · refine ex_aload_n dX10_held_45 1 rfl ?_
            refine ex_getR (b := ad 10) dX10_held_46 fl_X10_30 hB.1.1 hB.1.2 (mb_10 hB).1 ?_
            refine ex_iload_n dX10_held_49 0 rfl ?_
            refine ex_iald (j := i) dX10_held_50 (mb_10 hB).2.1 (mb_10 hB).2.2.1 rfl (Nat.lt_of_lt_of_eq (show i < 1500 by omega) (mb_10 hB).2.2.2.symm) (show i < 2 ^ 31 by omega) ?_
            refine ex_iconst (v := (-1)) dX10_held_51 (by decide) ?_
            refine ex_icmp_eq (tgt := 65) dX10_held_52 (by decide) (fun c52 => ?_) (fun c52 => ?_)
            · refine ex_aload_n dX10_held_65 1 rfl ?_
              refine ex_getR (b := ad 8) dX10_held_66 fl_X10_24 hB.1.1 hB.1.2 (mb_8 hB).1 ?_
              refine ex_iload_n dX10_held_69 0 rfl ?_
              refine ex_iald (j := i) dX10_held_70 (mb_8 hB).2.1 (mb_8 hB).2.2.1 rfl (Nat.lt_of_lt_of_eq (show i < 1500 by omega) (mb_8 hB).2.2.2.symm) (show i < 2 ^ 31 by omega) ?_
              exact ex_irt rfl dX10_held_71 (mp_i (c := 0) (s' := s) (by have hon : ln_on x y (ln_at (s_ls s) i) = true := (by unfold ln_on; refine decide_eq_true ⟨by simp only [h6, i_lt, i_le] at *; omega, by simp only [h7, i_lt, i_le] at *; omega, by simp only [h9, i_lt, i_le] at *; omega, ?_⟩; first | exact Or.inl ((eN_m1 hok.2.2.2.2).mp (h10.symm.trans c52)) | (right; simp only [h10, i_lt, i_le] at *; omega)); unfold sp_held; rw [fd_some (ln_on x y) (0, 0, 0, 0, none) (s_ls s) i hil hon hbf, h8]; rfl) ht1 h1 hF1)
            · refine ex_aload_n dX10_held_55 1 rfl ?_
              refine ex_getR (b := ad 10) dX10_held_56 fl_X10_30 hB.1.1 hB.1.2 (mb_10 hB).1 ?_
              refine ex_iload_n dX10_held_59 0 rfl ?_
              refine ex_iald (j := i) dX10_held_60 (mb_10 hB).2.1 (mb_10 hB).2.2.1 rfl (Nat.lt_of_lt_of_eq (show i < 1500 by omega) (mb_10 hB).2.2.2.symm) (show i < 2 ^ 31 by omega) ?_
              refine ex_iload_n dX10_held_61 3 rfl ?_
              refine ex_icmp_le (tgt := 72) dX10_held_62 (by decide) (fun c62 => ?_) (fun c62 => ?_)
              · 
                refine ex_iinc (v := nI (i + 1)) 0 [(3, .int (nI (i + 1))), (0, .ref m), (1, .int x), (2, .int y)] dX10_held_72 rfl (nI_1 i) (by decide) rfl ?_
                refine ex_goto (tgt := 7) dX10_held_75 (by decide) ?_
                have hoff : ln_on x y (ln_at (s_ls s) i) = false := (by unfold ln_on; refine decide_eq_false (fun z => ?_); obtain ⟨z1, z2, z3, z4⟩ := z; simp only [h6, h7, h9, h10, i_lt, i_le] at *; first | omega | exact z4.elim (fun z4 => c52 ((eN_m1 hok.2.2.2.2).mpr z4)) (fun z4 => by omega))
                exact ih (i + 1) (by omega) (by omega) (bf_1 hbf hoff)
              · refine ex_aload_n dX10_held_65 1 rfl ?_
                refine ex_getR (b := ad 8) dX10_held_66 fl_X10_24 hB.1.1 hB.1.2 (mb_8 hB).1 ?_
                refine ex_iload_n dX10_held_69 0 rfl ?_
                refine ex_iald (j := i) dX10_held_70 (mb_8 hB).2.1 (mb_8 hB).2.2.1 rfl (Nat.lt_of_lt_of_eq (show i < 1500 by omega) (mb_8 hB).2.2.2.symm) (show i < 2 ^ 31 by omega) ?_
                exact ex_irt rfl dX10_held_71 (mp_i (c := 0) (s' := s) (by have hon : ln_on x y (ln_at (s_ls s) i) = true := (by unfold ln_on; refine decide_eq_true ⟨by simp only [h6, i_lt, i_le] at *; omega, by simp only [h7, i_lt, i_le] at *; omega, by simp only [h9, i_lt, i_le] at *; omega, ?_⟩; first | exact Or.inl ((eN_m1 hok.2.2.2.2).mp (h10.symm.trans c52)) | (right; simp only [h10, i_lt, i_le] at *; omega)); unfold sp_held; rw [fd_some (ln_on x y) (0, 0, 0, 0, none) (s_ls s) i hil hon hbf, h8]; rfl) ht1 h1 hF1)
set_option maxRecDepth 20000 in
set_option maxHeartbeats 4000000 in
theorem m_held (g : gl_T) {S : hs_T} {n k m : Nat} {ad : Nat → Nat} {s : st_T} (h : RM S m ad s) {x y : Int32} : ex_M g 0 mX10_held [.ref m, .int x, .int y] S n k (mp S m ad n k (sp_held s x y)) := by
  refine ex_enter (by decide +kernel) (Nat.le_of_ble_eq_true rfl) ?_
  show ex_W _ _ _ _ 0 [(0, .ref m), (1, .int x), (2, .int y)] [] _ _ _
  have hB := h.1
  refine ex_aload_n dX10_held_0 0 rfl ?_
  refine ex_iconst (v := 0) dX10_held_1 (by decide) ?_
  refine ex_putI dX10_held_2 fl_X10_80 (pf_X10_80 _) hB.1.1 hB.1.2 ?_
  have h1 := RM_mI h 0 0 (by decide)
  have ht1 : hs_I (hs_sI S m 0 0) m 0 = nI 0 := by rw [mI_mm]; rfl
  have hF1 := MF_mI (MF_rf S m ad) 0 0
  generalize hs_sI S m 0 0 = S1 at h1 ht1 hF1 ⊢
  clear h hB
  obtain ⟨hB, hMS, hMH, hML, hMT, hMR, hMN, hMD, hMW⟩ := id h1
  refine ex_iconst (v := 0) dX10_held_5 (by decide) ?_
  refine ex_istore_n [(3, .int 0), (0, .ref m), (1, .int x), (2, .int y)] dX10_held_6 (by decide) rfl ?_
  exact m_held_l hB hML ht1 h1 hF1 ((s_ls s).length + 1) 0 (by omega) (by omega) (fun j hj => absurd hj (by omega))
/-- which rule is in force, of the first i -/
def fo (rs : List ru_T) (y : Int32) : Nat → Option Nat
  | 0 => none
  | i + 1 => if nI (ru_at rs i).1 ≤ y ∧ (∀ b, fo rs y i = some b → (ru_at rs b).1 ≤ (ru_at rs i).1) then some i else fo rs y i
theorem fo_lt (rs : List ru_T) (y : Int32) : ∀ i b, fo rs y i = some b → b < i
  | 0, b, h => by cases h
  | i + 1, b, h => by
    unfold fo at h
    split at h
    · cases h; omega
    · have := fo_lt rs y i b h; omega
noncomputable def sp_force (s : st_T) (y : Int32) : Nat × Value × st_T := (0, .int (eN (fo (s_rs s) y (s_rs s).length)), s)
set_option maxRecDepth 20000 in
set_option maxHeartbeats 2000000 in
theorem m_forceOf_l {g : gl_T} {S : hs_T} {n k m : Nat} {ad : Nat → Nat} {rs : List ru_T} {y : Int32} (hB : MB S m ad) (hMR : MR S m ad rs) : ∀ t i v, i ≤ rs.length → rs.length < i + t → v = eN (fo rs y i) →
    ex_W g 0 mX10_forceOf (ex_rt (some (.int (eN (fo rs y rs.length)))) S n k) 4 [(3, .int (nI i)), (2, .int v), (0, .ref m), (1, .int y)] [] S n k := by
  have hl := hMR.2.1
  intro t
  induction t with
  | zero => intro i v h1 h2; exact absurd h2 (by omega)
  | succ t ih =>
    intro i v hi1 hi2 hv
    refine ex_iload_n dX10_forceOf_4 0 rfl ?_
    refine ex_aload_n dX10_forceOf_5 2 rfl ?_
    refine ex_getI dX10_forceOf_6 fl_X10_197 hB.1.1 hB.1.2 ?_
    refine ex_icmp_ge (tgt := 49) dX10_forceOf_9 (by decide) (fun c9 => ?_) (fun c9 => ?_)
    · have hil : i = rs.length := by have := (nI_leI (by omega) (by omega)).mp (hMR.1 ▸ c9); omega
      refine ex_iload_n dX10_forceOf_49 1 rfl ?_
      exact ex_irt rfl dX10_forceOf_50 (ex_rt_e (by rw [hv, hil]))
    · have hil : i < rs.length := by
        rcases Nat.lt_or_ge i rs.length with q | q
        · exact q
        · exact absurd (by rw [hMR.1]; exact nI_le q (by omega)) c9
      obtain ⟨⟨hd, _⟩, h18, _⟩ := hMR.2.2 i hil
      change hs_I S (ad 18) i = nI (ru_at rs i).1 at h18
      change (ru_at rs i).1 ≤ 100000 at hd
      refine ex_aload_n dX10_forceOf_12 2 rfl ?_
      refine ex_getR (b := ad 18) dX10_forceOf_13 fl_X10_41 hB.1.1 hB.1.2 (mb_18 hB).1 ?_
      refine ex_iload_n dX10_forceOf_16 0 rfl ?_
      refine ex_iald (j := i) dX10_forceOf_17 (mb_18 hB).2.1 (mb_18 hB).2.2.1 rfl (Nat.lt_of_lt_of_eq (show i < 20 by omega) (mb_18 hB).2.2.2.symm) (show i < 2 ^ 31 by omega) ?_
      refine ex_iload_n dX10_forceOf_18 3 rfl ?_
      refine ex_icmp_gt (tgt := 43) dX10_forceOf_19 (by decide) (fun c19 => ?_) (fun c19 => ?_)
      · refine ex_iinc (v := nI (i + 1)) 0 [(3, .int (nI (i + 1))), (2, .int v), (0, .ref m), (1, .int y)] dX10_forceOf_43 rfl (nI_1 i) (by decide) rfl ?_
        refine ex_goto (tgt := 4) dX10_forceOf_46 (by decide) ?_
        refine ex_lv [0, 1, 2, 3] rfl ?_
        refine ih (i + 1) _ (by omega) (by omega) ?_
        rw [hv]
        congr 1
        conv => rhs; unfold fo
        refine (if_neg (fun z => ?_)).symm
        first
          | exact absurd z.1 (by rw [← h18]; simp only [i_lt, i_le] at *; omega)
          | (have z2 := z.2 b hfb
             have z3 := nI_le z2 (by omega)
             rw [← h18, ← hb18, i_le] at z3
             simp only [i_lt] at c38
             omega)
      · refine ex_iload_n dX10_forceOf_22 1 rfl ?_
        refine ex_if_lt (tgt := 41) dX10_forceOf_23 (by decide) (fun c23 => ?_) (fun c23 => ?_)
        · refine ex_iload_n dX10_forceOf_41 0 rfl ?_
          refine ex_istore_n [(2, .int (nI i)), (3, .int (nI i)), (0, .ref m), (1, .int y)] dX10_forceOf_42 (by decide) rfl ?_
          refine ex_iinc (v := nI (i + 1)) 1 [(3, .int (nI (i + 1))), (2, .int (nI i)), (0, .ref m), (1, .int y)] dX10_forceOf_43 rfl (nI_1 i) (by decide) rfl ?_
          refine ex_goto (tgt := 4) dX10_forceOf_46 (by decide) ?_
          refine ex_lv [0, 1, 2, 3] rfl ?_
          refine ih (i + 1) _ (by omega) (by omega) ?_
          unfold fo
          rw [if_pos]
          · rfl
          · refine ⟨by rw [← h18]; simp only [i_lt, i_le] at *; omega, fun b hb => ?_⟩
            first
              | (rw [hb] at hv; rw [hv] at c23; exact absurd c23 (nI_pos (by have := fo_lt _ _ _ _ hb; omega)))
              | (rw [hfb] at hb; cases hb
                 refine (nI_leI (by omega) (by omega)).mp ?_
                 rw [← h18, ← hb18]
                 simp only [i_lt, i_le] at *; omega)
        · obtain ⟨b, hfb⟩ : ∃ b, fo rs y i = some b := by
            cases q : fo rs y i with
            | none => rw [q] at hv; rw [hv] at c23; exact absurd (by decide) c23
            | some b => exact ⟨b, rfl⟩
          have hbi := fo_lt _ _ _ _ hfb
          obtain ⟨⟨hbd, _⟩, hb18, _⟩ := hMR.2.2 b (by omega)
          change hs_I S (ad 18) b = nI (ru_at rs b).1 at hb18
          change (ru_at rs b).1 ≤ 100000 at hbd
          refine ex_aload_n dX10_forceOf_26 2 rfl ?_
          refine ex_getR (b := ad 18) dX10_forceOf_27 fl_X10_41 hB.1.1 hB.1.2 (mb_18 hB).1 ?_
          refine ex_iload_n dX10_forceOf_30 0 rfl ?_
          refine ex_iald (j := i) dX10_forceOf_31 (mb_18 hB).2.1 (mb_18 hB).2.2.1 rfl (Nat.lt_of_lt_of_eq (show i < 20 by omega) (mb_18 hB).2.2.2.symm) (show i < 2 ^ 31 by omega) ?_
          refine ex_aload_n dX10_forceOf_32 2 rfl ?_
          refine ex_getR (b := ad 18) dX10_forceOf_33 fl_X10_41 hB.1.1 hB.1.2 (mb_18 hB).1 ?_
          refine ex_iload_n dX10_forceOf_36 1 rfl ?_
          refine ex_iald (j := b) dX10_forceOf_37 (mb_18 hB).2.1 (mb_18 hB).2.2.1 (by rw [hv, hfb]; rfl) (Nat.lt_of_lt_of_eq (show b < 20 by omega) (mb_18 hB).2.2.2.symm) (show b < 2 ^ 31 by omega) ?_
          refine ex_icmp_lt (tgt := 43) dX10_forceOf_38 (by decide) (fun c38 => ?_) (fun c38 => ?_)
          · refine ex_iinc (v := nI (i + 1)) 0 [(3, .int (nI (i + 1))), (2, .int v), (0, .ref m), (1, .int y)] dX10_forceOf_43 rfl (nI_1 i) (by decide) rfl ?_
            refine ex_goto (tgt := 4) dX10_forceOf_46 (by decide) ?_
            refine ex_lv [0, 1, 2, 3] rfl ?_
            refine ih (i + 1) _ (by omega) (by omega) ?_
            rw [hv]
            congr 1
            conv => rhs; unfold fo
            refine (if_neg (fun z => ?_)).symm
            first
              | exact absurd z.1 (by rw [← h18]; simp only [i_lt, i_le] at *; omega)
              | (have z2 := z.2 b hfb
                 have z3 := nI_le z2 (by omega)
                 rw [← h18, ← hb18, i_le] at z3
                 simp only [i_lt] at c38
                 omega)
          · refine ex_iload_n dX10_forceOf_41 0 rfl ?_
            refine ex_istore_n [(2, .int (nI i)), (3, .int (nI i)), (0, .ref m), (1, .int y)] dX10_forceOf_42 (by decide) rfl ?_
            refine ex_iinc (v := nI (i + 1)) 1 [(3, .int (nI (i + 1))), (2, .int (nI i)), (0, .ref m), (1, .int y)] dX10_forceOf_43 rfl (nI_1 i) (by decide) rfl ?_
            refine ex_goto (tgt := 4) dX10_forceOf_46 (by decide) ?_
            refine ex_lv [0, 1, 2, 3] rfl ?_
            refine ih (i + 1) _ (by omega) (by omega) ?_
            unfold fo
            rw [if_pos]
            · rfl
            · refine ⟨by rw [← h18]; simp only [i_lt, i_le] at *; omega, fun b hb => ?_⟩
              first
                | (rw [hb] at hv; rw [hv] at c23; exact absurd c23 (nI_pos (by have := fo_lt _ _ _ _ hb; omega)))
                | (rw [hfb] at hb; cases hb
                   refine (nI_leI (by omega) (by omega)).mp ?_
                   rw [← h18, ← hb18]
                   simp only [i_lt, i_le] at *; omega)
set_option maxRecDepth 20000 in
set_option maxHeartbeats 2000000 in
theorem m_forceOf (g : gl_T) {S : hs_T} {n k : Nat} {m : Nat} {ad : Nat → Nat} {rs : List ru_T} {y : Int32} (hB : MB S m ad) (hMR : MR S m ad rs) : ex_M g 0 mX10_forceOf [.ref m, .int y] S n k (ex_rt (some (.int (eN (fo rs y rs.length)))) S n k) := by
  refine ex_enter (by decide +kernel) (Nat.le_of_ble_eq_true rfl) ?_
  show ex_W _ _ _ _ 0 [(0, .ref m), (1, .int y)] [] _ _ _
  refine ex_iconst (v := (-1)) dX10_forceOf_0 (by decide) ?_
  refine ex_istore_n [(2, .int (-1)), (0, .ref m), (1, .int y)] dX10_forceOf_1 (by decide) rfl ?_
  refine ex_iconst (v := 0) dX10_forceOf_2 (by decide) ?_
  refine ex_istore_n [(3, .int 0), (2, .int (-1)), (0, .ref m), (1, .int y)] dX10_forceOf_3 (by decide) rfl ?_
  refine ex_lv [0, 1, 2, 3] rfl ?_
  exact m_forceOf_l hB hMR (rs.length + 1) 0 _ (by omega) (by omega) rfl
set_option maxRecDepth 20000 in
set_option maxHeartbeats 4000000 in
theorem m_force (g : gl_T) {S : hs_T} {n k m : Nat} {ad : Nat → Nat} {s : st_T} (h : RM S m ad s) {y : Int32} : ex_M g 1 mX10_force [.ref m, .int y] S n k (mp S m ad n k (sp_force s y)) := by
  refine ex_enter (by decide +kernel) (Nat.le_of_ble_eq_true rfl) ?_
  show ex_W _ _ _ _ 0 [(0, .ref m), (1, .int y)] [] _ _ _
  have hB := h.1
  refine ex_aload_n dX10_force_0 0 rfl ?_
  refine ex_iconst (v := 0) dX10_force_1 (by decide) ?_
  refine ex_putI dX10_force_2 fl_X10_80 (pf_X10_80 _) hB.1.1 hB.1.2 ?_
  have h1 := RM_mI h 0 0 (by decide)
  have ht1 : hs_I (hs_sI S m 0 0) m 0 = nI 0 := by rw [mI_mm]; rfl
  have hF1 := MF_mI (MF_rf S m ad) 0 0
  generalize hs_sI S m 0 0 = S1 at h1 ht1 hF1 ⊢
  clear h hB
  obtain ⟨hB, hMS, hMH, hML, hMT, hMR, hMN, hMD, hMW⟩ := id h1
  refine ex_aload_n dX10_force_5 0 rfl ?_
  refine ex_iload_n dX10_force_6 1 rfl ?_
  refine ex_cVr [.int y] [] dX10_force_7 cV_X10_203 (m_forceOf g hB hMR) hB.1.1 hB.1.2 rfl rfl rfl (by decide) (Nat.le_of_ble_eq_true rfl) rfl ?_
  exact ex_irt rfl dX10_force_10 (mp_i (c := 0) (s' := s) rfl ht1 h1 hF1)
/-- how many wins are open -/
def wo (w : wi_T) : Nat := if w.2.2.2.2.2 = 0 then 1 else 0
def ct (s : st_T) (x : Int32) : Int32 := if x = 0 then nI (s_hs s).length else if x = 1 then nI (s_sd s) else if x = 2 then nI (su (fun j => ln_go (ln_at (s_ls s) j)) (s_ls s).length) else if x = 3 then nI (s_ls s).length else if x = 4 then nI (s_rs s).length else if x = 5 then nI (s_ds s).length else if x = 6 then nI (s_ws s).length else if x = 7 then nI (su (fun j => wo (wi_at (s_ws s) j)) (s_ws s).length) else if x = 8 then nI (s_td s) else if x = 9 then nI (s_ns s).length else if x = 10 then nI (s_tp s).length else -1
def sp_count (s : st_T) (x : Int32) : Nat × Value × st_T := (0, .int (ct s x), s)
set_option maxRecDepth 20000 in
set_option maxHeartbeats 2000000 in
theorem m_count_l {g : gl_T} {S S1 : hs_T} {n k m : Nat} {ad : Nat → Nat} {s : st_T} {x : Int32} (hB : MB S1 m ad) (hMW : MW S1 m ad (s_ws s)) (hO : ∀ j, j < (s_ws s).length → wi_ok s (wi_at (s_ws s) j)) (ht1 : hs_I S1 m 0 = nI 0) (h1 : RM S1 m ad s) (hF1 : MF S S1 m ad) (hx : x = 7) : ∀ t i v, i ≤ (s_ws s).length → (s_ws s).length < i + t → v = nI (su (fun j => wo (wi_at (s_ws s) j)) i) →
    ex_W g 1 mX10_count (mp S m ad n k (sp_count s x)) 104 [(3, .int (nI i)), (2, .int v), (0, .ref m), (1, .int x)] [] S1 n k := by
  have hl := hMW.2.1
  intro t
  induction t with
  | zero => intro i v h1 h2; exact absurd h2 (by omega)
  | succ t ih =>
    intro i v hi1 hi2 hv
    refine ex_iload_n dX10_count_104 0 rfl ?_
    refine ex_aload_n dX10_count_105 2 rfl ?_
    refine ex_getI dX10_count_106 fl_X10_121 hB.1.1 hB.1.2 ?_
    refine ex_icmp_ge (tgt := 135) dX10_count_109 (by decide) (fun c109 => ?_) (fun c109 => ?_)
    · have hil : i = (s_ws s).length := by have := (nI_leI (by omega) (by omega)).mp (hMW.1 ▸ c109); omega
      refine ex_iload_n dX10_count_135 1 rfl ?_
      exact ex_irt rfl dX10_count_136 (mp_i (c := 0) (s' := s) (by unfold sp_count ct; rw [hv, hil, hx]; rfl) ht1 h1 hF1)
    · have hil : i < (s_ws s).length := by
        rcases Nat.lt_or_ge i (s_ws s).length with q | q
        · exact q
        · exact absurd (by rw [hMW.1]; exact nI_le q (by omega)) c109
      obtain ⟨_, _, _, _, h32⟩ := hMW.2.2 i hil
      change hs_I S1 (ad 32) i = nI (wi_at (s_ws s) i).2.2.2.2.2 at h32
      refine ex_iload_n dX10_count_112 1 rfl ?_
      refine ex_aload_n dX10_count_113 2 rfl ?_
      refine ex_getR (b := ad 32) dX10_count_114 fl_X10_74 hB.1.1 hB.1.2 (mb_32 hB).1 ?_
      refine ex_iload_n dX10_count_117 0 rfl ?_
      refine ex_iald (j := i) dX10_count_118 (mb_32 hB).2.1 (mb_32 hB).2.2.1 rfl (Nat.lt_of_lt_of_eq (show i < 2000 by omega) (mb_32 hB).2.2.2.symm) (show i < 2 ^ 31 by omega) ?_
      refine ex_if_ne (tgt := 126) dX10_count_119 (by decide) (fun c119 => ?_) (fun c119 => ?_)
      · refine ex_iconst (v := 0) dX10_count_126 (by decide) ?_
        refine ex_iadd dX10_count_127 ?_
        refine ex_istore_n [(2, .int (v + 0)), (3, .int (nI i)), (0, .ref m), (1, .int x)] dX10_count_128 (by decide) rfl ?_
        refine ex_iinc (v := nI (i + 1)) 1 [(3, .int (nI (i + 1))), (2, .int (v + 0)), (0, .ref m), (1, .int x)] dX10_count_129 rfl (nI_1 i) (by decide) rfl ?_
        refine ex_goto (tgt := 104) dX10_count_132 (by decide) ?_
        refine ex_lv [0, 1, 2, 3] rfl ?_
        refine ih (i + 1) _ (by omega) (by omega) ?_
        rw [hv]
        show nI _ + _ = nI (su _ i + wo _)
        rw [← nI_add]
        congr 1
        unfold wo
        first
          | rw [if_pos ((nI_eq (b := 0) (by have := (hO i hil).2.2.2.2.2.2; omega) (by decide)).mp (h32.symm.trans c119))]; rfl
          | rw [if_neg (fun z => c119 (h32.trans (by rw [z]; rfl)))]; rfl
      · refine ex_iconst (v := 1) dX10_count_122 (by decide) ?_
        refine ex_goto (tgt := 127) dX10_count_123 (by decide) ?_
        refine ex_iadd dX10_count_127 ?_
        refine ex_istore_n [(2, .int (v + 1)), (3, .int (nI i)), (0, .ref m), (1, .int x)] dX10_count_128 (by decide) rfl ?_
        refine ex_iinc (v := nI (i + 1)) 1 [(3, .int (nI (i + 1))), (2, .int (v + 1)), (0, .ref m), (1, .int x)] dX10_count_129 rfl (nI_1 i) (by decide) rfl ?_
        refine ex_goto (tgt := 104) dX10_count_132 (by decide) ?_
        refine ex_lv [0, 1, 2, 3] rfl ?_
        refine ih (i + 1) _ (by omega) (by omega) ?_
        rw [hv]
        show nI _ + _ = nI (su _ i + wo _)
        rw [← nI_add]
        congr 1
        unfold wo
        first
          | rw [if_pos ((nI_eq (b := 0) (by have := (hO i hil).2.2.2.2.2.2; omega) (by decide)).mp (h32.symm.trans c119))]; rfl
          | rw [if_neg (fun z => c119 (h32.trans (by rw [z]; rfl)))]; rfl
set_option maxRecDepth 20000 in
set_option maxHeartbeats 4000000 in
theorem m_count (g : gl_T) {S : hs_T} {n k m : Nat} {ad : Nat → Nat} {s : st_T} (h : RM S m ad s) (hO : ∀ j, j < (s_ws s).length → wi_ok s (wi_at (s_ws s) j)) {x : Int32} : ex_M g 1 mX10_count [.ref m, .int x] S n k (mp S m ad n k (sp_count s x)) := by
  refine ex_enter (by decide +kernel) (Nat.le_of_ble_eq_true rfl) ?_
  show ex_W _ _ _ _ 0 [(0, .ref m), (1, .int x)] [] _ _ _
  have hB := h.1
  refine ex_aload_n dX10_count_0 0 rfl ?_
  refine ex_iconst (v := 0) dX10_count_1 (by decide) ?_
  refine ex_putI dX10_count_2 fl_X10_80 (pf_X10_80 _) hB.1.1 hB.1.2 ?_
  have h1 := RM_mI h 0 0 (by decide)
  have ht1 : hs_I (hs_sI S m 0 0) m 0 = nI 0 := by rw [mI_mm]; rfl
  have hF1 := MF_mI (MF_rf S m ad) 0 0
  generalize hs_sI S m 0 0 = S1 at h1 ht1 hF1 ⊢
  clear h hB
  obtain ⟨hB, hMS, hMH, hML, hMT, hMR, hMN, hMD, hMW⟩ := id h1
  refine ex_iload_n dX10_count_5 1 rfl ?_
  by_cases hx : x.toInt < 0 ∨ 10 < x.toInt
  · refine ex_tableOut (tgt := 152) dX10_count_6 hx (by decide) ?_
    refine ex_iconst (v := (-1)) dX10_count_152 (by decide) ?_
    exact ex_irt rfl dX10_count_153 (mp_i (c := 0) (s' := s) (by unfold sp_count ct; repeat rw [if_neg (by intro h; subst h; simp at hx)]) ht1 h1 hF1)
  · have hsw1 : ¬ x.toInt < 0 := fun h => hx (Or.inl h)
    have hsw2 : ¬ 10 < x.toInt := fun h => hx (Or.inr h)
    rcases (show x = 0 ∨ x = 1 ∨ x = 2 ∨ x = 3 ∨ x = 4 ∨ x = 5 ∨ x = 6 ∨ x = 7 ∨ x = 8 ∨ x = 9 ∨ x = 10 by simp only [i_eq, Int32.reduceToInt]; omega) with rfl | rfl | rfl | rfl | rfl | rfl | rfl | rfl | rfl | rfl | rfl
    · refine ex_tableIn (tgt := 64) dX10_count_6 hsw1 hsw2 rfl (by decide) ?_
      refine ex_aload_n dX10_count_64 0 rfl ?_
      refine ex_getI dX10_count_65 fl_X10_83 hB.1.1 hB.1.2 ?_
      exact ex_irt rfl dX10_count_68 (mp_i (c := 0) (s' := s) (by rw [hMH.1]; rfl) ht1 h1 hF1)
    · refine ex_tableIn (tgt := 69) dX10_count_6 hsw1 hsw2 rfl (by decide) ?_
      refine ex_aload_n dX10_count_69 0 rfl ?_
      refine ex_getI dX10_count_70 fl_X10_98 hB.1.1 hB.1.2 ?_
      exact ex_irt rfl dX10_count_73 (mp_i (c := 0) (s' := s) (by rw [hMS.1.2.1]; rfl) ht1 h1 hF1)
    · refine ex_tableIn (tgt := 74) dX10_count_6 hsw1 hsw2 rfl (by decide) ?_
      refine ex_aload_n dX10_count_74 0 rfl ?_
      refine ex_cVr [] [] dX10_count_75 cV_X10_238 (m_heldNow g hB hML) hB.1.1 hB.1.2 rfl rfl rfl (by decide) (Nat.le_of_ble_eq_true rfl) rfl ?_
      refine ex_l2i dX10_count_78 ?_
      exact ex_irt rfl dX10_count_79 (mp_i (c := 0) (s' := s) (by rw [lN_i]; rfl) ht1 h1 hF1)
    · refine ex_tableIn (tgt := 80) dX10_count_6 hsw1 hsw2 rfl (by decide) ?_
      refine ex_aload_n dX10_count_80 0 rfl ?_
      refine ex_getI dX10_count_81 fl_X10_90 hB.1.1 hB.1.2 ?_
      exact ex_irt rfl dX10_count_84 (mp_i (c := 0) (s' := s) (by rw [hML.1]; rfl) ht1 h1 hF1)
    · refine ex_tableIn (tgt := 85) dX10_count_6 hsw1 hsw2 rfl (by decide) ?_
      refine ex_aload_n dX10_count_85 0 rfl ?_
      refine ex_getI dX10_count_86 fl_X10_197 hB.1.1 hB.1.2 ?_
      exact ex_irt rfl dX10_count_89 (mp_i (c := 0) (s' := s) (by rw [hMR.1]; rfl) ht1 h1 hF1)
    · refine ex_tableIn (tgt := 90) dX10_count_6 hsw1 hsw2 rfl (by decide) ?_
      refine ex_aload_n dX10_count_90 0 rfl ?_
      refine ex_getI dX10_count_91 fl_X10_218 hB.1.1 hB.1.2 ?_
      exact ex_irt rfl dX10_count_94 (mp_i (c := 0) (s' := s) (by rw [hMD.1]; rfl) ht1 h1 hF1)
    · refine ex_tableIn (tgt := 95) dX10_count_6 hsw1 hsw2 rfl (by decide) ?_
      refine ex_aload_n dX10_count_95 0 rfl ?_
      refine ex_getI dX10_count_96 fl_X10_121 hB.1.1 hB.1.2 ?_
      exact ex_irt rfl dX10_count_99 (mp_i (c := 0) (s' := s) (by rw [hMW.1]; rfl) ht1 h1 hF1)
    · refine ex_tableIn (tgt := 100) dX10_count_6 hsw1 hsw2 rfl (by decide) ?_
      refine ex_iconst (v := 0) dX10_count_100 (by decide) ?_
      refine ex_istore_n [(2, .int 0), (0, .ref m), (1, .int 7)] dX10_count_101 (by decide) rfl ?_
      refine ex_iconst (v := 0) dX10_count_102 (by decide) ?_
      refine ex_istore_n [(3, .int 0), (2, .int 0), (0, .ref m), (1, .int 7)] dX10_count_103 (by decide) rfl ?_
      refine ex_lv [0, 1, 2, 3] rfl ?_
      exact m_count_l hB hMW hO ht1 h1 hF1 rfl ((s_ws s).length + 1) 0 _ (by omega) (by omega) rfl
    · refine ex_tableIn (tgt := 137) dX10_count_6 hsw1 hsw2 rfl (by decide) ?_
      refine ex_aload_n dX10_count_137 0 rfl ?_
      refine ex_getI dX10_count_138 fl_X10_102 hB.1.1 hB.1.2 ?_
      exact ex_irt rfl dX10_count_141 (mp_i (c := 0) (s' := s) (by rw [hMS.1.1]; rfl) ht1 h1 hF1)
    · refine ex_tableIn (tgt := 142) dX10_count_6 hsw1 hsw2 rfl (by decide) ?_
      refine ex_aload_n dX10_count_142 0 rfl ?_
      refine ex_getI dX10_count_143 fl_X10_206 hB.1.1 hB.1.2 ?_
      exact ex_irt rfl dX10_count_146 (mp_i (c := 0) (s' := s) (by rw [hMN.1]; rfl) ht1 h1 hF1)
    · refine ex_tableIn (tgt := 147) dX10_count_6 hsw1 hsw2 rfl (by decide) ?_
      refine ex_aload_n dX10_count_147 0 rfl ?_
      refine ex_getI dX10_count_148 fl_X10_125 hB.1.1 hB.1.2 ?_
      exact ex_irt rfl dX10_count_151 (mp_i (c := 0) (s' := s) (by rw [hMT.1]; rfl) ht1 h1 hF1)
