/-- the day of the rule that was found -/
def fd (rs : List ru_T) (o : Option Nat) : Nat := match o with
  | none => 0
  | some b => (ru_at rs b).1
set_option maxRecDepth 20000 in
set_option maxHeartbeats 2000000 in
theorem c_force_l {g : gl_T} {S : hs_T} {n k x l tp nz : Nat} {ow : Nat → Nat} {s : st_T} {ys : List Nat} {c : Nat → Nat} (h : RC g S ow x l tp nz s ys c) (hb : BD s) {Po : ex_R} {y : Int32} (hPo : Po (.inl (some (.int (eN (fo (s_rs s) y (s_rs s).length))))) S n k) : ∀ t i u v, i ≤ (s_rs s).length → (s_rs s).length < i + t → v = eN (fo (s_rs s) y i) → u = nI (fd (s_rs s) (fo (s_rs s) y i)) → ex_W g 3 mX9_force Po 7 [(4, .int (nI i)), (3, .int u), (2, .int v), (0, .ref x), (1, .int y)] [] S n k := by
  obtain ⟨hB, hCS, hCH, hCG, hCT, hCR, hCN, hCD, hCW⟩ := id h
  obtain ⟨bd1, bd2, bd3, ⟨bd4, bd5⟩, bd6, ⟨bd7, bd8⟩, bd9, bd10, bd11, bd12⟩ := id hb
  obtain ⟨ra, ⟨a1, e1, r1, l1, o1, p1⟩, len1, f1⟩ := id hCR
  intro t
  induction t with
  | zero => intro i u v h1 h2; exact absurd h2 (by omega)
  | succ t ih =>
    intro i u v hi1 hi2 hv hu
    refine ex_iload dX9_force_7 0 rfl ?_
    refine ex_aload_n dX9_force_9 3 rfl ?_
    refine ex_getR (b := a1) dX9_force_10 fl_X9_31 hB.1.1 hB.1.2 r1 ?_
    refine ex_cVr [] [.int (nI i)] dX9_force_13 cV_X9_57 (c_szn g l1 len1) l1.1.1 l1.1.2.1 rfl rfl rfl (by decide) (Nat.le_of_ble_eq_true rfl) rfl ?_
    refine ex_icmp_ge (tgt := 60) dX9_force_16 (by decide) (fun c16 => ?_) (fun c16 => ?_)
    · have hil : i = (s_rs s).length := by have := (nI_leI (by omega) (by omega)).mp c16; omega
      refine ex_iload_n dX9_force_60 2 rfl ?_
      exact ex_irt rfl dX9_force_61 (by rw [hv, hil]; exact hPo)
    · have hil : i < (s_rs s).length := by
        rcases Nat.lt_or_ge i (s_rs s).length with q | q
        · exact q
        · exact absurd (nI_le q (by omega)) c16
      have mj := al_mem l1 (j := i) (by omega)
      obtain ⟨g0, _⟩ := f1 i hil
      have hr1 := (bd8 i hil).1
      have hfd : fd (s_rs s) (fo (s_rs s) y i) < 2 ^ 31 := by
        cases hfo : fo (s_rs s) y i with
        | none => show 0 < _; omega
        | some b => show (ru_at (s_rs s) b).1 < _; have := (bd8 b (by have := fo_lt _ _ _ _ hfo; omega)).1; omega
      refine ex_aload_n dX9_force_19 3 rfl ?_
      refine ex_getR (b := a1) dX9_force_20 fl_X9_31 hB.1.1 hB.1.2 r1 ?_
      refine ex_iload dX9_force_23 0 rfl ?_
      refine ex_cVr [.int (nI i)] [] dX9_force_25 cV_X9_103 (c_getj g l1 rfl (by omega)) l1.1.1 l1.1.2.1 rfl rfl rfl (by decide) (Nat.le_of_ble_eq_true rfl) rfl ?_
      refine ex_cast dX9_force_28 mj.1 mj.2 rfl kl_X9_152 ?_
      refine ex_getI dX9_force_31 fl_X9_169 mj.1 mj.2 ?_
      refine ex_istore [(5, .int (hs_I S (ra.getD i 0) 0)), (4, .int (nI i)), (3, .int u), (2, .int v), (0, .ref x), (1, .int y)] dX9_force_34 (by decide) rfl ?_
      refine ex_iload dX9_force_36 0 rfl ?_
      refine ex_iload_n dX9_force_38 5 rfl ?_
      refine ex_icmp_gt (tgt := 54) dX9_force_39 (by decide) (fun c39 => ?_) (fun c39 => ?_)
      · refine ex_iinc (v := nI (i + 1)) 1 [(4, .int (nI (i + 1))), (5, .int (hs_I S (ra.getD i 0) 0)), (3, .int u), (2, .int v), (0, .ref x), (1, .int y)] dX9_force_54 rfl (nI_1 i) (by decide) rfl ?_
        refine ex_goto (tgt := 7) dX9_force_57 (by decide) ?_
        refine ex_lv [0, 2, 3, 4, 5] rfl ?_
        have hfo : fo (s_rs s) y (i + 1) = fo (s_rs s) y i := by
          show (if _ then _ else _) = _
          rw [if_neg]
          rintro ⟨z1, z2⟩
          first
            | (rw [g0] at c39; simp only [i_le, i_lt, Int32.reduceToInt] at *; omega)
            | (rw [g0, hu] at c45
               have z3 := (nI_ltI (by omega) hfd).mp c45
               cases hfo : fo (s_rs s) y i with
               | none => rw [hfo] at z3; exact absurd z3 (by show ¬ _ < 0; omega)
               | some b => rw [hfo] at z3; have z4 := z2 b hfo; change _ < (ru_at (s_rs s) b).1 at z3; omega)
        exact ih (i + 1) u v (by omega) (by omega) (by rw [hfo]; exact hv) (by rw [hfo]; exact hu)
      · refine ex_iload dX9_force_42 0 rfl ?_
        refine ex_iload_n dX9_force_44 2 rfl ?_
        refine ex_icmp_lt (tgt := 54) dX9_force_45 (by decide) (fun c45 => ?_) (fun c45 => ?_)
        · refine ex_iinc (v := nI (i + 1)) 1 [(4, .int (nI (i + 1))), (5, .int (hs_I S (ra.getD i 0) 0)), (3, .int u), (2, .int v), (0, .ref x), (1, .int y)] dX9_force_54 rfl (nI_1 i) (by decide) rfl ?_
          refine ex_goto (tgt := 7) dX9_force_57 (by decide) ?_
          refine ex_lv [0, 2, 3, 4, 5] rfl ?_
          have hfo : fo (s_rs s) y (i + 1) = fo (s_rs s) y i := by
            show (if _ then _ else _) = _
            rw [if_neg]
            rintro ⟨z1, z2⟩
            first
              | (rw [g0] at c39; simp only [i_le, i_lt, Int32.reduceToInt] at *; omega)
              | (rw [g0, hu] at c45
                 have z3 := (nI_ltI (by omega) hfd).mp c45
                 cases hfo : fo (s_rs s) y i with
                 | none => rw [hfo] at z3; exact absurd z3 (by show ¬ _ < 0; omega)
                 | some b => rw [hfo] at z3; have z4 := z2 b hfo; change _ < (ru_at (s_rs s) b).1 at z3; omega)
          exact ih (i + 1) u v (by omega) (by omega) (by rw [hfo]; exact hv) (by rw [hfo]; exact hu)
        · refine ex_iload dX9_force_48 1 rfl ?_
          refine ex_istore_n [(2, .int (nI i)), (5, .int (hs_I S (ra.getD i 0) 0)), (4, .int (nI i)), (3, .int u), (0, .ref x), (1, .int y)] dX9_force_50 (by decide) rfl ?_
          refine ex_iload dX9_force_51 1 rfl ?_
          refine ex_istore_n [(3, .int (hs_I S (ra.getD i 0) 0)), (2, .int (nI i)), (5, .int (hs_I S (ra.getD i 0) 0)), (4, .int (nI i)), (0, .ref x), (1, .int y)] dX9_force_53 (by decide) rfl ?_
          refine ex_iinc (v := nI (i + 1)) 3 [(4, .int (nI (i + 1))), (3, .int (hs_I S (ra.getD i 0) 0)), (2, .int (nI i)), (5, .int (hs_I S (ra.getD i 0) 0)), (0, .ref x), (1, .int y)] dX9_force_54 rfl (nI_1 i) (by decide) rfl ?_
          refine ex_goto (tgt := 7) dX9_force_57 (by decide) ?_
          refine ex_lv [0, 1, 2, 4, 5] rfl ?_
          have hfo : fo (s_rs s) y (i + 1) = some i := by
            show (if _ then _ else _) = _
            rw [if_pos]
            refine ⟨by rw [← g0]; simp only [i_le, i_lt, Int32.reduceToInt] at *; omega, fun b hfb => ?_⟩
            have z3 : ¬ (ru_at (s_rs s) i).1 < fd (s_rs s) (fo (s_rs s) y i) := fun z => c45 (by rw [g0, hu]; exact nI_lt z hfd)
            rw [hfb] at z3
            change ¬ _ < (ru_at (s_rs s) b).1 at z3
            omega
          exact ih (i + 1) _ _ (by omega) (by omega) (by rw [hfo]; rfl) (by rw [hfo, g0]; rfl)
set_option maxRecDepth 20000 in
set_option maxHeartbeats 2000000 in
theorem c_forceOf (g : gl_T) {S : hs_T} {n k x l tp nz : Nat} {ow : Nat → Nat} {s : st_T} {ys : List Nat} {c : Nat → Nat} (h : RC g S ow x l tp nz s ys c) (hb : BD s) {y : Int32} : ex_M g 3 mX9_force [.ref x, .int y] S n k (ex_rt (some (.int (eN (fo (s_rs s) y (s_rs s).length)))) S n k) := by
  refine ex_enter (by decide +kernel) (Nat.le_of_ble_eq_true rfl) ?_
  show ex_W _ _ _ _ 0 [(0, .ref x), (1, .int y)] [] _ _ _
  refine ex_iconst (v := (-1)) dX9_force_0 (by decide) ?_
  refine ex_istore_n [(2, .int (-1)), (0, .ref x), (1, .int y)] dX9_force_1 (by decide) rfl ?_
  refine ex_iconst (v := 0) dX9_force_2 (by decide) ?_
  refine ex_istore_n [(3, .int 0), (2, .int (-1)), (0, .ref x), (1, .int y)] dX9_force_3 (by decide) rfl ?_
  refine ex_iconst (v := 0) dX9_force_4 (by decide) ?_
  refine ex_istore [(4, .int 0), (3, .int 0), (2, .int (-1)), (0, .ref x), (1, .int y)] dX9_force_5 (by decide) rfl ?_
  exact c_force_l h hb ex_rt_i ((s_rs s).length + 1) 0 _ _ (by omega) (by omega) rfl rfl
set_option maxRecDepth 20000 in
set_option maxHeartbeats 4000000 in
theorem c_force (g : gl_T) {S : hs_T} {n k x l tp nz : Nat} {ow : Nat → Nat} {s : st_T} {ys : List Nat} {c : Nat → Nat} (h : RC g S ow x l tp nz s ys c) (hb : BD s) (hO : OK s) (hn : n + 40000 ≤ ex_NM) (hk : k + 200000 ≤ ex_KM) {y : Int32} : ex_M g 3 mX9_force [.ref x, .int y] S n k (cp g S ow x l tp nz c n k (exN exS) s (sp_force s y)) := by
  refine ex_enter (by decide +kernel) (Nat.le_of_ble_eq_true rfl) ?_
  show ex_W _ _ _ _ 0 [(0, .ref x), (1, .int y)] [] _ _ _
  obtain ⟨hB, hCS, hCH, hCG, hCT, hCR, hCN, hCD, hCW⟩ := id h
  obtain ⟨bd1, bd2, bd3, ⟨bd4, bd5⟩, bd6, ⟨bd7, bd8⟩, bd9, bd10, bd11, bd12⟩ := id hb
  refine ex_iconst (v := (-1)) dX9_force_0 (by decide) ?_
  refine ex_istore_n [(2, .int (-1)), (0, .ref x), (1, .int y)] dX9_force_1 (by decide) rfl ?_
  refine ex_iconst (v := 0) dX9_force_2 (by decide) ?_
  refine ex_istore_n [(3, .int 0), (2, .int (-1)), (0, .ref x), (1, .int y)] dX9_force_3 (by decide) rfl ?_
  refine ex_iconst (v := 0) dX9_force_4 (by decide) ?_
  refine ex_istore [(4, .int 0), (3, .int 0), (2, .int (-1)), (0, .ref x), (1, .int y)] dX9_force_5 (by decide) rfl ?_
  exact c_force_l h hb (cp_s rfl h) ((s_rs s).length + 1) 0 _ _ (by omega) (by omega) rfl rfl
set_option maxRecDepth 20000 in
set_option maxHeartbeats 2000000 in
theorem c_openWins_l {g : gl_T} {S : hs_T} {n k x l tp nz : Nat} {ow : Nat → Nat} {s : st_T} {ys : List Nat} {c : Nat → Nat} (h : RC g S ow x l tp nz s ys c) (hb : BD s) (hO : OK s) : ∀ t i v, i ≤ (s_ws s).length → (s_ws s).length < i + t → v = nI (su (fun j => wo (wi_at (s_ws s) j)) i) → ex_W g 3 mX9_openWins (ex_rt (some (.int (nI (su (fun j => wo (wi_at (s_ws s) j)) (s_ws s).length)))) S n k) 4 [(2, .int (nI i)), (1, .int v), (0, .ref x)] [] S n k := by
  obtain ⟨hB, hCS, hCH, hCG, hCT, hCR, hCN, hCD, hCW⟩ := id h
  obtain ⟨bd1, bd2, bd3, ⟨bd4, bd5⟩, bd6, ⟨bd7, bd8⟩, bd9, bd10, bd11, bd12⟩ := id hb
  obtain ⟨wa, ⟨a3, e3, r3, l3, o3, p3⟩, nd3, len3, f3⟩ := id hCW
  intro t
  induction t with
  | zero => intro i v h1 h2; exact absurd h2 (by omega)
  | succ t ih =>
    intro i v hi1 hi2 hv
    refine ex_iload_n dX9_openWins_4 0 rfl ?_
    refine ex_aload_n dX9_openWins_5 2 rfl ?_
    refine ex_getR (b := a3) dX9_openWins_6 fl_X9_47 hB.1.1 hB.1.2 r3 ?_
    refine ex_cVr [] [.int (nI i)] dX9_openWins_9 cV_X9_57 (c_szn g l3 len3) l3.1.1 l3.1.2.1 rfl rfl rfl (by decide) (Nat.le_of_ble_eq_true rfl) rfl ?_
    refine ex_icmp_ge (tgt := 41) dX9_openWins_12 (by decide) (fun c12 => ?_) (fun c12 => ?_)
    · have hil : i = (s_ws s).length := by have := (nI_leI (by omega) (by omega)).mp c12; omega
      refine ex_iload_n dX9_openWins_41 1 rfl ?_
      exact ex_irt rfl dX9_openWins_42 (ex_rt_e (by rw [hv, hil]))
    · have hil : i < (s_ws s).length := by
        rcases Nat.lt_or_ge i (s_ws s).length with q | q
        · exact q
        · exact absurd (nI_le q (by omega)) c12
      have mj := al_mem l3 (j := i) (by omega)
      obtain ⟨g0, g1, g2, g3, g4, g5⟩ := f3 i hil
      refine ex_aload_n dX9_openWins_15 2 rfl ?_
      refine ex_getR (b := a3) dX9_openWins_16 fl_X9_47 hB.1.1 hB.1.2 r3 ?_
      refine ex_iload_n dX9_openWins_19 0 rfl ?_
      refine ex_cVr [.int (nI i)] [] dX9_openWins_20 cV_X9_103 (c_getj g l3 rfl (by omega)) l3.1.1 l3.1.2.1 rfl rfl rfl (by decide) (Nat.le_of_ble_eq_true rfl) rfl ?_
      refine ex_cast dX9_openWins_23 mj.1 mj.2 rfl kl_X9_111 ?_
      refine ex_getI dX9_openWins_26 fl_X9_116 mj.1 mj.2 ?_
      refine ex_if_ne (tgt := 35) dX9_openWins_29 (by decide) (fun c29 => ?_) (fun c29 => ?_)
      · refine ex_iinc (v := nI (i + 1)) 0 [(2, .int (nI (i + 1))), (1, .int v), (0, .ref x)] dX9_openWins_35 rfl (nI_1 i) (by decide) rfl ?_
        refine ex_goto (tgt := 4) dX9_openWins_38 (by decide) ?_
        refine ex_lv [0, 1, 2] rfl ?_
        refine ih (i + 1) _ (by omega) (by omega) ?_
        rw [hv]
        show nI _ = nI (su _ i + wo _)
        rw [show wo (wi_at (s_ws s) i) = 0 from if_neg (fun z => c29 (by rw [g5, z]; rfl))]
        rfl
      · refine ex_iinc (v := v + 1) 1 [(1, .int (v + 1)), (2, .int (nI i)), (0, .ref x)] dX9_openWins_32 rfl rfl (by decide) rfl ?_
        refine ex_iinc (v := nI (i + 1)) 1 [(2, .int (nI (i + 1))), (1, .int (v + 1)), (0, .ref x)] dX9_openWins_35 rfl (nI_1 i) (by decide) rfl ?_
        refine ex_goto (tgt := 4) dX9_openWins_38 (by decide) ?_
        refine ex_lv [0, 1, 2] rfl ?_
        refine ih (i + 1) _ (by omega) (by omega) ?_
        rw [hv]
        show nI _ + 1 = nI (su _ i + wo _)
        rw [show wo (wi_at (s_ws s) i) = 1 from if_pos ((nI_eq (b := 0) (by have := (hO.2.2.2.1 i hil).2.2.2.2.2.2; omega) (by decide)).mp (g5.symm.trans c29))]
        exact nI_1 _
set_option maxRecDepth 20000 in
set_option maxHeartbeats 2000000 in
theorem c_openWins (g : gl_T) {S : hs_T} {n k x l tp nz : Nat} {ow : Nat → Nat} {s : st_T} {ys : List Nat} {c : Nat → Nat} (h : RC g S ow x l tp nz s ys c) (hb : BD s) (hO : OK s) : ex_M g 3 mX9_openWins [.ref x] S n k (ex_rt (some (.int (nI (su (fun j => wo (wi_at (s_ws s) j)) (s_ws s).length)))) S n k) := by
  refine ex_enter (by decide +kernel) (Nat.le_of_ble_eq_true rfl) ?_
  show ex_W _ _ _ _ 0 [(0, .ref x)] [] _ _ _
  refine ex_iconst (v := 0) dX9_openWins_0 (by decide) ?_
  refine ex_istore_n [(1, .int 0), (0, .ref x)] dX9_openWins_1 (by decide) rfl ?_
  refine ex_iconst (v := 0) dX9_openWins_2 (by decide) ?_
  refine ex_istore_n [(2, .int 0), (1, .int 0), (0, .ref x)] dX9_openWins_3 (by decide) rfl ?_
  exact c_openWins_l h hb hO ((s_ws s).length + 1) 0 _ (by omega) (by omega) rfl
set_option maxRecDepth 20000 in
set_option maxHeartbeats 4000000 in
theorem c_count (g : gl_T) {S : hs_T} {n k x l tp nz : Nat} {ow : Nat → Nat} {s : st_T} {ys : List Nat} {c : Nat → Nat} (h : RC g S ow x l tp nz s ys c) (hb : BD s) (hO : OK s) (hn : n + 40000 ≤ ex_NM) (hk : k + 200000 ≤ ex_KM) {y : Int32} : ex_M g 6 mX9_count [.ref x, .int y] S n k (cp g S ow x l tp nz c n k (exN exS) s (sp_count s y)) := by
  refine ex_enter (by decide +kernel) (Nat.le_of_ble_eq_true rfl) ?_
  show ex_W _ _ _ _ 0 [(0, .ref x), (1, .int y)] [] _ _ _
  obtain ⟨hB, hCS, hCH, hCG, hCT, hCR, hCN, hCD, hCW⟩ := id h
  obtain ⟨bd1, bd2, bd3, ⟨bd4, bd5⟩, bd6, ⟨bd7, bd8⟩, bd9, bd10, bd11, bd12⟩ := id hb
  obtain ⟨as, ⟨a0, e0, r0, l0, o0, p0⟩, nd0, len0, f0⟩ := id hCH
  obtain ⟨ra, ⟨a1, e1, r1, l1, o1, p1⟩, len1, f1⟩ := id hCR
  obtain ⟨da, ⟨a2, e2, r2, l2, o2, p2⟩, len2, f2⟩ := id hCD
  obtain ⟨wa, ⟨a3, e3, r3, l3, o3, p3⟩, nd3, len3, f3⟩ := id hCW
  obtain ⟨la, ⟨a4, e4, r4, l4, o4, p4⟩, ⟨a5, e5, r5, l5, o5, p5⟩, nd4, len4, f4, hG⟩ := id hCG
  have hfl : ∀ i, (ln_at (s_ls s) i).1 ≤ (ln_at (s_ls s) i).2.1 := fun i => by
    by_cases z : i < (s_ls s).length
    · exact (bd5 i z).1
    · unfold ln_at; rw [List.getD_eq_getElem?_getD, List.getElem?_eq_none (by omega)]; exact Nat.le_refl _
  refine ex_iload_n dX9_count_0 1 rfl ?_
  by_cases hx : y.toInt < 0 ∨ 10 < y.toInt
  · refine ex_tableOut (tgt := 139) dX9_count_1 hx (by decide) ?_
    refine ex_iconst (v := (-1)) dX9_count_139 (by decide) ?_
    exact ex_irt rfl dX9_count_140 (cp_s (by unfold sp_count ct; repeat rw [if_neg (by intro h; subst h; simp at hx)]) h)
  · have hsw1 : ¬ y.toInt < 0 := fun h => hx (Or.inl h)
    have hsw2 : ¬ 10 < y.toInt := fun h => hx (Or.inr h)
    rcases (show y = 0 ∨ y = 1 ∨ y = 2 ∨ y = 3 ∨ y = 4 ∨ y = 5 ∨ y = 6 ∨ y = 7 ∨ y = 8 ∨ y = 9 ∨ y = 10 by simp only [i_eq, Int32.reduceToInt]; omega) with rfl | rfl | rfl | rfl | rfl | rfl | rfl | rfl | rfl | rfl | rfl
    · refine ex_tableIn (tgt := 60) dX9_count_1 hsw1 hsw2 rfl (by decide) ?_
      refine ex_aload_n dX9_count_60 0 rfl ?_
      refine ex_getR (b := a0) dX9_count_61 fl_X9_10 hB.1.1 hB.1.2 r0 ?_
      refine ex_cVr [] [] dX9_count_64 cV_X9_57 (c_szn g l0 len0) l0.1.1 l0.1.2.1 rfl rfl rfl (by decide) (Nat.le_of_ble_eq_true rfl) rfl ?_
      exact ex_irt rfl dX9_count_67 (cp_s rfl h)
    · refine ex_tableIn (tgt := 68) dX9_count_1 hsw1 hsw2 rfl (by decide) ?_
      refine ex_aload_n dX9_count_68 0 rfl ?_
      refine ex_getR (b := l) dX9_count_69 fl_X9_19 hB.1.1 hB.1.2 hB.2.1.1 ?_
      refine ex_getI dX9_count_72 fl_X9_249 hB.2.1.2.1 hB.2.1.2.2 ?_
      exact ex_irt rfl dX9_count_75 (cp_s (by rw [hCS.2.1]; rfl) h)
    · refine ex_tableIn (tgt := 76) dX9_count_1 hsw1 hsw2 rfl (by decide) ?_
      refine ex_aload_n dX9_count_76 0 rfl ?_
      refine ex_getR (b := l) dX9_count_77 fl_X9_19 hB.1.1 hB.1.2 hB.2.1.1 ?_
      refine ex_cVr [] [] dX9_count_80 cV_X9_203 (c_held g (RC_LG h hb)) hB.2.1.2.1 hB.2.1.2.2 rfl rfl rfl (by decide) (Nat.le_of_ble_eq_true rfl) rfl ?_
      exact ex_irt rfl dX9_count_83 (cp_s (by rw [← GO_H hfl hG]; rfl) h)
    · refine ex_tableIn (tgt := 84) dX9_count_1 hsw1 hsw2 rfl (by decide) ?_
      refine ex_aload_n dX9_count_84 0 rfl ?_
      refine ex_getR (b := l) dX9_count_85 fl_X9_19 hB.1.1 hB.1.2 hB.2.1.1 ?_
      refine ex_getR (b := a4) dX9_count_88 fl_X9_127 hB.2.1.2.1 hB.2.1.2.2 r4 ?_
      refine ex_cVr [] [] dX9_count_91 cV_X9_57 (c_szn g l4 len4) l4.1.1 l4.1.2.1 rfl rfl rfl (by decide) (Nat.le_of_ble_eq_true rfl) rfl ?_
      exact ex_irt rfl dX9_count_94 (cp_s rfl h)
    · refine ex_tableIn (tgt := 95) dX9_count_1 hsw1 hsw2 rfl (by decide) ?_
      refine ex_aload_n dX9_count_95 0 rfl ?_
      refine ex_getR (b := a1) dX9_count_96 fl_X9_31 hB.1.1 hB.1.2 r1 ?_
      refine ex_cVr [] [] dX9_count_99 cV_X9_57 (c_szn g l1 len1) l1.1.1 l1.1.2.1 rfl rfl rfl (by decide) (Nat.le_of_ble_eq_true rfl) rfl ?_
      exact ex_irt rfl dX9_count_102 (cp_s rfl h)
    · refine ex_tableIn (tgt := 103) dX9_count_1 hsw1 hsw2 rfl (by decide) ?_
      refine ex_aload_n dX9_count_103 0 rfl ?_
      refine ex_getR (b := a2) dX9_count_104 fl_X9_44 hB.1.1 hB.1.2 r2 ?_
      refine ex_cVr [] [] dX9_count_107 cV_X9_57 (c_szn g l2 len2) l2.1.1 l2.1.2.1 rfl rfl rfl (by decide) (Nat.le_of_ble_eq_true rfl) rfl ?_
      exact ex_irt rfl dX9_count_110 (cp_s rfl h)
    · refine ex_tableIn (tgt := 111) dX9_count_1 hsw1 hsw2 rfl (by decide) ?_
      refine ex_aload_n dX9_count_111 0 rfl ?_
      refine ex_getR (b := a3) dX9_count_112 fl_X9_47 hB.1.1 hB.1.2 r3 ?_
      refine ex_cVr [] [] dX9_count_115 cV_X9_57 (c_szn g l3 len3) l3.1.1 l3.1.2.1 rfl rfl rfl (by decide) (Nat.le_of_ble_eq_true rfl) rfl ?_
      exact ex_irt rfl dX9_count_118 (cp_s rfl h)
    · refine ex_tableIn (tgt := 119) dX9_count_1 hsw1 hsw2 rfl (by decide) ?_
      refine ex_aload_n dX9_count_119 0 rfl ?_
      refine ex_cVr [] [] dX9_count_120 cV_X9_252 (c_openWins g h hb hO) hB.1.1 hB.1.2 rfl rfl rfl (by decide) (Nat.le_of_ble_eq_true rfl) rfl ?_
      exact ex_irt rfl dX9_count_123 (cp_s rfl h)
    · refine ex_tableIn (tgt := 124) dX9_count_1 hsw1 hsw2 rfl (by decide) ?_
      refine ex_aload_n dX9_count_124 0 rfl ?_
      refine ex_getI dX9_count_125 fl_X9_54 hB.1.1 hB.1.2 ?_
      exact ex_irt rfl dX9_count_128 (cp_s (by rw [hCS.1]; rfl) h)
    · refine ex_tableIn (tgt := 129) dX9_count_1 hsw1 hsw2 rfl (by decide) ?_
      refine ex_aload_n dX9_count_129 0 rfl ?_
      refine ex_getI dX9_count_130 fl_X9_41 hB.1.1 hB.1.2 ?_
      exact ex_irt rfl dX9_count_133 (cp_s (by rw [hCN.1]; rfl) h)
    · refine ex_tableIn (tgt := 134) dX9_count_1 hsw1 hsw2 rfl (by decide) ?_
      refine ex_aload_n dX9_count_134 0 rfl ?_
      refine ex_getI dX9_count_135 fl_X9_27 hB.1.1 hB.1.2 ?_
      exact ex_irt rfl dX9_count_138 (cp_s (by rw [hCT.1]; rfl) h)
theorem nd_inj {xs : List Nat} (h : xs.Nodup) {i j : Nat} (hi : i < xs.length) (hj : j < xs.length) (e : xs.getD i 0 = xs.getD j 0) : i = j := by
  exact (List.getElem?_inj hi h).mp ((gd_some hi).trans ((congrArg some e).trans (gd_some hj).symm))
theorem CW_st {g : gl_T} {S : hs_T} {ow : Nat → Nat} {x c : Nat} {ws : List wi_T} {wa : List Nat} (hx : x ∈ hs_L S ∧ hs_K S x = 9) (hL : CL g S ow 3 x 9 8 c wa) (nd : wa.Nodup) (len : wa.length = ws.length) (f : ∀ j, j < ws.length → CWn S (wa.getD j 0) (wi_at ws j)) {j : Nat} (hj : j < ws.length) {v : Int32} {q : Nat} (hv : v = nI q) : CW g (hs_sI S (wa.getD j 0) 5 v) ow x c (ws.set j (wi_st (wi_at ws j) q)) ∧ CK ow ow [8] [] S (hs_sI S (wa.getD j 0) 5 v) := by
  have hC := CK_sI ow S (wa.getD j 0) 5 v
  rw [(CL_el hL (j := j) (by omega)).2] at hC
  refine ⟨⟨wa, CL_ck hL ⟨hx.1, Or.inl hx.2⟩ hC (by decide) (by decide) (by decide), nd, by simpa using len, fun i hi => ?_⟩, hC⟩
  simp at hi
  have h4 := f i hi
  unfold CWn at h4 ⊢
  simp only [hs_I_sI]
  unfold wi_at at h4 ⊢
  rw [gd_set _ _ _ _ _ hj]
  by_cases z : i = j
  · subst z
    simp only [if_pos, wi_st]
    simpa [hv] using ⟨h4.1, h4.2.1, h4.2.2.1, h4.2.2.2.1, h4.2.2.2.2.1⟩
  · have z2 : wa.getD i 0 ≠ wa.getD j 0 := fun y => z (nd_inj nd (by omega) (by omega) y)
    rw [List.getD_eq_getElem?_getD, List.getD_eq_getElem?_getD] at z2
    simpa [z, z2] using h4
theorem CW_ho {g : gl_T} {S : hs_T} {ow : Nat → Nat} {x c : Nat} {ws : List wi_T} {wa : List Nat} (hx : x ∈ hs_L S ∧ hs_K S x = 9) (hL : CL g S ow 3 x 9 8 c wa) (nd : wa.Nodup) (len : wa.length = ws.length) (f : ∀ j, j < ws.length → CWn S (wa.getD j 0) (wi_at ws j)) {j : Nat} (hj : j < ws.length) {v : Int32} {q : Nat} (hv : v = nI q) : CW g (hs_sI S (wa.getD j 0) 3 v) ow x c (ws.set j (wi_ho (wi_at ws j) q)) ∧ CK ow ow [8] [] S (hs_sI S (wa.getD j 0) 3 v) := by
  have hC := CK_sI ow S (wa.getD j 0) 3 v
  rw [(CL_el hL (j := j) (by omega)).2] at hC
  refine ⟨⟨wa, CL_ck hL ⟨hx.1, Or.inl hx.2⟩ hC (by decide) (by decide) (by decide), nd, by simpa using len, fun i hi => ?_⟩, hC⟩
  simp at hi
  have h4 := f i hi
  unfold CWn at h4 ⊢
  simp only [hs_I_sI]
  unfold wi_at at h4 ⊢
  rw [gd_set _ _ _ _ _ hj]
  by_cases z : i = j
  · subst z
    simp only [if_pos, wi_ho]
    simpa [hv] using ⟨h4.1, h4.2.1, h4.2.2.1, h4.2.2.2.2.1, h4.2.2.2.2.2⟩
  · have z2 : wa.getD i 0 ≠ wa.getD j 0 := fun y => z (nd_inj nd (by omega) (by omega) y)
    rw [List.getD_eq_getElem?_getD, List.getD_eq_getElem?_getD] at z2
    simpa [z, z2] using h4
theorem CH_pay {g : gl_T} {S : hs_T} {ow : Nat → Nat} {x c : Nat} {hs : List (Nat × Nat)} {as : List Nat} (hx : x ∈ hs_L S ∧ hs_K S x = 9) (hL : CL g S ow 0 x 0 3 c as) (nd : as.Nodup) (len : as.length = hs.length) (f : ∀ j, j < hs.length → hs_I S (as.getD j 0) 0 = nI (hd_at hs j).1 ∧ hs_J S (as.getD j 0) 1 = lN (hd_at hs j).2) {j : Nat} (hj : j < hs.length) {v : Int64} {q : Nat} (hv : v = lN q) : CH g (hs_sJ S (as.getD j 0) 1 v) ow x c (hs.set j ((hd_at hs j).1, q)) ∧ CK ow ow [3] [] S (hs_sJ S (as.getD j 0) 1 v) := by
  have hC := CK_sJ ow S (as.getD j 0) 1 v
  rw [(CL_el hL (j := j) (by omega)).2] at hC
  refine ⟨⟨as, CL_ck hL ⟨hx.1, Or.inl hx.2⟩ hC (by decide) (by decide) (by decide), nd, by simpa using len, fun i hi => ?_⟩, hC⟩
  simp at hi
  have h4 := f i hi
  simp only [hs_J_sJ, hs_I_sJ]
  unfold hd_at at h4 ⊢
  rw [gd_set _ _ _ _ _ hj]
  by_cases z : i = j
  · subst z; simpa [hv] using h4.1
  · have z2 : as.getD i 0 ≠ as.getD j 0 := fun y => z (nd_inj nd (by omega) (by omega) y)
    rw [List.getD_eq_getElem?_getD, List.getD_eq_getElem?_getD] at z2
    simpa [z, z2] using h4
theorem CH_dead {g : gl_T} {S : hs_T} {ow : Nat → Nat} {x c : Nat} {hs : List (Nat × Nat)} {as : List Nat} (hx : x ∈ hs_L S ∧ hs_K S x = 9) (hL : CL g S ow 0 x 0 3 c as) (nd : as.Nodup) (len : as.length = hs.length) (f : ∀ j, j < hs.length → hs_I S (as.getD j 0) 0 = nI (hd_at hs j).1 ∧ hs_J S (as.getD j 0) 1 = lN (hd_at hs j).2) {j : Nat} (hj : j < hs.length) : CH g (hs_sI S (as.getD j 0) 0 1) ow x c (hs.set j (1, (hd_at hs j).2)) ∧ CK ow ow [3] [] S (hs_sI S (as.getD j 0) 0 1) := by
  have hC := CK_sI ow S (as.getD j 0) 0 1
  rw [(CL_el hL (j := j) (by omega)).2] at hC
  refine ⟨⟨as, CL_ck hL ⟨hx.1, Or.inl hx.2⟩ hC (by decide) (by decide) (by decide), nd, by simpa using len, fun i hi => ?_⟩, hC⟩
  simp at hi
  have h4 := f i hi
  simp only [hs_I_sI, hs_J_sI]
  unfold hd_at at h4 ⊢
  rw [gd_set _ _ _ _ _ hj]
  by_cases z : i = j
  · subst z; simpa [show nI 1 = 1 from rfl] using h4.2
  · have z2 : as.getD i 0 ≠ as.getD j 0 := fun y => z (nd_inj nd (by omega) (by omega) y)
    rw [List.getD_eq_getElem?_getD, List.getD_eq_getElem?_getD] at z2
    simpa [z, z2] using h4
theorem RC_w {g : gl_T} {S S' : hs_T} {ow : Nat → Nat} {x l tp nz : Nat} {s : st_T} {ys : List Nat} {c : Nat → Nat} {ws : List wi_T} (h : RC g S ow x l tp nz s ys c) (hw : CW g S' ow x (c 3) ws ∧ CK ow ow [8] [] S S') : RC g S' ow x l tp nz (w_ws s ws) ys c := by
  obtain ⟨hB, hCS, hCH, hCG, hCT, hCR, hCN, hCD, hCW⟩ := h
  obtain ⟨h1, hC⟩ := hw
  exact ⟨CB_ck hB hC, (CS_ck hB hCS hC (by decide) (by decide)), (CH_ck hB hCH hC (by decide) (by decide) (by decide) (by decide)), (CG_ck hB hCG hC (by decide) (by decide) (by decide) (by decide) (by decide)), (CT_ck hB hCT hC (by decide) (by decide) (by decide)), (CR_ck hB hCR hC (by decide) (by decide) (by decide) (by decide) (by decide) (by intro j z; simp at z; try omega)), (CN_ck hB hCN hC (by decide) (by decide) (by decide)), (CD_ck hB hCD hC (by decide) (by decide) (by decide) (by decide)), h1⟩
theorem RC_h {g : gl_T} {S S' : hs_T} {ow : Nat → Nat} {x l tp nz : Nat} {s : st_T} {ys : List Nat} {c : Nat → Nat} {hs : List (Nat × Nat)} (h : RC g S ow x l tp nz s ys c) (hw : CH g S' ow x (c 0) hs ∧ CK ow ow [3] [] S S') : RC g S' ow x l tp nz (w_hs s hs) ys c := by
  obtain ⟨hB, hCS, hCH, hCG, hCT, hCR, hCN, hCD, hCW⟩ := h
  obtain ⟨h1, hC⟩ := hw
  exact ⟨CB_ck hB hC, (CS_ck hB hCS hC (by decide) (by decide)), h1, (CG_ck hB hCG hC (by decide) (by decide) (by decide) (by decide) (by decide)), (CT_ck hB hCT hC (by decide) (by decide) (by decide)), (CR_ck hB hCR hC (by decide) (by decide) (by decide) (by decide) (by decide) (by intro j z; simp at z; try omega)), (CN_ck hB hCN hC (by decide) (by decide) (by decide)), (CD_ck hB hCD hC (by decide) (by decide) (by decide) (by decide)), (CW_ck hB hCW hC (by decide) (by decide) (by decide) (by decide))⟩
set_option maxRecDepth 20000 in
set_option maxHeartbeats 2000000 in
theorem c_payOut (g : gl_T) {S : hs_T} {n k x l tp nz : Nat} {ow : Nat → Nat} {s : st_T} {ys : List Nat} {c : Nat → Nat} (h : RC g S ow x l tp nz s ys c) (hb : BD s) {y z : Int32} {j pr : Nat} (hyj : y = nI j) (hj : j < (s_hs s).length) (hz : z.toInt64 = lN pr) : ex_M g 3 mX9_payOut [.ref x, .int y, .int z] S n k (fun r S' n' k' => r = .inl none ∧ RC g S' ow x l tp nz (w_hs s ((s_hs s).set j ((hd_at (s_hs s) j).1, (hd_at (s_hs s) j).2 + pr))) ys c ∧ CK ow ow [3] [] S S' ∧ n' = n ∧ k' = k) := by
  obtain ⟨hB, hCS, hCH, hCG, hCT, hCR, hCN, hCD, hCW⟩ := id h
  obtain ⟨bd1, bd2, bd3, ⟨bd4, bd5⟩, bd6, ⟨bd7, bd8⟩, bd9, bd10, bd11, bd12⟩ := id hb
  obtain ⟨as, ⟨a0, e0, r0, l0, o0, p0⟩, nd0, len0, f0⟩ := id hCH
  have hj0 : j < as.length := by omega
  have mj := al_mem l0 hj0
  refine ex_enter (by decide +kernel) (Nat.le_of_ble_eq_true rfl) ?_
  show ex_W _ _ _ _ 0 [(0, .ref x), (1, .int y), (2, .int z)] [] _ _ _
  refine ex_iload_n dX9_payOut_0 1 rfl ?_
  refine ex_if_lt (tgt := 36) dX9_payOut_1 (by decide) (fun c1 => absurd c1 (by rw [hyj]; exact nI_pos (by omega))) (fun c1 => ?_)
  refine ex_iload_n dX9_payOut_4 1 rfl ?_
  refine ex_aload_n dX9_payOut_5 0 rfl ?_
  refine ex_getR (b := a0) dX9_payOut_6 fl_X9_10 hB.1.1 hB.1.2 r0 ?_
  refine ex_cVr [] [.int y] dX9_payOut_9 cV_X9_57 (c_szn g l0 len0) l0.1.1 l0.1.2.1 rfl rfl rfl (by decide) (Nat.le_of_ble_eq_true rfl) rfl ?_
  refine ex_icmp_ge (tgt := 36) dX9_payOut_12 (by decide) (fun c12 => absurd c12 (by rw [hyj]; exact fun z => absurd ((nI_leI (by omega) (by omega)).mp z) (by omega))) (fun c12 => ?_)
  refine ex_aload_n dX9_payOut_15 0 rfl ?_
  refine ex_getR (b := a0) dX9_payOut_16 fl_X9_10 hB.1.1 hB.1.2 r0 ?_
  refine ex_iload_n dX9_payOut_19 1 rfl ?_
  refine ex_cVr [.int y] [] dX9_payOut_20 cV_X9_103 (c_getj g l0 hyj hj0) l0.1.1 l0.1.2.1 rfl rfl rfl (by decide) (Nat.le_of_ble_eq_true rfl) rfl ?_
  refine ex_cast dX9_payOut_23 mj.1 mj.2 rfl kl_X9_68 ?_
  refine ex_dup dX9_payOut_26 rfl ?_
  refine ex_getJ dX9_payOut_27 fl_X9_246 mj.1 mj.2 ?_
  refine ex_iload_n dX9_payOut_30 2 rfl ?_
  refine ex_i2l dX9_payOut_31 ?_
  refine ex_ladd dX9_payOut_32 ?_
  refine ex_putJ dX9_payOut_33 fl_X9_246 (pf_X9_246 _) mj.1 mj.2 ?_
  have hv : hs_J S (as.getD j 0) 1 + z.toInt64 = lN ((hd_at (s_hs s) j).2 + pr) := by rw [(f0 j hj).2, hz]; exact lN_add _ _
  have hp := CH_pay (c := c 0) hB.1 ⟨a0, e0, r0, l0, o0, p0⟩ nd0 len0 f0 hj hv
  exact ex_vrt rfl dX9_payOut_36 ⟨rfl, RC_h h hp, hp.2, rfl, rfl⟩
set_option maxRecDepth 20000 in
set_option maxHeartbeats 4000000 in
theorem c_claim (g : gl_T) {S : hs_T} {n k x l tp nz : Nat} {ow : Nat → Nat} {s : st_T} {ys : List Nat} {c : Nat → Nat} (h : RC g S ow x l tp nz s ys c) (hb : BD s) (hO : OK s) (hn : n + 40000 ≤ ex_NM) (hk : k + 200000 ≤ ex_KM) {y : Int32} : ex_M g 7 mX9_claim [.ref x, .int y] S n k (cp g S ow x l tp nz c n k (exN exI) s (sp_claim s y)) := by
  refine ex_enter (by decide +kernel) (Nat.le_of_ble_eq_true rfl) ?_
  show ex_W _ _ _ _ 0 [(0, .ref x), (1, .int y)] [] _ _ _
  obtain ⟨hB, hCS, hCH, hCG, hCT, hCR, hCN, hCD, hCW⟩ := id h
  obtain ⟨bd1, bd2, bd3, ⟨bd4, bd5⟩, bd6, ⟨bd7, bd8⟩, bd9, bd10, bd11, bd12⟩ := id hb
  obtain ⟨wa, ⟨a3, e3, r3, l3, o3, p3⟩, nd3, len3, f3⟩ := id hCW
  by_cases hq : ix_ok y (s_ws s).length
  · obtain ⟨j, hj, hyj⟩ := ix_of hq (by omega)
    have hcl : y.toNatClampNeg = j := by rw [hyj]; exact nI_clamp (by omega)
    have hj0 : j < wa.length := by omega
    have mj := al_mem l3 hj0
    obtain ⟨g0, g1, g2, g3, g4, g5⟩ := f3 j hj
    obtain ⟨hw1, hw2, hw3, hw4, hw5, hw6, hw7⟩ := hO.2.2.2.1 j hj
    have hold : 500 < hs_I S x 11 - hs_I S (wa.getD j 0) 1 ↔ (wi_at (s_ws s) j).2.1 + 500 < s_td s := by
      rw [hCS.1, g1, pk_sub hw2]
      exact (nI_ltI (a := 500) (by decide) (by omega)).trans (by omega)
    refine ex_aload_n dX9_claim_0 0 rfl ?_
    refine ex_iload_n dX9_claim_1 1 rfl ?_
    refine ex_cVv [.int y] [] dX9_claim_2 cV_X9_230 (c_chkW1 g h hb (by omega) (by omega) hq) hB.1.1 hB.1.2 rfl rfl rfl (by decide) (Nat.le_of_ble_eq_true rfl) rfl ?_
    refine ex_aload_n dX9_claim_5 0 rfl ?_
    refine ex_getR (b := a3) dX9_claim_6 fl_X9_47 hB.1.1 hB.1.2 r3 ?_
    refine ex_iload_n dX9_claim_9 1 rfl ?_
    refine ex_cVr [.int y] [] dX9_claim_10 cV_X9_103 (c_getj g l3 hyj hj0) l3.1.1 l3.1.2.1 rfl rfl rfl (by decide) (Nat.le_of_ble_eq_true rfl) rfl ?_
    refine ex_cast dX9_claim_13 mj.1 mj.2 rfl kl_X9_111 ?_
    refine ex_astore_n [(2, .ref (wa.getD j 0)), (0, .ref x), (1, .int y)] dX9_claim_16 (by decide) rfl ?_
    refine ex_aload_n dX9_claim_17 0 rfl ?_
    refine ex_getI dX9_claim_18 fl_X9_116 mj.1 mj.2 ?_
    refine ex_iconst (v := 1) dX9_claim_21 (by decide) ?_
    refine ex_icmp_ne (tgt := 27) dX9_claim_22 (by decide) (fun c22 => ?_) (fun c22 => ?_)
    · refine ex_aload_n dX9_claim_27 0 rfl ?_
      refine ex_getI dX9_claim_28 fl_X9_116 mj.1 mj.2 ?_
      refine ex_iconst (v := 2) dX9_claim_31 (by decide) ?_
      refine ex_icmp_eq (tgt := 46) dX9_claim_32 (by decide) (fun c32 => ?_) (fun c32 => ?_)
      · refine ex_bipush (v := (-2)) dX9_claim_46 (by decide) ?_
        exact ex_irt rfl dX9_claim_48 (cp_s (by unfold sp_claim; rw [if_pos hq, hcl, if_neg (fun z => c22 (by rw [g5, z]; rfl)), if_pos (by first | exact Or.inl ((nI_eq (b := 2) (by omega) (by decide)).mp (g5.symm.trans c32)) | exact Or.inr (hold.mp (by by_cases z : 500 < hs_I S x 11 - hs_I S (wa.getD j 0) 1; exact z; rw [if_neg z] at c43; exact absurd rfl c43)))]) h)
      · refine ex_aload_n dX9_claim_35 0 rfl ?_
        refine ex_aload_n dX9_claim_36 1 rfl ?_
        refine ex_getI dX9_claim_37 fl_X9_54 hB.1.1 hB.1.2 ?_
        refine ex_cVr [.int (hs_I S x 11)] [] dX9_claim_40 cV_X9_236 (c_Win_isTooOld g mj.1 mj.2) mj.1 mj.2 rfl rfl rfl (by decide) (Nat.le_of_ble_eq_true rfl) rfl ?_
        refine ex_if_eq (tgt := 49) dX9_claim_43 (by decide) (fun c43 => ?_) (fun c43 => ?_)
        · refine ex_aload_n dX9_claim_49 0 rfl ?_
          refine ex_iconst (v := 1) dX9_claim_50 (by decide) ?_
          refine ex_putI dX9_claim_51 fl_X9_116 (pf_X9_116 _) mj.1 mj.2 ?_
          have hno : ¬ ((wi_at (s_ws s) j).2.2.2.2.2 = 2 ∨ (wi_at (s_ws s) j).2.1 + 500 < s_td s) := by
            rintro (z | z)
            · exact c32 (by rw [g5, z]; rfl)
            · rw [if_pos (hold.mpr z)] at c43; exact absurd c43 (by decide)
          have hw := CW_st (c := c 3) hB.1 ⟨a3, e3, r3, l3, o3, p3⟩ nd3 len3 f3 hj (v := 1) (q := 1) rfl
          have hR1 := RC_w h hw
          have hb1 : BD (w_ws s ((s_ws s).set j (wi_st (wi_at (s_ws s) j) 1))) := ⟨bd1, bd2, bd3, ⟨bd4, bd5⟩, bd6, ⟨bd7, bd8⟩, bd9, bd10, by show ((s_ws s).set j _).length ≤ 2000; rw [List.length_set]; exact bd11, bd12⟩
          have m1 : wa.getD j 0 ∈ hs_L (hs_sI S (wa.getD j 0) 5 1) ∧ hs_K (hs_sI S (wa.getD j 0) 5 1) (wa.getD j 0) = 8 := mj
          have hho1 : hs_I (hs_sI S (wa.getD j 0) 5 1) (wa.getD j 0) 3 = nI (wi_at (s_ws s) j).2.2.2.1 := by rw [hs_I_sI, if_neg (fun z => absurd z.2 (by decide))]; exact g3
          have hpr1 : hs_I (hs_sI S (wa.getD j 0) 5 1) (wa.getD j 0) 4 = nI (wi_at (s_ws s) j).2.2.2.2.1 := by rw [hs_I_sI, if_neg (fun z => absurd z.2 (by decide))]; exact g4
          generalize hs_sI S (wa.getD j 0) 5 1 = S1 at hR1 m1 hho1 hpr1 hw ⊢
          have hB := hR1.1
          refine ex_aload_n dX9_claim_54 1 rfl ?_
          refine ex_aload_n dX9_claim_55 0 rfl ?_
          refine ex_getI dX9_claim_56 fl_X9_113 m1.1 m1.2 ?_
          refine ex_aload_n dX9_claim_59 0 rfl ?_
          refine ex_getI dX9_claim_60 fl_X9_240 m1.1 m1.2 ?_
          refine ex_cVg [.int (hs_I S1 (wa.getD j 0) 3), .int (hs_I S1 (wa.getD j 0) 4)] [] dX9_claim_63 cV_X9_243 (c_payOut g hR1 hb1 hho1 hw5 (by rw [hpr1, nI_l (by omega)])) hB.1.1 hB.1.2 rfl rfl rfl (by decide) (Nat.le_of_ble_eq_true rfl) rfl ?_ (fun E S' n' k' h => by obtain ⟨h1, -⟩ := h; cases h1)
          rintro v' S2 n' k' ⟨hr2, hR2, hK2, hn2, hk2⟩
          cases hr2
          have hn2 := hn2.symm
          have hk2 := hk2.symm
          subst hn2 hk2
          have m2 := hK2.1 _ m1.1
          show ex_W _ _ _ _ 66 [(2, .ref (wa.getD j 0)), (0, .ref x), (1, .int y)] [] S2 n k
          have hpr2 : hs_I S2 (wa.getD j 0) 4 = nI (wi_at (s_ws s) j).2.2.2.2.1 := by rw [(ck_at hK2 m1.1 m1.2 (by decide) (by decide)).1]; exact hpr1
          refine ex_aload_n dX9_claim_66 0 rfl ?_
          refine ex_getI dX9_claim_67 fl_X9_240 m2.1 (m2.2.1.trans m1.2) ?_
          exact ex_irt rfl dX9_claim_70 (cp_i (by unfold sp_claim; rw [if_pos hq, hcl, if_neg (fun z => c22 (by rw [g5, z]; rfl)), if_neg hno, hpr2]; rfl) hR2 (CK_mono (CK_tr (CK_mono hw.2 (dk' := [3, 8]) (ds' := []) (by decide) (by decide)) (CK_mono hK2 (by decide) (by decide))) (by decide) (by decide)) (rb_eq rfl _ _ _))
        · refine ex_bipush (v := (-2)) dX9_claim_46 (by decide) ?_
          exact ex_irt rfl dX9_claim_48 (cp_s (by unfold sp_claim; rw [if_pos hq, hcl, if_neg (fun z => c22 (by rw [g5, z]; rfl)), if_pos (by first | exact Or.inl ((nI_eq (b := 2) (by omega) (by decide)).mp (g5.symm.trans c32)) | exact Or.inr (hold.mp (by by_cases z : 500 < hs_I S x 11 - hs_I S (wa.getD j 0) 1; exact z; rw [if_neg z] at c43; exact absurd rfl c43)))]) h)
    · refine ex_iconst (v := (-1)) dX9_claim_25 (by decide) ?_
      exact ex_irt rfl dX9_claim_26 (cp_s (by unfold sp_claim; rw [if_pos hq, hcl, if_pos ((nI_eq (b := 1) (by omega) (by decide)).mp (g5.symm.trans c22))]) h)
  · refine ex_aload_n dX9_claim_0 0 rfl ?_
    refine ex_iload_n dX9_claim_1 1 rfl ?_
    exact ex_cVg [.int y] [] dX9_claim_2 cV_X9_230 (c_chkW0 g h hb (by omega) (by omega) hq) hB.1.1 hB.1.2 rfl rfl rfl (by decide) (Nat.le_of_ble_eq_true rfl) rfl (fun v S9 n9 k9 h9 => by obtain ⟨h9, -⟩ := h9; cases h9) (fun E S9 n9 k9 h9 => by obtain ⟨h91, h92, h93, h94⟩ := h9; cases h91; subst h92 h93 h94; exact (cp_x (code := 1) (by unfold sp_claim; rw [if_neg hq]) (by decide) rfl h))
