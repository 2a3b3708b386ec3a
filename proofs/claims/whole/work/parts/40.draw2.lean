/-! the bonds that may win -/
def ln_sz (l : li_T) : Nat := l.2.1 - l.1 + 1
abbrev ln_el (td days : Nat) (l : li_T) : Prop := l.2.2.2.2 = none ∧ l.2.2.2.1 + days ≤ td
def el (ls : List li_T) (td days : Nat) (ys : List Nat) : List Nat := ys.filter (fun i => decide ((ln_at ls i).2.2.2.1 + days ≤ td))
def sz (ls : List li_T) : List Nat → Nat
  | [] => 0
  | i :: ys => ln_sz (ln_at ls i) + sz ls ys
def bo (ls : List li_T) : List Nat → Nat → Nat × Nat
  | [], _ => (0, 0)
  | i :: ys, q => if q < ln_sz (ln_at ls i) then ((ln_at ls i).1 + q, (ln_at ls i).2.2.1) else bo ls ys (q - ln_sz (ln_at ls i))
abbrev bf (ls : List li_T) (i j : Nat) : Prop := (ln_at ls i).2.1 < (ln_at ls j).1
/-- sorted lists with the same members are one -/
theorem bf_uq {ls : List li_T} (hf : ∀ i, (ln_at ls i).1 ≤ (ln_at ls i).2.1) : ∀ {xs ys : List Nat}, xs.Pairwise (bf ls) → ys.Pairwise (bf ls) → (∀ i, i ∈ xs ↔ i ∈ ys) → xs = ys
  | [], [], _, _, _ => rfl
  | [], y :: ys, _, _, h => absurd ((h y).mpr List.mem_cons_self) (by simp)
  | x :: xs, [], _, _, h => absurd ((h x).mp List.mem_cons_self) (by simp)
  | x :: xs, y :: ys, h1, h2, h => by
    rw [List.pairwise_cons] at h1 h2
    have e : x = y := by
      rcases List.mem_cons.mp ((h x).mp List.mem_cons_self) with q | q
      · exact q
      · rcases List.mem_cons.mp ((h y).mpr List.mem_cons_self) with r | r
        · exact r.symm
        · have z1 : (ln_at ls x).2.1 < (ln_at ls y).1 := h1.1 y r
          have z2 : (ln_at ls y).2.1 < (ln_at ls x).1 := h2.1 x q
          have z3 := hf x
          have z4 := hf y
          omega
    subst e
    congr 1
    refine bf_uq hf h1.2 h2.2 (fun i => ?_)
    have hi := h i
    simp only [List.mem_cons] at hi
    constructor
    · intro z
      rcases hi.mp (Or.inr z) with q | q
      · subst q; have z1 : (ln_at ls i).2.1 < (ln_at ls i).1 := h1.1 i z; have := hf i; omega
      · exact q
    · intro z
      rcases hi.mpr (Or.inr z) with q | q
      · subst q; have z1 : (ln_at ls i).2.1 < (ln_at ls i).1 := h2.1 i z; have := hf i; omega
      · exact q
/-- two lines that go on are apart -/
theorem GO_apart {ls : List li_T} {ys : List Nat} (h : GO ls ys) {i j : Nat} (hi : i ∈ ys) (hj : j ∈ ys) (hne : i ≠ j) : bf ls i j ∨ bf ls j i := by
  have : ∀ {zs : List Nat}, zs.Pairwise (bf ls) → i ∈ zs → j ∈ zs → bf ls i j ∨ bf ls j i := by
    intro zs hz
    induction zs with
    | nil => intro h1; cases h1
    | cons z zs ih =>
      rw [List.pairwise_cons] at hz
      intro h1 h2
      rcases List.mem_cons.mp h1 with q1 | q1 <;> rcases List.mem_cons.mp h2 with q2 | q2
      · exact absurd (q1.trans q2.symm) hne
      · exact Or.inl (q1 ▸ hz.1 _ q2)
      · exact Or.inr (q2 ▸ hz.1 _ q1)
      · exact ih hz.2 q1 q2
  exact this h.1 hi hj
theorem sz_ins (ls : List li_T) (x : Nat) : ∀ (zs : List Nat) (i : Nat), i ≤ zs.length → sz ls (zs.insertIdx i x) = sz ls zs + ln_sz (ln_at ls x)
  | zs, 0, _ => by simp [sz]; omega
  | [], i + 1, h => by simp at h
  | z :: zs, i + 1, h => by
    have := sz_ins ls x zs i (by simpa using h)
    simp only [List.insertIdx_succ_cons, sz]
    omega
theorem pw_ins {ls : List li_T} {x : Nat} : ∀ {zs : List Nat} {i : Nat}, i ≤ zs.length → zs.Pairwise (bf ls) → (∀ j, j < i → bf ls (zs.getD j 0) x) → (∀ j, i ≤ j → j < zs.length → bf ls x (zs.getD j 0)) → (zs.insertIdx i x).Pairwise (bf ls)
  | zs, 0, _, h, _, h2 => by
    rw [List.insertIdx_zero, List.pairwise_cons]
    refine ⟨fun y hy => ?_, h⟩
    obtain ⟨j, hj, rfl⟩ := List.getElem_of_mem hy
    have := h2 j (Nat.zero_le _) hj
    rwa [List.getD_eq_getElem?_getD, List.getElem?_eq_getElem hj] at this
  | [], i + 1, h, _, _, _ => by simp at h
  | z :: zs, i + 1, hi, h, h1, h2 => by
    rw [List.pairwise_cons] at h
    rw [List.insertIdx_succ_cons, List.pairwise_cons]
    refine ⟨fun y hy => ?_, pw_ins (by simpa using hi) h.2 (fun j hj => by simpa using h1 (j + 1) (by omega)) (fun j hj hj2 => by simpa using h2 (j + 1) (by omega) (by simpa using hj2))⟩
    rcases (List.mem_insertIdx (by simpa using hi)).mp hy with rfl | hy
    · simpa using h1 0 (by omega)
    · exact h.1 y hy
def MY (S : hs_T) (ad : Nat → Nat) (zs : List Nat) : Prop := ∀ j, j < zs.length → hs_I S (ad 35) j = nI (zs.getD j 0)
theorem RM_35 {S : hs_T} {m : Nat} {ad : Nat → Nat} {s : st_T} (h : RM S m ad s) (i : Nat) (v : Int32) : RM (hs_sI S (ad 35) i v) m ad s := by
  obtain ⟨hB, hMS, hMH, hML, hMT, hMR, hMN, hMD, hMW⟩ := h
  exact ⟨hB, (MS_aI hB.2.2 (hMS) 35 _ _ (by decide)), (MH_aI hB.2.2 (hMH) 35 _ _ (by decide)), (ML_aI hB.2.2 (hML) 35 _ _ (by decide)), (MT_aI hB.2.2 (hMT) 35 _ _ (by decide)), (MR_aI hB.2.2 (hMR) 35 _ _ (by decide)), (MN_aI hB.2.2 (hMN) 35 _ _ (by decide)), (MD_aI hB.2.2 (hMD) 35 _ _ (by decide)), (MW_aI hB.2.2 (hMW) 35 _ _ (by decide))⟩
theorem gd_ins (zs : List Nat) (i x j : Nat) (h : i ≤ zs.length) : (zs.insertIdx i x).getD j 0 = if j < i then zs.getD j 0 else if j = i then x else zs.getD (j - 1) 0 := by
  rw [List.getD_eq_getElem?_getD, al_ins h]
  split
  · rw [List.getD_eq_getElem?_getD]
  · split
    · rfl
    · rw [List.getD_eq_getElem?_getD]
/-- while the lines are sorted: those below k -/
def SI (ls : List li_T) (td days k : Nat) (zs : List Nat) : Prop := zs.Pairwise (bf ls) ∧ zs.length ≤ k ∧ ∀ i, i ∈ zs ↔ i < k ∧ ln_el td days (ln_at ls i)
/-- what the sorting keeps -/
def SX (S0 S : hs_T) (m : Nat) (ad : Nat → Nat) (s : st_T) : Prop := RM S m ad s ∧ MF S0 S m ad ∧ hs_I S m 0 = hs_I S0 m 0
theorem SX_35 {S0 S : hs_T} {m : Nat} {ad : Nat → Nat} {s : st_T} (h : SX S0 S m ad s) (i : Nat) (v : Int32) : SX S0 (hs_sI S (ad 35) i v) m ad s := ⟨RM_35 h.1 i v, MF_aI h.2.1 35 (by decide) i v, by rw [mI_sa h.1.1.2.2]; exact h.2.2⟩
theorem SX_36 {S0 S : hs_T} {m : Nat} {ad : Nat → Nat} {s : st_T} (h : SX S0 S m ad s) (v : Int32) : SX S0 (hs_sI S m 36 v) m ad s := ⟨RM_mI h.1 36 v (by decide), MF_mI h.2.1 36 v, by rw [mI_mm, if_neg (by decide)]; exact h.2.2⟩
theorem SI_lt {ls : List li_T} {td days k : Nat} {zs : List Nat} (h : SI ls td days k zs) {j : Nat} (hj : j < zs.length) : zs.getD j 0 < k ∧ ln_el td days (ln_at ls (zs.getD j 0)) := by
  have : zs.getD j 0 ∈ zs := by rw [List.getD_eq_getElem?_getD, List.getElem?_eq_getElem hj]; exact List.getElem_mem hj
  exact (h.2.2 _).mp this
set_option maxRecDepth 20000 in
set_option maxHeartbeats 2000000 in
theorem m_sorts_i {g : gl_T} {S0 : hs_T} {n k m : Nat} {ad : Nat → Nat} {s : st_T} {Po : ex_R} {xd : Int32} {td days q : Nat} {zs : List Nat} {acc : Int64} (hsi : SI (s_ls s) td days q zs) (hq : q < (s_ls s).length)
    (kk : ∀ i S, i ≤ zs.length → SX S0 S m ad s → hs_I S m 36 = nI zs.length → (∀ j, j < i → hs_I S (ad 35) j = nI (zs.getD j 0)) → (∀ j, i < j → j ≤ zs.length → hs_I S (ad 35) j = nI (zs.getD (j - 1) 0)) → (∀ j, j < i → (ln_at (s_ls s) (zs.getD j 0)).1 ≤ (ln_at (s_ls s) q).1) → (∀ j, i ≤ j → j < zs.length → (ln_at (s_ls s) q).1 < (ln_at (s_ls s) (zs.getD j 0)).1) → ex_W g 0 mX10_sorts Po 127 [(5, .int (nI i)), (2, .long acc), (4, .int (nI q)), (0, .ref m), (1, .int xd)] [] S n k) :
    ∀ i S, i < 2 ^ 31 → i ≤ zs.length → SX S0 S m ad s → hs_I S m 36 = nI zs.length → (∀ j, j < i → hs_I S (ad 35) j = nI (zs.getD j 0)) → (∀ j, i < j → j ≤ zs.length → hs_I S (ad 35) j = nI (zs.getD (j - 1) 0)) → (∀ j, i ≤ j → j < zs.length → (ln_at (s_ls s) q).1 < (ln_at (s_ls s) (zs.getD j 0)).1) → ex_W g 0 mX10_sorts Po 76 [(5, .int (nI i)), (2, .long acc), (4, .int (nI q)), (0, .ref m), (1, .int xd)] [] S n k := by
  intro i
  induction i with
  | zero =>
    intro S hi0 hi hsx h36 ha hb hc
    have hB := hsx.1.1
    obtain ⟨_, _, _, hML, _⟩ := id hsx.1
    refine ex_iload dX10_sorts_76 0 rfl ?_
    refine ex_if_le (tgt := 127) dX10_sorts_78 (by decide) (fun c78 => ?_) (fun c78 => absurd (by decide) c78)
    exact kk 0 S (by omega) hsx h36 ha hb (fun j hj => absurd hj (by omega)) hc
  | succ j ih =>
    intro S hi0 hi hsx h36 ha hb hc
    have hB := hsx.1.1
    obtain ⟨_, _, _, hML, _⟩ := id hsx.1
    have hl15 := hML.2.1
    have hzl := hsi.2.1
    have hj1 : nI (j + 1) - 1 = nI j := nI_pred j
    have hzj := (SI_lt hsi (j := j) (by omega)).1
    obtain ⟨hokj, h6j, _⟩ := hML.2.2 (zs.getD j 0) (by omega)
    obtain ⟨hokq, h6q, _⟩ := hML.2.2 q hq
    have hb1 := hokj.1
    have hb2 := hokj.2.1
    have hb3 := hokq.1
    have hb4 := hokq.2.1
    refine ex_iload dX10_sorts_76 0 rfl ?_
    refine ex_if_le (tgt := 127) dX10_sorts_78 (by decide) (fun c78 => absurd c78 (nI_nle (by omega) (by omega))) (fun c78 => ?_)
    refine ex_aload_n dX10_sorts_81 3 rfl ?_
    refine ex_getR (b := ad 6) dX10_sorts_82 fl_X10_17 hB.1.1 hB.1.2 (mb_6 hB).1 ?_
    refine ex_aload_n dX10_sorts_85 3 rfl ?_
    refine ex_getR (b := ad 35) dX10_sorts_86 fl_X10_77 hB.1.1 hB.1.2 (mb_35 hB).1 ?_
    refine ex_iload dX10_sorts_89 0 rfl ?_
    refine ex_iconst (v := 1) dX10_sorts_91 (by decide) ?_
    refine ex_isub dX10_sorts_92 ?_
    refine ex_iald (j := j) dX10_sorts_93 (mb_35 hB).2.1 (mb_35 hB).2.2.1 hj1 (Nat.lt_of_lt_of_eq (show j < 1500 by omega) (mb_35 hB).2.2.2.symm) (show j < 2 ^ 31 by omega) ?_
    refine ex_iald (j := (zs.getD j 0)) dX10_sorts_94 (mb_6 hB).2.1 (mb_6 hB).2.2.1 (ha j (by omega)) (Nat.lt_of_lt_of_eq (show (zs.getD j 0) < 1500 by omega) (mb_6 hB).2.2.2.symm) (show (zs.getD j 0) < 2 ^ 31 by omega) ?_
    refine ex_aload_n dX10_sorts_95 3 rfl ?_
    refine ex_getR (b := ad 6) dX10_sorts_96 fl_X10_17 hB.1.1 hB.1.2 (mb_6 hB).1 ?_
    refine ex_iload dX10_sorts_99 2 rfl ?_
    refine ex_iald (j := q) dX10_sorts_101 (mb_6 hB).2.1 (mb_6 hB).2.2.1 rfl (Nat.lt_of_lt_of_eq (show q < 1500 by omega) (mb_6 hB).2.2.2.symm) (show q < 2 ^ 31 by omega) ?_
    refine ex_icmp_le (tgt := 127) dX10_sorts_102 (by decide) (fun c102 => ?_) (fun c102 => ?_)
    · refine kk (j + 1) S (by omega) hsx h36 ha hb (fun j2 hj2 => ?_) hc
      rcases Nat.lt_or_ge j2 j with z | z
      · have r1 : bf (s_ls s) (zs.getD j2 0) (zs.getD j 0) := by
          have w := List.pairwise_iff_getElem.mp hsi.1 j2 j (by omega) (by omega) z
          rw [List.getD_eq_getElem?_getD, List.getElem?_eq_getElem (by omega), List.getD_eq_getElem?_getD, List.getElem?_eq_getElem (by omega)]
          exact w
        have r2 : (ln_at (s_ls s) (zs.getD j 0)).1 ≤ (ln_at (s_ls s) q).1 := (nI_leI (by omega) (by omega)).mp (by rw [← h6j, ← h6q]; exact c102)
        have r4 : (ln_at (s_ls s) (zs.getD j2 0)).2.1 < (ln_at (s_ls s) (zs.getD j 0)).1 := r1
        have r3 := (hML.2.2 (zs.getD j2 0) (by have := (SI_lt hsi (j := j2) (by omega)).1; omega)).1.1
        omega
      · have e : j2 = j := by omega
        subst e
        exact (nI_leI (by omega) (by omega)).mp (by rw [← h6j, ← h6q]; exact c102)
    · refine ex_aload_n dX10_sorts_105 3 rfl ?_
      refine ex_getR (b := ad 35) dX10_sorts_106 fl_X10_77 hB.1.1 hB.1.2 (mb_35 hB).1 ?_
      refine ex_iload dX10_sorts_109 0 rfl ?_
      refine ex_aload_n dX10_sorts_111 3 rfl ?_
      refine ex_getR (b := ad 35) dX10_sorts_112 fl_X10_77 hB.1.1 hB.1.2 (mb_35 hB).1 ?_
      refine ex_iload dX10_sorts_115 0 rfl ?_
      refine ex_iconst (v := 1) dX10_sorts_117 (by decide) ?_
      refine ex_isub dX10_sorts_118 ?_
      refine ex_iald (j := j) dX10_sorts_119 (mb_35 hB).2.1 (mb_35 hB).2.2.1 hj1 (Nat.lt_of_lt_of_eq (show j < 1500 by omega) (mb_35 hB).2.2.2.symm) (show j < 2 ^ 31 by omega) ?_
      refine ex_iast (j := (j + 1)) dX10_sorts_120 (mb_35 hB).2.1 (mb_35 hB).2.2.1 rfl (Nat.lt_of_lt_of_eq (show (j + 1) < 1500 by omega) (mb_35 hB).2.2.2.symm) (show (j + 1) < 2 ^ 31 by omega) ?_
      refine ex_iinc (v := nI j) 0 [(5, .int (nI j)), (2, .long acc), (4, .int (nI q)), (0, .ref m), (1, .int xd)] dX10_sorts_121 rfl (pk_m1 j) (by decide) rfl ?_
      refine ex_goto (tgt := 76) dX10_sorts_124 (by decide) ?_
      have hsx2 := SX_35 hsx (j + 1) (hs_I S (ad 35) j)
      refine ih _ (by omega) (by omega) hsx2 (by rw [mI_sa hB.2.2]; exact h36) (fun j2 hj2 => ?_) (fun j2 hj2 hj3 => ?_) (fun j2 hj2 hj3 => ?_)
      · rw [mI_aa hB.2.2, if_neg (by omega)]; exact ha j2 (by omega)
      · rw [mI_aa hB.2.2]
        by_cases z : j2 = j + 1
        · subst z
          rw [if_pos ⟨rfl, rfl⟩, ha j (by omega)]
          rfl
        · rw [if_neg (fun y => z y.2)]; exact hb j2 (by omega) hj3
      · by_cases z : j2 = j
        · subst z
          have y : ¬ nI (ln_at (s_ls s) (zs.getD j2 0)).1 ≤ nI (ln_at (s_ls s) q).1 := by rw [← h6j, ← h6q]; exact c102
          exact Nat.lt_of_not_le (fun y2 => y (nI_le y2 (by omega)))
        · exact hc j2 (by omega) hj3
set_option maxRecDepth 20000 in
set_option maxHeartbeats 4000000 in
theorem m_sorts_l {g : gl_T} {S0 : hs_T} {n k m : Nat} {ad : Nat → Nat} {s : st_T} {Po : ex_R} {xd : Int32} {days : Nat} {ys : List Nat} (hG : GO (s_ls s) ys) (hxd : xd = nI days) (hdy : days ≤ 1000000000) (hPo : ∀ zs S, SX S0 S m ad s → MY S ad zs → SI (s_ls s) (s_td s) days (s_ls s).length zs → Po (.inl (some (.long (lN (sz (s_ls s) zs))))) S n k) : ∀ t q zs acc S, q ≤ (s_ls s).length → (s_ls s).length < q + t → SX S0 S m ad s → hs_I S m 36 = nI zs.length → SI (s_ls s) (s_td s) days q zs → MY S ad zs → acc = lN (sz (s_ls s) zs) → ex_W g 0 mX10_sorts Po 10 [(4, .int (nI q)), (2, .long acc), (0, .ref m), (1, .int xd)] [] S n k := by
  intro t
  induction t with
  | zero => intro q zs acc S h1 h2; exact absurd h2 (by omega)
  | succ t ih =>
    intro q zs acc S hq1 hq2 hsx h36 hsi hmy hacc
    have hB := hsx.1.1
    obtain ⟨_, hMS, _, hML, _⟩ := id hsx.1
    have hl15 := hML.2.1
    have htd := hMS.2.1
    have hzl := hsi.2.1
    refine ex_iload dX10_sorts_10 0 rfl ?_
    refine ex_aload_n dX10_sorts_12 2 rfl ?_
    refine ex_getI dX10_sorts_13 fl_X10_90 hB.1.1 hB.1.2 ?_
    refine ex_icmp_ge (tgt := 152) dX10_sorts_16 (by decide) (fun c16 => ?_) (fun c16 => ?_)
    · have hql : q = (s_ls s).length := by have := (nI_leI (by omega) (by omega)).mp (hML.1 ▸ c16); omega
      refine ex_lload_n dX10_sorts_152 1 rfl ?_
      exact ex_lrt rfl dX10_sorts_153 (by rw [hacc]; exact hPo zs S hsx hmy (hql ▸ hsi))
    · have hql : q < (s_ls s).length := by
        rcases Nat.lt_or_ge q (s_ls s).length with z | z
        · exact z
        · exact absurd (by rw [hML.1]; exact nI_le z (by omega)) c16
      obtain ⟨hok, h6, h7, h8, h9, h10⟩ := hML.2.2 q hql
      have hb1 := hok.1
      have hb2 := hok.2.1
      have hsin : hs_I S (ad 9) q ≤ hs_I S m 2 - xd ↔ (ln_at (s_ls s) q).2.2.2.1 + days ≤ s_td s := by
        rw [h9, hMS.1.1, hxd, i_le, nI_toInt (by have := hok.2.2.2.1; omega), pk_sub_toInt (by omega) (by omega)]
        omega
      refine ex_aload_n dX10_sorts_19 2 rfl ?_
      refine ex_getR (b := ad 10) dX10_sorts_20 fl_X10_30 hB.1.1 hB.1.2 (mb_10 hB).1 ?_
      refine ex_iload dX10_sorts_23 0 rfl ?_
      refine ex_iald (j := q) dX10_sorts_25 (mb_10 hB).2.1 (mb_10 hB).2.2.1 rfl (Nat.lt_of_lt_of_eq (show q < 1500 by omega) (mb_10 hB).2.2.2.symm) (show q < 2 ^ 31 by omega) ?_
      refine ex_iconst (v := (-1)) dX10_sorts_26 (by decide) ?_
      refine ex_icmp_ne (tgt := 146) dX10_sorts_27 (by decide) (fun c27 => ?_) (fun c27 => ?_)
      · refine ex_iinc (v := nI (q + 1)) 0 [(4, .int (nI (q + 1))), (2, .long acc), (0, .ref m), (1, .int xd)] dX10_sorts_146 rfl (nI_1 q) (by decide) rfl ?_
        refine ex_goto (tgt := 10) dX10_sorts_149 (by decide) ?_
        refine ex_lv [0, 1, 2, 3] rfl ?_
        refine ih (q + 1) zs acc S (by omega) (by omega) hsx h36 ⟨hsi.1, by omega, fun i => (hsi.2.2 i).trans ⟨fun z => ⟨by omega, z.2⟩, fun z => ⟨?_, z.2⟩⟩⟩ hmy hacc
        have z1 := z.1
        rcases Nat.lt_or_ge i q with y | y
        · exact y
        · have e : i = q := by omega
          subst e
          first
            | exact absurd (h10.trans (by rw [z.2.1]; rfl)) c27
            | exact absurd (hsin.mpr z.2.2) c43
      · refine ex_aload_n dX10_sorts_30 2 rfl ?_
        refine ex_getR (b := ad 9) dX10_sorts_31 fl_X10_27 hB.1.1 hB.1.2 (mb_9 hB).1 ?_
        refine ex_iload dX10_sorts_34 0 rfl ?_
        refine ex_iald (j := q) dX10_sorts_36 (mb_9 hB).2.1 (mb_9 hB).2.2.1 rfl (Nat.lt_of_lt_of_eq (show q < 1500 by omega) (mb_9 hB).2.2.2.symm) (show q < 2 ^ 31 by omega) ?_
        refine ex_aload_n dX10_sorts_37 2 rfl ?_
        refine ex_getI dX10_sorts_38 fl_X10_102 hB.1.1 hB.1.2 ?_
        refine ex_iload_n dX10_sorts_41 3 rfl ?_
        refine ex_isub dX10_sorts_42 ?_
        refine ex_icmp_le (tgt := 49) dX10_sorts_43 (by decide) (fun c43 => ?_) (fun c43 => ?_)
        · refine ex_lload_n dX10_sorts_49 1 rfl ?_
          refine ex_aload_n dX10_sorts_50 2 rfl ?_
          refine ex_getR (b := ad 7) dX10_sorts_51 fl_X10_21 hB.1.1 hB.1.2 (mb_7 hB).1 ?_
          refine ex_iload dX10_sorts_54 0 rfl ?_
          refine ex_iald (j := q) dX10_sorts_56 (mb_7 hB).2.1 (mb_7 hB).2.2.1 rfl (Nat.lt_of_lt_of_eq (show q < 1500 by omega) (mb_7 hB).2.2.2.symm) (show q < 2 ^ 31 by omega) ?_
          refine ex_aload_n dX10_sorts_57 2 rfl ?_
          refine ex_getR (b := ad 6) dX10_sorts_58 fl_X10_17 hB.1.1 hB.1.2 (mb_6 hB).1 ?_
          refine ex_iload dX10_sorts_61 0 rfl ?_
          refine ex_iald (j := q) dX10_sorts_63 (mb_6 hB).2.1 (mb_6 hB).2.2.1 rfl (Nat.lt_of_lt_of_eq (show q < 1500 by omega) (mb_6 hB).2.2.2.symm) (show q < 2 ^ 31 by omega) ?_
          refine ex_isub dX10_sorts_64 ?_
          refine ex_i2l dX10_sorts_65 ?_
          refine ex_lconst (v := 1) dX10_sorts_66 (by decide) ?_
          refine ex_ladd dX10_sorts_67 ?_
          refine ex_ladd dX10_sorts_68 ?_
          refine ex_lstore_n [(2, .long (acc + ((((hs_I S (ad 7) q) - (hs_I S (ad 6) q)).toInt64) + 1))), (4, .int (nI q)), (0, .ref m), (1, .int xd)] dX10_sorts_69 (by decide) rfl ?_
          refine ex_aload_n dX10_sorts_70 2 rfl ?_
          refine ex_getI dX10_sorts_71 fl_X10_211 hB.1.1 hB.1.2 ?_
          refine ex_istore [(5, .int (hs_I S m 36)), (2, .long (acc + ((((hs_I S (ad 7) q) - (hs_I S (ad 6) q)).toInt64) + 1))), (4, .int (nI q)), (0, .ref m), (1, .int xd)] dX10_sorts_74 (by decide) rfl ?_
          refine ex_lv [0, 1, 2, 3, 4] rfl ?_
          rw [h36]
          refine m_sorts_i (S0 := S0) hsi hql (fun i S2 hi hsx2 h362 ha hb hc1 hc2 => ?_) zs.length S (by omega) (Nat.le_refl _) hsx h36 hmy (fun j hj1 hj2 => absurd hj2 (by omega)) (fun j hj1 hj2 => absurd hj2 (by omega))
          have hB := hsx2.1.1
          clear hsx h36 hmy
          refine ex_aload_n dX10_sorts_127 3 rfl ?_
          refine ex_getR (b := ad 35) dX10_sorts_128 fl_X10_77 hB.1.1 hB.1.2 (mb_35 hB).1 ?_
          refine ex_iload dX10_sorts_131 0 rfl ?_
          refine ex_iload dX10_sorts_133 2 rfl ?_
          refine ex_iast (j := i) dX10_sorts_135 (mb_35 hB).2.1 (mb_35 hB).2.2.1 rfl (Nat.lt_of_lt_of_eq (show i < 1500 by omega) (mb_35 hB).2.2.2.symm) (show i < 2 ^ 31 by omega) ?_
          refine ex_aload_n dX10_sorts_136 3 rfl ?_
          refine ex_dup dX10_sorts_137 rfl ?_
          refine ex_getI dX10_sorts_138 fl_X10_211 hB.1.1 hB.1.2 ?_
          refine ex_iconst (v := 1) dX10_sorts_141 (by decide) ?_
          refine ex_iadd dX10_sorts_142 ?_
          refine ex_putI dX10_sorts_143 fl_X10_211 (pf_X10_211 _) hB.1.1 hB.1.2 ?_
          refine ex_iinc (v := nI (q + 1)) 2 [(4, .int (nI (q + 1))), (5, .int (nI i)), (2, .long (acc + ((hs_I S (ad 7) q - hs_I S (ad 6) q).toInt64 + 1))), (0, .ref m), (1, .int xd)] dX10_sorts_146 rfl (nI_1 q) (by decide) rfl ?_
          refine ex_goto (tgt := 10) dX10_sorts_149 (by decide) ?_
          refine ex_lv [0, 2, 3, 4] rfl ?_
          have hel : ln_el (s_td s) days (ln_at (s_ls s) q) := ⟨(eN_m1 hok.2.2.2.2).mp (h10.symm.trans c27), hsin.mp c43⟩
          have hmg : ∀ i, i ∈ zs → i ≠ q ∧ i ∈ ys ∧ q ∈ ys := fun i hi => by
            have z := (hsi.2.2 i).mp hi
            exact ⟨by omega, (hG.2 i).mpr ⟨by omega, z.2.1⟩, (hG.2 q).mpr ⟨hql, hel.1⟩⟩
          have hmem : ∀ j, j < zs.length → zs.getD j 0 ∈ zs := fun j hj => by rw [List.getD_eq_getElem?_getD, List.getElem?_eq_getElem hj]; exact List.getElem_mem hj
          have hfl : ∀ j, j < zs.length → (ln_at (s_ls s) (zs.getD j 0)).1 ≤ (ln_at (s_ls s) (zs.getD j 0)).2.1 := fun j hj => (hML.2.2 _ (by have := (SI_lt hsi hj).1; omega)).1.1
          have hsi2 : SI (s_ls s) (s_td s) days (q + 1) (zs.insertIdx i q) := by
            refine ⟨pw_ins hi hsi.1 (fun j hj => ?_) (fun j hj hj2 => ?_), ?_, fun j => ?_⟩
            · obtain ⟨z1, z2, z3⟩ := hmg _ (hmem j (by omega))
              rcases GO_apart hG z2 z3 z1 with z | z
              · exact z
              · have y1 := hc1 j hj
                have y2 := hfl j (by omega)
                have y3 : (ln_at (s_ls s) q).2.1 < (ln_at (s_ls s) (zs.getD j 0)).1 := z
                omega
            · obtain ⟨z1, z2, z3⟩ := hmg _ (hmem j hj2)
              rcases GO_apart hG z2 z3 z1 with z | z
              · have y1 := hc2 j hj hj2
                have y2 := hfl j hj2
                have y3 : (ln_at (s_ls s) (zs.getD j 0)).2.1 < (ln_at (s_ls s) q).1 := z
                omega
              · exact z
            · rw [List.length_insertIdx_of_le_length hi]; omega
            · rw [List.mem_insertIdx hi, hsi.2.2]
              constructor
              · rintro (z | z)
                · subst z; exact ⟨by omega, hel⟩
                · exact ⟨by omega, z.2⟩
              · rintro ⟨z1, z2⟩
                by_cases z : j = q
                · exact Or.inl z
                · exact Or.inr ⟨by omega, z2⟩
          have hv : hs_I (hs_sI S2 (ad 35) i (nI q)) m 36 + 1 = nI (zs.length + 1) := by rw [mI_sa hB.2.2, h362]; exact nI_1 _
          refine ih (q + 1) (zs.insertIdx i q) _ _ (by omega) (by omega) (SX_36 (SX_35 hsx2 i (nI q)) _) ?_ hsi2 (fun j hj => ?_) ?_
          · rw [mI_mm, if_pos rfl, hv, List.length_insertIdx_of_le_length hi]
          · rw [List.length_insertIdx_of_le_length hi] at hj
            rw [mI_sm hB.2.2, mI_aa hB.2.2, gd_ins _ _ _ _ hi]
            by_cases z1 : j = i
            · subst z1; simp
            · rw [if_neg (fun y => z1 y.2)]
              by_cases z2 : j < i
              · rw [if_pos z2]; exact ha j z2
              · rw [if_neg z2, if_neg z1]; exact hb j (by omega) (by omega)
          · rw [sz_ins _ _ _ _ hi, hacc, ln_add h7 h6 hok.1 (by omega), lN_add]
            rfl
        · refine ex_goto (tgt := 146) dX10_sorts_46 (by decide) ?_
          refine ex_iinc (v := nI (q + 1)) 0 [(4, .int (nI (q + 1))), (2, .long acc), (0, .ref m), (1, .int xd)] dX10_sorts_146 rfl (nI_1 q) (by decide) rfl ?_
          refine ex_goto (tgt := 10) dX10_sorts_149 (by decide) ?_
          refine ex_lv [0, 1, 2, 3] rfl ?_
          refine ih (q + 1) zs acc S (by omega) (by omega) hsx h36 ⟨hsi.1, by omega, fun i => (hsi.2.2 i).trans ⟨fun z => ⟨by omega, z.2⟩, fun z => ⟨?_, z.2⟩⟩⟩ hmy hacc
          have z1 := z.1
          rcases Nat.lt_or_ge i q with y | y
          · exact y
          · have e : i = q := by omega
            subst e
            first
              | exact absurd (h10.trans (by rw [z.2.1]; rfl)) c27
              | exact absurd (hsin.mpr z.2.2) c43
theorem el_uq {ls : List li_T} {td days : Nat} {ys zs : List Nat} (hf : ∀ i, (ln_at ls i).1 ≤ (ln_at ls i).2.1) (hG : GO ls ys) (h : SI ls td days ls.length zs) : zs = el ls td days ys := by
  refine bf_uq hf h.1 (List.Pairwise.filter _ hG.1) (fun i => ?_)
  rw [h.2.2]
  simp only [el, List.mem_filter, decide_eq_true_eq]
  rw [hG.2]
  constructor
  · rintro ⟨z1, z2, z3⟩; exact ⟨⟨z1, z2⟩, z3⟩
  · rintro ⟨⟨z1, z2⟩, z3⟩; exact ⟨z1, z2, z3⟩
theorem ML_fl {S : hs_T} {m : Nat} {ad : Nat → Nat} {ls : List li_T} (h : ML S m ad ls) (i : Nat) : (ln_at ls i).1 ≤ (ln_at ls i).2.1 := by
  by_cases z : i < ls.length
  · exact (h.2.2 i z).1.1
  · unfold ln_at; rw [List.getD_eq_getElem?_getD, List.getElem?_eq_none (by omega)]; exact Nat.le_refl _
def sq (S0 : hs_T) (m : Nat) (ad : Nat → Nat) (n k : Nat) (s : st_T) (zs : List Nat) : ex_R := fun r S' n' k' => r = .inl (some (.long (lN (sz (s_ls s) zs)))) ∧ SX S0 S' m ad s ∧ MY S' ad zs ∧ n' = n ∧ k' = k
set_option maxRecDepth 20000 in
set_option maxHeartbeats 2000000 in
theorem m_sorts (g : gl_T) {S : hs_T} {n k : Nat} {m : Nat} {ad : Nat → Nat} {s : st_T} {ys : List Nat} {xd : Int32} {days : Nat} (h : RM S m ad s) (hG : GO (s_ls s) ys) (hxd : xd = nI days) (hdy : days ≤ 1000000000) : ex_M g 0 mX10_sorts [.ref m, .int xd] S n k (sq S m ad n k s (el (s_ls s) (s_td s) days ys)) := by
  have hB := h.1
  refine ex_enter (by decide +kernel) (Nat.le_of_ble_eq_true rfl) ?_
  show ex_W _ _ _ _ 0 [(0, .ref m), (1, .int xd)] [] _ _ _
  refine ex_lconst (v := 0) dX10_sorts_0 (by decide) ?_
  refine ex_lstore_n [(2, .long 0), (0, .ref m), (1, .int xd)] dX10_sorts_1 (by decide) rfl ?_
  refine ex_aload_n dX10_sorts_2 1 rfl ?_
  refine ex_iconst (v := 0) dX10_sorts_3 (by decide) ?_
  refine ex_putI dX10_sorts_4 fl_X10_211 (pf_X10_211 _) hB.1.1 hB.1.2 ?_
  refine ex_iconst (v := 0) dX10_sorts_7 (by decide) ?_
  refine ex_istore [(4, .int 0), (2, .long 0), (0, .ref m), (1, .int xd)] dX10_sorts_8 (by decide) rfl ?_
  refine ex_lv [0, 1, 2, 3] rfl ?_
  refine m_sorts_l (S0 := S) (s := s) hG hxd hdy (fun zs S1 h1 h2 h3 => ?_) ((s_ls s).length + 1) 0 [] _ _ (by omega) (by omega) (SX_36 ⟨h, MF_rf _ _ _, rfl⟩ 0) (by rw [mI_mm]; rfl) ⟨List.Pairwise.nil, Nat.le_refl _, fun i => ⟨fun z => absurd z (by simp), fun z => absurd z.1 (by omega)⟩⟩ (fun j hj => absurd hj (by simp)) rfl
  have e := el_uq (ML_fl h.2.2.2.1) hG h3
  subst e
  exact ⟨rfl, h1, h2, rfl, rfl⟩
