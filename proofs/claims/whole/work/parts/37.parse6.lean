abbrev p_is (b : Nat → Nat) (N : Nat) (p : ps_T) : Prop := (wd b (sk b N p.1) [102, 117, 110, 100] ∨ wd b (sk b N p.1) [100, 97, 121, 115] ∨ wd b (sk b N p.1) [116, 105, 101, 114] ∨ wd b (sk b N p.1) [115, 104, 97, 114, 101])
/-- clause by clause -/
def p_rs (b : Nat → Nat) (N : Nat) : Nat → List cl_T → ps_T → List cl_T × ps_T
  | 0, cs, p => (cs, p)
  | t + 1, cs, p => if p.2.1 = 0 ∧ p.1 < N then (if cs.length = 10 then (cs, p_wr (if p_is b N p then 3 else 1) p.1 p) else p_rs b N t (cs ++ [(p_cl b N p).1]) (p_bl b N (p_cl b N p).2)) else (cs, p)
theorem p_rs_f {b : Nat → Nat} {N : Nat} {cs : List cl_T} {p : ps_T} (h : ¬ (p.2.1 = 0 ∧ p.1 < N)) : ∀ t, p_rs b N t cs p = (cs, p)
  | 0 => rfl
  | t + 1 => by rw [p_rs, if_neg h]
theorem sk_ge' (b : Nat → Nat) (N a : Nat) : a ≤ sk b N a := by
  by_cases h : a ≤ N
  · exact sk_ge h
  · rw [sk_stop (fun z => h (by omega))]; exact Nat.le_refl _
theorem dg_ge' (b : Nat → Nat) (N a : Nat) : a ≤ dg b N a := by
  by_cases h : a ≤ N
  · exact (dg_ge h).1
  · rw [dg_stop (fun z => h (by omega))]; exact Nat.le_refl _
theorem p_wr_0 {c w : Nat} {p : ps_T} (hc : 0 < c) : ¬ (p_wr c w p).2.1 = 0 := by
  unfold p_wr
  split
  · omega
  · show ¬ c = 0; omega
theorem p_need_0 {b : Nat → Nat} {N : Nat} {w : List Nat} {p : ps_T} (h : (p_need b N w p).2.1 = 0) : p.2.1 = 0 ∧ p.1 ≤ (p_need b N w p).1 := by
  unfold p_need at h ⊢
  split at h
  · omega
  · next h1 =>
    rw [if_neg h1]
    split at h
    · next h2 => rw [if_pos h2]; exact ⟨by omega, by have := sk_ge' b N p.1; show p.1 ≤ sk b N p.1 + _; omega⟩
    · exact absurd h (p_wr_0 (by decide))
theorem p_sign_0 {b : Nat → Nat} {N c : Nat} {p : ps_T} (h : (p_sign b N c p).2.1 = 0) : p.2.1 = 0 ∧ p.1 < (p_sign b N c p).1 := by
  unfold p_sign at h ⊢
  split at h
  · omega
  · next h1 =>
    rw [if_neg h1]
    split at h
    · next h2 => rw [if_pos h2]; exact ⟨by omega, by have := sk_ge' b N p.1; show p.1 < sk b N p.1 + 1; omega⟩
    · exact absurd h (p_wr_0 (by decide))
theorem p_num_0 {b : Nat → Nat} {N l m : Nat} {p : ps_T} (h : (p_num b N l m p).2.1 = 0) : p.2.1 = 0 ∧ p.1 ≤ (p_num b N l m p).1 ∧ l ≤ p_val b N l m p ∧ p_val b N l m p ≤ m := by
  have hv : p_val b N l m p = dv b N (sk b N p.1) 0 := by unfold p_val; rw [if_neg (by omega)]
  rw [hv]
  unfold p_num at h ⊢
  split at h
  · omega
  · next h1 =>
    rw [if_neg h1]
    unfold p_nu2 at h ⊢
    split at h
    · exact absurd h (p_wr_0 (by decide))
    · next h2 => rw [if_neg h2]; exact ⟨by omega, by have := sk_ge' b N p.1; have := dg_ge' b N (sk b N p.1); show p.1 ≤ dg b N _; omega, by omega, by omega⟩
theorem p_cl_0 {b : Nat → Nat} {N : Nat} {p : ps_T} (h : (p_cl b N p).2.2.1 = 0) : p.1 < (p_cl b N p).2.1 ∧ cl_ok (p_cl b N p).1 := by
  have hs := sk_ge' b N p.1
  unfold p_cl at h ⊢
  split at h
  · next h1 =>
    rw [if_pos h1]
    obtain ⟨a1, a2⟩ := p_sign_0 h
    obtain ⟨b1, b2, b3, b4⟩ := p_num_0 a1
    obtain ⟨c1, c2⟩ := p_sign_0 b1
    obtain ⟨d1, d2, d3, d4⟩ := p_num_0 c1
    obtain ⟨e1, e2⟩ := p_need_0 d1
    refine ⟨?_, ?_⟩
    · change sk b N p.1 ≤ _ at e2
      show p.1 < (p_sign b N 59 _).1
      omega
    · refine ⟨by show 0 ≤ 3; omega, by show p_val b N _ _ _ ≤ _; omega, by show p_val b N _ _ _ ≤ _; omega, fun _ => ⟨by show p_val b N _ _ _ ≤ _; omega, by show 1 ≤ p_val b N _ _ _; omega⟩, fun z => absurd z (by show ¬ (0 : Nat) = 1; omega), fun z => absurd z (by show ¬ 2 ≤ (0 : Nat); omega), fun z => absurd z (by show ¬ (0 : Nat) = 3; omega)⟩
  · next h1 =>
    rw [if_neg h1]
    split at h
    · next h2 =>
      rw [if_pos h2]
      obtain ⟨a1, a2⟩ := p_sign_0 h
      obtain ⟨b1, b2, b3, b4⟩ := p_num_0 a1
      obtain ⟨e1, e2⟩ := p_need_0 b1
      refine ⟨?_, ?_⟩
      · change sk b N p.1 ≤ _ at e2
        show p.1 < (p_sign b N 59 _).1
        omega
      · refine ⟨by show 1 ≤ 3; omega, by show p_val b N _ _ _ ≤ _; omega, by show 0 ≤ _; omega, fun z => absurd z (by show ¬ (1 : Nat) = 0; omega), fun _ => rfl, fun z => absurd z (by show ¬ 2 ≤ (1 : Nat); omega), fun z => absurd z (by show ¬ (1 : Nat) = 3; omega)⟩
    · next h2 =>
      rw [if_neg h2]
      split at h
      · next h3 =>
        rw [if_pos h3]
        obtain ⟨a1, a2⟩ := p_sign_0 h
        obtain ⟨b1, b2, b3, b4⟩ := p_num_0 a1
        obtain ⟨c1, c2⟩ := p_need_0 b1
        obtain ⟨d1, d2, d3, d4⟩ := p_num_0 c1
        obtain ⟨e1, e2⟩ := p_need_0 d1
        refine ⟨?_, ?_⟩
        · change sk b N p.1 ≤ _ at e2
          show p.1 < (p_sign b N 59 _).1
          omega
        · refine ⟨by show 2 ≤ 3; omega, by show p_val b N _ _ _ ≤ _; omega, by show p_val b N _ _ _ ≤ _; omega, fun z => absurd z (by show ¬ (2 : Nat) = 0; omega), fun z => absurd z (by show ¬ (2 : Nat) = 1; omega), fun _ => by show 1 ≤ p_val b N _ _ _; omega, fun z => absurd z (by show ¬ (2 : Nat) = 3; omega)⟩
      · next h3 =>
        rw [if_neg h3]
        obtain ⟨a1, a2⟩ := p_sign_0 h
        obtain ⟨b1, b2, b3, b4⟩ := p_num_0 a1
        obtain ⟨d1, d2, d3, d4⟩ := p_num_0 b1
        obtain ⟨e1, e2⟩ := p_need_0 d1
        refine ⟨?_, ?_⟩
        · change sk b N p.1 ≤ _ at e2
          show p.1 < (p_sign b N 59 _).1
          omega
        · refine ⟨by show 3 ≤ 3; omega, by show p_val b N _ _ _ ≤ _; omega, by show p_val b N _ _ _ ≤ _; omega, fun z => absurd z (by show ¬ (3 : Nat) = 0; omega), fun z => absurd z (by show ¬ (3 : Nat) = 1; omega), fun _ => by show 1 ≤ p_val b N _ _ _; omega, fun _ => by show p_val b N _ _ _ ≤ 100; omega⟩
/-- while a rule is read -/
def RI (S0 S : hs_T) (m : Nat) (ad : Nat → Nat) (s : st_T) (T : List Int32) (N : Nat) (cs : List cl_T) (p : ps_T) : Prop := (PS S m ad s T N p ∧ MF S0 S m ad ∧ hs_I S m 0 = hs_I S0 m 0) ∧ cs.length ≤ 10 ∧ ∀ c, c < cs.length → hs_I S (ad 20) (10 * (s_rs s).length + c) = nI (cs.getD c (0, 0, 0)).1 ∧ hs_I S (ad 21) (10 * (s_rs s).length + c) = nI (cs.getD c (0, 0, 0)).2.1 ∧ ((cs.getD c (0, 0, 0)).1 ≠ 1 → hs_I S (ad 22) (10 * (s_rs s).length + c) = nI (cs.getD c (0, 0, 0)).2.2)
theorem RI_px {S0 S S1 : hs_T} {m : Nat} {ad : Nat → Nat} {s : st_T} {T : List Int32} {N : Nat} {cs : List cl_T} {p q : ps_T} (h : RI S0 S m ad s T N cs p) (hx : PX S S1 m ad s T N q) : RI S0 S1 m ad s T N cs q := by
  obtain ⟨⟨h1, h2, h3⟩, h4, h5⟩ := h
  refine ⟨⟨hx.1, MF_tr h2 hx.2.1, hx.2.2.1.trans h3⟩, h4, fun c hc => ?_⟩
  have h6 := h5 c hc
  rw [hx.2.2.2.1, hx.2.2.2.2.1, hx.2.2.2.2.2]
  exact h6
theorem RI_cq {S0 S S1 : hs_T} {m : Nat} {ad : Nat → Nat} {s : st_T} {T : List Int32} {N : Nat} {cs : List cl_T} {p : ps_T} {r : cl_T × ps_T} (h : RI S0 S m ad s T N cs p) (hl : cs.length ≠ 10) (hx : CX S S1 m ad s T N (10 * (s_rs s).length + cs.length) r.2) (h2 : hs_I S1 (ad 20) (10 * (s_rs s).length + cs.length) = nI r.1.1 ∧ hs_I S1 (ad 21) (10 * (s_rs s).length + cs.length) = nI r.1.2.1 ∧ (r.1.1 ≠ 1 → hs_I S1 (ad 22) (10 * (s_rs s).length + cs.length) = nI r.1.2.2)) : RI S0 S1 m ad s T N (cs ++ [r.1]) r.2 := by
  obtain ⟨⟨g1, g2, g3⟩, g4, g5⟩ := h
  refine ⟨⟨hx.1, MF_tr g2 hx.2.1, hx.2.2.1.trans g3⟩, by simp; omega, fun c hc => ?_⟩
  simp at hc
  rw [gd_app]
  by_cases q : c = cs.length
  · subst q; rw [if_pos rfl]; exact h2
  · rw [if_neg q]
    obtain ⟨e1, e2, e3⟩ := hx.2.2.2 (10 * (s_rs s).length + c) (by omega)
    rw [e1, e2, e3]
    exact g5 c (by omega)
theorem PS_start {S : hs_T} {m : Nat} {ad : Nat → Nat} {s : st_T} (h : RM S m ad s) {x : Int32} {N : Nat} (hx : x = nI N) (hN : N ≤ (s_tp s).length) : PS (hs_sI (hs_sI (hs_sI (hs_sI (hs_sI S m 14 x) m 13 0) m 15 0) m 16 0) m 17 (-1)) m ad (w_tp s []) (s_tp s) N (0, 0, none) := by
  have hA := h.1.2.2
  have hT4 := h.2.2.2.2.1.2.1
  have hT := h.2.2.2.2.1.2.2
  have h0 := RM_mI h 14 x (by decide)
  have h1 : RM (hs_sI (hs_sI S m 14 x) m 13 0) m ad (w_tp s []) := by
    obtain ⟨hB, hMS, hMH, hML, hMT, hMR, hMN, hMD, hMW⟩ := h0
    exact ⟨hB, (MS_mI hB.2.2 (hMS) 13 _ (by decide)), (MH_mI hB.2.2 (hMH) 13 _ (by decide)), (ML_mI hB.2.2 (hML) 13 _ (by decide)), ⟨by rw [mI_mm, if_pos rfl]; rfl, Nat.zero_le _, fun j hj => absurd hj (Nat.not_lt_zero _)⟩, (MR_mI hB.2.2 (hMR) 13 _ (by decide)), (MN_mI hB.2.2 (hMN) 13 _ (by decide)), (MD_mI hB.2.2 (hMD) 13 _ (by decide)), (MW_mI hB.2.2 (hMW) 13 _ (by decide))⟩
  have h2 := RM_mI (RM_mI h1 15 0 (by decide)) 16 0 (by decide)
  have h3 := RM_fp h2 (v := -1) (x := none) rfl (fun d hd => by cases hd)
  refine ⟨h3, ⟨?_, ?_, ?_⟩, fun j hj => ?_, by omega, Nat.zero_le _, Nat.zero_le _⟩
  · simp only [mI_mm]; exact hx
  · simp only [mI_mm]; rfl
  · simp only [mI_mm]; rfl
  · simp only [mI_sm hA]; exact hT j (by omega)
/-- a rule is told -/
def p_all (T : List Int32) (N : Nat) : List cl_T × ps_T := p_rs (pb T N) N (N + 1) [] (p_bl (pb T N) N (0, 0, none))
noncomputable def sp_rule (s : st_T) (x y : Int32) : Nat × Value × st_T := if x < 0 ∨ nI (s_tp s).length < x ∨ y < 0 ∨ 100000 < y then (1, .int 0, s) else if (s_rs s).length = 20 then (2, .int 0, s) else if 0 < (p_all (s_tp s) x.toNatClampNeg).2.2.1 then (0, .int (nI (p_all (s_tp s) x.toNatClampNeg).2.2.1 - 10), w_fp (w_tp s []) (p_all (s_tp s) x.toNatClampNeg).2.2.2) else (0, .int (nI (s_rs s).length), w_rs (w_fp (w_tp s []) (p_all (s_tp s) x.toNatClampNeg).2.2.2) (s_rs s ++ [(y.toNatClampNeg, (p_all (s_tp s) x.toNatClampNeg).1)]))
set_option maxRecDepth 20000 in
set_option maxHeartbeats 2000000 in
theorem m_rule_b {g : gl_T} {S0 : hs_T} {n k m N : Nat} {ad : Nat → Nat} {s : st_T} {T : List Int32} {Po : ex_R} {x y : Int32} {S : hs_T} {cs : List cl_T} {p : ps_T} (h : RI S0 S m ad s T N cs p) {v4 : Int32} (hv : v4 = if p_is (pb T N) N p then 1 else 0)
    (k1 : cs.length = 10 → ∀ S1, RI S0 S1 m ad s T N cs (p_wr (if p_is (pb T N) N p then 3 else 1) p.1 p) → ex_W g 7 mX10_rule Po 95 [(3, .int (nI cs.length)), (0, .ref m), (1, .int x), (2, .int y)] [] S1 n k)
    (k2 : cs.length ≠ 10 → ∀ S1, RI S0 S1 m ad s T N (cs ++ [(p_cl (pb T N) N p).1]) (p_bl (pb T N) N (p_cl (pb T N) N p).2) → ex_W g 7 mX10_rule Po 95 [(3, .int (nI (cs.length + 1))), (0, .ref m), (1, .int x), (2, .int y)] [] S1 n k) : ex_W g 7 mX10_rule Po 156 [(4, .int v4), (3, .int (nI cs.length)), (0, .ref m), (1, .int x), (2, .int y)] [] S n k := by
  have hB := h.1.1.1.1
  have hcl := h.2.1
  refine ex_iload_n dX10_rule_156 1 rfl ?_
  refine ex_bipush (v := 10) dX10_rule_157 (by decide) ?_
  refine ex_icmp_ne (tgt := 183) dX10_rule_159 (by decide) (fun c159 => ?_) (fun c159 => ?_)
  · have hc10 : cs.length ≠ 10 := fun z => c159 (by rw [z]; rfl)
    have hMR := h.1.1.1.2.2.2.2.2.1
    refine ex_aload_n dX10_rule_183 2 rfl ?_
    refine ex_bipush (v := 10) dX10_rule_184 (by decide) ?_
    refine ex_aload_n dX10_rule_186 2 rfl ?_
    refine ex_getI dX10_rule_187 fl_X10_197 hB.1.1 hB.1.2 ?_
    refine ex_imul dX10_rule_190 ?_
    refine ex_iload_n dX10_rule_191 1 rfl ?_
    refine ex_iadd dX10_rule_192 ?_
    refine ex_cVg [.int ((10 * (hs_I S m 23)) + (nI cs.length))] [] dX10_rule_193 cV_X10_200 (m_clause g h.1.1 (i := 10 * (s_rs s).length + cs.length) (by rw [hMR.1]; exact (congrArg (· + nI cs.length) (pk_mul 10 _)).trans (nI_add _ _)) (by have : (s_rs s).length ≤ 20 := hMR.2.1; omega) (by omega)) hB.1.1 hB.1.2 rfl rfl rfl (by decide) (Nat.le_of_ble_eq_true rfl) rfl ?_ (fun E S' n' k' h => by obtain ⟨h1, -⟩ := h; cases h1)
    rintro v' S1 n' k' ⟨hr, hq1, hz1, hn, hk⟩
    cases hr
    have hn := hn.symm
    have hk := hk.symm
    subst hn hk
    have hR1 := RI_cq h hc10 hq1 hz1
    have hB := hR1.1.1.1.1
    show ex_W _ _ _ _ 196 [(4, .int v4), (3, .int (nI cs.length)), (0, .ref m), (1, .int x), (2, .int y)] [] S1 n k
    refine ex_iinc (v := nI (cs.length + 1)) 1 [(3, .int (nI (cs.length + 1))), (4, .int v4), (0, .ref m), (1, .int x), (2, .int y)] dX10_rule_196 rfl (nI_1 _) (by decide) rfl ?_
    refine ex_aload_n dX10_rule_199 2 rfl ?_
    refine ex_cVg [] [] dX10_rule_200 cV_X10_141 (m_blanks g hR1.1.1) hB.1.1 hB.1.2 rfl rfl rfl (by decide) (Nat.le_of_ble_eq_true rfl) rfl ?_ (fun E S' n' k' h => by obtain ⟨h1, -⟩ := h; cases h1)
    rintro v' S2 n' k' ⟨hr, hq2, hn, hk⟩
    cases hr
    have hn := hn.symm
    have hk := hk.symm
    subst hn hk
    have hR2 := RI_px hR1 hq2
    have hB := hR2.1.1.1.1
    show ex_W _ _ _ _ 203 [(3, .int (nI (cs.length + 1))), (4, .int v4), (0, .ref m), (1, .int x), (2, .int y)] [] S2 n k
    refine ex_goto (tgt := 95) dX10_rule_203 (by decide) ?_
    refine ex_lv [0, 2, 3, 4] rfl ?_
    exact k2 hc10 _ hR2
  · refine ex_aload_n dX10_rule_162 2 rfl ?_
    refine ex_iload dX10_rule_163 0 rfl ?_
    refine ex_if_eq (tgt := 172) dX10_rule_165 (by decide) (fun c165 => ?_) (fun c165 => ?_)
    · have his : 1 = (if p_is (pb T N) N p then 3 else 1) := by
        by_cases z : p_is (pb T N) N p
        · rw [if_pos z] at hv; rw [hv] at c165; exact absurd c165 (by decide)
        · rw [if_neg z]
      refine ex_iconst (v := 1) dX10_rule_172 (by decide) ?_
      refine ex_aload_n dX10_rule_173 2 rfl ?_
      refine ex_getI dX10_rule_174 fl_X10_131 hB.1.1 hB.1.2 ?_
      refine ex_cVg [.int 1, .int (hs_I S m 15)] [] dX10_rule_177 cV_X10_161 (m_wrong g h.1.1 (c := 1) rfl (by decide) h.1.1.2.1.2.1 h.1.1.2.2.2.2.1) hB.1.1 hB.1.2 rfl rfl rfl (by decide) (Nat.le_of_ble_eq_true rfl) rfl ?_ (fun E S' n' k' h => by obtain ⟨h1, -⟩ := h; cases h1)
      rintro v' S1 n' k' ⟨hr, hq1, hn, hk⟩
      cases hr
      have hn := hn.symm
      have hk := hk.symm
      subst hn hk
      have hR1 := RI_px h hq1
      have hB := hR1.1.1.1.1
      show ex_W _ _ _ _ 180 [(4, .int v4), (3, .int (nI cs.length)), (0, .ref m), (1, .int x), (2, .int y)] [] S1 n k
      refine ex_goto (tgt := 203) dX10_rule_180 (by decide) ?_
      refine ex_goto (tgt := 95) dX10_rule_203 (by decide) ?_
      refine ex_lv [1, 2, 3, 4] rfl ?_
      exact k1 ((nI_eq (b := 10) (by omega) (by decide)).mp c159) _ (his ▸ hR1)
    · have his : 3 = (if p_is (pb T N) N p then 3 else 1) := by
        by_cases z : p_is (pb T N) N p
        · rw [if_pos z]
        · rw [if_neg z] at hv; exact absurd hv c165
      refine ex_iconst (v := 3) dX10_rule_168 (by decide) ?_
      refine ex_goto (tgt := 173) dX10_rule_169 (by decide) ?_
      refine ex_aload_n dX10_rule_173 2 rfl ?_
      refine ex_getI dX10_rule_174 fl_X10_131 hB.1.1 hB.1.2 ?_
      refine ex_cVg [.int 3, .int (hs_I S m 15)] [] dX10_rule_177 cV_X10_161 (m_wrong g h.1.1 (c := 3) rfl (by decide) h.1.1.2.1.2.1 h.1.1.2.2.2.2.1) hB.1.1 hB.1.2 rfl rfl rfl (by decide) (Nat.le_of_ble_eq_true rfl) rfl ?_ (fun E S' n' k' h => by obtain ⟨h1, -⟩ := h; cases h1)
      rintro v' S1 n' k' ⟨hr, hq1, hn, hk⟩
      cases hr
      have hn := hn.symm
      have hk := hk.symm
      subst hn hk
      have hR1 := RI_px h hq1
      have hB := hR1.1.1.1.1
      show ex_W _ _ _ _ 180 [(4, .int v4), (3, .int (nI cs.length)), (0, .ref m), (1, .int x), (2, .int y)] [] S1 n k
      refine ex_goto (tgt := 203) dX10_rule_180 (by decide) ?_
      refine ex_goto (tgt := 95) dX10_rule_203 (by decide) ?_
      refine ex_lv [1, 2, 3, 4] rfl ?_
      exact k1 ((nI_eq (b := 10) (by omega) (by decide)).mp c159) _ (his ▸ hR1)
set_option maxRecDepth 20000 in
set_option maxHeartbeats 4000000 in
theorem m_rule_l {g : gl_T} {S0 : hs_T} {n k m N : Nat} {ad : Nat → Nat} {s : st_T} {T : List Int32} {Po : ex_R} {x y : Int32} {R : List cl_T × ps_T} (kk : ∀ S1, RI S0 S1 m ad s T N R.1 R.2 → ex_W g 7 mX10_rule Po 206 [(3, .int (nI R.1.length)), (0, .ref m), (1, .int x), (2, .int y)] [] S1 n k) : ∀ t cs p S, RI S0 S m ad s T N cs p → sk (pb T N) N p.1 = p.1 → 0 < t → (p.2.1 = 0 → N < p.1 + t) → p_rs (pb T N) N t cs p = R → ex_W g 7 mX10_rule Po 95 [(3, .int (nI cs.length)), (0, .ref m), (1, .int x), (2, .int y)] [] S n k := by
  intro t
  induction t with
  | zero => intro cs p S h hsk h0; exact absurd h0 (by decide)
  | succ t ih =>
    intro cs p S h hsk h0 ht hres
    have hP := h.1.1
    have hB := hP.1.1
    have hN4 := hP.2.2.2.1
    have hpb : p_bl (pb T N) N p = p := by unfold p_bl; rw [hsk]
    refine ex_aload_n dX10_rule_95 1 rfl ?_
    refine ex_getI dX10_rule_96 fl_X10_138 hB.1.1 hB.1.2 ?_
    refine ex_if_ne (tgt := 206) dX10_rule_99 (by decide) (fun c99 => ?_) (fun c99 => ?_)
    · have hnc : ¬ (p.2.1 = 0 ∧ p.1 < N) := by
        rintro ⟨z1, z2⟩
        first
          | exact c99 (by rw [hP.2.1.2.2, z1]; rfl)
          | (have z3 := nI_lt z2 (by omega); rw [← hP.2.1.1, ← hP.2.1.2.1] at z3; simp only [i_lt, i_le] at *; omega)
      rw [p_rs_f hnc] at hres
      subst hres
      exact kk S h
    · refine ex_aload_n dX10_rule_102 1 rfl ?_
      refine ex_getI dX10_rule_103 fl_X10_131 hB.1.1 hB.1.2 ?_
      refine ex_aload_n dX10_rule_106 1 rfl ?_
      refine ex_getI dX10_rule_107 fl_X10_128 hB.1.1 hB.1.2 ?_
      refine ex_icmp_ge (tgt := 206) dX10_rule_110 (by decide) (fun c110 => ?_) (fun c110 => ?_)
      · have hnc : ¬ (p.2.1 = 0 ∧ p.1 < N) := by
          rintro ⟨z1, z2⟩
          first
            | exact c99 (by rw [hP.2.1.2.2, z1]; rfl)
            | (have z3 := nI_lt z2 (by omega); rw [← hP.2.1.1, ← hP.2.1.2.1] at z3; simp only [i_lt, i_le] at *; omega)
        rw [p_rs_f hnc] at hres
        subst hres
        exact kk S h
      · have hcd : p.2.1 = 0 ∧ p.1 < N := ⟨(nI_eq (b := 0) (by have := hP.2.2.2.2.2; omega) (by decide)).mp (hP.2.1.2.2.symm.trans c99), (nI_ltI (by have := hP.2.2.2.2.1; omega) (by omega)).mp (by rw [← hP.2.1.1, ← hP.2.1.2.1]; simp only [i_lt, i_le] at *; omega)⟩
        have hN9 := ht hcd.1
        refine ex_aload_n dX10_rule_113 1 rfl ?_
        refine ex_ldcS (q := ("BondOfficeModel", 174, "fund", 10)) dX10_rule_114 cR_1 rfl rfl ?_
        refine ex_cVg [.ref (g.2.2.2.2 10)] [] dX10_rule_116 cV_X10_157 (m_isWord_0 g h.1.1) hB.1.1 hB.1.2 rfl rfl rfl (by decide) (Nat.le_of_ble_eq_true rfl) rfl ?_ (fun E S' n' k' h => by obtain ⟨h1, -⟩ := h; cases h1)
        rintro v' S1 n' k' ⟨hr, hq1, hn, hk⟩
        cases hr
        have hn := hn.symm
        have hk := hk.symm
        subst hn hk
        rw [hpb] at hq1
        have hR1 := RI_px h hq1
        have hB := hR1.1.1.1.1
        show ex_W _ _ _ _ 119 [(3, .int (nI cs.length)), (0, .ref m), (1, .int x), (2, .int y)] [.int (if wd (pb T N) (sk (pb T N) N p.1) [102, 117, 110, 100] then 1 else 0)] S1 n k
        refine ex_if_ne (tgt := 149) dX10_rule_119 (by decide) (fun c119 => ?_) (fun c119 => ?_)
        · have y119 : wd (pb T N) (sk (pb T N) N p.1) [102, 117, 110, 100] := by
            by_cases z : wd (pb T N) (sk (pb T N) N p.1) [102, 117, 110, 100]
            · exact z
            · rw [if_neg z] at c119; exact absurd rfl c119
          refine ex_iconst (v := 1) dX10_rule_149 (by decide) ?_
          refine ex_goto (tgt := 154) dX10_rule_150 (by decide) ?_
          refine ex_istore [(4, .int 1), (3, .int (nI cs.length)), (0, .ref m), (1, .int x), (2, .int y)] dX10_rule_154 (by decide) rfl ?_
          refine ex_lv [0, 1, 2, 3, 4] rfl ?_
          refine m_rule_b hR1 (if_pos (Or.inl y119)).symm (fun hc S9 h9 => ?_) (fun hc S9 h9 => ?_)
          · rw [p_rs, if_pos hcd, if_pos hc] at hres
            exact ih cs _ S9 h9 (by have e9 : (p_wr (if p_is (pb T N) N p then 3 else 1) p.1 p).1 = p.1 := by unfold p_wr; split <;> rfl
                                    rw [e9]; exact hsk) (by omega) (fun z => absurd z (p_wr_0 (by split <;> decide))) (by rw [p_rs_f (fun z => p_wr_0 (by split <;> decide) z.1)]; exact hres)
          · rw [p_rs, if_pos hcd, if_neg hc] at hres
            have e3 : nI (cs.length + 1) = nI (cs ++ [(p_cl (pb T N) N p).1]).length := by simp
            rw [e3]
            exact ih _ _ S9 h9 (sk_sk (by have := sk_ge' (pb T N) N (p_cl (pb T N) N p).2.1; have q : (p_bl (pb T N) N (p_cl (pb T N) N p).2).1 ≤ N := h9.1.1.2.2.2.2.1; change sk (pb T N) N (p_cl (pb T N) N p).2.1 ≤ N at q; omega)) (by omega) (fun z => by have q := (p_cl_0 (b := pb T N) (N := N) (p := p) z).1; have := sk_ge' (pb T N) N (p_cl (pb T N) N p).2.1; show N < sk (pb T N) N (p_cl (pb T N) N p).2.1 + t; omega) hres
        · have y119 : ¬ wd (pb T N) (sk (pb T N) N p.1) [102, 117, 110, 100] := fun z => by
            rw [if_pos z] at c119; exact absurd c119 (by decide)
          refine ex_aload_n dX10_rule_122 1 rfl ?_
          refine ex_ldcS (q := ("BondOfficeModel", 189, "days", 11)) dX10_rule_123 cR_2 rfl rfl ?_
          refine ex_cVg [.ref (g.2.2.2.2 11)] [] dX10_rule_125 cV_X10_157 (m_isWord_1 g hR1.1.1) hB.1.1 hB.1.2 rfl rfl rfl (by decide) (Nat.le_of_ble_eq_true rfl) rfl ?_ (fun E S' n' k' h => by obtain ⟨h1, -⟩ := h; cases h1)
          rintro v' S2 n' k' ⟨hr, hq2, hn, hk⟩
          cases hr
          have hn := hn.symm
          have hk := hk.symm
          subst hn hk
          rw [hpb] at hq2
          have hR2 := RI_px hR1 hq2
          have hB := hR2.1.1.1.1
          show ex_W _ _ _ _ 128 [(3, .int (nI cs.length)), (0, .ref m), (1, .int x), (2, .int y)] [.int (if wd (pb T N) (sk (pb T N) N p.1) [100, 97, 121, 115] then 1 else 0)] S2 n k
          refine ex_if_ne (tgt := 149) dX10_rule_128 (by decide) (fun c128 => ?_) (fun c128 => ?_)
          · have y128 : wd (pb T N) (sk (pb T N) N p.1) [100, 97, 121, 115] := by
              by_cases z : wd (pb T N) (sk (pb T N) N p.1) [100, 97, 121, 115]
              · exact z
              · rw [if_neg z] at c128; exact absurd rfl c128
            refine ex_iconst (v := 1) dX10_rule_149 (by decide) ?_
            refine ex_goto (tgt := 154) dX10_rule_150 (by decide) ?_
            refine ex_istore [(4, .int 1), (3, .int (nI cs.length)), (0, .ref m), (1, .int x), (2, .int y)] dX10_rule_154 (by decide) rfl ?_
            refine ex_lv [0, 1, 2, 3, 4] rfl ?_
            refine m_rule_b hR2 (if_pos (Or.inr (Or.inl y128))).symm (fun hc S9 h9 => ?_) (fun hc S9 h9 => ?_)
            · rw [p_rs, if_pos hcd, if_pos hc] at hres
              exact ih cs _ S9 h9 (by have e9 : (p_wr (if p_is (pb T N) N p then 3 else 1) p.1 p).1 = p.1 := by unfold p_wr; split <;> rfl
                                      rw [e9]; exact hsk) (by omega) (fun z => absurd z (p_wr_0 (by split <;> decide))) (by rw [p_rs_f (fun z => p_wr_0 (by split <;> decide) z.1)]; exact hres)
            · rw [p_rs, if_pos hcd, if_neg hc] at hres
              have e3 : nI (cs.length + 1) = nI (cs ++ [(p_cl (pb T N) N p).1]).length := by simp
              rw [e3]
              exact ih _ _ S9 h9 (sk_sk (by have := sk_ge' (pb T N) N (p_cl (pb T N) N p).2.1; have q : (p_bl (pb T N) N (p_cl (pb T N) N p).2).1 ≤ N := h9.1.1.2.2.2.2.1; change sk (pb T N) N (p_cl (pb T N) N p).2.1 ≤ N at q; omega)) (by omega) (fun z => by have q := (p_cl_0 (b := pb T N) (N := N) (p := p) z).1; have := sk_ge' (pb T N) N (p_cl (pb T N) N p).2.1; show N < sk (pb T N) N (p_cl (pb T N) N p).2.1 + t; omega) hres
          · have y128 : ¬ wd (pb T N) (sk (pb T N) N p.1) [100, 97, 121, 115] := fun z => by
              rw [if_pos z] at c128; exact absurd c128 (by decide)
            refine ex_aload_n dX10_rule_131 1 rfl ?_
            refine ex_ldcS (q := ("BondOfficeModel", 191, "tier", 12)) dX10_rule_132 cR_3 rfl rfl ?_
            refine ex_cVg [.ref (g.2.2.2.2 12)] [] dX10_rule_134 cV_X10_157 (m_isWord_2 g hR2.1.1) hB.1.1 hB.1.2 rfl rfl rfl (by decide) (Nat.le_of_ble_eq_true rfl) rfl ?_ (fun E S' n' k' h => by obtain ⟨h1, -⟩ := h; cases h1)
            rintro v' S3 n' k' ⟨hr, hq3, hn, hk⟩
            cases hr
            have hn := hn.symm
            have hk := hk.symm
            subst hn hk
            rw [hpb] at hq3
            have hR3 := RI_px hR2 hq3
            have hB := hR3.1.1.1.1
            show ex_W _ _ _ _ 137 [(3, .int (nI cs.length)), (0, .ref m), (1, .int x), (2, .int y)] [.int (if wd (pb T N) (sk (pb T N) N p.1) [116, 105, 101, 114] then 1 else 0)] S3 n k
            refine ex_if_ne (tgt := 149) dX10_rule_137 (by decide) (fun c137 => ?_) (fun c137 => ?_)
            · have y137 : wd (pb T N) (sk (pb T N) N p.1) [116, 105, 101, 114] := by
                by_cases z : wd (pb T N) (sk (pb T N) N p.1) [116, 105, 101, 114]
                · exact z
                · rw [if_neg z] at c137; exact absurd rfl c137
              refine ex_iconst (v := 1) dX10_rule_149 (by decide) ?_
              refine ex_goto (tgt := 154) dX10_rule_150 (by decide) ?_
              refine ex_istore [(4, .int 1), (3, .int (nI cs.length)), (0, .ref m), (1, .int x), (2, .int y)] dX10_rule_154 (by decide) rfl ?_
              refine ex_lv [0, 1, 2, 3, 4] rfl ?_
              refine m_rule_b hR3 (if_pos (Or.inr (Or.inr (Or.inl y137)))).symm (fun hc S9 h9 => ?_) (fun hc S9 h9 => ?_)
              · rw [p_rs, if_pos hcd, if_pos hc] at hres
                exact ih cs _ S9 h9 (by have e9 : (p_wr (if p_is (pb T N) N p then 3 else 1) p.1 p).1 = p.1 := by unfold p_wr; split <;> rfl
                                        rw [e9]; exact hsk) (by omega) (fun z => absurd z (p_wr_0 (by split <;> decide))) (by rw [p_rs_f (fun z => p_wr_0 (by split <;> decide) z.1)]; exact hres)
              · rw [p_rs, if_pos hcd, if_neg hc] at hres
                have e3 : nI (cs.length + 1) = nI (cs ++ [(p_cl (pb T N) N p).1]).length := by simp
                rw [e3]
                exact ih _ _ S9 h9 (sk_sk (by have := sk_ge' (pb T N) N (p_cl (pb T N) N p).2.1; have q : (p_bl (pb T N) N (p_cl (pb T N) N p).2).1 ≤ N := h9.1.1.2.2.2.2.1; change sk (pb T N) N (p_cl (pb T N) N p).2.1 ≤ N at q; omega)) (by omega) (fun z => by have q := (p_cl_0 (b := pb T N) (N := N) (p := p) z).1; have := sk_ge' (pb T N) N (p_cl (pb T N) N p).2.1; show N < sk (pb T N) N (p_cl (pb T N) N p).2.1 + t; omega) hres
            · have y137 : ¬ wd (pb T N) (sk (pb T N) N p.1) [116, 105, 101, 114] := fun z => by
                rw [if_pos z] at c137; exact absurd c137 (by decide)
              refine ex_aload_n dX10_rule_140 1 rfl ?_
              refine ex_ldcS (q := ("BondOfficeModel", 195, "share", 13)) dX10_rule_141 cR_4 rfl rfl ?_
              refine ex_cVg [.ref (g.2.2.2.2 13)] [] dX10_rule_143 cV_X10_157 (m_isWord_3 g hR3.1.1) hB.1.1 hB.1.2 rfl rfl rfl (by decide) (Nat.le_of_ble_eq_true rfl) rfl ?_ (fun E S' n' k' h => by obtain ⟨h1, -⟩ := h; cases h1)
              rintro v' S4 n' k' ⟨hr, hq4, hn, hk⟩
              cases hr
              have hn := hn.symm
              have hk := hk.symm
              subst hn hk
              rw [hpb] at hq4
              have hR4 := RI_px hR3 hq4
              have hB := hR4.1.1.1.1
              show ex_W _ _ _ _ 146 [(3, .int (nI cs.length)), (0, .ref m), (1, .int x), (2, .int y)] [.int (if wd (pb T N) (sk (pb T N) N p.1) [115, 104, 97, 114, 101] then 1 else 0)] S4 n k
              refine ex_if_eq (tgt := 153) dX10_rule_146 (by decide) (fun c146 => ?_) (fun c146 => ?_)
              · have y146 : ¬ wd (pb T N) (sk (pb T N) N p.1) [115, 104, 97, 114, 101] := fun z => by
                  rw [if_pos z] at c146; exact absurd c146 (by decide)
                refine ex_iconst (v := 0) dX10_rule_153 (by decide) ?_
                refine ex_istore [(4, .int 0), (3, .int (nI cs.length)), (0, .ref m), (1, .int x), (2, .int y)] dX10_rule_154 (by decide) rfl ?_
                refine ex_lv [0, 1, 2, 3, 4] rfl ?_
                refine m_rule_b hR4 (if_neg (fun z => z.elim y119 (fun z => z.elim y128 (fun z => z.elim y137 y146)))).symm (fun hc S9 h9 => ?_) (fun hc S9 h9 => ?_)
                · rw [p_rs, if_pos hcd, if_pos hc] at hres
                  exact ih cs _ S9 h9 (by have e9 : (p_wr (if p_is (pb T N) N p then 3 else 1) p.1 p).1 = p.1 := by unfold p_wr; split <;> rfl
                                          rw [e9]; exact hsk) (by omega) (fun z => absurd z (p_wr_0 (by split <;> decide))) (by rw [p_rs_f (fun z => p_wr_0 (by split <;> decide) z.1)]; exact hres)
                · rw [p_rs, if_pos hcd, if_neg hc] at hres
                  have e3 : nI (cs.length + 1) = nI (cs ++ [(p_cl (pb T N) N p).1]).length := by simp
                  rw [e3]
                  exact ih _ _ S9 h9 (sk_sk (by have := sk_ge' (pb T N) N (p_cl (pb T N) N p).2.1; have q : (p_bl (pb T N) N (p_cl (pb T N) N p).2).1 ≤ N := h9.1.1.2.2.2.2.1; change sk (pb T N) N (p_cl (pb T N) N p).2.1 ≤ N at q; omega)) (by omega) (fun z => by have q := (p_cl_0 (b := pb T N) (N := N) (p := p) z).1; have := sk_ge' (pb T N) N (p_cl (pb T N) N p).2.1; show N < sk (pb T N) N (p_cl (pb T N) N p).2.1 + t; omega) hres
              · have y146 : wd (pb T N) (sk (pb T N) N p.1) [115, 104, 97, 114, 101] := by
                  by_cases z : wd (pb T N) (sk (pb T N) N p.1) [115, 104, 97, 114, 101]
                  · exact z
                  · rw [if_neg z] at c146; exact absurd rfl c146
                refine ex_iconst (v := 1) dX10_rule_149 (by decide) ?_
                refine ex_goto (tgt := 154) dX10_rule_150 (by decide) ?_
                refine ex_istore [(4, .int 1), (3, .int (nI cs.length)), (0, .ref m), (1, .int x), (2, .int y)] dX10_rule_154 (by decide) rfl ?_
                refine ex_lv [0, 1, 2, 3, 4] rfl ?_
                refine m_rule_b hR4 (if_pos (Or.inr (Or.inr (Or.inr (y146))))).symm (fun hc S9 h9 => ?_) (fun hc S9 h9 => ?_)
                · rw [p_rs, if_pos hcd, if_pos hc] at hres
                  exact ih cs _ S9 h9 (by have e9 : (p_wr (if p_is (pb T N) N p then 3 else 1) p.1 p).1 = p.1 := by unfold p_wr; split <;> rfl
                                          rw [e9]; exact hsk) (by omega) (fun z => absurd z (p_wr_0 (by split <;> decide))) (by rw [p_rs_f (fun z => p_wr_0 (by split <;> decide) z.1)]; exact hres)
                · rw [p_rs, if_pos hcd, if_neg hc] at hres
                  have e3 : nI (cs.length + 1) = nI (cs ++ [(p_cl (pb T N) N p).1]).length := by simp
                  rw [e3]
                  exact ih _ _ S9 h9 (sk_sk (by have := sk_ge' (pb T N) N (p_cl (pb T N) N p).2.1; have q : (p_bl (pb T N) N (p_cl (pb T N) N p).2).1 ≤ N := h9.1.1.2.2.2.2.1; change sk (pb T N) N (p_cl (pb T N) N p).2.1 ≤ N at q; omega)) (by omega) (fun z => by have q := (p_cl_0 (b := pb T N) (N := N) (p := p) z).1; have := sk_ge' (pb T N) N (p_cl (pb T N) N p).2.1; show N < sk (pb T N) N (p_cl (pb T N) N p).2.1 + t; omega) hres
