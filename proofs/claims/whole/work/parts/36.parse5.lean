def k0 (b : Nat → Nat) (N : Nat) (q : ps_T) : cl_T × ps_T := ((0, p_val b N 0 1000000 (p_need b N [102, 117, 110, 100] q), p_val b N 1 1000000000 (p_sign b N 47 (p_num b N 0 1000000 (p_need b N [102, 117, 110, 100] q)))), p_sign b N 59 (p_num b N 1 1000000000 (p_sign b N 47 (p_num b N 0 1000000 (p_need b N [102, 117, 110, 100] q)))))
def k1 (b : Nat → Nat) (N : Nat) (q : ps_T) : cl_T × ps_T := ((1, p_val b N 0 1000000000 (p_need b N [100, 97, 121, 115] q), 0), p_sign b N 59 (p_num b N 0 1000000000 (p_need b N [100, 97, 121, 115] q)))
def k2 (b : Nat → Nat) (N : Nat) (q : ps_T) : cl_T × ps_T := ((2, p_val b N 1 1000000000 (p_need b N [116, 105, 101, 114] q), p_val b N 0 1000000000 (p_need b N [120] (p_num b N 1 1000000000 (p_need b N [116, 105, 101, 114] q)))), p_sign b N 59 (p_num b N 0 1000000000 (p_need b N [120] (p_num b N 1 1000000000 (p_need b N [116, 105, 101, 114] q)))))
def k3 (b : Nat → Nat) (N : Nat) (q : ps_T) : cl_T × ps_T := ((3, p_val b N 1 1000000000 (p_need b N [115, 104, 97, 114, 101] q), p_val b N 0 100 (p_num b N 1 1000000000 (p_need b N [115, 104, 97, 114, 101] q))), p_sign b N 59 (p_num b N 0 100 (p_num b N 1 1000000000 (p_need b N [115, 104, 97, 114, 101] q))))
/-- a clause -/
def p_cl (b : Nat → Nat) (N : Nat) (p : ps_T) : cl_T × ps_T := if wd b (sk b N p.1) [102, 117, 110, 100] then k0 b N (p_bl b N p) else if wd b (sk b N p.1) [100, 97, 121, 115] then k1 b N (p_bl b N p) else if wd b (sk b N p.1) [116, 105, 101, 114] then k2 b N (p_bl b N p) else k3 b N (p_bl b N p)
theorem pbl2 {b : Nat → Nat} {N : Nat} {p : ps_T} (h : p.1 ≤ N) : p_bl b N (p_bl b N p) = p_bl b N p := by unfold p_bl; rw [sk_sk h]
def CQ (ad : Nat → Nat) (i : Nat) (S S' : hs_T) : Prop := ∀ j, j ≠ i → hs_I S' (ad 20) j = hs_I S (ad 20) j ∧ hs_I S' (ad 21) j = hs_I S (ad 21) j ∧ hs_I S' (ad 22) j = hs_I S (ad 22) j
def CX (S0 S : hs_T) (m : Nat) (ad : Nat → Nat) (s : st_T) (T : List Int32) (N i : Nat) (p : ps_T) : Prop := PS S m ad s T N p ∧ MF S0 S m ad ∧ hs_I S m 0 = hs_I S0 m 0 ∧ CQ ad i S0 S
theorem CX_rf {S : hs_T} {m : Nat} {ad : Nat → Nat} {s : st_T} {T : List Int32} {N i : Nat} {p : ps_T} (h : PS S m ad s T N p) : CX S S m ad s T N i p := ⟨h, MF_rf _ _ _, rfl, fun j _ => ⟨rfl, rfl, rfl⟩⟩
theorem CX_px {S0 S1 S2 : hs_T} {m : Nat} {ad : Nat → Nat} {s : st_T} {T : List Int32} {N i : Nat} {p q : ps_T} (h1 : CX S0 S1 m ad s T N i p) (h2 : PX S1 S2 m ad s T N q) : CX S0 S2 m ad s T N i q := ⟨h2.1, MF_tr h1.2.1 h2.2.1, h2.2.2.1.trans h1.2.2.1, fun j hj => ⟨(congrFun h2.2.2.2.1 j).trans (h1.2.2.2 j hj).1, (congrFun h2.2.2.2.2.1 j).trans (h1.2.2.2 j hj).2.1, (congrFun h2.2.2.2.2.2 j).trans (h1.2.2.2 j hj).2.2⟩⟩
theorem MR_ar {S : hs_T} {m : Nat} {ad : Nat → Nat} (hA : AD m ad) {rs : List ru_T} (h : MR S m ad rs) (a i : Nat) (v : Int32) (ha : a = 20 ∨ a = 21 ∨ a = 22) (hi : 10 * rs.length ≤ i) : MR (hs_sI S (ad a) i v) m ad rs := by
  obtain ⟨h1, h2, h3⟩ := h
  refine ⟨by rw [mI_sa hA]; exact h1, h2, fun j hj => ?_⟩
  obtain ⟨g1, g2, g3, g4⟩ := h3 j hj
  refine ⟨g1, by rw [mI_aa hA, if_neg (by omega)]; exact g2, by rw [mI_aa hA, if_neg (by omega)]; exact g3, fun c hc => ?_⟩
  obtain ⟨f1, f2, f3⟩ := g4 c hc
  exact ⟨by rw [mI_aa hA, if_neg (by omega)]; exact f1, by rw [mI_aa hA, if_neg (by omega)]; exact f2, fun z => by rw [mI_aa hA, if_neg (by omega)]; exact f3 z⟩
theorem CX_ar {S0 S : hs_T} {m : Nat} {ad : Nat → Nat} {s : st_T} {T : List Int32} {N i : Nat} {p : ps_T} (h : CX S0 S m ad s T N i p) (hi : 10 * (s_rs s).length ≤ i) (a : Nat) (ha : a = 20 ∨ a = 21 ∨ a = 22) (v : Int32) : CX S0 (hs_sI S (ad a) i v) m ad s T N i p := by
  obtain ⟨⟨⟨hB, hMS, hMH, hML, hMT, hMR, hMN, hMD, hMW⟩, ⟨h2, h3, h4⟩, h5, h6⟩, hF, ht, hC⟩ := h
  have hA := hB.2.2
  refine ⟨⟨⟨hB, MS_aI hA hMS a i v trivial, MH_aI hA hMH a i v (by omega), ML_aI hA hML a i v (by omega), MT_aI hA hMT a i v (by omega), MR_ar hA hMR a i v ha hi, MN_aI hA hMN a i v (by omega), MD_aI hA hMD a i v trivial, MW_aI hA hMW a i v (by omega)⟩, ⟨by rw [mI_sa hA]; exact h2, by rw [mI_sa hA]; exact h3, by rw [mI_sa hA]; exact h4⟩, fun j hj => by rw [mI_aa hA, if_neg (by omega)]; exact h5 j hj, h6⟩, MF_aI hF a (by rcases ha with rfl | rfl | rfl <;> decide) i v, by rw [mI_sa hA]; exact ht, fun j hj => ?_⟩
  obtain ⟨g1, g2, g3⟩ := hC j hj
  exact ⟨by rw [mI_aa hA, if_neg (fun z => hj z.2)]; exact g1, by rw [mI_aa hA, if_neg (fun z => hj z.2)]; exact g2, by rw [mI_aa hA, if_neg (fun z => hj z.2)]; exact g3⟩
def cq (S0 : hs_T) (m : Nat) (ad : Nat → Nat) (n k : Nat) (s : st_T) (T : List Int32) (N i : Nat) (r : cl_T × ps_T) : ex_R := fun o S' n' k' => o = .inl none ∧ CX S0 S' m ad s T N i r.2 ∧ (hs_I S' (ad 20) i = nI r.1.1 ∧ hs_I S' (ad 21) i = nI r.1.2.1 ∧ (r.1.1 ≠ 1 → hs_I S' (ad 22) i = nI r.1.2.2)) ∧ n' = n ∧ k' = k
theorem cq_i {S0 S : hs_T} {m : Nat} {ad : Nat → Nat} {n k : Nat} {s : st_T} {T : List Int32} {N i : Nat} {r r' : cl_T × ps_T} (hr : r' = r) (h : CX S0 S m ad s T N i r.2) (h2 : hs_I S (ad 20) i = nI r.1.1 ∧ hs_I S (ad 21) i = nI r.1.2.1 ∧ (r.1.1 ≠ 1 → hs_I S (ad 22) i = nI r.1.2.2)) : cq S0 m ad n k s T N i r' (.inl none) S n k := by subst hr; exact ⟨rfl, h, h2, rfl, rfl⟩
set_option maxRecDepth 20000 in
set_option maxHeartbeats 1000000 in
theorem m_clause (g : gl_T) {S : hs_T} {n k : Nat} {m N : Nat} {ad : Nat → Nat} {s : st_T} {T : List Int32} {p : ps_T} (hP : PS S m ad s T N p) {x : Int32} {i : Nat} (hx : x = nI i) (hi : i < 210) (hi2 : 10 * (s_rs s).length ≤ i) : ex_M g 6 mX10_clause [.ref m, .int x] S n k (cq S m ad n k s T N i (p_cl (pb T N) N p)) := by
  have hC1 := CX_rf (i := i) hP
  have hB := hP.1.1
  have hsk2 : sk (pb T N) N (p_bl (pb T N) N p).1 = sk (pb T N) N p.1 := sk_sk hP.2.2.2.2.1
  refine ex_enter (by decide +kernel) (Nat.le_of_ble_eq_true rfl) ?_
  show ex_W _ _ _ _ 0 [(0, .ref m), (1, .int x)] [] _ _ _
  refine ex_ldc dX10_clause_0 lc_X10_101 ?_
  refine ex_istore_n [(2, .int 1000000000), (0, .ref m), (1, .int x)] dX10_clause_2 (by decide) rfl ?_
  refine ex_aload_n dX10_clause_3 1 rfl ?_
  refine ex_ldcS (q := ("BondOfficeModel", 174, "fund", 10)) dX10_clause_4 cR_1 rfl rfl ?_
  refine ex_cVg [.ref (g.2.2.2.2 10)] [] dX10_clause_6 cV_X10_157 (m_isWord_0 g hC1.1) hB.1.1 hB.1.2 rfl rfl rfl (by decide) (Nat.le_of_ble_eq_true rfl) rfl ?_ (fun E S' n' k' h => by obtain ⟨h1, -⟩ := h; cases h1)
  rintro v' S2 n' k' ⟨hr, hq2, hn, hk⟩
  cases hr
  have hn := hn.symm
  have hk := hk.symm
  subst hn hk
  have hC2 := CX_px hC1 hq2
  have hB := hC2.1.1.1
  show ex_W _ _ _ _ 9 [(2, .int 1000000000), (0, .ref m), (1, .int x)] [.int (if wd (pb T N) (sk (pb T N) N p.1) [102, 117, 110, 100] then 1 else 0)] S2 n k
  refine ex_if_eq (tgt := 59) dX10_clause_9 (by decide) (fun c9 => ?_) (fun c9 => ?_)
  · have y9 : ¬ wd (pb T N) (sk (pb T N) N p.1) [102, 117, 110, 100] := fun z => by
      rw [if_pos z] at c9; exact absurd c9 (by decide)
    refine ex_aload_n dX10_clause_59 1 rfl ?_
    refine ex_ldcS (q := ("BondOfficeModel", 189, "days", 11)) dX10_clause_60 cR_2 rfl rfl ?_
    refine ex_cVg [.ref (g.2.2.2.2 11)] [] dX10_clause_62 cV_X10_157 (m_isWord_1 g hC2.1) hB.1.1 hB.1.2 rfl rfl rfl (by decide) (Nat.le_of_ble_eq_true rfl) rfl ?_ (fun E S' n' k' h => by obtain ⟨h1, -⟩ := h; cases h1)
    rintro v' S3 n' k' ⟨hr, hq3, hn, hk⟩
    cases hr
    have hn := hn.symm
    have hk := hk.symm
    subst hn hk
    rw [pbl2 hP.2.2.2.2.1] at hq3
    have hC3 := CX_px hC2 hq3
    have hB := hC3.1.1.1
    show ex_W _ _ _ _ 65 [(2, .int 1000000000), (0, .ref m), (1, .int x)] [.int (if wd (pb T N) (sk (pb T N) N (p_bl (pb T N) N p).1) [100, 97, 121, 115] then 1 else 0)] S3 n k
    refine ex_if_eq (tgt := 96) dX10_clause_65 (by decide) (fun c65 => ?_) (fun c65 => ?_)
    · have y65 : ¬ wd (pb T N) (sk (pb T N) N p.1) [100, 97, 121, 115] := fun z => by
        rw [hsk2] at c65
        rw [if_pos z] at c65; exact absurd c65 (by decide)
      refine ex_aload_n dX10_clause_96 1 rfl ?_
      refine ex_ldcS (q := ("BondOfficeModel", 191, "tier", 12)) dX10_clause_97 cR_3 rfl rfl ?_
      refine ex_cVg [.ref (g.2.2.2.2 12)] [] dX10_clause_99 cV_X10_157 (m_isWord_2 g hC3.1) hB.1.1 hB.1.2 rfl rfl rfl (by decide) (Nat.le_of_ble_eq_true rfl) rfl ?_ (fun E S' n' k' h => by obtain ⟨h1, -⟩ := h; cases h1)
      rintro v' S4 n' k' ⟨hr, hq4, hn, hk⟩
      cases hr
      have hn := hn.symm
      have hk := hk.symm
      subst hn hk
      rw [pbl2 hP.2.2.2.2.1] at hq4
      have hC4 := CX_px hC3 hq4
      have hB := hC4.1.1.1
      show ex_W _ _ _ _ 102 [(2, .int 1000000000), (0, .ref m), (1, .int x)] [.int (if wd (pb T N) (sk (pb T N) N (p_bl (pb T N) N p).1) [116, 105, 101, 114] then 1 else 0)] S4 n k
      refine ex_if_eq (tgt := 151) dX10_clause_102 (by decide) (fun c102 => ?_) (fun c102 => ?_)
      · have y102 : ¬ wd (pb T N) (sk (pb T N) N p.1) [116, 105, 101, 114] := fun z => by
          rw [hsk2] at c102
          rw [if_pos z] at c102; exact absurd c102 (by decide)
        have hkk : p_cl (pb T N) N p = k3 (pb T N) N (p_bl (pb T N) N p) := by unfold p_cl; rw [if_neg y9, if_neg y65, if_neg y102]
        refine ex_aload_n dX10_clause_151 1 rfl ?_
        refine ex_ldcS (q := ("BondOfficeModel", 195, "share", 13)) dX10_clause_152 cR_4 rfl rfl ?_
        refine ex_cVg [.ref (g.2.2.2.2 13)] [] dX10_clause_154 cV_X10_176 (m_need_3 g hC4.1) hB.1.1 hB.1.2 rfl rfl rfl (by decide) (Nat.le_of_ble_eq_true rfl) rfl ?_ (fun E S' n' k' h => by obtain ⟨h1, -⟩ := h; cases h1)
        rintro v' S5 n' k' ⟨hr, hq5, hn, hk⟩
        cases hr
        have hn := hn.symm
        have hk := hk.symm
        subst hn hk
        have hC5 := CX_px hC4 hq5
        have hB := hC5.1.1.1
        show ex_W _ _ _ _ 157 [(2, .int 1000000000), (0, .ref m), (1, .int x)] [] S5 n k
        refine ex_aload_n dX10_clause_157 1 rfl ?_
        refine ex_getR (b := ad 20) dX10_clause_158 fl_X10_47 hB.1.1 hB.1.2 (mb_20 hB).1 ?_
        refine ex_iload_n dX10_clause_161 2 rfl ?_
        refine ex_iconst (v := 3) dX10_clause_162 (by decide) ?_
        refine ex_iast (j := i) dX10_clause_163 (mb_20 hB).2.1 (mb_20 hB).2.2.1 hx (Nat.lt_of_lt_of_eq (show i < 210 by omega) (mb_20 hB).2.2.2.symm) (show i < 2 ^ 31 by omega) ?_
        have hC6 := CX_ar hC5 hi2 20 (by decide) 3
        have f20 : hs_I (hs_sI S5 (ad 20) i 3) (ad 20) i = 3 := by rw [mI_aa hB.2.2, if_pos ⟨rfl, rfl⟩]
        generalize hs_sI S5 (ad 20) i 3 = S6 at hC6 f20 ⊢
        have hB := hC6.1.1.1
        refine ex_aload_n dX10_clause_164 1 rfl ?_
        refine ex_getR (b := ad 21) dX10_clause_165 fl_X10_50 hB.1.1 hB.1.2 (mb_21 hB).1 ?_
        refine ex_iload_n dX10_clause_168 2 rfl ?_
        refine ex_aload_n dX10_clause_169 1 rfl ?_
        refine ex_iconst (v := 1) dX10_clause_170 (by decide) ?_
        refine ex_iload_n dX10_clause_171 0 rfl ?_
        refine ex_cVg [.int 1, .int 1000000000] [.int x, .ref (ad 21)] dX10_clause_172 cV_X10_181 (m_number g hC6.1 (l := 1) (mm := 1000000000) rfl rfl (by decide) (by decide)) hB.1.1 hB.1.2 rfl rfl rfl (by decide) (Nat.le_of_ble_eq_true rfl) rfl ?_ (fun E S' n' k' h => by obtain ⟨h1, -⟩ := h; cases h1)
        rintro v' S7 n' k' ⟨hr, hq7, hn, hk⟩
        cases hr
        have hn := hn.symm
        have hk := hk.symm
        subst hn hk
        have hC7 := CX_px hC6 hq7
        have hB := hC7.1.1.1
        have f20 := (congrFun hq7.2.2.2.1 i).trans f20
        show ex_W _ _ _ _ 175 [(2, .int 1000000000), (0, .ref m), (1, .int x)] [.int (nI (p_val (pb T N) N 1 1000000000 (p_need (pb T N) N [115, 104, 97, 114, 101] (p_bl (pb T N) N p)))), .int x, .ref (ad 21)] S7 n k
        refine ex_iast (j := i) dX10_clause_175 (mb_21 hB).2.1 (mb_21 hB).2.2.1 hx (Nat.lt_of_lt_of_eq (show i < 210 by omega) (mb_21 hB).2.2.2.symm) (show i < 2 ^ 31 by omega) ?_
        have hC8 := CX_ar hC7 hi2 21 (by decide) (nI (p_val (pb T N) N 1 1000000000 (p_need (pb T N) N [115, 104, 97, 114, 101] (p_bl (pb T N) N p))))
        have f20 := ((mI_aa hB.2.2 S7 21 20 i i (nI (p_val (pb T N) N 1 1000000000 (p_need (pb T N) N [115, 104, 97, 114, 101] (p_bl (pb T N) N p))))).trans (if_neg (by simp))).trans f20
        have f21 : hs_I (hs_sI S7 (ad 21) i (nI (p_val (pb T N) N 1 1000000000 (p_need (pb T N) N [115, 104, 97, 114, 101] (p_bl (pb T N) N p))))) (ad 21) i = (nI (p_val (pb T N) N 1 1000000000 (p_need (pb T N) N [115, 104, 97, 114, 101] (p_bl (pb T N) N p)))) := by rw [mI_aa hB.2.2, if_pos ⟨rfl, rfl⟩]
        generalize hs_sI S7 (ad 21) i (nI (p_val (pb T N) N 1 1000000000 (p_need (pb T N) N [115, 104, 97, 114, 101] (p_bl (pb T N) N p)))) = S8 at hC8 f20 f21 ⊢
        have hB := hC8.1.1.1
        refine ex_aload_n dX10_clause_176 1 rfl ?_
        refine ex_getR (b := ad 22) dX10_clause_177 fl_X10_53 hB.1.1 hB.1.2 (mb_22 hB).1 ?_
        refine ex_iload_n dX10_clause_180 2 rfl ?_
        refine ex_aload_n dX10_clause_181 1 rfl ?_
        refine ex_iconst (v := 0) dX10_clause_182 (by decide) ?_
        refine ex_bipush (v := 100) dX10_clause_183 (by decide) ?_
        refine ex_cVg [.int 0, .int 100] [.int x, .ref (ad 22)] dX10_clause_185 cV_X10_181 (m_number g hC8.1 (l := 0) (mm := 100) rfl rfl (by decide) (by decide)) hB.1.1 hB.1.2 rfl rfl rfl (by decide) (Nat.le_of_ble_eq_true rfl) rfl ?_ (fun E S' n' k' h => by obtain ⟨h1, -⟩ := h; cases h1)
        rintro v' S9 n' k' ⟨hr, hq9, hn, hk⟩
        cases hr
        have hn := hn.symm
        have hk := hk.symm
        subst hn hk
        have hC9 := CX_px hC8 hq9
        have hB := hC9.1.1.1
        have f20 := (congrFun hq9.2.2.2.1 i).trans f20
        have f21 := (congrFun hq9.2.2.2.2.1 i).trans f21
        show ex_W _ _ _ _ 188 [(2, .int 1000000000), (0, .ref m), (1, .int x)] [.int (nI (p_val (pb T N) N 0 100 (p_num (pb T N) N 1 1000000000 (p_need (pb T N) N [115, 104, 97, 114, 101] (p_bl (pb T N) N p))))), .int x, .ref (ad 22)] S9 n k
        refine ex_iast (j := i) dX10_clause_188 (mb_22 hB).2.1 (mb_22 hB).2.2.1 hx (Nat.lt_of_lt_of_eq (show i < 210 by omega) (mb_22 hB).2.2.2.symm) (show i < 2 ^ 31 by omega) ?_
        have hC10 := CX_ar hC9 hi2 22 (by decide) (nI (p_val (pb T N) N 0 100 (p_num (pb T N) N 1 1000000000 (p_need (pb T N) N [115, 104, 97, 114, 101] (p_bl (pb T N) N p)))))
        have f20 := ((mI_aa hB.2.2 S9 22 20 i i (nI (p_val (pb T N) N 0 100 (p_num (pb T N) N 1 1000000000 (p_need (pb T N) N [115, 104, 97, 114, 101] (p_bl (pb T N) N p)))))).trans (if_neg (by simp))).trans f20
        have f21 := ((mI_aa hB.2.2 S9 22 21 i i (nI (p_val (pb T N) N 0 100 (p_num (pb T N) N 1 1000000000 (p_need (pb T N) N [115, 104, 97, 114, 101] (p_bl (pb T N) N p)))))).trans (if_neg (by simp))).trans f21
        have f22 : hs_I (hs_sI S9 (ad 22) i (nI (p_val (pb T N) N 0 100 (p_num (pb T N) N 1 1000000000 (p_need (pb T N) N [115, 104, 97, 114, 101] (p_bl (pb T N) N p)))))) (ad 22) i = (nI (p_val (pb T N) N 0 100 (p_num (pb T N) N 1 1000000000 (p_need (pb T N) N [115, 104, 97, 114, 101] (p_bl (pb T N) N p))))) := by rw [mI_aa hB.2.2, if_pos ⟨rfl, rfl⟩]
        generalize hs_sI S9 (ad 22) i (nI (p_val (pb T N) N 0 100 (p_num (pb T N) N 1 1000000000 (p_need (pb T N) N [115, 104, 97, 114, 101] (p_bl (pb T N) N p))))) = S10 at hC10 f20 f21 f22 ⊢
        have hB := hC10.1.1.1
        refine ex_aload_n dX10_clause_189 1 rfl ?_
        refine ex_bipush (v := 59) dX10_clause_190 (by decide) ?_
        refine ex_cVg [.int 59] [] dX10_clause_192 cV_X10_185 (m_sign g hC10.1 (c := 59) rfl (by decide)) hB.1.1 hB.1.2 rfl rfl rfl (by decide) (Nat.le_of_ble_eq_true rfl) rfl ?_ (fun E S' n' k' h => by obtain ⟨h1, -⟩ := h; cases h1)
        rintro v' S11 n' k' ⟨hr, hq11, hn, hk⟩
        cases hr
        have hn := hn.symm
        have hk := hk.symm
        subst hn hk
        have hC11 := CX_px hC10 hq11
        have hB := hC11.1.1.1
        have f20 := (congrFun hq11.2.2.2.1 i).trans f20
        have f21 := (congrFun hq11.2.2.2.2.1 i).trans f21
        have f22 := (congrFun hq11.2.2.2.2.2 i).trans f22
        show ex_W _ _ _ _ 195 [(2, .int 1000000000), (0, .ref m), (1, .int x)] [] S11 n k
        exact ex_vrt rfl dX10_clause_195 (cq_i hkk hC11 ⟨f20, f21, fun _ => f22⟩)
      · have y102 : wd (pb T N) (sk (pb T N) N p.1) [116, 105, 101, 114] := by
          rw [hsk2] at c102
          by_cases z : wd (pb T N) (sk (pb T N) N p.1) [116, 105, 101, 114]
          · exact z
          · rw [if_neg z] at c102; exact absurd rfl c102
        have hkk : p_cl (pb T N) N p = k2 (pb T N) N (p_bl (pb T N) N p) := by unfold p_cl; rw [if_neg y9, if_neg y65, if_pos y102]
        refine ex_aload_n dX10_clause_105 1 rfl ?_
        refine ex_ldcS (q := ("BondOfficeModel", 191, "tier", 12)) dX10_clause_106 cR_3 rfl rfl ?_
        refine ex_cVg [.ref (g.2.2.2.2 12)] [] dX10_clause_108 cV_X10_176 (m_need_2 g hC4.1) hB.1.1 hB.1.2 rfl rfl rfl (by decide) (Nat.le_of_ble_eq_true rfl) rfl ?_ (fun E S' n' k' h => by obtain ⟨h1, -⟩ := h; cases h1)
        rintro v' S5 n' k' ⟨hr, hq5, hn, hk⟩
        cases hr
        have hn := hn.symm
        have hk := hk.symm
        subst hn hk
        have hC5 := CX_px hC4 hq5
        have hB := hC5.1.1.1
        show ex_W _ _ _ _ 111 [(2, .int 1000000000), (0, .ref m), (1, .int x)] [] S5 n k
        refine ex_aload_n dX10_clause_111 1 rfl ?_
        refine ex_getR (b := ad 20) dX10_clause_112 fl_X10_47 hB.1.1 hB.1.2 (mb_20 hB).1 ?_
        refine ex_iload_n dX10_clause_115 2 rfl ?_
        refine ex_iconst (v := 2) dX10_clause_116 (by decide) ?_
        refine ex_iast (j := i) dX10_clause_117 (mb_20 hB).2.1 (mb_20 hB).2.2.1 hx (Nat.lt_of_lt_of_eq (show i < 210 by omega) (mb_20 hB).2.2.2.symm) (show i < 2 ^ 31 by omega) ?_
        have hC6 := CX_ar hC5 hi2 20 (by decide) 2
        have f20 : hs_I (hs_sI S5 (ad 20) i 2) (ad 20) i = 2 := by rw [mI_aa hB.2.2, if_pos ⟨rfl, rfl⟩]
        generalize hs_sI S5 (ad 20) i 2 = S6 at hC6 f20 ⊢
        have hB := hC6.1.1.1
        refine ex_aload_n dX10_clause_118 1 rfl ?_
        refine ex_getR (b := ad 21) dX10_clause_119 fl_X10_50 hB.1.1 hB.1.2 (mb_21 hB).1 ?_
        refine ex_iload_n dX10_clause_122 2 rfl ?_
        refine ex_aload_n dX10_clause_123 1 rfl ?_
        refine ex_iconst (v := 1) dX10_clause_124 (by decide) ?_
        refine ex_iload_n dX10_clause_125 0 rfl ?_
        refine ex_cVg [.int 1, .int 1000000000] [.int x, .ref (ad 21)] dX10_clause_126 cV_X10_181 (m_number g hC6.1 (l := 1) (mm := 1000000000) rfl rfl (by decide) (by decide)) hB.1.1 hB.1.2 rfl rfl rfl (by decide) (Nat.le_of_ble_eq_true rfl) rfl ?_ (fun E S' n' k' h => by obtain ⟨h1, -⟩ := h; cases h1)
        rintro v' S7 n' k' ⟨hr, hq7, hn, hk⟩
        cases hr
        have hn := hn.symm
        have hk := hk.symm
        subst hn hk
        have hC7 := CX_px hC6 hq7
        have hB := hC7.1.1.1
        have f20 := (congrFun hq7.2.2.2.1 i).trans f20
        show ex_W _ _ _ _ 129 [(2, .int 1000000000), (0, .ref m), (1, .int x)] [.int (nI (p_val (pb T N) N 1 1000000000 (p_need (pb T N) N [116, 105, 101, 114] (p_bl (pb T N) N p)))), .int x, .ref (ad 21)] S7 n k
        refine ex_iast (j := i) dX10_clause_129 (mb_21 hB).2.1 (mb_21 hB).2.2.1 hx (Nat.lt_of_lt_of_eq (show i < 210 by omega) (mb_21 hB).2.2.2.symm) (show i < 2 ^ 31 by omega) ?_
        have hC8 := CX_ar hC7 hi2 21 (by decide) (nI (p_val (pb T N) N 1 1000000000 (p_need (pb T N) N [116, 105, 101, 114] (p_bl (pb T N) N p))))
        have f20 := ((mI_aa hB.2.2 S7 21 20 i i (nI (p_val (pb T N) N 1 1000000000 (p_need (pb T N) N [116, 105, 101, 114] (p_bl (pb T N) N p))))).trans (if_neg (by simp))).trans f20
        have f21 : hs_I (hs_sI S7 (ad 21) i (nI (p_val (pb T N) N 1 1000000000 (p_need (pb T N) N [116, 105, 101, 114] (p_bl (pb T N) N p))))) (ad 21) i = (nI (p_val (pb T N) N 1 1000000000 (p_need (pb T N) N [116, 105, 101, 114] (p_bl (pb T N) N p)))) := by rw [mI_aa hB.2.2, if_pos ⟨rfl, rfl⟩]
        generalize hs_sI S7 (ad 21) i (nI (p_val (pb T N) N 1 1000000000 (p_need (pb T N) N [116, 105, 101, 114] (p_bl (pb T N) N p)))) = S8 at hC8 f20 f21 ⊢
        have hB := hC8.1.1.1
        refine ex_aload_n dX10_clause_130 1 rfl ?_
        refine ex_ldcS (q := ("BondOfficeModel", 193, "x", 16)) dX10_clause_131 cR_5 rfl rfl ?_
        refine ex_cVg [.ref (g.2.2.2.2 16)] [] dX10_clause_133 cV_X10_176 (m_need_6 g hC8.1) hB.1.1 hB.1.2 rfl rfl rfl (by decide) (Nat.le_of_ble_eq_true rfl) rfl ?_ (fun E S' n' k' h => by obtain ⟨h1, -⟩ := h; cases h1)
        rintro v' S9 n' k' ⟨hr, hq9, hn, hk⟩
        cases hr
        have hn := hn.symm
        have hk := hk.symm
        subst hn hk
        have hC9 := CX_px hC8 hq9
        have hB := hC9.1.1.1
        have f20 := (congrFun hq9.2.2.2.1 i).trans f20
        have f21 := (congrFun hq9.2.2.2.2.1 i).trans f21
        show ex_W _ _ _ _ 136 [(2, .int 1000000000), (0, .ref m), (1, .int x)] [] S9 n k
        refine ex_aload_n dX10_clause_136 1 rfl ?_
        refine ex_getR (b := ad 22) dX10_clause_137 fl_X10_53 hB.1.1 hB.1.2 (mb_22 hB).1 ?_
        refine ex_iload_n dX10_clause_140 2 rfl ?_
        refine ex_aload_n dX10_clause_141 1 rfl ?_
        refine ex_iconst (v := 0) dX10_clause_142 (by decide) ?_
        refine ex_iload_n dX10_clause_143 0 rfl ?_
        refine ex_cVg [.int 0, .int 1000000000] [.int x, .ref (ad 22)] dX10_clause_144 cV_X10_181 (m_number g hC9.1 (l := 0) (mm := 1000000000) rfl rfl (by decide) (by decide)) hB.1.1 hB.1.2 rfl rfl rfl (by decide) (Nat.le_of_ble_eq_true rfl) rfl ?_ (fun E S' n' k' h => by obtain ⟨h1, -⟩ := h; cases h1)
        rintro v' S10 n' k' ⟨hr, hq10, hn, hk⟩
        cases hr
        have hn := hn.symm
        have hk := hk.symm
        subst hn hk
        have hC10 := CX_px hC9 hq10
        have hB := hC10.1.1.1
        have f20 := (congrFun hq10.2.2.2.1 i).trans f20
        have f21 := (congrFun hq10.2.2.2.2.1 i).trans f21
        show ex_W _ _ _ _ 147 [(2, .int 1000000000), (0, .ref m), (1, .int x)] [.int (nI (p_val (pb T N) N 0 1000000000 (p_need (pb T N) N [120] (p_num (pb T N) N 1 1000000000 (p_need (pb T N) N [116, 105, 101, 114] (p_bl (pb T N) N p)))))), .int x, .ref (ad 22)] S10 n k
        refine ex_iast (j := i) dX10_clause_147 (mb_22 hB).2.1 (mb_22 hB).2.2.1 hx (Nat.lt_of_lt_of_eq (show i < 210 by omega) (mb_22 hB).2.2.2.symm) (show i < 2 ^ 31 by omega) ?_
        have hC11 := CX_ar hC10 hi2 22 (by decide) (nI (p_val (pb T N) N 0 1000000000 (p_need (pb T N) N [120] (p_num (pb T N) N 1 1000000000 (p_need (pb T N) N [116, 105, 101, 114] (p_bl (pb T N) N p))))))
        have f20 := ((mI_aa hB.2.2 S10 22 20 i i (nI (p_val (pb T N) N 0 1000000000 (p_need (pb T N) N [120] (p_num (pb T N) N 1 1000000000 (p_need (pb T N) N [116, 105, 101, 114] (p_bl (pb T N) N p))))))).trans (if_neg (by simp))).trans f20
        have f21 := ((mI_aa hB.2.2 S10 22 21 i i (nI (p_val (pb T N) N 0 1000000000 (p_need (pb T N) N [120] (p_num (pb T N) N 1 1000000000 (p_need (pb T N) N [116, 105, 101, 114] (p_bl (pb T N) N p))))))).trans (if_neg (by simp))).trans f21
        have f22 : hs_I (hs_sI S10 (ad 22) i (nI (p_val (pb T N) N 0 1000000000 (p_need (pb T N) N [120] (p_num (pb T N) N 1 1000000000 (p_need (pb T N) N [116, 105, 101, 114] (p_bl (pb T N) N p))))))) (ad 22) i = (nI (p_val (pb T N) N 0 1000000000 (p_need (pb T N) N [120] (p_num (pb T N) N 1 1000000000 (p_need (pb T N) N [116, 105, 101, 114] (p_bl (pb T N) N p)))))) := by rw [mI_aa hB.2.2, if_pos ⟨rfl, rfl⟩]
        generalize hs_sI S10 (ad 22) i (nI (p_val (pb T N) N 0 1000000000 (p_need (pb T N) N [120] (p_num (pb T N) N 1 1000000000 (p_need (pb T N) N [116, 105, 101, 114] (p_bl (pb T N) N p)))))) = S11 at hC11 f20 f21 f22 ⊢
        have hB := hC11.1.1.1
        refine ex_goto (tgt := 189) dX10_clause_148 (by decide) ?_
        refine ex_aload_n dX10_clause_189 1 rfl ?_
        refine ex_bipush (v := 59) dX10_clause_190 (by decide) ?_
        refine ex_cVg [.int 59] [] dX10_clause_192 cV_X10_185 (m_sign g hC11.1 (c := 59) rfl (by decide)) hB.1.1 hB.1.2 rfl rfl rfl (by decide) (Nat.le_of_ble_eq_true rfl) rfl ?_ (fun E S' n' k' h => by obtain ⟨h1, -⟩ := h; cases h1)
        rintro v' S12 n' k' ⟨hr, hq12, hn, hk⟩
        cases hr
        have hn := hn.symm
        have hk := hk.symm
        subst hn hk
        have hC12 := CX_px hC11 hq12
        have hB := hC12.1.1.1
        have f20 := (congrFun hq12.2.2.2.1 i).trans f20
        have f21 := (congrFun hq12.2.2.2.2.1 i).trans f21
        have f22 := (congrFun hq12.2.2.2.2.2 i).trans f22
        show ex_W _ _ _ _ 195 [(2, .int 1000000000), (0, .ref m), (1, .int x)] [] S12 n k
        exact ex_vrt rfl dX10_clause_195 (cq_i hkk hC12 ⟨f20, f21, fun _ => f22⟩)
    · have y65 : wd (pb T N) (sk (pb T N) N p.1) [100, 97, 121, 115] := by
        rw [hsk2] at c65
        by_cases z : wd (pb T N) (sk (pb T N) N p.1) [100, 97, 121, 115]
        · exact z
        · rw [if_neg z] at c65; exact absurd rfl c65
      have hkk : p_cl (pb T N) N p = k1 (pb T N) N (p_bl (pb T N) N p) := by unfold p_cl; rw [if_neg y9, if_pos y65]
      refine ex_aload_n dX10_clause_68 1 rfl ?_
      refine ex_ldcS (q := ("BondOfficeModel", 189, "days", 11)) dX10_clause_69 cR_2 rfl rfl ?_
      refine ex_cVg [.ref (g.2.2.2.2 11)] [] dX10_clause_71 cV_X10_176 (m_need_1 g hC3.1) hB.1.1 hB.1.2 rfl rfl rfl (by decide) (Nat.le_of_ble_eq_true rfl) rfl ?_ (fun E S' n' k' h => by obtain ⟨h1, -⟩ := h; cases h1)
      rintro v' S4 n' k' ⟨hr, hq4, hn, hk⟩
      cases hr
      have hn := hn.symm
      have hk := hk.symm
      subst hn hk
      have hC4 := CX_px hC3 hq4
      have hB := hC4.1.1.1
      show ex_W _ _ _ _ 74 [(2, .int 1000000000), (0, .ref m), (1, .int x)] [] S4 n k
      refine ex_aload_n dX10_clause_74 1 rfl ?_
      refine ex_getR (b := ad 20) dX10_clause_75 fl_X10_47 hB.1.1 hB.1.2 (mb_20 hB).1 ?_
      refine ex_iload_n dX10_clause_78 2 rfl ?_
      refine ex_iconst (v := 1) dX10_clause_79 (by decide) ?_
      refine ex_iast (j := i) dX10_clause_80 (mb_20 hB).2.1 (mb_20 hB).2.2.1 hx (Nat.lt_of_lt_of_eq (show i < 210 by omega) (mb_20 hB).2.2.2.symm) (show i < 2 ^ 31 by omega) ?_
      have hC5 := CX_ar hC4 hi2 20 (by decide) 1
      have f20 : hs_I (hs_sI S4 (ad 20) i 1) (ad 20) i = 1 := by rw [mI_aa hB.2.2, if_pos ⟨rfl, rfl⟩]
      generalize hs_sI S4 (ad 20) i 1 = S5 at hC5 f20 ⊢
      have hB := hC5.1.1.1
      refine ex_aload_n dX10_clause_81 1 rfl ?_
      refine ex_getR (b := ad 21) dX10_clause_82 fl_X10_50 hB.1.1 hB.1.2 (mb_21 hB).1 ?_
      refine ex_iload_n dX10_clause_85 2 rfl ?_
      refine ex_aload_n dX10_clause_86 1 rfl ?_
      refine ex_iconst (v := 0) dX10_clause_87 (by decide) ?_
      refine ex_iload_n dX10_clause_88 0 rfl ?_
      refine ex_cVg [.int 0, .int 1000000000] [.int x, .ref (ad 21)] dX10_clause_89 cV_X10_181 (m_number g hC5.1 (l := 0) (mm := 1000000000) rfl rfl (by decide) (by decide)) hB.1.1 hB.1.2 rfl rfl rfl (by decide) (Nat.le_of_ble_eq_true rfl) rfl ?_ (fun E S' n' k' h => by obtain ⟨h1, -⟩ := h; cases h1)
      rintro v' S6 n' k' ⟨hr, hq6, hn, hk⟩
      cases hr
      have hn := hn.symm
      have hk := hk.symm
      subst hn hk
      have hC6 := CX_px hC5 hq6
      have hB := hC6.1.1.1
      have f20 := (congrFun hq6.2.2.2.1 i).trans f20
      show ex_W _ _ _ _ 92 [(2, .int 1000000000), (0, .ref m), (1, .int x)] [.int (nI (p_val (pb T N) N 0 1000000000 (p_need (pb T N) N [100, 97, 121, 115] (p_bl (pb T N) N p)))), .int x, .ref (ad 21)] S6 n k
      refine ex_iast (j := i) dX10_clause_92 (mb_21 hB).2.1 (mb_21 hB).2.2.1 hx (Nat.lt_of_lt_of_eq (show i < 210 by omega) (mb_21 hB).2.2.2.symm) (show i < 2 ^ 31 by omega) ?_
      have hC7 := CX_ar hC6 hi2 21 (by decide) (nI (p_val (pb T N) N 0 1000000000 (p_need (pb T N) N [100, 97, 121, 115] (p_bl (pb T N) N p))))
      have f20 := ((mI_aa hB.2.2 S6 21 20 i i (nI (p_val (pb T N) N 0 1000000000 (p_need (pb T N) N [100, 97, 121, 115] (p_bl (pb T N) N p))))).trans (if_neg (by simp))).trans f20
      have f21 : hs_I (hs_sI S6 (ad 21) i (nI (p_val (pb T N) N 0 1000000000 (p_need (pb T N) N [100, 97, 121, 115] (p_bl (pb T N) N p))))) (ad 21) i = (nI (p_val (pb T N) N 0 1000000000 (p_need (pb T N) N [100, 97, 121, 115] (p_bl (pb T N) N p)))) := by rw [mI_aa hB.2.2, if_pos ⟨rfl, rfl⟩]
      generalize hs_sI S6 (ad 21) i (nI (p_val (pb T N) N 0 1000000000 (p_need (pb T N) N [100, 97, 121, 115] (p_bl (pb T N) N p)))) = S7 at hC7 f20 f21 ⊢
      have hB := hC7.1.1.1
      refine ex_goto (tgt := 189) dX10_clause_93 (by decide) ?_
      refine ex_aload_n dX10_clause_189 1 rfl ?_
      refine ex_bipush (v := 59) dX10_clause_190 (by decide) ?_
      refine ex_cVg [.int 59] [] dX10_clause_192 cV_X10_185 (m_sign g hC7.1 (c := 59) rfl (by decide)) hB.1.1 hB.1.2 rfl rfl rfl (by decide) (Nat.le_of_ble_eq_true rfl) rfl ?_ (fun E S' n' k' h => by obtain ⟨h1, -⟩ := h; cases h1)
      rintro v' S8 n' k' ⟨hr, hq8, hn, hk⟩
      cases hr
      have hn := hn.symm
      have hk := hk.symm
      subst hn hk
      have hC8 := CX_px hC7 hq8
      have hB := hC8.1.1.1
      have f20 := (congrFun hq8.2.2.2.1 i).trans f20
      have f21 := (congrFun hq8.2.2.2.2.1 i).trans f21
      show ex_W _ _ _ _ 195 [(2, .int 1000000000), (0, .ref m), (1, .int x)] [] S8 n k
      exact ex_vrt rfl dX10_clause_195 (cq_i hkk hC8 ⟨f20, f21, fun z => absurd rfl z⟩)
  · have y9 : wd (pb T N) (sk (pb T N) N p.1) [102, 117, 110, 100] := by
      by_cases z : wd (pb T N) (sk (pb T N) N p.1) [102, 117, 110, 100]
      · exact z
      · rw [if_neg z] at c9; exact absurd rfl c9
    have hkk : p_cl (pb T N) N p = k0 (pb T N) N (p_bl (pb T N) N p) := by unfold p_cl; rw [if_pos y9]
    refine ex_aload_n dX10_clause_12 1 rfl ?_
    refine ex_ldcS (q := ("BondOfficeModel", 174, "fund", 10)) dX10_clause_13 cR_1 rfl rfl ?_
    refine ex_cVg [.ref (g.2.2.2.2 10)] [] dX10_clause_15 cV_X10_176 (m_need_0 g hC2.1) hB.1.1 hB.1.2 rfl rfl rfl (by decide) (Nat.le_of_ble_eq_true rfl) rfl ?_ (fun E S' n' k' h => by obtain ⟨h1, -⟩ := h; cases h1)
    rintro v' S3 n' k' ⟨hr, hq3, hn, hk⟩
    cases hr
    have hn := hn.symm
    have hk := hk.symm
    subst hn hk
    have hC3 := CX_px hC2 hq3
    have hB := hC3.1.1.1
    show ex_W _ _ _ _ 18 [(2, .int 1000000000), (0, .ref m), (1, .int x)] [] S3 n k
    refine ex_aload_n dX10_clause_18 1 rfl ?_
    refine ex_getR (b := ad 20) dX10_clause_19 fl_X10_47 hB.1.1 hB.1.2 (mb_20 hB).1 ?_
    refine ex_iload_n dX10_clause_22 2 rfl ?_
    refine ex_iconst (v := 0) dX10_clause_23 (by decide) ?_
    refine ex_iast (j := i) dX10_clause_24 (mb_20 hB).2.1 (mb_20 hB).2.2.1 hx (Nat.lt_of_lt_of_eq (show i < 210 by omega) (mb_20 hB).2.2.2.symm) (show i < 2 ^ 31 by omega) ?_
    have hC4 := CX_ar hC3 hi2 20 (by decide) 0
    have f20 : hs_I (hs_sI S3 (ad 20) i 0) (ad 20) i = 0 := by rw [mI_aa hB.2.2, if_pos ⟨rfl, rfl⟩]
    generalize hs_sI S3 (ad 20) i 0 = S4 at hC4 f20 ⊢
    have hB := hC4.1.1.1
    refine ex_aload_n dX10_clause_25 1 rfl ?_
    refine ex_getR (b := ad 21) dX10_clause_26 fl_X10_50 hB.1.1 hB.1.2 (mb_21 hB).1 ?_
    refine ex_iload_n dX10_clause_29 2 rfl ?_
    refine ex_aload_n dX10_clause_30 1 rfl ?_
    refine ex_iconst (v := 0) dX10_clause_31 (by decide) ?_
    refine ex_ldc dX10_clause_32 lc_X10_180 ?_
    refine ex_cVg [.int 0, .int 1000000] [.int x, .ref (ad 21)] dX10_clause_34 cV_X10_181 (m_number g hC4.1 (l := 0) (mm := 1000000) rfl rfl (by decide) (by decide)) hB.1.1 hB.1.2 rfl rfl rfl (by decide) (Nat.le_of_ble_eq_true rfl) rfl ?_ (fun E S' n' k' h => by obtain ⟨h1, -⟩ := h; cases h1)
    rintro v' S5 n' k' ⟨hr, hq5, hn, hk⟩
    cases hr
    have hn := hn.symm
    have hk := hk.symm
    subst hn hk
    have hC5 := CX_px hC4 hq5
    have hB := hC5.1.1.1
    have f20 := (congrFun hq5.2.2.2.1 i).trans f20
    show ex_W _ _ _ _ 37 [(2, .int 1000000000), (0, .ref m), (1, .int x)] [.int (nI (p_val (pb T N) N 0 1000000 (p_need (pb T N) N [102, 117, 110, 100] (p_bl (pb T N) N p)))), .int x, .ref (ad 21)] S5 n k
    refine ex_iast (j := i) dX10_clause_37 (mb_21 hB).2.1 (mb_21 hB).2.2.1 hx (Nat.lt_of_lt_of_eq (show i < 210 by omega) (mb_21 hB).2.2.2.symm) (show i < 2 ^ 31 by omega) ?_
    have hC6 := CX_ar hC5 hi2 21 (by decide) (nI (p_val (pb T N) N 0 1000000 (p_need (pb T N) N [102, 117, 110, 100] (p_bl (pb T N) N p))))
    have f20 := ((mI_aa hB.2.2 S5 21 20 i i (nI (p_val (pb T N) N 0 1000000 (p_need (pb T N) N [102, 117, 110, 100] (p_bl (pb T N) N p))))).trans (if_neg (by simp))).trans f20
    have f21 : hs_I (hs_sI S5 (ad 21) i (nI (p_val (pb T N) N 0 1000000 (p_need (pb T N) N [102, 117, 110, 100] (p_bl (pb T N) N p))))) (ad 21) i = (nI (p_val (pb T N) N 0 1000000 (p_need (pb T N) N [102, 117, 110, 100] (p_bl (pb T N) N p)))) := by rw [mI_aa hB.2.2, if_pos ⟨rfl, rfl⟩]
    generalize hs_sI S5 (ad 21) i (nI (p_val (pb T N) N 0 1000000 (p_need (pb T N) N [102, 117, 110, 100] (p_bl (pb T N) N p)))) = S6 at hC6 f20 f21 ⊢
    have hB := hC6.1.1.1
    refine ex_aload_n dX10_clause_38 1 rfl ?_
    refine ex_bipush (v := 47) dX10_clause_39 (by decide) ?_
    refine ex_cVg [.int 47] [] dX10_clause_41 cV_X10_185 (m_sign g hC6.1 (c := 47) rfl (by decide)) hB.1.1 hB.1.2 rfl rfl rfl (by decide) (Nat.le_of_ble_eq_true rfl) rfl ?_ (fun E S' n' k' h => by obtain ⟨h1, -⟩ := h; cases h1)
    rintro v' S7 n' k' ⟨hr, hq7, hn, hk⟩
    cases hr
    have hn := hn.symm
    have hk := hk.symm
    subst hn hk
    have hC7 := CX_px hC6 hq7
    have hB := hC7.1.1.1
    have f20 := (congrFun hq7.2.2.2.1 i).trans f20
    have f21 := (congrFun hq7.2.2.2.2.1 i).trans f21
    show ex_W _ _ _ _ 44 [(2, .int 1000000000), (0, .ref m), (1, .int x)] [] S7 n k
    refine ex_aload_n dX10_clause_44 1 rfl ?_
    refine ex_getR (b := ad 22) dX10_clause_45 fl_X10_53 hB.1.1 hB.1.2 (mb_22 hB).1 ?_
    refine ex_iload_n dX10_clause_48 2 rfl ?_
    refine ex_aload_n dX10_clause_49 1 rfl ?_
    refine ex_iconst (v := 1) dX10_clause_50 (by decide) ?_
    refine ex_iload_n dX10_clause_51 0 rfl ?_
    refine ex_cVg [.int 1, .int 1000000000] [.int x, .ref (ad 22)] dX10_clause_52 cV_X10_181 (m_number g hC7.1 (l := 1) (mm := 1000000000) rfl rfl (by decide) (by decide)) hB.1.1 hB.1.2 rfl rfl rfl (by decide) (Nat.le_of_ble_eq_true rfl) rfl ?_ (fun E S' n' k' h => by obtain ⟨h1, -⟩ := h; cases h1)
    rintro v' S8 n' k' ⟨hr, hq8, hn, hk⟩
    cases hr
    have hn := hn.symm
    have hk := hk.symm
    subst hn hk
    have hC8 := CX_px hC7 hq8
    have hB := hC8.1.1.1
    have f20 := (congrFun hq8.2.2.2.1 i).trans f20
    have f21 := (congrFun hq8.2.2.2.2.1 i).trans f21
    show ex_W _ _ _ _ 55 [(2, .int 1000000000), (0, .ref m), (1, .int x)] [.int (nI (p_val (pb T N) N 1 1000000000 (p_sign (pb T N) N 47 (p_num (pb T N) N 0 1000000 (p_need (pb T N) N [102, 117, 110, 100] (p_bl (pb T N) N p)))))), .int x, .ref (ad 22)] S8 n k
    refine ex_iast (j := i) dX10_clause_55 (mb_22 hB).2.1 (mb_22 hB).2.2.1 hx (Nat.lt_of_lt_of_eq (show i < 210 by omega) (mb_22 hB).2.2.2.symm) (show i < 2 ^ 31 by omega) ?_
    have hC9 := CX_ar hC8 hi2 22 (by decide) (nI (p_val (pb T N) N 1 1000000000 (p_sign (pb T N) N 47 (p_num (pb T N) N 0 1000000 (p_need (pb T N) N [102, 117, 110, 100] (p_bl (pb T N) N p))))))
    have f20 := ((mI_aa hB.2.2 S8 22 20 i i (nI (p_val (pb T N) N 1 1000000000 (p_sign (pb T N) N 47 (p_num (pb T N) N 0 1000000 (p_need (pb T N) N [102, 117, 110, 100] (p_bl (pb T N) N p))))))).trans (if_neg (by simp))).trans f20
    have f21 := ((mI_aa hB.2.2 S8 22 21 i i (nI (p_val (pb T N) N 1 1000000000 (p_sign (pb T N) N 47 (p_num (pb T N) N 0 1000000 (p_need (pb T N) N [102, 117, 110, 100] (p_bl (pb T N) N p))))))).trans (if_neg (by simp))).trans f21
    have f22 : hs_I (hs_sI S8 (ad 22) i (nI (p_val (pb T N) N 1 1000000000 (p_sign (pb T N) N 47 (p_num (pb T N) N 0 1000000 (p_need (pb T N) N [102, 117, 110, 100] (p_bl (pb T N) N p))))))) (ad 22) i = (nI (p_val (pb T N) N 1 1000000000 (p_sign (pb T N) N 47 (p_num (pb T N) N 0 1000000 (p_need (pb T N) N [102, 117, 110, 100] (p_bl (pb T N) N p)))))) := by rw [mI_aa hB.2.2, if_pos ⟨rfl, rfl⟩]
    generalize hs_sI S8 (ad 22) i (nI (p_val (pb T N) N 1 1000000000 (p_sign (pb T N) N 47 (p_num (pb T N) N 0 1000000 (p_need (pb T N) N [102, 117, 110, 100] (p_bl (pb T N) N p)))))) = S9 at hC9 f20 f21 f22 ⊢
    have hB := hC9.1.1.1
    refine ex_goto (tgt := 189) dX10_clause_56 (by decide) ?_
    refine ex_aload_n dX10_clause_189 1 rfl ?_
    refine ex_bipush (v := 59) dX10_clause_190 (by decide) ?_
    refine ex_cVg [.int 59] [] dX10_clause_192 cV_X10_185 (m_sign g hC9.1 (c := 59) rfl (by decide)) hB.1.1 hB.1.2 rfl rfl rfl (by decide) (Nat.le_of_ble_eq_true rfl) rfl ?_ (fun E S' n' k' h => by obtain ⟨h1, -⟩ := h; cases h1)
    rintro v' S10 n' k' ⟨hr, hq10, hn, hk⟩
    cases hr
    have hn := hn.symm
    have hk := hk.symm
    subst hn hk
    have hC10 := CX_px hC9 hq10
    have hB := hC10.1.1.1
    have f20 := (congrFun hq10.2.2.2.1 i).trans f20
    have f21 := (congrFun hq10.2.2.2.2.1 i).trans f21
    have f22 := (congrFun hq10.2.2.2.2.2 i).trans f22
    show ex_W _ _ _ _ 195 [(2, .int 1000000000), (0, .ref m), (1, .int x)] [] S10 n k
    exact ex_vrt rfl dX10_clause_195 (cq_i hkk hC10 ⟨f20, f21, fun _ => f22⟩)
