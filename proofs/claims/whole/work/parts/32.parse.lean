/-! the texts of rules, read -/
def pb (T : List Int32) (N k : Nat) : Nat := if k < N then (T.getD k 0).toBitVec.toNat % 256 else 0
theorem pb_lt (T : List Int32) (N k : Nat) : pb T N k < 256 := by unfold pb; split <;> omega
theorem pb_in {T : List Int32} {N k : Nat} (h : pb T N k ≠ 0) : k < N := by
  unfold pb at h
  split at h
  · assumption
  · exact absurd rfl h
/-- behind the blanks -/
def sk (b : Nat → Nat) (N : Nat) (a : Nat) : Nat := if a < N ∧ b a = 32 then sk b N (a + 1) else a
termination_by N - a
theorem sk_stop {b : Nat → Nat} {N a : Nat} (h : ¬ (a < N ∧ b a = 32)) : sk b N a = a := by rw [sk, if_neg h]
theorem sk_go {b : Nat → Nat} {N a : Nat} (h : a < N ∧ b a = 32) : sk b N a = sk b N (a + 1) := by rw [sk, if_pos h]
theorem sk_le {b : Nat → Nat} {N a : Nat} (h : a ≤ N) : sk b N a ≤ N := by
  have : ∀ t a, a ≤ N → N < a + t → sk b N a ≤ N := by
    intro t
    induction t with
    | zero => intro a h1 h2; omega
    | succ t ih =>
      intro a h1 h2
      by_cases q : a < N ∧ b a = 32
      · rw [sk_go q]; exact ih (a + 1) (by omega) (by omega)
      · rw [sk_stop q]; exact h1
  exact this (N + 1) a h (by omega)
theorem sk_ge {b : Nat → Nat} {N a : Nat} (h : a ≤ N) : a ≤ sk b N a := by
  have : ∀ t a, a ≤ N → N < a + t → a ≤ sk b N a := by
    intro t
    induction t with
    | zero => intro a h1 h2; omega
    | succ t ih =>
      intro a h1 h2
      by_cases q : a < N ∧ b a = 32
      · rw [sk_go q]; exact Nat.le_trans (Nat.le_succ a) (ih (a + 1) (by omega) (by omega))
      · rw [sk_stop q]; exact Nat.le_refl _
  exact this (N + 1) a h (by omega)
theorem sk_end {b : Nat → Nat} {N a : Nat} (h : a ≤ N) : ¬ (sk b N a < N ∧ b (sk b N a) = 32) := by
  have : ∀ t a, a ≤ N → N < a + t → ¬ (sk b N a < N ∧ b (sk b N a) = 32) := by
    intro t
    induction t with
    | zero => intro a h1 h2; omega
    | succ t ih =>
      intro a h1 h2
      by_cases q : a < N ∧ b a = 32
      · rw [sk_go q]; exact ih (a + 1) (by omega) (by omega)
      · rw [sk_stop q]; exact q
  exact this (N + 1) a h (by omega)
theorem sk_sk {b : Nat → Nat} {N a : Nat} (h : a ≤ N) : sk b N (sk b N a) = sk b N a := sk_stop (sk_end h)
abbrev sml (c : Nat) : Prop := 97 ≤ c ∧ c ≤ 122
abbrev dgt (c : Nat) : Prop := 48 ≤ c ∧ c ≤ 57
/-- a word stands there, and no small letter behind it -/
def wdb (b : Nat → Nat) : Nat → List Nat → Bool
  | a, [] => !(decide (sml (b a)))
  | a, c :: w => decide (b a = c) && wdb b (a + 1) w
abbrev wd (b : Nat → Nat) (a : Nat) (w : List Nat) : Prop := wdb b a w = true
theorem wd_nil (b : Nat → Nat) (a : Nat) : wd b a [] ↔ ¬ sml (b a) := by simp only [wd, wdb, Bool.not_eq_true', decide_eq_false_iff_not]
theorem wd_cons (b : Nat → Nat) (a c : Nat) (w : List Nat) : wd b a (c :: w) ↔ b a = c ∧ wd b (a + 1) w := by simp [wd, wdb]
/-- behind the digits; their value -/
def dg (b : Nat → Nat) (N : Nat) (a : Nat) : Nat := if a < N ∧ dgt (b a) then dg b N (a + 1) else a
termination_by N - a
def dv (b : Nat → Nat) (N : Nat) (a v : Nat) : Nat := if a < N ∧ dgt (b a) then dv b N (a + 1) (10 * v + (b a - 48)) else v
termination_by N - a
theorem dg_stop {b : Nat → Nat} {N a : Nat} (h : ¬ (a < N ∧ dgt (b a))) : dg b N a = a := by rw [dg, if_neg h]
theorem dg_go {b : Nat → Nat} {N a : Nat} (h : a < N ∧ dgt (b a)) : dg b N a = dg b N (a + 1) := by rw [dg, if_pos h]
theorem dv_stop {b : Nat → Nat} {N a v : Nat} (h : ¬ (a < N ∧ dgt (b a))) : dv b N a v = v := by rw [dv, if_neg h]
theorem dv_go {b : Nat → Nat} {N a v : Nat} (h : a < N ∧ dgt (b a)) : dv b N a v = dv b N (a + 1) (10 * v + (b a - 48)) := by rw [dv, if_pos h]
theorem dg_ge {b : Nat → Nat} {N a : Nat} (h : a ≤ N) : a ≤ dg b N a ∧ dg b N a ≤ N := by
  have : ∀ t a, a ≤ N → N < a + t → a ≤ dg b N a ∧ dg b N a ≤ N := by
    intro t
    induction t with
    | zero => intro a h1 h2; omega
    | succ t ih =>
      intro a h1 h2
      by_cases q : a < N ∧ dgt (b a)
      · rw [dg_go q]; have := ih (a + 1) (by omega) (by omega); omega
      · rw [dg_stop q]; exact ⟨Nat.le_refl _, h1⟩
  exact this (N + 1) a h (by omega)
/-- where the reader stands: its place, the fault, the fault's place -/
abbrev ps_T : Type := Nat × Nat × Option Nat
def p_wr (c w : Nat) (p : ps_T) : ps_T := if 0 < p.2.1 then p else (p.1, c, some w)
def p_bl (b : Nat → Nat) (N : Nat) (p : ps_T) : ps_T := (sk b N p.1, p.2)
def p_need (b : Nat → Nat) (N : Nat) (w : List Nat) (p : ps_T) : ps_T := if 0 < p.2.1 then p else if wd b (sk b N p.1) w then (sk b N p.1 + w.length, p.2) else p_wr 1 (sk b N p.1) (p_bl b N p)
def p_sign (b : Nat → Nat) (N c : Nat) (p : ps_T) : ps_T := if 0 < p.2.1 then p else if sk b N p.1 < N ∧ b (sk b N p.1) = c then (sk b N p.1 + 1, p.2) else p_wr 1 (sk b N p.1) (p_bl b N p)
def p_nu1 (b : Nat → Nat) (N : Nat) (p : ps_T) : ps_T := if dgt (b p.1) then p else p_wr 1 p.1 p
def p_nu2 (b : Nat → Nat) (N l m : Nat) (p : ps_T) (a v : Nat) : ps_T := if v < l ∨ m < v then p_wr 2 a p else p
def p_num (b : Nat → Nat) (N l m : Nat) (p : ps_T) : ps_T := if 0 < p.2.1 then p else p_nu2 b N l m (dg b N (sk b N p.1), (p_nu1 b N (p_bl b N p)).2) (sk b N p.1) (dv b N (sk b N p.1) 0)
def p_val (b : Nat → Nat) (N l m : Nat) (p : ps_T) : Nat := if 0 < (p_num b N l m p).2.1 then 0 else dv b N (sk b N p.1) 0
/-! the reference while it reads -/
def PS (S : hs_T) (m : Nat) (ad : Nat → Nat) (s : st_T) (T : List Int32) (N : Nat) (p : ps_T) : Prop := RM S m ad (w_fp s p.2.2) ∧ (hs_I S m 14 = nI N ∧ hs_I S m 15 = nI p.1 ∧ hs_I S m 16 = nI p.2.1) ∧ (∀ j, j < N → hs_I S (ad 12) j = T.getD j 0) ∧ N ≤ 400 ∧ p.1 ≤ N ∧ p.2.1 ≤ 3
def pp (S : hs_T) (m : Nat) (ad : Nat → Nat) (n k : Nat) (s : st_T) (T : List Int32) (N : Nat) (p : ps_T) (v : Option Value) (E : hs_T → Prop) : ex_R := fun r S' n' k' => r = .inl v ∧ PS S' m ad s T N p ∧ MF S S' m ad ∧ hs_I S' m 0 = hs_I S m 0 ∧ E S' ∧ n' = n ∧ k' = k
/-- the places for clauses are as they were -/
def SQ (ad : Nat → Nat) (S S' : hs_T) : Prop := hs_I S' (ad 20) = hs_I S (ad 20) ∧ hs_I S' (ad 21) = hs_I S (ad 21) ∧ hs_I S' (ad 22) = hs_I S (ad 22)
theorem SQ_rf (ad : Nat → Nat) (S : hs_T) : SQ ad S S := ⟨rfl, rfl, rfl⟩
theorem SQ_tr {ad : Nat → Nat} {S S1 S2 : hs_T} (h1 : SQ ad S S1) (h2 : SQ ad S1 S2) : SQ ad S S2 := ⟨h2.1.trans h1.1, h2.2.1.trans h1.2.1, h2.2.2.trans h1.2.2⟩
theorem SQ_mI {m : Nat} {ad : Nat → Nat} (hA : AD m ad) {S S1 : hs_T} (h : SQ ad S S1) (i : Nat) (v : Int32) : SQ ad S (hs_sI S1 m i v) := SQ_tr h ⟨hs_u_off _ _ _ (fun q => hA.2 20 q), hs_u_off _ _ _ (fun q => hA.2 21 q), hs_u_off _ _ _ (fun q => hA.2 22 q)⟩
theorem PS_at {S : hs_T} {m : Nat} {ad : Nat → Nat} {s : st_T} {T : List Int32} {N : Nat} {p : ps_T} (h : PS S m ad s T N p) {v : Int32} {a : Nat} (hv : v = nI a) (ha : a ≤ N) : PS (hs_sI S m 15 v) m ad s T N (a, p.2) := by
  obtain ⟨h1, ⟨h2, h3, h4⟩, h5, h6, h7, h8⟩ := h
  have hA := h1.1.2.2
  exact ⟨RM_mI h1 15 v (by decide), ⟨by rw [mI_mm, if_neg (by decide)]; exact h2, by rw [mI_mm, if_pos rfl]; exact hv, by rw [mI_mm, if_neg (by decide)]; exact h4⟩, fun j hj => by rw [mI_sm hA]; exact h5 j hj, h6, ha, h8⟩
theorem RM_fp {S : hs_T} {m : Nat} {ad : Nat → Nat} {s : st_T} (h : RM S m ad s) {v : Int32} {x : Option Nat} (hv : v = eN x) (hx : ∀ d, x = some d → d ≤ 100000) : RM (hs_sI S m 17 v) m ad (w_fp s x) := by
  obtain ⟨hB, hMS, hMH, hML, hMT, hMR, hMN, hMD, hMW⟩ := h
  exact ⟨hB, ⟨⟨by rw [mI_mm, if_neg (by decide)]; exact hMS.1.1, by rw [mI_mm, if_neg (by decide)]; exact hMS.1.2.1, by rw [mI_mm, if_pos rfl, hv]; rfl, hMS.1.2.2.2⟩, hMS.2.1, hMS.2.2.1, hx⟩, (MH_mI hB.2.2 (hMH) 17 _ (by decide)), (ML_mI hB.2.2 (hML) 17 _ (by decide)), (MT_mI hB.2.2 (hMT) 17 _ (by decide)), (MR_mI hB.2.2 (hMR) 17 _ (by decide)), (MN_mI hB.2.2 (hMN) 17 _ (by decide)), (MD_mI hB.2.2 (hMD) 17 _ (by decide)), (MW_mI hB.2.2 (hMW) 17 _ (by decide))⟩
theorem PS_wr {S : hs_T} {m : Nat} {ad : Nat → Nat} {s : st_T} {T : List Int32} {N : Nat} {p : ps_T} (h : PS S m ad s T N p) {v u : Int32} {c w : Nat} (hv : v = nI c) (hc : c ≤ 3) (hu : u = nI w) (hw : w ≤ N) : PS (hs_sI (hs_sI S m 16 v) m 17 u) m ad s T N (p.1, c, some w) := by
  obtain ⟨h1, ⟨h2, h3, h4⟩, h5, h6, h7, h8⟩ := h
  have hA := h1.1.2.2
  exact ⟨RM_fp (RM_mI h1 16 v (by decide)) (x := some w) hu (fun d hd => by cases hd; omega), ⟨by rw [mI_mm, if_neg (by decide), mI_mm, if_neg (by decide)]; exact h2, by rw [mI_mm, if_neg (by decide), mI_mm, if_neg (by decide)]; exact h3, by rw [mI_mm, if_neg (by decide), mI_mm, if_pos rfl]; exact hv⟩, fun j hj => by rw [mI_sm hA, mI_sm hA]; exact h5 j hj, h6, h7, hc⟩
set_option maxRecDepth 20000 in
set_option maxHeartbeats 2000000 in
theorem m_byteAt (g : gl_T) {S : hs_T} {n k : Nat} {m N : Nat} {ad : Nat → Nat} {s : st_T} {T : List Int32} {p : ps_T} (hP : PS S m ad s T N p) {x : Int32} {j : Nat} (hx : x = nI j) (hj : j < 2 ^ 31) : ex_M g 0 mX10_byteAt [.ref m, .int x] S n k (ex_rt (some (.int (nI (pb T N j)))) S n k) := by
  have hB := hP.1.1
  refine ex_enter (by decide +kernel) (Nat.le_of_ble_eq_true rfl) ?_
  show ex_W _ _ _ _ 0 [(0, .ref m), (1, .int x)] [] _ _ _
  refine ex_iload_n dX10_byteAt_0 1 rfl ?_
  refine ex_aload_n dX10_byteAt_1 0 rfl ?_
  refine ex_getI dX10_byteAt_2 fl_X10_128 hB.1.1 hB.1.2 ?_
  refine ex_icmp_ge (tgt := 21) dX10_byteAt_5 (by decide) (fun c5 => ?_) (fun c5 => ?_)
  · have hjN : ¬ j < N := fun z => by have z2 := nI_lt z (by have := hP.2.2.2.1; omega); rw [← hx, ← hP.2.1.1] at z2; simp only [i_lt, i_le] at *; omega
    refine ex_iconst (v := 0) dX10_byteAt_21 (by decide) ?_
    exact ex_irt rfl dX10_byteAt_22 (ex_rt_e (by first | (unfold pb; rw [if_pos hjN, hP.2.2.1 j hjN]; exact congrArg Value.int (pk_and _ 8 (by decide))) | (unfold pb; rw [if_neg hjN]; rfl)))
  · have hjN : j < N := (nI_ltI hj (by have := hP.2.2.2.1; omega)).mp (by rw [← hx, ← hP.2.1.1]; simp only [i_lt, i_le] at *; omega)
    have hN4 := hP.2.2.2.1
    refine ex_aload_n dX10_byteAt_8 0 rfl ?_
    refine ex_getR (b := ad 12) dX10_byteAt_9 fl_X10_33 hB.1.1 hB.1.2 (mb_12 hB).1 ?_
    refine ex_iload_n dX10_byteAt_12 1 rfl ?_
    refine ex_bald (j := j) dX10_byteAt_13 (mb_12 hB).2.1 (mb_12 hB).2.2.1 hx (Nat.lt_of_lt_of_eq (show j < 400 by omega) (mb_12 hB).2.2.2.symm) hj ?_
    refine ex_sipush (v := 255) dX10_byteAt_14 (by decide) ?_
    refine ex_iand dX10_byteAt_17 ?_
    refine ex_goto (tgt := 22) dX10_byteAt_18 (by decide) ?_
    exact ex_irt rfl dX10_byteAt_22 (ex_rt_e (by first | (unfold pb; rw [if_pos hjN, hP.2.2.1 j hjN]; exact congrArg Value.int (pk_and _ 8 (by decide))) | (unfold pb; rw [if_neg hjN]; rfl)))
set_option maxRecDepth 20000 in
set_option maxHeartbeats 2000000 in
theorem m_isSmall (g : gl_T) {S : hs_T} {n k : Nat} {x : Int32} {c : Nat} (hx : x = nI c) (hc : c < 2 ^ 31) : ex_M g 0 mX10_isSmall [.int x] S n k (ex_rt (some (.int (if 97 ≤ c ∧ c ≤ 122 then 1 else 0))) S n k) := by
  have e1 : x < 97 ↔ c < 97 := by rw [hx]; exact nI_ltI (b := 97) hc (by decide)
  have e2 : x ≤ 122 ↔ c ≤ 122 := by rw [hx]; exact nI_leI (b := 122) hc (by decide)
  have e3 : 122 < x ↔ 122 < c := by rw [hx]; exact nI_ltI (a := 122) (by decide) hc
  refine ex_enter (by decide +kernel) (Nat.le_of_ble_eq_true rfl) ?_
  show ex_W _ _ _ _ 0 [(0, .int x)] [] _ _ _
  refine ex_iload_n dX10_isSmall_0 0 rfl ?_
  refine ex_bipush (v := 97) dX10_isSmall_1 (by decide) ?_
  refine ex_icmp_lt (tgt := 16) dX10_isSmall_3 (by decide) (fun c3 => ?_) (fun c3 => ?_)
  · refine ex_iconst (v := 0) dX10_isSmall_16 (by decide) ?_
    exact ex_bret rfl (by decide) dX10_isSmall_17 (ex_rt_e (by split <;> first | rfl | (exfalso; simp only [e1, e2, e3] at *; omega)))
  · refine ex_iload_n dX10_isSmall_6 0 rfl ?_
    refine ex_bipush (v := 122) dX10_isSmall_7 (by decide) ?_
    refine ex_icmp_gt (tgt := 16) dX10_isSmall_9 (by decide) (fun c9 => ?_) (fun c9 => ?_)
    · refine ex_iconst (v := 0) dX10_isSmall_16 (by decide) ?_
      exact ex_bret rfl (by decide) dX10_isSmall_17 (ex_rt_e (by split <;> first | rfl | (exfalso; simp only [e1, e2, e3] at *; omega)))
    · refine ex_iconst (v := 1) dX10_isSmall_12 (by decide) ?_
      refine ex_goto (tgt := 17) dX10_isSmall_13 (by decide) ?_
      exact ex_bret rfl (by decide) dX10_isSmall_17 (ex_rt_e (by split <;> first | rfl | (exfalso; simp only [e1, e2, e3] at *; omega)))
set_option maxRecDepth 20000 in
set_option maxHeartbeats 2000000 in
theorem m_isDigit (g : gl_T) {S : hs_T} {n k : Nat} {x : Int32} {c : Nat} (hx : x = nI c) (hc : c < 2 ^ 31) : ex_M g 0 mX10_isDigit [.int x] S n k (ex_rt (some (.int (if 48 ≤ c ∧ c ≤ 57 then 1 else 0))) S n k) := by
  have e1 : x < 48 ↔ c < 48 := by rw [hx]; exact nI_ltI (b := 48) hc (by decide)
  have e2 : x ≤ 57 ↔ c ≤ 57 := by rw [hx]; exact nI_leI (b := 57) hc (by decide)
  have e3 : 57 < x ↔ 57 < c := by rw [hx]; exact nI_ltI (a := 57) (by decide) hc
  refine ex_enter (by decide +kernel) (Nat.le_of_ble_eq_true rfl) ?_
  show ex_W _ _ _ _ 0 [(0, .int x)] [] _ _ _
  refine ex_iload_n dX10_isDigit_0 0 rfl ?_
  refine ex_bipush (v := 48) dX10_isDigit_1 (by decide) ?_
  refine ex_icmp_lt (tgt := 16) dX10_isDigit_3 (by decide) (fun c3 => ?_) (fun c3 => ?_)
  · refine ex_iconst (v := 0) dX10_isDigit_16 (by decide) ?_
    exact ex_bret rfl (by decide) dX10_isDigit_17 (ex_rt_e (by split <;> first | rfl | (exfalso; simp only [e1, e2, e3] at *; omega)))
  · refine ex_iload_n dX10_isDigit_6 0 rfl ?_
    refine ex_bipush (v := 57) dX10_isDigit_7 (by decide) ?_
    refine ex_icmp_gt (tgt := 16) dX10_isDigit_9 (by decide) (fun c9 => ?_) (fun c9 => ?_)
    · refine ex_iconst (v := 0) dX10_isDigit_16 (by decide) ?_
      exact ex_bret rfl (by decide) dX10_isDigit_17 (ex_rt_e (by split <;> first | rfl | (exfalso; simp only [e1, e2, e3] at *; omega)))
    · refine ex_iconst (v := 1) dX10_isDigit_12 (by decide) ?_
      refine ex_goto (tgt := 17) dX10_isDigit_13 (by decide) ?_
      exact ex_bret rfl (by decide) dX10_isDigit_17 (ex_rt_e (by split <;> first | rfl | (exfalso; simp only [e1, e2, e3] at *; omega)))
