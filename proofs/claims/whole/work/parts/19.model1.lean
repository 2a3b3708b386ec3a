/-! the reference: one object m, and its rows ad i (i the field) -/
def mb_T : List (Nat × Nat × Nat) := [(4, 14, 60), (5, 13, 60), (6, 12, 1500), (7, 12, 1500), (8, 12, 1500), (9, 12, 1500), (10, 12, 1500), (12, 11, 400), (18, 12, 20), (19, 12, 20), (20, 12, 210), (21, 12, 210), (22, 12, 210), (24, 12, 20), (26, 13, 360), (28, 12, 2000), (29, 12, 2000), (30, 12, 2000), (31, 12, 2000), (32, 12, 2000), (35, 12, 1500)]
/-- the addresses are apart -/
def AD (m : Nat) (ad : Nat → Nat) : Prop := (∀ i j, ad i = ad j → i = j) ∧ ∀ i, ad i ≠ m
def MB (S : hs_T) (m : Nat) (ad : Nat → Nat) : Prop := (m ∈ hs_L S ∧ hs_K S m = 10) ∧ (∀ q ∈ mb_T, hs_R S m q.1 = some (ad q.1) ∧ ad q.1 ∈ hs_L S ∧ hs_K S (ad q.1) = q.2.1 ∧ hs_N S (ad q.1) = q.2.2) ∧ AD m ad
theorem mb_4 {S : hs_T} {m : Nat} {ad : Nat → Nat} (h : MB S m ad) : hs_R S m 4 = some (ad 4) ∧ ad 4 ∈ hs_L S ∧ hs_K S (ad 4) = 14 ∧ hs_N S (ad 4) = 60 := h.2.1 (4, 14, 60) (by decide)
theorem mb_5 {S : hs_T} {m : Nat} {ad : Nat → Nat} (h : MB S m ad) : hs_R S m 5 = some (ad 5) ∧ ad 5 ∈ hs_L S ∧ hs_K S (ad 5) = 13 ∧ hs_N S (ad 5) = 60 := h.2.1 (5, 13, 60) (by decide)
theorem mb_6 {S : hs_T} {m : Nat} {ad : Nat → Nat} (h : MB S m ad) : hs_R S m 6 = some (ad 6) ∧ ad 6 ∈ hs_L S ∧ hs_K S (ad 6) = 12 ∧ hs_N S (ad 6) = 1500 := h.2.1 (6, 12, 1500) (by decide)
theorem mb_7 {S : hs_T} {m : Nat} {ad : Nat → Nat} (h : MB S m ad) : hs_R S m 7 = some (ad 7) ∧ ad 7 ∈ hs_L S ∧ hs_K S (ad 7) = 12 ∧ hs_N S (ad 7) = 1500 := h.2.1 (7, 12, 1500) (by decide)
theorem mb_8 {S : hs_T} {m : Nat} {ad : Nat → Nat} (h : MB S m ad) : hs_R S m 8 = some (ad 8) ∧ ad 8 ∈ hs_L S ∧ hs_K S (ad 8) = 12 ∧ hs_N S (ad 8) = 1500 := h.2.1 (8, 12, 1500) (by decide)
theorem mb_9 {S : hs_T} {m : Nat} {ad : Nat → Nat} (h : MB S m ad) : hs_R S m 9 = some (ad 9) ∧ ad 9 ∈ hs_L S ∧ hs_K S (ad 9) = 12 ∧ hs_N S (ad 9) = 1500 := h.2.1 (9, 12, 1500) (by decide)
theorem mb_10 {S : hs_T} {m : Nat} {ad : Nat → Nat} (h : MB S m ad) : hs_R S m 10 = some (ad 10) ∧ ad 10 ∈ hs_L S ∧ hs_K S (ad 10) = 12 ∧ hs_N S (ad 10) = 1500 := h.2.1 (10, 12, 1500) (by decide)
theorem mb_12 {S : hs_T} {m : Nat} {ad : Nat → Nat} (h : MB S m ad) : hs_R S m 12 = some (ad 12) ∧ ad 12 ∈ hs_L S ∧ hs_K S (ad 12) = 11 ∧ hs_N S (ad 12) = 400 := h.2.1 (12, 11, 400) (by decide)
theorem mb_18 {S : hs_T} {m : Nat} {ad : Nat → Nat} (h : MB S m ad) : hs_R S m 18 = some (ad 18) ∧ ad 18 ∈ hs_L S ∧ hs_K S (ad 18) = 12 ∧ hs_N S (ad 18) = 20 := h.2.1 (18, 12, 20) (by decide)
theorem mb_19 {S : hs_T} {m : Nat} {ad : Nat → Nat} (h : MB S m ad) : hs_R S m 19 = some (ad 19) ∧ ad 19 ∈ hs_L S ∧ hs_K S (ad 19) = 12 ∧ hs_N S (ad 19) = 20 := h.2.1 (19, 12, 20) (by decide)
theorem mb_20 {S : hs_T} {m : Nat} {ad : Nat → Nat} (h : MB S m ad) : hs_R S m 20 = some (ad 20) ∧ ad 20 ∈ hs_L S ∧ hs_K S (ad 20) = 12 ∧ hs_N S (ad 20) = 210 := h.2.1 (20, 12, 210) (by decide)
theorem mb_21 {S : hs_T} {m : Nat} {ad : Nat → Nat} (h : MB S m ad) : hs_R S m 21 = some (ad 21) ∧ ad 21 ∈ hs_L S ∧ hs_K S (ad 21) = 12 ∧ hs_N S (ad 21) = 210 := h.2.1 (21, 12, 210) (by decide)
theorem mb_22 {S : hs_T} {m : Nat} {ad : Nat → Nat} (h : MB S m ad) : hs_R S m 22 = some (ad 22) ∧ ad 22 ∈ hs_L S ∧ hs_K S (ad 22) = 12 ∧ hs_N S (ad 22) = 210 := h.2.1 (22, 12, 210) (by decide)
theorem mb_24 {S : hs_T} {m : Nat} {ad : Nat → Nat} (h : MB S m ad) : hs_R S m 24 = some (ad 24) ∧ ad 24 ∈ hs_L S ∧ hs_K S (ad 24) = 12 ∧ hs_N S (ad 24) = 20 := h.2.1 (24, 12, 20) (by decide)
theorem mb_26 {S : hs_T} {m : Nat} {ad : Nat → Nat} (h : MB S m ad) : hs_R S m 26 = some (ad 26) ∧ ad 26 ∈ hs_L S ∧ hs_K S (ad 26) = 13 ∧ hs_N S (ad 26) = 360 := h.2.1 (26, 13, 360) (by decide)
theorem mb_28 {S : hs_T} {m : Nat} {ad : Nat → Nat} (h : MB S m ad) : hs_R S m 28 = some (ad 28) ∧ ad 28 ∈ hs_L S ∧ hs_K S (ad 28) = 12 ∧ hs_N S (ad 28) = 2000 := h.2.1 (28, 12, 2000) (by decide)
theorem mb_29 {S : hs_T} {m : Nat} {ad : Nat → Nat} (h : MB S m ad) : hs_R S m 29 = some (ad 29) ∧ ad 29 ∈ hs_L S ∧ hs_K S (ad 29) = 12 ∧ hs_N S (ad 29) = 2000 := h.2.1 (29, 12, 2000) (by decide)
theorem mb_30 {S : hs_T} {m : Nat} {ad : Nat → Nat} (h : MB S m ad) : hs_R S m 30 = some (ad 30) ∧ ad 30 ∈ hs_L S ∧ hs_K S (ad 30) = 12 ∧ hs_N S (ad 30) = 2000 := h.2.1 (30, 12, 2000) (by decide)
theorem mb_31 {S : hs_T} {m : Nat} {ad : Nat → Nat} (h : MB S m ad) : hs_R S m 31 = some (ad 31) ∧ ad 31 ∈ hs_L S ∧ hs_K S (ad 31) = 12 ∧ hs_N S (ad 31) = 2000 := h.2.1 (31, 12, 2000) (by decide)
theorem mb_32 {S : hs_T} {m : Nat} {ad : Nat → Nat} (h : MB S m ad) : hs_R S m 32 = some (ad 32) ∧ ad 32 ∈ hs_L S ∧ hs_K S (ad 32) = 12 ∧ hs_N S (ad 32) = 2000 := h.2.1 (32, 12, 2000) (by decide)
theorem mb_35 {S : hs_T} {m : Nat} {ad : Nat → Nat} (h : MB S m ad) : hs_R S m 35 = some (ad 35) ∧ ad 35 ∈ hs_L S ∧ hs_K S (ad 35) = 12 ∧ hs_N S (ad 35) = 1500 := h.2.1 (35, 12, 1500) (by decide)
theorem mI_sm {m : Nat} {ad : Nat → Nat} (h : AD m ad) (S : hs_T) (i j w : Nat) (v : Int32) : hs_I (hs_sI S m i v) (ad j) w = hs_I S (ad j) w := by rw [hs_I_sI, if_neg (fun q => h.2 j q.1)]
theorem mI_sa {m : Nat} {ad : Nat → Nat} (h : AD m ad) (S : hs_T) (i j w : Nat) (v : Int32) : hs_I (hs_sI S (ad i) j v) m w = hs_I S m w := by rw [hs_I_sI, if_neg (fun q => h.2 i q.1.symm)]
theorem mI_aa {m : Nat} {ad : Nat → Nat} (h : AD m ad) (S : hs_T) (i i2 j w : Nat) (v : Int32) : hs_I (hs_sI S (ad i) j v) (ad i2) w = if i2 = i ∧ w = j then v else hs_I S (ad i2) w := by
  rw [hs_I_sI]
  by_cases q : i2 = i
  · subst q; simp
  · rw [if_neg (fun z => q (h.1 _ _ z.1)), if_neg (fun z => q z.1)]
theorem mI_mm (S : hs_T) (m i w : Nat) (v : Int32) : hs_I (hs_sI S m i v) m w = if w = i then v else hs_I S m w := by rw [hs_I_sI]; simp
theorem mJ_sm {m : Nat} {ad : Nat → Nat} (h : AD m ad) (S : hs_T) (i j w : Nat) (v : Int64) : hs_J (hs_sJ S m i v) (ad j) w = hs_J S (ad j) w := by rw [hs_J_sJ, if_neg (fun q => h.2 j q.1)]
theorem mJ_sa {m : Nat} {ad : Nat → Nat} (h : AD m ad) (S : hs_T) (i j w : Nat) (v : Int64) : hs_J (hs_sJ S (ad i) j v) m w = hs_J S m w := by rw [hs_J_sJ, if_neg (fun q => h.2 i q.1.symm)]
theorem mJ_aa {m : Nat} {ad : Nat → Nat} (h : AD m ad) (S : hs_T) (i i2 j w : Nat) (v : Int64) : hs_J (hs_sJ S (ad i) j v) (ad i2) w = if i2 = i ∧ w = j then v else hs_J S (ad i2) w := by
  rw [hs_J_sJ]
  by_cases q : i2 = i
  · subst q; simp
  · rw [if_neg (fun z => q (h.1 _ _ z.1)), if_neg (fun z => q z.1)]
theorem mJ_mm (S : hs_T) (m i w : Nat) (v : Int64) : hs_J (hs_sJ S m i v) m w = if w = i then v else hs_J S m w := by rw [hs_J_sJ]; simp
/-- lines: first, last, holder, since, ended -/
abbrev li_T : Type := Nat × Nat × Nat × Nat × Option Nat
def eN : Option Nat → Int32
  | none => -1
  | some d => nI d
def ln_at (ls : List li_T) (j : Nat) : li_T := ls.getD j (0, 0, 0, 0, none)
def ln_ok (l : li_T) : Prop := l.1 ≤ l.2.1 ∧ l.2.1 < 1000000000 ∧ l.2.2.1 < 60 ∧ l.2.2.2.1 ≤ 100000 ∧ ∀ d, l.2.2.2.2 = some d → d ≤ 100000
theorem eN_m1 {o : Option Nat} (h : ∀ d, o = some d → d ≤ 100000) : eN o = -1 ↔ o = none := by
  cases o with
  | none => simp [eN]
  | some d =>
    have hd := h d rfl
    constructor
    · intro q
      have q2 : (nI d).toInt = (-1 : Int32).toInt := congrArg Int32.toInt q
      rw [nI_toInt (by omega), i_m1] at q2
      omega
    · intro q; cases q
/-- sums up to a place -/
def su (f : Nat → Nat) : Nat → Nat
  | 0 => 0
  | i + 1 => su f i + f i
theorem su_le {f : Nat → Nat} {b : Nat} (h : ∀ j, f j ≤ b) : ∀ i, su f i ≤ b * i
  | 0 => by simp [su]
  | i + 1 => by have := su_le h i; have := h i; simp only [su, Nat.mul_add]; omega
/-- the reference's lines -/
def ML (S : hs_T) (m : Nat) (ad : Nat → Nat) (ls : List li_T) : Prop := hs_I S m 11 = nI ls.length ∧ ls.length ≤ 1500 ∧ ∀ j, j < ls.length → ln_ok (ln_at ls j) ∧ hs_I S (ad 6) j = nI (ln_at ls j).1 ∧ hs_I S (ad 7) j = nI (ln_at ls j).2.1 ∧ hs_I S (ad 8) j = nI (ln_at ls j).2.2.1 ∧ hs_I S (ad 9) j = nI (ln_at ls j).2.2.2.1 ∧ hs_I S (ad 10) j = eN (ln_at ls j).2.2.2.2
set_option maxRecDepth 20000 in
set_option maxHeartbeats 2000000 in
theorem m_thrown (g : gl_T) {S : hs_T} {n k : Nat} {m : Nat} {ad : Nat → Nat} (hB : MB S m ad) : ex_M g 0 mX10_thrown [.ref m] S n k (ex_rt (some (.int (hs_I S m 0))) S n k) := by
  refine ex_enter (by decide +kernel) (Nat.le_of_ble_eq_true rfl) ?_
  show ex_W _ _ _ _ 0 [(0, .ref m)] [] _ _ _
  refine ex_aload_n dX10_thrown_0 0 rfl ?_
  refine ex_getI dX10_thrown_1 fl_X10_80 hB.1.1 hB.1.2 ?_
  exact ex_irt rfl dX10_thrown_4 ex_rt_i
set_option maxRecDepth 20000 in
set_option maxHeartbeats 2000000 in
theorem m_bad0 (g : gl_T) {S : hs_T} {n k : Nat} {m : Nat} {ad : Nat → Nat} (hB : MB S m ad) {y : Int32} : ex_M g 0 mX10_bad [.ref m, .int 0, .int y] S n k (ex_rt (some (.int 0)) S n k) := by
  refine ex_enter (by decide +kernel) (Nat.le_of_ble_eq_true rfl) ?_
  show ex_W _ _ _ _ 0 [(0, .ref m), (1, .int 0), (2, .int y)] [] _ _ _
  refine ex_iload_n dX10_bad_0 1 rfl ?_
  refine ex_if_eq (tgt := 9) dX10_bad_1 (by decide) (fun c1 => ?_) (fun c1 => absurd rfl c1)
  refine ex_iload_n dX10_bad_9 1 rfl ?_
  exact ex_bret rfl (by decide) dX10_bad_10 ex_rt_i
set_option maxRecDepth 20000 in
set_option maxHeartbeats 2000000 in
theorem m_bad1 (g : gl_T) {S : hs_T} {n k : Nat} {m : Nat} {ad : Nat → Nat} (hB : MB S m ad) {y : Int32} : ex_M g 0 mX10_bad [.ref m, .int 1, .int y] S n k (ex_rt (some (.int 1)) (hs_sI S m 0 y) n k) := by
  refine ex_enter (by decide +kernel) (Nat.le_of_ble_eq_true rfl) ?_
  show ex_W _ _ _ _ 0 [(0, .ref m), (1, .int 1), (2, .int y)] [] _ _ _
  refine ex_iload_n dX10_bad_0 1 rfl ?_
  refine ex_if_eq (tgt := 9) dX10_bad_1 (by decide) (fun c1 => absurd c1 (by decide)) (fun c1 => ?_)
  refine ex_aload_n dX10_bad_4 0 rfl ?_
  refine ex_iload_n dX10_bad_5 2 rfl ?_
  refine ex_putI dX10_bad_6 fl_X10_80 (pf_X10_80 _) hB.1.1 hB.1.2 ?_
  refine ex_iload_n dX10_bad_9 1 rfl ?_
  exact ex_bret rfl (by decide) dX10_bad_10 ex_rt_i
set_option maxRecDepth 20000 in
set_option maxHeartbeats 2000000 in
theorem m_isHolder (g : gl_T) {S : hs_T} {n k : Nat} {m : Nat} {ad : Nat → Nat} (hB : MB S m ad) {x : Int32} : ex_M g 0 mX10_isHolder [.ref m, .int x] S n k (ex_rt (some (.int (if 0 ≤ x ∧ x < hs_I S m 1 then 1 else 0))) S n k) := by
  refine ex_enter (by decide +kernel) (Nat.le_of_ble_eq_true rfl) ?_
  show ex_W _ _ _ _ 0 [(0, .ref m), (1, .int x)] [] _ _ _
  refine ex_iload_n dX10_isHolder_0 1 rfl ?_
  refine ex_if_lt (tgt := 16) dX10_isHolder_1 (by decide) (fun c1 => ?_) (fun c1 => ?_)
  · refine ex_iconst (v := 0) dX10_isHolder_16 (by decide) ?_
    exact ex_bret rfl (by decide) dX10_isHolder_17 (by first | exact ex_rt_i | exact ex_rt_e (by split <;> first | rfl | (exfalso; simp only [i_lt, i_le, i_eq, i_m1, Int32.reduceToInt] at *; omega)))
  · refine ex_iload_n dX10_isHolder_4 1 rfl ?_
    refine ex_aload_n dX10_isHolder_5 0 rfl ?_
    refine ex_getI dX10_isHolder_6 fl_X10_83 hB.1.1 hB.1.2 ?_
    refine ex_icmp_ge (tgt := 16) dX10_isHolder_9 (by decide) (fun c9 => ?_) (fun c9 => ?_)
    · refine ex_iconst (v := 0) dX10_isHolder_16 (by decide) ?_
      exact ex_bret rfl (by decide) dX10_isHolder_17 (by first | exact ex_rt_i | exact ex_rt_e (by split <;> first | rfl | (exfalso; simp only [i_lt, i_le, i_eq, i_m1, Int32.reduceToInt] at *; omega)))
    · refine ex_iconst (v := 1) dX10_isHolder_12 (by decide) ?_
      refine ex_goto (tgt := 17) dX10_isHolder_13 (by decide) ?_
      exact ex_bret rfl (by decide) dX10_isHolder_17 (by first | exact ex_rt_i | exact ex_rt_e (by split <;> first | rfl | (exfalso; simp only [i_lt, i_le, i_eq, i_m1, Int32.reduceToInt] at *; omega)))
set_option maxRecDepth 20000 in
set_option maxHeartbeats 2000000 in
theorem m_goesOn (g : gl_T) {S : hs_T} {n k : Nat} {m : Nat} {ad : Nat → Nat} (hB : MB S m ad) {x y : Int32} {i : Nat} (hx : x = nI i) (hi : i < 1500) : ex_M g 0 mX10_goesOn [.ref m, .int x, .int y] S n k (ex_rt (some (.int (if hs_I S (ad 10) i = -1 ∧ hs_I S (ad 8) i = y then 1 else 0))) S n k) := by
  refine ex_enter (by decide +kernel) (Nat.le_of_ble_eq_true rfl) ?_
  show ex_W _ _ _ _ 0 [(0, .ref m), (1, .int x), (2, .int y)] [] _ _ _
  refine ex_aload_n dX10_goesOn_0 0 rfl ?_
  refine ex_getR (b := ad 10) dX10_goesOn_1 fl_X10_30 hB.1.1 hB.1.2 (mb_10 hB).1 ?_
  refine ex_iload_n dX10_goesOn_4 1 rfl ?_
  refine ex_iald (j := i) dX10_goesOn_5 (mb_10 hB).2.1 (mb_10 hB).2.2.1 hx (Nat.lt_of_lt_of_eq (show i < 1500 by omega) (mb_10 hB).2.2.2.symm) (show i < 2 ^ 31 by omega) ?_
  refine ex_iconst (v := (-1)) dX10_goesOn_6 (by decide) ?_
  refine ex_icmp_ne (tgt := 24) dX10_goesOn_7 (by decide) (fun c7 => ?_) (fun c7 => ?_)
  · refine ex_iconst (v := 0) dX10_goesOn_24 (by decide) ?_
    exact ex_bret rfl (by decide) dX10_goesOn_25 (ex_rt_e (by simp_all))
  · refine ex_aload_n dX10_goesOn_10 0 rfl ?_
    refine ex_getR (b := ad 8) dX10_goesOn_11 fl_X10_24 hB.1.1 hB.1.2 (mb_8 hB).1 ?_
    refine ex_iload_n dX10_goesOn_14 1 rfl ?_
    refine ex_iald (j := i) dX10_goesOn_15 (mb_8 hB).2.1 (mb_8 hB).2.2.1 hx (Nat.lt_of_lt_of_eq (show i < 1500 by omega) (mb_8 hB).2.2.2.symm) (show i < 2 ^ 31 by omega) ?_
    refine ex_iload_n dX10_goesOn_16 2 rfl ?_
    refine ex_icmp_ne (tgt := 24) dX10_goesOn_17 (by decide) (fun c17 => ?_) (fun c17 => ?_)
    · refine ex_iconst (v := 0) dX10_goesOn_24 (by decide) ?_
      exact ex_bret rfl (by decide) dX10_goesOn_25 (ex_rt_e (by simp_all))
    · refine ex_iconst (v := 1) dX10_goesOn_20 (by decide) ?_
      refine ex_goto (tgt := 25) dX10_goesOn_21 (by decide) ?_
      exact ex_bret rfl (by decide) dX10_goesOn_25 (ex_rt_e (by simp_all))
/-- how many bonds go on in a line -/
def ln_go (l : li_T) : Nat := if l.2.2.2.2 = none then l.2.1 - l.1 + 1 else 0
theorem ln_go_le (l : li_T) (h : ln_ok l) : ln_go l ≤ 1000000000 := by
  unfold ln_go; have := h.1; have := h.2.1; split <;> omega
/-- what is added for a line is its own number -/
theorem ln_add {x y : Int32} {a b : Nat} (hx : x = nI b) (hy : y = nI a) (hab : a ≤ b) (hb : b < 2 ^ 31) : (x - y).toInt64 + 1 = lN (b - a + 1) := by
  rw [hx, hy, pk_sub hab, nI_l (by omega), lN_1]
set_option maxRecDepth 20000 in
set_option maxHeartbeats 2000000 in
theorem m_heldNow_l {g : gl_T} {S : hs_T} {n k m : Nat} {ad : Nat → Nat} {ls : List li_T} (hB : MB S m ad) (hM : ML S m ad ls) : ∀ t i acc, i ≤ ls.length → ls.length < i + t → acc = lN (su (fun j => ln_go (ln_at ls j)) i) →
    ex_W g 0 mX10_heldNow (ex_rt (some (.long (lN (su (fun j => ln_go (ln_at ls j)) ls.length)))) S n k) 4 [(3, .int (nI i)), (1, .long acc), (0, .ref m)] [] S n k := by
  have hl := hM.2.1
  intro t
  induction t with
  | zero => intro i acc h1 h2; exact absurd h2 (by omega)
  | succ t ih =>
    intro i acc hi1 hi2 hacc
    refine ex_iload_n dX10_heldNow_4 0 rfl ?_
    refine ex_aload_n dX10_heldNow_5 2 rfl ?_
    refine ex_getI dX10_heldNow_6 fl_X10_90 hB.1.1 hB.1.2 ?_
    refine ex_icmp_ge (tgt := 51) dX10_heldNow_9 (by decide) (fun c9 => ?_) (fun c9 => ?_)
    · have hil : i = ls.length := by have := (nI_leI (by omega) (by omega)).mp (hM.1 ▸ c9); omega
      refine ex_lload_n dX10_heldNow_51 1 rfl ?_
      exact ex_lrt rfl dX10_heldNow_52 (ex_rt_e (by rw [hacc, hil]))
    · have hil : i < ls.length := by
        rcases Nat.lt_or_ge i ls.length with q | q
        · exact q
        · exact absurd (by rw [hM.1]; exact nI_le q (by omega)) c9
      obtain ⟨hok, h6, h7, h8, h9, h10⟩ := hM.2.2 i hil
      refine ex_lload_n dX10_heldNow_12 1 rfl ?_
      refine ex_aload_n dX10_heldNow_13 2 rfl ?_
      refine ex_getR (b := ad 10) dX10_heldNow_14 fl_X10_30 hB.1.1 hB.1.2 (mb_10 hB).1 ?_
      refine ex_iload_n dX10_heldNow_17 0 rfl ?_
      refine ex_iald (j := i) dX10_heldNow_18 (mb_10 hB).2.1 (mb_10 hB).2.2.1 rfl (Nat.lt_of_lt_of_eq (show i < 1500 by omega) (mb_10 hB).2.2.2.symm) (show i < 2 ^ 31 by omega) ?_
      refine ex_iconst (v := (-1)) dX10_heldNow_19 (by decide) ?_
      refine ex_icmp_ne (tgt := 42) dX10_heldNow_20 (by decide) (fun c20 => ?_) (fun c20 => ?_)
      · refine ex_lconst (v := 0) dX10_heldNow_42 (by decide) ?_
        refine ex_ladd dX10_heldNow_43 ?_
        refine ex_lstore_n [(1, .long (acc + 0)), (3, .int (nI i)), (0, .ref m)] dX10_heldNow_44 (by decide) rfl ?_
        refine ex_iinc (v := nI (i + 1)) 1 [(3, .int (nI (i + 1))), (1, .long (acc + 0)), (0, .ref m)] dX10_heldNow_45 rfl (nI_1 i) (by decide) rfl ?_
        refine ex_goto (tgt := 4) dX10_heldNow_48 (by decide) ?_
        refine ih (i + 1) _ (by omega) (by omega) ?_
        rw [hacc]
        show lN _ + _ = lN (su _ i + ln_go _)
        rw [← lN_add]
        congr 1
        unfold ln_go
        rw [if_neg (fun z => c20 (h10.trans ((eN_m1 hok.2.2.2.2).mpr z)))]
        rfl
      · refine ex_aload_n dX10_heldNow_23 2 rfl ?_
        refine ex_getR (b := ad 7) dX10_heldNow_24 fl_X10_21 hB.1.1 hB.1.2 (mb_7 hB).1 ?_
        refine ex_iload_n dX10_heldNow_27 0 rfl ?_
        refine ex_iald (j := i) dX10_heldNow_28 (mb_7 hB).2.1 (mb_7 hB).2.2.1 rfl (Nat.lt_of_lt_of_eq (show i < 1500 by omega) (mb_7 hB).2.2.2.symm) (show i < 2 ^ 31 by omega) ?_
        refine ex_aload_n dX10_heldNow_29 2 rfl ?_
        refine ex_getR (b := ad 6) dX10_heldNow_30 fl_X10_17 hB.1.1 hB.1.2 (mb_6 hB).1 ?_
        refine ex_iload_n dX10_heldNow_33 0 rfl ?_
        refine ex_iald (j := i) dX10_heldNow_34 (mb_6 hB).2.1 (mb_6 hB).2.2.1 rfl (Nat.lt_of_lt_of_eq (show i < 1500 by omega) (mb_6 hB).2.2.2.symm) (show i < 2 ^ 31 by omega) ?_
        refine ex_isub dX10_heldNow_35 ?_
        refine ex_i2l dX10_heldNow_36 ?_
        refine ex_lconst (v := 1) dX10_heldNow_37 (by decide) ?_
        refine ex_ladd dX10_heldNow_38 ?_
        refine ex_goto (tgt := 43) dX10_heldNow_39 (by decide) ?_
        refine ex_ladd dX10_heldNow_43 ?_
        refine ex_lstore_n [(1, .long (acc + ((((hs_I S (ad 7) i) - (hs_I S (ad 6) i)).toInt64) + 1))), (3, .int (nI i)), (0, .ref m)] dX10_heldNow_44 (by decide) rfl ?_
        refine ex_iinc (v := nI (i + 1)) 1 [(3, .int (nI (i + 1))), (1, .long (acc + ((((hs_I S (ad 7) i) - (hs_I S (ad 6) i)).toInt64) + 1))), (0, .ref m)] dX10_heldNow_45 rfl (nI_1 i) (by decide) rfl ?_
        refine ex_goto (tgt := 4) dX10_heldNow_48 (by decide) ?_
        refine ih (i + 1) _ (by omega) (by omega) ?_
        rw [hacc]
        show lN _ + _ = lN (su _ i + ln_go _)
        rw [← lN_add]
        congr 1
        rw [ln_add h7 h6 hok.1 (by have := hok.2.1; omega)]
        unfold ln_go
        rw [if_pos ((eN_m1 hok.2.2.2.2).mp (h10.symm.trans c20))]
set_option maxRecDepth 20000 in
set_option maxHeartbeats 2000000 in
theorem m_heldNow (g : gl_T) {S : hs_T} {n k : Nat} {m : Nat} {ad : Nat → Nat} (hB : MB S m ad) {ls : List li_T} (hM : ML S m ad ls) : ex_M g 0 mX10_heldNow [.ref m] S n k (ex_rt (some (.long (lN (su (fun j => ln_go (ln_at ls j)) ls.length)))) S n k) := by
  refine ex_enter (by decide +kernel) (Nat.le_of_ble_eq_true rfl) ?_
  show ex_W _ _ _ _ 0 [(0, .ref m)] [] _ _ _
  refine ex_lconst (v := 0) dX10_heldNow_0 (by decide) ?_
  refine ex_lstore_n [(1, .long 0), (0, .ref m)] dX10_heldNow_1 (by decide) rfl ?_
  refine ex_iconst (v := 0) dX10_heldNow_2 (by decide) ?_
  refine ex_istore_n [(3, .int 0), (1, .long 0), (0, .ref m)] dX10_heldNow_3 (by decide) rfl ?_
  exact m_heldNow_l hB hM (ls.length + 1) 0 _ (by omega) (by omega) rfl
/-- how many of a to b a line of h that goes on has -/
def ln_ov (h a b : Nat) (l : li_T) : Nat := if l.2.2.2.2 = none ∧ l.2.2.1 = h then (if max l.1 a ≤ min l.2.1 b then min l.2.1 b - max l.1 a + 1 else 0) else 0
theorem ln_ov_le (h a b : Nat) (l : li_T) (hl : ln_ok l) : ln_ov h a b l ≤ 1000000000 := by
  unfold ln_ov; have := hl.1; have := hl.2.1; split
  · split <;> omega
  · omega
/-- fewer locals are known -/
theorem ex_lv {g : gl_T} {d : Nat} {M : mt_T} {Po : ex_R} {pc : Nat} {lv lv' : List (Nat × Value)} {st : List Value} {S : hs_T} {n k : Nat} (ks : List Nat) (hl : lv_pick lv ks = lv') (kk : ex_W g d M Po pc lv' st S n k) : ex_W g d M Po pc lv st S n k := by
  intro p e R s m args below meth c H locs ls cells slots n0 k0 C hl2 hW hS hn hk hN hK
  exact kk p e R s m args below meth c H locs ls cells slots n0 k0 C (lv_sub hl2 ks hl) hW hS hn hk hN hK
set_option maxRecDepth 20000 in
set_option maxHeartbeats 2000000 in
theorem m_hasOf_l {g : gl_T} {S : hs_T} {n k m : Nat} {ad : Nat → Nat} {ls : List li_T} (hB : MB S m ad) (hM : ML S m ad ls) {h0 a0 b0 : Nat} {xh xa xb : Int32} (hxh : xh = nI h0) (hxa : xa = nI a0) (hxb : xb = nI b0) (hh0 : h0 < 2 ^ 31) (ha0 : a0 < 2 ^ 31) (hb0 : b0 < 2 ^ 31) : ∀ t i acc, i ≤ ls.length → ls.length < i + t → acc = lN (su (fun j => ln_ov h0 a0 b0 (ln_at ls j)) i) →
    ex_W g 1 mX10_hasOf (ex_rt (some (.long (lN (su (fun j => ln_ov h0 a0 b0 (ln_at ls j)) ls.length)))) S n k) 6 ([(6, .int (nI i)), (4, .long acc), (0, .ref m), (1, .int xh), (2, .int xa), (3, .int xb)]) [] S n k := by
  have hl := hM.2.1
  intro t
  induction t with
  | zero => intro i acc h1 h2; exact absurd h2 (by omega)
  | succ t ih =>
    intro i acc hi1 hi2 hacc
    refine ex_iload dX10_hasOf_6 0 rfl ?_
    refine ex_aload_n dX10_hasOf_8 2 rfl ?_
    refine ex_getI dX10_hasOf_9 fl_X10_90 hB.1.1 hB.1.2 ?_
    refine ex_icmp_ge (tgt := 106) dX10_hasOf_12 (by decide) (fun c12 => ?_) (fun c12 => ?_)
    · have hil : i = ls.length := by have := (nI_leI (by omega) (by omega)).mp (hM.1 ▸ c12); omega
      refine ex_lload dX10_hasOf_106 1 rfl ?_
      exact ex_lrt rfl dX10_hasOf_108 (ex_rt_e (by rw [hacc, hil]))
    · have hil : i < ls.length := by
        rcases Nat.lt_or_ge i ls.length with q | q
        · exact q
        · exact absurd (by rw [hM.1]; exact nI_le q (by omega)) c12
      obtain ⟨hok, h6, h7, h8, h9, h10⟩ := hM.2.2 i hil
      have hq1 := hok.1
      have hq2 := hok.2.1
      have e6 : (nI (ln_at ls i).1).toInt = ((ln_at ls i).1 : Int) := nI_toInt (by omega)
      have e7 : (nI (ln_at ls i).2.1).toInt = ((ln_at ls i).2.1 : Int) := nI_toInt (by omega)
      have ea : (nI a0).toInt = (a0 : Int) := nI_toInt ha0
      have eb : (nI b0).toInt = (b0 : Int) := nI_toInt hb0
      refine ex_aload_n dX10_hasOf_15 2 rfl ?_
      refine ex_iload dX10_hasOf_16 0 rfl ?_
      refine ex_iload_n dX10_hasOf_18 3 rfl ?_
      refine ex_cVr [.int (nI i), .int xh] [] dX10_hasOf_19 cV_X10_109 (m_goesOn g hB rfl (by omega)) hB.1.1 hB.1.2 rfl rfl rfl (by decide) (Nat.le_of_ble_eq_true rfl) rfl ?_
      refine ex_if_ne (tgt := 28) dX10_hasOf_22 (by decide) (fun c22 => ?_) (fun c22 => ?_)
      · refine ex_aload_n dX10_hasOf_28 2 rfl ?_
        refine ex_getR (b := ad 6) dX10_hasOf_29 fl_X10_17 hB.1.1 hB.1.2 (mb_6 hB).1 ?_
        refine ex_iload dX10_hasOf_32 0 rfl ?_
        refine ex_iald (j := i) dX10_hasOf_34 (mb_6 hB).2.1 (mb_6 hB).2.2.1 rfl (Nat.lt_of_lt_of_eq (show i < 1500 by omega) (mb_6 hB).2.2.2.symm) (show i < 2 ^ 31 by omega) ?_
        refine ex_iload_n dX10_hasOf_35 4 rfl ?_
        refine ex_icmp_le (tgt := 49) dX10_hasOf_36 (by decide) (fun c36 => ?_) (fun c36 => ?_)
        · refine ex_iload_n dX10_hasOf_49 4 rfl ?_
          refine ex_istore [(7, .int xa), (6, .int (nI i)), (4, .long acc), (0, .ref m), (1, .int xh), (2, .int xa), (3, .int xb)] dX10_hasOf_50 (by decide) rfl ?_
          refine ex_aload_n dX10_hasOf_52 3 rfl ?_
          refine ex_getR (b := ad 7) dX10_hasOf_53 fl_X10_21 hB.1.1 hB.1.2 (mb_7 hB).1 ?_
          refine ex_iload dX10_hasOf_56 1 rfl ?_
          refine ex_iald (j := i) dX10_hasOf_58 (mb_7 hB).2.1 (mb_7 hB).2.2.1 rfl (Nat.lt_of_lt_of_eq (show i < 1500 by omega) (mb_7 hB).2.2.2.symm) (show i < 2 ^ 31 by omega) ?_
          refine ex_iload_n dX10_hasOf_59 6 rfl ?_
          refine ex_icmp_ge (tgt := 73) dX10_hasOf_60 (by decide) (fun c60 => ?_) (fun c60 => ?_)
          · refine ex_iload_n dX10_hasOf_73 6 rfl ?_
            refine ex_istore [(8, .int xb), (7, .int xa), (6, .int (nI i)), (4, .long acc), (0, .ref m), (1, .int xh), (2, .int xa), (3, .int xb)] dX10_hasOf_74 (by decide) rfl ?_
            refine ex_lload dX10_hasOf_76 3 rfl ?_
            refine ex_iload dX10_hasOf_78 1 rfl ?_
            refine ex_iload dX10_hasOf_80 0 rfl ?_
            refine ex_icmp_gt (tgt := 96) dX10_hasOf_82 (by decide) (fun c82 => ?_) (fun c82 => ?_)
            · refine ex_lconst (v := 0) dX10_hasOf_96 (by decide) ?_
              refine ex_ladd dX10_hasOf_97 ?_
              refine ex_lstore [(4, .long (acc + 0)), (8, .int xb), (7, .int xa), (6, .int (nI i)), (0, .ref m), (1, .int xh), (2, .int xa), (3, .int xb)] dX10_hasOf_98 (by decide) rfl ?_
              refine ex_iinc (v := nI (i + 1)) 3 [(6, .int (nI (i + 1))), (4, .long (acc + 0)), (8, .int xb), (7, .int xa), (0, .ref m), (1, .int xh), (2, .int xa), (3, .int xb)] dX10_hasOf_100 rfl (nI_1 i) (by decide) rfl ?_
              refine ex_goto (tgt := 6) dX10_hasOf_103 (by decide) ?_
              refine ex_lv [0, 1, 4, 5, 6, 7] rfl ?_
              refine ih (i + 1) _ (by omega) (by omega) ?_
              rw [hacc]
              show lN _ + _ = lN (su _ i + ln_ov _ _ _ _)
              rw [← lN_add]
              congr 1
              have hgo : (ln_at ls i).2.2.2.2 = none ∧ (ln_at ls i).2.2.1 = h0 := by
                by_cases z : hs_I S (ad 10) i = -1 ∧ hs_I S (ad 8) i = xh
                · exact ⟨(eN_m1 hok.2.2.2.2).mp (h10.symm.trans z.1), (nI_eq (by have := hok.2.2.1; omega) hh0).mp (h8.symm.trans (z.2.trans hxh))⟩
                · rw [if_neg z] at c22; exact absurd rfl c22
              simp only [i_le, i_lt, h6, h7, hxa, hxb, e6, e7, ea, eb] at c36 c60 c82
              unfold ln_ov
              rw [if_pos hgo, if_neg (by omega)]
              rfl
            · refine ex_iload dX10_hasOf_85 0 rfl ?_
              refine ex_iload dX10_hasOf_87 1 rfl ?_
              refine ex_isub dX10_hasOf_89 ?_
              refine ex_i2l dX10_hasOf_90 ?_
              refine ex_lconst (v := 1) dX10_hasOf_91 (by decide) ?_
              refine ex_ladd dX10_hasOf_92 ?_
              refine ex_goto (tgt := 97) dX10_hasOf_93 (by decide) ?_
              refine ex_ladd dX10_hasOf_97 ?_
              refine ex_lstore [(4, .long (acc + (((xb - xa).toInt64) + 1))), (8, .int xb), (7, .int xa), (6, .int (nI i)), (0, .ref m), (1, .int xh), (2, .int xa), (3, .int xb)] dX10_hasOf_98 (by decide) rfl ?_
              refine ex_iinc (v := nI (i + 1)) 3 [(6, .int (nI (i + 1))), (4, .long (acc + (((xb - xa).toInt64) + 1))), (8, .int xb), (7, .int xa), (0, .ref m), (1, .int xh), (2, .int xa), (3, .int xb)] dX10_hasOf_100 rfl (nI_1 i) (by decide) rfl ?_
              refine ex_goto (tgt := 6) dX10_hasOf_103 (by decide) ?_
              refine ex_lv [0, 1, 4, 5, 6, 7] rfl ?_
              refine ih (i + 1) _ (by omega) (by omega) ?_
              rw [hacc]
              show lN _ + _ = lN (su _ i + ln_ov _ _ _ _)
              rw [← lN_add]
              congr 1
              have hgo : (ln_at ls i).2.2.2.2 = none ∧ (ln_at ls i).2.2.1 = h0 := by
                by_cases z : hs_I S (ad 10) i = -1 ∧ hs_I S (ad 8) i = xh
                · exact ⟨(eN_m1 hok.2.2.2.2).mp (h10.symm.trans z.1), (nI_eq (by have := hok.2.2.1; omega) hh0).mp (h8.symm.trans (z.2.trans hxh))⟩
                · rw [if_neg z] at c22; exact absurd rfl c22
              simp only [i_le, i_lt, h6, h7, hxa, hxb, e6, e7, ea, eb] at c36 c60 c82
              rw [ln_add hxb hxa (by omega) (by omega)]
              congr 1
              unfold ln_ov
              rw [if_pos hgo, if_pos (by omega)]
              omega
          · refine ex_aload_n dX10_hasOf_63 3 rfl ?_
            refine ex_getR (b := ad 7) dX10_hasOf_64 fl_X10_21 hB.1.1 hB.1.2 (mb_7 hB).1 ?_
            refine ex_iload dX10_hasOf_67 1 rfl ?_
            refine ex_iald (j := i) dX10_hasOf_69 (mb_7 hB).2.1 (mb_7 hB).2.2.1 rfl (Nat.lt_of_lt_of_eq (show i < 1500 by omega) (mb_7 hB).2.2.2.symm) (show i < 2 ^ 31 by omega) ?_
            refine ex_goto (tgt := 74) dX10_hasOf_70 (by decide) ?_
            refine ex_istore [(8, .int (hs_I S (ad 7) i)), (7, .int xa), (6, .int (nI i)), (4, .long acc), (0, .ref m), (1, .int xh), (2, .int xa), (3, .int xb)] dX10_hasOf_74 (by decide) rfl ?_
            refine ex_lload dX10_hasOf_76 3 rfl ?_
            refine ex_iload dX10_hasOf_78 1 rfl ?_
            refine ex_iload dX10_hasOf_80 0 rfl ?_
            refine ex_icmp_gt (tgt := 96) dX10_hasOf_82 (by decide) (fun c82 => ?_) (fun c82 => ?_)
            · refine ex_lconst (v := 0) dX10_hasOf_96 (by decide) ?_
              refine ex_ladd dX10_hasOf_97 ?_
              refine ex_lstore [(4, .long (acc + 0)), (8, .int (hs_I S (ad 7) i)), (7, .int xa), (6, .int (nI i)), (0, .ref m), (1, .int xh), (2, .int xa), (3, .int xb)] dX10_hasOf_98 (by decide) rfl ?_
              refine ex_iinc (v := nI (i + 1)) 3 [(6, .int (nI (i + 1))), (4, .long (acc + 0)), (8, .int (hs_I S (ad 7) i)), (7, .int xa), (0, .ref m), (1, .int xh), (2, .int xa), (3, .int xb)] dX10_hasOf_100 rfl (nI_1 i) (by decide) rfl ?_
              refine ex_goto (tgt := 6) dX10_hasOf_103 (by decide) ?_
              refine ex_lv [0, 1, 4, 5, 6, 7] rfl ?_
              refine ih (i + 1) _ (by omega) (by omega) ?_
              rw [hacc]
              show lN _ + _ = lN (su _ i + ln_ov _ _ _ _)
              rw [← lN_add]
              congr 1
              have hgo : (ln_at ls i).2.2.2.2 = none ∧ (ln_at ls i).2.2.1 = h0 := by
                by_cases z : hs_I S (ad 10) i = -1 ∧ hs_I S (ad 8) i = xh
                · exact ⟨(eN_m1 hok.2.2.2.2).mp (h10.symm.trans z.1), (nI_eq (by have := hok.2.2.1; omega) hh0).mp (h8.symm.trans (z.2.trans hxh))⟩
                · rw [if_neg z] at c22; exact absurd rfl c22
              simp only [i_le, i_lt, h6, h7, hxa, hxb, e6, e7, ea, eb] at c36 c60 c82
              unfold ln_ov
              rw [if_pos hgo, if_neg (by omega)]
              rfl
            · refine ex_iload dX10_hasOf_85 0 rfl ?_
              refine ex_iload dX10_hasOf_87 1 rfl ?_
              refine ex_isub dX10_hasOf_89 ?_
              refine ex_i2l dX10_hasOf_90 ?_
              refine ex_lconst (v := 1) dX10_hasOf_91 (by decide) ?_
              refine ex_ladd dX10_hasOf_92 ?_
              refine ex_goto (tgt := 97) dX10_hasOf_93 (by decide) ?_
              refine ex_ladd dX10_hasOf_97 ?_
              refine ex_lstore [(4, .long (acc + ((((hs_I S (ad 7) i) - xa).toInt64) + 1))), (8, .int (hs_I S (ad 7) i)), (7, .int xa), (6, .int (nI i)), (0, .ref m), (1, .int xh), (2, .int xa), (3, .int xb)] dX10_hasOf_98 (by decide) rfl ?_
              refine ex_iinc (v := nI (i + 1)) 3 [(6, .int (nI (i + 1))), (4, .long (acc + ((((hs_I S (ad 7) i) - xa).toInt64) + 1))), (8, .int (hs_I S (ad 7) i)), (7, .int xa), (0, .ref m), (1, .int xh), (2, .int xa), (3, .int xb)] dX10_hasOf_100 rfl (nI_1 i) (by decide) rfl ?_
              refine ex_goto (tgt := 6) dX10_hasOf_103 (by decide) ?_
              refine ex_lv [0, 1, 4, 5, 6, 7] rfl ?_
              refine ih (i + 1) _ (by omega) (by omega) ?_
              rw [hacc]
              show lN _ + _ = lN (su _ i + ln_ov _ _ _ _)
              rw [← lN_add]
              congr 1
              have hgo : (ln_at ls i).2.2.2.2 = none ∧ (ln_at ls i).2.2.1 = h0 := by
                by_cases z : hs_I S (ad 10) i = -1 ∧ hs_I S (ad 8) i = xh
                · exact ⟨(eN_m1 hok.2.2.2.2).mp (h10.symm.trans z.1), (nI_eq (by have := hok.2.2.1; omega) hh0).mp (h8.symm.trans (z.2.trans hxh))⟩
                · rw [if_neg z] at c22; exact absurd rfl c22
              simp only [i_le, i_lt, h6, h7, hxa, hxb, e6, e7, ea, eb] at c36 c60 c82
              rw [ln_add h7 hxa (by omega) (by omega)]
              congr 1
              unfold ln_ov
              rw [if_pos hgo, if_pos (by omega)]
              omega
        · refine ex_aload_n dX10_hasOf_39 2 rfl ?_
          refine ex_getR (b := ad 6) dX10_hasOf_40 fl_X10_17 hB.1.1 hB.1.2 (mb_6 hB).1 ?_
          refine ex_iload dX10_hasOf_43 0 rfl ?_
          refine ex_iald (j := i) dX10_hasOf_45 (mb_6 hB).2.1 (mb_6 hB).2.2.1 rfl (Nat.lt_of_lt_of_eq (show i < 1500 by omega) (mb_6 hB).2.2.2.symm) (show i < 2 ^ 31 by omega) ?_
          refine ex_goto (tgt := 50) dX10_hasOf_46 (by decide) ?_
          refine ex_istore [(7, .int (hs_I S (ad 6) i)), (6, .int (nI i)), (4, .long acc), (0, .ref m), (1, .int xh), (2, .int xa), (3, .int xb)] dX10_hasOf_50 (by decide) rfl ?_
          refine ex_aload_n dX10_hasOf_52 3 rfl ?_
          refine ex_getR (b := ad 7) dX10_hasOf_53 fl_X10_21 hB.1.1 hB.1.2 (mb_7 hB).1 ?_
          refine ex_iload dX10_hasOf_56 1 rfl ?_
          refine ex_iald (j := i) dX10_hasOf_58 (mb_7 hB).2.1 (mb_7 hB).2.2.1 rfl (Nat.lt_of_lt_of_eq (show i < 1500 by omega) (mb_7 hB).2.2.2.symm) (show i < 2 ^ 31 by omega) ?_
          refine ex_iload_n dX10_hasOf_59 6 rfl ?_
          refine ex_icmp_ge (tgt := 73) dX10_hasOf_60 (by decide) (fun c60 => ?_) (fun c60 => ?_)
          · refine ex_iload_n dX10_hasOf_73 6 rfl ?_
            refine ex_istore [(8, .int xb), (7, .int (hs_I S (ad 6) i)), (6, .int (nI i)), (4, .long acc), (0, .ref m), (1, .int xh), (2, .int xa), (3, .int xb)] dX10_hasOf_74 (by decide) rfl ?_
            refine ex_lload dX10_hasOf_76 3 rfl ?_
            refine ex_iload dX10_hasOf_78 1 rfl ?_
            refine ex_iload dX10_hasOf_80 0 rfl ?_
            refine ex_icmp_gt (tgt := 96) dX10_hasOf_82 (by decide) (fun c82 => ?_) (fun c82 => ?_)
            · refine ex_lconst (v := 0) dX10_hasOf_96 (by decide) ?_
              refine ex_ladd dX10_hasOf_97 ?_
              refine ex_lstore [(4, .long (acc + 0)), (8, .int xb), (7, .int (hs_I S (ad 6) i)), (6, .int (nI i)), (0, .ref m), (1, .int xh), (2, .int xa), (3, .int xb)] dX10_hasOf_98 (by decide) rfl ?_
              refine ex_iinc (v := nI (i + 1)) 3 [(6, .int (nI (i + 1))), (4, .long (acc + 0)), (8, .int xb), (7, .int (hs_I S (ad 6) i)), (0, .ref m), (1, .int xh), (2, .int xa), (3, .int xb)] dX10_hasOf_100 rfl (nI_1 i) (by decide) rfl ?_
              refine ex_goto (tgt := 6) dX10_hasOf_103 (by decide) ?_
              refine ex_lv [0, 1, 4, 5, 6, 7] rfl ?_
              refine ih (i + 1) _ (by omega) (by omega) ?_
              rw [hacc]
              show lN _ + _ = lN (su _ i + ln_ov _ _ _ _)
              rw [← lN_add]
              congr 1
              have hgo : (ln_at ls i).2.2.2.2 = none ∧ (ln_at ls i).2.2.1 = h0 := by
                by_cases z : hs_I S (ad 10) i = -1 ∧ hs_I S (ad 8) i = xh
                · exact ⟨(eN_m1 hok.2.2.2.2).mp (h10.symm.trans z.1), (nI_eq (by have := hok.2.2.1; omega) hh0).mp (h8.symm.trans (z.2.trans hxh))⟩
                · rw [if_neg z] at c22; exact absurd rfl c22
              simp only [i_le, i_lt, h6, h7, hxa, hxb, e6, e7, ea, eb] at c36 c60 c82
              unfold ln_ov
              rw [if_pos hgo, if_neg (by omega)]
              rfl
            · refine ex_iload dX10_hasOf_85 0 rfl ?_
              refine ex_iload dX10_hasOf_87 1 rfl ?_
              refine ex_isub dX10_hasOf_89 ?_
              refine ex_i2l dX10_hasOf_90 ?_
              refine ex_lconst (v := 1) dX10_hasOf_91 (by decide) ?_
              refine ex_ladd dX10_hasOf_92 ?_
              refine ex_goto (tgt := 97) dX10_hasOf_93 (by decide) ?_
              refine ex_ladd dX10_hasOf_97 ?_
              refine ex_lstore [(4, .long (acc + (((xb - (hs_I S (ad 6) i)).toInt64) + 1))), (8, .int xb), (7, .int (hs_I S (ad 6) i)), (6, .int (nI i)), (0, .ref m), (1, .int xh), (2, .int xa), (3, .int xb)] dX10_hasOf_98 (by decide) rfl ?_
              refine ex_iinc (v := nI (i + 1)) 3 [(6, .int (nI (i + 1))), (4, .long (acc + (((xb - (hs_I S (ad 6) i)).toInt64) + 1))), (8, .int xb), (7, .int (hs_I S (ad 6) i)), (0, .ref m), (1, .int xh), (2, .int xa), (3, .int xb)] dX10_hasOf_100 rfl (nI_1 i) (by decide) rfl ?_
              refine ex_goto (tgt := 6) dX10_hasOf_103 (by decide) ?_
              refine ex_lv [0, 1, 4, 5, 6, 7] rfl ?_
              refine ih (i + 1) _ (by omega) (by omega) ?_
              rw [hacc]
              show lN _ + _ = lN (su _ i + ln_ov _ _ _ _)
              rw [← lN_add]
              congr 1
              have hgo : (ln_at ls i).2.2.2.2 = none ∧ (ln_at ls i).2.2.1 = h0 := by
                by_cases z : hs_I S (ad 10) i = -1 ∧ hs_I S (ad 8) i = xh
                · exact ⟨(eN_m1 hok.2.2.2.2).mp (h10.symm.trans z.1), (nI_eq (by have := hok.2.2.1; omega) hh0).mp (h8.symm.trans (z.2.trans hxh))⟩
                · rw [if_neg z] at c22; exact absurd rfl c22
              simp only [i_le, i_lt, h6, h7, hxa, hxb, e6, e7, ea, eb] at c36 c60 c82
              rw [ln_add hxb h6 (by omega) (by omega)]
              congr 1
              unfold ln_ov
              rw [if_pos hgo, if_pos (by omega)]
              omega
          · refine ex_aload_n dX10_hasOf_63 3 rfl ?_
            refine ex_getR (b := ad 7) dX10_hasOf_64 fl_X10_21 hB.1.1 hB.1.2 (mb_7 hB).1 ?_
            refine ex_iload dX10_hasOf_67 1 rfl ?_
            refine ex_iald (j := i) dX10_hasOf_69 (mb_7 hB).2.1 (mb_7 hB).2.2.1 rfl (Nat.lt_of_lt_of_eq (show i < 1500 by omega) (mb_7 hB).2.2.2.symm) (show i < 2 ^ 31 by omega) ?_
            refine ex_goto (tgt := 74) dX10_hasOf_70 (by decide) ?_
            refine ex_istore [(8, .int (hs_I S (ad 7) i)), (7, .int (hs_I S (ad 6) i)), (6, .int (nI i)), (4, .long acc), (0, .ref m), (1, .int xh), (2, .int xa), (3, .int xb)] dX10_hasOf_74 (by decide) rfl ?_
            refine ex_lload dX10_hasOf_76 3 rfl ?_
            refine ex_iload dX10_hasOf_78 1 rfl ?_
            refine ex_iload dX10_hasOf_80 0 rfl ?_
            refine ex_icmp_gt (tgt := 96) dX10_hasOf_82 (by decide) (fun c82 => ?_) (fun c82 => ?_)
            · refine ex_lconst (v := 0) dX10_hasOf_96 (by decide) ?_
              refine ex_ladd dX10_hasOf_97 ?_
              refine ex_lstore [(4, .long (acc + 0)), (8, .int (hs_I S (ad 7) i)), (7, .int (hs_I S (ad 6) i)), (6, .int (nI i)), (0, .ref m), (1, .int xh), (2, .int xa), (3, .int xb)] dX10_hasOf_98 (by decide) rfl ?_
              refine ex_iinc (v := nI (i + 1)) 3 [(6, .int (nI (i + 1))), (4, .long (acc + 0)), (8, .int (hs_I S (ad 7) i)), (7, .int (hs_I S (ad 6) i)), (0, .ref m), (1, .int xh), (2, .int xa), (3, .int xb)] dX10_hasOf_100 rfl (nI_1 i) (by decide) rfl ?_
              refine ex_goto (tgt := 6) dX10_hasOf_103 (by decide) ?_
              refine ex_lv [0, 1, 4, 5, 6, 7] rfl ?_
              refine ih (i + 1) _ (by omega) (by omega) ?_
              rw [hacc]
              show lN _ + _ = lN (su _ i + ln_ov _ _ _ _)
              rw [← lN_add]
              congr 1
              have hgo : (ln_at ls i).2.2.2.2 = none ∧ (ln_at ls i).2.2.1 = h0 := by
                by_cases z : hs_I S (ad 10) i = -1 ∧ hs_I S (ad 8) i = xh
                · exact ⟨(eN_m1 hok.2.2.2.2).mp (h10.symm.trans z.1), (nI_eq (by have := hok.2.2.1; omega) hh0).mp (h8.symm.trans (z.2.trans hxh))⟩
                · rw [if_neg z] at c22; exact absurd rfl c22
              simp only [i_le, i_lt, h6, h7, hxa, hxb, e6, e7, ea, eb] at c36 c60 c82
              unfold ln_ov
              rw [if_pos hgo, if_neg (by omega)]
              rfl
            · refine ex_iload dX10_hasOf_85 0 rfl ?_
              refine ex_iload dX10_hasOf_87 1 rfl ?_
              refine ex_isub dX10_hasOf_89 ?_
              refine ex_i2l dX10_hasOf_90 ?_
              refine ex_lconst (v := 1) dX10_hasOf_91 (by decide) ?_
              refine ex_ladd dX10_hasOf_92 ?_
              refine ex_goto (tgt := 97) dX10_hasOf_93 (by decide) ?_
              refine ex_ladd dX10_hasOf_97 ?_
              refine ex_lstore [(4, .long (acc + ((((hs_I S (ad 7) i) - (hs_I S (ad 6) i)).toInt64) + 1))), (8, .int (hs_I S (ad 7) i)), (7, .int (hs_I S (ad 6) i)), (6, .int (nI i)), (0, .ref m), (1, .int xh), (2, .int xa), (3, .int xb)] dX10_hasOf_98 (by decide) rfl ?_
              refine ex_iinc (v := nI (i + 1)) 3 [(6, .int (nI (i + 1))), (4, .long (acc + ((((hs_I S (ad 7) i) - (hs_I S (ad 6) i)).toInt64) + 1))), (8, .int (hs_I S (ad 7) i)), (7, .int (hs_I S (ad 6) i)), (0, .ref m), (1, .int xh), (2, .int xa), (3, .int xb)] dX10_hasOf_100 rfl (nI_1 i) (by decide) rfl ?_
              refine ex_goto (tgt := 6) dX10_hasOf_103 (by decide) ?_
              refine ex_lv [0, 1, 4, 5, 6, 7] rfl ?_
              refine ih (i + 1) _ (by omega) (by omega) ?_
              rw [hacc]
              show lN _ + _ = lN (su _ i + ln_ov _ _ _ _)
              rw [← lN_add]
              congr 1
              have hgo : (ln_at ls i).2.2.2.2 = none ∧ (ln_at ls i).2.2.1 = h0 := by
                by_cases z : hs_I S (ad 10) i = -1 ∧ hs_I S (ad 8) i = xh
                · exact ⟨(eN_m1 hok.2.2.2.2).mp (h10.symm.trans z.1), (nI_eq (by have := hok.2.2.1; omega) hh0).mp (h8.symm.trans (z.2.trans hxh))⟩
                · rw [if_neg z] at c22; exact absurd rfl c22
              simp only [i_le, i_lt, h6, h7, hxa, hxb, e6, e7, ea, eb] at c36 c60 c82
              rw [ln_add h7 h6 (by omega) (by omega)]
              congr 1
              unfold ln_ov
              rw [if_pos hgo, if_pos (by omega)]
              omega
      · refine ex_goto (tgt := 100) dX10_hasOf_25 (by decide) ?_
        refine ex_iinc (v := nI (i + 1)) 0 [(6, .int (nI (i + 1))), (4, .long acc), (0, .ref m), (1, .int xh), (2, .int xa), (3, .int xb)] dX10_hasOf_100 rfl (nI_1 i) (by decide) rfl ?_
        refine ex_goto (tgt := 6) dX10_hasOf_103 (by decide) ?_
        refine ex_lv [0, 1, 2, 3, 4, 5] rfl ?_
        refine ih (i + 1) _ (by omega) (by omega) ?_
        rw [hacc]
        show lN _ = lN (su _ i + ln_ov _ _ _ _)
        have hz : ln_ov h0 a0 b0 (ln_at ls i) = 0 := by
          unfold ln_ov
          refine if_neg (fun z => ?_)
          rw [if_pos ⟨h10.trans ((eN_m1 hok.2.2.2.2).mpr z.1), by rw [h8, z.2, hxh]⟩] at c22
          exact absurd c22 (by decide)
        rw [hz]; rfl
set_option maxRecDepth 20000 in
set_option maxHeartbeats 2000000 in
theorem m_hasOf (g : gl_T) {S : hs_T} {n k : Nat} {m : Nat} {ad : Nat → Nat} (hB : MB S m ad) {ls : List li_T} (hM : ML S m ad ls) {h0 a0 b0 : Nat} {xh xa xb : Int32} (hxh : xh = nI h0) (hxa : xa = nI a0) (hxb : xb = nI b0) (hh0 : h0 < 2 ^ 31) (ha0 : a0 < 2 ^ 31) (hb0 : b0 < 2 ^ 31) : ex_M g 1 mX10_hasOf [.ref m, .int xh, .int xa, .int xb] S n k (ex_rt (some (.long (lN (su (fun j => ln_ov h0 a0 b0 (ln_at ls j)) ls.length)))) S n k) := by
  refine ex_enter (by decide +kernel) (Nat.le_of_ble_eq_true rfl) ?_
  show ex_W _ _ _ _ 0 [(0, .ref m), (1, .int xh), (2, .int xa), (3, .int xb)] [] _ _ _
  refine ex_lconst (v := 0) dX10_hasOf_0 (by decide) ?_
  refine ex_lstore [(4, .long 0), (0, .ref m), (1, .int xh), (2, .int xa), (3, .int xb)] dX10_hasOf_1 (by decide) rfl ?_
  refine ex_iconst (v := 0) dX10_hasOf_3 (by decide) ?_
  refine ex_istore [(6, .int 0), (4, .long 0), (0, .ref m), (1, .int xh), (2, .int xa), (3, .int xb)] dX10_hasOf_4 (by decide) rfl ?_
  exact m_hasOf_l hB hM hxh hxa hxb hh0 ha0 hb0 (ls.length + 1) 0 _ (by omega) (by omega) rfl
