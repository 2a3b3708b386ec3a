/-! orders of Int32 and Int64 by their values -/
theorem i_lt (a b : Int32) : a < b ↔ a.toInt < b.toInt := Int32.lt_iff_toInt_lt
theorem i_le (a b : Int32) : a ≤ b ↔ a.toInt ≤ b.toInt := Int32.le_iff_toInt_le
theorem i_eq (a b : Int32) : a = b ↔ a.toInt = b.toInt := Int32.toInt_inj.symm
theorem i_m1 : (-1 : Int32).toInt = -1 := by decide
theorem j_lt (a b : Int64) : a < b ↔ a.toInt < b.toInt := Int64.lt_iff_toInt_lt
theorem j_le (a b : Int64) : a ≤ b ↔ a.toInt ≤ b.toInt := Int64.le_iff_toInt_le
theorem j_eq (a b : Int64) : a = b ↔ a.toInt = b.toInt := Int64.toInt_inj.symm
set_option maxRecDepth 20000 in
theorem c_Line_size (g : gl_T) {S : hs_T} {n k : Nat} {a : Nat} (hL : a ∈ hs_L S) (hK : hs_K S a = 5) : ex_M g 0 mX5_size [.ref a] S n k (ex_rt (some (.int (hs_I S a 1 - hs_I S a 0 + 1))) S n k) := by
  refine ex_enter (by decide +kernel) (Nat.le_of_ble_eq_true rfl) ?_
  show ex_W _ _ _ _ 0 [(0, .ref a)] [] _ _ _
  refine ex_aload_n dX5_size_0 0 rfl ?_
  refine ex_getI dX5_size_1 fl_X5_18 (by assumption) (by assumption) ?_
  refine ex_aload_n dX5_size_4 0 rfl ?_
  refine ex_getI dX5_size_5 fl_X5_15 (by assumption) (by assumption) ?_
  refine ex_isub dX5_size_8 ?_
  refine ex_iconst (v := 1) dX5_size_9 (by decide) ?_
  refine ex_iadd dX5_size_10 ?_
  exact ex_irt rfl dX5_size_11 ex_rt_i
set_option maxRecDepth 20000 in
theorem c_Line_goesOn (g : gl_T) {S : hs_T} {n k : Nat} {a : Nat} (hL : a ∈ hs_L S) (hK : hs_K S a = 5) : ex_M g 0 mX5_goesOn [.ref a] S n k (ex_rt (some (.int (if hs_I S a 4 = -1 then 1 else 0))) S n k) := by
  refine ex_enter (by decide +kernel) (Nat.le_of_ble_eq_true rfl) ?_
  show ex_W _ _ _ _ 0 [(0, .ref a)] [] _ _ _
  refine ex_aload_n dX5_goesOn_0 0 rfl ?_
  refine ex_getI dX5_goesOn_1 fl_X5_9 (by assumption) (by assumption) ?_
  refine ex_iconst (v := (-1)) dX5_goesOn_4 (by decide) ?_
  refine ex_icmp_ne (tgt := 12) dX5_goesOn_5 (by decide) (fun c5 => ?_) (fun c5 => ?_)
  · refine ex_iconst (v := 0) dX5_goesOn_12 (by decide) ?_
    exact ex_bret rfl (by decide) dX5_goesOn_13 (by first | exact ex_rt_i | exact ex_rt_e (by split <;> first | rfl | (exfalso; simp only [i_lt, i_le, i_eq, i_m1, Int32.reduceToInt] at *; omega)))
  · refine ex_iconst (v := 1) dX5_goesOn_8 (by decide) ?_
    refine ex_goto (tgt := 13) dX5_goesOn_9 (by decide) ?_
    exact ex_bret rfl (by decide) dX5_goesOn_13 (by first | exact ex_rt_i | exact ex_rt_e (by split <;> first | rfl | (exfalso; simp only [i_lt, i_le, i_eq, i_m1, Int32.reduceToInt] at *; omega)))
set_option maxRecDepth 20000 in
theorem c_Line_isInForceOn (g : gl_T) {S : hs_T} {n k : Nat} {a : Nat} (hL : a ∈ hs_L S) (hK : hs_K S a = 5) {y : Int32} : ex_M g 0 mX5_isInForceOn [.ref a, .int y] S n k (ex_rt (some (.int (if hs_I S a 3 ≤ y ∧ (hs_I S a 4 = -1 ∨ y < hs_I S a 4) then 1 else 0))) S n k) := by
  refine ex_enter (by decide +kernel) (Nat.le_of_ble_eq_true rfl) ?_
  show ex_W _ _ _ _ 0 [(0, .ref a), (1, .int y)] [] _ _ _
  refine ex_aload_n dX5_isInForceOn_0 0 rfl ?_
  refine ex_getI dX5_isInForceOn_1 fl_X5_24 (by assumption) (by assumption) ?_
  refine ex_iload_n dX5_isInForceOn_4 1 rfl ?_
  refine ex_icmp_gt (tgt := 28) dX5_isInForceOn_5 (by decide) (fun c5 => ?_) (fun c5 => ?_)
  · refine ex_iconst (v := 0) dX5_isInForceOn_28 (by decide) ?_
    exact ex_bret rfl (by decide) dX5_isInForceOn_29 (by first | exact ex_rt_i | exact ex_rt_e (by split <;> first | rfl | (exfalso; simp only [i_lt, i_le, i_eq, i_m1, Int32.reduceToInt] at *; omega)))
  · refine ex_aload_n dX5_isInForceOn_8 0 rfl ?_
    refine ex_getI dX5_isInForceOn_9 fl_X5_9 (by assumption) (by assumption) ?_
    refine ex_iconst (v := (-1)) dX5_isInForceOn_12 (by decide) ?_
    refine ex_icmp_eq (tgt := 24) dX5_isInForceOn_13 (by decide) (fun c13 => ?_) (fun c13 => ?_)
    · refine ex_iconst (v := 1) dX5_isInForceOn_24 (by decide) ?_
      refine ex_goto (tgt := 29) dX5_isInForceOn_25 (by decide) ?_
      exact ex_bret rfl (by decide) dX5_isInForceOn_29 (by first | exact ex_rt_i | exact ex_rt_e (by split <;> first | rfl | (exfalso; simp only [i_lt, i_le, i_eq, i_m1, Int32.reduceToInt] at *; omega)))
    · refine ex_aload_n dX5_isInForceOn_16 0 rfl ?_
      refine ex_getI dX5_isInForceOn_17 fl_X5_9 (by assumption) (by assumption) ?_
      refine ex_iload_n dX5_isInForceOn_20 1 rfl ?_
      refine ex_icmp_le (tgt := 28) dX5_isInForceOn_21 (by decide) (fun c21 => ?_) (fun c21 => ?_)
      · refine ex_iconst (v := 0) dX5_isInForceOn_28 (by decide) ?_
        exact ex_bret rfl (by decide) dX5_isInForceOn_29 (by first | exact ex_rt_i | exact ex_rt_e (by split <;> first | rfl | (exfalso; simp only [i_lt, i_le, i_eq, i_m1, Int32.reduceToInt] at *; omega)))
      · refine ex_iconst (v := 1) dX5_isInForceOn_24 (by decide) ?_
        refine ex_goto (tgt := 29) dX5_isInForceOn_25 (by decide) ?_
        exact ex_bret rfl (by decide) dX5_isInForceOn_29 (by first | exact ex_rt_i | exact ex_rt_e (by split <;> first | rfl | (exfalso; simp only [i_lt, i_le, i_eq, i_m1, Int32.reduceToInt] at *; omega)))
set_option maxRecDepth 20000 in
theorem c_Line_contains (g : gl_T) {S : hs_T} {n k : Nat} {a : Nat} (hL : a ∈ hs_L S) (hK : hs_K S a = 5) {y : Int32} : ex_M g 0 mX5_contains [.ref a, .int y] S n k (ex_rt (some (.int (if hs_I S a 0 ≤ y ∧ y ≤ hs_I S a 1 then 1 else 0))) S n k) := by
  refine ex_enter (by decide +kernel) (Nat.le_of_ble_eq_true rfl) ?_
  show ex_W _ _ _ _ 0 [(0, .ref a), (1, .int y)] [] _ _ _
  refine ex_iload_n dX5_contains_0 1 rfl ?_
  refine ex_aload_n dX5_contains_1 0 rfl ?_
  refine ex_getI dX5_contains_2 fl_X5_15 (by assumption) (by assumption) ?_
  refine ex_icmp_lt (tgt := 20) dX5_contains_5 (by decide) (fun c5 => ?_) (fun c5 => ?_)
  · refine ex_iconst (v := 0) dX5_contains_20 (by decide) ?_
    exact ex_bret rfl (by decide) dX5_contains_21 (by first | exact ex_rt_i | exact ex_rt_e (by split <;> first | rfl | (exfalso; simp only [i_lt, i_le, i_eq, i_m1, Int32.reduceToInt] at *; omega)))
  · refine ex_iload_n dX5_contains_8 1 rfl ?_
    refine ex_aload_n dX5_contains_9 0 rfl ?_
    refine ex_getI dX5_contains_10 fl_X5_18 (by assumption) (by assumption) ?_
    refine ex_icmp_gt (tgt := 20) dX5_contains_13 (by decide) (fun c13 => ?_) (fun c13 => ?_)
    · refine ex_iconst (v := 0) dX5_contains_20 (by decide) ?_
      exact ex_bret rfl (by decide) dX5_contains_21 (by first | exact ex_rt_i | exact ex_rt_e (by split <;> first | rfl | (exfalso; simp only [i_lt, i_le, i_eq, i_m1, Int32.reduceToInt] at *; omega)))
    · refine ex_iconst (v := 1) dX5_contains_16 (by decide) ?_
      refine ex_goto (tgt := 21) dX5_contains_17 (by decide) ?_
      exact ex_bret rfl (by decide) dX5_contains_21 (by first | exact ex_rt_i | exact ex_rt_e (by split <;> first | rfl | (exfalso; simp only [i_lt, i_le, i_eq, i_m1, Int32.reduceToInt] at *; omega)))
/-- how many of x to y a span f to l has -/
def ln_common (f l x y : Int32) : Int32 := if (if f < x then x else f) ≤ (if y < l then y else l) then (if y < l then y else l) - (if f < x then x else f) + 1 else 0
set_option maxRecDepth 20000 in
theorem c_Line_common (g : gl_T) {S : hs_T} {n k : Nat} {a : Nat} (hL : a ∈ hs_L S) (hK : hs_K S a = 5) {x y : Int32} : ex_M g 1 mX5_common [.ref a, .int x, .int y] S n k (ex_rt (some (.int (ln_common (hs_I S a 0) (hs_I S a 1) x y))) S n k) := by
  refine ex_enter (by decide +kernel) (Nat.le_of_ble_eq_true rfl) ?_
  show ex_W _ _ _ _ 0 [(0, .ref a), (1, .int x), (2, .int y)] [] _ _ _
  refine ex_aload_n dX5_common_0 0 rfl ?_
  refine ex_getI dX5_common_1 fl_X5_15 (by assumption) (by assumption) ?_
  refine ex_iload_n dX5_common_4 1 rfl ?_
  refine ex_mmax dX5_common_5 ml_X5_27 mw_max (by decide) (by decide) ?_
  refine ex_istore_n [(3, .int ((if (hs_I S a 0) < x then x else hs_I S a 0))), (0, .ref a), (1, .int x), (2, .int y)] dX5_common_8 (by decide) rfl ?_
  refine ex_aload_n dX5_common_9 1 rfl ?_
  refine ex_getI dX5_common_10 fl_X5_18 (by assumption) (by assumption) ?_
  refine ex_iload_n dX5_common_13 3 rfl ?_
  refine ex_mmin dX5_common_14 ml_X5_33 mw_min (by decide) (by decide) ?_
  refine ex_istore [(4, .int ((if y < (hs_I S a 1) then y else hs_I S a 1))), (3, .int ((if (hs_I S a 0) < x then x else hs_I S a 0))), (0, .ref a), (1, .int x), (2, .int y)] dX5_common_17 (by decide) rfl ?_
  refine ex_iload_n dX5_common_19 1 rfl ?_
  refine ex_iload dX5_common_20 0 rfl ?_
  refine ex_icmp_le (tgt := 29) dX5_common_22 (by decide) (fun c22 => ?_) (fun c22 => ?_)
  · refine ex_iload dX5_common_29 0 rfl ?_
    refine ex_iload_n dX5_common_31 1 rfl ?_
    refine ex_isub dX5_common_32 ?_
    refine ex_iconst (v := 1) dX5_common_33 (by decide) ?_
    refine ex_iadd dX5_common_34 ?_
    exact ex_irt rfl dX5_common_35 (ex_rt_e (by unfold ln_common; first | rw [if_pos c22] | rw [if_neg c22]))
  · refine ex_iconst (v := 0) dX5_common_25 (by decide) ?_
    refine ex_goto (tgt := 35) dX5_common_26 (by decide) ?_
    exact ex_irt rfl dX5_common_35 (ex_rt_e (by unfold ln_common; first | rw [if_pos c22] | rw [if_neg c22]))
set_option maxRecDepth 20000 in
theorem c_Line_fact (g : gl_T) {S : hs_T} {n k : Nat} {a : Nat} (hL : a ∈ hs_L S) (hK : hs_K S a = 5) {y : Int32} : ex_M g 0 mX5_fact [.ref a, .int y] S n k (ex_rt (some (.int (if y = 0 then hs_I S a 0 else if y = 1 then hs_I S a 1 else if y = 2 then hs_I S a 2 else if y = 3 then hs_I S a 3 else hs_I S a 4))) S n k) := by
  refine ex_enter (by decide +kernel) (Nat.le_of_ble_eq_true rfl) ?_
  show ex_W _ _ _ _ 0 [(0, .ref a), (1, .int y)] [] _ _ _
  refine ex_iload_n dX5_fact_0 1 rfl ?_
  by_cases hx : y.toInt < 0 ∨ 3 < y.toInt
  · refine ex_tableOut (tgt := 52) dX5_fact_1 hx (by decide) ?_
    refine ex_aload_n dX5_fact_52 0 rfl ?_
    refine ex_getI dX5_fact_53 fl_X5_9 (by assumption) (by assumption) ?_
    exact ex_irt rfl dX5_fact_56 (ex_rt_e (by first | rfl | (simp [*]; done) | (repeat rw [if_neg (by intro h; subst h; simp at hx)])))
  · have h1 : ¬ y.toInt < 0 := fun h => hx (Or.inl h)
    have h2 : ¬ 3 < y.toInt := fun h => hx (Or.inr h)
    rcases (show y = 0 ∨ y = 1 ∨ y = 2 ∨ y = 3 by simp only [i_eq, Int32.reduceToInt]; omega) with rfl | rfl | rfl | rfl
    · refine ex_tableIn (tgt := 32) dX5_fact_1 h1 h2 rfl (by decide) ?_
      refine ex_aload_n dX5_fact_32 0 rfl ?_
      refine ex_getI dX5_fact_33 fl_X5_15 (by assumption) (by assumption) ?_
      exact ex_irt rfl dX5_fact_36 (ex_rt_e (by first | rfl | (simp [*]; done) | (repeat rw [if_neg (by intro h; subst h; simp at hx)])))
    · refine ex_tableIn (tgt := 37) dX5_fact_1 h1 h2 rfl (by decide) ?_
      refine ex_aload_n dX5_fact_37 0 rfl ?_
      refine ex_getI dX5_fact_38 fl_X5_18 (by assumption) (by assumption) ?_
      exact ex_irt rfl dX5_fact_41 (ex_rt_e (by first | rfl | (simp [*]; done) | (repeat rw [if_neg (by intro h; subst h; simp at hx)])))
    · refine ex_tableIn (tgt := 42) dX5_fact_1 h1 h2 rfl (by decide) ?_
      refine ex_aload_n dX5_fact_42 0 rfl ?_
      refine ex_getI dX5_fact_43 fl_X5_21 (by assumption) (by assumption) ?_
      exact ex_irt rfl dX5_fact_46 (ex_rt_e (by first | rfl | (simp [*]; done) | (repeat rw [if_neg (by intro h; subst h; simp at hx)])))
    · refine ex_tableIn (tgt := 47) dX5_fact_1 h1 h2 rfl (by decide) ?_
      refine ex_aload_n dX5_fact_47 0 rfl ?_
      refine ex_getI dX5_fact_48 fl_X5_24 (by assumption) (by assumption) ?_
      exact ex_irt rfl dX5_fact_51 (ex_rt_e (by first | rfl | (simp [*]; done) | (repeat rw [if_neg (by intro h; subst h; simp at hx)])))
set_option maxRecDepth 20000 in
theorem c_Win_fact (g : gl_T) {S : hs_T} {n k : Nat} {a : Nat} (hL : a ∈ hs_L S) (hK : hs_K S a = 8) {y : Int32} : ex_M g 0 mX8_fact [.ref a, .int y] S n k (ex_rt (some (.int (if y = 0 then hs_I S a 0 else if y = 1 then hs_I S a 2 else if y = 2 then hs_I S a 3 else if y = 3 then hs_I S a 4 else hs_I S a 5))) S n k) := by
  refine ex_enter (by decide +kernel) (Nat.le_of_ble_eq_true rfl) ?_
  show ex_W _ _ _ _ 0 [(0, .ref a), (1, .int y)] [] _ _ _
  refine ex_iload_n dX8_fact_0 1 rfl ?_
  by_cases hx : y.toInt < 0 ∨ 3 < y.toInt
  · refine ex_tableOut (tgt := 52) dX8_fact_1 hx (by decide) ?_
    refine ex_aload_n dX8_fact_52 0 rfl ?_
    refine ex_getI dX8_fact_53 fl_X8_9 (by assumption) (by assumption) ?_
    exact ex_irt rfl dX8_fact_56 (ex_rt_e (by first | rfl | (simp [*]; done) | (repeat rw [if_neg (by intro h; subst h; simp at hx)])))
  · have h1 : ¬ y.toInt < 0 := fun h => hx (Or.inl h)
    have h2 : ¬ 3 < y.toInt := fun h => hx (Or.inr h)
    rcases (show y = 0 ∨ y = 1 ∨ y = 2 ∨ y = 3 by simp only [i_eq, Int32.reduceToInt]; omega) with rfl | rfl | rfl | rfl
    · refine ex_tableIn (tgt := 32) dX8_fact_1 h1 h2 rfl (by decide) ?_
      refine ex_aload_n dX8_fact_32 0 rfl ?_
      refine ex_getI dX8_fact_33 fl_X8_15 (by assumption) (by assumption) ?_
      exact ex_irt rfl dX8_fact_36 (ex_rt_e (by first | rfl | (simp [*]; done) | (repeat rw [if_neg (by intro h; subst h; simp at hx)])))
    · refine ex_tableIn (tgt := 37) dX8_fact_1 h1 h2 rfl (by decide) ?_
      refine ex_aload_n dX8_fact_37 0 rfl ?_
      refine ex_getI dX8_fact_38 fl_X8_21 (by assumption) (by assumption) ?_
      exact ex_irt rfl dX8_fact_41 (ex_rt_e (by first | rfl | (simp [*]; done) | (repeat rw [if_neg (by intro h; subst h; simp at hx)])))
    · refine ex_tableIn (tgt := 42) dX8_fact_1 h1 h2 rfl (by decide) ?_
      refine ex_aload_n dX8_fact_42 0 rfl ?_
      refine ex_getI dX8_fact_43 fl_X8_24 (by assumption) (by assumption) ?_
      exact ex_irt rfl dX8_fact_46 (ex_rt_e (by first | rfl | (simp [*]; done) | (repeat rw [if_neg (by intro h; subst h; simp at hx)])))
    · refine ex_tableIn (tgt := 47) dX8_fact_1 h1 h2 rfl (by decide) ?_
      refine ex_aload_n dX8_fact_47 0 rfl ?_
      refine ex_getI dX8_fact_48 fl_X8_27 (by assumption) (by assumption) ?_
      exact ex_irt rfl dX8_fact_51 (ex_rt_e (by first | rfl | (simp [*]; done) | (repeat rw [if_neg (by intro h; subst h; simp at hx)])))
set_option maxRecDepth 20000 in
theorem c_Win_isTooOld (g : gl_T) {S : hs_T} {n k : Nat} {a : Nat} (hL : a ∈ hs_L S) (hK : hs_K S a = 8) {y : Int32} : ex_M g 0 mX8_isTooOld [.ref a, .int y] S n k (ex_rt (some (.int (if 500 < y - hs_I S a 1 then 1 else 0))) S n k) := by
  refine ex_enter (by decide +kernel) (Nat.le_of_ble_eq_true rfl) ?_
  show ex_W _ _ _ _ 0 [(0, .ref a), (1, .int y)] [] _ _ _
  refine ex_iload_n dX8_isTooOld_0 1 rfl ?_
  refine ex_aload_n dX8_isTooOld_1 0 rfl ?_
  refine ex_getI dX8_isTooOld_2 fl_X8_18 (by assumption) (by assumption) ?_
  refine ex_isub dX8_isTooOld_5 ?_
  refine ex_sipush (v := 500) dX8_isTooOld_6 (by decide) ?_
  refine ex_icmp_le (tgt := 16) dX8_isTooOld_9 (by decide) (fun c9 => ?_) (fun c9 => ?_)
  · refine ex_iconst (v := 0) dX8_isTooOld_16 (by decide) ?_
    exact ex_bret rfl (by decide) dX8_isTooOld_17 (ex_rt_e (by simp_all))
  · refine ex_iconst (v := 1) dX8_isTooOld_12 (by decide) ?_
    refine ex_goto (tgt := 17) dX8_isTooOld_13 (by decide) ?_
    exact ex_bret rfl (by decide) dX8_isTooOld_17 (ex_rt_e (by simp_all))
set_option maxRecDepth 20000 in
theorem c_Draw_fact (g : gl_T) {S : hs_T} {n k : Nat} {a : Nat} (hL : a ∈ hs_L S) (hK : hs_K S a = 2) {y : Int32} : ex_M g 0 mX1_fact [.ref a, .int y] S n k (ex_rt (some (.long (if y = 0 then (hs_I S a 0).toInt64 else if y = 1 then (hs_I S a 1).toInt64 else if y = 2 then (hs_I S a 2).toInt64 else if y = 3 then hs_J S a 3 else if y = 4 then hs_J S a 4 else if y = 5 then hs_J S a 5 else if y = 6 then (hs_I S a 6).toInt64 else if y = 7 then (if hs_I S a 6 = 0 then -1 else (hs_I S a 7).toInt64) else hs_J S a 8))) S n k) := by
  refine ex_enter (by decide +kernel) (Nat.le_of_ble_eq_true rfl) ?_
  show ex_W _ _ _ _ 0 [(0, .ref a), (1, .int y)] [] _ _ _
  refine ex_iload_n dX1_fact_0 1 rfl ?_
  by_cases hx : y.toInt < 0 ∨ 7 < y.toInt
  · refine ex_tableOut (tgt := 106) dX1_fact_1 hx (by decide) ?_
    refine ex_aload_n dX1_fact_106 0 rfl ?_
    refine ex_getJ dX1_fact_107 fl_X1_28 (by assumption) (by assumption) ?_
    exact ex_lrt rfl dX1_fact_110 (ex_rt_e (by first | rfl | (simp [*]; done) | (repeat rw [if_neg (by intro h; subst h; simp at hx)])))
  · have h1 : ¬ y.toInt < 0 := fun h => hx (Or.inl h)
    have h2 : ¬ 7 < y.toInt := fun h => hx (Or.inr h)
    rcases (show y = 0 ∨ y = 1 ∨ y = 2 ∨ y = 3 ∨ y = 4 ∨ y = 5 ∨ y = 6 ∨ y = 7 by simp only [i_eq, Int32.reduceToInt]; omega) with rfl | rfl | rfl | rfl | rfl | rfl | rfl | rfl
    · refine ex_tableIn (tgt := 48) dX1_fact_1 h1 h2 rfl (by decide) ?_
      refine ex_aload_n dX1_fact_48 0 rfl ?_
      refine ex_getI dX1_fact_49 fl_X1_31 (by assumption) (by assumption) ?_
      refine ex_i2l dX1_fact_52 ?_
      exact ex_lrt rfl dX1_fact_53 (ex_rt_e (by first | rfl | (simp [*]; done) | (repeat rw [if_neg (by intro h; subst h; simp at hx)])))
    · refine ex_tableIn (tgt := 54) dX1_fact_1 h1 h2 rfl (by decide) ?_
      refine ex_aload_n dX1_fact_54 0 rfl ?_
      refine ex_getI dX1_fact_55 fl_X1_34 (by assumption) (by assumption) ?_
      refine ex_i2l dX1_fact_58 ?_
      exact ex_lrt rfl dX1_fact_59 (ex_rt_e (by first | rfl | (simp [*]; done) | (repeat rw [if_neg (by intro h; subst h; simp at hx)])))
    · refine ex_tableIn (tgt := 60) dX1_fact_1 h1 h2 rfl (by decide) ?_
      refine ex_aload_n dX1_fact_60 0 rfl ?_
      refine ex_getI dX1_fact_61 fl_X1_37 (by assumption) (by assumption) ?_
      refine ex_i2l dX1_fact_64 ?_
      exact ex_lrt rfl dX1_fact_65 (ex_rt_e (by first | rfl | (simp [*]; done) | (repeat rw [if_neg (by intro h; subst h; simp at hx)])))
    · refine ex_tableIn (tgt := 66) dX1_fact_1 h1 h2 rfl (by decide) ?_
      refine ex_aload_n dX1_fact_66 0 rfl ?_
      refine ex_getJ dX1_fact_67 fl_X1_9 (by assumption) (by assumption) ?_
      exact ex_lrt rfl dX1_fact_70 (ex_rt_e (by first | rfl | (simp [*]; done) | (repeat rw [if_neg (by intro h; subst h; simp at hx)])))
    · refine ex_tableIn (tgt := 71) dX1_fact_1 h1 h2 rfl (by decide) ?_
      refine ex_aload_n dX1_fact_71 0 rfl ?_
      refine ex_getJ dX1_fact_72 fl_X1_15 (by assumption) (by assumption) ?_
      exact ex_lrt rfl dX1_fact_75 (ex_rt_e (by first | rfl | (simp [*]; done) | (repeat rw [if_neg (by intro h; subst h; simp at hx)])))
    · refine ex_tableIn (tgt := 76) dX1_fact_1 h1 h2 rfl (by decide) ?_
      refine ex_aload_n dX1_fact_76 0 rfl ?_
      refine ex_getJ dX1_fact_77 fl_X1_18 (by assumption) (by assumption) ?_
      exact ex_lrt rfl dX1_fact_80 (ex_rt_e (by first | rfl | (simp [*]; done) | (repeat rw [if_neg (by intro h; subst h; simp at hx)])))
    · refine ex_tableIn (tgt := 81) dX1_fact_1 h1 h2 rfl (by decide) ?_
      refine ex_aload_n dX1_fact_81 0 rfl ?_
      refine ex_getI dX1_fact_82 fl_X1_21 (by assumption) (by assumption) ?_
      refine ex_i2l dX1_fact_85 ?_
      exact ex_lrt rfl dX1_fact_86 (ex_rt_e (by first | rfl | (simp [*]; done) | (repeat rw [if_neg (by intro h; subst h; simp at hx)])))
    · refine ex_tableIn (tgt := 87) dX1_fact_1 h1 h2 rfl (by decide) ?_
      refine ex_aload_n dX1_fact_87 0 rfl ?_
      refine ex_getI dX1_fact_88 fl_X1_21 (by assumption) (by assumption) ?_
      refine ex_if_ne (tgt := 100) dX1_fact_91 (by decide) (fun c91 => ?_) (fun c91 => ?_)
      · refine ex_aload_n dX1_fact_100 0 rfl ?_
        refine ex_getI dX1_fact_101 fl_X1_25 (by assumption) (by assumption) ?_
        refine ex_i2l dX1_fact_104 ?_
        exact ex_lrt rfl dX1_fact_105 (ex_rt_e (by first | rfl | (simp [*]; done) | (repeat rw [if_neg (by intro h; subst h; simp at hx)])))
      · refine ex_ldc2 dX1_fact_94 lc_X1_40 ?_
        refine ex_goto (tgt := 105) dX1_fact_97 (by decide) ?_
        exact ex_lrt rfl dX1_fact_105 (ex_rt_e (by first | rfl | (simp [*]; done) | (repeat rw [if_neg (by intro h; subst h; simp at hx)])))
