theorem nz_0 : ∀ ty0 : Nat → FieldType, (∀ k, k < 3 → parseFieldDescriptor (TJx4a65c k).2.2.1 = some (ty0 k)) → ∀ j, j < 3 → defaultValue (ty0 j) = vp_V (hs_zs (hs_ft 0)) j := by
  intro ty0 h j hj
  have h1 := h j hj
  rw [tyJx4a65c_ok j hj] at h1
  rw [← Option.some.inj h1]
  match j, hj with
  | 0, _ => rfl
  | 1, _ => rfl
  | 2, _ => rfl
  | j + 3, hj => exact absurd hj (by omega)
theorem nz_1 : ∀ ty0 : Nat → FieldType, (∀ k, k < 3 → parseFieldDescriptor (TX0 k).2.2.1 = some (ty0 k)) → ∀ j, j < 3 → defaultValue (ty0 j) = vp_V (hs_zs (hs_ft 1)) j := by
  intro ty0 h j hj
  have h1 := h j hj
  rw [tyX0_ok j hj] at h1
  rw [← Option.some.inj h1]
  match j, hj with
  | 0, _ => rfl
  | 1, _ => rfl
  | 2, _ => rfl
  | j + 3, hj => exact absurd hj (by omega)
theorem nz_2 : ∀ ty0 : Nat → FieldType, (∀ k, k < 9 → parseFieldDescriptor (TX1 k).2.2.1 = some (ty0 k)) → ∀ j, j < 9 → defaultValue (ty0 j) = vp_V (hs_zs (hs_ft 2)) j := by
  intro ty0 h j hj
  have h1 := h j hj
  rw [tyX1_ok j hj] at h1
  rw [← Option.some.inj h1]
  match j, hj with
  | 0, _ => rfl
  | 1, _ => rfl
  | 2, _ => rfl
  | 3, _ => rfl
  | 4, _ => rfl
  | 5, _ => rfl
  | 6, _ => rfl
  | 7, _ => rfl
  | 8, _ => rfl
  | j + 9, hj => exact absurd hj (by omega)
theorem nz_3 : ∀ ty0 : Nat → FieldType, (∀ k, k < 2 → parseFieldDescriptor (TX2 k).2.2.1 = some (ty0 k)) → ∀ j, j < 2 → defaultValue (ty0 j) = vp_V (hs_zs (hs_ft 3)) j := by
  intro ty0 h j hj
  have h1 := h j hj
  rw [tyX2_ok j hj] at h1
  rw [← Option.some.inj h1]
  match j, hj with
  | 0, _ => rfl
  | 1, _ => rfl
  | j + 2, hj => exact absurd hj (by omega)
theorem nz_4 : ∀ ty0 : Nat → FieldType, (∀ k, k < 3 → parseFieldDescriptor (TX4 k).2.2.1 = some (ty0 k)) → ∀ j, j < 3 → defaultValue (ty0 j) = vp_V (hs_zs (hs_ft 4)) j := by
  intro ty0 h j hj
  have h1 := h j hj
  rw [tyX4_ok j hj] at h1
  rw [← Option.some.inj h1]
  match j, hj with
  | 0, _ => rfl
  | 1, _ => rfl
  | 2, _ => rfl
  | j + 3, hj => exact absurd hj (by omega)
theorem nz_5 : ∀ ty0 : Nat → FieldType, (∀ k, k < 5 → parseFieldDescriptor (TX5 k).2.2.1 = some (ty0 k)) → ∀ j, j < 5 → defaultValue (ty0 j) = vp_V (hs_zs (hs_ft 5)) j := by
  intro ty0 h j hj
  have h1 := h j hj
  rw [tyX5_ok j hj] at h1
  rw [← Option.some.inj h1]
  match j, hj with
  | 0, _ => rfl
  | 1, _ => rfl
  | 2, _ => rfl
  | 3, _ => rfl
  | 4, _ => rfl
  | j + 5, hj => exact absurd hj (by omega)
theorem nz_6 : ∀ ty0 : Nat → FieldType, (∀ k, k < 2 → parseFieldDescriptor (TX6 k).2.2.1 = some (ty0 k)) → ∀ j, j < 2 → defaultValue (ty0 j) = vp_V (hs_zs (hs_ft 6)) j := by
  intro ty0 h j hj
  have h1 := h j hj
  rw [tyX6_ok j hj] at h1
  rw [← Option.some.inj h1]
  match j, hj with
  | 0, _ => rfl
  | 1, _ => rfl
  | j + 2, hj => exact absurd hj (by omega)
theorem nz_7 : ∀ ty0 : Nat → FieldType, (∀ k, k < 5 → parseFieldDescriptor (TX7 k).2.2.1 = some (ty0 k)) → ∀ j, j < 5 → defaultValue (ty0 j) = vp_V (hs_zs (hs_ft 7)) j := by
  intro ty0 h j hj
  have h1 := h j hj
  rw [tyX7_ok j hj] at h1
  rw [← Option.some.inj h1]
  match j, hj with
  | 0, _ => rfl
  | 1, _ => rfl
  | 2, _ => rfl
  | 3, _ => rfl
  | 4, _ => rfl
  | j + 5, hj => exact absurd hj (by omega)
theorem nz_8 : ∀ ty0 : Nat → FieldType, (∀ k, k < 6 → parseFieldDescriptor (TX8 k).2.2.1 = some (ty0 k)) → ∀ j, j < 6 → defaultValue (ty0 j) = vp_V (hs_zs (hs_ft 8)) j := by
  intro ty0 h j hj
  have h1 := h j hj
  rw [tyX8_ok j hj] at h1
  rw [← Option.some.inj h1]
  match j, hj with
  | 0, _ => rfl
  | 1, _ => rfl
  | 2, _ => rfl
  | 3, _ => rfl
  | 4, _ => rfl
  | 5, _ => rfl
  | j + 6, hj => exact absurd hj (by omega)
theorem nz_9 : ∀ ty0 : Nat → FieldType, (∀ k, k < 12 → parseFieldDescriptor (TX9 k).2.2.1 = some (ty0 k)) → ∀ j, j < 12 → defaultValue (ty0 j) = vp_V (hs_zs (hs_ft 9)) j := by
  intro ty0 h j hj
  have h1 := h j hj
  rw [tyX9_ok j hj] at h1
  rw [← Option.some.inj h1]
  match j, hj with
  | 0, _ => rfl
  | 1, _ => rfl
  | 2, _ => rfl
  | 3, _ => rfl
  | 4, _ => rfl
  | 5, _ => rfl
  | 6, _ => rfl
  | 7, _ => rfl
  | 8, _ => rfl
  | 9, _ => rfl
  | 10, _ => rfl
  | 11, _ => rfl
  | j + 12, hj => exact absurd hj (by omega)
theorem nz_10 : ∀ ty0 : Nat → FieldType, (∀ k, k < 37 → parseFieldDescriptor (TX10 k).2.2.1 = some (ty0 k)) → ∀ j, j < 37 → defaultValue (ty0 j) = vp_V (hs_zs (hs_ft 10)) j := by
  intro ty0 h j hj
  have h1 := h j hj
  rw [tyX10_ok j hj] at h1
  rw [← Option.some.inj h1]
  match j, hj with
  | 0, _ => rfl
  | 1, _ => rfl
  | 2, _ => rfl
  | 3, _ => rfl
  | 4, _ => rfl
  | 5, _ => rfl
  | 6, _ => rfl
  | 7, _ => rfl
  | 8, _ => rfl
  | 9, _ => rfl
  | 10, _ => rfl
  | 11, _ => rfl
  | 12, _ => rfl
  | 13, _ => rfl
  | 14, _ => rfl
  | 15, _ => rfl
  | 16, _ => rfl
  | 17, _ => rfl
  | 18, _ => rfl
  | 19, _ => rfl
  | 20, _ => rfl
  | 21, _ => rfl
  | 22, _ => rfl
  | 23, _ => rfl
  | 24, _ => rfl
  | 25, _ => rfl
  | 26, _ => rfl
  | 27, _ => rfl
  | 28, _ => rfl
  | 29, _ => rfl
  | 30, _ => rfl
  | 31, _ => rfl
  | 32, _ => rfl
  | 33, _ => rfl
  | 34, _ => rfl
  | 35, _ => rfl
  | 36, _ => rfl
  | j + 37, hj => exact absurd hj (by omega)
def th_ad : Nat → Nat
  | 63 => 30
  | 255 => 31
  | 82 => 32
  | 257 => 33
  | 259 => 34
  | 132 => 35
  | 135 => 36
  | 143 => 37
  | 148 => 38
  | 150 => 39
  | 223 => 40
  | 225 => 41
  | 261 => 42
  | 233 => 43
  | _ => 0
theorem th_w_65 : ∀ w ∈ vx_atS RX9 65 "java/lang/IllegalStateException" ["java/lang/RuntimeException", "java/lang/Exception"], w ∈ ex_TB ∨ w ∈ ex_NB := by decide +kernel
theorem th_o_65_61 : ∀ w ∈ Cond.classLink RX9 61 "java/lang/IllegalStateException" :: Cond.initialized "java/lang/IllegalStateException" :: vx_atS RX9 65 "java/lang/IllegalStateException" ["java/lang/RuntimeException", "java/lang/Exception"], vx_ot w = true := by decide +kernel
theorem th_w_84 : ∀ w ∈ vx_atS RX9 84 "java/lang/IllegalArgumentException" ["java/lang/RuntimeException", "java/lang/Exception"], w ∈ ex_TB ∨ w ∈ ex_NB := by decide +kernel
theorem th_o_84_80 : ∀ w ∈ Cond.classLink RX9 80 "java/lang/IllegalArgumentException" :: Cond.initialized "java/lang/IllegalArgumentException" :: vx_atS RX9 84 "java/lang/IllegalArgumentException" ["java/lang/RuntimeException", "java/lang/Exception"], vx_ot w = true := by decide +kernel
theorem th_w_134 : ∀ w ∈ vx_atS RX9 134 "java/lang/IndexOutOfBoundsException" ["java/lang/RuntimeException", "java/lang/Exception"], w ∈ ex_TB ∨ w ∈ ex_NB := by decide +kernel
theorem th_o_134_130 : ∀ w ∈ Cond.classLink RX9 130 "java/lang/IndexOutOfBoundsException" :: Cond.initialized "java/lang/IndexOutOfBoundsException" :: vx_atS RX9 134 "java/lang/IndexOutOfBoundsException" ["java/lang/RuntimeException", "java/lang/Exception"], vx_ot w = true := by decide +kernel
theorem mw_max : Cond.static Lib.Math.max.name ∈ ex_TB ∧ Cond.initialized "java/lang/Math" ∈ ex_TB ∧ Cond.code Lib.Math.max.name Lib.Math.max.code 2 (some .int) ∈ ex_TB := ⟨tb_200, tb_13, tb_201⟩
theorem mw_min : Cond.static Lib.Math.min.name ∈ ex_TB ∧ Cond.initialized "java/lang/Math" ∈ ex_TB ∧ Cond.code Lib.Math.min.name Lib.Math.min.code 2 (some .int) ∈ ex_TB := ⟨tb_295, tb_13, tb_296⟩
theorem mw_minL : Cond.static Lib.MathLoose.min_long.x ∈ ex_TB ∧ Cond.initialized "java/lang/Math" ∈ ex_TB ∧ Cond.code Lib.MathLoose.min_long.x Lib.MathLoose.min_long.code 4 (some .long) ∈ ex_TB := ⟨tb_309, tb_13, tb_310⟩
theorem mw_copy : Cond.native arraycopyName ∈ ex_TB ∧ Cond.static arraycopyName ∈ ex_TB ∧ Cond.initialized "java/lang/System" ∈ ex_TB := ⟨tb_415, tb_414, tb_15⟩
theorem aw_byte : Cond.arrayClass .byte ∈ ex_TB := tb_125
theorem aw_int : Cond.arrayClass .int ∈ ex_TB := tb_126
theorem aw_boolean : Cond.arrayClass .boolean ∈ ex_TB := tb_1283
theorem aw_long : Cond.arrayClass .long ∈ ex_TB := tb_1284
/-! methods -/
def mX0_init : mt_T := (yX0_init, cX0_init, 4, (none : Option Jvm.ClassFile.FieldType))
def mX0_fundFor : mt_T := (yX0_fundFor, cX0_fundFor, 3, (some .long))
def mX0_prizesFrom : mt_T := (yX0_prizesFrom, cX0_prizesFrom, 5, (some .long))
def mX1_init : mt_T := (yX1_init, cX1_init, 4, (none : Option Jvm.ClassFile.FieldType))
def mX1_placeOf : mt_T := (yX1_placeOf, cX1_placeOf, 2, (some .int))
def mX1_fact : mt_T := (yX1_fact, cX1_fact, 2, (some .long))
def mX2_init : mt_T := (yX2_init, cX2_init, 1, (none : Option Jvm.ClassFile.FieldType))
def mX3_hasSecond : mt_T := (yX3_hasSecond, cX3_hasSecond, 1, (some .boolean))
def mX4_init : mt_T := (yX4_init, cX4_init, 1, (none : Option Jvm.ClassFile.FieldType))
def mX4_sell : mt_T := (yX4_sell, cX4_sell, 5, (some .int))
def mX4_pass : mt_T := (yX4_pass, cX4_pass, 9, (some .int))
def mX4_inherit : mt_T := (yX4_inherit, cX4_inherit, 8, (some .int))
def mX4_holderOn : mt_T := (yX4_holderOn, cX4_holderOn, 5, (some .int))
def mX4_holderNow : mt_T := (yX4_holderNow, cX4_holderNow, 3, (some .int))
def mX4_bondsOf : mt_T := (yX4_bondsOf, cX4_bondsOf, 5, (some .int))
def mX4_bondsHeld : mt_T := (yX4_bondsHeld, cX4_bondsHeld, 1, (some .int))
def mX4_bondsSince : mt_T := (yX4_bondsSince, cX4_bondsSince, 5, (some .int))
def mX4_bondAt : mt_T := (yX4_bondAt, cX4_bondAt, 6, (some .int))
def mX4_begin : mt_T := (yX4_begin, cX4_begin, 6, (some (.object "BondOffice$Line")))
def mX4_ownsAll : mt_T := (yX4_ownsAll, cX4_ownsAll, 8, (some .boolean))
def mX4_linesMadeByPassing : mt_T := (yX4_linesMadeByPassing, cX4_linesMadeByPassing, 7, (some .int))
def mX4_passOne : mt_T := (yX4_passOne, cX4_passOne, 9, (none : Option Jvm.ClassFile.FieldType))
def mX4_placeAmongGoing : mt_T := (yX4_placeAmongGoing, cX4_placeAmongGoing, 6, (some .int))
def mX4_replaceAmongGoing : mt_T := (yX4_replaceAmongGoing, cX4_replaceAmongGoing, 5, (none : Option Jvm.ClassFile.FieldType))
def mX5_init : mt_T := (yX5_init, cX5_init, 5, (none : Option Jvm.ClassFile.FieldType))
def mX5_size : mt_T := (yX5_size, cX5_size, 1, (some .int))
def mX5_goesOn : mt_T := (yX5_goesOn, cX5_goesOn, 1, (some .boolean))
def mX5_isInForceOn : mt_T := (yX5_isInForceOn, cX5_isInForceOn, 2, (some .boolean))
def mX5_contains : mt_T := (yX5_contains, cX5_contains, 2, (some .boolean))
def mX5_common : mt_T := (yX5_common, cX5_common, 5, (some .int))
def mX5_fact : mt_T := (yX5_fact, cX5_fact, 2, (some .int))
def mX6_init : mt_T := (yX6_init, cX6_init, 2, (none : Option Jvm.ClassFile.FieldType))
def mX6_daysNeeded : mt_T := (yX6_daysNeeded, cX6_daysNeeded, 4, (some .int))
def mX6_fundFor : mt_T := (yX6_fundFor, cX6_fundFor, 6, (some .long))
def mX7_init : mt_T := (yX7_init, cX7_init, 3, (none : Option Jvm.ClassFile.FieldType))
def mX7_readInto : mt_T := (yX7_readInto, cX7_readInto, 3, (none : Option Jvm.ClassFile.FieldType))
def mX7_readClause : mt_T := (yX7_readClause, cX7_readClause, 6, (none : Option Jvm.ClassFile.FieldType))
def mX7_readKind : mt_T := (yX7_readKind, cX7_readKind, 3, (some (.object "BondOffice$Kind")))
def mX7_readNumber : mt_T := (yX7_readNumber, cX7_readNumber, 6, (some .int))
def mX7_expect : mt_T := (yX7_expect, cX7_expect, 3, (none : Option Jvm.ClassFile.FieldType))
def mX7_blame : mt_T := (yX7_blame, cX7_blame, 3, (none : Option Jvm.ClassFile.FieldType))
def mX7_skipBlanks : mt_T := (yX7_skipBlanks, cX7_skipBlanks, 1, (none : Option Jvm.ClassFile.FieldType))
def mX7_endOfToken : mt_T := (yX7_endOfToken, cX7_endOfToken, 3, (some .int))
def mX7_isToken : mt_T := (yX7_isToken, cX7_isToken, 5, (some .boolean))
def mX7_byteAt : mt_T := (yX7_byteAt, cX7_byteAt, 2, (some .int))
def mX7_isDigit : mt_T := (yX7_isDigit, cX7_isDigit, 1, (some .boolean))
def mX7_isLetter : mt_T := (yX7_isLetter, cX7_isLetter, 1, (some .boolean))
def mX8_init : mt_T := (yX8_init, cX8_init, 6, (none : Option Jvm.ClassFile.FieldType))
def mX8_isTooOld : mt_T := (yX8_isTooOld, cX8_isTooOld, 2, (some .boolean))
def mX8_fact : mt_T := (yX8_fact, cX8_fact, 2, (some .int))
def mX9_init : mt_T := (yX9_init, cX9_init, 1, (none : Option Jvm.ClassFile.FieldType))
def mX9_holder : mt_T := (yX9_holder, cX9_holder, 1, (some .int))
def mX9_buy : mt_T := (yX9_buy, cX9_buy, 3, (some .int))
def mX9_give : mt_T := (yX9_give, cX9_give, 5, (some .int))
def mX9_cash : mt_T := (yX9_cash, cX9_cash, 5, (some .int))
def mX9_died : mt_T := (yX9_died, cX9_died, 6, (some .int))
def mX9_held : mt_T := (yX9_held, cX9_held, 3, (some .int))
def mX9_has : mt_T := (yX9_has, cX9_has, 2, (some .int))
def mX9_line : mt_T := (yX9_line, cX9_line, 3, (some .int))
def mX9_wait : mt_T := (yX9_wait, cX9_wait, 2, (some .int))
def mX9_feed : mt_T := (yX9_feed, cX9_feed, 6, (some .int))
def mX9_rule : mt_T := (yX9_rule, cX9_rule, 5, (some .int))
def mX9_fault : mt_T := (yX9_fault, cX9_fault, 1, (some .int))
def mX9_force : mt_T := (yX9_force, cX9_force, 6, (some .int))
def mX9_noise : mt_T := (yX9_noise, cX9_noise, 2, (some .int))
def mX9_draw : mt_T := (yX9_draw, cX9_draw, 6, (some .int))
def mX9_drawn : mt_T := (yX9_drawn, cX9_drawn, 3, (some .long))
def mX9_win : mt_T := (yX9_win, cX9_win, 3, (some .int))
def mX9_claim : mt_T := (yX9_claim, cX9_claim, 3, (some .int))
def mX9_paid : mt_T := (yX9_paid, cX9_paid, 2, (some .long))
def mX9_carried : mt_T := (yX9_carried, cX9_carried, 1, (some .long))
def mX9_count : mt_T := (yX9_count, cX9_count, 2, (some .int))
def mX9_checkHolder : mt_T := (yX9_checkHolder, cX9_checkHolder, 2, (none : Option Jvm.ClassFile.FieldType))
def mX9_checkAlive : mt_T := (yX9_checkAlive, cX9_checkAlive, 2, (none : Option Jvm.ClassFile.FieldType))
def mX9_checkPair : mt_T := (yX9_checkPair, cX9_checkPair, 3, (none : Option Jvm.ClassFile.FieldType))
def mX9_checkWin : mt_T := (yX9_checkWin, cX9_checkWin, 2, (none : Option Jvm.ClassFile.FieldType))
def mX9_payOut : mt_T := (yX9_payOut, cX9_payOut, 3, (none : Option Jvm.ClassFile.FieldType))
def mX9_putOnTape : mt_T := (yX9_putOnTape, cX9_putOnTape, 3, (none : Option Jvm.ClassFile.FieldType))
def mX9_openWins : mt_T := (yX9_openWins, cX9_openWins, 3, (some .int))
def mX9_lapseOldWins : mt_T := (yX9_lapseOldWins, cX9_lapseOldWins, 3, (none : Option Jvm.ClassFile.FieldType))
def mX9_mixNoise : mt_T := (yX9_mixNoise, cX9_mixNoise, 8, (some .long))
def mX9_nextWithoutDivisor : mt_T := (yX9_nextWithoutDivisor, cX9_nextWithoutDivisor, 7, (some .long))
def mX9_greatestDivisor : mt_T := (yX9_greatestDivisor, cX9_greatestDivisor, 11, (some .long))
def mX9_cutBy : mt_T := (yX9_cutBy, cX9_cutBy, 4, (some .long))
def mX9_awardPrizes : mt_T := (yX9_awardPrizes, cX9_awardPrizes, 14, (none : Option Jvm.ClassFile.FieldType))
def mX9_awardPrize : mt_T := (yX9_awardPrize, cX9_awardPrize, 6, (none : Option Jvm.ClassFile.FieldType))
def mX10_init : mt_T := (yX10_init, cX10_init, 1, (none : Option Jvm.ClassFile.FieldType))
def mX10_thrown : mt_T := (yX10_thrown, cX10_thrown, 1, (some .int))
def mX10_bad : mt_T := (yX10_bad, cX10_bad, 3, (some .boolean))
def mX10_holder : mt_T := (yX10_holder, cX10_holder, 1, (some .int))
def mX10_isHolder : mt_T := (yX10_isHolder, cX10_isHolder, 2, (some .boolean))
def mX10_adds : mt_T := (yX10_adds, cX10_adds, 5, (none : Option Jvm.ClassFile.FieldType))
def mX10_buy : mt_T := (yX10_buy, cX10_buy, 3, (some .int))
def mX10_goesOn : mt_T := (yX10_goesOn, cX10_goesOn, 3, (some .boolean))
def mX10_hasOf : mt_T := (yX10_hasOf, cX10_hasOf, 9, (some .long))
def mX10_goes : mt_T := (yX10_goes, cX10_goes, 8, (some .int))
def mX10_give : mt_T := (yX10_give, cX10_give, 5, (some .int))
def mX10_cash : mt_T := (yX10_cash, cX10_cash, 5, (some .int))
def mX10_died : mt_T := (yX10_died, cX10_died, 6, (some .int))
def mX10_held : mt_T := (yX10_held, cX10_held, 4, (some .int))
def mX10_has : mt_T := (yX10_has, cX10_has, 2, (some .int))
def mX10_line : mt_T := (yX10_line, cX10_line, 3, (some .int))
def mX10_wait : mt_T := (yX10_wait, cX10_wait, 2, (some .int))
def mX10_feed : mt_T := (yX10_feed, cX10_feed, 9, (some .int))
def mX10_byteAt : mt_T := (yX10_byteAt, cX10_byteAt, 2, (some .int))
def mX10_blanks : mt_T := (yX10_blanks, cX10_blanks, 1, (none : Option Jvm.ClassFile.FieldType))
def mX10_isSmall : mt_T := (yX10_isSmall, cX10_isSmall, 1, (some .boolean))
def mX10_isDigit : mt_T := (yX10_isDigit, cX10_isDigit, 1, (some .boolean))
def mX10_wrong : mt_T := (yX10_wrong, cX10_wrong, 3, (none : Option Jvm.ClassFile.FieldType))
def mX10_isWord : mt_T := (yX10_isWord, cX10_isWord, 3, (some .boolean))
def mX10_need : mt_T := (yX10_need, cX10_need, 2, (none : Option Jvm.ClassFile.FieldType))
def mX10_number : mt_T := (yX10_number, cX10_number, 6, (some .int))
def mX10_sign : mt_T := (yX10_sign, cX10_sign, 2, (none : Option Jvm.ClassFile.FieldType))
def mX10_clause : mt_T := (yX10_clause, cX10_clause, 3, (none : Option Jvm.ClassFile.FieldType))
def mX10_rule : mt_T := (yX10_rule, cX10_rule, 5, (some .int))
def mX10_fault : mt_T := (yX10_fault, cX10_fault, 1, (some .int))
def mX10_forceOf : mt_T := (yX10_forceOf, cX10_forceOf, 4, (some .int))
def mX10_force : mt_T := (yX10_force, cX10_force, 2, (some .int))
def mX10_noise : mt_T := (yX10_noise, cX10_noise, 2, (some .int))
def mX10_mix : mt_T := (yX10_mix, cX10_mix, 8, (some .long))
def mX10_common : mt_T := (yX10_common, cX10_common, 10, (some .long))
def mX10_sorts : mt_T := (yX10_sorts, cX10_sorts, 6, (some .long))
def mX10_draw : mt_T := (yX10_draw, cX10_draw, 22, (some .int))
def mX10_winsAt : mt_T := (yX10_winsAt, cX10_winsAt, 7, (none : Option Jvm.ClassFile.FieldType))
def mX10_drawn : mt_T := (yX10_drawn, cX10_drawn, 3, (some .long))
def mX10_isWin : mt_T := (yX10_isWin, cX10_isWin, 2, (some .boolean))
def mX10_win : mt_T := (yX10_win, cX10_win, 3, (some .int))
def mX10_claim : mt_T := (yX10_claim, cX10_claim, 2, (some .int))
def mX10_paid : mt_T := (yX10_paid, cX10_paid, 2, (some .long))
def mX10_carried : mt_T := (yX10_carried, cX10_carried, 1, (some .long))
def mX10_heldNow : mt_T := (yX10_heldNow, cX10_heldNow, 4, (some .long))
def mX10_count : mt_T := (yX10_count, cX10_count, 4, (some .int))
def mJ0_length_8abf5 : mt_T := (yJ0_length_8abf5, cJ0_length_8abf5, 1, (some .int))
def mJ0_isEmpty_aae02 : mt_T := (yJ0_isEmpty_aae02, cJ0_isEmpty_aae02, 1, (some .boolean))
def mJ0_charAt_5068e : mt_T := (yJ0_charAt_5068e, cJ0_charAt_5068e, 2, (some .char))
def mJ0_coder_7d493 : mt_T := (yJ0_coder_7d493, cJ0_coder_7d493, 1, (some .byte))
def mJ0_isLatin1_aae02 : mt_T := (yJ0_isLatin1_aae02, cJ0_isLatin1_aae02, 1, (some .boolean))
def mJ0_checkIndex_df160 : mt_T := (yJ0_checkIndex_df160, cJ0_checkIndex_df160, 2, (none : Option Jvm.ClassFile.FieldType))
def mJ1_charAt_3b067 : mt_T := (yJ1_charAt_3b067, cJ1_charAt_3b067, 2, (some .char))
def mJxa1e45_init_da8c8 : mt_T := (yJxa1e45_init_da8c8, cJxa1e45_init_da8c8, 1, (none : Option Jvm.ClassFile.FieldType))
def mJxc12de_init_da8c8 : mt_T := (yJxc12de_init_da8c8, cJxc12de_init_da8c8, 1, (none : Option Jvm.ClassFile.FieldType))
def mJx4a65c_init_da8c8 : mt_T := (yJx4a65c_init_da8c8, cJx4a65c_init_da8c8, 1, (none : Option Jvm.ClassFile.FieldType))
def mJx4a65c_grow_92f84 : mt_T := (yJx4a65c_grow_92f84, cJx4a65c_grow_92f84, 4, (some (.array (.object "java/lang/Object"))))
def mJx4a65c_grow_d5877 : mt_T := (yJx4a65c_grow_d5877, cJx4a65c_grow_d5877, 1, (some (.array (.object "java/lang/Object"))))
def mJx4a65c_size_8abf5 : mt_T := (yJx4a65c_size_8abf5, cJx4a65c_size_8abf5, 1, (some .int))
def mJx4a65c_elementData_915e3 : mt_T := (yJx4a65c_elementData_915e3, cJx4a65c_elementData_915e3, 2, (some (.object "java/lang/Object")))
def mJx4a65c_get_915e3 : mt_T := (yJx4a65c_get_915e3, cJx4a65c_get_915e3, 2, (some (.object "java/lang/Object")))
def mJx4a65c_set_bcc79 : mt_T := (yJx4a65c_set_bcc79, cJx4a65c_set_bcc79, 4, (some (.object "java/lang/Object")))
def mJx4a65c_add_72be8 : mt_T := (yJx4a65c_add_72be8, cJx4a65c_add_72be8, 4, (none : Option Jvm.ClassFile.FieldType))
def mJx4a65c_add_9ea2d : mt_T := (yJx4a65c_add_9ea2d, cJx4a65c_add_9ea2d, 2, (some .boolean))
def mJx4a65c_add_7a177 : mt_T := (yJx4a65c_add_7a177, cJx4a65c_add_7a177, 5, (none : Option Jvm.ClassFile.FieldType))
def mJx4a65c_remove_915e3 : mt_T := (yJx4a65c_remove_915e3, cJx4a65c_remove_915e3, 4, (some (.object "java/lang/Object")))
def mJx4a65c_fastRemove_b59b0 : mt_T := (yJx4a65c_fastRemove_b59b0, cJx4a65c_fastRemove_b59b0, 4, (none : Option Jvm.ClassFile.FieldType))
def mJx4a65c_rangeCheckForAdd_d00df : mt_T := (yJx4a65c_rangeCheckForAdd_d00df, cJx4a65c_rangeCheckForAdd_d00df, 2, (none : Option Jvm.ClassFile.FieldType))
def mJ7_copyOf_1904c : mt_T := (yJ7_copyOf_1904c, cJ7_copyOf_1904c, 2, (some (.array (.object "java/lang/Object"))))
def mJ7_copyOf_6403c : mt_T := (yJ7_copyOf_6403c, cJ7_copyOf_6403c, 4, (some (.array (.object "java/lang/Object"))))
def mJ15_checkIndex_7cf53 : mt_T := (yJ15_checkIndex_7cf53, cJ15_checkIndex_7cf53, 2, (some .int))
def mJ8_newLength_cabcc : mt_T := (yJ8_newLength_cabcc, cJ8_newLength_cabcc, 4, (some .int))
def mJ3_checkIndex_8e157 : mt_T := (yJ3_checkIndex_8e157, cJ3_checkIndex_8e157, 3, (some .int))
/-! classes -/
theorem ck_0 : ex_ck (RJx4a65c, TJx4a65c, 3) := by
  refine ⟨fun w hw => ?_, ⟨tyJx4a65c, tyJx4a65c_ok⟩, nmJx4a65c⟩
  obtain ⟨k, hk, rfl⟩ := List.mem_map.mp hw
  have hk : k < 3 := List.mem_range.mp hk
  match k, hk with
  | 0, _ => exact tb_65
  | 1, _ => exact tb_61
  | 2, _ => exact tb_63
  | k + 3, hk => exact absurd hk (by omega)
theorem ck_1 : ex_ck (RX0, TX0, 3) := by
  refine ⟨fun w hw => ?_, ⟨tyX0, tyX0_ok⟩, nmX0⟩
  obtain ⟨k, hk, rfl⟩ := List.mem_map.mp hw
  have hk : k < 3 := List.mem_range.mp hk
  match k, hk with
  | 0, _ => exact tb_1108
  | 1, _ => exact tb_1110
  | 2, _ => exact tb_1112
  | k + 3, hk => exact absurd hk (by omega)
theorem ck_2 : ex_ck (RX1, TX1, 9) := by
  refine ⟨fun w hw => ?_, ⟨tyX1, tyX1_ok⟩, nmX1⟩
  obtain ⟨k, hk, rfl⟩ := List.mem_map.mp hw
  have hk : k < 9 := List.mem_range.mp hk
  match k, hk with
  | 0, _ => exact tb_241
  | 1, _ => exact tb_243
  | 2, _ => exact tb_245
  | 3, _ => exact tb_247
  | 4, _ => exact tb_249
  | 5, _ => exact tb_251
  | 6, _ => exact tb_253
  | 7, _ => exact tb_255
  | 8, _ => exact tb_257
  | k + 9, hk => exact absurd hk (by omega)
theorem ck_3 : ex_ck (RX2, TX2, 2) := by
  refine ⟨fun w hw => ?_, ⟨tyX2, tyX2_ok⟩, nmX2⟩
  obtain ⟨k, hk, rfl⟩ := List.mem_map.mp hw
  have hk : k < 2 := List.mem_range.mp hk
  match k, hk with
  | 0, _ => exact tb_515
  | 1, _ => exact tb_517
  | k + 2, hk => exact absurd hk (by omega)
theorem ck_4 : ex_ck (RX4, TX4, 3) := by
  refine ⟨fun w hw => ?_, ⟨tyX4, tyX4_ok⟩, nmX4⟩
  obtain ⟨k, hk, rfl⟩ := List.mem_map.mp hw
  have hk : k < 3 := List.mem_range.mp hk
  match k, hk with
  | 0, _ => exact tb_81
  | 1, _ => exact tb_83
  | 2, _ => exact tb_85
  | k + 3, hk => exact absurd hk (by omega)
theorem ck_5 : ex_ck (RX5, TX5, 5) := by
  refine ⟨fun w hw => ?_, ⟨tyX5, tyX5_ok⟩, nmX5⟩
  obtain ⟨k, hk, rfl⟩ := List.mem_map.mp hw
  have hk : k < 5 := List.mem_range.mp hk
  match k, hk with
  | 0, _ => exact tb_595
  | 1, _ => exact tb_597
  | 2, _ => exact tb_599
  | 3, _ => exact tb_601
  | 4, _ => exact tb_603
  | k + 5, hk => exact absurd hk (by omega)
theorem ck_6 : ex_ck (RX6, TX6, 2) := by
  refine ⟨fun w hw => ?_, ⟨tyX6, tyX6_ok⟩, nmX6⟩
  obtain ⟨k, hk, rfl⟩ := List.mem_map.mp hw
  have hk : k < 2 := List.mem_range.mp hk
  match k, hk with
  | 0, _ => exact tb_982
  | 1, _ => exact tb_984
  | k + 2, hk => exact absurd hk (by omega)
theorem ck_7 : ex_ck (RX7, TX7, 5) := by
  refine ⟨fun w hw => ?_, ⟨tyX7, tyX7_ok⟩, nmX7⟩
  obtain ⟨k, hk, rfl⟩ := List.mem_map.mp hw
  have hk : k < 5 := List.mem_range.mp hk
  match k, hk with
  | 0, _ => exact tb_1000
  | 1, _ => exact tb_1002
  | 2, _ => exact tb_1004
  | 3, _ => exact tb_1006
  | 4, _ => exact tb_1008
  | k + 5, hk => exact absurd hk (by omega)
theorem ck_8 : ex_ck (RX8, TX8, 6) := by
  refine ⟨fun w hw => ?_, ⟨tyX8, tyX8_ok⟩, nmX8⟩
  obtain ⟨k, hk, rfl⟩ := List.mem_map.mp hw
  have hk : k < 6 := List.mem_range.mp hk
  match k, hk with
  | 0, _ => exact tb_345
  | 1, _ => exact tb_347
  | 2, _ => exact tb_349
  | 3, _ => exact tb_351
  | 4, _ => exact tb_353
  | 5, _ => exact tb_355
  | k + 6, hk => exact absurd hk (by omega)
theorem ck_9 : ex_ck (RX9, TX9, 12) := by
  refine ⟨fun w hw => ?_, ⟨tyX9, tyX9_ok⟩, nmX9⟩
  obtain ⟨k, hk, rfl⟩ := List.mem_map.mp hw
  have hk : k < 12 := List.mem_range.mp hk
  match k, hk with
  | 0, _ => exact tb_100
  | 1, _ => exact tb_102
  | 2, _ => exact tb_104
  | 3, _ => exact tb_106
  | 4, _ => exact tb_108
  | 5, _ => exact tb_110
  | 6, _ => exact tb_112
  | 7, _ => exact tb_114
  | 8, _ => exact tb_116
  | 9, _ => exact tb_118
  | 10, _ => exact tb_120
  | 11, _ => exact tb_122
  | k + 12, hk => exact absurd hk (by omega)
theorem ck_10 : ex_ck (RX10, TX10, 37) := by
  refine ⟨fun w hw => ?_, ⟨tyX10, tyX10_ok⟩, nmX10⟩
  obtain ⟨k, hk, rfl⟩ := List.mem_map.mp hw
  have hk : k < 37 := List.mem_range.mp hk
  match k, hk with
  | 0, _ => exact tb_1208
  | 1, _ => exact tb_1210
  | 2, _ => exact tb_1212
  | 3, _ => exact tb_1214
  | 4, _ => exact tb_1216
  | 5, _ => exact tb_1218
  | 6, _ => exact tb_1220
  | 7, _ => exact tb_1222
  | 8, _ => exact tb_1224
  | 9, _ => exact tb_1226
  | 10, _ => exact tb_1228
  | 11, _ => exact tb_1230
  | 12, _ => exact tb_1232
  | 13, _ => exact tb_1234
  | 14, _ => exact tb_1236
  | 15, _ => exact tb_1238
  | 16, _ => exact tb_1240
  | 17, _ => exact tb_1242
  | 18, _ => exact tb_1244
  | 19, _ => exact tb_1246
  | 20, _ => exact tb_1248
  | 21, _ => exact tb_1250
  | 22, _ => exact tb_1252
  | 23, _ => exact tb_1254
  | 24, _ => exact tb_1256
  | 25, _ => exact tb_1258
  | 26, _ => exact tb_1260
  | 27, _ => exact tb_1262
  | 28, _ => exact tb_1264
  | 29, _ => exact tb_1266
  | 30, _ => exact tb_1268
  | 31, _ => exact tb_1270
  | 32, _ => exact tb_1272
  | 33, _ => exact tb_1274
  | 34, _ => exact tb_1276
  | 35, _ => exact tb_1278
  | 36, _ => exact tb_1280
  | k + 37, hk => exact absurd hk (by omega)
/-! links -/
theorem oi_X0_1 : Cond.methodLink RX0 1 objectInit ∈ ex_TB ∧ Cond.instanceMethod objectInit ∈ ex_TB ∧ Cond.code objectInit ⟨#[0xb1]⟩ 1 none ∈ ex_TB := ⟨tb_1101, tb_40, tb_41⟩
theorem fl_X0_7 : ex_fl RX0 7 1 0 2 := ⟨(RX0, TX0, 3), rfl, by decide, by decide, rfl, ck_1, Or.inl ⟨_, tb_1102, Or.inl rfl⟩⟩
theorem pf_X0_7 {M : mt_T} (h1 : M.1.name = "<init>") (h2 : M.1.cls = RX0) : ex_pf M 7 1 0 (.object "BondOffice$Kind") := ⟨(RX0, TX0, 3), rfl, by decide +kernel, Or.inr ⟨rfl, h1, h2.symm, by rw [h2]; exact tb_1102⟩⟩
theorem fl_X0_13 : ex_fl RX0 13 1 1 0 := ⟨(RX0, TX0, 3), rfl, by decide, by decide, rfl, ck_1, Or.inl ⟨_, tb_1104, Or.inl rfl⟩⟩
theorem pf_X0_13 {M : mt_T} (h1 : M.1.name = "<init>") (h2 : M.1.cls = RX0) : ex_pf M 13 1 1 (.int) := ⟨(RX0, TX0, 3), rfl, by decide +kernel, Or.inr ⟨rfl, h1, h2.symm, by rw [h2]; exact tb_1104⟩⟩
theorem fl_X0_17 : ex_fl RX0 17 1 2 0 := ⟨(RX0, TX0, 3), rfl, by decide, by decide, rfl, ck_1, Or.inl ⟨_, tb_1107, Or.inl rfl⟩⟩
theorem pf_X0_17 {M : mt_T} (h1 : M.1.name = "<init>") (h2 : M.1.cls = RX0) : ex_pf M 17 1 2 (.int) := ⟨(RX0, TX0, 3), rfl, by decide +kernel, Or.inr ⟨rfl, h1, h2.symm, by rw [h2]; exact tb_1107⟩⟩
theorem gs_X0_20 : Cond.fieldLink RX0 20 "BondOffice$Kind" "FUND" "LBondOffice$Kind;" ∈ ex_TB := tb_285
theorem cS_X0_25 : ex_cS RX0 25 mX9_cutBy 2 := ⟨⟨tb_289, tb_1, ⟨by decide +kernel, by decide +kernel⟩, by decide +kernel, by decide⟩, Or.inr ⟨_, nb_287⟩, tb_288⟩
theorem gs_X0_31 : Cond.fieldLink RX0 31 "BondOffice$Kind" "TIER" "LBondOffice$Kind;" ∈ ex_TB := tb_302
theorem gs_X0_34 : Cond.fieldLink RX0 34 "BondOffice$Kind" "SHARE" "LBondOffice$Kind;" ∈ ex_TB := tb_304
theorem lc_X0_37 : Cond.constantLong RX0 37 (100) ∈ ex_TB := tb_306
theorem oi_X1_3 : Cond.methodLink RX1 3 objectInit ∈ ex_TB ∧ Cond.instanceMethod objectInit ∈ ex_TB ∧ Cond.code objectInit ⟨#[0xb1]⟩ 1 none ∈ ex_TB := ⟨tb_224, tb_40, tb_41⟩
theorem fl_X1_9 : ex_fl RX1 9 2 3 1 := ⟨(RX1, TX1, 9), rfl, by decide, by decide, rfl, ck_2, Or.inl ⟨_, tb_229, Or.inl rfl⟩⟩
theorem pf_X1_9 (M : mt_T) : ex_pf M 9 2 3 (.long) := ⟨(RX1, TX1, 9), rfl, by decide +kernel, Or.inl rfl⟩
theorem fl_X1_15 : ex_fl RX1 15 2 4 1 := ⟨(RX1, TX1, 9), rfl, by decide, by decide, rfl, ck_2, Or.inl ⟨_, tb_231, Or.inl rfl⟩⟩
theorem pf_X1_15 (M : mt_T) : ex_pf M 15 2 4 (.long) := ⟨(RX1, TX1, 9), rfl, by decide +kernel, Or.inl rfl⟩
theorem fl_X1_18 : ex_fl RX1 18 2 5 1 := ⟨(RX1, TX1, 9), rfl, by decide, by decide, rfl, ck_2, Or.inl ⟨_, tb_233, Or.inl rfl⟩⟩
theorem pf_X1_18 (M : mt_T) : ex_pf M 18 2 5 (.long) := ⟨(RX1, TX1, 9), rfl, by decide +kernel, Or.inl rfl⟩
theorem fl_X1_21 : ex_fl RX1 21 2 6 0 := ⟨(RX1, TX1, 9), rfl, by decide, by decide, rfl, ck_2, Or.inl ⟨_, tb_235, Or.inl rfl⟩⟩
theorem pf_X1_21 (M : mt_T) : ex_pf M 21 2 6 (.int) := ⟨(RX1, TX1, 9), rfl, by decide +kernel, Or.inl rfl⟩
theorem fl_X1_25 : ex_fl RX1 25 2 7 0 := ⟨(RX1, TX1, 9), rfl, by decide, by decide, rfl, ck_2, Or.inl ⟨_, tb_237, Or.inl rfl⟩⟩
theorem pf_X1_25 (M : mt_T) : ex_pf M 25 2 7 (.int) := ⟨(RX1, TX1, 9), rfl, by decide +kernel, Or.inl rfl⟩
theorem fl_X1_28 : ex_fl RX1 28 2 8 1 := ⟨(RX1, TX1, 9), rfl, by decide, by decide, rfl, ck_2, Or.inl ⟨_, tb_239, Or.inl rfl⟩⟩
theorem pf_X1_28 (M : mt_T) : ex_pf M 28 2 8 (.long) := ⟨(RX1, TX1, 9), rfl, by decide +kernel, Or.inl rfl⟩
theorem fl_X1_31 : ex_fl RX1 31 2 0 0 := ⟨(RX1, TX1, 9), rfl, by decide, by decide, rfl, ck_2, Or.inl ⟨_, tb_225, Or.inl rfl⟩⟩
theorem pf_X1_31 {M : mt_T} (h1 : M.1.name = "<init>") (h2 : M.1.cls = RX1) : ex_pf M 31 2 0 (.int) := ⟨(RX1, TX1, 9), rfl, by decide +kernel, Or.inr ⟨rfl, h1, h2.symm, by rw [h2]; exact tb_225⟩⟩
theorem fl_X1_34 : ex_fl RX1 34 2 1 0 := ⟨(RX1, TX1, 9), rfl, by decide, by decide, rfl, ck_2, Or.inl ⟨_, tb_226, Or.inl rfl⟩⟩
theorem pf_X1_34 {M : mt_T} (h1 : M.1.name = "<init>") (h2 : M.1.cls = RX1) : ex_pf M 34 2 1 (.int) := ⟨(RX1, TX1, 9), rfl, by decide +kernel, Or.inr ⟨rfl, h1, h2.symm, by rw [h2]; exact tb_226⟩⟩
theorem fl_X1_37 : ex_fl RX1 37 2 2 0 := ⟨(RX1, TX1, 9), rfl, by decide, by decide, rfl, ck_2, Or.inl ⟨_, tb_227, Or.inl rfl⟩⟩
theorem pf_X1_37 {M : mt_T} (h1 : M.1.name = "<init>") (h2 : M.1.cls = RX1) : ex_pf M 37 2 2 (.int) := ⟨(RX1, TX1, 9), rfl, by decide +kernel, Or.inr ⟨rfl, h1, h2.symm, by rw [h2]; exact tb_227⟩⟩
theorem lc_X1_40 : Cond.constantLong RX1 40 (-1) ∈ ex_TB := tb_1129
theorem oi_X2_1 : Cond.methodLink RX2 1 objectInit ∈ ex_TB ∧ Cond.instanceMethod objectInit ∈ ex_TB ∧ Cond.code objectInit ⟨#[0xb1]⟩ 1 none ∈ ex_TB := ⟨tb_510, tb_40, tb_41⟩
theorem fl_X2_7 : ex_fl RX2 7 3 0 0 := ⟨(RX2, TX2, 2), rfl, by decide, by decide, rfl, ck_3, Or.inl ⟨_, tb_511, Or.inl rfl⟩⟩
theorem pf_X2_7 (M : mt_T) : ex_pf M 7 3 0 (.boolean) := ⟨(RX2, TX2, 2), rfl, by decide +kernel, Or.inl rfl⟩
theorem fl_X2_13 : ex_fl RX2 13 3 1 1 := ⟨(RX2, TX2, 2), rfl, by decide, by decide, rfl, ck_3, Or.inl ⟨_, tb_513, Or.inl rfl⟩⟩
theorem pf_X2_13 (M : mt_T) : ex_pf M 13 3 1 (.long) := ⟨(RX2, TX2, 2), rfl, by decide +kernel, Or.inl rfl⟩
theorem gc_X3_54 : Cond.fieldLink RX3 54 "BondOffice$Kind" "secondMost" "I" ∈ ex_TB ∨ ∃ host, Cond.fieldLinkNest RX3 54 "BondOffice$Kind" "secondMost" "I" host ∈ ex_NB := Or.inl tb_1520
theorem oi_X4_3 : Cond.methodLink RX4 3 objectInit ∈ ex_TB ∧ Cond.instanceMethod objectInit ∈ ex_TB ∧ Cond.code objectInit ⟨#[0xb1]⟩ 1 none ∈ ex_TB := ⟨tb_73, tb_40, tb_41⟩
theorem nl_X4_9 : ex_nl RX4 9 0 := ⟨(RJx4a65c, TJx4a65c, 3), rfl, by decide, ck_0, tb_74, tb_43, tb_4, rfl, nz_0⟩
theorem cI_X4_11 : ex_cI RX4 11 mJx4a65c_init_da8c8 0 := ⟨⟨tb_46, tb_4, ⟨by decide +kernel, by decide +kernel⟩, by decide +kernel, by decide⟩, Or.inl tb_75, tb_45, rfl, rfl⟩
theorem fl_X4_12 : ex_fl RX4 12 4 0 2 := ⟨(RX4, TX4, 3), rfl, by decide, by decide, rfl, ck_4, Or.inl ⟨_, tb_76, Or.inl rfl⟩⟩
theorem pf_X4_12 {M : mt_T} (h1 : M.1.name = "<init>") (h2 : M.1.cls = RX4) : ex_pf M 12 4 0 (.object "java/util/ArrayList") := ⟨(RX4, TX4, 3), rfl, by decide +kernel, Or.inr ⟨rfl, h1, h2.symm, by rw [h2]; exact tb_76⟩⟩
theorem fl_X4_18 : ex_fl RX4 18 4 1 2 := ⟨(RX4, TX4, 3), rfl, by decide, by decide, rfl, ck_4, Or.inl ⟨_, tb_78, Or.inl rfl⟩⟩
theorem pf_X4_18 {M : mt_T} (h1 : M.1.name = "<init>") (h2 : M.1.cls = RX4) : ex_pf M 18 4 1 (.object "java/util/ArrayList") := ⟨(RX4, TX4, 3), rfl, by decide +kernel, Or.inr ⟨rfl, h1, h2.symm, by rw [h2]; exact tb_78⟩⟩
theorem fl_X4_21 : ex_fl RX4 21 4 2 0 := ⟨(RX4, TX4, 3), rfl, by decide, by decide, rfl, ck_4, Or.inl ⟨_, tb_79, Or.inl rfl⟩⟩
theorem pf_X4_21 (M : mt_T) : ex_pf M 21 4 2 (.int) := ⟨(RX4, TX4, 3), rfl, by decide +kernel, Or.inl rfl⟩
theorem lc_X4_25 : Cond.constant RX4 25 (1000000000) ∈ ex_TB := tb_575
theorem cV_X4_26 : ex_cV RX4 26 mJx4a65c_size_8abf5 0 := ⟨⟨tb_138, tb_4, ⟨by decide +kernel, by decide +kernel⟩, by decide +kernel, by decide⟩, tb_135, tb_136, tb_137⟩
theorem cV_X4_30 : ex_cV RX4 30 mX4_begin 4 := ⟨⟨tb_579, tb_5, ⟨by decide +kernel, by decide +kernel⟩, by decide +kernel, by decide⟩, tb_576, tb_578, ps_13⟩
theorem cV_X4_34 : ex_cV RX4 34 mJx4a65c_add_9ea2d 1 := ⟨⟨tb_361, tb_4, ⟨by decide +kernel, by decide +kernel⟩, by decide +kernel, by decide⟩, tb_606, tb_359, tb_360⟩
theorem cV_X4_38 : ex_cV RX4 38 mX4_ownsAll 3 := ⟨⟨tb_626, tb_5, ⟨by decide +kernel, by decide +kernel⟩, by decide +kernel, by decide⟩, tb_623, tb_625, ps_15⟩
theorem cV_X4_42 : ex_cV RX4 42 mX4_linesMadeByPassing 3 := ⟨⟨tb_636, tb_5, ⟨by decide +kernel, by decide +kernel⟩, by decide +kernel, by decide⟩, tb_633, tb_635, ps_16⟩
theorem cV_X4_46 : ex_cV RX4 46 mJx4a65c_get_915e3 1 := ⟨⟨tb_142, tb_4, ⟨by decide +kernel, by decide +kernel⟩, by decide +kernel, by decide⟩, tb_139, tb_140, tb_141⟩
theorem kl_X4_50 : Cond.classLink RX4 50 "BondOffice$Line" ∈ ex_TB := tb_153
theorem cV_X4_52 : ex_cV RX4 52 mX5_goesOn 0 := ⟨⟨tb_640, tb_20, ⟨by decide +kernel, by decide +kernel⟩, by decide +kernel, by decide⟩, tb_637, tb_638, tb_639⟩
theorem cV_X4_56 : ex_cV RX4 56 mX5_common 2 := ⟨⟨tb_630, tb_20, ⟨by decide +kernel, by decide +kernel⟩, by decide +kernel, by decide⟩, tb_627, tb_628, tb_629⟩
theorem cV_X4_60 : ex_cV RX4 60 mX4_passOne 5 := ⟨⟨tb_644, tb_5, ⟨by decide +kernel, by decide +kernel⟩, by decide +kernel, by decide⟩, tb_641, tb_643, ps_17⟩
theorem fl_X4_64 : ex_fl RX4 64 5 2 0 := ⟨(RX5, TX5, 5), rfl, by decide, by decide, rfl, ck_5, Or.inr ⟨_, nb_590⟩⟩
theorem fl_X4_67 : ex_fl RX4 67 5 0 0 := ⟨(RX5, TX5, 5), rfl, by decide, by decide, rfl, ck_5, Or.inr ⟨_, nb_586⟩⟩
theorem fl_X4_70 : ex_fl RX4 70 5 1 0 := ⟨(RX5, TX5, 5), rfl, by decide, by decide, rfl, ck_5, Or.inr ⟨_, nb_588⟩⟩
theorem cV_X4_73 : ex_cV RX4 73 mX5_contains 1 := ⟨⟨tb_157, tb_20, ⟨by decide +kernel, by decide +kernel⟩, by decide +kernel, by decide⟩, tb_154, tb_155, tb_156⟩
theorem cV_X4_77 : ex_cV RX4 77 mX5_isInForceOn 1 := ⟨⟨tb_161, tb_20, ⟨by decide +kernel, by decide +kernel⟩, by decide +kernel, by decide⟩, tb_158, tb_159, tb_160⟩
theorem cV_X4_80 : ex_cV RX4 80 mX4_placeAmongGoing 1 := ⟨⟨tb_331, tb_5, ⟨by decide +kernel, by decide +kernel⟩, by decide +kernel, by decide⟩, tb_328, tb_330, ps_5⟩
theorem cV_X4_84 : ex_cV RX4 84 mX5_size 0 := ⟨⟨tb_209, tb_20, ⟨by decide +kernel, by decide +kernel⟩, by decide +kernel, by decide⟩, tb_206, tb_207, tb_208⟩
theorem lc_X4_85 : Cond.constant RX4 85 (100000) ∈ ex_TB := tb_275
theorem cV_X4_86 : ex_cV RX4 86 mX4_bondsSince 1 := ⟨⟨tb_205, tb_5, ⟨by decide +kernel, by decide +kernel⟩, by decide +kernel, by decide⟩, tb_276, tb_203, tb_204⟩
theorem fl_X4_89 : ex_fl RX4 89 5 3 0 := ⟨(RX5, TX5, 5), rfl, by decide, by decide, rfl, ck_5, Or.inr ⟨_, nb_592⟩⟩
theorem nl_X4_50 : ex_nl RX4 50 5 := ⟨(RX5, TX5, 5), rfl, by decide, ck_5, tb_153, tb_580, tb_20, rfl, nz_5⟩
theorem cI_X4_92 : ex_cI RX4 92 mX5_init 4 := ⟨⟨tb_583, tb_20, ⟨by decide +kernel, by decide +kernel⟩, by decide +kernel, by decide⟩, Or.inl tb_581, tb_582, rfl, rfl⟩
theorem fl_X4_95 : ex_fl RX4 95 5 4 0 := ⟨(RX5, TX5, 5), rfl, by decide, by decide, rfl, ck_5, Or.inr ⟨_, nb_594⟩⟩
theorem pf_X4_95 (M : mt_T) : ex_pf M 95 5 4 (.int) := ⟨(RX5, TX5, 5), rfl, by decide +kernel, Or.inl rfl⟩
theorem ml_X4_98 : Cond.methodLink RX4 98 Lib.Math.max.name ∈ ex_TB := tb_645
theorem ml_X4_103 : Cond.methodLink RX4 103 Lib.Math.min.name ∈ ex_TB := tb_646
theorem cV_X4_106 : ex_cV RX4 106 mX4_replaceAmongGoing 4 := ⟨⟨tb_650, tb_5, ⟨by decide +kernel, by decide +kernel⟩, by decide +kernel, by decide⟩, tb_647, tb_649, ps_18⟩
theorem cV_X4_110 : ex_cV RX4 110 mJx4a65c_add_7a177 2 := ⟨⟨tb_654, tb_4, ⟨by decide +kernel, by decide +kernel⟩, by decide +kernel, by decide⟩, tb_651, tb_652, tb_653⟩
theorem cV_X4_113 : ex_cV RX4 113 mJx4a65c_set_bcc79 2 := ⟨⟨tb_900, tb_4, ⟨by decide +kernel, by decide +kernel⟩, by decide +kernel, by decide⟩, tb_897, tb_898, tb_899⟩
theorem cV_X4_117 : ex_cV RX4 117 mJx4a65c_remove_915e3 1 := ⟨⟨tb_904, tb_4, ⟨by decide +kernel, by decide +kernel⟩, by decide +kernel, by decide⟩, tb_901, tb_902, tb_903⟩
theorem oi_X5_3 : Cond.methodLink RX5 3 objectInit ∈ ex_TB ∧ Cond.instanceMethod objectInit ∈ ex_TB ∧ Cond.code objectInit ⟨#[0xb1]⟩ 1 none ∈ ex_TB := ⟨tb_584, tb_40, tb_41⟩
theorem fl_X5_9 : ex_fl RX5 9 5 4 0 := ⟨(RX5, TX5, 5), rfl, by decide, by decide, rfl, ck_5, Or.inl ⟨_, tb_593, Or.inl rfl⟩⟩
theorem pf_X5_9 (M : mt_T) : ex_pf M 9 5 4 (.int) := ⟨(RX5, TX5, 5), rfl, by decide +kernel, Or.inl rfl⟩
theorem fl_X5_15 : ex_fl RX5 15 5 0 0 := ⟨(RX5, TX5, 5), rfl, by decide, by decide, rfl, ck_5, Or.inl ⟨_, tb_585, Or.inl rfl⟩⟩
theorem pf_X5_15 {M : mt_T} (h1 : M.1.name = "<init>") (h2 : M.1.cls = RX5) : ex_pf M 15 5 0 (.int) := ⟨(RX5, TX5, 5), rfl, by decide +kernel, Or.inr ⟨rfl, h1, h2.symm, by rw [h2]; exact tb_585⟩⟩
theorem fl_X5_18 : ex_fl RX5 18 5 1 0 := ⟨(RX5, TX5, 5), rfl, by decide, by decide, rfl, ck_5, Or.inl ⟨_, tb_587, Or.inl rfl⟩⟩
theorem pf_X5_18 {M : mt_T} (h1 : M.1.name = "<init>") (h2 : M.1.cls = RX5) : ex_pf M 18 5 1 (.int) := ⟨(RX5, TX5, 5), rfl, by decide +kernel, Or.inr ⟨rfl, h1, h2.symm, by rw [h2]; exact tb_587⟩⟩
theorem fl_X5_21 : ex_fl RX5 21 5 2 0 := ⟨(RX5, TX5, 5), rfl, by decide, by decide, rfl, ck_5, Or.inl ⟨_, tb_589, Or.inl rfl⟩⟩
theorem pf_X5_21 {M : mt_T} (h1 : M.1.name = "<init>") (h2 : M.1.cls = RX5) : ex_pf M 21 5 2 (.int) := ⟨(RX5, TX5, 5), rfl, by decide +kernel, Or.inr ⟨rfl, h1, h2.symm, by rw [h2]; exact tb_589⟩⟩
theorem fl_X5_24 : ex_fl RX5 24 5 3 0 := ⟨(RX5, TX5, 5), rfl, by decide, by decide, rfl, ck_5, Or.inl ⟨_, tb_591, Or.inl rfl⟩⟩
theorem pf_X5_24 {M : mt_T} (h1 : M.1.name = "<init>") (h2 : M.1.cls = RX5) : ex_pf M 24 5 3 (.int) := ⟨(RX5, TX5, 5), rfl, by decide +kernel, Or.inr ⟨rfl, h1, h2.symm, by rw [h2]; exact tb_591⟩⟩
theorem ml_X5_27 : Cond.methodLink RX5 27 Lib.Math.max.name ∈ ex_TB := tb_631
theorem ml_X5_33 : Cond.methodLink RX5 33 Lib.Math.min.name ∈ ex_TB := tb_632
theorem oi_X6_1 : Cond.methodLink RX6 1 objectInit ∈ ex_TB ∧ Cond.instanceMethod objectInit ∈ ex_TB ∧ Cond.code objectInit ⟨#[0xb1]⟩ 1 none ∈ ex_TB := ⟨tb_974, tb_40, tb_41⟩
theorem nl_X6_7 : ex_nl RX6 7 0 := ⟨(RJx4a65c, TJx4a65c, 3), rfl, by decide, ck_0, tb_975, tb_43, tb_4, rfl, nz_0⟩
theorem cI_X6_9 : ex_cI RX6 9 mJx4a65c_init_da8c8 0 := ⟨⟨tb_46, tb_4, ⟨by decide +kernel, by decide +kernel⟩, by decide +kernel, by decide⟩, Or.inl tb_976, tb_45, rfl, rfl⟩
theorem fl_X6_10 : ex_fl RX6 10 6 1 2 := ⟨(RX6, TX6, 2), rfl, by decide, by decide, rfl, ck_6, Or.inl ⟨_, tb_979, Or.inl rfl⟩⟩
theorem pf_X6_10 {M : mt_T} (h1 : M.1.name = "<init>") (h2 : M.1.cls = RX6) : ex_pf M 10 6 1 (.object "java/util/ArrayList") := ⟨(RX6, TX6, 2), rfl, by decide +kernel, Or.inr ⟨rfl, h1, h2.symm, by rw [h2]; exact tb_979⟩⟩
theorem fl_X6_16 : ex_fl RX6 16 6 0 0 := ⟨(RX6, TX6, 2), rfl, by decide, by decide, rfl, ck_6, Or.inl ⟨_, tb_977, Or.inl rfl⟩⟩
theorem pf_X6_16 {M : mt_T} (h1 : M.1.name = "<init>") (h2 : M.1.cls = RX6) : ex_pf M 16 6 0 (.int) := ⟨(RX6, TX6, 2), rfl, by decide +kernel, Or.inr ⟨rfl, h1, h2.symm, by rw [h2]; exact tb_977⟩⟩
theorem cV_X6_20 : ex_cV RX6 20 mJx4a65c_size_8abf5 0 := ⟨⟨tb_138, tb_4, ⟨by decide +kernel, by decide +kernel⟩, by decide +kernel, by decide⟩, tb_194, tb_136, tb_137⟩
theorem cV_X6_24 : ex_cV RX6 24 mJx4a65c_get_915e3 1 := ⟨⟨tb_142, tb_4, ⟨by decide +kernel, by decide +kernel⟩, by decide +kernel, by decide⟩, tb_195, tb_140, tb_141⟩
theorem kl_X6_28 : Cond.classLink RX6 28 "BondOffice$Clause" ∈ ex_TB := tb_196
theorem fl_X6_30 : ex_fl RX6 30 1 0 2 := ⟨(RX0, TX0, 3), rfl, by decide, by decide, rfl, ck_1, Or.inr ⟨_, nb_1103⟩⟩
theorem gs_X6_34 : Cond.fieldLink RX6 34 "BondOffice$Kind" "DAYS" "LBondOffice$Kind;" ∈ ex_TB := tb_197
theorem fl_X6_39 : ex_fl RX6 39 1 1 0 := ⟨(RX0, TX0, 3), rfl, by decide, by decide, rfl, ck_1, Or.inr ⟨_, nb_1105⟩⟩
theorem ml_X6_42 : Cond.methodLink RX6 42 Lib.Math.max.name ∈ ex_TB := tb_199
theorem cV_X6_48 : ex_cV RX6 48 mX0_fundFor 1 := ⟨⟨tb_284, tb_29, ⟨by decide +kernel, by decide +kernel⟩, by decide +kernel, by decide⟩, tb_281, tb_282, tb_283⟩
theorem oi_X7_3 : Cond.methodLink RX7 3 objectInit ∈ ex_TB ∧ Cond.instanceMethod objectInit ∈ ex_TB ∧ Cond.code objectInit ⟨#[0xb1]⟩ 1 none ∈ ex_TB := ⟨tb_992, tb_40, tb_41⟩
theorem fl_X7_9 : ex_fl RX7 9 7 2 0 := ⟨(RX7, TX7, 5), rfl, by decide, by decide, rfl, ck_7, Or.inl ⟨_, tb_995, Or.inl rfl⟩⟩
theorem pf_X7_9 (M : mt_T) : ex_pf M 9 7 2 (.int) := ⟨(RX7, TX7, 5), rfl, by decide +kernel, Or.inl rfl⟩
theorem fl_X7_15 : ex_fl RX7 15 7 3 0 := ⟨(RX7, TX7, 5), rfl, by decide, by decide, rfl, ck_7, Or.inl ⟨_, tb_996, Or.inl rfl⟩⟩
theorem pf_X7_15 (M : mt_T) : ex_pf M 15 7 3 (.int) := ⟨(RX7, TX7, 5), rfl, by decide +kernel, Or.inl rfl⟩
theorem fl_X7_18 : ex_fl RX7 18 7 4 0 := ⟨(RX7, TX7, 5), rfl, by decide, by decide, rfl, ck_7, Or.inl ⟨_, tb_998, Or.inl rfl⟩⟩
theorem pf_X7_18 (M : mt_T) : ex_pf M 18 7 4 (.int) := ⟨(RX7, TX7, 5), rfl, by decide +kernel, Or.inl rfl⟩
theorem fl_X7_21 : ex_fl RX7 21 7 0 2 := ⟨(RX7, TX7, 5), rfl, by decide, by decide, rfl, ck_7, Or.inl ⟨_, tb_993, Or.inl rfl⟩⟩
theorem pf_X7_21 {M : mt_T} (h1 : M.1.name = "<init>") (h2 : M.1.cls = RX7) : ex_pf M 21 7 0 (.array (.byte)) := ⟨(RX7, TX7, 5), rfl, by decide +kernel, Or.inr ⟨rfl, h1, h2.symm, by rw [h2]; exact tb_993⟩⟩
theorem fl_X7_25 : ex_fl RX7 25 7 1 0 := ⟨(RX7, TX7, 5), rfl, by decide, by decide, rfl, ck_7, Or.inl ⟨_, tb_994, Or.inl rfl⟩⟩
theorem pf_X7_25 {M : mt_T} (h1 : M.1.name = "<init>") (h2 : M.1.cls = RX7) : ex_pf M 25 7 1 (.int) := ⟨(RX7, TX7, 5), rfl, by decide +kernel, Or.inr ⟨rfl, h1, h2.symm, by rw [h2]; exact tb_994⟩⟩
theorem cV_X7_28 : ex_cV RX7 28 mX7_skipBlanks 0 := ⟨⟨tb_1018, tb_28, ⟨by decide +kernel, by decide +kernel⟩, by decide +kernel, by decide⟩, tb_1015, tb_1017, ps_22⟩
theorem cV_X7_31 : ex_cV RX7 31 mX7_readClause 1 := ⟨⟨tb_1026, tb_28, ⟨by decide +kernel, by decide +kernel⟩, by decide +kernel, by decide⟩, tb_1023, tb_1025, ps_24⟩
theorem cV_X7_35 : ex_cV RX7 35 mX7_readKind 0 := ⟨⟨tb_1030, tb_28, ⟨by decide +kernel, by decide +kernel⟩, by decide +kernel, by decide⟩, tb_1027, tb_1029, ps_25⟩
theorem cV_X7_39 : ex_cV RX7 39 mX7_blame 2 := ⟨⟨tb_1070, tb_28, ⟨by decide +kernel, by decide +kernel⟩, by decide +kernel, by decide⟩, tb_1067, tb_1069, ps_28⟩
theorem fl_X7_43 : ex_fl RX7 43 6 1 2 := ⟨(RX6, TX6, 2), rfl, by decide, by decide, rfl, ck_6, Or.inr ⟨_, nb_980⟩⟩
theorem cV_X7_49 : ex_cV RX7 49 mJx4a65c_size_8abf5 0 := ⟨⟨tb_138, tb_4, ⟨by decide +kernel, by decide +kernel⟩, by decide +kernel, by decide⟩, tb_1071, tb_136, tb_137⟩
theorem gc_X7_55 : Cond.fieldLink RX7 55 "BondOffice$Kind" "firstLeast" "I" ∈ ex_TB ∨ ∃ host, Cond.fieldLinkNest RX7 55 "BondOffice$Kind" "firstLeast" "I" host ∈ ex_NB := Or.inr ⟨_, nb_1518⟩
theorem gc_X7_60 : Cond.fieldLink RX7 60 "BondOffice$Kind" "firstMost" "I" ∈ ex_TB ∨ ∃ host, Cond.fieldLinkNest RX7 60 "BondOffice$Kind" "firstMost" "I" host ∈ ex_NB := Or.inr ⟨_, nb_1519⟩
theorem cV_X7_63 : ex_cV RX7 63 mX7_readNumber 2 := ⟨⟨tb_1075, tb_28, ⟨by decide +kernel, by decide +kernel⟩, by decide +kernel, by decide⟩, tb_1072, tb_1074, ps_29⟩
theorem cV_X7_67 : ex_cV RX7 67 mX3_hasSecond 0 := ⟨⟨tb_1086, tb_31, ⟨by decide +kernel, by decide +kernel⟩, by decide +kernel, by decide⟩, tb_1083, tb_1084, tb_1085⟩
theorem gc_X7_71 : Cond.fieldLink RX7 71 "BondOffice$Kind" "joint" "Ljava/lang/String;" ∈ ex_TB ∨ ∃ host, Cond.fieldLinkNest RX7 71 "BondOffice$Kind" "joint" "Ljava/lang/String;" host ∈ ex_NB := Or.inr ⟨_, nb_1521⟩
theorem cV_X7_75 : ex_cV RX7 75 mJ0_isEmpty_aae02 0 := ⟨⟨tb_1090, tb_23, ⟨by decide +kernel, by decide +kernel⟩, by decide +kernel, by decide⟩, tb_1087, tb_1088, tb_1089⟩
theorem cV_X7_80 : ex_cV RX7 80 mX7_expect 1 := ⟨⟨tb_1094, tb_28, ⟨by decide +kernel, by decide +kernel⟩, by decide +kernel, by decide⟩, tb_1091, tb_1093, ps_30⟩
theorem gc_X7_84 : Cond.fieldLink RX7 84 "BondOffice$Kind" "secondLeast" "I" ∈ ex_TB ∨ ∃ host, Cond.fieldLinkNest RX7 84 "BondOffice$Kind" "secondLeast" "I" host ∈ ex_NB := Or.inr ⟨_, nb_1522⟩
theorem gc_X7_87 : Cond.fieldLink RX7 87 "BondOffice$Kind" "secondMost" "I" ∈ ex_TB ∨ ∃ host, Cond.fieldLinkNest RX7 87 "BondOffice$Kind" "secondMost" "I" host ∈ ex_NB := Or.inr ⟨_, nb_1523⟩
theorem nl_X7_92 : ex_nl RX7 92 1 := ⟨(RX0, TX0, 3), rfl, by decide, ck_1, tb_1096, tb_1097, tb_29, rfl, nz_1⟩
theorem cI_X7_94 : ex_cI RX7 94 mX0_init 3 := ⟨⟨tb_1100, tb_29, ⟨by decide +kernel, by decide +kernel⟩, by decide +kernel, by decide⟩, Or.inl tb_1098, tb_1099, rfl, rfl⟩
theorem cV_X7_97 : ex_cV RX7 97 mJx4a65c_add_9ea2d 1 := ⟨⟨tb_361, tb_4, ⟨by decide +kernel, by decide +kernel⟩, by decide +kernel, by decide⟩, tb_1115, tb_359, tb_360⟩
theorem cV_X7_101 : ex_cV RX7 101 mX7_endOfToken 1 := ⟨⟨tb_1034, tb_28, ⟨by decide +kernel, by decide +kernel⟩, by decide +kernel, by decide⟩, tb_1031, tb_1033, ps_26⟩
theorem gs_X7_105 : Cond.fieldLink RX7 105 "BondOffice$RuleReader" "KINDS" "[LBondOffice$Kind;" ∈ ex_TB := tb_1038
theorem gc_X7_109 : Cond.fieldLink RX7 109 "BondOffice$Kind" "word" "Ljava/lang/String;" ∈ ex_TB ∨ ∃ host, Cond.fieldLinkNest RX7 109 "BondOffice$Kind" "word" "Ljava/lang/String;" host ∈ ex_NB := Or.inr ⟨_, nb_1517⟩
theorem cV_X7_112 : ex_cV RX7 112 mX7_isToken 3 := ⟨⟨tb_1043, tb_28, ⟨by decide +kernel, by decide +kernel⟩, by decide +kernel, by decide⟩, tb_1040, tb_1042, ps_27⟩
theorem cV_X7_116 : ex_cV RX7 116 mX7_byteAt 1 := ⟨⟨tb_1022, tb_28, ⟨by decide +kernel, by decide +kernel⟩, by decide +kernel, by decide⟩, tb_1019, tb_1021, ps_23⟩
theorem cS_X7_119 : ex_cS RX7 119 mX7_isDigit 1 := ⟨⟨tb_1078, tb_28, ⟨by decide +kernel, by decide +kernel⟩, by decide +kernel, by decide⟩, Or.inl tb_1076, tb_1077⟩
theorem lc_X7_123 : Cond.constantLong RX7 123 (10) ∈ ex_TB := tb_1079
theorem lc_X7_125 : Cond.constantLong RX7 125 (48) ∈ ex_TB := tb_1080
theorem lc_X7_127 : Cond.constantLong RX7 127 (1000000001) ∈ ex_TB := tb_1081
theorem ml_X7_129 : Cond.methodLink RX7 129 Lib.MathLoose.min_long.x ∈ ex_TB := tb_1082
theorem cS_X7_135 : ex_cS RX7 135 mX7_isLetter 1 := ⟨⟨tb_1037, tb_28, ⟨by decide +kernel, by decide +kernel⟩, by decide +kernel, by decide⟩, Or.inl tb_1035, tb_1036⟩
theorem cV_X7_138 : ex_cV RX7 138 mJ0_length_8abf5 0 := ⟨⟨tb_761, tb_23, ⟨by decide +kernel, by decide +kernel⟩, by decide +kernel, by decide⟩, tb_1044, tb_759, tb_760⟩
theorem cV_X7_140 : ex_cV RX7 140 mJ0_charAt_5068e 1 := ⟨⟨tb_1048, tb_23, ⟨by decide +kernel, by decide +kernel⟩, by decide +kernel, by decide⟩, tb_1045, tb_1046, tb_1047⟩
theorem oi_X8_3 : Cond.methodLink RX8 3 objectInit ∈ ex_TB ∧ Cond.instanceMethod objectInit ∈ ex_TB ∧ Cond.code objectInit ⟨#[0xb1]⟩ 1 none ∈ ex_TB := ⟨tb_335, tb_40, tb_41⟩
theorem fl_X8_9 : ex_fl RX8 9 8 5 0 := ⟨(RX8, TX8, 6), rfl, by decide, by decide, rfl, ck_8, Or.inl ⟨_, tb_343, Or.inl rfl⟩⟩
theorem pf_X8_9 (M : mt_T) : ex_pf M 9 8 5 (.int) := ⟨(RX8, TX8, 6), rfl, by decide +kernel, Or.inl rfl⟩
theorem fl_X8_15 : ex_fl RX8 15 8 0 0 := ⟨(RX8, TX8, 6), rfl, by decide, by decide, rfl, ck_8, Or.inl ⟨_, tb_336, Or.inl rfl⟩⟩
theorem pf_X8_15 {M : mt_T} (h1 : M.1.name = "<init>") (h2 : M.1.cls = RX8) : ex_pf M 15 8 0 (.int) := ⟨(RX8, TX8, 6), rfl, by decide +kernel, Or.inr ⟨rfl, h1, h2.symm, by rw [h2]; exact tb_336⟩⟩
theorem fl_X8_18 : ex_fl RX8 18 8 1 0 := ⟨(RX8, TX8, 6), rfl, by decide, by decide, rfl, ck_8, Or.inl ⟨_, tb_337, Or.inl rfl⟩⟩
theorem pf_X8_18 {M : mt_T} (h1 : M.1.name = "<init>") (h2 : M.1.cls = RX8) : ex_pf M 18 8 1 (.int) := ⟨(RX8, TX8, 6), rfl, by decide +kernel, Or.inr ⟨rfl, h1, h2.symm, by rw [h2]; exact tb_337⟩⟩
theorem fl_X8_21 : ex_fl RX8 21 8 2 0 := ⟨(RX8, TX8, 6), rfl, by decide, by decide, rfl, ck_8, Or.inl ⟨_, tb_338, Or.inl rfl⟩⟩
theorem pf_X8_21 {M : mt_T} (h1 : M.1.name = "<init>") (h2 : M.1.cls = RX8) : ex_pf M 21 8 2 (.int) := ⟨(RX8, TX8, 6), rfl, by decide +kernel, Or.inr ⟨rfl, h1, h2.symm, by rw [h2]; exact tb_338⟩⟩
theorem fl_X8_24 : ex_fl RX8 24 8 3 0 := ⟨(RX8, TX8, 6), rfl, by decide, by decide, rfl, ck_8, Or.inl ⟨_, tb_339, Or.inl rfl⟩⟩
theorem pf_X8_24 (M : mt_T) : ex_pf M 24 8 3 (.int) := ⟨(RX8, TX8, 6), rfl, by decide +kernel, Or.inl rfl⟩
theorem fl_X8_27 : ex_fl RX8 27 8 4 0 := ⟨(RX8, TX8, 6), rfl, by decide, by decide, rfl, ck_8, Or.inl ⟨_, tb_341, Or.inl rfl⟩⟩
theorem pf_X8_27 {M : mt_T} (h1 : M.1.name = "<init>") (h2 : M.1.cls = RX8) : ex_pf M 27 8 4 (.int) := ⟨(RX8, TX8, 6), rfl, by decide +kernel, Or.inr ⟨rfl, h1, h2.symm, by rw [h2]; exact tb_341⟩⟩
theorem oi_X9_1 : Cond.methodLink RX9 1 objectInit ∈ ex_TB ∧ Cond.instanceMethod objectInit ∈ ex_TB ∧ Cond.code objectInit ⟨#[0xb1]⟩ 1 none ∈ ex_TB := ⟨tb_39, tb_40, tb_41⟩
theorem nl_X9_7 : ex_nl RX9 7 0 := ⟨(RJx4a65c, TJx4a65c, 3), rfl, by decide, ck_0, tb_42, tb_43, tb_4, rfl, nz_0⟩
theorem cI_X9_9 : ex_cI RX9 9 mJx4a65c_init_da8c8 0 := ⟨⟨tb_46, tb_4, ⟨by decide +kernel, by decide +kernel⟩, by decide +kernel, by decide⟩, Or.inl tb_44, tb_45, rfl, rfl⟩
theorem fl_X9_10 : ex_fl RX9 10 9 0 2 := ⟨(RX9, TX9, 12), rfl, by decide, by decide, rfl, ck_9, Or.inl ⟨_, tb_88, Or.inl rfl⟩⟩
theorem pf_X9_10 {M : mt_T} (h1 : M.1.name = "<init>") (h2 : M.1.cls = RX9) : ex_pf M 10 9 0 (.object "java/util/ArrayList") := ⟨(RX9, TX9, 12), rfl, by decide +kernel, Or.inr ⟨rfl, h1, h2.symm, by rw [h2]; exact tb_88⟩⟩
theorem nl_X9_16 : ex_nl RX9 16 4 := ⟨(RX4, TX4, 3), rfl, by decide, ck_4, tb_68, tb_69, tb_5, rfl, nz_4⟩
theorem cI_X9_18 : ex_cI RX9 18 mX4_init 0 := ⟨⟨tb_72, tb_5, ⟨by decide +kernel, by decide +kernel⟩, by decide +kernel, by decide⟩, Or.inr ⟨_, nb_70⟩, tb_71, rfl, rfl⟩
theorem fl_X9_19 : ex_fl RX9 19 9 1 2 := ⟨(RX9, TX9, 12), rfl, by decide, by decide, rfl, ck_9, Or.inl ⟨_, tb_89, Or.inl rfl⟩⟩
theorem pf_X9_19 {M : mt_T} (h1 : M.1.name = "<init>") (h2 : M.1.cls = RX9) : ex_pf M 19 9 1 (.object "BondOffice$Ledger") := ⟨(RX9, TX9, 12), rfl, by decide +kernel, Or.inr ⟨rfl, h1, h2.symm, by rw [h2]; exact tb_89⟩⟩
theorem fl_X9_23 : ex_fl RX9 23 9 2 2 := ⟨(RX9, TX9, 12), rfl, by decide, by decide, rfl, ck_9, Or.inl ⟨_, tb_90, Or.inl rfl⟩⟩
theorem pf_X9_23 {M : mt_T} (h1 : M.1.name = "<init>") (h2 : M.1.cls = RX9) : ex_pf M 23 9 2 (.array (.byte)) := ⟨(RX9, TX9, 12), rfl, by decide +kernel, Or.inr ⟨rfl, h1, h2.symm, by rw [h2]; exact tb_90⟩⟩
theorem fl_X9_27 : ex_fl RX9 27 9 3 0 := ⟨(RX9, TX9, 12), rfl, by decide, by decide, rfl, ck_9, Or.inl ⟨_, tb_91, Or.inl rfl⟩⟩
theorem pf_X9_27 (M : mt_T) : ex_pf M 27 9 3 (.int) := ⟨(RX9, TX9, 12), rfl, by decide +kernel, Or.inl rfl⟩
theorem fl_X9_31 : ex_fl RX9 31 9 4 2 := ⟨(RX9, TX9, 12), rfl, by decide, by decide, rfl, ck_9, Or.inl ⟨_, tb_92, Or.inl rfl⟩⟩
theorem pf_X9_31 {M : mt_T} (h1 : M.1.name = "<init>") (h2 : M.1.cls = RX9) : ex_pf M 31 9 4 (.object "java/util/ArrayList") := ⟨(RX9, TX9, 12), rfl, by decide +kernel, Or.inr ⟨rfl, h1, h2.symm, by rw [h2]; exact tb_92⟩⟩
theorem fl_X9_34 : ex_fl RX9 34 9 5 0 := ⟨(RX9, TX9, 12), rfl, by decide, by decide, rfl, ck_9, Or.inl ⟨_, tb_93, Or.inl rfl⟩⟩
theorem pf_X9_34 (M : mt_T) : ex_pf M 34 9 5 (.int) := ⟨(RX9, TX9, 12), rfl, by decide +kernel, Or.inl rfl⟩
theorem fl_X9_37 : ex_fl RX9 37 9 6 2 := ⟨(RX9, TX9, 12), rfl, by decide, by decide, rfl, ck_9, Or.inl ⟨_, tb_94, Or.inl rfl⟩⟩
theorem pf_X9_37 {M : mt_T} (h1 : M.1.name = "<init>") (h2 : M.1.cls = RX9) : ex_pf M 37 9 6 (.array (.int)) := ⟨(RX9, TX9, 12), rfl, by decide +kernel, Or.inr ⟨rfl, h1, h2.symm, by rw [h2]; exact tb_94⟩⟩
theorem fl_X9_41 : ex_fl RX9 41 9 7 0 := ⟨(RX9, TX9, 12), rfl, by decide, by decide, rfl, ck_9, Or.inl ⟨_, tb_95, Or.inl rfl⟩⟩
theorem pf_X9_41 (M : mt_T) : ex_pf M 41 9 7 (.int) := ⟨(RX9, TX9, 12), rfl, by decide +kernel, Or.inl rfl⟩
theorem fl_X9_44 : ex_fl RX9 44 9 8 2 := ⟨(RX9, TX9, 12), rfl, by decide, by decide, rfl, ck_9, Or.inl ⟨_, tb_96, Or.inl rfl⟩⟩
theorem pf_X9_44 {M : mt_T} (h1 : M.1.name = "<init>") (h2 : M.1.cls = RX9) : ex_pf M 44 9 8 (.object "java/util/ArrayList") := ⟨(RX9, TX9, 12), rfl, by decide +kernel, Or.inr ⟨rfl, h1, h2.symm, by rw [h2]; exact tb_96⟩⟩
theorem fl_X9_47 : ex_fl RX9 47 9 9 2 := ⟨(RX9, TX9, 12), rfl, by decide, by decide, rfl, ck_9, Or.inl ⟨_, tb_97, Or.inl rfl⟩⟩
theorem pf_X9_47 {M : mt_T} (h1 : M.1.name = "<init>") (h2 : M.1.cls = RX9) : ex_pf M 47 9 9 (.object "java/util/ArrayList") := ⟨(RX9, TX9, 12), rfl, by decide +kernel, Or.inr ⟨rfl, h1, h2.symm, by rw [h2]; exact tb_97⟩⟩
theorem fl_X9_50 : ex_fl RX9 50 9 10 1 := ⟨(RX9, TX9, 12), rfl, by decide, by decide, rfl, ck_9, Or.inl ⟨_, tb_98, Or.inl rfl⟩⟩
theorem pf_X9_50 (M : mt_T) : ex_pf M 50 9 10 (.long) := ⟨(RX9, TX9, 12), rfl, by decide +kernel, Or.inl rfl⟩
theorem fl_X9_54 : ex_fl RX9 54 9 11 0 := ⟨(RX9, TX9, 12), rfl, by decide, by decide, rfl, ck_9, Or.inl ⟨_, tb_99, Or.inl rfl⟩⟩
theorem pf_X9_54 (M : mt_T) : ex_pf M 54 9 11 (.int) := ⟨(RX9, TX9, 12), rfl, by decide +kernel, Or.inl rfl⟩
theorem cV_X9_57 : ex_cV RX9 57 mJx4a65c_size_8abf5 0 := ⟨⟨tb_138, tb_4, ⟨by decide +kernel, by decide +kernel⟩, by decide +kernel, by decide⟩, tb_178, tb_136, tb_137⟩
theorem nl_X9_68 : ex_nl RX9 68 3 := ⟨(RX2, TX2, 2), rfl, by decide, ck_3, tb_505, tb_506, tb_11, rfl, nz_3⟩
theorem cI_X9_70 : ex_cI RX9 70 mX2_init 0 := ⟨⟨tb_509, tb_11, ⟨by decide +kernel, by decide +kernel⟩, by decide +kernel, by decide⟩, Or.inr ⟨_, nb_507⟩, tb_508, rfl, rfl⟩
theorem cV_X9_71 : ex_cV RX9 71 mJx4a65c_add_9ea2d 1 := ⟨⟨tb_361, tb_4, ⟨by decide +kernel, by decide +kernel⟩, by decide +kernel, by decide⟩, tb_358, tb_359, tb_360⟩
theorem cV_X9_75 : ex_cV RX9 75 mX9_checkHolder 1 := ⟨⟨tb_532, tb_1, ⟨by decide +kernel, by decide +kernel⟩, by decide +kernel, by decide⟩, tb_529, tb_531, ps_11⟩
theorem lc_X9_79 : Cond.constant RX9 79 (10000000) ∈ ex_TB := tb_549
theorem cV_X9_85 : ex_cV RX9 85 mX9_checkAlive 1 := ⟨⟨tb_569, tb_1, ⟨by decide +kernel, by decide +kernel⟩, by decide +kernel, by decide⟩, tb_566, tb_568, ps_12⟩
theorem cV_X9_88 : ex_cV RX9 88 mX4_sell 3 := ⟨⟨tb_574, tb_5, ⟨by decide +kernel, by decide +kernel⟩, by decide +kernel, by decide⟩, tb_571, tb_572, tb_573⟩
theorem cV_X9_92 : ex_cV RX9 92 mX9_checkPair 2 := ⟨⟨tb_617, tb_1, ⟨by decide +kernel, by decide +kernel⟩, by decide +kernel, by decide⟩, tb_614, tb_616, ps_14⟩
theorem cV_X9_96 : ex_cV RX9 96 mX4_pass 5 := ⟨⟨tb_622, tb_5, ⟨by decide +kernel, by decide +kernel⟩, by decide +kernel, by decide⟩, tb_619, tb_620, tb_621⟩
theorem cV_X9_100 : ex_cV RX9 100 mX4_inherit 3 := ⟨⟨tb_926, tb_5, ⟨by decide +kernel, by decide +kernel⟩, by decide +kernel, by decide⟩, tb_923, tb_924, tb_925⟩
theorem cV_X9_103 : ex_cV RX9 103 mJx4a65c_get_915e3 1 := ⟨⟨tb_142, tb_4, ⟨by decide +kernel, by decide +kernel⟩, by decide +kernel, by decide⟩, tb_179, tb_140, tb_141⟩
theorem kl_X9_68 : Cond.classLink RX9 68 "BondOffice$Holder" ∈ ex_TB := tb_505
theorem fl_X9_107 : ex_fl RX9 107 3 0 0 := ⟨(RX2, TX2, 2), rfl, by decide, by decide, rfl, ck_3, Or.inr ⟨_, nb_512⟩⟩
theorem pf_X9_107 (M : mt_T) : ex_pf M 107 3 0 (.boolean) := ⟨(RX2, TX2, 2), rfl, by decide +kernel, Or.inl rfl⟩
theorem kl_X9_111 : Cond.classLink RX9 111 "BondOffice$Win" ∈ ex_TB := tb_214
theorem fl_X9_113 : ex_fl RX9 113 8 3 0 := ⟨(RX8, TX8, 6), rfl, by decide, by decide, rfl, ck_8, Or.inr ⟨_, nb_340⟩⟩
theorem fl_X9_116 : ex_fl RX9 116 8 5 0 := ⟨(RX8, TX8, 6), rfl, by decide, by decide, rfl, ck_8, Or.inr ⟨_, nb_344⟩⟩
theorem pf_X9_113 (M : mt_T) : ex_pf M 113 8 3 (.int) := ⟨(RX8, TX8, 6), rfl, by decide +kernel, Or.inl rfl⟩
theorem cV_X9_119 : ex_cV RX9 119 mX4_holderOn 2 := ⟨⟨tb_134, tb_5, ⟨by decide +kernel, by decide +kernel⟩, by decide +kernel, by decide⟩, tb_131, tb_132, tb_133⟩
theorem cV_X9_123 : ex_cV RX9 123 mX4_bondsOf 1 := ⟨⟨tb_937, tb_5, ⟨by decide +kernel, by decide +kernel⟩, by decide +kernel, by decide⟩, tb_934, tb_935, tb_936⟩
theorem fl_X9_127 : ex_fl RX9 127 4 0 2 := ⟨(RX4, TX4, 3), rfl, by decide, by decide, rfl, ck_4, Or.inr ⟨_, nb_77⟩⟩
theorem kl_X9_137 : Cond.classLink RX9 137 "BondOffice$Line" ∈ ex_TB := tb_947
theorem cV_X9_139 : ex_cV RX9 139 mX5_fact 1 := ⟨⟨tb_951, tb_20, ⟨by decide +kernel, by decide +kernel⟩, by decide +kernel, by decide⟩, tb_948, tb_949, tb_950⟩
theorem lc_X9_142 : Cond.constant RX9 142 (100000) ∈ ex_TB := tb_959
theorem cV_X9_145 : ex_cV RX9 145 mX9_putOnTape 1 := ⟨⟨tb_169, tb_1, ⟨by decide +kernel, by decide +kernel⟩, by decide +kernel, by decide⟩, tb_166, tb_168, ps_0⟩
theorem nl_X9_152 : ex_nl RX9 152 6 := ⟨(RX6, TX6, 2), rfl, by decide, ck_6, tb_180, tb_970, tb_27, rfl, nz_6⟩
theorem cI_X9_154 : ex_cI RX9 154 mX6_init 1 := ⟨⟨tb_973, tb_27, ⟨by decide +kernel, by decide +kernel⟩, by decide +kernel, by decide⟩, Or.inl tb_971, tb_972, rfl, rfl⟩
theorem nl_X9_156 : ex_nl RX9 156 7 := ⟨(RX7, TX7, 5), rfl, by decide, ck_7, tb_987, tb_988, tb_28, rfl, nz_7⟩
theorem cI_X9_158 : ex_cI RX9 158 mX7_init 2 := ⟨⟨tb_991, tb_28, ⟨by decide +kernel, by decide +kernel⟩, by decide +kernel, by decide⟩, Or.inl tb_989, tb_990, rfl, rfl⟩
theorem cV_X9_161 : ex_cV RX9 161 mX7_readInto 1 := ⟨⟨tb_1014, tb_28, ⟨by decide +kernel, by decide +kernel⟩, by decide +kernel, by decide⟩, tb_1011, tb_1012, tb_1013⟩
theorem fl_X9_165 : ex_fl RX9 165 7 4 0 := ⟨(RX7, TX7, 5), rfl, by decide, by decide, rfl, ck_7, Or.inr ⟨_, nb_999⟩⟩
theorem fl_X9_166 : ex_fl RX9 166 7 3 0 := ⟨(RX7, TX7, 5), rfl, by decide, by decide, rfl, ck_7, Or.inr ⟨_, nb_997⟩⟩
theorem kl_X9_152 : Cond.classLink RX9 152 "BondOffice$Rule" ∈ ex_TB := tb_180
theorem fl_X9_169 : ex_fl RX9 169 6 0 0 := ⟨(RX6, TX6, 2), rfl, by decide, by decide, rfl, ck_6, Or.inr ⟨_, nb_978⟩⟩
theorem cV_X9_172 : ex_cV RX9 172 mX9_force 1 := ⟨⟨tb_177, tb_1, ⟨by decide +kernel, by decide +kernel⟩, by decide +kernel, by decide⟩, tb_189, tb_175, tb_176⟩
theorem cV_X9_175 : ex_cV RX9 175 mX6_daysNeeded 0 := ⟨⟨tb_193, tb_27, ⟨by decide +kernel, by decide +kernel⟩, by decide +kernel, by decide⟩, tb_190, tb_191, tb_192⟩
theorem cV_X9_178 : ex_cV RX9 178 mX4_bondsSince 1 := ⟨⟨tb_205, tb_5, ⟨by decide +kernel, by decide +kernel⟩, by decide +kernel, by decide⟩, tb_202, tb_203, tb_204⟩
theorem cV_X9_181 : ex_cV RX9 181 mX9_lapseOldWins 0 := ⟨⟨tb_213, tb_1, ⟨by decide +kernel, by decide +kernel⟩, by decide +kernel, by decide⟩, tb_210, tb_212, ps_1⟩
theorem nl_X9_184 : ex_nl RX9 184 2 := ⟨(RX1, TX1, 9), rfl, by decide, ck_2, tb_219, tb_220, tb_32, rfl, nz_2⟩
theorem cI_X9_186 : ex_cI RX9 186 mX1_init 3 := ⟨⟨tb_223, tb_32, ⟨by decide +kernel, by decide +kernel⟩, by decide +kernel, by decide⟩, Or.inl tb_221, tb_222, rfl, rfl⟩
theorem cV_X9_189 : ex_cV RX9 189 mX9_mixNoise 2 := ⟨⟨tb_263, tb_1, ⟨by decide +kernel, by decide +kernel⟩, by decide +kernel, by decide⟩, tb_260, tb_262, ps_2⟩
theorem fl_X9_193 : ex_fl RX9 193 2 3 1 := ⟨(RX1, TX1, 9), rfl, by decide, by decide, rfl, ck_2, Or.inr ⟨_, nb_230⟩⟩
theorem pf_X9_193 (M : mt_T) : ex_pf M 193 2 3 (.long) := ⟨(RX1, TX1, 9), rfl, by decide +kernel, Or.inl rfl⟩
theorem cS_X9_196 : ex_cS RX9 196 mX9_nextWithoutDivisor 2 := ⟨⟨tb_267, tb_1, ⟨by decide +kernel, by decide +kernel⟩, by decide +kernel, by decide⟩, Or.inl tb_265, tb_266⟩
theorem fl_X9_200 : ex_fl RX9 200 2 4 1 := ⟨(RX1, TX1, 9), rfl, by decide, by decide, rfl, ck_2, Or.inr ⟨_, nb_232⟩⟩
theorem pf_X9_200 (M : mt_T) : ex_pf M 200 2 4 (.long) := ⟨(RX1, TX1, 9), rfl, by decide +kernel, Or.inl rfl⟩
theorem cV_X9_203 : ex_cV RX9 203 mX4_bondsHeld 0 := ⟨⟨tb_274, tb_5, ⟨by decide +kernel, by decide +kernel⟩, by decide +kernel, by decide⟩, tb_271, tb_272, tb_273⟩
theorem cV_X9_206 : ex_cV RX9 206 mX6_fundFor 1 := ⟨⟨tb_280, tb_27, ⟨by decide +kernel, by decide +kernel⟩, by decide +kernel, by decide⟩, tb_277, tb_278, tb_279⟩
theorem fl_X9_210 : ex_fl RX9 210 2 5 1 := ⟨(RX1, TX1, 9), rfl, by decide, by decide, rfl, ck_2, Or.inr ⟨_, nb_234⟩⟩
theorem pf_X9_210 (M : mt_T) : ex_pf M 210 2 5 (.long) := ⟨(RX1, TX1, 9), rfl, by decide +kernel, Or.inl rfl⟩
theorem fl_X9_213 : ex_fl RX9 213 2 7 0 := ⟨(RX1, TX1, 9), rfl, by decide, by decide, rfl, ck_2, Or.inr ⟨_, nb_238⟩⟩
theorem pf_X9_213 (M : mt_T) : ex_pf M 213 2 7 (.int) := ⟨(RX1, TX1, 9), rfl, by decide +kernel, Or.inl rfl⟩
theorem cV_X9_216 : ex_cV RX9 216 mX9_awardPrizes 3 := ⟨⟨tb_293, tb_1, ⟨by decide +kernel, by decide +kernel⟩, by decide +kernel, by decide⟩, tb_290, tb_292, ps_3⟩
theorem fl_X9_220 : ex_fl RX9 220 2 8 1 := ⟨(RX1, TX1, 9), rfl, by decide, by decide, rfl, ck_2, Or.inr ⟨_, nb_240⟩⟩
theorem kl_X9_184 : Cond.classLink RX9 184 "BondOffice$Draw" ∈ ex_TB := tb_219
theorem cV_X9_227 : ex_cV RX9 227 mX1_fact 1 := ⟨⟨tb_1128, tb_32, ⟨by decide +kernel, by decide +kernel⟩, by decide +kernel, by decide⟩, tb_1125, tb_1126, tb_1127⟩
theorem cV_X9_230 : ex_cV RX9 230 mX9_checkWin 1 := ⟨⟨tb_1140, tb_1, ⟨by decide +kernel, by decide +kernel⟩, by decide +kernel, by decide⟩, tb_1137, tb_1139, ps_31⟩
theorem cV_X9_235 : ex_cV RX9 235 mX8_fact 1 := ⟨⟨tb_1146, tb_33, ⟨by decide +kernel, by decide +kernel⟩, by decide +kernel, by decide⟩, tb_1143, tb_1144, tb_1145⟩
theorem cV_X9_236 : ex_cV RX9 236 mX8_isTooOld 1 := ⟨⟨tb_218, tb_33, ⟨by decide +kernel, by decide +kernel⟩, by decide +kernel, by decide⟩, tb_215, tb_216, tb_217⟩
theorem pf_X9_116 (M : mt_T) : ex_pf M 116 8 5 (.int) := ⟨(RX8, TX8, 6), rfl, by decide +kernel, Or.inl rfl⟩
theorem fl_X9_240 : ex_fl RX9 240 8 4 0 := ⟨(RX8, TX8, 6), rfl, by decide, by decide, rfl, ck_8, Or.inr ⟨_, nb_342⟩⟩
theorem cV_X9_243 : ex_cV RX9 243 mX9_payOut 2 := ⟨⟨tb_1157, tb_1, ⟨by decide +kernel, by decide +kernel⟩, by decide +kernel, by decide⟩, tb_1154, tb_1156, ps_32⟩
theorem fl_X9_246 : ex_fl RX9 246 3 1 1 := ⟨(RX2, TX2, 2), rfl, by decide, by decide, rfl, ck_3, Or.inr ⟨_, nb_514⟩⟩
theorem fl_X9_249 : ex_fl RX9 249 4 2 0 := ⟨(RX4, TX4, 3), rfl, by decide, by decide, rfl, ck_4, Or.inr ⟨_, nb_80⟩⟩
theorem cV_X9_252 : ex_cV RX9 252 mX9_openWins 0 := ⟨⟨tb_429, tb_1, ⟨by decide +kernel, by decide +kernel⟩, by decide +kernel, by decide⟩, tb_426, tb_428, ps_9⟩
theorem pf_X9_246 (M : mt_T) : ex_pf M 246 3 1 (.long) := ⟨(RX2, TX2, 2), rfl, by decide +kernel, Or.inl rfl⟩
theorem lc_X9_263 : Cond.constantLong RX9 263 (4294967295) ∈ ex_TB := tb_264
theorem cS_X9_265 : ex_cS RX9 265 mX9_greatestDivisor 2 := ⟨⟨tb_270, tb_1, ⟨by decide +kernel, by decide +kernel⟩, by decide +kernel, by decide⟩, Or.inl tb_268, tb_269⟩
theorem pf_X9_220 (M : mt_T) : ex_pf M 220 2 8 (.long) := ⟨(RX1, TX1, 9), rfl, by decide +kernel, Or.inl rfl⟩
theorem fl_X9_269 : ex_fl RX9 269 2 2 0 := ⟨(RX1, TX1, 9), rfl, by decide, by decide, rfl, ck_2, Or.inr ⟨_, nb_228⟩⟩
theorem ml_X9_272 : Cond.methodLink RX9 272 Lib.Math.min.name ∈ ex_TB := tb_294
theorem fl_X9_277 : ex_fl RX9 277 6 1 2 := ⟨(RX6, TX6, 2), rfl, by decide, by decide, rfl, ck_6, Or.inr ⟨_, nb_981⟩⟩
theorem kl_X9_280 : Cond.classLink RX9 280 "BondOffice$Clause" ∈ ex_TB := tb_297
theorem cV_X9_282 : ex_cV RX9 282 mX0_prizesFrom 1 := ⟨⟨tb_301, tb_29, ⟨by decide +kernel, by decide +kernel⟩, by decide +kernel, by decide⟩, tb_298, tb_299, tb_300⟩
theorem fl_X9_285 : ex_fl RX9 285 1 1 0 := ⟨(RX0, TX0, 3), rfl, by decide, by decide, rfl, ck_1, Or.inr ⟨_, nb_1106⟩⟩
theorem cS_X9_288 : ex_cS RX9 288 mX9_cutBy 2 := ⟨⟨tb_289, tb_1, ⟨by decide +kernel, by decide +kernel⟩, by decide +kernel, by decide⟩, Or.inl tb_307, tb_288⟩
theorem ml_X9_291 : Cond.methodLink RX9 291 Lib.MathLoose.min_long.x ∈ ex_TB := tb_308
theorem fl_X9_293 : ex_fl RX9 293 2 6 0 := ⟨(RX1, TX1, 9), rfl, by decide, by decide, rfl, ck_2, Or.inr ⟨_, nb_236⟩⟩
theorem cV_X9_296 : ex_cV RX9 296 mX9_awardPrize 3 := ⟨⟨tb_314, tb_1, ⟨by decide +kernel, by decide +kernel⟩, by decide +kernel, by decide⟩, tb_311, tb_313, ps_4⟩
theorem cV_X9_300 : ex_cV RX9 300 mX1_placeOf 1 := ⟨⟨tb_318, tb_32, ⟨by decide +kernel, by decide +kernel⟩, by decide +kernel, by decide⟩, tb_315, tb_316, tb_317⟩
theorem cV_X9_303 : ex_cV RX9 303 mX4_bondAt 2 := ⟨⟨tb_322, tb_5, ⟨by decide +kernel, by decide +kernel⟩, by decide +kernel, by decide⟩, tb_319, tb_320, tb_321⟩
theorem nl_X9_111 : ex_nl RX9 111 8 := ⟨(RX8, TX8, 6), rfl, by decide, ck_8, tb_214, tb_323, tb_33, rfl, nz_8⟩
theorem cV_X9_306 : ex_cV RX9 306 mX4_holderNow 1 := ⟨⟨tb_327, tb_5, ⟨by decide +kernel, by decide +kernel⟩, by decide +kernel, by decide⟩, tb_324, tb_325, tb_326⟩
theorem cI_X9_309 : ex_cI RX9 309 mX8_init 5 := ⟨⟨tb_334, tb_33, ⟨by decide +kernel, by decide +kernel⟩, by decide +kernel, by decide⟩, Or.inl tb_332, tb_333, rfl, rfl⟩
theorem pf_X9_293 (M : mt_T) : ex_pf M 293 2 6 (.int) := ⟨(RX1, TX1, 9), rfl, by decide +kernel, Or.inl rfl⟩
theorem oi_X10_1 : Cond.methodLink RX10 1 objectInit ∈ ex_TB ∧ Cond.instanceMethod objectInit ∈ ex_TB ∧ Cond.code objectInit ⟨#[0xb1]⟩ 1 none ∈ ex_TB := ⟨tb_1170, tb_40, tb_41⟩
theorem fl_X10_9 : ex_fl RX10 9 10 4 2 := ⟨(RX10, TX10, 37), rfl, by decide, by decide, rfl, ck_10, Or.inl ⟨_, tb_1175, Or.inl rfl⟩⟩
theorem pf_X10_9 {M : mt_T} (h1 : M.1.name = "<init>") (h2 : M.1.cls = RX10) : ex_pf M 9 10 4 (.array (.boolean)) := ⟨(RX10, TX10, 37), rfl, by decide +kernel, Or.inr ⟨rfl, h1, h2.symm, by rw [h2]; exact tb_1175⟩⟩
theorem fl_X10_13 : ex_fl RX10 13 10 5 2 := ⟨(RX10, TX10, 37), rfl, by decide, by decide, rfl, ck_10, Or.inl ⟨_, tb_1176, Or.inl rfl⟩⟩
theorem pf_X10_13 {M : mt_T} (h1 : M.1.name = "<init>") (h2 : M.1.cls = RX10) : ex_pf M 13 10 5 (.array (.long)) := ⟨(RX10, TX10, 37), rfl, by decide +kernel, Or.inr ⟨rfl, h1, h2.symm, by rw [h2]; exact tb_1176⟩⟩
theorem fl_X10_17 : ex_fl RX10 17 10 6 2 := ⟨(RX10, TX10, 37), rfl, by decide, by decide, rfl, ck_10, Or.inl ⟨_, tb_1177, Or.inl rfl⟩⟩
theorem pf_X10_17 {M : mt_T} (h1 : M.1.name = "<init>") (h2 : M.1.cls = RX10) : ex_pf M 17 10 6 (.array (.int)) := ⟨(RX10, TX10, 37), rfl, by decide +kernel, Or.inr ⟨rfl, h1, h2.symm, by rw [h2]; exact tb_1177⟩⟩
theorem fl_X10_21 : ex_fl RX10 21 10 7 2 := ⟨(RX10, TX10, 37), rfl, by decide, by decide, rfl, ck_10, Or.inl ⟨_, tb_1178, Or.inl rfl⟩⟩
theorem pf_X10_21 {M : mt_T} (h1 : M.1.name = "<init>") (h2 : M.1.cls = RX10) : ex_pf M 21 10 7 (.array (.int)) := ⟨(RX10, TX10, 37), rfl, by decide +kernel, Or.inr ⟨rfl, h1, h2.symm, by rw [h2]; exact tb_1178⟩⟩
theorem fl_X10_24 : ex_fl RX10 24 10 8 2 := ⟨(RX10, TX10, 37), rfl, by decide, by decide, rfl, ck_10, Or.inl ⟨_, tb_1179, Or.inl rfl⟩⟩
theorem pf_X10_24 {M : mt_T} (h1 : M.1.name = "<init>") (h2 : M.1.cls = RX10) : ex_pf M 24 10 8 (.array (.int)) := ⟨(RX10, TX10, 37), rfl, by decide +kernel, Or.inr ⟨rfl, h1, h2.symm, by rw [h2]; exact tb_1179⟩⟩
theorem fl_X10_27 : ex_fl RX10 27 10 9 2 := ⟨(RX10, TX10, 37), rfl, by decide, by decide, rfl, ck_10, Or.inl ⟨_, tb_1180, Or.inl rfl⟩⟩
theorem pf_X10_27 {M : mt_T} (h1 : M.1.name = "<init>") (h2 : M.1.cls = RX10) : ex_pf M 27 10 9 (.array (.int)) := ⟨(RX10, TX10, 37), rfl, by decide +kernel, Or.inr ⟨rfl, h1, h2.symm, by rw [h2]; exact tb_1180⟩⟩
theorem fl_X10_30 : ex_fl RX10 30 10 10 2 := ⟨(RX10, TX10, 37), rfl, by decide, by decide, rfl, ck_10, Or.inl ⟨_, tb_1181, Or.inl rfl⟩⟩
theorem pf_X10_30 {M : mt_T} (h1 : M.1.name = "<init>") (h2 : M.1.cls = RX10) : ex_pf M 30 10 10 (.array (.int)) := ⟨(RX10, TX10, 37), rfl, by decide +kernel, Or.inr ⟨rfl, h1, h2.symm, by rw [h2]; exact tb_1181⟩⟩
theorem fl_X10_33 : ex_fl RX10 33 10 12 2 := ⟨(RX10, TX10, 37), rfl, by decide, by decide, rfl, ck_10, Or.inl ⟨_, tb_1183, Or.inl rfl⟩⟩
theorem pf_X10_33 {M : mt_T} (h1 : M.1.name = "<init>") (h2 : M.1.cls = RX10) : ex_pf M 33 10 12 (.array (.byte)) := ⟨(RX10, TX10, 37), rfl, by decide +kernel, Or.inr ⟨rfl, h1, h2.symm, by rw [h2]; exact tb_1183⟩⟩
theorem fl_X10_37 : ex_fl RX10 37 10 17 0 := ⟨(RX10, TX10, 37), rfl, by decide, by decide, rfl, ck_10, Or.inl ⟨_, tb_1188, Or.inl rfl⟩⟩
theorem pf_X10_37 (M : mt_T) : ex_pf M 37 10 17 (.int) := ⟨(RX10, TX10, 37), rfl, by decide +kernel, Or.inl rfl⟩
theorem fl_X10_41 : ex_fl RX10 41 10 18 2 := ⟨(RX10, TX10, 37), rfl, by decide, by decide, rfl, ck_10, Or.inl ⟨_, tb_1189, Or.inl rfl⟩⟩
theorem pf_X10_41 {M : mt_T} (h1 : M.1.name = "<init>") (h2 : M.1.cls = RX10) : ex_pf M 41 10 18 (.array (.int)) := ⟨(RX10, TX10, 37), rfl, by decide +kernel, Or.inr ⟨rfl, h1, h2.symm, by rw [h2]; exact tb_1189⟩⟩
theorem fl_X10_44 : ex_fl RX10 44 10 19 2 := ⟨(RX10, TX10, 37), rfl, by decide, by decide, rfl, ck_10, Or.inl ⟨_, tb_1190, Or.inl rfl⟩⟩
theorem pf_X10_44 {M : mt_T} (h1 : M.1.name = "<init>") (h2 : M.1.cls = RX10) : ex_pf M 44 10 19 (.array (.int)) := ⟨(RX10, TX10, 37), rfl, by decide +kernel, Or.inr ⟨rfl, h1, h2.symm, by rw [h2]; exact tb_1190⟩⟩
theorem fl_X10_47 : ex_fl RX10 47 10 20 2 := ⟨(RX10, TX10, 37), rfl, by decide, by decide, rfl, ck_10, Or.inl ⟨_, tb_1191, Or.inl rfl⟩⟩
theorem pf_X10_47 {M : mt_T} (h1 : M.1.name = "<init>") (h2 : M.1.cls = RX10) : ex_pf M 47 10 20 (.array (.int)) := ⟨(RX10, TX10, 37), rfl, by decide +kernel, Or.inr ⟨rfl, h1, h2.symm, by rw [h2]; exact tb_1191⟩⟩
theorem fl_X10_50 : ex_fl RX10 50 10 21 2 := ⟨(RX10, TX10, 37), rfl, by decide, by decide, rfl, ck_10, Or.inl ⟨_, tb_1192, Or.inl rfl⟩⟩
theorem pf_X10_50 {M : mt_T} (h1 : M.1.name = "<init>") (h2 : M.1.cls = RX10) : ex_pf M 50 10 21 (.array (.int)) := ⟨(RX10, TX10, 37), rfl, by decide +kernel, Or.inr ⟨rfl, h1, h2.symm, by rw [h2]; exact tb_1192⟩⟩
theorem fl_X10_53 : ex_fl RX10 53 10 22 2 := ⟨(RX10, TX10, 37), rfl, by decide, by decide, rfl, ck_10, Or.inl ⟨_, tb_1193, Or.inl rfl⟩⟩
theorem pf_X10_53 {M : mt_T} (h1 : M.1.name = "<init>") (h2 : M.1.cls = RX10) : ex_pf M 53 10 22 (.array (.int)) := ⟨(RX10, TX10, 37), rfl, by decide +kernel, Or.inr ⟨rfl, h1, h2.symm, by rw [h2]; exact tb_1193⟩⟩
theorem fl_X10_56 : ex_fl RX10 56 10 24 2 := ⟨(RX10, TX10, 37), rfl, by decide, by decide, rfl, ck_10, Or.inl ⟨_, tb_1195, Or.inl rfl⟩⟩
theorem pf_X10_56 {M : mt_T} (h1 : M.1.name = "<init>") (h2 : M.1.cls = RX10) : ex_pf M 56 10 24 (.array (.int)) := ⟨(RX10, TX10, 37), rfl, by decide +kernel, Or.inr ⟨rfl, h1, h2.symm, by rw [h2]; exact tb_1195⟩⟩
theorem fl_X10_59 : ex_fl RX10 59 10 26 2 := ⟨(RX10, TX10, 37), rfl, by decide, by decide, rfl, ck_10, Or.inl ⟨_, tb_1197, Or.inl rfl⟩⟩
theorem pf_X10_59 {M : mt_T} (h1 : M.1.name = "<init>") (h2 : M.1.cls = RX10) : ex_pf M 59 10 26 (.array (.long)) := ⟨(RX10, TX10, 37), rfl, by decide +kernel, Or.inr ⟨rfl, h1, h2.symm, by rw [h2]; exact tb_1197⟩⟩
theorem fl_X10_62 : ex_fl RX10 62 10 28 2 := ⟨(RX10, TX10, 37), rfl, by decide, by decide, rfl, ck_10, Or.inl ⟨_, tb_1199, Or.inl rfl⟩⟩
theorem pf_X10_62 {M : mt_T} (h1 : M.1.name = "<init>") (h2 : M.1.cls = RX10) : ex_pf M 62 10 28 (.array (.int)) := ⟨(RX10, TX10, 37), rfl, by decide +kernel, Or.inr ⟨rfl, h1, h2.symm, by rw [h2]; exact tb_1199⟩⟩
theorem fl_X10_65 : ex_fl RX10 65 10 29 2 := ⟨(RX10, TX10, 37), rfl, by decide, by decide, rfl, ck_10, Or.inl ⟨_, tb_1200, Or.inl rfl⟩⟩
theorem pf_X10_65 {M : mt_T} (h1 : M.1.name = "<init>") (h2 : M.1.cls = RX10) : ex_pf M 65 10 29 (.array (.int)) := ⟨(RX10, TX10, 37), rfl, by decide +kernel, Or.inr ⟨rfl, h1, h2.symm, by rw [h2]; exact tb_1200⟩⟩
theorem fl_X10_68 : ex_fl RX10 68 10 30 2 := ⟨(RX10, TX10, 37), rfl, by decide, by decide, rfl, ck_10, Or.inl ⟨_, tb_1201, Or.inl rfl⟩⟩
theorem pf_X10_68 {M : mt_T} (h1 : M.1.name = "<init>") (h2 : M.1.cls = RX10) : ex_pf M 68 10 30 (.array (.int)) := ⟨(RX10, TX10, 37), rfl, by decide +kernel, Or.inr ⟨rfl, h1, h2.symm, by rw [h2]; exact tb_1201⟩⟩
theorem fl_X10_71 : ex_fl RX10 71 10 31 2 := ⟨(RX10, TX10, 37), rfl, by decide, by decide, rfl, ck_10, Or.inl ⟨_, tb_1202, Or.inl rfl⟩⟩
theorem pf_X10_71 {M : mt_T} (h1 : M.1.name = "<init>") (h2 : M.1.cls = RX10) : ex_pf M 71 10 31 (.array (.int)) := ⟨(RX10, TX10, 37), rfl, by decide +kernel, Or.inr ⟨rfl, h1, h2.symm, by rw [h2]; exact tb_1202⟩⟩
theorem fl_X10_74 : ex_fl RX10 74 10 32 2 := ⟨(RX10, TX10, 37), rfl, by decide, by decide, rfl, ck_10, Or.inl ⟨_, tb_1203, Or.inl rfl⟩⟩
theorem pf_X10_74 {M : mt_T} (h1 : M.1.name = "<init>") (h2 : M.1.cls = RX10) : ex_pf M 74 10 32 (.array (.int)) := ⟨(RX10, TX10, 37), rfl, by decide +kernel, Or.inr ⟨rfl, h1, h2.symm, by rw [h2]; exact tb_1203⟩⟩
theorem fl_X10_77 : ex_fl RX10 77 10 35 2 := ⟨(RX10, TX10, 37), rfl, by decide, by decide, rfl, ck_10, Or.inl ⟨_, tb_1206, Or.inl rfl⟩⟩
theorem pf_X10_77 {M : mt_T} (h1 : M.1.name = "<init>") (h2 : M.1.cls = RX10) : ex_pf M 77 10 35 (.array (.int)) := ⟨(RX10, TX10, 37), rfl, by decide +kernel, Or.inr ⟨rfl, h1, h2.symm, by rw [h2]; exact tb_1206⟩⟩
theorem fl_X10_80 : ex_fl RX10 80 10 0 0 := ⟨(RX10, TX10, 37), rfl, by decide, by decide, rfl, ck_10, Or.inl ⟨_, tb_1171, Or.inl rfl⟩⟩
theorem pf_X10_80 (M : mt_T) : ex_pf M 80 10 0 (.int) := ⟨(RX10, TX10, 37), rfl, by decide +kernel, Or.inl rfl⟩
theorem fl_X10_83 : ex_fl RX10 83 10 1 0 := ⟨(RX10, TX10, 37), rfl, by decide, by decide, rfl, ck_10, Or.inl ⟨_, tb_1172, Or.inl rfl⟩⟩
theorem cV_X10_86 : ex_cV RX10 86 mX10_bad 2 := ⟨⟨tb_1296, tb_6, ⟨by decide +kernel, by decide +kernel⟩, by decide +kernel, by decide⟩, tb_1293, tb_1295, ps_33⟩
theorem pf_X10_83 (M : mt_T) : ex_pf M 83 10 1 (.int) := ⟨(RX10, TX10, 37), rfl, by decide +kernel, Or.inl rfl⟩
theorem fl_X10_90 : ex_fl RX10 90 10 11 0 := ⟨(RX10, TX10, 37), rfl, by decide, by decide, rfl, ck_10, Or.inl ⟨_, tb_1182, Or.inl rfl⟩⟩
theorem pf_X10_90 (M : mt_T) : ex_pf M 90 10 11 (.int) := ⟨(RX10, TX10, 37), rfl, by decide +kernel, Or.inl rfl⟩
theorem cV_X10_93 : ex_cV RX10 93 mX10_isHolder 1 := ⟨⟨tb_1304, tb_6, ⟨by decide +kernel, by decide +kernel⟩, by decide +kernel, by decide⟩, tb_1301, tb_1303, ps_34⟩
theorem lc_X10_97 : Cond.constant RX10 97 (10000000) ∈ ex_TB := tb_1305
theorem fl_X10_98 : ex_fl RX10 98 10 3 0 := ⟨(RX10, TX10, 37), rfl, by decide, by decide, rfl, ck_10, Or.inl ⟨_, tb_1174, Or.inl rfl⟩⟩
theorem lc_X10_101 : Cond.constant RX10 101 (1000000000) ∈ ex_TB := tb_1306
theorem fl_X10_102 : ex_fl RX10 102 10 2 0 := ⟨(RX10, TX10, 37), rfl, by decide, by decide, rfl, ck_10, Or.inl ⟨_, tb_1173, Or.inl rfl⟩⟩
theorem cV_X10_105 : ex_cV RX10 105 mX10_adds 4 := ⟨⟨tb_1310, tb_6, ⟨by decide +kernel, by decide +kernel⟩, by decide +kernel, by decide⟩, tb_1307, tb_1309, ps_35⟩
theorem pf_X10_98 (M : mt_T) : ex_pf M 98 10 3 (.int) := ⟨(RX10, TX10, 37), rfl, by decide +kernel, Or.inl rfl⟩
theorem cV_X10_109 : ex_cV RX10 109 mX10_goesOn 2 := ⟨⟨tb_1326, tb_6, ⟨by decide +kernel, by decide +kernel⟩, by decide +kernel, by decide⟩, tb_1323, tb_1325, ps_38⟩
theorem cV_X10_113 : ex_cV RX10 113 mX10_hasOf 3 := ⟨⟨tb_1322, tb_6, ⟨by decide +kernel, by decide +kernel⟩, by decide +kernel, by decide⟩, tb_1319, tb_1321, ps_37⟩
theorem cV_X10_117 : ex_cV RX10 117 mX10_goes 4 := ⟨⟨tb_1318, tb_6, ⟨by decide +kernel, by decide +kernel⟩, by decide +kernel, by decide⟩, tb_1315, tb_1317, ps_36⟩
theorem fl_X10_121 : ex_fl RX10 121 10 33 0 := ⟨(RX10, TX10, 37), rfl, by decide, by decide, rfl, ck_10, Or.inl ⟨_, tb_1204, Or.inl rfl⟩⟩
theorem lc_X10_124 : Cond.constant RX10 124 (100000) ∈ ex_TB := tb_1351
theorem pf_X10_102 (M : mt_T) : ex_pf M 102 10 2 (.int) := ⟨(RX10, TX10, 37), rfl, by decide +kernel, Or.inl rfl⟩
theorem fl_X10_125 : ex_fl RX10 125 10 13 0 := ⟨(RX10, TX10, 37), rfl, by decide, by decide, rfl, ck_10, Or.inl ⟨_, tb_1184, Or.inl rfl⟩⟩
theorem pf_X10_125 (M : mt_T) : ex_pf M 125 10 13 (.int) := ⟨(RX10, TX10, 37), rfl, by decide +kernel, Or.inl rfl⟩
theorem fl_X10_128 : ex_fl RX10 128 10 14 0 := ⟨(RX10, TX10, 37), rfl, by decide, by decide, rfl, ck_10, Or.inl ⟨_, tb_1185, Or.inl rfl⟩⟩
theorem fl_X10_131 : ex_fl RX10 131 10 15 0 := ⟨(RX10, TX10, 37), rfl, by decide, by decide, rfl, ck_10, Or.inl ⟨_, tb_1186, Or.inl rfl⟩⟩
theorem cV_X10_134 : ex_cV RX10 134 mX10_byteAt 1 := ⟨⟨tb_1367, tb_6, ⟨by decide +kernel, by decide +kernel⟩, by decide +kernel, by decide⟩, tb_1364, tb_1366, ps_40⟩
theorem pf_X10_131 (M : mt_T) : ex_pf M 131 10 15 (.int) := ⟨(RX10, TX10, 37), rfl, by decide +kernel, Or.inl rfl⟩
theorem fl_X10_138 : ex_fl RX10 138 10 16 0 := ⟨(RX10, TX10, 37), rfl, by decide, by decide, rfl, ck_10, Or.inl ⟨_, tb_1187, Or.inl rfl⟩⟩
theorem pf_X10_138 (M : mt_T) : ex_pf M 138 10 16 (.int) := ⟨(RX10, TX10, 37), rfl, by decide +kernel, Or.inl rfl⟩
theorem cV_X10_141 : ex_cV RX10 141 mX10_blanks 0 := ⟨⟨tb_1363, tb_6, ⟨by decide +kernel, by decide +kernel⟩, by decide +kernel, by decide⟩, tb_1360, tb_1362, ps_39⟩
theorem cV_X10_144 : ex_cV RX10 144 mJ0_length_8abf5 0 := ⟨⟨tb_761, tb_23, ⟨by decide +kernel, by decide +kernel⟩, by decide +kernel, by decide⟩, tb_1373, tb_759, tb_760⟩
theorem cV_X10_150 : ex_cV RX10 150 mJ0_charAt_5068e 1 := ⟨⟨tb_1048, tb_23, ⟨by decide +kernel, by decide +kernel⟩, by decide +kernel, by decide⟩, tb_1374, tb_1046, tb_1047⟩
theorem cS_X10_154 : ex_cS RX10 154 mX10_isSmall 1 := ⟨⟨tb_1377, tb_6, ⟨by decide +kernel, by decide +kernel⟩, by decide +kernel, by decide⟩, Or.inl tb_1375, tb_1376⟩
theorem cV_X10_157 : ex_cV RX10 157 mX10_isWord 1 := ⟨⟨tb_1372, tb_6, ⟨by decide +kernel, by decide +kernel⟩, by decide +kernel, by decide⟩, tb_1369, tb_1371, ps_41⟩
theorem cV_X10_161 : ex_cV RX10 161 mX10_wrong 2 := ⟨⟨tb_1384, tb_6, ⟨by decide +kernel, by decide +kernel⟩, by decide +kernel, by decide⟩, tb_1381, tb_1383, ps_42⟩
theorem cS_X10_165 : ex_cS RX10 165 mX10_isDigit 1 := ⟨⟨tb_1400, tb_6, ⟨by decide +kernel, by decide +kernel⟩, by decide +kernel, by decide⟩, Or.inl tb_1398, tb_1399⟩
theorem lc_X10_168 : Cond.constantLong RX10 168 (2000000000) ∈ ex_TB := tb_1401
theorem lc_X10_170 : Cond.constantLong RX10 170 (10) ∈ ex_TB := tb_1402
theorem lc_X10_172 : Cond.constantLong RX10 172 (48) ∈ ex_TB := tb_1403
theorem cV_X10_176 : ex_cV RX10 176 mX10_need 1 := ⟨⟨tb_1392, tb_6, ⟨by decide +kernel, by decide +kernel⟩, by decide +kernel, by decide⟩, tb_1389, tb_1391, ps_44⟩
theorem lc_X10_180 : Cond.constant RX10 180 (1000000) ∈ ex_TB := tb_1393
theorem cV_X10_181 : ex_cV RX10 181 mX10_number 2 := ⟨⟨tb_1397, tb_6, ⟨by decide +kernel, by decide +kernel⟩, by decide +kernel, by decide⟩, tb_1394, tb_1396, ps_45⟩
theorem cV_X10_185 : ex_cV RX10 185 mX10_sign 1 := ⟨⟨tb_1407, tb_6, ⟨by decide +kernel, by decide +kernel⟩, by decide +kernel, by decide⟩, tb_1404, tb_1406, ps_46⟩
theorem fl_X10_197 : ex_fl RX10 197 10 23 0 := ⟨(RX10, TX10, 37), rfl, by decide, by decide, rfl, ck_10, Or.inl ⟨_, tb_1194, Or.inl rfl⟩⟩
theorem pf_X10_128 (M : mt_T) : ex_pf M 128 10 14 (.int) := ⟨(RX10, TX10, 37), rfl, by decide +kernel, Or.inl rfl⟩
theorem cV_X10_200 : ex_cV RX10 200 mX10_clause 1 := ⟨⟨tb_1388, tb_6, ⟨by decide +kernel, by decide +kernel⟩, by decide +kernel, by decide⟩, tb_1385, tb_1387, ps_43⟩
theorem pf_X10_197 (M : mt_T) : ex_pf M 197 10 23 (.int) := ⟨(RX10, TX10, 37), rfl, by decide +kernel, Or.inl rfl⟩
theorem cV_X10_203 : ex_cV RX10 203 mX10_forceOf 1 := ⟨⟨tb_1420, tb_6, ⟨by decide +kernel, by decide +kernel⟩, by decide +kernel, by decide⟩, tb_1417, tb_1419, ps_47⟩
theorem fl_X10_206 : ex_fl RX10 206 10 25 0 := ⟨(RX10, TX10, 37), rfl, by decide, by decide, rfl, ck_10, Or.inl ⟨_, tb_1196, Or.inl rfl⟩⟩
theorem pf_X10_206 (M : mt_T) : ex_pf M 206 10 25 (.int) := ⟨(RX10, TX10, 37), rfl, by decide +kernel, Or.inl rfl⟩
theorem lc_X10_209 : Cond.constantLong RX10 209 (4294967295) ∈ ex_TB := tb_1438
theorem fl_X10_211 : ex_fl RX10 211 10 36 0 := ⟨(RX10, TX10, 37), rfl, by decide, by decide, rfl, ck_10, Or.inl ⟨_, tb_1207, Or.inl rfl⟩⟩
theorem pf_X10_211 (M : mt_T) : ex_pf M 211 10 36 (.int) := ⟨(RX10, TX10, 37), rfl, by decide +kernel, Or.inl rfl⟩
theorem cV_X10_214 : ex_cV RX10 214 mX10_sorts 1 := ⟨⟨tb_1432, tb_6, ⟨by decide +kernel, by decide +kernel⟩, by decide +kernel, by decide⟩, tb_1429, tb_1431, ps_48⟩
theorem fl_X10_218 : ex_fl RX10 218 10 27 0 := ⟨(RX10, TX10, 37), rfl, by decide, by decide, rfl, ck_10, Or.inl ⟨_, tb_1198, Or.inl rfl⟩⟩
theorem lc_X10_221 : Cond.constantLong RX10 221 (31) ∈ ex_TB := tb_1433
theorem cV_X10_223 : ex_cV RX10 223 mX10_mix 2 := ⟨⟨tb_1437, tb_6, ⟨by decide +kernel, by decide +kernel⟩, by decide +kernel, by decide⟩, tb_1434, tb_1436, ps_49⟩
theorem lc_X10_227 : Cond.constantLong RX10 227 (37) ∈ ex_TB := tb_1439
theorem cS_X10_229 : ex_cS RX10 229 mX10_common 2 := ⟨⟨tb_1442, tb_6, ⟨by decide +kernel, by decide +kernel⟩, by decide +kernel, by decide⟩, Or.inl tb_1440, tb_1441⟩
theorem lc_X10_232 : Cond.constantLong RX10 232 (500) ∈ ex_TB := tb_1443
theorem fl_X10_234 : ex_fl RX10 234 10 34 1 := ⟨(RX10, TX10, 37), rfl, by decide, by decide, rfl, ck_10, Or.inl ⟨_, tb_1205, Or.inl rfl⟩⟩
theorem pf_X10_234 (M : mt_T) : ex_pf M 234 10 34 (.long) := ⟨(RX10, TX10, 37), rfl, by decide +kernel, Or.inl rfl⟩
theorem cV_X10_238 : ex_cV RX10 238 mX10_heldNow 0 := ⟨⟨tb_1447, tb_6, ⟨by decide +kernel, by decide +kernel⟩, by decide +kernel, by decide⟩, tb_1444, tb_1446, ps_50⟩
theorem lc_X10_242 : Cond.constantLong RX10 242 (-1) ∈ ex_TB := tb_1448
theorem lc_X10_244 : Cond.constantLong RX10 244 (100) ∈ ex_TB := tb_1449
theorem cV_X10_246 : ex_cV RX10 246 mX10_winsAt 2 := ⟨⟨tb_1453, tb_6, ⟨by decide +kernel, by decide +kernel⟩, by decide +kernel, by decide⟩, tb_1450, tb_1452, ps_51⟩
theorem pf_X10_218 (M : mt_T) : ex_pf M 218 10 27 (.int) := ⟨(RX10, TX10, 37), rfl, by decide +kernel, Or.inl rfl⟩
theorem pf_X10_121 (M : mt_T) : ex_pf M 121 10 33 (.int) := ⟨(RX10, TX10, 37), rfl, by decide +kernel, Or.inl rfl⟩
theorem cV_X10_250 : ex_cV RX10 250 mX10_isWin 1 := ⟨⟨tb_1465, tb_6, ⟨by decide +kernel, by decide +kernel⟩, by decide +kernel, by decide⟩, tb_1462, tb_1464, ps_52⟩
theorem gc_J0_9 : Cond.fieldLink RJ0 9 "java/lang/String" "value" "[B" ∈ ex_TB ∨ ∃ host, Cond.fieldLinkNest RJ0 9 "java/lang/String" "value" "[B" host ∈ ex_NB := Or.inl tb_884
theorem cV_J0_335 : ex_cV RJ0 335 mJ0_coder_7d493 0 := ⟨⟨tb_765, tb_23, ⟨by decide +kernel, by decide +kernel⟩, by decide +kernel, by decide⟩, tb_762, tb_763, tb_764⟩
theorem cV_J0_492 : ex_cV RJ0 492 mJ0_isLatin1_aae02 0 := ⟨⟨tb_1052, tb_23, ⟨by decide +kernel, by decide +kernel⟩, by decide +kernel, by decide⟩, tb_1049, tb_1050, tb_1051⟩
theorem cS_J0_495 : ex_cS RJ0 495 mJ1_charAt_3b067 2 := ⟨⟨tb_1055, tb_25, ⟨by decide +kernel, by decide +kernel⟩, by decide +kernel, by decide⟩, Or.inl tb_1053, tb_1054⟩
theorem gs_J0_38 : Cond.fieldLink RJ0 38 "java/lang/String" "COMPACT_STRINGS" "Z" ∈ ex_TB := tb_766
theorem gc_J0_15 : Cond.fieldLink RJ0 15 "java/lang/String" "coder" "B" ∈ ex_TB ∨ ∃ host, Cond.fieldLinkNest RJ0 15 "java/lang/String" "coder" "B" host ∈ ex_NB := Or.inl tb_885
theorem gs_J0_1053 : Cond.fieldLink RJ0 1053 "jdk/internal/util/Preconditions" "SIOOBE_FORMATTER" "Ljava/util/function/BiFunction;" ∈ ex_TB := tb_744
theorem cS_J0_1059 : ex_cS RJ0 1059 mJ3_checkIndex_8e157 3 := ⟨⟨tb_148, tb_19, ⟨by decide +kernel, by decide +kernel⟩, by decide +kernel, by decide⟩, Or.inl tb_1059, tb_147⟩
theorem cS_J1_9 : ex_cS RJ1 9 mJ0_checkIndex_df160 2 := ⟨⟨tb_1058, tb_23, ⟨by decide +kernel, by decide +kernel⟩, by decide +kernel, by decide⟩, Or.inl tb_1056, tb_1057⟩
theorem oi_Jxa1e45_1 : Cond.methodLink RJxa1e45 1 objectInit ∈ ex_TB ∧ Cond.instanceMethod objectInit ∈ ex_TB ∧ Cond.code objectInit ⟨#[0xb1]⟩ 1 none ∈ ex_TB := ⟨tb_53, tb_40, tb_41⟩
theorem cI_Jxc12de_1 : ex_cI RJxc12de 1 mJxa1e45_init_da8c8 0 := ⟨⟨tb_52, tb_2, ⟨by decide +kernel, by decide +kernel⟩, by decide +kernel, by decide⟩, Or.inl tb_50, tb_51, rfl, rfl⟩
theorem gc_Jxc12de_7 : Cond.fieldLink RJxc12de 7 "java/util/AbstractList" "modCount" "I" ∈ ex_TB ∨ ∃ host, Cond.fieldLinkNest RJxc12de 7 "java/util/AbstractList" "modCount" "I" host ∈ ex_NB := Or.inl tb_58
theorem cI_Jx4a65c_1 : ex_cI RJx4a65c 1 mJxc12de_init_da8c8 0 := ⟨⟨tb_49, tb_3, ⟨by decide +kernel, by decide +kernel⟩, by decide +kernel, by decide⟩, Or.inl tb_47, tb_48, rfl, rfl⟩
theorem gs_Jx4a65c_39 : Cond.fieldLink RJx4a65c 39 "java/util/ArrayList" "DEFAULTCAPACITY_EMPTY_ELEMENTDATA" "[Ljava/lang/Object;" ∈ ex_TB := tb_54
theorem fl_Jx4a65c_9 : ex_fl RJx4a65c 9 0 1 2 := ⟨(RJx4a65c, TJx4a65c, 3), rfl, by decide, by decide, rfl, ck_0, Or.inl ⟨_, tb_56, Or.inl rfl⟩⟩
theorem pf_Jx4a65c_9 (M : mt_T) : ex_pf M 9 0 1 (.array (.object "java/lang/Object")) := ⟨(RJx4a65c, TJx4a65c, 3), rfl, by decide +kernel, Or.inl rfl⟩
theorem cS_Jx4a65c_73 : ex_cS RJx4a65c 73 mJ8_newLength_cabcc 3 := ⟨⟨tb_376, tb_12, ⟨by decide +kernel, by decide +kernel⟩, by decide +kernel, by decide⟩, Or.inl tb_374, tb_375⟩
theorem cS_Jx4a65c_66 : ex_cS RJx4a65c 66 mJ7_copyOf_1904c 2 := ⟨⟨tb_384, tb_14, ⟨by decide +kernel, by decide +kernel⟩, by decide +kernel, by decide⟩, Or.inl tb_382, tb_383⟩
theorem ml_Jx4a65c_79 : Cond.methodLink RJx4a65c 79 Lib.Math.max.name ∈ ex_TB := tb_416
theorem kl_Jx4a65c_7 : Cond.classLink RJx4a65c 7 "java/lang/Object" ∈ ex_TB := tb_417
theorem fl_Jx4a65c_48 : ex_fl RJx4a65c 48 0 2 0 := ⟨(RJx4a65c, TJx4a65c, 3), rfl, by decide, by decide, rfl, ck_0, Or.inl ⟨_, tb_57, Or.inl rfl⟩⟩
theorem cV_Jx4a65c_69 : ex_cV RJx4a65c 69 mJx4a65c_grow_92f84 1 := ⟨⟨tb_373, tb_4, ⟨by decide +kernel, by decide +kernel⟩, by decide +kernel, by decide⟩, tb_370, tb_372, ps_8⟩
theorem cS_Jx4a65c_118 : ex_cS RJx4a65c 118 mJ15_checkIndex_7cf53 2 := ⟨⟨tb_145, tb_18, ⟨by decide +kernel, by decide +kernel⟩, by decide +kernel, by decide⟩, Or.inl tb_143, tb_144⟩
theorem cV_Jx4a65c_123 : ex_cV RJx4a65c 123 mJx4a65c_elementData_915e3 1 := ⟨⟨tb_152, tb_4, ⟨by decide +kernel, by decide +kernel⟩, by decide +kernel, by decide⟩, tb_149, tb_150, tb_151⟩
theorem cV_Jx4a65c_129 : ex_cV RJx4a65c 129 mJx4a65c_grow_d5877 0 := ⟨⟨tb_369, tb_4, ⟨by decide +kernel, by decide +kernel⟩, by decide +kernel, by decide⟩, tb_366, tb_368, ps_7⟩
theorem pf_Jx4a65c_48 (M : mt_T) : ex_pf M 48 0 2 (.int) := ⟨(RJx4a65c, TJx4a65c, 3), rfl, by decide +kernel, Or.inl rfl⟩
theorem fl_Jx4a65c_63 : ex_fl RJx4a65c 63 0 0 0 := ⟨(RJx4a65c, TJx4a65c, 3), rfl, by decide, by decide, rfl, ck_0, Or.inl ⟨_, tb_59, Or.inr tb_60⟩⟩
theorem pf_Jx4a65c_63 (M : mt_T) : ex_pf M 63 0 0 (.int) := ⟨(RJx4a65c, TJx4a65c, 3), rfl, by decide +kernel, Or.inl rfl⟩
theorem cV_Jx4a65c_131 : ex_cV RJx4a65c 131 mJx4a65c_add_72be8 3 := ⟨⟨tb_365, tb_4, ⟨by decide +kernel, by decide +kernel⟩, by decide +kernel, by decide⟩, tb_362, tb_364, ps_6⟩
theorem cV_Jx4a65c_135 : ex_cV RJx4a65c 135 mJx4a65c_rangeCheckForAdd_d00df 1 := ⟨⟨tb_658, tb_4, ⟨by decide +kernel, by decide +kernel⟩, by decide +kernel, by decide⟩, tb_655, tb_657, ps_19⟩
theorem ml_Jx4a65c_112 : Cond.methodLink RJx4a65c 112 arraycopyName ∈ ex_TB := tb_896
theorem cV_Jx4a65c_144 : ex_cV RJx4a65c 144 mJx4a65c_fastRemove_b59b0 2 := ⟨⟨tb_908, tb_4, ⟨by decide +kernel, by decide +kernel⟩, by decide +kernel, by decide⟩, tb_905, tb_907, ps_21⟩
theorem cS_J7_300 : ex_cS RJ7 300 mJ7_copyOf_6403c 3 := ⟨⟨tb_408, tb_14, ⟨by decide +kernel, by decide +kernel⟩, by decide +kernel, by decide⟩, Or.inl tb_406, tb_407⟩
theorem kl_J7_2 : Cond.classLink RJ7 2 "java/lang/Object" ∈ ex_TB := tb_411
theorem kl_J7_110 : Cond.classLink RJ7 110 "[Ljava/lang/Object;" ∈ ex_TB := tb_409
theorem ml_J7_304 : Cond.methodLink RJ7 304 Lib.Math.min.name ∈ ex_TB := tb_412
theorem ml_J7_150 : Cond.methodLink RJ7 150 arraycopyName ∈ ex_TB := tb_413
theorem cS_J15_105 : ex_cS RJ15 105 mJ3_checkIndex_8e157 3 := ⟨⟨tb_148, tb_19, ⟨by decide +kernel, by decide +kernel⟩, by decide +kernel, by decide⟩, Or.inl tb_146, tb_147⟩
theorem ml_J8_194 : Cond.methodLink RJ8 194 Lib.Math.max.name ∈ ex_TB := tb_377
theorem lc_J8_200 : Cond.constant RJ8 200 (2147483639) ∈ ex_TB := tb_378
theorem th_X9_61_63_65 : ex_th RX9 61 63 65 "java/lang/IllegalStateException" "there are 60 holders" (th_ad 63) := ⟨tb_438, tb_10, by decide +kernel, by decide +kernel, th_w_65, th_o_65_61⟩
theorem th_X9_80_82_84 : ex_th RX9 80 82 84 "java/lang/IllegalArgumentException" "bonds bought are 1 to 10,000,000" (th_ad 82) := ⟨tb_550, tb_17, by decide +kernel, by decide +kernel, th_w_84, th_o_84_80⟩
theorem th_X9_130_132_134 : ex_th RX9 130 132 134 "java/lang/IndexOutOfBoundsException" "no such line" (th_ad 132) := ⟨tb_533, tb_16, by decide +kernel, by decide +kernel, th_w_134, th_o_134_130⟩
theorem th_X9_80_135_84 : ex_th RX9 80 135 84 "java/lang/IllegalArgumentException" "no such fact of a line" (th_ad 135) := ⟨tb_550, tb_17, by decide +kernel, by decide +kernel, th_w_84, th_o_84_80⟩
theorem th_X9_80_143_84 : ex_th RX9 80 143 84 "java/lang/IllegalArgumentException" "days are 0 to 10,000, and the day is at most 100,000" (th_ad 143) := ⟨tb_550, tb_17, by decide +kernel, by decide +kernel, th_w_84, th_o_84_80⟩
theorem th_X9_80_148_84 : ex_th RX9 80 148 84 "java/lang/IllegalArgumentException" "no such bytes on the tape, or no such day" (th_ad 148) := ⟨tb_550, tb_17, by decide +kernel, by decide +kernel, th_w_84, th_o_84_80⟩
theorem th_X9_61_150_65 : ex_th RX9 61 150 65 "java/lang/IllegalStateException" "there are 20 rules" (th_ad 150) := ⟨tb_438, tb_10, by decide +kernel, by decide +kernel, th_w_65, th_o_65_61⟩
theorem th_X9_130_223_134 : ex_th RX9 130 223 134 "java/lang/IndexOutOfBoundsException" "no such draw" (th_ad 223) := ⟨tb_533, tb_16, by decide +kernel, by decide +kernel, th_w_134, th_o_134_130⟩
theorem th_X9_80_225_84 : ex_th RX9 80 225 84 "java/lang/IllegalArgumentException" "no such fact of a draw" (th_ad 225) := ⟨tb_550, tb_17, by decide +kernel, by decide +kernel, th_w_84, th_o_84_80⟩
theorem th_X9_80_233_84 : ex_th RX9 80 233 84 "java/lang/IllegalArgumentException" "no such fact of a win" (th_ad 233) := ⟨tb_550, tb_17, by decide +kernel, by decide +kernel, th_w_84, th_o_84_80⟩
theorem th_X9_130_255_134 : ex_th RX9 130 255 134 "java/lang/IndexOutOfBoundsException" "no such holder" (th_ad 255) := ⟨tb_533, tb_16, by decide +kernel, by decide +kernel, th_w_134, th_o_134_130⟩
theorem th_X9_61_257_65 : ex_th RX9 61 257 65 "java/lang/IllegalStateException" "the holder died" (th_ad 257) := ⟨tb_438, tb_10, by decide +kernel, by decide +kernel, th_w_65, th_o_65_61⟩
theorem th_X9_80_259_84 : ex_th RX9 80 259 84 "java/lang/IllegalArgumentException" "both holders are one" (th_ad 259) := ⟨tb_550, tb_17, by decide +kernel, by decide +kernel, th_w_84, th_o_84_80⟩
theorem th_X9_130_261_134 : ex_th RX9 130 261 134 "java/lang/IndexOutOfBoundsException" "no such win" (th_ad 261) := ⟨tb_533, tb_16, by decide +kernel, by decide +kernel, th_w_134, th_o_134_130⟩
