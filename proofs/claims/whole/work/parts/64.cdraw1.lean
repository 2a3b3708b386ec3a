/-! the numbers of a draw -/
set_option maxRecDepth 20000 in
set_option maxHeartbeats 2000000 in
theorem c_cutBy (g : gl_T) {S : hs_T} {n k : Nat} {a b : Nat} {xa xb : Int64} (hxa : xa = lN a) (hxb : xb = lN b) (ha : a < 2 ^ 63) (hb : b < 2 ^ 63) : ex_M g 0 mX9_cutBy [.long xa, .long xb] S n k (ex_rt (some (.long (lN (a / b)))) S n k) := by
  refine ex_enter (by decide +kernel) (Nat.le_of_ble_eq_true rfl) ?_
  show ex_W _ _ _ _ 0 [(0, .long xa), (2, .long xb)] [] _ _ _
  refine ex_lload_n dX9_cutBy_0 1 rfl ?_
  refine ex_lconst (v := 1) dX9_cutBy_1 (by decide) ?_
  refine ex_lcmp dX9_cutBy_2 ?_
  refine ex_if_ge (tgt := 10) dX9_cutBy_3 (by decide) (fun c3 => ?_) (fun c3 => ?_)
  · have hb0 : ¬ b = 0 := fun z => absurd c3 (by rw [hxb, z]; decide)
    refine ex_lload_n dX9_cutBy_10 0 rfl ?_
    refine ex_lload_n dX9_cutBy_11 1 rfl ?_
    refine ex_ldiv dX9_cutBy_12 (by rw [hxb]; exact fun z => hb0 ((pk_lEQ (b := 0) hb (by decide)).mp z)) ?_
    exact ex_lrt rfl dX9_cutBy_13 (ex_rt_e (by rw [hxa, hxb, pk_lDiv ha (by omega) hb]))
  · refine ex_lconst (v := 0) dX9_cutBy_6 (by decide) ?_
    refine ex_goto (tgt := 13) dX9_cutBy_7 (by decide) ?_
    exact ex_lrt rfl dX9_cutBy_13 (ex_rt_e (by
  have hb0 : b = 0 := by
    rw [hxb] at c3
    apply Nat.eq_zero_of_not_pos
    intro w
    exact c3 (by have h1 : ¬ lg_cmp (lN b) (lN 1) < 0 := (fun z => by have := (lg_ltN hb (by decide)).mp z; omega); change ¬ lg_cmp (lN b) 1 < 0 at h1; rw [i_lt] at h1; rw [i_le]; have e : Int32.toInt 0 = 0 := rfl; omega)
  rw [hb0, Nat.div_zero]; rfl))
theorem lg_gtN {a b : Nat} (ha : a < 2 ^ 63) (hb : b < 2 ^ 63) : 0 < lg_cmp (lN a) (lN b) ↔ b < a := by
  have h := lg_leN ha hb
  constructor
  · intro z; apply Nat.lt_of_not_le; intro w; have := h.mpr w; rw [i_le] at this; rw [i_lt] at z; omega
  · intro z; have h2 : ¬ lg_cmp (lN a) (lN b) ≤ 0 := fun w => by have := h.mp w; omega
    rw [i_le] at h2; rw [i_lt]; omega
/-- the product at least halves with a round -/
theorem gd_half {a b t : Nat} (hb : 0 < b) (h : (b ≤ a ∧ 2 * (a * b) < 2 ^ (t + 1)) ∨ (2 ≤ t + 1 ∧ 2 * (a * b) < 2 ^ t)) : 0 < t ∧ ((a % b ≤ b ∧ 2 * (b * (a % b)) < 2 ^ t) ∨ (2 ≤ t ∧ 2 * (b * (a % b)) < 2 ^ (t - 1))) := by
  have hm := Nat.mod_lt a hb
  have e1 : 2 ^ (t + 1) = 2 * 2 ^ t := by rw [Nat.pow_succ, Nat.mul_comm]
  by_cases z : a < b
  · rcases h with h | h
    · omega
    · rw [Nat.mod_eq_of_lt z, Nat.mul_comm b a]
      exact ⟨by omega, Or.inl ⟨by omega, h.2⟩⟩
  · have h1 : 2 * (a * b) < 2 ^ (t + 1) := by
      rcases h with h | h
      · exact h.2
      · omega
    have h2 : a * b < 2 ^ t := by omega
    have h3 := Nat.div_add_mod a b
    have h4 : 1 ≤ a / b := (Nat.le_div_iff_mul_le hb).mpr (by omega)
    have h5 : b * 1 ≤ b * (a / b) := Nat.mul_le_mul (Nat.le_refl b) h4
    have h6 : b * (2 * (a % b)) ≤ b * a := Nat.mul_le_mul (Nat.le_refl b) (by omega)
    have h7 : 2 * (b * (a % b)) = b * (2 * (a % b)) := by rw [← Nat.mul_assoc, Nat.mul_comm 2 b, Nat.mul_assoc]
    have h8 : b * a = a * b := Nat.mul_comm _ _
    refine ⟨?_, Or.inl ⟨by omega, by omega⟩⟩
    have h9 : 1 * 1 ≤ a * b := Nat.mul_le_mul (by omega) (by omega)
    cases t with
    | zero => simp at h2; omega
    | succ t => omega
set_option maxRecDepth 20000 in
set_option maxHeartbeats 2000000 in
theorem c_gcd_l {g : gl_T} {S : hs_T} {n k G : Nat} {xa xb : Int64} : ∀ t i a b vy vx, vy = lN b → vx = lN a → a < 2 ^ 40 → b < 2 ^ 40 → i + t ≤ 128 → 0 < t → ((b ≤ a ∧ 2 * (a * b) < 2 ^ t) ∨ (2 ≤ t ∧ 2 * (a * b) < 2 ^ (t - 1))) → Nat.gcd a b = G →
    ex_W g 0 mX9_greatestDivisor (ex_rt (some (.long (lN G))) S n k) 9 [(8, .int (nI i)), (6, .long vy), (4, .long vx), (0, .long xa), (2, .long xb)] [] S n k := by
  intro t
  induction t with
  | zero => intro i a b vy vx h1 h2 h3 h4 h5 h6; exact absurd h6 (by omega)
  | succ t ih =>
    intro i a b vy vx hvy hvx ha hb hi ht hp hg
    refine ex_iload dX9_greatestDivisor_9 0 rfl ?_
    refine ex_sipush (v := 128) dX9_greatestDivisor_11 (by decide) ?_
    refine ex_icmp_ge (tgt := 45) dX9_greatestDivisor_14 (by decide) (fun c14 => absurd c14 (fun z => by have := (nI_leI (a := 128) (b := i) (by decide) (by omega)).mp z; omega)) (fun c14 => ?_)
    refine ex_lload dX9_greatestDivisor_17 1 rfl ?_
    refine ex_lconst (v := 0) dX9_greatestDivisor_19 (by decide) ?_
    refine ex_lcmp dX9_greatestDivisor_20 ?_
    refine ex_if_eq (tgt := 45) dX9_greatestDivisor_21 (by decide) (fun c21 => ?_) (fun c21 => ?_)
    · refine ex_lload dX9_greatestDivisor_45 2 rfl ?_
      exact ex_lrt rfl dX9_greatestDivisor_47 (ex_rt_e (by
  have hb0 : b = 0 := by
    rw [hvy] at c21
    exact (lg_eqN (b := 0) (by omega) (by decide)).mp c21
  rw [hvx, ← hg, hb0, Nat.gcd_zero_right]))
    · refine ex_lload dX9_greatestDivisor_24 2 rfl ?_
      refine ex_lload dX9_greatestDivisor_26 1 rfl ?_
      refine ex_lrem dX9_greatestDivisor_28 (by rw [hvy]; exact fun z => c21 (by rw [hvy, z]; decide)) ?_
      refine ex_lstore [(9, .long (vx - vx / vy * vy)), (8, .int (nI i)), (6, .long vy), (4, .long vx), (0, .long xa), (2, .long xb)] dX9_greatestDivisor_29 (by decide) rfl ?_
      refine ex_lload dX9_greatestDivisor_31 2 rfl ?_
      refine ex_lstore [(4, .long vy), (9, .long (vx - vx / vy * vy)), (8, .int (nI i)), (6, .long vy), (0, .long xa), (2, .long xb)] dX9_greatestDivisor_33 (by decide) rfl ?_
      refine ex_lload dX9_greatestDivisor_35 1 rfl ?_
      refine ex_lstore [(6, .long (vx - vx / vy * vy)), (4, .long vy), (9, .long (vx - vx / vy * vy)), (8, .int (nI i)), (0, .long xa), (2, .long xb)] dX9_greatestDivisor_37 (by decide) rfl ?_
      refine ex_iinc (v := nI (i + 1)) 3 [(8, .int (nI (i + 1))), (6, .long (vx - vx / vy * vy)), (4, .long vy), (9, .long (vx - vx / vy * vy)), (0, .long xa), (2, .long xb)] dX9_greatestDivisor_39 rfl (nI_1 i) (by decide) rfl ?_
      refine ex_goto (tgt := 9) dX9_greatestDivisor_42 (by decide) ?_
      refine ex_lv [0, 1, 2, 4, 5] rfl ?_
      have hy0 : 0 < b := Nat.pos_of_ne_zero (fun z => c21 (by rw [hvy, z]; decide))
      have hm := Nat.mod_lt a hy0
      obtain ⟨g1, g2⟩ := gd_half hy0 hp
      refine ih (i + 1) b (a % b) _ _ (by rw [hvx, hvy]; exact pk_lRem (by omega) hy0 (by omega)) hvy (by omega) (by omega) (by omega) g1 g2 ?_
      rw [← hg]; exact gcd_step a b
theorem gd_0 {a b : Nat} (ha : a < 2 ^ 40) (hb : b < 2 ^ 40) : 2 * (a * b) < 2 ^ (128 - 1) := by
  have h1 : a * b ≤ 2 ^ 40 * 2 ^ 40 := Nat.mul_le_mul (by omega) (by omega)
  have h2 : (2 : Nat) ^ 40 * 2 ^ 40 = 1208925819614629174706176 := by decide
  have h3 : (2 : Nat) ^ (128 - 1) = 170141183460469231731687303715884105728 := by decide
  omega
set_option maxRecDepth 20000 in
set_option maxHeartbeats 2000000 in
theorem c_gcd (g : gl_T) {S : hs_T} {n k : Nat} {a b : Nat} {xa xb : Int64} (hxa : xa = lN a) (hxb : xb = lN b) (ha : a < 2 ^ 40) (hb : b < 2 ^ 40) : ex_M g 0 mX9_greatestDivisor [.long xa, .long xb] S n k (ex_rt (some (.long (lN (Nat.gcd a b)))) S n k) := by
  refine ex_enter (by decide +kernel) (Nat.le_of_ble_eq_true rfl) ?_
  show ex_W _ _ _ _ 0 [(0, .long xa), (2, .long xb)] [] _ _ _
  refine ex_lload_n dX9_greatestDivisor_0 0 rfl ?_
  refine ex_lstore [(4, .long xa), (0, .long xa), (2, .long xb)] dX9_greatestDivisor_1 (by decide) rfl ?_
  refine ex_lload_n dX9_greatestDivisor_3 2 rfl ?_
  refine ex_lstore [(6, .long xb), (4, .long xa), (0, .long xa), (2, .long xb)] dX9_greatestDivisor_4 (by decide) rfl ?_
  refine ex_iconst (v := 0) dX9_greatestDivisor_6 (by decide) ?_
  refine ex_istore [(8, .int 0), (6, .long xb), (4, .long xa), (0, .long xa), (2, .long xb)] dX9_greatestDivisor_7 (by decide) rfl ?_
  refine ex_lv [0, 1, 2, 3, 4] rfl ?_
  exact c_gcd_l 128 0 a b _ _ hxb hxa ha hb (by omega) (by omega) (Or.inr ⟨by omega, gd_0 ha hb⟩) rfl
set_option maxRecDepth 20000 in
set_option maxHeartbeats 2000000 in
theorem c_nwd_l {g : gl_T} {S : hs_T} {n k M R : Nat} {vl xf : Int64} {xm : Int32} (hM : 0 < M) (hM9 : M ≤ 1000000000) (hxm : xm = nI M) (hvl : vl = lN (M + 1)) : ∀ t q vs, q ≤ M + 1 → M + 1 < q + t → vs = lN q → nx M t q = R →
    ex_W g 1 mX9_nextWithoutDivisor (ex_rt (some (.long (lN R))) S n k) 8 [(5, .long vs), (3, .long vl), (0, .long xf), (2, .int xm)] [] S n k := by
  intro t
  induction t with
  | zero => intro q vs h1 h2; exact absurd h2 (by omega)
  | succ t ih =>
    intro q vs hq ht hvs hR
    refine ex_lload dX9_nextWithoutDivisor_8 0 rfl ?_
    refine ex_lload_n dX9_nextWithoutDivisor_10 1 rfl ?_
    refine ex_lcmp dX9_nextWithoutDivisor_11 ?_
    refine ex_if_ge (tgt := 39) dX9_nextWithoutDivisor_12 (by decide) (fun c12 => ?_) (fun c12 => ?_)
    · refine ex_lload_n dX9_nextWithoutDivisor_39 1 rfl ?_
      exact ex_lrt rfl dX9_nextWithoutDivisor_40 (ex_rt_e (by
  have hq : q = M + 1 := by
    rw [hvs, hvl] at c12
    have h1 : ¬ q < M + 1 := fun z => by
      have h2 := (lg_ltN (a := q) (b := M + 1) (by omega) (by omega)).mpr z
      rw [i_lt] at h2
      rw [i_le] at c12
      omega
    omega
  rw [hq, nx, gcd_next, if_neg (by omega)] at hR
  rw [hvl, hR]))
    · refine ex_lload dX9_nextWithoutDivisor_15 0 rfl ?_
      refine ex_iload_n dX9_nextWithoutDivisor_17 3 rfl ?_
      refine ex_i2l dX9_nextWithoutDivisor_18 ?_
      refine ex_cSr [.long vs, .long xm.toInt64] [] dX9_nextWithoutDivisor_19 cS_X9_265 (c_gcd g (a := q) (b := M) hvs (by rw [hxm]; exact nI_l (by omega)) (by omega) (by omega)) rfl (by decide) (Nat.le_of_ble_eq_true rfl) rfl ?_
      refine ex_lconst (v := 1) dX9_nextWithoutDivisor_22 (by decide) ?_
      refine ex_lcmp dX9_nextWithoutDivisor_23 ?_
      refine ex_if_ne (tgt := 30) dX9_nextWithoutDivisor_24 (by decide) (fun c24 => ?_) (fun c24 => ?_)
      · refine ex_lload dX9_nextWithoutDivisor_30 0 rfl ?_
        refine ex_lconst (v := 1) dX9_nextWithoutDivisor_32 (by decide) ?_
        refine ex_ladd dX9_nextWithoutDivisor_33 ?_
        refine ex_lstore [(5, .long (vs + 1)), (3, .long vl), (0, .long xf), (2, .int xm)] dX9_nextWithoutDivisor_34 (by decide) rfl ?_
        refine ex_goto (tgt := 8) dX9_nextWithoutDivisor_36 (by decide) ?_
        refine ex_lv [0, 1, 2, 3] rfl ?_
        have hg1 : 1 < Nat.gcd q M := by
          have h1 := Nat.gcd_pos_of_pos_right q hM
          have h2 : ¬ Nat.gcd q M = 1 := fun z => c24 (by rw [z]; decide)
          omega
        have hq2 : q ≠ M + 1 := fun z => by rw [z, gcd_next] at hg1; omega
        refine ih (q + 1) _ (by omega) (by omega) (by rw [hvs]; exact lN_add q 1) ?_
        rw [nx, if_pos hg1] at hR; exact hR
      · refine ex_lload dX9_nextWithoutDivisor_27 0 rfl ?_
        exact ex_lrt rfl dX9_nextWithoutDivisor_29 (ex_rt_e (by
  have h1 := Nat.gcd_pos_of_pos_right q hM
  have h3 : Nat.gcd q M ≤ M := Nat.gcd_le_right q hM
  have h2 : Nat.gcd q M = 1 := (lg_eqN (b := 1) (by omega) (by decide)).mp c24
  rw [nx, if_neg (by omega)] at hR
  rw [hvs, hR]))
set_option maxRecDepth 20000 in
set_option maxHeartbeats 2000000 in
theorem c_nwd (g : gl_T) {S : hs_T} {n k : Nat} {q M : Nat} {xf : Int64} {xm : Int32} (hM : 0 < M) (hM9 : M ≤ 1000000000) (hxm : xm = nI M) (hxf : xf = lN q) (hq : q ≤ M) : ex_M g 1 mX9_nextWithoutDivisor [.long xf, .int xm] S n k (ex_rt (some (.long (lN (nx M (M + 2) q)))) S n k) := by
  refine ex_enter (by decide +kernel) (Nat.le_of_ble_eq_true rfl) ?_
  show ex_W _ _ _ _ 0 [(0, .long xf), (2, .int xm)] [] _ _ _
  refine ex_iload_n dX9_nextWithoutDivisor_0 1 rfl ?_
  refine ex_i2l dX9_nextWithoutDivisor_1 ?_
  refine ex_lconst (v := 1) dX9_nextWithoutDivisor_2 (by decide) ?_
  refine ex_ladd dX9_nextWithoutDivisor_3 ?_
  refine ex_lstore_n [(3, .long (xm.toInt64 + 1)), (0, .long xf), (2, .int xm)] dX9_nextWithoutDivisor_4 (by decide) rfl ?_
  refine ex_lload_n dX9_nextWithoutDivisor_5 1 rfl ?_
  refine ex_lstore [(5, .long xf), (3, .long (xm.toInt64 + 1)), (0, .long xf), (2, .int xm)] dX9_nextWithoutDivisor_6 (by decide) rfl ?_
  refine ex_lv [0, 1, 2, 3] rfl ?_
  exact c_nwd_l hM hM9 hxm (by rw [hxm, nI_l (by omega)]; exact lN_add M 1) (M + 2) q _ (by omega) (by omega) hxf rfl
set_option maxRecDepth 20000 in
set_option maxHeartbeats 2000000 in
theorem c_mix_l {g : gl_T} {S : hs_T} {n k : Nat} {x l tp nz : Nat} {ow : Nat → Nat} {ns : List Int32} {f Mm : Nat} {xf xm : Int32} (hB : CB S ow x l tp nz) (hCN : CN S x nz ns) (hl : ns.length ≤ 20) (hxf : xf = nI f) (hxm : xm = nI Mm) (hf : f ≤ 100) (hM : 0 < Mm) (hM2 : Mm ≤ 1000000000) : ∀ t i v, i ≤ ns.length → ns.length < i + t → v = lN (mx ns f Mm i) →
    ex_W g 0 mX9_mixNoise (ex_rt (some (.long (lN (mx ns f Mm ns.length)))) S n k) 12 [(5, .int (nI i)), (3, .long v), (0, .ref x), (1, .int xf), (2, .int xm)] [] S n k := by
  intro t
  induction t with
  | zero => intro i v h1 h2; exact absurd h2 (by omega)
  | succ t ih =>
    intro i v hi1 hi2 hv
    refine ex_iload dX9_mixNoise_12 0 rfl ?_
    refine ex_aload_n dX9_mixNoise_14 2 rfl ?_
    refine ex_getI dX9_mixNoise_15 fl_X9_41 hB.1.1 hB.1.2 ?_
    refine ex_icmp_ge (tgt := 65) dX9_mixNoise_18 (by decide) (fun c18 => ?_) (fun c18 => ?_)
    · have hil : i = ns.length := by have := (nI_leI (by omega) (by omega)).mp (hCN.1 ▸ c18); omega
      refine ex_lload_n dX9_mixNoise_65 1 rfl ?_
      exact ex_lrt rfl dX9_mixNoise_66 (ex_rt_e (by rw [hv, hil]))
    · have hil : i < ns.length := by
        rcases Nat.lt_or_ge i ns.length with q | q
        · exact q
        · exact absurd (by rw [hCN.1]; exact nI_le q (by omega)) c18
      have hnz := hCN.2 i hil
      refine ex_iload dX9_mixNoise_21 0 rfl ?_
      refine ex_aload_n dX9_mixNoise_23 2 rfl ?_
      refine ex_getR (b := nz) dX9_mixNoise_24 fl_X9_37 hB.1.1 hB.1.2 hB.2.2.2.1 ?_
      refine ex_alen dX9_mixNoise_27 hB.2.2.2.2.1 (by rw [hB.2.2.2.2.2.1]; decide) ?_
      refine ex_icmp_ge (tgt := 65) dX9_mixNoise_28 (by decide) (fun c28 => absurd c28 (by rw [hB.2.2.2.2.2.2.1]; exact fun z => by have := (nI_leI (a := 20) (b := i) (by decide) (by omega)).mp z; omega)) (fun c28 => ?_)
      refine ex_aload_n dX9_mixNoise_31 2 rfl ?_
      refine ex_getR (b := nz) dX9_mixNoise_32 fl_X9_37 hB.1.1 hB.1.2 hB.2.2.2.1 ?_
      refine ex_iload dX9_mixNoise_35 0 rfl ?_
      refine ex_iald (j := i) dX9_mixNoise_37 hB.2.2.2.2.1 hB.2.2.2.2.2.1 rfl (by rw [hB.2.2.2.2.2.2.1]; omega) (by omega) ?_
      refine ex_i2l dX9_mixNoise_38 ?_
      refine ex_ldc2 dX9_mixNoise_39 lc_X9_263 ?_
      refine ex_land dX9_mixNoise_42 ?_
      refine ex_lstore [(6, .long (((hs_I S nz i).toInt64) &&& 4294967295)), (5, .int (nI i)), (3, .long v), (0, .ref x), (1, .int xf), (2, .int xm)] dX9_mixNoise_43 (by decide) rfl ?_
      refine ex_lload_n dX9_mixNoise_45 2 rfl ?_
      refine ex_iload_n dX9_mixNoise_46 4 rfl ?_
      refine ex_i2l dX9_mixNoise_47 ?_
      refine ex_lmul dX9_mixNoise_48 ?_
      refine ex_lload dX9_mixNoise_49 0 rfl ?_
      refine ex_iload_n dX9_mixNoise_51 5 rfl ?_
      refine ex_i2l dX9_mixNoise_52 ?_
      refine ex_lrem dX9_mixNoise_53 (by rw [hxm, nI_l (by omega)]; exact fun z => absurd ((pk_lEQ (b := 0) (by omega) (by decide)).mp z) (by omega)) ?_
      refine ex_ladd dX9_mixNoise_54 ?_
      refine ex_iload_n dX9_mixNoise_55 5 rfl ?_
      refine ex_i2l dX9_mixNoise_56 ?_
      refine ex_lrem dX9_mixNoise_57 (by rw [hxm, nI_l (by omega)]; exact fun z => absurd ((pk_lEQ (b := 0) (by omega) (by decide)).mp z) (by omega)) ?_
      refine ex_lstore_n [(3, .long (((v * xf.toInt64) + ((((hs_I S nz i).toInt64) &&& 4294967295) - (((hs_I S nz i).toInt64) &&& 4294967295) / xm.toInt64 * xm.toInt64)) - ((v * xf.toInt64) + ((((hs_I S nz i).toInt64) &&& 4294967295) - (((hs_I S nz i).toInt64) &&& 4294967295) / xm.toInt64 * xm.toInt64)) / xm.toInt64 * xm.toInt64)), (6, .long (((hs_I S nz i).toInt64) &&& 4294967295)), (5, .int (nI i)), (0, .ref x), (1, .int xf), (2, .int xm)] dX9_mixNoise_58 (by decide) rfl ?_
      refine ex_iinc (v := nI (i + 1)) 2 [(5, .int (nI (i + 1))), (3, .long (((v * xf.toInt64) + ((((hs_I S nz i).toInt64) &&& 4294967295) - (((hs_I S nz i).toInt64) &&& 4294967295) / xm.toInt64 * xm.toInt64)) - ((v * xf.toInt64) + ((((hs_I S nz i).toInt64) &&& 4294967295) - (((hs_I S nz i).toInt64) &&& 4294967295) / xm.toInt64 * xm.toInt64)) / xm.toInt64 * xm.toInt64)), (6, .long (((hs_I S nz i).toInt64) &&& 4294967295)), (0, .ref x), (1, .int xf), (2, .int xm)] dX9_mixNoise_59 rfl (nI_1 i) (by decide) rfl ?_
      refine ex_goto (tgt := 12) dX9_mixNoise_62 (by decide) ?_
      refine ex_lv [0, 1, 3, 4, 5] rfl ?_
      refine ih (i + 1) _ (by omega) (by omega) ?_
      have b1 := mx_lt ns f hM i
      have b2 := ns_n_lt (ns.getD i 0)
      have b3 : ns_n (ns.getD i 0) % Mm < Mm := Nat.mod_lt _ hM
      have b4 : mx ns f Mm i * f ≤ 1000000000 * 100 := Nat.mul_le_mul (by omega) hf
      rw [hv, hxf, hxm, hnz, ns_and, nI_l (by omega), nI_l (by omega), lN_mul, pk_lRem (by omega) hM (by omega), lN_add, pk_lRem (by omega) hM (by omega)]
      rfl
set_option maxRecDepth 20000 in
set_option maxHeartbeats 2000000 in
theorem c_mix (g : gl_T) {S : hs_T} {n k : Nat} {x l tp nz : Nat} {ow : Nat → Nat} {ns : List Int32} {f Mm : Nat} {xf xm : Int32} (hB : CB S ow x l tp nz) (hCN : CN S x nz ns) (hl : ns.length ≤ 20) (hxf : xf = nI f) (hxm : xm = nI Mm) (hf : f ≤ 100) (hM : 0 < Mm) (hM2 : Mm ≤ 1000000000) : ex_M g 0 mX9_mixNoise [.ref x, .int xf, .int xm] S n k (ex_rt (some (.long (lN (mx ns f Mm ns.length)))) S n k) := by
  refine ex_enter (by decide +kernel) (Nat.le_of_ble_eq_true rfl) ?_
  show ex_W _ _ _ _ 0 [(0, .ref x), (1, .int xf), (2, .int xm)] [] _ _ _
  refine ex_iload_n dX9_mixNoise_0 2 rfl ?_
  refine ex_iconst (v := 2) dX9_mixNoise_1 (by decide) ?_
  refine ex_icmp_ge (tgt := 7) dX9_mixNoise_2 (by decide) (fun c2 => ?_) (fun c2 => ?_)
  · refine ex_lconst (v := 0) dX9_mixNoise_7 (by decide) ?_
    refine ex_lstore_n [(3, .long 0), (0, .ref x), (1, .int xf), (2, .int xm)] dX9_mixNoise_8 (by decide) rfl ?_
    refine ex_iconst (v := 0) dX9_mixNoise_9 (by decide) ?_
    refine ex_istore [(5, .int 0), (3, .long 0), (0, .ref x), (1, .int xf), (2, .int xm)] dX9_mixNoise_10 (by decide) rfl ?_
    refine ex_lv [0, 1, 2, 3, 4] rfl ?_
    exact c_mix_l hB hCN hl hxf hxm hf hM hM2 (ns.length + 1) 0 _ (by omega) (by omega) rfl
  · refine ex_lconst (v := 0) dX9_mixNoise_5 (by decide) ?_
    exact ex_lrt rfl dX9_mixNoise_6 (ex_rt_e (by
  have h1 : Mm = 1 := by
    rw [hxm] at c2
    have h2 : ¬ 2 ≤ Mm := fun z => c2 (nI_le z (by omega))
    omega
  have h3 := mx_lt ns f hM ns.length
  rw [show mx ns f Mm ns.length = 0 from by omega]; rfl))
set_option maxRecDepth 20000 in
set_option maxHeartbeats 2000000 in
theorem c_lapse_l {g : gl_T} {S : hs_T} {n k x l tp nz : Nat} {ow : Nat → Nat} {s : st_T} {ys : List Nat} {c : Nat → Nat} (hb : BD s) (hO : OK s) : ∀ t i S1, i ≤ (s_ws s).length → (s_ws s).length < i + t → RC g S1 ow x l tp nz (w_cr (w_ws s (lp (s_td s) (s_ws s) i)) (s_cr s + lpc (s_td s) (s_ws s) i)) ys c → CK ow ow [8, 9] [] S S1 → ex_W g 3 mX9_lapseOldWins (fun r S' n' k' => r = .inl none ∧ RC g S' ow x l tp nz (w_cr (w_ws s (lp (s_td s) (s_ws s) (s_ws s).length)) (s_cr s + lpc (s_td s) (s_ws s) (s_ws s).length)) ys c ∧ CK ow ow [8, 9] [] S S' ∧ n' = n ∧ k' = k) 2 [(1, .int (nI i)), (0, .ref x)] [] S1 n k := by
  obtain ⟨bd1, bd2, bd3, ⟨bd4, bd5⟩, bd6, ⟨bd7, bd8⟩, bd9, bd10, bd11, bd12⟩ := id hb
  intro t
  induction t with
  | zero => intro i S1 h1 h2; exact absurd h2 (by omega)
  | succ t ih =>
    intro i S1 hi1 hi2 h1 hC1
    obtain ⟨hB, hCS, hCH, hCG, hCT, hCR, hCN, hCD, hCW⟩ := id h1
    obtain ⟨wa, ⟨a3, e3, r3, l3, o3, p3⟩, nd3, len3, f3⟩ := id hCW
    have hlen : wa.length = (s_ws s).length := by rw [len3]; exact lp_len _ _ _
    refine ex_iload_n dX9_lapseOldWins_2 0 rfl ?_
    refine ex_aload_n dX9_lapseOldWins_3 1 rfl ?_
    refine ex_getR (b := a3) dX9_lapseOldWins_4 fl_X9_47 hB.1.1 hB.1.2 r3 ?_
    refine ex_cVr [] [.int (nI i)] dX9_lapseOldWins_7 cV_X9_57 (c_szn g l3 hlen) l3.1.1 l3.1.2.1 rfl rfl rfl (by decide) (Nat.le_of_ble_eq_true rfl) rfl ?_
    refine ex_icmp_ge (tgt := 68) dX9_lapseOldWins_10 (by decide) (fun c10 => ?_) (fun c10 => ?_)
    · have hil : i = (s_ws s).length := by have := (nI_leI (by omega) (by omega)).mp c10; omega
      rw [hil] at h1
      exact ex_vrt rfl dX9_lapseOldWins_68 ⟨rfl, h1, hC1, rfl, rfl⟩
    · have hil : i < (s_ws s).length := by
        rcases Nat.lt_or_ge i (s_ws s).length with z | z
        · exact z
        · exact absurd (nI_le z (by omega)) c10
      have mj := al_mem l3 (j := i) (by omega)
      obtain ⟨g0, g1, g2, g3, g4, g5⟩ := f3 i (by show i < (lp _ _ i).length; rw [lp_len]; exact hil)
      change hs_I S1 (wa.getD i 0) 1 = nI (wi_at (lp (s_td s) (s_ws s) i) i).2.1 at g1
      change hs_I S1 (wa.getD i 0) 4 = nI (wi_at (lp (s_td s) (s_ws s) i) i).2.2.2.2.1 at g4
      change hs_I S1 (wa.getD i 0) 5 = nI (wi_at (lp (s_td s) (s_ws s) i) i).2.2.2.2.2 at g5
      rw [lp_at _ _ _ _ (Nat.le_refl i)] at g1 g4 g5
      obtain ⟨hw1, hw2, hw3, hw4, hw5, hw6, hw7⟩ := hO.2.2.2.1 i hil
      have e34 : hs_I S1 x 11 - hs_I S1 (wa.getD i 0) 1 = nI (s_td s - (wi_at (s_ws s) i).2.1) := by rw [hCS.1, g1]; exact pk_sub hw2
      refine ex_aload_n dX9_lapseOldWins_13 1 rfl ?_
      refine ex_getR (b := a3) dX9_lapseOldWins_14 fl_X9_47 hB.1.1 hB.1.2 r3 ?_
      refine ex_iload_n dX9_lapseOldWins_17 0 rfl ?_
      refine ex_cVr [.int (nI i)] [] dX9_lapseOldWins_18 cV_X9_103 (c_getj g l3 rfl (by omega)) l3.1.1 l3.1.2.1 rfl rfl rfl (by decide) (Nat.le_of_ble_eq_true rfl) rfl ?_
      refine ex_cast dX9_lapseOldWins_21 mj.1 mj.2 rfl kl_X9_111 ?_
      refine ex_astore_n [(2, .ref (wa.getD i 0)), (1, .int (nI i)), (0, .ref x)] dX9_lapseOldWins_24 (by decide) rfl ?_
      refine ex_aload_n dX9_lapseOldWins_25 0 rfl ?_
      refine ex_getI dX9_lapseOldWins_26 fl_X9_116 mj.1 mj.2 ?_
      refine ex_if_ne (tgt := 62) dX9_lapseOldWins_29 (by decide) (fun c29 => ?_) (fun c29 => ?_)
      · refine ex_iinc (v := nI (i + 1)) 1 [(1, .int (nI (i + 1))), (2, .ref (wa.getD i 0)), (0, .ref x)] dX9_lapseOldWins_62 rfl (nI_1 i) (by decide) rfl ?_
        refine ex_goto (tgt := 2) dX9_lapseOldWins_65 (by decide) ?_
        refine ex_lv [0, 2] rfl ?_
        have hnl : ¬ wi_la (s_td s) (wi_at (s_ws s) i) := by
          rintro ⟨z1, z2⟩
          first
            | exact c29 (by rw [g5, z1]; rfl)
            | (rw [if_pos (by rw [e34]; exact nI_lt (show 500 < s_td s - (wi_at (s_ws s) i).2.1 by omega) (by omega))] at c40; exact absurd c40 (by decide))
        refine ih (i + 1) S1 (by omega) (by omega) ?_ hC1
        have e : (w_cr (w_ws s (lp (s_td s) (s_ws s) (i + 1))) (s_cr s + lpc (s_td s) (s_ws s) (i + 1))) = (w_cr (w_ws s (lp (s_td s) (s_ws s) i)) (s_cr s + lpc (s_td s) (s_ws s) i)) := by
          have e1 : lp (s_td s) (s_ws s) (i + 1) = lp (s_td s) (s_ws s) i := by rw [lp, if_neg hnl]
          have e2 : lpc (s_td s) (s_ws s) (i + 1) = lpc (s_td s) (s_ws s) i := by
            show su _ i + (if _ then _ else _) = su _ i
            rw [if_neg hnl]; rfl
          rw [e1, e2]
        rw [e]; exact h1
      · refine ex_aload_n dX9_lapseOldWins_32 0 rfl ?_
        refine ex_aload_n dX9_lapseOldWins_33 2 rfl ?_
        refine ex_getI dX9_lapseOldWins_34 fl_X9_54 hB.1.1 hB.1.2 ?_
        refine ex_cVr [.int (hs_I S1 x 11)] [] dX9_lapseOldWins_37 cV_X9_236 (c_Win_isTooOld g mj.1 mj.2) mj.1 mj.2 rfl rfl rfl (by decide) (Nat.le_of_ble_eq_true rfl) rfl ?_
        refine ex_if_eq (tgt := 62) dX9_lapseOldWins_40 (by decide) (fun c40 => ?_) (fun c40 => ?_)
        · refine ex_iinc (v := nI (i + 1)) 1 [(1, .int (nI (i + 1))), (2, .ref (wa.getD i 0)), (0, .ref x)] dX9_lapseOldWins_62 rfl (nI_1 i) (by decide) rfl ?_
          refine ex_goto (tgt := 2) dX9_lapseOldWins_65 (by decide) ?_
          refine ex_lv [0, 2] rfl ?_
          have hnl : ¬ wi_la (s_td s) (wi_at (s_ws s) i) := by
            rintro ⟨z1, z2⟩
            first
              | exact c29 (by rw [g5, z1]; rfl)
              | (rw [if_pos (by rw [e34]; exact nI_lt (show 500 < s_td s - (wi_at (s_ws s) i).2.1 by omega) (by omega))] at c40; exact absurd c40 (by decide))
          refine ih (i + 1) S1 (by omega) (by omega) ?_ hC1
          have e : (w_cr (w_ws s (lp (s_td s) (s_ws s) (i + 1))) (s_cr s + lpc (s_td s) (s_ws s) (i + 1))) = (w_cr (w_ws s (lp (s_td s) (s_ws s) i)) (s_cr s + lpc (s_td s) (s_ws s) i)) := by
            have e1 : lp (s_td s) (s_ws s) (i + 1) = lp (s_td s) (s_ws s) i := by rw [lp, if_neg hnl]
            have e2 : lpc (s_td s) (s_ws s) (i + 1) = lpc (s_td s) (s_ws s) i := by
              show su _ i + (if _ then _ else _) = su _ i
              rw [if_neg hnl]; rfl
            rw [e1, e2]
          rw [e]; exact h1
        · refine ex_aload_n dX9_lapseOldWins_43 0 rfl ?_
          refine ex_iconst (v := 2) dX9_lapseOldWins_44 (by decide) ?_
          refine ex_putI dX9_lapseOldWins_45 fl_X9_116 (pf_X9_116 _) mj.1 mj.2 ?_
          refine ex_aload_n dX9_lapseOldWins_48 2 rfl ?_
          refine ex_dup dX9_lapseOldWins_49 rfl ?_
          refine ex_getJ dX9_lapseOldWins_50 fl_X9_50 hB.1.1 hB.1.2 ?_
          refine ex_aload_n dX9_lapseOldWins_53 0 rfl ?_
          refine ex_getI dX9_lapseOldWins_54 fl_X9_240 mj.1 mj.2 ?_
          refine ex_i2l dX9_lapseOldWins_57 ?_
          refine ex_ladd dX9_lapseOldWins_58 ?_
          refine ex_putJ dX9_lapseOldWins_59 fl_X9_50 (pf_X9_50 _) hB.1.1 hB.1.2 ?_
          refine ex_iinc (v := nI (i + 1)) 1 [(1, .int (nI (i + 1))), (2, .ref (wa.getD i 0)), (0, .ref x)] dX9_lapseOldWins_62 rfl (nI_1 i) (by decide) rfl ?_
          refine ex_goto (tgt := 2) dX9_lapseOldWins_65 (by decide) ?_
          refine ex_lv [0, 2] rfl ?_
          have hla : wi_la (s_td s) (wi_at (s_ws s) i) := ⟨(nI_eq (b := 0) (by omega) (by decide)).mp (g5.symm.trans c29), Nat.lt_of_not_le (fun z => by
            rw [if_neg (by rw [e34]; exact fun w => by have := (nI_ltI (a := 500) (by decide) (by omega)).mp w; omega)] at c40; exact absurd rfl c40)⟩
          have e1 : lp (s_td s) (s_ws s) (i + 1) = (lp (s_td s) (s_ws s) i).set i (wi_st (wi_at (lp (s_td s) (s_ws s) i) i) 2) := by rw [lp, if_pos hla, lp_at _ _ _ _ (Nat.le_refl i)]
          have e2 : lpc (s_td s) (s_ws s) (i + 1) = lpc (s_td s) (s_ws s) i + (wi_at (s_ws s) i).2.2.2.2.1 := by
            show su _ i + (if _ then _ else _) = _
            rw [if_pos hla]; rfl
          have hwst := CW_st hB.1 ⟨a3, e3, r3, l3, o3, p3⟩ nd3 len3 f3 (j := i) (by show i < (lp _ _ i).length; rw [lp_len]; exact hil) (v := 2) (q := 2) rfl
          have hR2 := RC_w h1 hwst
          have hR3 := RC_cr hR2 (v := ((hs_J (hs_sI S1 (wa.getD i 0) 5 2) x 10) + ((hs_I (hs_sI S1 (wa.getD i 0) 5 2) (wa.getD i 0) 4).toInt64))) (t := s_cr s + lpc (s_td s) (s_ws s) (i + 1)) (by
            rw [hs_J_sI, hCS.2.2.2, hs_I_sI, if_neg (fun z => absurd z.2 (by decide)), g4, nI_l (by omega)]
            show lN (s_cr s + lpc (s_td s) (s_ws s) i) + _ = _
            rw [lN_add, e2]; congr 1; omega)
          have hC3 := CK_sJ ow (hs_sI S1 (wa.getD i 0) 5 2) x 10 (((hs_J (hs_sI S1 (wa.getD i 0) 5 2) x 10) + ((hs_I (hs_sI S1 (wa.getD i 0) 5 2) (wa.getD i 0) 4).toInt64)))
          rw [show hs_K (hs_sI S1 (wa.getD i 0) 5 2) x = 9 from hB.1.2] at hC3
          refine ih (i + 1) _ (by omega) (by omega) ?_ (CK_tr hC1 (CK_tr (CK_mono hwst.2 (by decide) (by decide)) (CK_mono hC3 (by decide) (by decide))))
          rw [e1]
          exact hR3
set_option maxRecDepth 20000 in
set_option maxHeartbeats 2000000 in
theorem c_lapse (g : gl_T) {S : hs_T} {n k x l tp nz : Nat} {ow : Nat → Nat} {s : st_T} {ys : List Nat} {c : Nat → Nat} (h : RC g S ow x l tp nz s ys c) (hb : BD s) (hO : OK s) : ex_M g 3 mX9_lapseOldWins [.ref x] S n k (fun r S' n' k' => r = .inl none ∧ RC g S' ow x l tp nz (w_cr (w_ws s (lp (s_td s) (s_ws s) (s_ws s).length)) (s_cr s + lpc (s_td s) (s_ws s) (s_ws s).length)) ys c ∧ CK ow ow [8, 9] [] S S' ∧ n' = n ∧ k' = k) := by
  refine ex_enter (by decide +kernel) (Nat.le_of_ble_eq_true rfl) ?_
  show ex_W _ _ _ _ 0 [(0, .ref x)] [] _ _ _
  refine ex_iconst (v := 0) dX9_lapseOldWins_0 (by decide) ?_
  refine ex_istore_n [(1, .int 0), (0, .ref x)] dX9_lapseOldWins_1 (by decide) rfl ?_
  refine ex_lv [0, 1] rfl ?_
  exact c_lapse_l hb hO ((s_ws s).length + 1) 0 S (by omega) (by omega) h (CK_rf _ _ _ _)
