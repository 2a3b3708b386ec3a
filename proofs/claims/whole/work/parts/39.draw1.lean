/-! draws: the numbers -/
def ns_n (x : Int32) : Nat := x.toBitVec.toNat
theorem ns_n_lt (x : Int32) : ns_n x < 2 ^ 32 := x.toBitVec.isLt
theorem ns_and (x : Int32) : x.toInt64 &&& 4294967295 = lN (ns_n x) := by
  apply Int64.toBitVec_inj.mp
  have e0 : (lN (ns_n x)).toBitVec = BitVec.ofNat 64 (ns_n x) := rfl
  rw [Int64.toBitVec_and, e0]
  apply BitVec.eq_of_getLsbD_eq
  intro i hi
  rw [BitVec.getLsbD_and]
  have e1 : (4294967295 : Int64).toBitVec = BitVec.ofNat 64 (2 ^ 32 - 1) := by decide
  have e2 : x.toInt64.toBitVec = x.toBitVec.signExtend 64 := rfl
  rw [e1, e2, BitVec.getLsbD_ofNat, Nat.testBit_two_pow_sub_one, BitVec.getLsbD_signExtend, BitVec.getLsbD_ofNat]
  unfold ns_n
  by_cases q : i < 32
  · simp [hi, q, BitVec.getLsbD]
  · have e3 : (x.toBitVec.toNat).testBit i = false := Nat.testBit_lt_two_pow (Nat.lt_of_lt_of_le x.toBitVec.isLt (Nat.pow_le_pow_right (by decide) (by omega)))
    simp [q, e3]
def mx (ns : List Int32) (f M : Nat) : Nat → Nat
  | 0 => 0
  | i + 1 => (mx ns f M i * f + ns_n (ns.getD i 0) % M) % M
theorem mx_lt (ns : List Int32) (f : Nat) {M : Nat} (hM : 0 < M) : ∀ i, mx ns f M i < M
  | 0 => hM
  | i + 1 => Nat.mod_lt _ hM
def nx (M : Nat) : Nat → Nat → Nat
  | 0, st => st
  | t + 1, st => if 1 < Nat.gcd st M then nx M t (st + 1) else st
theorem gcd_next (M : Nat) : Nat.gcd (M + 1) M = 1 := by
  rw [Nat.gcd_comm, Nat.gcd_rec, Nat.add_mod_left]
  by_cases h : M = 1
  · subst h; rfl
  · by_cases h0 : M = 0
    · subst h0; rfl
    · rw [Nat.mod_eq_of_lt (by omega)]; exact Nat.gcd_one_left M
theorem gcd_step (x y : Nat) : Nat.gcd y (x % y) = Nat.gcd x y := by
  rw [Nat.gcd_comm x y, Nat.gcd_rec y x, Nat.gcd_comm]
theorem lg_lt0 {x y : Int64} : lg_cmp x y < 0 ↔ x < y := by
  unfold lg_cmp
  split
  · next h => exact ⟨fun z => absurd z (by decide), fun z => by have h1 := (j_lt _ _).mp h; have h2 := (j_lt _ _).mp z; omega⟩
  · next h =>
    split
    · next h2 => subst h2; exact ⟨fun z => absurd z (by decide), fun z => by rw [j_lt] at z; omega⟩
    · next h2 =>
      refine ⟨fun _ => ?_, fun _ => by decide⟩
      have h3 : ¬ y.toInt < x.toInt := fun z => h ((j_lt _ _).mpr z)
      rw [j_lt]
      have : ¬ x.toInt = y.toInt := fun z => h2 ((j_eq x y).mpr z)
      omega
theorem lg_leN {a b : Nat} (ha : a < 2 ^ 63) (hb : b < 2 ^ 63) : lg_cmp (lN a) (lN b) ≤ 0 ↔ a ≤ b := lg_le.trans (pk_lLE ha hb)
theorem lg_ltN {a b : Nat} (ha : a < 2 ^ 63) (hb : b < 2 ^ 63) : lg_cmp (lN a) (lN b) < 0 ↔ a < b := lg_lt0.trans (pk_lLT ha hb)
theorem lg_eqN {a b : Nat} (ha : a < 2 ^ 63) (hb : b < 2 ^ 63) : lg_cmp (lN a) (lN b) = 0 ↔ a = b := lg_eq.trans (pk_lEQ ha hb)
set_option maxRecDepth 20000 in
set_option maxHeartbeats 2000000 in
theorem m_mix_l {g : gl_T} {S : hs_T} {n k m : Nat} {ad : Nat → Nat} {ns : List Int32} {f Mm : Nat} {xf xm : Int64} (hB : MB S m ad) (hMN : MN S m ad ns) (hxf : xf = lN f) (hxm : xm = lN Mm) (hf : f ≤ 100) (hM : 0 < Mm) (hM2 : Mm ≤ 1000000000) : ∀ t i v, i ≤ ns.length → ns.length < i + t → v = lN (mx ns f Mm i) →
    ex_W g 0 mX10_mix (ex_rt (some (.long (lN (mx ns f Mm ns.length)))) S n k) 6 [(7, .int (nI i)), (5, .long v), (0, .ref m), (1, .long xf), (3, .long xm)] [] S n k := by
  have hl := hMN.2.1
  intro t
  induction t with
  | zero => intro i v h1 h2; exact absurd h2 (by omega)
  | succ t ih =>
    intro i v hi1 hi2 hv
    refine ex_iload dX10_mix_6 0 rfl ?_
    refine ex_aload_n dX10_mix_8 2 rfl ?_
    refine ex_getI dX10_mix_9 fl_X10_206 hB.1.1 hB.1.2 ?_
    refine ex_icmp_ge (tgt := 44) dX10_mix_12 (by decide) (fun c12 => ?_) (fun c12 => ?_)
    · have hil : i = ns.length := by have := (nI_leI (by omega) (by omega)).mp (hMN.1 ▸ c12); omega
      refine ex_lload dX10_mix_44 1 rfl ?_
      exact ex_lrt rfl dX10_mix_46 (ex_rt_e (by rw [hv, hil]))
    · have hil : i < ns.length := by
        rcases Nat.lt_or_ge i ns.length with q | q
        · exact q
        · exact absurd (by rw [hMN.1]; exact nI_le q (by omega)) c12
      have h24 := hMN.2.2 i hil
      refine ex_lload dX10_mix_15 1 rfl ?_
      refine ex_lload_n dX10_mix_17 3 rfl ?_
      refine ex_lmul dX10_mix_18 ?_
      refine ex_aload_n dX10_mix_19 2 rfl ?_
      refine ex_getR (b := ad 24) dX10_mix_20 fl_X10_56 hB.1.1 hB.1.2 (mb_24 hB).1 ?_
      refine ex_iload dX10_mix_23 0 rfl ?_
      refine ex_iald (j := i) dX10_mix_25 (mb_24 hB).2.1 (mb_24 hB).2.2.1 rfl (Nat.lt_of_lt_of_eq (show i < 20 by omega) (mb_24 hB).2.2.2.symm) (show i < 2 ^ 31 by omega) ?_
      refine ex_i2l dX10_mix_26 ?_
      refine ex_ldc2 dX10_mix_27 lc_X10_209 ?_
      refine ex_land dX10_mix_30 ?_
      refine ex_lload_n dX10_mix_31 4 rfl ?_
      refine ex_lrem dX10_mix_32 (by rw [hxm]; exact fun z => absurd ((pk_lEQ (b := 0) (by omega) (by decide)).mp z) (by omega)) ?_
      refine ex_ladd dX10_mix_33 ?_
      refine ex_lload_n dX10_mix_34 4 rfl ?_
      refine ex_lrem dX10_mix_35 (by rw [hxm]; exact fun z => absurd ((pk_lEQ (b := 0) (by omega) (by decide)).mp z) (by omega)) ?_
      refine ex_lstore [(5, .long (((v * xf) + ((((hs_I S (ad 24) i).toInt64) &&& 4294967295) - (((hs_I S (ad 24) i).toInt64) &&& 4294967295) / xm * xm)) - ((v * xf) + ((((hs_I S (ad 24) i).toInt64) &&& 4294967295) - (((hs_I S (ad 24) i).toInt64) &&& 4294967295) / xm * xm)) / xm * xm)), (7, .int (nI i)), (0, .ref m), (1, .long xf), (3, .long xm)] dX10_mix_36 (by decide) rfl ?_
      refine ex_iinc (v := nI (i + 1)) 1 [(7, .int (nI (i + 1))), (5, .long (((v * xf) + ((((hs_I S (ad 24) i).toInt64) &&& 4294967295) - (((hs_I S (ad 24) i).toInt64) &&& 4294967295) / xm * xm)) - ((v * xf) + ((((hs_I S (ad 24) i).toInt64) &&& 4294967295) - (((hs_I S (ad 24) i).toInt64) &&& 4294967295) / xm * xm)) / xm * xm)), (0, .ref m), (1, .long xf), (3, .long xm)] dX10_mix_38 rfl (nI_1 i) (by decide) rfl ?_
      refine ex_goto (tgt := 6) dX10_mix_41 (by decide) ?_
      refine ih (i + 1) _ (by omega) (by omega) ?_
      have b1 := mx_lt ns f hM i
      have b2 := ns_n_lt (ns.getD i 0)
      have b3 : ns_n (ns.getD i 0) % Mm < Mm := Nat.mod_lt _ hM
      have b4 : mx ns f Mm i * f ≤ 1000000000 * 100 := Nat.mul_le_mul (by omega) hf
      rw [hv, hxf, hxm, h24, ns_and, lN_mul, pk_lRem (by omega) hM (by omega), lN_add, pk_lRem (by omega) hM (by omega)]
      rfl
set_option maxRecDepth 20000 in
set_option maxHeartbeats 2000000 in
theorem m_mix (g : gl_T) {S : hs_T} {n k : Nat} {m : Nat} {ad : Nat → Nat} {ns : List Int32} {f Mm : Nat} {xf xm : Int64} (hB : MB S m ad) (hMN : MN S m ad ns) (hxf : xf = lN f) (hxm : xm = lN Mm) (hf : f ≤ 100) (hM : 0 < Mm) (hM2 : Mm ≤ 1000000000) : ex_M g 0 mX10_mix [.ref m, .long xf, .long xm] S n k (ex_rt (some (.long (lN (mx ns f Mm ns.length)))) S n k) := by
  refine ex_enter (by decide +kernel) (Nat.le_of_ble_eq_true rfl) ?_
  show ex_W _ _ _ _ 0 [(0, .ref m), (1, .long xf), (3, .long xm)] [] _ _ _
  refine ex_lconst (v := 0) dX10_mix_0 (by decide) ?_
  refine ex_lstore [(5, .long 0), (0, .ref m), (1, .long xf), (3, .long xm)] dX10_mix_1 (by decide) rfl ?_
  refine ex_iconst (v := 0) dX10_mix_3 (by decide) ?_
  refine ex_istore [(7, .int 0), (5, .long 0), (0, .ref m), (1, .long xf), (3, .long xm)] dX10_mix_4 (by decide) rfl ?_
  exact m_mix_l hB hMN hxf hxm hf hM hM2 (ns.length + 1) 0 _ (by omega) (by omega) rfl
set_option maxRecDepth 20000 in
set_option maxHeartbeats 2000000 in
theorem m_common_l {g : gl_T} {S : hs_T} {n k G : Nat} {xa xb : Int64} : ∀ t a b vy vx, vy = lN b → vx = lN a → a < 2 ^ 40 → b < 2 ^ 40 → b < t → Nat.gcd a b = G →
    ex_W g 0 mX10_common (ex_rt (some (.long (lN G))) S n k) 6 [(6, .long vy), (4, .long vx), (0, .long xa), (2, .long xb)] [] S n k := by
  intro t
  induction t with
  | zero => intro a b vy vx h1 h2 h3 h4 h5; exact absurd h5 (by omega)
  | succ t ih =>
    intro a b vy vx hvy hvx ha hb ht hg
    refine ex_lload dX10_common_6 0 rfl ?_
    refine ex_lconst (v := 0) dX10_common_8 (by decide) ?_
    refine ex_lcmp dX10_common_9 ?_
    refine ex_if_le (tgt := 31) dX10_common_10 (by decide) (fun c10 => ?_) (fun c10 => ?_)
    · refine ex_lload dX10_common_31 1 rfl ?_
      exact ex_lrt rfl dX10_common_33 (ex_rt_e (by
  have hb0 : b = 0 := by
    rw [hvy] at c10
    have := (lg_leN (b := 0) (by omega) (by decide)).mp c10
    omega
  rw [hvx, ← hg, hb0, Nat.gcd_zero_right]))
    · refine ex_lload dX10_common_13 1 rfl ?_
      refine ex_lload dX10_common_15 0 rfl ?_
      refine ex_lrem dX10_common_17 (by rw [hvy]; exact fun z => c10 (by rw [hvy, z]; decide)) ?_
      refine ex_lstore [(8, .long (vx - vx / vy * vy)), (6, .long vy), (4, .long vx), (0, .long xa), (2, .long xb)] dX10_common_18 (by decide) rfl ?_
      refine ex_lload dX10_common_20 1 rfl ?_
      refine ex_lstore [(4, .long vy), (8, .long (vx - vx / vy * vy)), (6, .long vy), (0, .long xa), (2, .long xb)] dX10_common_22 (by decide) rfl ?_
      refine ex_lload dX10_common_24 1 rfl ?_
      refine ex_lstore [(6, .long (vx - vx / vy * vy)), (4, .long vy), (8, .long (vx - vx / vy * vy)), (0, .long xa), (2, .long xb)] dX10_common_26 (by decide) rfl ?_
      refine ex_goto (tgt := 6) dX10_common_28 (by decide) ?_
      refine ex_lv [0, 1, 3, 4] rfl ?_
      have hy0 : 0 < b := Nat.pos_of_ne_zero (fun z => c10 (by rw [hvy, z]; decide))
      refine ih b (a % b) _ _ (by rw [hvx, hvy]; exact pk_lRem (by omega) hy0 (by omega)) hvy (by omega) (by have := Nat.mod_lt a hy0; omega) (by have := Nat.mod_lt a hy0; omega) ?_
      rw [← hg]; exact gcd_step a b
set_option maxRecDepth 20000 in
set_option maxHeartbeats 2000000 in
theorem m_common (g : gl_T) {S : hs_T} {n k : Nat} {a b : Nat} {xa xb : Int64} (hxa : xa = lN a) (hxb : xb = lN b) (ha : a < 2 ^ 40) (hb : b < 2 ^ 40) : ex_M g 0 mX10_common [.long xa, .long xb] S n k (ex_rt (some (.long (lN (Nat.gcd a b)))) S n k) := by
  refine ex_enter (by decide +kernel) (Nat.le_of_ble_eq_true rfl) ?_
  show ex_W _ _ _ _ 0 [(0, .long xa), (2, .long xb)] [] _ _ _
  refine ex_lload_n dX10_common_0 0 rfl ?_
  refine ex_lstore [(4, .long xa), (0, .long xa), (2, .long xb)] dX10_common_1 (by decide) rfl ?_
  refine ex_lload_n dX10_common_3 2 rfl ?_
  refine ex_lstore [(6, .long xb), (4, .long xa), (0, .long xa), (2, .long xb)] dX10_common_4 (by decide) rfl ?_
  exact m_common_l (b + 1) a b _ _ hxb hxa ha hb (by omega) rfl
