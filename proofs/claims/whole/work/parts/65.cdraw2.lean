/-! the kinds are apart -/
theorem va_OF_eq {o n d : String} {v v' : Value} {t : Nat} {A : Nat → Prop} {U : State} {H : Heap} (h : va_OF o n d v t A U H) (h' : va_OF o n d v' t A U H) : v = v' := by
  obtain ⟨cf, k, i, f, cell, h1, h2, h3, h4, h5, h6⟩ := h
  obtain ⟨cf', k', i', f', cell', h1', h2', h3', h4', h5', h6'⟩ := h'
  rw [h1] at h1'
  cases h1'
  rw [h3] at h3'
  cases h3'
  rw [h5] at h5'
  exact Option.some.inj h5'
def KD (g : gl_T) : Prop := ∀ i j, i < 4 → j < 4 → g.2.2.2.2 (3 + i) = g.2.2.2.2 (3 + j) → i = j
theorem ex_kd {g : gl_T} {d : Nat} {M : mt_T} {Po : ex_R} {pc : Nat} {lv : List (Nat × Value)} {st : List Value} {S : hs_T} {n k : Nat} (kk : KD g → ex_W g d M Po pc lv st S n k) : ex_W g d M Po pc lv st S n k := by
  intro p e R s m args below meth c H locs ls cells slots n0 k0 C hl hW hS hn hk hN hK
  refine kk ?_ p e R s m args below meth c H locs ls cells slots n0 k0 C hl hW hS hn hk hN hK
  obtain ⟨_, _, ⟨hKU, hKH, hbs, hst⟩, _⟩ := id C
  have a0 := hKH.2.2.1 _ (List.mem_of_getElem? (l := cs_F) (i := 5) rfl)
  have a1 := hKH.2.2.1 _ (List.mem_of_getElem? (l := cs_F) (i := 11) rfl)
  have a2 := hKH.2.2.1 _ (List.mem_of_getElem? (l := cs_F) (i := 17) rfl)
  have a3 := hKH.2.2.1 _ (List.mem_of_getElem? (l := cs_F) (i := 23) rfl)
  have b0 := hKH.2.2.1 _ (List.mem_of_getElem? (l := cs_F) (i := 2) rfl)
  have b2 := hKH.2.2.1 _ (List.mem_of_getElem? (l := cs_F) (i := 14) rfl)
  dsimp only at a0 a1 a2 a3 b0 b2
  have n01 : g.2.2.2.2 3 ≠ g.2.2.2.2 4 := fun z => by rw [z] at a0; have := va_OF_eq a0 a1; simp at this
  have n02 : g.2.2.2.2 3 ≠ g.2.2.2.2 5 := fun z => by rw [z] at b0; have := va_OF_eq b0 b2; simp at this
  have n03 : g.2.2.2.2 3 ≠ g.2.2.2.2 6 := fun z => by rw [z] at a0; have := va_OF_eq a0 a3; simp at this
  have n12 : g.2.2.2.2 4 ≠ g.2.2.2.2 5 := fun z => by rw [z] at a1; have := va_OF_eq a1 a2; simp at this
  have n13 : g.2.2.2.2 4 ≠ g.2.2.2.2 6 := fun z => by rw [z] at a1; have := va_OF_eq a1 a3; simp at this
  have n23 : g.2.2.2.2 5 ≠ g.2.2.2.2 6 := fun z => by rw [z] at a2; have := va_OF_eq a2 a3; simp at this
  intro i j hi hj he
  match i, j, hi, hj, he with
  | 0, 0, _, _, _ => rfl
  | 1, 1, _, _, _ => rfl
  | 2, 2, _, _, _ => rfl
  | 3, 3, _, _, _ => rfl
  | 0, 1, _, _, he => exact absurd he n01
  | 0, 2, _, _, he => exact absurd he n02
  | 0, 3, _, _, he => exact absurd he n03
  | 1, 2, _, _, he => exact absurd he n12
  | 1, 3, _, _, he => exact absurd he n13
  | 2, 3, _, _, he => exact absurd he n23
  | 1, 0, _, _, he => exact absurd he.symm n01
  | 2, 0, _, _, he => exact absurd he.symm n02
  | 3, 0, _, _, he => exact absurd he.symm n03
  | 2, 1, _, _, he => exact absurd he.symm n12
  | 3, 1, _, _, he => exact absurd he.symm n13
  | 3, 2, _, _, he => exact absurd he.symm n23
set_option maxRecDepth 20000 in
set_option maxHeartbeats 2000000 in
theorem c_Clause_fund (g : gl_T) {S : hs_T} {n k : Nat} {a : Nat} {q : cl_T} (hL : a ∈ hs_L S) (hK : hs_K S a = 1) (hc : CCl g S a q) (hq : cl_ok q) {H : Nat} {xh : Int64} (hxh : xh = lN H) (hH : H ≤ 1000000000000) : ex_M g 1 mX0_fundFor [.ref a, .long xh] S n k (ex_rt (some (.long (lN (if q.1 = 0 then H * q.2.1 / q.2.2 else 0)))) S n k) := by
  refine ex_enter (by decide +kernel) (Nat.le_of_ble_eq_true rfl) ?_
  show ex_W _ _ _ _ 0 [(0, .ref a), (1, .long xh)] [] _ _ _
  obtain ⟨q1, q2, q3, q4, q5, q6, q7⟩ := id hq
  refine ex_kd (fun hkd => ?_)
  refine ex_aload_n dX0_fundFor_0 0 rfl ?_
  refine ex_getR (b := g.2.2.2.2 (3 + q.1)) dX0_fundFor_1 fl_X0_7 hL hK hc.1 ?_
  refine ex_gets (q := ("BondOffice$Kind", "FUND", "LBondOffice$Kind;", fun ad => .ref (ad 3))) dX0_fundFor_4 cZ_2 gs_X0_20 ?_
  refine ex_acmp_neR (tgt := 28) dX0_fundFor_7 (by decide) (fun c7 => ?_) (fun c7 => ?_)
  · refine ex_lconst (v := 0) dX0_fundFor_28 (by decide) ?_
    exact ex_lrt rfl dX0_fundFor_29 (ex_rt_e (by rw [if_neg (fun z => c7 (by rw [z]))]; rfl))
  · have hk0 : q.1 = 0 := hkd q.1 0 (by omega) (by omega) c7
    refine ex_lload_n dX0_fundFor_10 1 rfl ?_
    refine ex_aload_n dX0_fundFor_11 0 rfl ?_
    refine ex_getI dX0_fundFor_12 fl_X0_13 hL hK ?_
    refine ex_i2l dX0_fundFor_15 ?_
    refine ex_lmul dX0_fundFor_16 ?_
    refine ex_aload_n dX0_fundFor_17 0 rfl ?_
    refine ex_getI dX0_fundFor_18 fl_X0_17 hL hK ?_
    refine ex_i2l dX0_fundFor_21 ?_
    refine ex_cSr [.long (xh * ((hs_I S a 1).toInt64)), .long ((hs_I S a 2).toInt64)] [] dX0_fundFor_22 cS_X0_25 (c_cutBy g (a := H * q.2.1) (b := q.2.2) (by rw [hxh, hc.2.1, nI_l (by omega), lN_mul]) (by rw [hc.2.2, nI_l (by omega)]) (by have z1 := q4 hk0; have z2 : H * q.2.1 ≤ 1000000000000 * 1000000 := Nat.mul_le_mul hH z1.1; omega) (by omega)) rfl (by decide) (Nat.le_of_ble_eq_true rfl) rfl ?_
    refine ex_goto (tgt := 29) dX0_fundFor_25 (by decide) ?_
    exact ex_lrt rfl dX0_fundFor_29 (ex_rt_e (by rw [if_pos hk0]))
set_option maxRecDepth 20000 in
set_option maxHeartbeats 2000000 in
theorem c_Clause_prizes (g : gl_T) {S : hs_T} {n k : Nat} {a : Nat} {q : cl_T} (hL : a ∈ hs_L S) (hK : hs_K S a = 1) (hc : CCl g S a q) (hq : cl_ok q) {F : Nat} {xf : Int64} (hxf : xf = lN F) (hF : F < 1000000000000000000) : ex_M g 1 mX0_prizesFrom [.ref a, .long xf] S n k (ex_rt (some (.long (lN (wn F q)))) S n k) := by
  refine ex_enter (by decide +kernel) (Nat.le_of_ble_eq_true rfl) ?_
  show ex_W _ _ _ _ 0 [(0, .ref a), (1, .long xf)] [] _ _ _
  obtain ⟨q1, q2, q3, q4, q5, q6, q7⟩ := id hq
  refine ex_kd (fun hkd => ?_)
  refine ex_aload_n dX0_prizesFrom_0 0 rfl ?_
  refine ex_getR (b := g.2.2.2.2 (3 + q.1)) dX0_prizesFrom_1 fl_X0_7 hL hK hc.1 ?_
  refine ex_gets (q := ("BondOffice$Kind", "TIER", "LBondOffice$Kind;", fun ad => .ref (ad 5))) dX0_prizesFrom_4 cZ_4 gs_X0_31 ?_
  refine ex_acmp_neR (tgt := 16) dX0_prizesFrom_7 (by decide) (fun c7 => ?_) (fun c7 => ?_)
  · refine ex_aload_n dX0_prizesFrom_16 0 rfl ?_
    refine ex_getR (b := g.2.2.2.2 (3 + q.1)) dX0_prizesFrom_17 fl_X0_7 hL hK hc.1 ?_
    refine ex_gets (q := ("BondOffice$Kind", "SHARE", "LBondOffice$Kind;", fun ad => .ref (ad 6))) dX0_prizesFrom_20 cZ_5 gs_X0_34 ?_
    refine ex_acmp_neR (tgt := 64) dX0_prizesFrom_23 (by decide) (fun c23 => ?_) (fun c23 => ?_)
    · refine ex_lconst (v := 0) dX0_prizesFrom_64 (by decide) ?_
      exact ex_lrt rfl dX0_prizesFrom_65 (ex_rt_e (by unfold wn; rw [if_neg (fun z => c7 (by rw [z])), if_neg (fun z => c23 (by rw [z]))]; rfl))
    · have hk0 : q.1 = 3 := hkd q.1 3 (by omega) (by omega) c23
      have z1 := q7 hk0
      have z2 : F / 100 * q.2.2 ≤ F / 100 * 100 := Nat.mul_le_mul (Nat.le_refl _) z1
      have z3 : F % 100 * q.2.2 ≤ 100 * 100 := Nat.mul_le_mul (by omega) z1
      have hshb : F / 100 * q.2.2 + F % 100 * q.2.2 / 100 < 2 ^ 63 := by omega
      have hsh : xf / 100 * (hs_I S a 2).toInt64 + (xf - xf / 100 * 100) * (hs_I S a 2).toInt64 / 100 = lN (F / 100 * q.2.2 + F % 100 * q.2.2 / 100) := by
        have e1 : (100 : Int64) = lN 100 := rfl
        rw [hxf, hc.2.2, nI_l (by omega), e1, pk_lRem (by omega) (by decide) (by decide), pk_lDiv (by omega) (by decide) (by decide), lN_mul, lN_mul, pk_lDiv (by omega) (by decide) (by decide), lN_add]
      refine ex_lload_n dX0_prizesFrom_26 1 rfl ?_
      refine ex_ldc2 dX0_prizesFrom_27 lc_X0_37 ?_
      refine ex_ldiv dX0_prizesFrom_30 (by decide) ?_
      refine ex_aload_n dX0_prizesFrom_31 0 rfl ?_
      refine ex_getI dX0_prizesFrom_32 fl_X0_17 hL hK ?_
      refine ex_i2l dX0_prizesFrom_35 ?_
      refine ex_lmul dX0_prizesFrom_36 ?_
      refine ex_lload_n dX0_prizesFrom_37 1 rfl ?_
      refine ex_ldc2 dX0_prizesFrom_38 lc_X0_37 ?_
      refine ex_lrem dX0_prizesFrom_41 (by decide) ?_
      refine ex_aload_n dX0_prizesFrom_42 0 rfl ?_
      refine ex_getI dX0_prizesFrom_43 fl_X0_17 hL hK ?_
      refine ex_i2l dX0_prizesFrom_46 ?_
      refine ex_lmul dX0_prizesFrom_47 ?_
      refine ex_ldc2 dX0_prizesFrom_48 lc_X0_37 ?_
      refine ex_ldiv dX0_prizesFrom_51 (by decide) ?_
      refine ex_ladd dX0_prizesFrom_52 ?_
      refine ex_lstore_n [(3, .long (((xf / 100) * ((hs_I S a 2).toInt64)) + (((xf - xf / 100 * 100) * ((hs_I S a 2).toInt64)) / 100))), (0, .ref a), (1, .long xf)] dX0_prizesFrom_53 (by decide) rfl ?_
      refine ex_lload_n dX0_prizesFrom_54 0 rfl ?_
      refine ex_aload_n dX0_prizesFrom_55 1 rfl ?_
      refine ex_getI dX0_prizesFrom_56 fl_X0_13 hL hK ?_
      refine ex_i2l dX0_prizesFrom_59 ?_
      refine ex_cSr [.long (((xf / 100) * ((hs_I S a 2).toInt64)) + (((xf - xf / 100 * 100) * ((hs_I S a 2).toInt64)) / 100)), .long ((hs_I S a 1).toInt64)] [] dX0_prizesFrom_60 cS_X0_25 (c_cutBy g (a := F / 100 * q.2.2 + F % 100 * q.2.2 / 100) (b := q.2.1) hsh (by rw [hc.2.1, nI_l (by omega)]) hshb (by omega)) rfl (by decide) (Nat.le_of_ble_eq_true rfl) rfl ?_
      exact ex_lrt rfl dX0_prizesFrom_63 (ex_rt_e (by unfold wn; rw [if_neg (by omega), if_pos hk0]))
  · have hk0 : q.1 = 2 := hkd q.1 2 (by omega) (by omega) c7
    refine ex_aload_n dX0_prizesFrom_10 0 rfl ?_
    refine ex_getI dX0_prizesFrom_11 fl_X0_17 hL hK ?_
    refine ex_i2l dX0_prizesFrom_14 ?_
    exact ex_lrt rfl dX0_prizesFrom_15 (ex_rt_e (by unfold wn; rw [if_pos hk0, hc.2.2, nI_l (by omega)]))
/-- a rule that is drawn by -/
def CU (g : gl_T) (S : hs_T) (ru : Nat) (cs : List cl_T) : Prop := (ru ∈ hs_L S ∧ hs_K S ru = 6) ∧ (∃ ow sl cc ca, CL g S ow sl ru 1 1 cc ca ∧ ca.length = cs.length ∧ ∀ i, i < ca.length → CCl g S (ca.getD i 0) (cl_at cs i)) ∧ cs.length ≤ 10 ∧ ∀ c ∈ cs, cl_ok c
set_option maxRecDepth 20000 in
set_option maxHeartbeats 2000000 in
theorem c_days_l {g : gl_T} {S : hs_T} {n k ru : Nat} {cs : List cl_T} (h : CU g S ru cs) (hkd : KD g) : ∀ t i v, i ≤ cs.length → cs.length < i + t → v = nI (dy cs i) → ex_W g 3 mX6_daysNeeded (ex_rt (some (.int (nI (dy cs cs.length)))) S n k) 4 [(2, .int (nI i)), (1, .int v), (0, .ref ru)] [] S n k := by
  obtain ⟨hru, ⟨ow, sl, cc, ca, ⟨b, e, hR, hA, _, _⟩, hca, hcf⟩, h10, hok⟩ := id h
  intro t
  induction t with
  | zero => intro i v h1 h2; exact absurd h2 (by omega)
  | succ t ih =>
    intro i v hi1 hi2 hv
    refine ex_iload_n dX6_daysNeeded_4 0 rfl ?_
    refine ex_aload_n dX6_daysNeeded_5 2 rfl ?_
    refine ex_getR (b := b) dX6_daysNeeded_6 fl_X6_10 hru.1 hru.2 hR ?_
    refine ex_cVr [] [.int (nI i)] dX6_daysNeeded_9 cV_X6_20 (c_szn g hA hca) hA.1.1 hA.1.2.1 rfl rfl rfl (by decide) (Nat.le_of_ble_eq_true rfl) rfl ?_
    refine ex_icmp_ge (tgt := 52) dX6_daysNeeded_12 (by decide) (fun c12 => ?_) (fun c12 => ?_)
    · have hil : i = cs.length := by have := (nI_leI (by omega) (by omega)).mp c12; omega
      refine ex_iload_n dX6_daysNeeded_52 1 rfl ?_
      exact ex_irt rfl dX6_daysNeeded_53 (ex_rt_e (by rw [hv, hil]))
    · have hil : i < cs.length := by
        rcases Nat.lt_or_ge i cs.length with z | z
        · exact z
        · exact absurd (nI_le z (by omega)) c12
      have mj := al_mem hA (j := i) (by omega)
      have hqi := cl_in hok hil
      have hci := hcf i (by omega)
      refine ex_aload_n dX6_daysNeeded_15 2 rfl ?_
      refine ex_getR (b := b) dX6_daysNeeded_16 fl_X6_10 hru.1 hru.2 hR ?_
      refine ex_iload_n dX6_daysNeeded_19 0 rfl ?_
      refine ex_cVr [.int (nI i)] [] dX6_daysNeeded_20 cV_X6_24 (c_getj g hA rfl (by omega)) hA.1.1 hA.1.2.1 rfl rfl rfl (by decide) (Nat.le_of_ble_eq_true rfl) rfl ?_
      refine ex_cast dX6_daysNeeded_23 mj.1 mj.2 rfl kl_X6_28 ?_
      refine ex_astore_n [(3, .ref (ca.getD i 0)), (2, .int (nI i)), (1, .int v), (0, .ref ru)] dX6_daysNeeded_26 (by decide) rfl ?_
      refine ex_aload_n dX6_daysNeeded_27 0 rfl ?_
      refine ex_getR (b := g.2.2.2.2 (3 + (cl_at cs i).1)) dX6_daysNeeded_28 fl_X6_30 mj.1 mj.2 (hcf i (by omega)).1 ?_
      refine ex_gets (q := ("BondOffice$Kind", "DAYS", "LBondOffice$Kind;", fun ad => .ref (ad 4))) dX6_daysNeeded_31 cZ_3 gs_X6_34 ?_
      refine ex_acmp_neR (tgt := 46) dX6_daysNeeded_34 (by decide) (fun c34 => ?_) (fun c34 => ?_)
      · refine ex_iinc (v := nI (i + 1)) 1 [(2, .int (nI (i + 1))), (3, .ref (ca.getD i 0)), (1, .int v), (0, .ref ru)] dX6_daysNeeded_46 rfl (nI_1 i) (by decide) rfl ?_
        refine ex_goto (tgt := 4) dX6_daysNeeded_49 (by decide) ?_
        refine ex_lv [0, 2, 3] rfl ?_
        refine ih (i + 1) _ (by omega) (by omega) ?_
        rw [dy]
        rw [if_neg (fun z => c34 (by rw [z.1]))]; exact hv
      · refine ex_iload_n dX6_daysNeeded_37 2 rfl ?_
        refine ex_aload_n dX6_daysNeeded_38 0 rfl ?_
        refine ex_getI dX6_daysNeeded_39 fl_X6_39 mj.1 mj.2 ?_
        refine ex_mmax dX6_daysNeeded_42 ml_X6_42 mw_max (by decide) (Nat.le_of_ble_eq_true rfl) ?_
        refine ex_istore_n [(1, .int ((if v < (hs_I S (ca.getD i 0) 1) then hs_I S (ca.getD i 0) 1 else v))), (3, .ref (ca.getD i 0)), (2, .int (nI i)), (0, .ref ru)] dX6_daysNeeded_45 (by decide) rfl ?_
        refine ex_iinc (v := nI (i + 1)) 2 [(2, .int (nI (i + 1))), (1, .int ((if v < (hs_I S (ca.getD i 0) 1) then hs_I S (ca.getD i 0) 1 else v))), (3, .ref (ca.getD i 0)), (0, .ref ru)] dX6_daysNeeded_46 rfl (nI_1 i) (by decide) rfl ?_
        refine ex_goto (tgt := 4) dX6_daysNeeded_49 (by decide) ?_
        refine ex_lv [0, 1, 3] rfl ?_
        refine ih (i + 1) _ (by omega) (by omega) ?_
        rw [dy]
        have hk1 : (cl_at cs i).1 = 1 := hkd (cl_at cs i).1 1 (by have := hqi.1; omega) (by omega) c34
        have b1 := dy_le hok i (by omega)
        have b2 := hqi.2.1
        rw [hv, hci.2.1]
        by_cases z : dy cs i < (cl_at cs i).2.1
        · rw [if_pos (nI_lt z (by omega)), if_pos ⟨hk1, z⟩]
        · rw [if_neg (fun w => z ((nI_ltI (by omega) (by omega)).mp w)), if_neg (fun w => z w.2)]
set_option maxRecDepth 20000 in
set_option maxHeartbeats 2000000 in
theorem c_days (g : gl_T) {S : hs_T} {n k : Nat} {ru : Nat} {cs : List cl_T} (h : CU g S ru cs) : ex_M g 3 mX6_daysNeeded [.ref ru] S n k (ex_rt (some (.int (nI (dy cs cs.length)))) S n k) := by
  refine ex_enter (by decide +kernel) (Nat.le_of_ble_eq_true rfl) ?_
  show ex_W _ _ _ _ 0 [(0, .ref ru)] [] _ _ _
  refine ex_iconst (v := 0) dX6_daysNeeded_0 (by decide) ?_
  refine ex_istore_n [(1, .int 0), (0, .ref ru)] dX6_daysNeeded_1 (by decide) rfl ?_
  refine ex_iconst (v := 0) dX6_daysNeeded_2 (by decide) ?_
  refine ex_istore_n [(2, .int 0), (1, .int 0), (0, .ref ru)] dX6_daysNeeded_3 (by decide) rfl ?_
  refine ex_lv [0, 1, 2] rfl ?_
  refine ex_kd (fun hkd => ?_)
  exact c_days_l h hkd (cs.length + 1) 0 _ (by omega) (by omega) rfl
set_option maxRecDepth 20000 in
set_option maxHeartbeats 2000000 in
theorem c_fund_l {g : gl_T} {S : hs_T} {n k ru H : Nat} {cs : List cl_T} {xh : Int64} (h : CU g S ru cs) (hxh : xh = lN H) (hH : H ≤ 1000000000000) : ∀ t i v, i ≤ cs.length → cs.length < i + t → v = lN (fu H cs i) → ex_W g 3 mX6_fundFor (ex_rt (some (.long (lN (fu H cs cs.length)))) S n k) 5 [(5, .int (nI i)), (3, .long v), (0, .ref ru), (1, .long xh)] [] S n k := by
  obtain ⟨hru, ⟨ow, sl, cc, ca, ⟨b, e, hR, hA, _, _⟩, hca, hcf⟩, h10, hok⟩ := id h
  intro t
  induction t with
  | zero => intro i v h1 h2; exact absurd h2 (by omega)
  | succ t ih =>
    intro i v hi1 hi2 hv
    refine ex_iload dX6_fundFor_5 0 rfl ?_
    refine ex_aload_n dX6_fundFor_7 2 rfl ?_
    refine ex_getR (b := b) dX6_fundFor_8 fl_X6_10 hru.1 hru.2 hR ?_
    refine ex_cVr [] [.int (nI i)] dX6_fundFor_11 cV_X6_20 (c_szn g hA hca) hA.1.1 hA.1.2.1 rfl rfl rfl (by decide) (Nat.le_of_ble_eq_true rfl) rfl ?_
    refine ex_icmp_ge (tgt := 42) dX6_fundFor_14 (by decide) (fun c14 => ?_) (fun c14 => ?_)
    · have hil : i = cs.length := by have := (nI_leI (by omega) (by omega)).mp c14; omega
      refine ex_lload_n dX6_fundFor_42 1 rfl ?_
      exact ex_lrt rfl dX6_fundFor_43 (ex_rt_e (by rw [hv, hil]))
    · have hil : i < cs.length := by
        rcases Nat.lt_or_ge i cs.length with z | z
        · exact z
        · exact absurd (nI_le z (by omega)) c14
      have mj := al_mem hA (j := i) (by omega)
      have hqi := cl_in hok hil
      have hci := hcf i (by omega)
      refine ex_lload_n dX6_fundFor_17 1 rfl ?_
      refine ex_aload_n dX6_fundFor_18 2 rfl ?_
      refine ex_getR (b := b) dX6_fundFor_19 fl_X6_10 hru.1 hru.2 hR ?_
      refine ex_iload dX6_fundFor_22 0 rfl ?_
      refine ex_cVr [.int (nI i)] [.long v] dX6_fundFor_24 cV_X6_24 (c_getj g hA rfl (by omega)) hA.1.1 hA.1.2.1 rfl rfl rfl (by decide) (Nat.le_of_ble_eq_true rfl) rfl ?_
      refine ex_cast dX6_fundFor_27 mj.1 mj.2 rfl kl_X6_28 ?_
      refine ex_lload_n dX6_fundFor_30 3 rfl ?_
      refine ex_cVr [.long xh] [.long v] dX6_fundFor_31 cV_X6_48 (c_Clause_fund g mj.1 mj.2 hci hqi hxh hH) mj.1 mj.2 rfl rfl rfl (by decide) (Nat.le_of_ble_eq_true rfl) rfl ?_
      refine ex_ladd dX6_fundFor_34 ?_
      refine ex_lstore_n [(3, .long (v + (lN (if (cl_at cs i).1 = 0 then H * (cl_at cs i).2.1 / (cl_at cs i).2.2 else 0)))), (5, .int (nI i)), (0, .ref ru), (1, .long xh)] dX6_fundFor_35 (by decide) rfl ?_
      refine ex_iinc (v := nI (i + 1)) 1 [(5, .int (nI (i + 1))), (3, .long (v + (lN (if (cl_at cs i).1 = 0 then H * (cl_at cs i).2.1 / (cl_at cs i).2.2 else 0)))), (0, .ref ru), (1, .long xh)] dX6_fundFor_36 rfl (nI_1 i) (by decide) rfl ?_
      refine ex_goto (tgt := 5) dX6_fundFor_39 (by decide) ?_
      refine ex_lv [0, 1, 2, 3] rfl ?_
      exact ih (i + 1) _ (by omega) (by omega) (by rw [hv]; exact lN_add _ _)
set_option maxRecDepth 20000 in
set_option maxHeartbeats 2000000 in
theorem c_fund (g : gl_T) {S : hs_T} {n k : Nat} {ru H : Nat} {cs : List cl_T} {xh : Int64} (h : CU g S ru cs) (hxh : xh = lN H) (hH : H ≤ 1000000000000) : ex_M g 3 mX6_fundFor [.ref ru, .long xh] S n k (ex_rt (some (.long (lN (fu H cs cs.length)))) S n k) := by
  refine ex_enter (by decide +kernel) (Nat.le_of_ble_eq_true rfl) ?_
  show ex_W _ _ _ _ 0 [(0, .ref ru), (1, .long xh)] [] _ _ _
  refine ex_lconst (v := 0) dX6_fundFor_0 (by decide) ?_
  refine ex_lstore_n [(3, .long 0), (0, .ref ru), (1, .long xh)] dX6_fundFor_1 (by decide) rfl ?_
  refine ex_iconst (v := 0) dX6_fundFor_2 (by decide) ?_
  refine ex_istore [(5, .int 0), (3, .long 0), (0, .ref ru), (1, .long xh)] dX6_fundFor_3 (by decide) rfl ?_
  refine ex_lv [0, 1, 2, 3] rfl ?_
  exact c_fund_l h hxh hH (cs.length + 1) 0 _ (by omega) (by omega) rfl
set_option maxRecDepth 20000 in
set_option maxHeartbeats 2000000 in
theorem c_bondAt_l {g : gl_T} {S : hs_T} {n k l c4 c5 : Nat} {ow : Nat → Nat} {ls : List li_T} {ys : List Nat} {y xp : Int32} {pf : Nat → Bool} {R : Nat × Nat} (h : LG g S ow l c4 c5 ls ys) (hpf : ∀ j, j < ls.length → (nI (ln_at ls j).2.2.2.1 ≤ y ↔ pf j = true)) : ∀ t i q v, i ≤ ys.length → ys.length < i + t → v = nI q → q < 2 ^ 31 → q < sz ls ((ys.drop i).filter pf) → bo ls ((ys.drop i).filter pf) q = R → ex_W g 3 mX4_bondAt (ex_rt (some (.int (nI R.1))) S n k) 5 [(4, .int (nI i)), (3, .int v), (0, .ref l), (1, .int xp), (2, .int y)] [] S n k := by
  obtain ⟨hl, hCG, hl15, hlok⟩ := id h
  obtain ⟨la, ⟨a4, e4, r4, l4, o4, p4⟩, ⟨a5, e5, r5, l5, o5, p5⟩, nd4, len4, f4, hG⟩ := id hCG
  have hgl : (ys.map (fun i => la.getD i 0)).length = ys.length := List.length_map _
  have hfl : ∀ i, (ln_at ls i).1 ≤ (ln_at ls i).2.1 := fun i => by
    by_cases z : i < ls.length
    · exact (hlok i z).1
    · unfold ln_at; rw [List.getD_eq_getElem?_getD, List.getElem?_eq_none (by omega)]; exact Nat.le_refl _
  have hys : ys.length ≤ 1500 := Nat.le_trans (nd_len (GO_nd hfl hG) (fun i hi => ((hG.2 i).mp hi).1)) hl15
  intro t
  induction t with
  | zero => intro i q v h1 h2; exact absurd h2 (by omega)
  | succ t ih =>
    intro i q v hi1 hi2 hv hq31 hq hR
    refine ex_iload dX4_bondAt_5 0 rfl ?_
    refine ex_aload_n dX4_bondAt_7 2 rfl ?_
    refine ex_getR (b := a5) dX4_bondAt_8 fl_X4_18 hl.1 hl.2 r5 ?_
    refine ex_cVr [] [.int (nI i)] dX4_bondAt_11 cV_X4_26 (c_szn g l5 hgl) l5.1.1 l5.1.2.1 rfl rfl rfl (by decide) (Nat.le_of_ble_eq_true rfl) rfl ?_
    refine ex_icmp_ge (tgt := 71) dX4_bondAt_14 (by decide) (fun c14 => ?_) (fun c14 => ?_)
    · have hil : i = ys.length := by have := (nI_leI (by omega) (by omega)).mp c14; omega
      rw [hil, List.drop_length] at hq
      exact absurd hq (by simp [sz])
    · have hil : i < ys.length := by
        rcases Nat.lt_or_ge i ys.length with q | q
        · exact q
        · exact absurd (nI_le q (by omega)) c14
      obtain ⟨hz1, hz2⟩ := GO_at hG hil
      have mj := al_mem l4 (j := ys.getD i 0) (by omega)
      obtain ⟨g0, g1, g2, g3, g4⟩ := f4 _ hz1
      have hok := hlok _ hz1
      refine ex_aload_n dX4_bondAt_17 2 rfl ?_
      refine ex_getR (b := a5) dX4_bondAt_18 fl_X4_18 hl.1 hl.2 r5 ?_
      refine ex_iload dX4_bondAt_21 0 rfl ?_
      refine ex_cVr [.int (nI i)] [] dX4_bondAt_23 cV_X4_46 (c_getz g l5 rfl hil) l5.1.1 l5.1.2.1 rfl rfl rfl (by decide) (Nat.le_of_ble_eq_true rfl) rfl ?_
      refine ex_cast dX4_bondAt_26 mj.1 mj.2 rfl kl_X4_50 ?_
      refine ex_astore [(5, .ref (la.getD (ys.getD i 0) 0)), (4, .int (nI i)), (3, .int v), (0, .ref l), (1, .int xp), (2, .int y)] dX4_bondAt_29 (by decide) rfl ?_
      refine ex_aload dX4_bondAt_31 0 rfl ?_
      refine ex_getI dX4_bondAt_33 fl_X4_89 mj.1 mj.2 ?_
      refine ex_iload_n dX4_bondAt_36 5 rfl ?_
      refine ex_icmp_gt (tgt := 65) dX4_bondAt_37 (by decide) (fun c37 => ?_) (fun c37 => ?_)
      · refine ex_iinc (v := nI (i + 1)) 1 [(4, .int (nI (i + 1))), (5, .ref (la.getD (ys.getD i 0) 0)), (3, .int v), (0, .ref l), (1, .int xp), (2, .int y)] dX4_bondAt_65 rfl (nI_1 i) (by decide) rfl ?_
        refine ex_goto (tgt := 5) dX4_bondAt_68 (by decide) ?_
        refine ex_lv [0, 2, 3, 4, 5] rfl ?_
        have hno : ¬ pf (ys.getD i 0) = true := fun z => by have z2 := (hpf _ hz1).mpr z; rw [← g3] at z2; simp only [i_le, i_lt, Int32.reduceToInt] at *; omega
        rw [dr_i hil, List.filter_cons, if_neg hno] at hq hR
        exact ih (i + 1) q v (by omega) (by omega) hv hq31 hq hR
      · refine ex_iload_n dX4_bondAt_40 2 rfl ?_
        refine ex_aload dX4_bondAt_41 0 rfl ?_
        refine ex_cVr [] [.int v] dX4_bondAt_43 cV_X4_84 (c_Line_size g mj.1 mj.2) mj.1 mj.2 rfl rfl rfl (by decide) (Nat.le_of_ble_eq_true rfl) rfl ?_
        refine ex_icmp_ge (tgt := 57) dX4_bondAt_46 (by decide) (fun c46 => ?_) (fun c46 => ?_)
        · refine ex_iload_n dX4_bondAt_57 2 rfl ?_
          refine ex_aload dX4_bondAt_58 0 rfl ?_
          refine ex_cVr [] [.int v] dX4_bondAt_60 cV_X4_84 (c_Line_size g mj.1 mj.2) mj.1 mj.2 rfl rfl rfl (by decide) (Nat.le_of_ble_eq_true rfl) rfl ?_
          refine ex_isub dX4_bondAt_63 ?_
          refine ex_istore_n [(3, .int (v - (hs_I S (la.getD (ys.getD i 0) 0) 1 - hs_I S (la.getD (ys.getD i 0) 0) 0 + 1))), (5, .ref (la.getD (ys.getD i 0) 0)), (4, .int (nI i)), (0, .ref l), (1, .int xp), (2, .int y)] dX4_bondAt_64 (by decide) rfl ?_
          refine ex_iinc (v := nI (i + 1)) 2 [(4, .int (nI (i + 1))), (3, .int (v - (hs_I S (la.getD (ys.getD i 0) 0) 1 - hs_I S (la.getD (ys.getD i 0) 0) 0 + 1))), (5, .ref (la.getD (ys.getD i 0) 0)), (0, .ref l), (1, .int xp), (2, .int y)] dX4_bondAt_65 rfl (nI_1 i) (by decide) rfl ?_
          refine ex_goto (tgt := 5) dX4_bondAt_68 (by decide) ?_
          refine ex_lv [0, 1, 3, 4, 5] rfl ?_
          have hyes : pf (ys.getD i 0) = true := (hpf _ hz1).mp (by rw [← g3]; simp only [i_le, i_lt, Int32.reduceToInt] at *; omega)
          have e1 : hs_I S (la.getD (ys.getD i 0) 0) 1 - hs_I S (la.getD (ys.getD i 0) 0) 0 + 1 = nI (ln_sz (ln_at ls (ys.getD i 0))) := by
            rw [g0, g1, pk_sub hok.1]; exact nI_1 _
          have hszb : ln_sz (ln_at ls (ys.getD i 0)) < 2 ^ 31 := by have := hok.1; have := hok.2.1; unfold ln_sz; omega
          rw [e1, hv] at c46
          have hge := (nI_leI (by omega) (by omega)).mp c46
          rw [dr_i hil, List.filter_cons, if_pos hyes] at hq hR
          simp only [sz] at hq
          rw [bo, if_neg (by omega)] at hR
          refine ih (i + 1) (q - ln_sz (ln_at ls (ys.getD i 0))) _ (by omega) (by omega) ?_ (by omega) (by omega) hR
          rw [hv, e1]; exact pk_sub hge
        · refine ex_aload dX4_bondAt_49 0 rfl ?_
          refine ex_getI dX4_bondAt_51 fl_X4_67 mj.1 mj.2 ?_
          refine ex_iload_n dX4_bondAt_54 2 rfl ?_
          refine ex_iadd dX4_bondAt_55 ?_
          exact ex_irt rfl dX4_bondAt_56 (ex_rt_e (by
  have hyes : pf (ys.getD i 0) = true := (hpf _ hz1).mp (by rw [← g3]; simp only [i_le, i_lt, Int32.reduceToInt] at *; omega)
  have e1 : hs_I S (la.getD (ys.getD i 0) 0) 1 - hs_I S (la.getD (ys.getD i 0) 0) 0 + 1 = nI (ln_sz (ln_at ls (ys.getD i 0))) := by
    rw [g0, g1, pk_sub hok.1]; exact nI_1 _
  have hszb : ln_sz (ln_at ls (ys.getD i 0)) < 2 ^ 31 := by have := hok.1; have := hok.2.1; unfold ln_sz; omega
  have hlt : q < ln_sz (ln_at ls (ys.getD i 0)) := Nat.lt_of_not_le (fun z => c46 (by rw [e1, hv]; exact nI_le z (by omega)))
  rw [dr_i hil, List.filter_cons, if_pos hyes, bo, if_pos hlt] at hR
  rw [← hR, g0, hv, nI_add]))
set_option maxRecDepth 20000 in
set_option maxHeartbeats 2000000 in
theorem c_bondAt (g : gl_T) {S : hs_T} {n k : Nat} {l c4 c5 : Nat} {ow : Nat → Nat} {ls : List li_T} {ys : List Nat} {y xp : Int32} {pf : Nat → Bool} {q : Nat} (h : LG g S ow l c4 c5 ls ys) (hpf : ∀ j, j < ls.length → (nI (ln_at ls j).2.2.2.1 ≤ y ↔ pf j = true)) (hxp : xp = nI q) (hq31 : q < 2 ^ 31) (hq : q < sz ls (ys.filter pf)) : ex_M g 3 mX4_bondAt [.ref l, .int xp, .int y] S n k (ex_rt (some (.int (nI (bo ls (ys.filter pf) q).1))) S n k) := by
  refine ex_enter (by decide +kernel) (Nat.le_of_ble_eq_true rfl) ?_
  show ex_W _ _ _ _ 0 [(0, .ref l), (1, .int xp), (2, .int y)] [] _ _ _
  refine ex_iload_n dX4_bondAt_0 1 rfl ?_
  refine ex_istore_n [(3, .int xp), (0, .ref l), (1, .int xp), (2, .int y)] dX4_bondAt_1 (by decide) rfl ?_
  refine ex_iconst (v := 0) dX4_bondAt_2 (by decide) ?_
  refine ex_istore [(4, .int 0), (3, .int xp), (0, .ref l), (1, .int xp), (2, .int y)] dX4_bondAt_3 (by decide) rfl ?_
  refine ex_lv [0, 1, 2, 3, 4] rfl ?_
  exact c_bondAt_l h hpf (ys.length + 1) 0 q _ (by omega) (by omega) hxp hq31 hq rfl
theorem bo_in {ls : List li_T} : ∀ {zs : List Nat} {q : Nat}, q < sz ls zs → ∃ j ∈ zs, ∃ r, r < ln_sz (ln_at ls j) ∧ bo ls zs q = ((ln_at ls j).1 + r, (ln_at ls j).2.2.1)
  | [], q, h => absurd h (by simp [sz])
  | z :: zs, q, h => by
    by_cases w : q < ln_sz (ln_at ls z)
    · exact ⟨z, List.mem_cons_self, q, w, by rw [bo, if_pos w]⟩
    · obtain ⟨j, h1, r, h2, h3⟩ := bo_in (ls := ls) (zs := zs) (q := q - ln_sz (ln_at ls z)) (by simp only [sz] at h; omega)
      exact ⟨j, List.mem_cons_of_mem _ h1, r, h2, by rw [bo, if_neg w]; exact h3⟩
theorem gd_ex {xs : List Nat} {j : Nat} (h : j ∈ xs) : ∃ p, p < xs.length ∧ xs.getD p 0 = j := by
  obtain ⟨p, hp, e⟩ := List.getElem_of_mem h
  exact ⟨p, hp, by rw [List.getD_eq_getElem?_getD, List.getElem?_eq_getElem hp]; exact e⟩
theorem pw_gd {ls : List li_T} : ∀ {ys : List Nat}, ys.Pairwise (bf ls) → ∀ i j, i < j → j < ys.length → bf ls (ys.getD i 0) (ys.getD j 0) := by
  intro ys h i j hij hj
  have h1 := List.pairwise_iff_getElem.mp h i j (by omega) hj hij
  rw [List.getD_eq_getElem?_getD, List.getElem?_eq_getElem (by omega), List.getD_eq_getElem?_getD, List.getElem?_eq_getElem hj]
  exact h1
set_option maxRecDepth 20000 in
set_option maxHeartbeats 2000000 in
theorem c_holderNow (g : gl_T) {S : hs_T} {n k : Nat} {l c4 c5 : Nat} {ow : Nat → Nat} {ls : List li_T} {ys : List Nat} {y : Int32} {b pp : Nat} (h : LG g S ow l c4 c5 ls ys) (hy : y = nI b) (hpp : pp < ys.length) (hb1 : (ln_at ls (ys.getD pp 0)).1 ≤ b) (hb2 : b ≤ (ln_at ls (ys.getD pp 0)).2.1) : ex_M g 4 mX4_holderNow [.ref l, .int y] S n k (ex_rt (some (.int (nI (ln_at ls (ys.getD pp 0)).2.2.1))) S n k) := by
  refine ex_enter (by decide +kernel) (Nat.le_of_ble_eq_true rfl) ?_
  show ex_W _ _ _ _ 0 [(0, .ref l), (1, .int y)] [] _ _ _
  obtain ⟨hl, hCG, hl15, hlok⟩ := id h
  obtain ⟨la, ⟨a4, e4, r4, l4, o4, p4⟩, ⟨a5, e5, r5, l5, o5, p5⟩, nd4, len4, f4, hG⟩ := id hCG
  have hgl : (ys.map (fun i => la.getD i 0)).length = ys.length := List.length_map _
  have hfl : ∀ i, (ln_at ls i).1 ≤ (ln_at ls i).2.1 := fun i => by
    by_cases z : i < ls.length
    · exact (hlok i z).1
    · unfold ln_at; rw [List.getD_eq_getElem?_getD, List.getElem?_eq_none (by omega)]; exact Nat.le_refl _
  have hys : ys.length ≤ 1500 := Nat.le_trans (nd_len (GO_nd hfl hG) (fun i hi => ((hG.2 i).mp hi).1)) hl15
  obtain ⟨hz1, hz2⟩ := GO_at hG hpp
  have mj := al_mem l4 (j := ys.getD pp 0) (by omega)
  obtain ⟨g0, g1, g2, g3, g4⟩ := f4 _ hz1
  have hok := hlok _ hz1
  have hok1 := hok.1
  have hok2 := hok.2.1
  refine ex_aload_n dX4_holderNow_0 0 rfl ?_
  refine ex_iload_n dX4_holderNow_1 1 rfl ?_
  refine ex_cVr [.int y] [] dX4_holderNow_2 cV_X4_80 (c_pag g (p := pp) ⟨hl, a5, e5, r5, l5, o5, p5⟩ (by rw [hgl]; exact hys) (by rw [hgl]; exact hpp) (fun q hq => by
    rw [hgl] at hq
    obtain ⟨hy1, hy2⟩ := GO_at hG hq
    obtain ⟨k0, k1, _⟩ := f4 _ hy1
    have hokq := hlok _ hy1
    rw [gz_at hq, k0, hy]
    constructor
    · intro w
      have w1 := (nI_leI (by have := hokq.1; have := hokq.2.1; omega) (by omega)).mp w
      apply Nat.le_of_not_lt
      intro w2
      have w3 : (ln_at ls (ys.getD pp 0)).2.1 < (ln_at ls (ys.getD q 0)).1 := pw_gd hG.1 pp q w2 hq
      omega
    · intro w
      refine nI_le ?_ (by omega)
      by_cases w2 : q = pp
      · rw [w2]; exact hb1
      · have w3 : (ln_at ls (ys.getD q 0)).2.1 < (ln_at ls (ys.getD pp 0)).1 := pw_gd hG.1 q pp (by omega) hpp
        have := hokq.1
        omega)) hl.1 hl.2 rfl rfl rfl (by decide) (Nat.le_of_ble_eq_true rfl) rfl ?_
  refine ex_istore_n [(2, .int (nI pp)), (0, .ref l), (1, .int y)] dX4_holderNow_5 (by decide) rfl ?_
  refine ex_iload_n dX4_holderNow_6 0 rfl ?_
  refine ex_aload_n dX4_holderNow_7 1 rfl ?_
  refine ex_getR (b := a5) dX4_holderNow_8 fl_X4_18 hl.1 hl.2 r5 ?_
  refine ex_cVr [] [.int (nI pp)] dX4_holderNow_11 cV_X4_26 (c_szn g l5 hgl) l5.1.1 l5.1.2.1 rfl rfl rfl (by decide) (Nat.le_of_ble_eq_true rfl) rfl ?_
  refine ex_icmp_ge (tgt := 35) dX4_holderNow_14 (by decide) (fun c14 => absurd c14 (fun z => by have := (nI_leI (by omega) (by omega)).mp z; omega)) (fun c14 => ?_)
  refine ex_aload_n dX4_holderNow_17 1 rfl ?_
  refine ex_getR (b := a5) dX4_holderNow_18 fl_X4_18 hl.1 hl.2 r5 ?_
  refine ex_iload_n dX4_holderNow_21 0 rfl ?_
  refine ex_cVr [.int (nI pp)] [] dX4_holderNow_22 cV_X4_46 (c_getz g l5 rfl hpp) l5.1.1 l5.1.2.1 rfl rfl rfl (by decide) (Nat.le_of_ble_eq_true rfl) rfl ?_
  refine ex_cast dX4_holderNow_25 mj.1 mj.2 rfl kl_X4_50 ?_
  refine ex_iload_n dX4_holderNow_28 2 rfl ?_
  refine ex_cVr [.int y] [] dX4_holderNow_29 cV_X4_73 (c_Line_contains g mj.1 mj.2) mj.1 mj.2 rfl rfl rfl (by decide) (Nat.le_of_ble_eq_true rfl) rfl ?_
  refine ex_if_ne (tgt := 37) dX4_holderNow_32 (by decide) (fun c32 => ?_) (fun c32 => absurd c32 (by rw [if_pos ⟨by rw [g0, hy]; exact nI_le hb1 (by omega), by rw [g1, hy]; exact nI_le hb2 (by omega)⟩]; decide))
  refine ex_aload_n dX4_holderNow_37 1 rfl ?_
  refine ex_getR (b := a5) dX4_holderNow_38 fl_X4_18 hl.1 hl.2 r5 ?_
  refine ex_iload_n dX4_holderNow_41 0 rfl ?_
  refine ex_cVr [.int (nI pp)] [] dX4_holderNow_42 cV_X4_46 (c_getz g l5 rfl hpp) l5.1.1 l5.1.2.1 rfl rfl rfl (by decide) (Nat.le_of_ble_eq_true rfl) rfl ?_
  refine ex_cast dX4_holderNow_45 mj.1 mj.2 rfl kl_X4_50 ?_
  refine ex_getI dX4_holderNow_48 fl_X4_64 mj.1 mj.2 ?_
  exact ex_irt rfl dX4_holderNow_51 (ex_rt_e (by rw [g2]))
set_option maxRecDepth 20000 in
set_option maxHeartbeats 2000000 in
theorem c_placeOf (g : gl_T) {S : hs_T} {n k : Nat} {a M st sp kx : Nat} {xk : Int32} (hL : a ∈ hs_L S) (hK : hs_K S a = 2) (hm : hs_I S a 2 = nI M) (hs : hs_J S a 3 = lN st) (hp : hs_J S a 4 = lN sp) (hk : xk = nI kx) (hM : 0 < M) (hM9 : M ≤ 1000000000) (hst : st < M) (hsp : sp ≤ M + 1) (hk50 : kx ≤ 50) : ex_M g 0 mX1_placeOf [.ref a, .int xk] S n k (ex_rt (some (.int (nI ((st + kx * sp) % M)))) S n k) := by
  refine ex_enter (by decide +kernel) (Nat.le_of_ble_eq_true rfl) ?_
  show ex_W _ _ _ _ 0 [(0, .ref a), (1, .int xk)] [] _ _ _
  refine ex_aload_n dX1_placeOf_0 0 rfl ?_
  refine ex_getI dX1_placeOf_1 fl_X1_37 hL hK ?_
  refine ex_iconst (v := 1) dX1_placeOf_4 (by decide) ?_
  refine ex_icmp_ge (tgt := 12) dX1_placeOf_5 (by decide) (fun c5 => ?_) (fun c5 => absurd (by rw [hm]; exact nI_le (a := 1) hM (by omega)) c5)
  refine ex_aload_n dX1_placeOf_12 0 rfl ?_
  refine ex_getJ dX1_placeOf_13 fl_X1_9 hL hK ?_
  refine ex_iload_n dX1_placeOf_16 1 rfl ?_
  refine ex_i2l dX1_placeOf_17 ?_
  refine ex_aload_n dX1_placeOf_18 0 rfl ?_
  refine ex_getJ dX1_placeOf_19 fl_X1_15 hL hK ?_
  refine ex_lmul dX1_placeOf_22 ?_
  refine ex_ladd dX1_placeOf_23 ?_
  refine ex_aload_n dX1_placeOf_24 0 rfl ?_
  refine ex_getI dX1_placeOf_25 fl_X1_37 hL hK ?_
  refine ex_i2l dX1_placeOf_28 ?_
  refine ex_lrem dX1_placeOf_29 (by rw [hm, nI_l (by omega)]; exact fun z => absurd ((pk_lEQ (b := 0) (by omega) (by decide)).mp z) (by omega)) ?_
  refine ex_l2i dX1_placeOf_30 ?_
  exact ex_irt rfl dX1_placeOf_31 (ex_rt_e (by
  have b1 : kx * sp ≤ 50 * 1000000001 := Nat.mul_le_mul hk50 (by omega)
  rw [hs, hp, hm, hk, nI_l (by omega), nI_l (by omega), lN_mul, lN_add, pk_lRem (by omega) hM (by omega), lN_i]))
