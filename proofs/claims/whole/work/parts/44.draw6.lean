/-! sums over lists -/
def sm (f : Nat → Nat) : List Nat → Nat
  | [] => 0
  | i :: ys => f i + sm f ys
theorem sz_sm (ls : List li_T) : ∀ ys, sz ls ys = sm (fun i => ln_sz (ln_at ls i)) ys
  | [] => rfl
  | i :: ys => by show _ + _ = _ + _; rw [sz_sm ls ys]
theorem sm_congr {f h : Nat → Nat} : ∀ {ys : List Nat}, (∀ i ∈ ys, f i = h i) → sm f ys = sm h ys
  | [], _ => rfl
  | i :: ys, q => by
    show f i + sm f ys = h i + sm h ys
    rw [q i List.mem_cons_self, sm_congr (fun j hj => q j (List.mem_cons_of_mem _ hj))]
theorem su_congr {f h : Nat → Nat} : ∀ {n : Nat}, (∀ i, i < n → f i = h i) → su f n = su h n
  | 0, _ => rfl
  | n + 1, q => by
    show su f n + f n = su h n + h n
    rw [q n (by omega), su_congr (fun j hj => q j (by omega))]
theorem su_le2 {f h : Nat → Nat} : ∀ {n : Nat}, (∀ i, i < n → f i ≤ h i) → su f n ≤ su h n
  | 0, _ => Nat.le_refl _
  | n + 1, q => by
    show su f n + f n ≤ su h n + h n
    have := q n (by omega)
    have := su_le2 (n := n) (fun j hj => q j (by omega))
    omega
theorem su_up {f : Nat → Nat} {y : Nat} : ∀ {n : Nat}, su f n = (if y < n then f y else 0) + su (fun i => if i = y then 0 else f i) n
  | 0 => by simp [su]
  | n + 1 => by
    show su f n + f n = _ + (su (fun i => if i = y then 0 else f i) n + (if n = y then 0 else f n))
    rw [su_up (f := f) (y := y) (n := n)]
    by_cases h1 : y < n
    · rw [if_pos h1, if_pos (by omega), if_neg (by omega)]; omega
    · by_cases h2 : n = y
      · subst h2; rw [if_neg h1, if_pos (by omega), if_pos rfl]; omega
      · rw [if_neg h1, if_neg (by omega), if_neg h2]; omega
theorem sm_su : ∀ {ys : List Nat} {f : Nat → Nat} {n : Nat}, ys.Nodup → (∀ i, i < n → f i ≠ 0 → i ∈ ys) → (∀ i ∈ ys, i < n) → su f n = sm f ys
  | [], f, n, _, hm, _ => by
    have : ∀ k, k ≤ n → su f k = 0 := by
      intro k
      induction k with
      | zero => intro _; rfl
      | succ k ih =>
        intro hk
        show su f k + f k = 0
        rw [ih (by omega)]
        by_cases z : f k = 0
        · omega
        · exact absurd (hm k (by omega) z) (by simp)
    exact this n (Nat.le_refl _)
  | y :: ys, f, n, hnd, hm, hlt => by
    rw [List.nodup_cons] at hnd
    rw [su_up (y := y), if_pos (hlt y List.mem_cons_self)]
    show _ = f y + sm f ys
    rw [sm_su (ys := ys) (f := fun i => if i = y then 0 else f i) hnd.2 ?_ (fun i hi => hlt i (List.mem_cons_of_mem _ hi))]
    · congr 1
      exact sm_congr (fun i hi => by show (if i = y then 0 else f i) = f i; rw [if_neg (fun z => hnd.1 (by rw [← z]; exact hi))])
    · intro i hi hf
      by_cases z : i = y
      · simp [z] at hf
      · rw [if_neg z] at hf
        rcases List.mem_cons.mp (hm i hi hf) with q | q
        · exact absurd q z
        · exact q
theorem GO_nd {ls : List li_T} {ys : List Nat} (hf : ∀ i, (ln_at ls i).1 ≤ (ln_at ls i).2.1) (h : GO ls ys) : ys.Nodup := by
  refine List.Pairwise.imp ?_ h.1
  intro i j hij e
  subst e
  have := hf i
  omega
/-- what is summed over all lines is summed over those that go on -/
theorem GO_su {ls : List li_T} {ys : List Nat} (hf : ∀ i, (ln_at ls i).1 ≤ (ln_at ls i).2.1) (h : GO ls ys) (F : li_T → Nat) (hF : ∀ l : li_T, l.2.2.2.2 ≠ none → F l = 0) : su (fun j => F (ln_at ls j)) ls.length = sm (fun j => F (ln_at ls j)) ys := by
  refine sm_su (GO_nd hf h) (fun i hi hz => (h.2 i).mpr ⟨hi, ?_⟩) (fun i hi => ((h.2 i).mp hi).1)
  by_cases z : (ln_at ls i).2.2.2.2 = none
  · exact z
  · exact absurd (hF _ z) hz
theorem GO_H {ls : List li_T} {ys : List Nat} (hf : ∀ i, (ln_at ls i).1 ≤ (ln_at ls i).2.1) (h : GO ls ys) : su (fun j => ln_go (ln_at ls j)) ls.length = sz ls ys := by
  rw [GO_su hf h ln_go (fun l hl => by unfold ln_go; rw [if_neg hl]), sz_sm]
  exact sm_congr (fun i hi => by unfold ln_go ln_sz; rw [if_pos ((h.2 i).mp hi).2])
theorem sz_le {ls : List li_T} {B : Nat} : ∀ {zs : List Nat} {b : Nat}, zs.Pairwise (bf ls) → (∀ i ∈ zs, (ln_at ls i).1 ≤ (ln_at ls i).2.1 ∧ (ln_at ls i).2.1 < B ∧ b ≤ (ln_at ls i).1) → b ≤ B → sz ls zs + b ≤ B
  | [], b, _, _, hb => by simp [sz, hb]
  | i :: zs, b, hp, hz, hb => by
    rw [List.pairwise_cons] at hp
    have h1 := hz i List.mem_cons_self
    have := sz_le (zs := zs) (b := (ln_at ls i).2.1 + 1) hp.2 (fun j hj => ⟨(hz j (List.mem_cons_of_mem _ hj)).1, (hz j (List.mem_cons_of_mem _ hj)).2.1, hp.1 j hj⟩) (by omega)
    show ln_sz (ln_at ls i) + sz ls zs + b ≤ B
    unfold ln_sz
    omega
theorem lpc_le (td : Nat) (ws : List wi_T) (i : Nat) : lpc td ws i ≤ su (fun j => wi_op (wi_at ws j)) i := su_le2 (fun j _ => by
  unfold wi_op
  split
  · next h => rw [if_pos h.1]; exact Nat.le_refl _
  · exact Nat.zero_le _)
theorem fu_le {H : Nat} {cs : List cl_T} (hH : H ≤ 1000000000) (h : ∀ c ∈ cs, cl_ok c) : ∀ i, i ≤ cs.length → fu H cs i ≤ 1000000000000000 * i
  | 0, _ => Nat.le_refl _
  | i + 1, hi => by
    have h1 := fu_le hH h i (by omega)
    have h2 := cl_in h (i := i) (by omega)
    show fu H cs i + (if _ then _ else _) ≤ _
    split
    · next h3 =>
      have h4 : H * (cl_at cs i).2.1 ≤ 1000000000 * 1000000 := Nat.mul_le_mul hH (h2.2.2.2.1 h3).1
      have h5 : H * (cl_at cs i).2.1 / (cl_at cs i).2.2 ≤ H * (cl_at cs i).2.1 := Nat.div_le_self _ _
      exact Nat.le_trans (Nat.add_le_add h1 (Nat.le_trans h5 h4)) (by omega)
    · omega
set_option maxRecDepth 20000 in
set_option maxHeartbeats 2000000 in
theorem m_draw_n {g : gl_T} {S0 : hs_T} {n k m r : Nat} {ad : Nat → Nat} {s : st_T} {zs : List Nat} {Po : ex_R} {xd : Int32} {F sp st Mm : Nat} {S : hs_T} {i : Nat} {a : aw_T} (kk : ex_W g 1 mX10_draw Po 427 [(19, .int (nI (10 * r + (i + 1)))), (18, .int (nI a.1)), (16, .long (lN ((st + a.1 * sp) % Mm))), (14, .long (lN a.2.1)), (13, .int (nI (9 * (s_ds s).length))), (11, .long (lN F)), (7, .long (lN sp)), (5, .long (lN st)), (3, .long (lN Mm)), (0, .ref m), (1, .int (nI r)), (2, .int xd)] [] S n k) : ex_W g 1 mX10_draw Po 628 [(19, .int (nI (10 * r + i))), (18, .int (nI a.1)), (16, .long (lN ((st + a.1 * sp) % Mm))), (14, .long (lN a.2.1)), (13, .int (nI (9 * (s_ds s).length))), (11, .long (lN F)), (7, .long (lN sp)), (5, .long (lN st)), (3, .long (lN Mm)), (0, .ref m), (1, .int (nI r)), (2, .int xd)] [] S n k := by
  refine ex_iinc (v := nI (10 * r + (i + 1))) 0 [(19, .int (nI (10 * r + (i + 1)))), (18, .int (nI a.1)), (16, .long (lN ((st + a.1 * sp) % Mm))), (14, .long (lN a.2.1)), (13, .int (nI (9 * (s_ds s).length))), (11, .long (lN F)), (7, .long (lN sp)), (5, .long (lN st)), (3, .long (lN Mm)), (0, .ref m), (1, .int (nI r)), (2, .int xd)] dX10_draw_628 rfl (nI_1 (10 * r + i)) (by decide) rfl ?_
  refine ex_goto (tgt := 427) dX10_draw_631 (by decide) ?_
  exact kk
set_option maxRecDepth 20000 in
set_option maxHeartbeats 2000000 in
theorem m_draw_o {g : gl_T} {S0 : hs_T} {n k m r : Nat} {ad : Nat → Nat} {s : st_T} {zs : List Nat} {Po : ex_R} {xd : Int32} {F sp st Mm : Nat} {a0 : aw_T} (hMm : 0 < Mm) (hMz : Mm = sz (s_ls s) zs) (hM9 : Mm ≤ 1000000000) (hsp : sp ≤ Mm + 1) (hst : st < Mm) (hF : F < 1000000000000000000) (hw0 : (s_ws s).length + 50 ≤ 2000) (hd40 : (s_ds s).length < 40) (hz15 : zs.length ≤ 1500) (hzs : ∀ j, j < zs.length → zs.getD j 0 < (s_ls s).length) (hr : r < (s_rs s).length) (hC : ∀ c ∈ (ru_at (s_rs s) r).2, cl_ok c) (kk : ∀ S, AI S0 S m ad s zs r Mm st sp F (pzs (fun n => bo (s_ls s) zs ((st + n * sp) % Mm)) (s_ds s).length (s_td s) Mm F (ru_at (s_rs s) r).2 a0 (ru_at (s_rs s) r).2.length) → ex_W g 1 mX10_draw Po 634 [(18, .int (nI (pzs (fun n => bo (s_ls s) zs ((st + n * sp) % Mm)) (s_ds s).length (s_td s) Mm F (ru_at (s_rs s) r).2 a0 (ru_at (s_rs s) r).2.length).1)), (14, .long (lN (pzs (fun n => bo (s_ls s) zs ((st + n * sp) % Mm)) (s_ds s).length (s_td s) Mm F (ru_at (s_rs s) r).2 a0 (ru_at (s_rs s) r).2.length).2.1)), (13, .int (nI (9 * (s_ds s).length))), (0, .ref m)] [] S n k) : ∀ t i a S, i ≤ (ru_at (s_rs s) r).2.length → (ru_at (s_rs s) r).2.length < i + t → a = pzs (fun n => bo (s_ls s) zs ((st + n * sp) % Mm)) (s_ds s).length (s_td s) Mm F (ru_at (s_rs s) r).2 a0 i → AI S0 S m ad s zs r Mm st sp F a → ex_W g 1 mX10_draw Po 427 [(19, .int (nI (10 * r + i))), (18, .int (nI a.1)), (16, .long (lN ((st + a.1 * sp) % Mm))), (14, .long (lN a.2.1)), (13, .int (nI (9 * (s_ds s).length))), (11, .long (lN F)), (7, .long (lN sp)), (5, .long (lN st)), (3, .long (lN Mm)), (0, .ref m), (1, .int (nI r)), (2, .int xd)] [] S n k := by
  intro t
  induction t with
  | zero => intro i a S h1 h2; exact absurd h2 (by omega)
  | succ t ih =>
    intro i a S hi1 hi2 ha h
    obtain ⟨hB, hMS, hMH, hML, hMT, hMR, hMN, hMD, hMW⟩ := id h.1.1.1
    obtain ⟨hc10, h19, hcl⟩ := MR_at (rs := s_rs s) hMR hr
    have hr20 : (s_rs s).length ≤ 20 := hMR.2.1
    have hend : (10 : Int32) * nI r + hs_I S (ad 19) r = nI (10 * r + (ru_at (s_rs s) r).2.length) := by rw [h19]; exact (congrArg (· + nI (ru_at (s_rs s) r).2.length) (pk_mul 10 r)).trans (nI_add _ _)
    refine ex_iload dX10_draw_427 0 rfl ?_
    refine ex_bipush (v := 10) dX10_draw_429 (by decide) ?_
    refine ex_iload_n dX10_draw_431 10 rfl ?_
    refine ex_imul dX10_draw_432 ?_
    refine ex_aload_n dX10_draw_433 9 rfl ?_
    refine ex_getR (b := ad 19) dX10_draw_434 fl_X10_44 hB.1.1 hB.1.2 (mb_19 hB).1 ?_
    refine ex_iload_n dX10_draw_437 10 rfl ?_
    refine ex_iald (j := r) dX10_draw_438 (mb_19 hB).2.1 (mb_19 hB).2.2.1 rfl (Nat.lt_of_lt_of_eq (show r < 20 by omega) (mb_19 hB).2.2.2.symm) (show r < 2 ^ 31 by omega) ?_
    refine ex_iadd dX10_draw_439 ?_
    refine ex_icmp_ge (tgt := 634) dX10_draw_440 (by decide) (fun c440 => ?_) (fun c440 => ?_)
    · have hil : i = (ru_at (s_rs s) r).2.length := by have z := (nI_leI (by omega) (by omega)).mp (hend ▸ c440); omega
      refine ex_lv [1, 3, 4, 9] rfl ?_
      subst hil
      subst ha
      exact kk S h
    · have hil : i < (ru_at (s_rs s) r).2.length := by
        rcases Nat.lt_or_ge i (ru_at (s_rs s) r).2.length with z | z
        · exact z
        · exact absurd (by rw [hend]; exact nI_le (by omega) (by omega)) c440
      obtain ⟨h20, h21, h22⟩ := hcl i hil
      have hok := cl_in hC hil
      obtain ⟨ho1, ho2, ho3, ho4, ho5, ho6, ho7⟩ := id hok
      refine ex_aload_n dX10_draw_443 9 rfl ?_
      refine ex_getR (b := ad 20) dX10_draw_444 fl_X10_47 hB.1.1 hB.1.2 (mb_20 hB).1 ?_
      refine ex_iload dX10_draw_447 0 rfl ?_
      refine ex_iald (j := (10 * r + i)) dX10_draw_449 (mb_20 hB).2.1 (mb_20 hB).2.2.1 rfl (Nat.lt_of_lt_of_eq (show (10 * r + i) < 210 by omega) (mb_20 hB).2.2.2.symm) (show (10 * r + i) < 2 ^ 31 by omega) ?_
      refine ex_iconst (v := 2) dX10_draw_450 (by decide) ?_
      refine ex_icmp_ge (tgt := 457) dX10_draw_451 (by decide) (fun c451 => ?_) (fun c451 => ?_)
      · refine ex_aload_n dX10_draw_457 9 rfl ?_
        refine ex_getR (b := ad 20) dX10_draw_458 fl_X10_47 hB.1.1 hB.1.2 (mb_20 hB).1 ?_
        refine ex_iload dX10_draw_461 0 rfl ?_
        refine ex_iald (j := (10 * r + i)) dX10_draw_463 (mb_20 hB).2.1 (mb_20 hB).2.2.1 rfl (Nat.lt_of_lt_of_eq (show (10 * r + i) < 210 by omega) (mb_20 hB).2.2.2.symm) (show (10 * r + i) < 2 ^ 31 by omega) ?_
        refine ex_iconst (v := 2) dX10_draw_464 (by decide) ?_
        refine ex_icmp_ne (tgt := 479) dX10_draw_465 (by decide) (fun c465 => ?_) (fun c465 => ?_)
        · refine ex_lload dX10_draw_479 5 rfl ?_
          refine ex_ldc2 dX10_draw_481 lc_X10_244 ?_
          refine ex_ldiv dX10_draw_484 (by decide) ?_
          refine ex_aload_n dX10_draw_485 9 rfl ?_
          refine ex_getR (b := ad 22) dX10_draw_486 fl_X10_53 hB.1.1 hB.1.2 (mb_22 hB).1 ?_
          refine ex_iload dX10_draw_489 0 rfl ?_
          refine ex_iald (j := (10 * r + i)) dX10_draw_491 (mb_22 hB).2.1 (mb_22 hB).2.2.1 rfl (Nat.lt_of_lt_of_eq (show (10 * r + i) < 210 by omega) (mb_22 hB).2.2.2.symm) (show (10 * r + i) < 2 ^ 31 by omega) ?_
          refine ex_i2l dX10_draw_492 ?_
          refine ex_lmul dX10_draw_493 ?_
          refine ex_lload dX10_draw_494 5 rfl ?_
          refine ex_ldc2 dX10_draw_496 lc_X10_244 ?_
          refine ex_lrem dX10_draw_499 (by decide) ?_
          refine ex_aload_n dX10_draw_500 9 rfl ?_
          refine ex_getR (b := ad 22) dX10_draw_501 fl_X10_53 hB.1.1 hB.1.2 (mb_22 hB).1 ?_
          refine ex_iload dX10_draw_504 0 rfl ?_
          refine ex_iald (j := (10 * r + i)) dX10_draw_506 (mb_22 hB).2.1 (mb_22 hB).2.2.1 rfl (Nat.lt_of_lt_of_eq (show (10 * r + i) < 210 by omega) (mb_22 hB).2.2.2.symm) (show (10 * r + i) < 2 ^ 31 by omega) ?_
          refine ex_i2l dX10_draw_507 ?_
          refine ex_lmul dX10_draw_508 ?_
          refine ex_ldc2 dX10_draw_509 lc_X10_244 ?_
          refine ex_ldiv dX10_draw_512 (by decide) ?_
          refine ex_ladd dX10_draw_513 ?_
          refine ex_aload_n dX10_draw_514 9 rfl ?_
          refine ex_getR (b := ad 21) dX10_draw_515 fl_X10_50 hB.1.1 hB.1.2 (mb_21 hB).1 ?_
          refine ex_iload dX10_draw_518 0 rfl ?_
          refine ex_iald (j := (10 * r + i)) dX10_draw_520 (mb_21 hB).2.1 (mb_21 hB).2.2.1 rfl (Nat.lt_of_lt_of_eq (show (10 * r + i) < 210 by omega) (mb_21 hB).2.2.2.symm) (show (10 * r + i) < 2 ^ 31 by omega) ?_
          refine ex_i2l dX10_draw_521 ?_
          refine ex_ldiv dX10_draw_522 (by have z2 : 2 ≤ (cl_at (ru_at (s_rs s) r).2 i).1 := (nI_leI (a := 2) (by decide) (by omega)).mp (h20 ▸ c451); have z6 := ho6 z2; rw [h21, nI_l (by omega)]; exact fun z => absurd ((pk_lEQ (b := 0) (by omega) (by decide)).mp z) (by omega)) ?_
          refine ex_lstore [(20, .long (((((lN F) / 100) * ((hs_I S (ad 22) (10 * r + i)).toInt64)) + ((((lN F) - (lN F) / 100 * 100) * ((hs_I S (ad 22) (10 * r + i)).toInt64)) / 100)) / ((hs_I S (ad 21) (10 * r + i)).toInt64))), (19, .int (nI (10 * r + i))), (18, .int (nI a.1)), (16, .long (lN ((st + a.1 * sp) % Mm))), (14, .long (lN a.2.1)), (13, .int (nI (9 * (s_ds s).length))), (11, .long (lN F)), (7, .long (lN sp)), (5, .long (lN st)), (3, .long (lN Mm)), (0, .ref m), (1, .int (nI r)), (2, .int xd)] dX10_draw_523 (by decide) rfl ?_
          have hw : ((((lN F) / 100) * ((hs_I S (ad 22) (10 * r + i)).toInt64)) + ((((lN F) - (lN F) / 100 * 100) * ((hs_I S (ad 22) (10 * r + i)).toInt64)) / 100)) / ((hs_I S (ad 21) (10 * r + i)).toInt64) = lN (wn F (cl_at (ru_at (s_rs s) r).2 i)) := by
            have z2 : 2 ≤ (cl_at (ru_at (s_rs s) r).2 i).1 := (nI_leI (a := 2) (by decide) (by omega)).mp (h20 ▸ c451)
            have z3 : ¬ (cl_at (ru_at (s_rs s) r).2 i).1 = 2 := fun z => c465 (by rw [h20, z]; rfl)
            have z4 : (cl_at (ru_at (s_rs s) r).2 i).1 = 3 := by omega
            have z5 := ho7 z4
            have z6 := ho6 (by omega)
            have b1 : F / 100 * (cl_at (ru_at (s_rs s) r).2 i).2.2 ≤ F / 100 * 100 := Nat.mul_le_mul_left _ z5
            have b2 : F % 100 * (cl_at (ru_at (s_rs s) r).2 i).2.2 ≤ F % 100 * 100 := Nat.mul_le_mul_left _ z5
            have b3 : F % 100 < 100 := Nat.mod_lt _ (by decide)
            have e1 : lN F / 100 = lN (F / 100) := pk_lDiv (b := 100) (by omega) (by decide) (by decide)
            have e2 : lN F - lN F / 100 * 100 = lN (F % 100) := pk_lRem (b := 100) (by omega) (by decide) (by decide)
            have e3 : lN (F % 100 * (cl_at (ru_at (s_rs s) r).2 i).2.2) / 100 = lN (F % 100 * (cl_at (ru_at (s_rs s) r).2 i).2.2 / 100) := pk_lDiv (b := 100) (by omega) (by decide) (by decide)
            rw [e2, e1, h22 (by omega), h21, nI_l (by omega), nI_l (by omega), lN_mul, lN_mul, e3, lN_add, pk_lDiv (by omega) (by omega) (by omega)]
            unfold wn
            rw [if_neg z3, if_pos z4]
          rw [hw]
          refine ex_lv [0, 1, 2, 3, 4, 5, 6, 7, 8, 9, 10, 11, 12] rfl ?_
          refine m_draw_i (xi := 0) (R := pzs (fun n => bo (s_ls s) zs ((st + n * sp) % Mm)) (s_ds s).length (s_td s) Mm F (ru_at (s_rs s) r).2 a0 (i + 1)) (pr := (cl_at (ru_at (s_rs s) r).2 i).2.1) (i := 10 * r + i) hMm hMz hM9 hsp hst hF hw0 hd40 hz15 hzs ho2 (by omega) (fun S2 h2 => m_draw_n (S0 := S0) (zs := zs) (ad := ad) (ih (i + 1) _ S2 (by omega) (by omega) rfl h2)) (wn F (cl_at (ru_at (s_rs s) r).2 i)) a S (by have := wn_le (F := F) hok; omega) (by rw [ha]; rfl) h (fun S1 ws h1 => ((MR_at (rs := s_rs s) h1.2.2.2.2.2.1 hr).2.2 i hil).2.1)
        · refine ex_aload_n dX10_draw_468 9 rfl ?_
          refine ex_getR (b := ad 22) dX10_draw_469 fl_X10_53 hB.1.1 hB.1.2 (mb_22 hB).1 ?_
          refine ex_iload dX10_draw_472 0 rfl ?_
          refine ex_iald (j := (10 * r + i)) dX10_draw_474 (mb_22 hB).2.1 (mb_22 hB).2.2.1 rfl (Nat.lt_of_lt_of_eq (show (10 * r + i) < 210 by omega) (mb_22 hB).2.2.2.symm) (show (10 * r + i) < 2 ^ 31 by omega) ?_
          refine ex_i2l dX10_draw_475 ?_
          refine ex_goto (tgt := 523) dX10_draw_476 (by decide) ?_
          refine ex_lstore [(20, .long ((hs_I S (ad 22) (10 * r + i)).toInt64)), (19, .int (nI (10 * r + i))), (18, .int (nI a.1)), (16, .long (lN ((st + a.1 * sp) % Mm))), (14, .long (lN a.2.1)), (13, .int (nI (9 * (s_ds s).length))), (11, .long (lN F)), (7, .long (lN sp)), (5, .long (lN st)), (3, .long (lN Mm)), (0, .ref m), (1, .int (nI r)), (2, .int xd)] dX10_draw_523 (by decide) rfl ?_
          have hw : (hs_I S (ad 22) (10 * r + i)).toInt64 = lN (wn F (cl_at (ru_at (s_rs s) r).2 i)) := by
            have z := (nI_eq (b := 2) (by omega) (by decide)).mp (h20.symm.trans c465)
            rw [h22 (by omega), nI_l (by omega)]
            unfold wn
            rw [if_pos z]
          rw [hw]
          refine ex_lv [0, 1, 2, 3, 4, 5, 6, 7, 8, 9, 10, 11, 12] rfl ?_
          refine m_draw_i (xi := 0) (R := pzs (fun n => bo (s_ls s) zs ((st + n * sp) % Mm)) (s_ds s).length (s_td s) Mm F (ru_at (s_rs s) r).2 a0 (i + 1)) (pr := (cl_at (ru_at (s_rs s) r).2 i).2.1) (i := 10 * r + i) hMm hMz hM9 hsp hst hF hw0 hd40 hz15 hzs ho2 (by omega) (fun S2 h2 => m_draw_n (S0 := S0) (zs := zs) (ad := ad) (ih (i + 1) _ S2 (by omega) (by omega) rfl h2)) (wn F (cl_at (ru_at (s_rs s) r).2 i)) a S (by have := wn_le (F := F) hok; omega) (by rw [ha]; rfl) h (fun S1 ws h1 => ((MR_at (rs := s_rs s) h1.2.2.2.2.2.1 hr).2.2 i hil).2.1)
      · refine ex_goto (tgt := 628) dX10_draw_454 (by decide) ?_
        refine ex_iinc (v := nI (10 * r + (i + 1))) 0 [(19, .int (nI (10 * r + (i + 1)))), (18, .int (nI a.1)), (16, .long (lN ((st + a.1 * sp) % Mm))), (14, .long (lN a.2.1)), (13, .int (nI (9 * (s_ds s).length))), (11, .long (lN F)), (7, .long (lN sp)), (5, .long (lN st)), (3, .long (lN Mm)), (0, .ref m), (1, .int (nI r)), (2, .int xd)] dX10_draw_628 rfl (nI_1 (10 * r + i)) (by decide) rfl ?_
        refine ex_goto (tgt := 427) dX10_draw_631 (by decide) ?_
        refine ih (i + 1) a S (by omega) (by omega) ?_ h
        have hw0 : wn F (cl_at (ru_at (s_rs s) r).2 i) = 0 := by
          have z : ¬ 2 ≤ (cl_at (ru_at (s_rs s) r).2 i).1 := fun y => c451 (by rw [h20]; exact nI_le (a := 2) y (by omega))
          unfold wn
          rw [if_neg (by omega), if_neg (by omega)]
        show a = pz _ _ _ _ _ (wn F (cl_at (ru_at (s_rs s) r).2 i)) (pzs (fun n => bo (s_ls s) zs ((st + n * sp) % Mm)) (s_ds s).length (s_td s) Mm F (ru_at (s_rs s) r).2 a0 i)
        rw [hw0, ← ha]
        rfl
theorem m_draw_o0 {g : gl_T} {S0 : hs_T} {n k m r : Nat} {ad : Nat → Nat} {s : st_T} {zs : List Nat} {Po : ex_R} {xd : Int32} {F sp st Mm : Nat} {a0 : aw_T} (hMm : 0 < Mm) (hMz : Mm = sz (s_ls s) zs) (hM9 : Mm ≤ 1000000000) (hsp : sp ≤ Mm + 1) (hst : st < Mm) (hF : F < 1000000000000000000) (hw0 : (s_ws s).length + 50 ≤ 2000) (hd40 : (s_ds s).length < 40) (hz15 : zs.length ≤ 1500) (hzs : ∀ j, j < zs.length → zs.getD j 0 < (s_ls s).length) (hr : r < (s_rs s).length) (hC : ∀ c ∈ (ru_at (s_rs s) r).2, cl_ok c) (kk : ∀ S, AI S0 S m ad s zs r Mm st sp F (pzs (fun n => bo (s_ls s) zs ((st + n * sp) % Mm)) (s_ds s).length (s_td s) Mm F (ru_at (s_rs s) r).2 a0 (ru_at (s_rs s) r).2.length) → ex_W g 1 mX10_draw Po 634 [(18, .int (nI (pzs (fun n => bo (s_ls s) zs ((st + n * sp) % Mm)) (s_ds s).length (s_td s) Mm F (ru_at (s_rs s) r).2 a0 (ru_at (s_rs s) r).2.length).1)), (14, .long (lN (pzs (fun n => bo (s_ls s) zs ((st + n * sp) % Mm)) (s_ds s).length (s_td s) Mm F (ru_at (s_rs s) r).2 a0 (ru_at (s_rs s) r).2.length).2.1)), (13, .int (nI (9 * (s_ds s).length))), (0, .ref m)] [] S n k) (h0 : a0.1 = 0) {x19 x18 : Int32} {x16 x14 : Int64} (h19 : x19 = nI (10 * r + 0)) (h18 : x18 = nI 0) (h16 : x16 = lN st) (h14 : x14 = lN a0.2.1) {S : hs_T} (h : AI S0 S m ad s zs r Mm st sp F a0) : ex_W g 1 mX10_draw Po 427 [(19, .int x19), (18, .int x18), (16, .long x16), (14, .long x14), (13, .int (nI (9 * (s_ds s).length))), (11, .long (lN F)), (7, .long (lN sp)), (5, .long (lN st)), (3, .long (lN Mm)), (0, .ref m), (1, .int (nI r)), (2, .int xd)] [] S n k := by
  have e16 : lN st = lN ((st + a0.1 * sp) % Mm) := by rw [h0, Nat.zero_mul, Nat.add_zero, Nat.mod_eq_of_lt hst]
  have e18 : nI 0 = nI a0.1 := by rw [h0]
  subst h19 h18 h14
  rw [h16.trans e16, e18]
  exact m_draw_o hMm hMz hM9 hsp hst hF hw0 hd40 hz15 hzs hr hC kk ((ru_at (s_rs s) r).2.length + 1) 0 a0 S (by omega) (by omega) rfl h
theorem RM_ns0 {S : hs_T} {m : Nat} {ad : Nat → Nat} {s : st_T} (h : RM S m ad s) : RM (hs_sI S m 25 0) m ad (w_ns s []) := by
  obtain ⟨hB, hMS, hMH, hML, hMT, hMR, hMN, hMD, hMW⟩ := h
  exact ⟨hB, (MS_mI hB.2.2 (hMS) 25 _ (by decide)), (MH_mI hB.2.2 (hMH) 25 _ (by decide)), (ML_mI hB.2.2 (hML) 25 _ (by decide)), (MT_mI hB.2.2 (hMT) 25 _ (by decide)), (MR_mI hB.2.2 (hMR) 25 _ (by decide)), ⟨by rw [mI_mm, if_pos rfl]; rfl, Nat.zero_le _, fun j hj => absurd hj (Nat.not_lt_zero _)⟩, (MD_mI hB.2.2 (hMD) 25 _ (by decide)), (MW_mI hB.2.2 (hMW) 25 _ (by decide))⟩
theorem RM_dsn {S : hs_T} {m : Nat} {ad : Nat → Nat} {s : st_T} (h : RM S m ad s) {d : dr_T} (hd : ∀ w, w < 9 → hs_J S (ad 26) (9 * (s_ds s).length + w) = d w) (hl : (s_ds s).length < 40) {v : Int32} (hv : v = nI ((s_ds s).length + 1)) : RM (hs_sI S m 27 v) m ad (w_ds s (s_ds s ++ [d])) := by
  obtain ⟨hB, hMS, hMH, hML, hMT, hMR, hMN, hMD, hMW⟩ := h
  have hD : MD (hs_sI S m 27 v) m ad (s_ds s ++ [d]) := by
    obtain ⟨h1, h2, h3⟩ := hMD
    refine ⟨by rw [mI_mm, if_pos rfl, hv]; simp, by simp; omega, fun j hj w hw => ?_⟩
    simp at hj
    rw [hs_J_sI, gd_app]
    by_cases q : j = (s_ds s).length
    · subst q; rw [if_pos rfl]; exact hd w hw
    · rw [if_neg q]; exact h3 j (by omega) w hw
  exact ⟨hB, (MS_mI hB.2.2 (hMS) 27 _ (by decide)), (MH_mI hB.2.2 (hMH) 27 _ (by decide)), (ML_mI hB.2.2 (hML) 27 _ (by decide)), (MT_mI hB.2.2 (hMT) 27 _ (by decide)), (MR_mI hB.2.2 (hMR) 27 _ (by decide)), (MN_mI hB.2.2 (hMN) 27 _ (by decide)), hD, (MW_mI hB.2.2 (hMW) 27 _ (by decide))⟩
set_option maxRecDepth 20000 in
set_option maxHeartbeats 2000000 in
theorem m_draw_j {g : gl_T} {S00 S0 S : hs_T} {n k m r : Nat} {ad : Nat → Nat} {s : st_T} {zs : List Nat} {F sp st Mm : Nat} {a : aw_T} {q : Nat × Value × st_T} (h : AI S0 S m ad s zs r Mm st sp F a) (hd40 : (s_ds s).length < 40) (hF0 : MF S00 S0 m ad) (ht0 : hs_I S0 m 0 = nI 0) (hsp : q = (0, .int (nI (s_ds s).length), w_cr (w_ns (w_ds (w_ws s a.2.2) (s_ds s ++ [drf (s_td s) r Mm st sp F (s_ws s).length a.1 a.2.1])) []) a.2.1)) : ex_W g 1 mX10_draw (mp S00 m ad n k q) 634 [(18, .int (nI a.1)), (14, .long (lN a.2.1)), (13, .int (nI (9 * (s_ds s).length))), (0, .ref m)] [] S n k := by
  obtain ⟨hB, hMS, hMH, hML, hMT, hMR, hMN, hMD, hMW⟩ := id h.1.1.1
  refine ex_aload_n dX10_draw_634 3 rfl ?_
  refine ex_getR (b := ad 26) dX10_draw_635 fl_X10_59 hB.1.1 hB.1.2 (mb_26 hB).1 ?_
  refine ex_iload dX10_draw_638 2 rfl ?_
  refine ex_bipush (v := 6) dX10_draw_640 (by decide) ?_
  refine ex_iadd dX10_draw_642 ?_
  refine ex_iload dX10_draw_643 0 rfl ?_
  refine ex_i2l dX10_draw_645 ?_
  refine ex_last (j := (9 * (s_ds s).length + 6)) dX10_draw_646 (mb_26 hB).2.1 (mb_26 hB).2.2.1 (nI_add _ 6) (Nat.lt_of_lt_of_eq (show (9 * (s_ds s).length + 6) < 360 by omega) (mb_26 hB).2.2.2.symm) (show (9 * (s_ds s).length + 6) < 2 ^ 31 by omega) ?_
  refine ex_aload_n dX10_draw_647 3 rfl ?_
  refine ex_getR (b := ad 26) dX10_draw_648 fl_X10_59 hB.1.1 hB.1.2 (mb_26 hB).1 ?_
  refine ex_iload dX10_draw_651 2 rfl ?_
  refine ex_bipush (v := 8) dX10_draw_653 (by decide) ?_
  refine ex_iadd dX10_draw_655 ?_
  refine ex_lload dX10_draw_656 1 rfl ?_
  refine ex_last (j := (9 * (s_ds s).length + 8)) dX10_draw_658 (mb_26 hB).2.1 (mb_26 hB).2.2.1 (nI_add _ 8) (Nat.lt_of_lt_of_eq (show (9 * (s_ds s).length + 8) < 360 by omega) (mb_26 hB).2.2.2.symm) (show (9 * (s_ds s).length + 8) < 2 ^ 31 by omega) ?_
  refine ex_aload_n dX10_draw_659 3 rfl ?_
  refine ex_lload dX10_draw_660 1 rfl ?_
  refine ex_putJ dX10_draw_662 fl_X10_234 (pf_X10_234 _) hB.1.1 hB.1.2 ?_
  refine ex_aload_n dX10_draw_665 3 rfl ?_
  refine ex_iconst (v := 0) dX10_draw_666 (by decide) ?_
  refine ex_putI dX10_draw_667 fl_X10_206 (pf_X10_206 _) hB.1.1 hB.1.2 ?_
  refine ex_aload_n dX10_draw_670 3 rfl ?_
  refine ex_dup dX10_draw_671 rfl ?_
  refine ex_getI dX10_draw_672 fl_X10_218 hB.1.1 hB.1.2 ?_
  refine ex_iconst (v := 1) dX10_draw_675 (by decide) ?_
  refine ex_iadd dX10_draw_676 ?_
  refine ex_putI dX10_draw_677 fl_X10_218 (pf_X10_218 _) hB.1.1 hB.1.2 ?_
  refine ex_aload_n dX10_draw_680 3 rfl ?_
  refine ex_getI dX10_draw_681 fl_X10_218 hB.1.1 hB.1.2 ?_
  refine ex_iconst (v := 1) dX10_draw_684 (by decide) ?_
  refine ex_isub dX10_draw_685 ?_
  exact ex_irt rfl dX10_draw_686 (by
  have g1 := RM_26 h.1.1.1 (9 * (s_ds s).length + 6) ((nI a.1).toInt64) (by show 9 * (s_ds s).length ≤ _; omega)
  have g2 := RM_26 g1 (9 * (s_ds s).length + 8) (lN a.2.1) (by show 9 * (s_ds s).length ≤ _; omega)
  have g3 := RM_ns0 (RM_cr g2 a.2.1 (v := lN a.2.1) rfl)
  have e27 : hs_I (hs_sI (hs_sJ (hs_sJ (hs_sJ S (ad 26) (9 * (s_ds s).length + 6) ((nI a.1).toInt64)) (ad 26) (9 * (s_ds s).length + 8) (lN a.2.1)) m 34 (lN a.2.1)) m 25 0) m 27 + 1 = nI ((s_ds s).length + 1) := by
    rw [mI_mm, if_neg (by decide)]
    show hs_I S m 27 + 1 = _
    rw [hMD.1]; exact nI_1 _
  have g4 := RM_dsn g3 (d := drf (s_td s) r Mm st sp F (s_ws s).length a.1 a.2.1) (fun w hw => ?_) (by show (s_ds s).length < 40; exact hd40) e27
  · refine mp_i (c := 0) (s' := w_cr (w_ns (w_ds (w_ws s a.2.2) (s_ds s ++ [drf (s_td s) r Mm st sp F (s_ws s).length a.1 a.2.1])) []) a.2.1) (hsp.trans ?_) ?_ g4 ?_
    · rw [mI_mm, if_pos rfl, e27, nI_pred]
    · rw [mI_mm, if_neg (by decide), mI_mm, if_neg (by decide)]
      exact h.1.1.2.2.trans ht0
    · exact MF_mI (MF_mI (MF_mJ (MF_aJ (MF_aJ (MF_tr hF0 h.1.1.2.1) 26 (by decide) _ _) 26 (by decide) _ _) 34 _) 25 _) 27 _
  · show hs_J (hs_sJ (hs_sJ (hs_sJ S (ad 26) (9 * (s_ds s).length + 6) ((nI a.1).toInt64)) (ad 26) (9 * (s_ds s).length + 8) (lN a.2.1)) m 34 (lN a.2.1)) (ad 26) (9 * (s_ds s).length + w) = _
    rw [mJ_sm hB.2.2, mJ_aa hB.2.2, mJ_aa hB.2.2]
    unfold drf
    by_cases z6 : w = 6
    · subst z6; simp; exact nI_l (by have := h.2.2.1; omega)
    · by_cases z8 : w = 8
      · subst z8; simp
      · rw [if_neg (by omega), if_neg (by omega), if_neg z6, if_neg z8]
        exact h.2.1 w hw z6 z8)
