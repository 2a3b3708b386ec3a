/-! all prizes of a draw, of the class -/
def itr (f : Nat → Nat × Nat) (dl td pr : Nat) : Nat → aw_T → aw_T
  | 0, a => a
  | t + 1, a => itr f dl td pr t (aw f dl td pr a)
theorem pz_it {f : Nat → Nat × Nat} {dl td M pr : Nat} : ∀ (t : Nat) (a : aw_T), (0 < pr ∨ t = 0) → pz f dl td M pr t a = itr f dl td pr (min (min t (a.2.1 / pr)) (min 50 M - a.1)) a
  | 0, a, _ => by rw [pz, Nat.zero_min, Nat.zero_min]; rfl
  | t + 1, a, h => by
    have hp : 0 < pr := by omega
    rw [pz]
    by_cases z : pr ≤ a.2.1 ∧ a.1 < 50 ∧ a.1 < M
    · rw [if_pos z, pz_it t _ (Or.inl hp)]
      have e1 : a.2.1 / pr = (a.2.1 - pr) / pr + 1 := by
        have := Nat.add_div_right (a.2.1 - pr) hp
        rw [Nat.sub_add_cancel z.1] at this; exact this
      have e2 : (aw f dl td pr a).2.1 = a.2.1 - pr := rfl
      have e3 : (aw f dl td pr a).1 = a.1 + 1 := rfl
      rw [e1, e2, e3]
      have e4 : min (min (t + 1) ((a.2.1 - pr) / pr + 1)) (min 50 M - a.1) = min (min t ((a.2.1 - pr) / pr)) (min 50 M - (a.1 + 1)) + 1 := by omega
      rw [e4]; rfl
    · rw [if_neg z]
      by_cases z1 : pr ≤ a.2.1
      · have e4 : min 50 M - a.1 = 0 := by omega
        rw [e4, Nat.min_zero]; rfl
      · rw [Nat.div_eq_of_lt (by omega), Nat.min_zero, Nat.zero_min]; rfl
def AW (g : gl_T) (S0 : hs_T) (ow0 : Nat → Nat) (n0 k0 : Nat) (c0 : Nat → Nat) (S : hs_T) (x l tp nz : Nat) (s : st_T) (ys : List Nat) (md ru r M st sp F w0 : Nat) (cs : List cl_T) (cal : List Nat) (a : aw_T) (n k : Nat) : Prop := ∃ ow c, AR g S0 ow0 S ow x l tp nz (w_ws s a.2.2) ys c md ru r cs cal ∧ DM S md (s_td s) r M st sp F w0 a.1 a.2.1 ∧ (n + cN c0 ≤ n0 + a.1 + cN c ∧ k + 4 * cN c0 ≤ k0 + 6 * a.1 + 4 * cN c) ∧ (a.1 ≤ 50 ∧ a.1 ≤ M) ∧ a.2.1 ≤ F ∧ a.2.2.length = w0 + a.1
set_option maxRecDepth 20000 in
set_option maxHeartbeats 4000000 in
theorem c_prizes_i {g : gl_T} {S0 : hs_T} {ow0 : Nat → Nat} {n0 k0 : Nat} {c0 : Nat → Nat} {x l tp nz : Nat} {s : st_T} {ys : List Nat} {md ru r M st sp F w0 : Nat} {cs : List cl_T} {cal : List Nat} {y : Int32} {pf : Nat → Bool} {Po : ex_R} {va vw : Int64} {ca pr many : Nat} {xi xm : Int32} {R : aw_T} (hb : BD s) (hpf : ∀ j, j < (s_ls s).length → (nI (ln_at (s_ls s) j).2.2.2.1 ≤ y ↔ pf j = true)) (hM : 0 < M) (hMz : M = sz (s_ls s) (ys.filter pf)) (hM9 : M ≤ 1000000000) (hst : st < M) (hsp : sp ≤ M + 1) (hF : F < 1000000000000000000) (hw0 : w0 + 50 ≤ 2000) (h10 : cs.length ≤ 10) (hok : ∀ c ∈ cs, cl_ok c) (hn0 : n0 + 39000 ≤ ex_NM) (hk0 : k0 + 199000 ≤ ex_KM) (hp0 : 0 < pr ∨ many = 0) (hp9 : pr ≤ 1000000000) (hm50 : many ≤ 50) (hca : ∀ S a n k, AW g S0 ow0 n0 k0 c0 S x l tp nz s ys md ru r M st sp F w0 cs cal a n k → (ca ∈ hs_L S ∧ hs_K S ca = 1) ∧ hs_I S ca 1 = nI pr) (kk : ∀ S n k, AW g S0 ow0 n0 k0 c0 S x l tp nz s ys md ru r M st sp F w0 cs cal R n k → ex_W g 9 mX9_awardPrizes Po 123 [(5, .int xi), (4, .int xm), (0, .ref x), (1, .ref md), (2, .ref ru), (3, .int y)] [] S n k) : ∀ t i a S n k, i + t = many → t ≤ a.2.1 / pr → t ≤ min 50 M - a.1 → AW g S0 ow0 n0 k0 c0 S x l tp nz s ys md ru r M st sp F w0 cs cal a n k → itr (fun n => bo (s_ls s) (ys.filter pf) ((st + n * sp) % M)) (s_ds s).length (s_td s) pr t a = R → ex_W g 9 mX9_awardPrizes Po 97 [(13, .int (nI i)), (11, .long (lN many)), (9, .long va), (7, .long vw), (6, .ref ca), (5, .int xi), (4, .int xm), (0, .ref x), (1, .ref md), (2, .ref ru), (3, .int y)] [] S n k := by
  intro t
  induction t with
  | zero =>
    intro i a S n k hit ht1 ht2 hAW hR
    refine ex_iload dX9_awardPrizes_97 0 rfl ?_
    refine ex_i2l dX9_awardPrizes_99 ?_
    refine ex_lload dX9_awardPrizes_100 1 rfl ?_
    refine ex_lcmp dX9_awardPrizes_102 ?_
    refine ex_if_ge (tgt := 123) dX9_awardPrizes_103 (by decide) (fun c103 => ?_) (fun c103 => absurd (by rw [nI_l (by omega)]; have z2 : ¬ lg_cmp (lN i) (lN many) < 0 := (fun w => by have := (lg_ltN (by omega) (by omega)).mp w; omega); rw [i_lt] at z2; rw [i_le]; have e0 : Int32.toInt 0 = 0 := rfl; omega) c103)
    refine ex_lv [5, 6, 7, 8, 9, 10] rfl ?_
    exact kk _ _ _ (by have e := hR; unfold itr at e; rw [← e]; exact hAW)
  | succ t ih =>
    intro i a S n k hit ht1 ht2 hAW hR
    obtain ⟨ow, c, hA, hD, ⟨hn, hk⟩, ⟨ha50, haM⟩, haF, hlen⟩ := id hAW
    obtain ⟨hcm, hcp⟩ := hca S a n k hAW
    have hcN := cN_le hA.1
    refine ex_iload dX9_awardPrizes_97 0 rfl ?_
    refine ex_i2l dX9_awardPrizes_99 ?_
    refine ex_lload dX9_awardPrizes_100 1 rfl ?_
    refine ex_lcmp dX9_awardPrizes_102 ?_
    refine ex_if_ge (tgt := 123) dX9_awardPrizes_103 (by decide) (fun c103 => absurd c103 (by rw [nI_l (by omega)]; have z2 := (lg_ltN (a := i) (b := many) (by omega) (by omega)).mpr (by omega); rw [i_lt] at z2; rw [i_le]; have e0 : Int32.toInt 0 = 0 := rfl; omega)) (fun c103 => ?_)
    have hp1 : 0 < pr := by omega
    have hq0 : 0 < a.2.1 / pr := by omega
    have hprl : pr ≤ a.2.1 := by
      apply Nat.le_of_not_lt; intro z; rw [Nat.div_eq_of_lt z] at hq0; omega
    refine ex_aload_n dX9_awardPrizes_106 7 rfl ?_
    refine ex_aload_n dX9_awardPrizes_107 8 rfl ?_
    refine ex_aload dX9_awardPrizes_108 4 rfl ?_
    refine ex_getI dX9_awardPrizes_110 fl_X9_285 hcm.1 hcm.2 ?_
    refine ex_iload_n dX9_awardPrizes_113 10 rfl ?_
    refine ex_cVg [.ref md, .int (hs_I S ca 1), .int y] [] dX9_awardPrizes_114 cV_X9_296 (c_award g hA hD hb hpf hM hMz hM9 hst hsp hcp hprl hp9 (by omega) (by omega) (by omega) (by omega)) hA.1.1.1.1 hA.1.1.1.2 rfl rfl rfl (by decide) (Nat.le_of_ble_eq_true rfl) rfl ?_ (fun E S' n' k' h => by obtain ⟨h1, -⟩ := h; cases h1)
    rintro v' S9 n9 k9 ⟨hr9, ow9, c9, hA9, hD9, hn9, hk9⟩
    cases hr9
    show ex_W _ _ _ _ 117 [(13, .int (nI i)), (11, .long (lN many)), (9, .long va), (7, .long vw), (6, .ref ca), (5, .int xi), (4, .int xm), (0, .ref x), (1, .ref md), (2, .ref ru), (3, .int y)] [] S9 n9 k9
    refine ex_iinc (v := nI (i + 1)) 0 [(13, .int (nI (i + 1))), (11, .long (lN many)), (9, .long va), (7, .long vw), (6, .ref ca), (5, .int xi), (4, .int xm), (0, .ref x), (1, .ref md), (2, .ref ru), (3, .int y)] dX9_awardPrizes_117 rfl (nI_1 i) (by decide) rfl ?_
    refine ex_goto (tgt := 97) dX9_awardPrizes_120 (by decide) ?_
    refine ex_lv [0, 1, 2, 3, 4, 5, 6, 7, 8, 9, 10] rfl ?_
    have hq1 : (a.2.1 - pr) / pr + 1 = a.2.1 / pr := by
      have := Nat.add_div_right (a.2.1 - pr) hp1
      rw [Nat.sub_add_cancel hprl] at this; exact this.symm
    refine ih (i + 1) (aw (fun n => bo (s_ls s) (ys.filter pf) ((st + n * sp) % M)) (s_ds s).length (s_td s) pr a) S9 n9 k9 (by omega) ?_ ?_ ⟨ow9, c9, hA9, hD9, ⟨?_, ?_⟩, ⟨?_, ?_⟩, ?_, ?_⟩ hR
    · show t ≤ (a.2.1 - pr) / pr; omega
    · show t ≤ min 50 M - (a.1 + 1); omega
    · show n9 + cN c0 ≤ n0 + (a.1 + 1) + cN c9; omega
    · show k9 + 4 * cN c0 ≤ k0 + 6 * (a.1 + 1) + 4 * cN c9; omega
    · show a.1 + 1 ≤ 50; omega
    · show a.1 + 1 ≤ M; omega
    · show a.2.1 - pr ≤ F; omega
    · show (a.2.2 ++ [_]).length = w0 + (a.1 + 1); simp; omega
theorem minL {a b : Nat} (ha : a < 2 ^ 63) (hb : b < 2 ^ 63) : (if lN b < lN a then lN b else lN a) = lN (min a b) := by
  by_cases z : b < a
  · rw [if_pos ((pk_lLT hb ha).mpr z), Nat.min_eq_right (by omega)]
  · rw [if_neg (fun w => z ((pk_lLT hb ha).mp w)), Nat.min_eq_left (by omega)]
theorem minI {a b : Nat} (ha : a < 2 ^ 31) (hb : b < 2 ^ 31) : (if nI b < nI a then nI b else nI a) = nI (min a b) := by
  by_cases z : b < a
  · rw [if_pos (nI_lt z (by omega)), Nat.min_eq_right (by omega)]
  · rw [if_neg (fun w => z ((nI_ltI (by omega) (by omega)).mp w)), Nat.min_eq_left (by omega)]
theorem wn_0 {F : Nat} {c : cl_T} (h : cl_ok c) : 0 < c.2.1 ∨ wn F c = 0 := by
  by_cases z : 2 ≤ c.1
  · exact Or.inl (h.2.2.2.2.2.1 z)
  · right; unfold wn; rw [if_neg (by omega), if_neg (by omega)]
theorem AW_ca {g : gl_T} {S0 S : hs_T} {ow0 : Nat → Nat} {n0 k0 : Nat} {c0 : Nat → Nat} {x l tp nz : Nat} {s : st_T} {ys : List Nat} {md ru r M st sp F w0 : Nat} {cs : List cl_T} {cal : List Nat} {a : aw_T} {n k i : Nat} (hi : i < cs.length) (h : AW g S0 ow0 n0 k0 c0 S x l tp nz s ys md ru r M st sp F w0 cs cal a n k) : (cal.getD i 0 ∈ hs_L S ∧ hs_K S (cal.getD i 0) = 1) ∧ hs_I S (cal.getD i 0) 1 = nI (cl_at cs i).2.1 := by
  obtain ⟨ow, c, hA, _⟩ := h
  obtain ⟨_, _, ⟨_, cc, h2, h3, h4⟩, _⟩ := hA
  exact ⟨CL_el h2 (by omega), (h4 i (by omega)).2.1⟩
set_option maxRecDepth 20000 in
set_option maxHeartbeats 4000000 in
theorem c_prizes_l {g : gl_T} {S0 : hs_T} {ow0 : Nat → Nat} {n0 k0 : Nat} {c0 : Nat → Nat} {x l tp nz : Nat} {s : st_T} {ys : List Nat} {md ru r M st sp F w0 : Nat} {cs : List cl_T} {cal : List Nat} {y : Int32} {pf : Nat → Bool} {a0 : aw_T} (hb : BD s) (hpf : ∀ j, j < (s_ls s).length → (nI (ln_at (s_ls s) j).2.2.2.1 ≤ y ↔ pf j = true)) (hM : 0 < M) (hMz : M = sz (s_ls s) (ys.filter pf)) (hM9 : M ≤ 1000000000) (hst : st < M) (hsp : sp ≤ M + 1) (hF : F < 1000000000000000000) (hw0 : w0 + 50 ≤ 2000) (h10 : cs.length ≤ 10) (hok : ∀ c ∈ cs, cl_ok c) (hn0 : n0 + 39000 ≤ ex_NM) (hk0 : k0 + 199000 ≤ ex_KM) : ∀ t i S n k, i ≤ cs.length → cs.length < i + t → AW g S0 ow0 n0 k0 c0 S x l tp nz s ys md ru r M st sp F w0 cs cal (pzs (fun n => bo (s_ls s) (ys.filter pf) ((st + n * sp) % M)) (s_ds s).length (s_td s) M F cs a0 i) n k → ex_W g 9 mX9_awardPrizes (fun ρ S' n' k' => ρ = .inl none ∧ AW g S0 ow0 n0 k0 c0 S' x l tp nz s ys md ru r M st sp F w0 cs cal (pzs (fun n => bo (s_ls s) (ys.filter pf) ((st + n * sp) % M)) (s_ds s).length (s_td s) M F cs a0 cs.length) n' k') 22 [(5, .int (nI i)), (4, .int (nI (min 50 M))), (0, .ref x), (1, .ref md), (2, .ref ru), (3, .int y)] [] S n k := by
  intro t
  induction t with
  | zero => intro i S n k h1 h2; exact absurd h2 (by omega)
  | succ t ih =>
    intro i S n k hi1 hi2 hAW
    obtain ⟨A, hAe⟩ : ∃ A, (pzs (fun n => bo (s_ls s) (ys.filter pf) ((st + n * sp) % M)) (s_ds s).length (s_td s) M F cs a0 i) = A := ⟨_, rfl⟩
    have hAWs := hAW
    rw [hAe] at hAW
    obtain ⟨ow, c, hA, hD, ⟨hn, hk⟩, ⟨ha50, haM⟩, haF, hlen⟩ := id hAW
    obtain ⟨m0, m1, m2, m3, m4, m5, m6, m7, m8⟩ := id hD
    obtain ⟨hru, cc, ⟨b, e, hR, hAL, _, _⟩, hcal, hcf⟩ := id hA.2.2.1
    refine ex_iload dX9_awardPrizes_22 0 rfl ?_
    refine ex_aload_n dX9_awardPrizes_24 4 rfl ?_
    refine ex_getR (b := b) dX9_awardPrizes_25 fl_X9_277 hru.1 hru.2 hR ?_
    refine ex_cVr [] [.int (nI i)] dX9_awardPrizes_28 cV_X9_57 (c_szn g hAL hcal) hAL.1.1 hAL.1.2.1 rfl rfl rfl (by decide) (Nat.le_of_ble_eq_true rfl) rfl ?_
    refine ex_icmp_ge (tgt := 129) dX9_awardPrizes_31 (by decide) (fun c31 => ?_) (fun c31 => ?_)
    · have hil : i = cs.length := by have := (nI_leI (by omega) (by omega)).mp c31; omega
      rw [hil] at hAWs
      exact ex_vrt rfl dX9_awardPrizes_129 ⟨rfl, hAWs⟩
    · have hil : i < cs.length := by
        rcases Nat.lt_or_ge i cs.length with z | z
        · exact z
        · exact absurd (nI_le z (by omega)) c31
      have mj := al_mem hAL (j := i) (by omega)
      have hqi := cl_in hok hil
      have hci := hcf i (by omega)
      refine ex_aload_n dX9_awardPrizes_34 4 rfl ?_
      refine ex_getR (b := b) dX9_awardPrizes_35 fl_X9_277 hru.1 hru.2 hR ?_
      refine ex_iload dX9_awardPrizes_38 0 rfl ?_
      refine ex_cVr [.int (nI i)] [] dX9_awardPrizes_40 cV_X9_103 (c_getj g hAL rfl (by omega)) hAL.1.1 hAL.1.2.1 rfl rfl rfl (by decide) (Nat.le_of_ble_eq_true rfl) rfl ?_
      refine ex_cast dX9_awardPrizes_43 mj.1 mj.2 rfl kl_X9_280 ?_
      refine ex_astore [(6, .ref (cal.getD i 0)), (5, .int (nI i)), (4, .int (nI (min 50 M))), (0, .ref x), (1, .ref md), (2, .ref ru), (3, .int y)] dX9_awardPrizes_46 (by decide) rfl ?_
      refine ex_aload dX9_awardPrizes_48 0 rfl ?_
      refine ex_aload_n dX9_awardPrizes_50 4 rfl ?_
      refine ex_getJ dX9_awardPrizes_51 fl_X9_210 hA.2.2.2.1.1 hA.2.2.2.1.2 ?_
      refine ex_cVr [.long (hs_J S md 5)] [] dX9_awardPrizes_54 cV_X9_282 (c_Clause_prizes g mj.1 mj.2 hci hqi m5 hF) mj.1 mj.2 rfl rfl rfl (by decide) (Nat.le_of_ble_eq_true rfl) rfl ?_
      refine ex_lstore [(7, .long (lN (wn F (cl_at cs i)))), (6, .ref (cal.getD i 0)), (5, .int (nI i)), (4, .int (nI (min 50 M))), (0, .ref x), (1, .ref md), (2, .ref ru), (3, .int y)] dX9_awardPrizes_57 (by decide) rfl ?_
      refine ex_aload_n dX9_awardPrizes_59 5 rfl ?_
      refine ex_getJ dX9_awardPrizes_60 fl_X9_220 hA.2.2.2.1.1 hA.2.2.2.1.2 ?_
      refine ex_aload dX9_awardPrizes_63 1 rfl ?_
      refine ex_getI dX9_awardPrizes_65 fl_X9_285 mj.1 mj.2 ?_
      refine ex_i2l dX9_awardPrizes_68 ?_
      refine ex_cSr [.long (hs_J S md 8), .long ((hs_I S (cal.getD i 0) 1).toInt64)] [] dX9_awardPrizes_69 cS_X9_288 (c_cutBy g (a := A.2.1) (b := (cl_at cs i).2.1) m8 (by rw [hci.2.1, nI_l (by have := hqi.2.1; omega)]) (by omega) (by have := hqi.2.1; omega)) rfl (by decide) (Nat.le_of_ble_eq_true rfl) rfl ?_
      refine ex_lstore [(9, .long (lN (A.2.1 / (cl_at cs i).2.1))), (7, .long (lN (wn F (cl_at cs i)))), (6, .ref (cal.getD i 0)), (5, .int (nI i)), (4, .int (nI (min 50 M))), (0, .ref x), (1, .ref md), (2, .ref ru), (3, .int y)] dX9_awardPrizes_72 (by decide) rfl ?_
      refine ex_lload dX9_awardPrizes_74 1 rfl ?_
      refine ex_lload dX9_awardPrizes_76 0 rfl ?_
      refine ex_mminL dX9_awardPrizes_78 ml_X9_291 mw_minL (by decide) (Nat.le_of_ble_eq_true rfl) ?_
      refine ex_iload dX9_awardPrizes_81 4 rfl ?_
      refine ex_aload_n dX9_awardPrizes_83 6 rfl ?_
      refine ex_getI dX9_awardPrizes_84 fl_X9_293 hA.2.2.2.1.1 hA.2.2.2.1.2 ?_
      refine ex_isub dX9_awardPrizes_87 ?_
      refine ex_i2l dX9_awardPrizes_88 ?_
      refine ex_mminL dX9_awardPrizes_89 ml_X9_291 mw_minL (by decide) (Nat.le_of_ble_eq_true rfl) ?_
      refine ex_lstore [(11, .long ((if (((nI (min 50 M)) - (hs_I S md 6)).toInt64) < (if (lN (A.2.1 / (cl_at cs i).2.1)) < (lN (wn F (cl_at cs i))) then lN (A.2.1 / (cl_at cs i).2.1) else lN (wn F (cl_at cs i))) then ((nI (min 50 M)) - (hs_I S md 6)).toInt64 else (if (lN (A.2.1 / (cl_at cs i).2.1)) < (lN (wn F (cl_at cs i))) then lN (A.2.1 / (cl_at cs i).2.1) else lN (wn F (cl_at cs i)))))), (9, .long (lN (A.2.1 / (cl_at cs i).2.1))), (7, .long (lN (wn F (cl_at cs i)))), (6, .ref (cal.getD i 0)), (5, .int (nI i)), (4, .int (nI (min 50 M))), (0, .ref x), (1, .ref md), (2, .ref ru), (3, .int y)] dX9_awardPrizes_92 (by decide) rfl ?_
      refine ex_iconst (v := 0) dX9_awardPrizes_94 (by decide) ?_
      refine ex_istore [(13, .int 0), (11, .long ((if (((nI (min 50 M)) - (hs_I S md 6)).toInt64) < (if (lN (A.2.1 / (cl_at cs i).2.1)) < (lN (wn F (cl_at cs i))) then lN (A.2.1 / (cl_at cs i).2.1) else lN (wn F (cl_at cs i))) then ((nI (min 50 M)) - (hs_I S md 6)).toInt64 else (if (lN (A.2.1 / (cl_at cs i).2.1)) < (lN (wn F (cl_at cs i))) then lN (A.2.1 / (cl_at cs i).2.1) else lN (wn F (cl_at cs i)))))), (9, .long (lN (A.2.1 / (cl_at cs i).2.1))), (7, .long (lN (wn F (cl_at cs i)))), (6, .ref (cal.getD i 0)), (5, .int (nI i)), (4, .int (nI (min 50 M))), (0, .ref x), (1, .ref md), (2, .ref ru), (3, .int y)] dX9_awardPrizes_95 (by decide) rfl ?_
      have hmany : (if (((nI (min 50 M)) - (hs_I S md 6)).toInt64) < (if (lN (A.2.1 / (cl_at cs i).2.1)) < (lN (wn F (cl_at cs i))) then lN (A.2.1 / (cl_at cs i).2.1) else lN (wn F (cl_at cs i))) then ((nI (min 50 M)) - (hs_I S md 6)).toInt64 else (if (lN (A.2.1 / (cl_at cs i).2.1)) < (lN (wn F (cl_at cs i))) then lN (A.2.1 / (cl_at cs i).2.1) else lN (wn F (cl_at cs i)))) = lN (min (min (wn F (cl_at cs i)) (A.2.1 / (cl_at cs i).2.1)) (min 50 M - A.1)) := by
        have b1 := wn_le (F := F) hqi
        have b2 : A.2.1 / (cl_at cs i).2.1 ≤ A.2.1 := Nat.div_le_self _ _
        rw [minL (by omega) (by omega), m6, pk_sub (by omega), nI_l (by omega), minL (by omega) (by omega)]
      rw [hmany]
      refine ex_lv [0, 1, 2, 3, 4, 5, 6, 7, 8, 9, 10] rfl ?_
      refine c_prizes_i hb hpf hM hMz hM9 hst hsp hF hw0 h10 hok hn0 hk0 (pr := (cl_at cs i).2.1) (many := (min (min (wn F (cl_at cs i)) (A.2.1 / (cl_at cs i).2.1)) (min 50 M - A.1))) (R := itr (fun n => bo (s_ls s) (ys.filter pf) ((st + n * sp) % M)) (s_ds s).length (s_td s) (cl_at cs i).2.1 (min (min (wn F (cl_at cs i)) (A.2.1 / (cl_at cs i).2.1)) (min 50 M - A.1)) A) ((wn_0 (F := F) hqi).imp id (fun z => by rw [z, Nat.zero_min, Nat.zero_min])) hqi.2.1 (Nat.le_trans (Nat.min_le_right _ _) (by omega)) (fun S a n k h => AW_ca hil h) (fun S8 n8 k8 hAW8 => ?_) (min (min (wn F (cl_at cs i)) (A.2.1 / (cl_at cs i).2.1)) (min 50 M - A.1)) 0 A S n k (Nat.zero_add _) (Nat.le_trans (Nat.min_le_left _ _) (Nat.min_le_right _ _)) (Nat.min_le_right _ _) hAW rfl
      refine ex_iinc (v := nI (i + 1)) 0 [(5, .int (nI (i + 1))), (4, .int (nI (min 50 M))), (0, .ref x), (1, .ref md), (2, .ref ru), (3, .int y)] dX9_awardPrizes_123 rfl (nI_1 i) (by decide) rfl ?_
      refine ex_goto (tgt := 22) dX9_awardPrizes_126 (by decide) ?_
      refine ex_lv [0, 1, 2, 3, 4, 5] rfl ?_
      exact ih (i + 1) S8 n8 k8 (by omega) (by omega) (by rw [pzs, pz_it _ _ (wn_0 hqi), hAe]; exact hAW8)
set_option maxRecDepth 20000 in
set_option maxHeartbeats 4000000 in
theorem c_prizes (g : gl_T) {S : hs_T} {n k : Nat} {S0 : hs_T} {ow0 : Nat → Nat} {n0 k0 : Nat} {c0 : Nat → Nat} {x l tp nz : Nat} {s : st_T} {ys : List Nat} {md ru r M st sp F w0 : Nat} {cs : List cl_T} {cal : List Nat} {y : Int32} {pf : Nat → Bool} {ow : Nat → Nat} {c : Nat → Nat} {a2 : Nat} (hb : BD s) (hpf : ∀ j, j < (s_ls s).length → (nI (ln_at (s_ls s) j).2.2.2.1 ≤ y ↔ pf j = true)) (hM : 0 < M) (hMz : M = sz (s_ls s) (ys.filter pf)) (hM9 : M ≤ 1000000000) (hst : st < M) (hsp : sp ≤ M + 1) (hF : F < 1000000000000000000) (hw0 : w0 + 50 ≤ 2000) (h10 : cs.length ≤ 10) (hok : ∀ c ∈ cs, cl_ok c) (hn0 : n0 + 39000 ≤ ex_NM) (hk0 : k0 + 199000 ≤ ex_KM) (h : AR g S0 ow0 S ow x l tp nz (w_ws s (s_ws s)) ys c md ru r cs cal) (hD : DM S md (s_td s) r M st sp F w0 0 a2) (hn1 : n + cN c0 ≤ n0 + cN c) (hk1 : k + 4 * cN c0 ≤ k0 + 4 * cN c) (hw : w0 = (s_ws s).length) : ex_M g 9 mX9_awardPrizes [.ref x, .ref md, .ref ru, .int y] S n k (fun ρ S' n' k' => ρ = .inl none ∧ AW g S0 ow0 n0 k0 c0 S' x l tp nz s ys md ru r M st sp F w0 cs cal (pzs (fun n => bo (s_ls s) (ys.filter pf) ((st + n * sp) % M)) (s_ds s).length (s_td s) M F cs (0, F, s_ws s) cs.length) n' k') := by
  refine ex_enter (by decide +kernel) (Nat.le_of_ble_eq_true rfl) ?_
  show ex_W _ _ _ _ 0 [(0, .ref x), (1, .ref md), (2, .ref ru), (3, .int y)] [] _ _ _
  obtain ⟨m0, m1, m2, m3, m4, m5, m6, m7, m8⟩ := id hD
  refine ex_aload_n dX9_awardPrizes_0 1 rfl ?_
  refine ex_aload_n dX9_awardPrizes_1 1 rfl ?_
  refine ex_getJ dX9_awardPrizes_2 fl_X9_210 h.2.2.2.1.1 h.2.2.2.1.2 ?_
  refine ex_putJ dX9_awardPrizes_5 fl_X9_220 (pf_X9_220 _) h.2.2.2.1.1 h.2.2.2.1.2 ?_
  have hA1 := AR_mJ h 8 ((hs_J S md 5))
  have hD1 : DM (hs_sJ S md 8 (hs_J S md 5)) md (s_td s) r M st sp F w0 0 F := by
    unfold DM
    simp only [hs_I_sJ, hs_J_sJ]
    refine ⟨m0, m1, m2, ?_, ?_, ?_, m6, m7, ?_⟩
    · simp; exact m3
    · simp; exact m4
    · simp; exact m5
    · simp; exact m5
  generalize hs_sJ S md 8 (hs_J S md 5) = S1 at hA1 hD1 ⊢
  refine ex_bipush (v := 50) dX9_awardPrizes_8 (by decide) ?_
  refine ex_aload_n dX9_awardPrizes_10 1 rfl ?_
  refine ex_getI dX9_awardPrizes_11 fl_X9_269 hA1.2.2.2.1.1 hA1.2.2.2.1.2 ?_
  refine ex_mmin dX9_awardPrizes_14 ml_X9_272 mw_min (by decide) (Nat.le_of_ble_eq_true rfl) ?_
  refine ex_istore [(4, .int ((if (hs_I S1 md 2) < 50 then hs_I S1 md 2 else 50))), (0, .ref x), (1, .ref md), (2, .ref ru), (3, .int y)] dX9_awardPrizes_17 (by decide) rfl ?_
  refine ex_iconst (v := 0) dX9_awardPrizes_19 (by decide) ?_
  refine ex_istore [(5, .int 0), (4, .int ((if (hs_I S1 md 2) < 50 then hs_I S1 md 2 else 50))), (0, .ref x), (1, .ref md), (2, .ref ru), (3, .int y)] dX9_awardPrizes_20 (by decide) rfl ?_
  have hxm : (if (hs_I S1 md 2) < 50 then hs_I S1 md 2 else 50) = nI (min 50 M) := by
    rw [hD1.2.2.1]
    exact minI (a := 50) (b := M) (by decide) (by omega)
  rw [hxm]
  refine ex_lv [0, 1, 2, 3, 4, 5] rfl ?_
  exact c_prizes_l hb hpf hM hMz hM9 hst hsp hF hw0 h10 hok hn0 hk0 (a0 := (0, F, s_ws s)) (cs.length + 1) 0 S1 n k (by omega) (by omega) ⟨ow, c, hA1, hD1, ⟨by show n + cN c0 ≤ n0 + 0 + cN c; omega, by show k + 4 * cN c0 ≤ k0 + 6 * 0 + 4 * cN c; omega⟩, ⟨by show 0 ≤ 50; omega, by show 0 ≤ M; omega⟩, Nat.le_refl F, by show (s_ws s).length = w0 + 0; omega⟩
