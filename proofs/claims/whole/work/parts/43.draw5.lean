/-! prizes -/
def wn (fund : Nat) (c : cl_T) : Nat := if c.1 = 2 then c.2.2 else if c.1 = 3 then (fund / 100 * c.2.2 + fund % 100 * c.2.2 / 100) / c.2.1 else 0
abbrev aw_T : Type := Nat × Nat × List wi_T
def aw (f : Nat → Nat × Nat) (dl td pr : Nat) (a : aw_T) : aw_T := (a.1 + 1, a.2.1 - pr, a.2.2 ++ [(dl, td, (f a.1).1, (f a.1).2, pr, 0)])
def pz (f : Nat → Nat × Nat) (dl td Mm pr : Nat) : Nat → aw_T → aw_T
  | 0, a => a
  | t + 1, a => if pr ≤ a.2.1 ∧ a.1 < 50 ∧ a.1 < Mm then pz f dl td Mm pr t (aw f dl td pr a) else a
def pzs (f : Nat → Nat × Nat) (dl td Mm fund : Nat) (cs : List cl_T) (a : aw_T) : Nat → aw_T
  | 0 => a
  | i + 1 => pz f dl td Mm (cl_at cs i).2.1 (wn fund (cl_at cs i)) (pzs f dl td Mm fund cs a i)
def dvf (td r Mm st sp F w0 n : Nat) : Nat → Int64 := fun w => if w = 0 then lN td else if w = 1 then lN r else if w = 2 then lN Mm else if w = 3 then lN st else if w = 4 then lN sp else if w = 5 then lN F else if w = 7 then (if n = 0 then -1 else lN w0) else 0
def drf (td r Mm st sp F w0 n left : Nat) : dr_T := fun w => if w = 6 then lN n else if w = 8 then lN left else dvf td r Mm st sp F w0 n w
theorem wn_le {F : Nat} {c : cl_T} (h : cl_ok c) : wn F c ≤ F + 1000000000 := by
  unfold wn
  split
  · have := h.2.2.1; omega
  · split
    · next _ h3 =>
      have h1 := h.2.2.2.2.2.2 h3
      have h4 : F / 100 * c.2.2 ≤ F / 100 * 100 := Nat.mul_le_mul_left _ h1
      have h5 : F % 100 * c.2.2 ≤ F % 100 * 100 := Nat.mul_le_mul_left _ h1
      have h6 : (F / 100 * c.2.2 + F % 100 * c.2.2 / 100) / c.2.1 ≤ F / 100 * c.2.2 + F % 100 * c.2.2 / 100 := Nat.div_le_self _ _
      omega
    · omega
theorem MD_ar {S : hs_T} {m : Nat} {ad : Nat → Nat} (hA : AD m ad) {ds : List dr_T} (h : MD S m ad ds) (i : Nat) (v : Int64) (hi : 9 * ds.length ≤ i) : MD (hs_sJ S (ad 26) i v) m ad ds := by
  obtain ⟨h1, h2, h3⟩ := h
  exact ⟨h1, h2, fun j hj w hw => by rw [mJ_aa hA, if_neg (by omega)]; exact h3 j hj w hw⟩
theorem RM_26 {S : hs_T} {m : Nat} {ad : Nat → Nat} {s : st_T} (h : RM S m ad s) (i : Nat) (v : Int64) (hi : 9 * (s_ds s).length ≤ i) : RM (hs_sJ S (ad 26) i v) m ad s := by
  obtain ⟨hB, hMS, hMH, hML, hMT, hMR, hMN, hMD, hMW⟩ := h
  exact ⟨hB, (MS_aJ hB.2.2 (hMS) 26 _ _ (by decide)), (MH_aJ hB.2.2 (hMH) 26 _ _ (by decide)), (ML_aJ hB.2.2 (hML) 26 _ _ (by decide)), (MT_aJ hB.2.2 (hMT) 26 _ _ (by decide)), (MR_aJ hB.2.2 (hMR) 26 _ _ (by decide)), (MN_aJ hB.2.2 (hMN) 26 _ _ (by decide)), (MD_ar hB.2.2 hMD i v hi), (MW_aJ hB.2.2 (hMW) 26 _ _ (by decide))⟩
theorem DX_26 {S0 S : hs_T} {m : Nat} {ad : Nat → Nat} {s : st_T} {zs : List Nat} (h : DX S0 S m ad s zs) (i : Nat) (v : Int64) (hi : 9 * (s_ds s).length ≤ i) : DX S0 (hs_sJ S (ad 26) i v) m ad s zs := ⟨⟨RM_26 h.1.1 i v hi, MF_aJ h.1.2.1 26 (by decide) _ _, h.1.2.2⟩, h.2⟩
theorem SX_tr {S0 S S1 : hs_T} {m : Nat} {ad : Nat → Nat} {s s1 : st_T} (h : SX S0 S m ad s) (h1 : SX S S1 m ad s1) : SX S0 S1 m ad s1 := ⟨h1.1, MF_tr h.2.1 h1.2.1, h1.2.2.trans h.2.2⟩
/-- the draw that is written -/
def DV (S : hs_T) (ad : Nat → Nat) (dl : Nat) (f : Nat → Int64) : Prop := ∀ w, w < 9 → w ≠ 6 → w ≠ 8 → hs_J S (ad 26) (9 * dl + w) = f w
set_option maxRecDepth 20000 in
set_option maxHeartbeats 2000000 in
theorem m_draw_h {g : gl_T} {S0 : hs_T} {n k m r : Nat} {ad : Nat → Nat} {s : st_T} {zs : List Nat} {Po : ex_R} {xd : Int32} {F sp st Mm : Nat} {S : hs_T} (h : DX S0 S m ad s zs) (hd40 : (s_ds s).length < 40) (hr20 : r < 20) (kk : ∀ S, DX S0 S m ad s zs → DV S ad (s_ds s).length (dvf (s_td s) r Mm st sp F (s_ws s).length 0) → ex_W g 1 mX10_draw Po 410 [(13, .int (nI (9 * (s_ds s).length))), (11, .long (lN F)), (7, .long (lN sp)), (5, .long (lN st)), (3, .long (lN Mm)), (0, .ref m), (1, .int (nI r)), (2, .int xd)] [] S n k) : ex_W g 1 mX10_draw Po 322 [(11, .long (lN F)), (7, .long (lN sp)), (5, .long (lN st)), (3, .long (lN Mm)), (0, .ref m), (1, .int (nI r)), (2, .int xd)] [] S n k := by
  obtain ⟨hB, hMS, hMH, hML, hMT, hMR, hMN, hMD, hMW⟩ := id h.1.1
  have htd := hMS.2.1
  refine ex_bipush (v := 9) dX10_draw_322 (by decide) ?_
  refine ex_aload_n dX10_draw_324 4 rfl ?_
  refine ex_getI dX10_draw_325 fl_X10_218 hB.1.1 hB.1.2 ?_
  refine ex_imul dX10_draw_328 ?_
  rw [show (9 : Int32) * hs_I S m 27 = nI (9 * (s_ds s).length) by rw [hMD.1]; exact pk_mul 9 _]
  refine ex_istore [(13, .int (nI (9 * (s_ds s).length))), (11, .long (lN F)), (7, .long (lN sp)), (5, .long (lN st)), (3, .long (lN Mm)), (0, .ref m), (1, .int (nI r)), (2, .int xd)] dX10_draw_329 (by decide) rfl ?_
  refine ex_aload_n dX10_draw_331 5 rfl ?_
  refine ex_getR (b := ad 26) dX10_draw_332 fl_X10_59 hB.1.1 hB.1.2 (mb_26 hB).1 ?_
  refine ex_iload dX10_draw_335 0 rfl ?_
  refine ex_aload_n dX10_draw_337 5 rfl ?_
  refine ex_getI dX10_draw_338 fl_X10_102 hB.1.1 hB.1.2 ?_
  refine ex_i2l dX10_draw_341 ?_
  refine ex_last (j := (9 * (s_ds s).length)) dX10_draw_342 (mb_26 hB).2.1 (mb_26 hB).2.2.1 rfl (Nat.lt_of_lt_of_eq (show (9 * (s_ds s).length) < 360 by omega) (mb_26 hB).2.2.2.symm) (show (9 * (s_ds s).length) < 2 ^ 31 by omega) ?_
  refine ex_aload_n dX10_draw_343 5 rfl ?_
  refine ex_getR (b := ad 26) dX10_draw_344 fl_X10_59 hB.1.1 hB.1.2 (mb_26 hB).1 ?_
  refine ex_iload dX10_draw_347 0 rfl ?_
  refine ex_iconst (v := 1) dX10_draw_349 (by decide) ?_
  refine ex_iadd dX10_draw_350 ?_
  refine ex_iload_n dX10_draw_351 6 rfl ?_
  refine ex_i2l dX10_draw_352 ?_
  refine ex_last (j := (9 * (s_ds s).length + 1)) dX10_draw_353 (mb_26 hB).2.1 (mb_26 hB).2.2.1 (nI_add _ 1) (Nat.lt_of_lt_of_eq (show (9 * (s_ds s).length + 1) < 360 by omega) (mb_26 hB).2.2.2.symm) (show (9 * (s_ds s).length + 1) < 2 ^ 31 by omega) ?_
  refine ex_aload_n dX10_draw_354 5 rfl ?_
  refine ex_getR (b := ad 26) dX10_draw_355 fl_X10_59 hB.1.1 hB.1.2 (mb_26 hB).1 ?_
  refine ex_iload dX10_draw_358 0 rfl ?_
  refine ex_iconst (v := 2) dX10_draw_360 (by decide) ?_
  refine ex_iadd dX10_draw_361 ?_
  refine ex_lload_n dX10_draw_362 4 rfl ?_
  refine ex_last (j := (9 * (s_ds s).length + 2)) dX10_draw_363 (mb_26 hB).2.1 (mb_26 hB).2.2.1 (nI_add _ 2) (Nat.lt_of_lt_of_eq (show (9 * (s_ds s).length + 2) < 360 by omega) (mb_26 hB).2.2.2.symm) (show (9 * (s_ds s).length + 2) < 2 ^ 31 by omega) ?_
  refine ex_aload_n dX10_draw_364 5 rfl ?_
  refine ex_getR (b := ad 26) dX10_draw_365 fl_X10_59 hB.1.1 hB.1.2 (mb_26 hB).1 ?_
  refine ex_iload dX10_draw_368 0 rfl ?_
  refine ex_iconst (v := 3) dX10_draw_370 (by decide) ?_
  refine ex_iadd dX10_draw_371 ?_
  refine ex_lload dX10_draw_372 3 rfl ?_
  refine ex_last (j := (9 * (s_ds s).length + 3)) dX10_draw_374 (mb_26 hB).2.1 (mb_26 hB).2.2.1 (nI_add _ 3) (Nat.lt_of_lt_of_eq (show (9 * (s_ds s).length + 3) < 360 by omega) (mb_26 hB).2.2.2.symm) (show (9 * (s_ds s).length + 3) < 2 ^ 31 by omega) ?_
  refine ex_aload_n dX10_draw_375 5 rfl ?_
  refine ex_getR (b := ad 26) dX10_draw_376 fl_X10_59 hB.1.1 hB.1.2 (mb_26 hB).1 ?_
  refine ex_iload dX10_draw_379 0 rfl ?_
  refine ex_iconst (v := 4) dX10_draw_381 (by decide) ?_
  refine ex_iadd dX10_draw_382 ?_
  refine ex_lload dX10_draw_383 2 rfl ?_
  refine ex_last (j := (9 * (s_ds s).length + 4)) dX10_draw_385 (mb_26 hB).2.1 (mb_26 hB).2.2.1 (nI_add _ 4) (Nat.lt_of_lt_of_eq (show (9 * (s_ds s).length + 4) < 360 by omega) (mb_26 hB).2.2.2.symm) (show (9 * (s_ds s).length + 4) < 2 ^ 31 by omega) ?_
  refine ex_aload_n dX10_draw_386 5 rfl ?_
  refine ex_getR (b := ad 26) dX10_draw_387 fl_X10_59 hB.1.1 hB.1.2 (mb_26 hB).1 ?_
  refine ex_iload dX10_draw_390 0 rfl ?_
  refine ex_iconst (v := 5) dX10_draw_392 (by decide) ?_
  refine ex_iadd dX10_draw_393 ?_
  refine ex_lload dX10_draw_394 1 rfl ?_
  refine ex_last (j := (9 * (s_ds s).length + 5)) dX10_draw_396 (mb_26 hB).2.1 (mb_26 hB).2.2.1 (nI_add _ 5) (Nat.lt_of_lt_of_eq (show (9 * (s_ds s).length + 5) < 360 by omega) (mb_26 hB).2.2.2.symm) (show (9 * (s_ds s).length + 5) < 2 ^ 31 by omega) ?_
  refine ex_aload_n dX10_draw_397 5 rfl ?_
  refine ex_getR (b := ad 26) dX10_draw_398 fl_X10_59 hB.1.1 hB.1.2 (mb_26 hB).1 ?_
  refine ex_iload dX10_draw_401 0 rfl ?_
  refine ex_bipush (v := 7) dX10_draw_403 (by decide) ?_
  refine ex_iadd dX10_draw_405 ?_
  refine ex_ldc2 dX10_draw_406 lc_X10_242 ?_
  refine ex_last (j := (9 * (s_ds s).length + 7)) dX10_draw_409 (mb_26 hB).2.1 (mb_26 hB).2.2.1 (nI_add _ 7) (Nat.lt_of_lt_of_eq (show (9 * (s_ds s).length + 7) < 360 by omega) (mb_26 hB).2.2.2.symm) (show (9 * (s_ds s).length + 7) < 2 ^ 31 by omega) ?_
  have h9 : DX S0 (hs_sJ (hs_sJ (hs_sJ (hs_sJ (hs_sJ (hs_sJ (hs_sJ S (ad 26) (9 * (s_ds s).length) ((hs_I S m 2).toInt64)) (ad 26) (9 * (s_ds s).length + 1) ((nI r).toInt64)) (ad 26) (9 * (s_ds s).length + 2) (lN Mm)) (ad 26) (9 * (s_ds s).length + 3) (lN st)) (ad 26) (9 * (s_ds s).length + 4) (lN sp)) (ad 26) (9 * (s_ds s).length + 5) (lN F)) (ad 26) (9 * (s_ds s).length + 7) (-1)) m ad s zs := DX_26 (DX_26 (DX_26 (DX_26 (DX_26 (DX_26 (DX_26 (h) (9 * (s_ds s).length) _ (by omega)) (9 * (s_ds s).length + 1) _ (by omega)) (9 * (s_ds s).length + 2) _ (by omega)) (9 * (s_ds s).length + 3) _ (by omega)) (9 * (s_ds s).length + 4) _ (by omega)) (9 * (s_ds s).length + 5) _ (by omega)) (9 * (s_ds s).length + 7) _ (by omega)
  have hv9 : DV (hs_sJ (hs_sJ (hs_sJ (hs_sJ (hs_sJ (hs_sJ (hs_sJ S (ad 26) (9 * (s_ds s).length) ((hs_I S m 2).toInt64)) (ad 26) (9 * (s_ds s).length + 1) ((nI r).toInt64)) (ad 26) (9 * (s_ds s).length + 2) (lN Mm)) (ad 26) (9 * (s_ds s).length + 3) (lN st)) (ad 26) (9 * (s_ds s).length + 4) (lN sp)) (ad 26) (9 * (s_ds s).length + 5) (lN F)) (ad 26) (9 * (s_ds s).length + 7) (-1)) ad (s_ds s).length (dvf (s_td s) r Mm st sp F (s_ws s).length 0) := by
    intro w hw h6 h8
    simp only [mJ_aa hB.2.2]
    rcases (show w = 0 ∨ w = 1 ∨ w = 2 ∨ w = 3 ∨ w = 4 ∨ w = 5 ∨ w = 7 by omega) with rfl | rfl | rfl | rfl | rfl | rfl | rfl
    · simp [dvf, hMS.1.1]; exact nI_l (by omega)
    · simp [dvf]; exact nI_l (by omega)
    · simp [dvf]
    · simp [dvf]
    · simp [dvf]
    · simp [dvf]
    · simp [dvf]
  generalize hs_sJ (hs_sJ (hs_sJ (hs_sJ (hs_sJ (hs_sJ (hs_sJ S (ad 26) (9 * (s_ds s).length) ((hs_I S m 2).toInt64)) (ad 26) (9 * (s_ds s).length + 1) ((nI r).toInt64)) (ad 26) (9 * (s_ds s).length + 2) (lN Mm)) (ad 26) (9 * (s_ds s).length + 3) (lN st)) (ad 26) (9 * (s_ds s).length + 4) (lN sp)) (ad 26) (9 * (s_ds s).length + 5) (lN F)) (ad 26) (9 * (s_ds s).length + 7) (-1) = S9 at h9 hv9 ⊢
  exact kk S9 h9 hv9
/-- between two prizes -/
def AI (S0 S : hs_T) (m : Nat) (ad : Nat → Nat) (s : st_T) (zs : List Nat) (r Mm st sp F : Nat) (a : aw_T) : Prop := DX S0 S m ad (w_ws s a.2.2) zs ∧ DV S ad (s_ds s).length (dvf (s_td s) r Mm st sp F (s_ws s).length a.1) ∧ a.1 ≤ 50 ∧ a.2.1 ≤ F ∧ a.2.2.length = (s_ws s).length + a.1
theorem dvf_s {td r Mm st sp F w0 n w : Nat} (h : n ≠ 0) : dvf td r Mm st sp F w0 n w = dvf td r Mm st sp F w0 (n + 1) w := by
  unfold dvf; simp [h]
theorem md_s (st n sp Mm : Nat) : ((st + n * sp) % Mm + sp) % Mm = (st + (n + 1) * sp) % Mm := by
  rw [Nat.mod_add_mod, Nat.add_mul, Nat.one_mul, Nat.add_assoc]
set_option maxRecDepth 20000 in
set_option maxHeartbeats 4000000 in
theorem m_draw_i {g : gl_T} {S0 : hs_T} {n k m r : Nat} {ad : Nat → Nat} {s : st_T} {zs : List Nat} {Po : ex_R} {xd : Int32} {F sp st Mm : Nat} {pr : Nat} {xi : Int32} {i : Nat} {R : aw_T} (hMm : 0 < Mm) (hMz : Mm = sz (s_ls s) zs) (hM9 : Mm ≤ 1000000000) (hsp : sp ≤ Mm + 1) (hst : st < Mm) (hF : F < 1000000000000000000) (hw0 : (s_ws s).length + 50 ≤ 2000) (hd40 : (s_ds s).length < 40) (hz15 : zs.length ≤ 1500) (hzs : ∀ j, j < zs.length → zs.getD j 0 < (s_ls s).length) (hpr : pr ≤ 1000000000) (hi2 : i < 210) (kk : ∀ S, AI S0 S m ad s zs r Mm st sp F R → ex_W g 1 mX10_draw Po 628 [(19, .int (nI i)), (18, .int (nI R.1)), (16, .long (lN ((st + R.1 * sp) % Mm))), (14, .long (lN R.2.1)), (13, .int (nI (9 * (s_ds s).length))), (11, .long (lN F)), (7, .long (lN sp)), (5, .long (lN st)), (3, .long (lN Mm)), (0, .ref m), (1, .int (nI r)), (2, .int xd)] [] S n k) : ∀ t a S, t < 2 ^ 63 → pz (fun n => bo (s_ls s) zs ((st + n * sp) % Mm)) (s_ds s).length (s_td s) Mm pr t a = R → AI S0 S m ad s zs r Mm st sp F a → (∀ S1 ws, RM S1 m ad (w_ws s ws) → hs_I S1 (ad 21) i = nI pr) → ex_W g 1 mX10_draw Po 525 [(20, .long (lN t)), (19, .int (nI i)), (18, .int (nI a.1)), (16, .long (lN ((st + a.1 * sp) % Mm))), (14, .long (lN a.2.1)), (13, .int (nI (9 * (s_ds s).length))), (11, .long (lN F)), (7, .long (lN sp)), (5, .long (lN st)), (3, .long (lN Mm)), (0, .ref m), (1, .int (nI r)), (2, .int xd)] [] S n k := by
  intro t
  induction t with
  | zero =>
    intro a S ht hres h h21'
    obtain ⟨hB, hMS, hMH, hML, hMT, hMR, hMN, hMD, hMW⟩ := id h.1.1.1
    refine ex_lload dX10_draw_525 0 rfl ?_
    refine ex_lconst (v := 0) dX10_draw_527 (by decide) ?_
    refine ex_lcmp dX10_draw_528 ?_
    refine ex_if_le (tgt := 628) dX10_draw_529 (by decide) (fun c529 => ?_) (fun c529 => absurd (by decide) c529)
    refine ex_lv [1, 2, 3, 4, 5, 6, 7, 8, 9, 10, 11, 12] rfl ?_
    subst hres
    exact kk S h
  | succ t ih =>
    intro a S ht hres h h21'
    obtain ⟨hB, hMS, hMH, hML, hMT, hMR, hMN, hMD, hMW⟩ := id h.1.1.1
    have e21 : (hs_I S (ad 21) i).toInt64 = lN pr := by rw [h21' S _ h.1.1.1, nI_l (by omega)]
    have ha50 := h.2.2.1
    have haF := h.2.2.2.1
    have hm9 : (st + a.1 * sp) % Mm < Mm := Nat.mod_lt _ hMm
    refine ex_lload dX10_draw_525 0 rfl ?_
    refine ex_lconst (v := 0) dX10_draw_527 (by decide) ?_
    refine ex_lcmp dX10_draw_528 ?_
    refine ex_if_le (tgt := 628) dX10_draw_529 (by decide) (fun c529 => absurd c529 (fun z => absurd ((lg_leN (b := 0) (by omega) (by decide)).mp z) (by omega))) (fun c529 => ?_)
    refine ex_lload dX10_draw_532 4 rfl ?_
    refine ex_aload_n dX10_draw_534 10 rfl ?_
    refine ex_getR (b := ad 21) dX10_draw_535 fl_X10_50 hB.1.1 hB.1.2 (mb_21 hB).1 ?_
    refine ex_iload dX10_draw_538 1 rfl ?_
    refine ex_iald (j := i) dX10_draw_540 (mb_21 hB).2.1 (mb_21 hB).2.2.1 rfl (Nat.lt_of_lt_of_eq (show i < 210 by omega) (mb_21 hB).2.2.2.symm) (show i < 2 ^ 31 by omega) ?_
    refine ex_i2l dX10_draw_541 ?_
    refine ex_lcmp dX10_draw_542 ?_
    refine ex_if_lt (tgt := 628) dX10_draw_543 (by decide) (fun c543 => ?_) (fun c543 => ?_)
    · refine ex_lv [1, 2, 3, 4, 5, 6, 7, 8, 9, 10, 11, 12] rfl ?_
      have hnc : ¬ (pr ≤ a.2.1 ∧ a.1 < 50 ∧ a.1 < Mm) := by
        rintro ⟨z1, z2, z3⟩
        first
          | (rw [e21] at c543; have := (lg_ltN (by omega) (by omega)).mp c543; omega)
          | (have := (nI_leI (a := 50) (by decide) (by omega)).mp c550; omega)
          | (have z4 := (lg_ltN (a := a.1) (b := Mm) (by omega) (by omega)).mpr z3; rw [nI_l (by omega)] at c558; simp only [i_le, i_lt, Int32.reduceToInt] at *; omega)
      rw [pz, if_neg hnc] at hres
      subst hres
      exact kk S h
    · refine ex_iload dX10_draw_546 2 rfl ?_
      refine ex_bipush (v := 50) dX10_draw_548 (by decide) ?_
      refine ex_icmp_ge (tgt := 628) dX10_draw_550 (by decide) (fun c550 => ?_) (fun c550 => ?_)
      · refine ex_lv [1, 2, 3, 4, 5, 6, 7, 8, 9, 10, 11, 12] rfl ?_
        have hnc : ¬ (pr ≤ a.2.1 ∧ a.1 < 50 ∧ a.1 < Mm) := by
          rintro ⟨z1, z2, z3⟩
          first
            | (rw [e21] at c543; have := (lg_ltN (by omega) (by omega)).mp c543; omega)
            | (have := (nI_leI (a := 50) (by decide) (by omega)).mp c550; omega)
            | (have z4 := (lg_ltN (a := a.1) (b := Mm) (by omega) (by omega)).mpr z3; rw [nI_l (by omega)] at c558; simp only [i_le, i_lt, Int32.reduceToInt] at *; omega)
        rw [pz, if_neg hnc] at hres
        subst hres
        exact kk S h
      · refine ex_iload dX10_draw_553 2 rfl ?_
        refine ex_i2l dX10_draw_555 ?_
        refine ex_lload_n dX10_draw_556 9 rfl ?_
        refine ex_lcmp dX10_draw_557 ?_
        refine ex_if_ge (tgt := 628) dX10_draw_558 (by decide) (fun c558 => ?_) (fun c558 => ?_)
        · refine ex_lv [1, 2, 3, 4, 5, 6, 7, 8, 9, 10, 11, 12] rfl ?_
          have hnc : ¬ (pr ≤ a.2.1 ∧ a.1 < 50 ∧ a.1 < Mm) := by
            rintro ⟨z1, z2, z3⟩
            first
              | (rw [e21] at c543; have := (lg_ltN (by omega) (by omega)).mp c543; omega)
              | (have := (nI_leI (a := 50) (by decide) (by omega)).mp c550; omega)
              | (have z4 := (lg_ltN (a := a.1) (b := Mm) (by omega) (by omega)).mpr z3; rw [nI_l (by omega)] at c558; simp only [i_le, i_lt, Int32.reduceToInt] at *; omega)
          rw [pz, if_neg hnc] at hres
          subst hres
          exact kk S h
        · refine ex_iload dX10_draw_561 2 rfl ?_
          refine ex_if_ne (tgt := 581) dX10_draw_563 (by decide) (fun c563 => ?_) (fun c563 => ?_)
          · have hgo : pr ≤ a.2.1 ∧ a.1 < 50 ∧ a.1 < Mm := by
              refine ⟨Nat.le_of_not_lt (fun z => c543 (by rw [e21]; exact (lg_ltN (by omega) (by omega)).mpr z)), Nat.lt_of_not_le (fun z => c550 (nI_le (a := 50) z (by omega))), ?_⟩
              rw [nI_l (by omega)] at c558
              exact (lg_ltN (by omega) (by omega)).mp (by simp only [i_le, i_lt, Int32.reduceToInt] at *; omega)
            rw [pz, if_pos hgo] at hres
            have h581 : DX S0 S m ad (w_ws s a.2.2) zs ∧ DV S ad (s_ds s).length (dvf (s_td s) r Mm st sp F (s_ws s).length (a.1 + 1)) := ⟨h.1, fun w hw h6 h8 => by
              rw [h.2.1 w hw h6 h8]
              exact dvf_s (fun z => c563 (by rw [z]; rfl))⟩
            generalize e8 : S = S8 at h581 ⊢
            clear hB
            obtain ⟨hB, hMS8, _, _, _, hMR8, _⟩ := id h581.1.1.1
            have e21b : hs_I S8 (ad 21) i = nI pr := h21' _ _ h581.1.1.1
            refine ex_aload_n dX10_draw_581 10 rfl ?_
            refine ex_lload dX10_draw_582 3 rfl ?_
            refine ex_aload_n dX10_draw_584 10 rfl ?_
            refine ex_getR (b := ad 21) dX10_draw_585 fl_X10_50 hB.1.1 hB.1.2 (mb_21 hB).1 ?_
            refine ex_iload dX10_draw_588 1 rfl ?_
            refine ex_iald (j := i) dX10_draw_590 (mb_21 hB).2.1 (mb_21 hB).2.2.1 rfl (Nat.lt_of_lt_of_eq (show i < 210 by omega) (mb_21 hB).2.2.2.symm) (show i < 2 ^ 31 by omega) ?_
            refine ex_cVg [.long (lN ((st + a.1 * sp) % Mm)), .int (hs_I S8 (ad 21) i)] [] dX10_draw_591 cV_X10_246 (m_winsAt g (td := s_td s) (pr := pr) (zs := zs) (s := w_ws s a.2.2) (q0 := (st + a.1 * sp) % Mm) h581.1.1.1 h581.1.2 (by show a.2.2.length < 2000; rw [h.2.2.2.2]; omega) e21b hz15 hzs rfl (by show _ < sz (s_ls s) zs; rw [← hMz]; exact Nat.mod_lt _ hMm) (by have := Nat.mod_lt (st + a.1 * sp) hMm; omega)) hB.1.1 hB.1.2 rfl rfl rfl (by decide) (Nat.le_of_ble_eq_true rfl) rfl ?_ (fun E S' n' k' h => by obtain ⟨h1, -⟩ := h; cases h1)
            rintro v' S5 n' k' ⟨hr5, hx5, hy5, hj5, hn, hk⟩
            cases hr5
            have hn := hn.symm
            have hk := hk.symm
            subst hn hk
            clear hB
            obtain ⟨hB, _⟩ := id hx5.1
            have e21c : hs_I S5 (ad 21) i = nI pr := h21' _ _ hx5.1
            show ex_W _ _ _ _ 594 [(20, .long (lN (t + 1))), (19, .int (nI i)), (18, .int (nI a.1)), (16, .long (lN ((st + a.1 * sp) % Mm))), (14, .long (lN a.2.1)), (13, .int (nI (9 * (s_ds s).length))), (11, .long (lN F)), (7, .long (lN sp)), (5, .long (lN st)), (3, .long (lN Mm)), (0, .ref m), (1, .int (nI r)), (2, .int xd)] [] S5 n k
            refine ex_lload dX10_draw_594 3 rfl ?_
            refine ex_lload dX10_draw_596 7 rfl ?_
            refine ex_ladd dX10_draw_598 ?_
            refine ex_lload_n dX10_draw_599 9 rfl ?_
            refine ex_lrem dX10_draw_600 (fun z => absurd ((pk_lEQ (b := 0) (by omega) (by decide)).mp z) (by omega)) ?_
            refine ex_lstore [(16, .long (((lN ((st + a.1 * sp) % Mm)) + (lN sp)) - ((lN ((st + a.1 * sp) % Mm)) + (lN sp)) / (lN Mm) * (lN Mm))), (20, .long (lN (t + 1))), (19, .int (nI i)), (18, .int (nI a.1)), (14, .long (lN a.2.1)), (13, .int (nI (9 * (s_ds s).length))), (11, .long (lN F)), (7, .long (lN sp)), (5, .long (lN st)), (3, .long (lN Mm)), (0, .ref m), (1, .int (nI r)), (2, .int xd)] dX10_draw_601 (by decide) rfl ?_
            refine ex_lload dX10_draw_603 4 rfl ?_
            refine ex_aload_n dX10_draw_605 10 rfl ?_
            refine ex_getR (b := ad 21) dX10_draw_606 fl_X10_50 hB.1.1 hB.1.2 (mb_21 hB).1 ?_
            refine ex_iload dX10_draw_609 2 rfl ?_
            refine ex_iald (j := i) dX10_draw_611 (mb_21 hB).2.1 (mb_21 hB).2.2.1 rfl (Nat.lt_of_lt_of_eq (show i < 210 by omega) (mb_21 hB).2.2.2.symm) (show i < 2 ^ 31 by omega) ?_
            refine ex_i2l dX10_draw_612 ?_
            refine ex_lsub dX10_draw_613 ?_
            refine ex_lstore [(14, .long ((lN a.2.1) - ((hs_I S5 (ad 21) i).toInt64))), (16, .long (((lN ((st + a.1 * sp) % Mm)) + (lN sp)) - ((lN ((st + a.1 * sp) % Mm)) + (lN sp)) / (lN Mm) * (lN Mm))), (20, .long (lN (t + 1))), (19, .int (nI i)), (18, .int (nI a.1)), (13, .int (nI (9 * (s_ds s).length))), (11, .long (lN F)), (7, .long (lN sp)), (5, .long (lN st)), (3, .long (lN Mm)), (0, .ref m), (1, .int (nI r)), (2, .int xd)] dX10_draw_614 (by decide) rfl ?_
            refine ex_lload dX10_draw_616 2 rfl ?_
            refine ex_lconst (v := 1) dX10_draw_618 (by decide) ?_
            refine ex_lsub dX10_draw_619 ?_
            refine ex_lstore [(20, .long ((lN (t + 1)) - 1)), (14, .long ((lN a.2.1) - ((hs_I S5 (ad 21) i).toInt64))), (16, .long (((lN ((st + a.1 * sp) % Mm)) + (lN sp)) - ((lN ((st + a.1 * sp) % Mm)) + (lN sp)) / (lN Mm) * (lN Mm))), (19, .int (nI i)), (18, .int (nI a.1)), (13, .int (nI (9 * (s_ds s).length))), (11, .long (lN F)), (7, .long (lN sp)), (5, .long (lN st)), (3, .long (lN Mm)), (0, .ref m), (1, .int (nI r)), (2, .int xd)] dX10_draw_620 (by decide) rfl ?_
            refine ex_iinc (v := nI (a.1 + 1)) 4 [(18, .int (nI (a.1 + 1))), (20, .long ((lN (t + 1)) - 1)), (14, .long ((lN a.2.1) - ((hs_I S5 (ad 21) i).toInt64))), (16, .long (((lN ((st + a.1 * sp) % Mm)) + (lN sp)) - ((lN ((st + a.1 * sp) % Mm)) + (lN sp)) / (lN Mm) * (lN Mm))), (19, .int (nI i)), (13, .int (nI (9 * (s_ds s).length))), (11, .long (lN F)), (7, .long (lN sp)), (5, .long (lN st)), (3, .long (lN Mm)), (0, .ref m), (1, .int (nI r)), (2, .int xd)] dX10_draw_622 rfl (nI_1 _) (by decide) rfl ?_
            refine ex_goto (tgt := 525) dX10_draw_625 (by decide) ?_
            have hq0 : lN ((st + a.1 * sp) % Mm) + lN sp - (lN ((st + a.1 * sp) % Mm) + lN sp) / lN Mm * lN Mm = lN ((st + (a.1 + 1) * sp) % Mm) := by
              rw [lN_add, pk_lRem (by omega) hMm (by omega), md_s]
            have hq1 : lN a.2.1 - (hs_I S5 (ad 21) i).toInt64 = lN (a.2.1 - pr) := by
              rw [e21c, nI_l (by omega), lN_sub hgo.1]
            have hq2 : lN (t + 1) - 1 = lN t := lN_sub (a := t + 1) (b := 1) (by omega)
            rw [hq0, hq1, hq2]
            refine ex_lv [1, 4, 0, 3, 2, 5, 6, 7, 8, 9, 10, 11, 12] rfl ?_
            exact ih (aw (fun n => bo (s_ls s) zs ((st + n * sp) % Mm)) (s_ds s).length (s_td s) pr a) S5 (by omega) hres ⟨⟨SX_tr h581.1.1 hx5, hy5⟩, fun w hw h6 h8 => by rw [hj5]; exact h581.2 w hw h6 h8, by show a.1 + 1 ≤ 50; omega, by show a.2.1 - pr ≤ F; omega, by show (a.2.2 ++ [_]).length = _ + (a.1 + 1); rw [List.length_append, h.2.2.2.2]; simp; omega⟩ h21'
          · refine ex_aload_n dX10_draw_566 10 rfl ?_
            refine ex_getR (b := ad 26) dX10_draw_567 fl_X10_59 hB.1.1 hB.1.2 (mb_26 hB).1 ?_
            refine ex_iload dX10_draw_570 5 rfl ?_
            refine ex_bipush (v := 7) dX10_draw_572 (by decide) ?_
            refine ex_iadd dX10_draw_574 ?_
            refine ex_aload_n dX10_draw_575 10 rfl ?_
            refine ex_getI dX10_draw_576 fl_X10_121 hB.1.1 hB.1.2 ?_
            refine ex_i2l dX10_draw_579 ?_
            refine ex_last (j := (9 * (s_ds s).length + 7)) dX10_draw_580 (mb_26 hB).2.1 (mb_26 hB).2.2.1 (nI_add _ 7) (Nat.lt_of_lt_of_eq (show (9 * (s_ds s).length + 7) < 360 by omega) (mb_26 hB).2.2.2.symm) (show (9 * (s_ds s).length + 7) < 2 ^ 31 by omega) ?_
            have hgo : pr ≤ a.2.1 ∧ a.1 < 50 ∧ a.1 < Mm := by
              refine ⟨Nat.le_of_not_lt (fun z => c543 (by rw [e21]; exact (lg_ltN (by omega) (by omega)).mpr z)), Nat.lt_of_not_le (fun z => c550 (nI_le (a := 50) z (by omega))), ?_⟩
              rw [nI_l (by omega)] at c558
              exact (lg_ltN (by omega) (by omega)).mp (by simp only [i_le, i_lt, Int32.reduceToInt] at *; omega)
            rw [pz, if_pos hgo] at hres
            have h581 : DX S0 (hs_sJ S (ad 26) (9 * (s_ds s).length + 7) ((hs_I S m 33).toInt64)) m ad (w_ws s a.2.2) zs ∧ DV (hs_sJ S (ad 26) (9 * (s_ds s).length + 7) ((hs_I S m 33).toInt64)) ad (s_ds s).length (dvf (s_td s) r Mm st sp F (s_ws s).length (a.1 + 1)) := by
              have a0 : a.1 = 0 := (nI_eq (b := 0) (by omega) (by decide)).mp c563
              refine ⟨DX_26 h.1 _ _ (by show 9 * (s_ds s).length ≤ _; omega), fun w hw h6 h8 => ?_⟩
              rw [mJ_aa hB.2.2]
              by_cases z : w = 7
              · subst z
                rw [if_pos ⟨rfl, rfl⟩, hMW.1]
                show (nI a.2.2.length).toInt64 = _
                rw [h.2.2.2.2, a0, nI_l (by omega)]
                simp [dvf]
              · rw [if_neg (by omega), h.2.1 w hw h6 h8]
                unfold dvf
                simp [z]
            generalize hs_sJ S (ad 26) (9 * (s_ds s).length + 7) ((hs_I S m 33).toInt64) = S8 at h581 ⊢
            clear hB
            obtain ⟨hB, hMS8, _, _, _, hMR8, _⟩ := id h581.1.1.1
            have e21b : hs_I S8 (ad 21) i = nI pr := h21' _ _ h581.1.1.1
            refine ex_aload_n dX10_draw_581 10 rfl ?_
            refine ex_lload dX10_draw_582 3 rfl ?_
            refine ex_aload_n dX10_draw_584 10 rfl ?_
            refine ex_getR (b := ad 21) dX10_draw_585 fl_X10_50 hB.1.1 hB.1.2 (mb_21 hB).1 ?_
            refine ex_iload dX10_draw_588 1 rfl ?_
            refine ex_iald (j := i) dX10_draw_590 (mb_21 hB).2.1 (mb_21 hB).2.2.1 rfl (Nat.lt_of_lt_of_eq (show i < 210 by omega) (mb_21 hB).2.2.2.symm) (show i < 2 ^ 31 by omega) ?_
            refine ex_cVg [.long (lN ((st + a.1 * sp) % Mm)), .int (hs_I S8 (ad 21) i)] [] dX10_draw_591 cV_X10_246 (m_winsAt g (td := s_td s) (pr := pr) (zs := zs) (s := w_ws s a.2.2) (q0 := (st + a.1 * sp) % Mm) h581.1.1.1 h581.1.2 (by show a.2.2.length < 2000; rw [h.2.2.2.2]; omega) e21b hz15 hzs rfl (by show _ < sz (s_ls s) zs; rw [← hMz]; exact Nat.mod_lt _ hMm) (by have := Nat.mod_lt (st + a.1 * sp) hMm; omega)) hB.1.1 hB.1.2 rfl rfl rfl (by decide) (Nat.le_of_ble_eq_true rfl) rfl ?_ (fun E S' n' k' h => by obtain ⟨h1, -⟩ := h; cases h1)
            rintro v' S5 n' k' ⟨hr5, hx5, hy5, hj5, hn, hk⟩
            cases hr5
            have hn := hn.symm
            have hk := hk.symm
            subst hn hk
            clear hB
            obtain ⟨hB, _⟩ := id hx5.1
            have e21c : hs_I S5 (ad 21) i = nI pr := h21' _ _ hx5.1
            show ex_W _ _ _ _ 594 [(20, .long (lN (t + 1))), (19, .int (nI i)), (18, .int (nI a.1)), (16, .long (lN ((st + a.1 * sp) % Mm))), (14, .long (lN a.2.1)), (13, .int (nI (9 * (s_ds s).length))), (11, .long (lN F)), (7, .long (lN sp)), (5, .long (lN st)), (3, .long (lN Mm)), (0, .ref m), (1, .int (nI r)), (2, .int xd)] [] S5 n k
            refine ex_lload dX10_draw_594 3 rfl ?_
            refine ex_lload dX10_draw_596 7 rfl ?_
            refine ex_ladd dX10_draw_598 ?_
            refine ex_lload_n dX10_draw_599 9 rfl ?_
            refine ex_lrem dX10_draw_600 (fun z => absurd ((pk_lEQ (b := 0) (by omega) (by decide)).mp z) (by omega)) ?_
            refine ex_lstore [(16, .long (((lN ((st + a.1 * sp) % Mm)) + (lN sp)) - ((lN ((st + a.1 * sp) % Mm)) + (lN sp)) / (lN Mm) * (lN Mm))), (20, .long (lN (t + 1))), (19, .int (nI i)), (18, .int (nI a.1)), (14, .long (lN a.2.1)), (13, .int (nI (9 * (s_ds s).length))), (11, .long (lN F)), (7, .long (lN sp)), (5, .long (lN st)), (3, .long (lN Mm)), (0, .ref m), (1, .int (nI r)), (2, .int xd)] dX10_draw_601 (by decide) rfl ?_
            refine ex_lload dX10_draw_603 4 rfl ?_
            refine ex_aload_n dX10_draw_605 10 rfl ?_
            refine ex_getR (b := ad 21) dX10_draw_606 fl_X10_50 hB.1.1 hB.1.2 (mb_21 hB).1 ?_
            refine ex_iload dX10_draw_609 2 rfl ?_
            refine ex_iald (j := i) dX10_draw_611 (mb_21 hB).2.1 (mb_21 hB).2.2.1 rfl (Nat.lt_of_lt_of_eq (show i < 210 by omega) (mb_21 hB).2.2.2.symm) (show i < 2 ^ 31 by omega) ?_
            refine ex_i2l dX10_draw_612 ?_
            refine ex_lsub dX10_draw_613 ?_
            refine ex_lstore [(14, .long ((lN a.2.1) - ((hs_I S5 (ad 21) i).toInt64))), (16, .long (((lN ((st + a.1 * sp) % Mm)) + (lN sp)) - ((lN ((st + a.1 * sp) % Mm)) + (lN sp)) / (lN Mm) * (lN Mm))), (20, .long (lN (t + 1))), (19, .int (nI i)), (18, .int (nI a.1)), (13, .int (nI (9 * (s_ds s).length))), (11, .long (lN F)), (7, .long (lN sp)), (5, .long (lN st)), (3, .long (lN Mm)), (0, .ref m), (1, .int (nI r)), (2, .int xd)] dX10_draw_614 (by decide) rfl ?_
            refine ex_lload dX10_draw_616 2 rfl ?_
            refine ex_lconst (v := 1) dX10_draw_618 (by decide) ?_
            refine ex_lsub dX10_draw_619 ?_
            refine ex_lstore [(20, .long ((lN (t + 1)) - 1)), (14, .long ((lN a.2.1) - ((hs_I S5 (ad 21) i).toInt64))), (16, .long (((lN ((st + a.1 * sp) % Mm)) + (lN sp)) - ((lN ((st + a.1 * sp) % Mm)) + (lN sp)) / (lN Mm) * (lN Mm))), (19, .int (nI i)), (18, .int (nI a.1)), (13, .int (nI (9 * (s_ds s).length))), (11, .long (lN F)), (7, .long (lN sp)), (5, .long (lN st)), (3, .long (lN Mm)), (0, .ref m), (1, .int (nI r)), (2, .int xd)] dX10_draw_620 (by decide) rfl ?_
            refine ex_iinc (v := nI (a.1 + 1)) 4 [(18, .int (nI (a.1 + 1))), (20, .long ((lN (t + 1)) - 1)), (14, .long ((lN a.2.1) - ((hs_I S5 (ad 21) i).toInt64))), (16, .long (((lN ((st + a.1 * sp) % Mm)) + (lN sp)) - ((lN ((st + a.1 * sp) % Mm)) + (lN sp)) / (lN Mm) * (lN Mm))), (19, .int (nI i)), (13, .int (nI (9 * (s_ds s).length))), (11, .long (lN F)), (7, .long (lN sp)), (5, .long (lN st)), (3, .long (lN Mm)), (0, .ref m), (1, .int (nI r)), (2, .int xd)] dX10_draw_622 rfl (nI_1 _) (by decide) rfl ?_
            refine ex_goto (tgt := 525) dX10_draw_625 (by decide) ?_
            have hq0 : lN ((st + a.1 * sp) % Mm) + lN sp - (lN ((st + a.1 * sp) % Mm) + lN sp) / lN Mm * lN Mm = lN ((st + (a.1 + 1) * sp) % Mm) := by
              rw [lN_add, pk_lRem (by omega) hMm (by omega), md_s]
            have hq1 : lN a.2.1 - (hs_I S5 (ad 21) i).toInt64 = lN (a.2.1 - pr) := by
              rw [e21c, nI_l (by omega), lN_sub hgo.1]
            have hq2 : lN (t + 1) - 1 = lN t := lN_sub (a := t + 1) (b := 1) (by omega)
            rw [hq0, hq1, hq2]
            refine ex_lv [1, 4, 0, 3, 2, 5, 6, 7, 8, 9, 10, 11, 12] rfl ?_
            exact ih (aw (fun n => bo (s_ls s) zs ((st + n * sp) % Mm)) (s_ds s).length (s_td s) pr a) S5 (by omega) hres ⟨⟨SX_tr h581.1.1 hx5, hy5⟩, fun w hw h6 h8 => by rw [hj5]; exact h581.2 w hw h6 h8, by show a.1 + 1 ≤ 50; omega, by show a.2.1 - pr ≤ F; omega, by show (a.2.2 ++ [_]).length = _ + (a.1 + 1); rw [List.length_append, h.2.2.2.2]; simp; omega⟩ h21'
