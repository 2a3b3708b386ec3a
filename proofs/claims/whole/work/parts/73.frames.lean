/-! the two do not touch each other -/
theorem RM_rows {S S' : hs_T} {m : Nat} {ad : Nat → Nat} {s : st_T} (h : RM S m ad s) (hm : m ∈ hs_L S' ∧ hs_K S' m = 10 ∧ hs_I S' m = hs_I S m ∧ hs_J S' m = hs_J S m ∧ hs_R S' m = hs_R S m) (ha : ∀ q ∈ mb_T, ad q.1 ∈ hs_L S' ∧ hs_K S' (ad q.1) = hs_K S (ad q.1) ∧ hs_N S' (ad q.1) = hs_N S (ad q.1) ∧ hs_I S' (ad q.1) = hs_I S (ad q.1) ∧ hs_J S' (ad q.1) = hs_J S (ad q.1)) : RM S' m ad s := by
  obtain ⟨hB, hMS, hMH, hML, hMT, hMR, hMN, hMD, hMW⟩ := h
  obtain ⟨m1, m2, mI, mJ, mR⟩ := hm
  have i4 : hs_I S' (ad 4) = hs_I S (ad 4) := (ha (4, 14, 60) (by decide)).2.2.2.1
  have i6 : hs_I S' (ad 6) = hs_I S (ad 6) := (ha (6, 12, 1500) (by decide)).2.2.2.1
  have i7 : hs_I S' (ad 7) = hs_I S (ad 7) := (ha (7, 12, 1500) (by decide)).2.2.2.1
  have i8 : hs_I S' (ad 8) = hs_I S (ad 8) := (ha (8, 12, 1500) (by decide)).2.2.2.1
  have i9 : hs_I S' (ad 9) = hs_I S (ad 9) := (ha (9, 12, 1500) (by decide)).2.2.2.1
  have i10 : hs_I S' (ad 10) = hs_I S (ad 10) := (ha (10, 12, 1500) (by decide)).2.2.2.1
  have i12 : hs_I S' (ad 12) = hs_I S (ad 12) := (ha (12, 11, 400) (by decide)).2.2.2.1
  have i18 : hs_I S' (ad 18) = hs_I S (ad 18) := (ha (18, 12, 20) (by decide)).2.2.2.1
  have i19 : hs_I S' (ad 19) = hs_I S (ad 19) := (ha (19, 12, 20) (by decide)).2.2.2.1
  have i20 : hs_I S' (ad 20) = hs_I S (ad 20) := (ha (20, 12, 210) (by decide)).2.2.2.1
  have i21 : hs_I S' (ad 21) = hs_I S (ad 21) := (ha (21, 12, 210) (by decide)).2.2.2.1
  have i22 : hs_I S' (ad 22) = hs_I S (ad 22) := (ha (22, 12, 210) (by decide)).2.2.2.1
  have i24 : hs_I S' (ad 24) = hs_I S (ad 24) := (ha (24, 12, 20) (by decide)).2.2.2.1
  have i28 : hs_I S' (ad 28) = hs_I S (ad 28) := (ha (28, 12, 2000) (by decide)).2.2.2.1
  have i29 : hs_I S' (ad 29) = hs_I S (ad 29) := (ha (29, 12, 2000) (by decide)).2.2.2.1
  have i30 : hs_I S' (ad 30) = hs_I S (ad 30) := (ha (30, 12, 2000) (by decide)).2.2.2.1
  have i31 : hs_I S' (ad 31) = hs_I S (ad 31) := (ha (31, 12, 2000) (by decide)).2.2.2.1
  have i32 : hs_I S' (ad 32) = hs_I S (ad 32) := (ha (32, 12, 2000) (by decide)).2.2.2.1
  have i35 : hs_I S' (ad 35) = hs_I S (ad 35) := (ha (35, 12, 1500) (by decide)).2.2.2.1
  have j5 : hs_J S' (ad 5) = hs_J S (ad 5) := (ha (5, 13, 60) (by decide)).2.2.2.2
  have j26 : hs_J S' (ad 26) = hs_J S (ad 26) := (ha (26, 13, 360) (by decide)).2.2.2.2
  refine ⟨⟨⟨m1, m2⟩, fun q hq => ?_, hB.2.2⟩, ?_, ?_, ?_, ?_, ?_, ?_, ?_, ?_⟩
  · obtain ⟨z1, z2, z3, z4⟩ := hB.2.1 q hq
    obtain ⟨y1, y2, y3, _⟩ := ha q hq
    exact ⟨by rw [mR]; exact z1, y1, y2.trans z3, y3.trans z4⟩
  · unfold MS; rw [mI, mJ]; exact hMS
  · unfold MH; rw [mI, i4, j5]; exact hMH
  · unfold ML; rw [mI, i6, i7, i8, i9, i10]; exact hML
  · unfold MT; rw [mI, i12]; exact hMT
  · unfold MR; rw [mI, i18, i19, i20, i21, i22]; exact hMR
  · unfold MN; rw [mI, i24]; exact hMN
  · unfold MD; rw [mI, j26]; exact hMD
  · unfold MW; rw [mI, i28, i29, i30, i31, i32]; exact hMW
/-- the reference's arrays have a slot of their own -/
def OA (ow : Nat → Nat) (ad : Nat → Nat) : Prop := ∀ q ∈ mb_T, ow (ad q.1) = 8
theorem RM_ck {S S' : hs_T} {m : Nat} {ad ow ow' : Nat → Nat} {s : st_T} (h : RM S m ad s) (hC : CK ow ow' cDk cDs S S') (ho : OA ow ad) : RM S' m ad s ∧ OA ow' ad := by
  have hB := h.1
  have hk : ∀ q ∈ mb_T, q.2.1 ∉ cDk := by decide
  have k1 := ck_at hC hB.1.1 hB.1.2 (by decide) (by decide)
  obtain ⟨a1, a2, a3, _⟩ := hC.1 m hB.1.1
  refine ⟨RM_rows h ⟨a1, a2.trans hB.1.2, k1.1, k1.2.1, k1.2.2⟩ (fun q hq => ?_), fun q hq => ?_⟩
  · obtain ⟨z1, z2, z3, z4⟩ := hB.2.1 q hq
    obtain ⟨b1, b2, b3, b4⟩ := hC.1 _ z2
    obtain ⟨c1, c2, c3⟩ := hC.2.1 _ z2 (by
      rintro (z | ⟨_, z⟩)
      · rw [z3] at z; exact hk q hq z
      · rw [ho q hq] at z; exact absurd z (by decide))
    exact ⟨b1, b2, b3, c1, c2⟩
  · rw [(hC.1 _ (hB.2.1 q hq).2.1).2.2.2]; exact ho q hq
theorem MF_ck {S S' : hs_T} {m : Nat} {ad ow : Nat → Nat} (hB : MB S m ad) (hF : MF S S' m ad) (ho : OA ow ad) : CK ow ow [10, 13, 14] [8] S S' := by
  obtain ⟨⟨e1, e2, e3, e4⟩, h2⟩ := hF
  have hk : ∀ q ∈ mb_T, q.2.1 = 11 ∨ q.2.1 = 12 ∨ q.2.1 = 13 ∨ q.2.1 = 14 := by decide
  refine ⟨fun y hy => ⟨by rw [e1]; exact hy, by rw [e2], by rw [e3], rfl⟩, fun y hy hd => ?_, fun y hy _ => by rw [e4]⟩
  have hn1 : y ≠ m := fun z => hd (Or.inl (by rw [z, hB.1.2]; decide))
  have hn2 : ∀ q ∈ mb_T, y ≠ ad q.1 := fun q hq z => by
    have z3 := (hB.2.1 q hq).2.2.1
    rcases hk q hq with w | w | w | w
    · exact hd (Or.inr ⟨by rw [z, z3, w]; decide, by rw [z, ho q hq]; decide⟩)
    · exact hd (Or.inr ⟨by rw [z, z3, w]; decide, by rw [z, ho q hq]; decide⟩)
    · exact hd (Or.inl (by rw [z, z3, w]; decide))
    · exact hd (Or.inl (by rw [z, z3, w]; decide))
  exact ⟨(h2 y hn1 hn2).1, (h2 y hn1 hn2).2, by rw [e4]⟩
theorem RC_mf {g : gl_T} {S S' : hs_T} {m x l tp nz : Nat} {ad ow : Nat → Nat} {s : st_T} {ys : List Nat} {c : Nat → Nat} (h : RC g S ow x l tp nz s ys c) (hB : MB S m ad) (hF : MF S S' m ad) (ho : OA ow ad) : RC g S' ow x l tp nz s ys c := RC_ck h (MF_ck hB hF ho) (by decide) (by decide)
