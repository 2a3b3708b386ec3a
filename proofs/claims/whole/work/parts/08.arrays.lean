/-! arrays -/
section EXA
variable {g : gl_T} {d : Nat} {M : mt_T} {Po : ex_R} {pc pc' : Nat} {lv : List (Nat × Value)} {st : List Value} {S : hs_T} {n k : Nat}
theorem ex_in {x : Int32} {j N : Nat} (hx : x = nI j) (hj : j < N) (hb : j < 2 ^ 31) : vp_in x N ∧ x.toNatClampNeg = j := by
  subst hx
  exact ⟨vp_in_iff.mpr (by rw [nI_toInt hb]; omega), nI_clamp hb⟩
theorem ex_iald {x : Int32} {a j : Nat} (h : ex_d M pc (.iaload) 1 pc') (hL : a ∈ hs_L S) (hKd : hs_K S a = 12) (hi : x = nI j) (hj : j < hs_N S a) (hjb : j < 2 ^ 31) (kk : ex_W g d M Po pc' lv (.int (hs_I S a j) :: st) S n k) : ex_W g d M Po pc lv (.int x :: .ref a :: st) S n k := by
  intro p e R s m args below meth c H locs ls cells slots n0 k0 C hl hW hS hn hk hN hK
  obtain ⟨⟨hx, hb, hml, hrt, hlocks⟩, ⟨hown, hnm, htab⟩, ⟨hKU, hKH, hbs, hst⟩, hfr, hlo, hrc, hrs, hn0, hk0⟩ := id C
  obtain ⟨hdg, rfl⟩ := h
  obtain ⟨q, hq⟩ := ex_cell (g := g) hL (hs_E_I hKd)
  obtain ⟨h1, h2⟩ := ex_in hi hj hjb
  exact va_iald hx hb hKU.2.2.1 hW.1 q 1 hq rfl h1 hdg (by rw [h2]; exact kk p e R s m args below meth c H locs ls cells slots n0 k0 C hl hW hS hn hk hN hK)
theorem ex_bald {x : Int32} {a j : Nat} (h : ex_d M pc (.baload) 1 pc') (hL : a ∈ hs_L S) (hKd : hs_K S a = 11) (hi : x = nI j) (hj : j < hs_N S a) (hjb : j < 2 ^ 31) (kk : ex_W g d M Po pc' lv (.int (hs_I S a j) :: st) S n k) : ex_W g d M Po pc lv (.int x :: .ref a :: st) S n k := by
  intro p e R s m args below meth c H locs ls cells slots n0 k0 C hl hW hS hn hk hN hK
  obtain ⟨⟨hx, hb, hml, hrt, hlocks⟩, ⟨hown, hnm, htab⟩, ⟨hKU, hKH, hbs, hst⟩, hfr, hlo, hrc, hrs, hn0, hk0⟩ := id C
  obtain ⟨hdg, rfl⟩ := h
  obtain ⟨q, hq⟩ := ex_cell (g := g) hL (hs_E_B hKd)
  obtain ⟨h1, h2⟩ := ex_in hi hj hjb
  exact va_bald hx hb hKU.2.2.1 hW.1 q 0 hq rfl h1 hdg (by rw [h2]; exact kk p e R s m args below meth c H locs ls cells slots n0 k0 C hl hW hS hn hk hN hK)
theorem ex_zald {x : Int32} {a j : Nat} (h : ex_d M pc (.baload) 1 pc') (hL : a ∈ hs_L S) (hKd : hs_K S a = 14) (hi : x = nI j) (hj : j < hs_N S a) (hjb : j < 2 ^ 31) (kk : ex_W g d M Po pc' lv (.int (hs_I S a j) :: st) S n k) : ex_W g d M Po pc lv (.int x :: .ref a :: st) S n k := by
  intro p e R s m args below meth c H locs ls cells slots n0 k0 C hl hW hS hn hk hN hK
  obtain ⟨⟨hx, hb, hml, hrt, hlocks⟩, ⟨hown, hnm, htab⟩, ⟨hKU, hKH, hbs, hst⟩, hfr, hlo, hrc, hrs, hn0, hk0⟩ := id C
  obtain ⟨hdg, rfl⟩ := h
  obtain ⟨q, hq⟩ := ex_cell (g := g) hL (hs_E_Z hKd)
  obtain ⟨h1, h2⟩ := ex_in hi hj hjb
  exact va_zald hx hb hKU.2.2.1 hW.1 q 3 hq rfl h1 hdg (by rw [h2]; exact kk p e R s m args below meth c H locs ls cells slots n0 k0 C hl hW hS hn hk hN hK)
theorem ex_lald {x : Int32} {a j : Nat} (h : ex_d M pc (.laload) 1 pc') (hL : a ∈ hs_L S) (hKd : hs_K S a = 13) (hi : x = nI j) (hj : j < hs_N S a) (hjb : j < 2 ^ 31) (kk : ex_W g d M Po pc' lv (.long (hs_J S a j) :: st) S n k) : ex_W g d M Po pc lv (.int x :: .ref a :: st) S n k := by
  intro p e R s m args below meth c H locs ls cells slots n0 k0 C hl hW hS hn hk hN hK
  obtain ⟨⟨hx, hb, hml, hrt, hlocks⟩, ⟨hown, hnm, htab⟩, ⟨hKU, hKH, hbs, hst⟩, hfr, hlo, hrc, hrs, hn0, hk0⟩ := id C
  obtain ⟨hdg, rfl⟩ := h
  obtain ⟨q, hq⟩ := ex_cell (g := g) hL (hs_E_J hKd)
  obtain ⟨h1, h2⟩ := ex_in hi hj hjb
  exact va_lald hx hb hKU.2.2.1 hW.1 q 2 hq rfl h1 hdg (by rw [h2]; exact kk p e R s m args below meth c H locs ls cells slots n0 k0 C hl hW hS hn hk hN hK)
theorem ex_aaldQ {x : Int32} {a j : Nat} (h : ex_d M pc (.aaload) 1 pc') (hL : a ∈ hs_L S) (hKd : hs_K S a = 15) (hi : x = nI j) (hj : j < hs_N S a) (hjb : j < 2 ^ 31) (kk : ex_W g d M Po pc' lv (va_rf (hs_R S a j) :: st) S n k) : ex_W g d M Po pc lv (.int x :: .ref a :: st) S n k := by
  intro p e R s m args below meth c H locs ls cells slots n0 k0 C hl hW hS hn hk hN hK
  obtain ⟨⟨hx, hb, hml, hrt, hlocks⟩, ⟨hown, hnm, htab⟩, ⟨hKU, hKH, hbs, hst⟩, hfr, hlo, hrc, hrs, hn0, hk0⟩ := id C
  obtain ⟨hdg, rfl⟩ := h
  obtain ⟨q, hq⟩ := ex_cell (g := g) hL (hs_E_R hKd)
  obtain ⟨h1, h2⟩ := ex_in hi hj hjb
  exact va_aldq hx hb hKU.2.2.1 hW.1 q 4 hq rfl h1 hdg (by rw [h2]; exact kk p e R s m args below meth c H locs ls cells slots n0 k0 C hl hW hS hn hk hN hK)
theorem ex_aaldR {x : Int32} {a j b : Nat} (h : ex_d M pc (.aaload) 1 pc') (hL : a ∈ hs_L S) (hKd : hs_K S a = 15) (hi : x = nI j) (hj : j < hs_N S a) (hjb : j < 2 ^ 31) (hv : hs_R S a j = some b) (kk : ex_W g d M Po pc' lv (.ref b :: st) S n k) : ex_W g d M Po pc lv (.int x :: .ref a :: st) S n k := ex_aaldQ h hL hKd hi hj hjb (by rw [hv]; exact kk)
theorem ex_alen {a : Nat} (h : ex_d M pc (.arraylength) 1 pc') (hL : a ∈ hs_L S) (hKd : 11 ≤ hs_K S a ∧ hs_K S a ≤ 15) (kk : ex_W g d M Po pc' lv (.int (nI (hs_N S a)) :: st) S n k) : ex_W g d M Po pc lv (.ref a :: st) S n k := by
  intro p e R s m args below meth c H locs ls cells slots n0 k0 C hl hW hS hn hk hN hK
  obtain ⟨⟨hx, hb, hml, hrt, hlocks⟩, ⟨hown, hnm, htab⟩, ⟨hKU, hKH, hbs, hst⟩, hfr, hlo, hrc, hrs, hn0, hk0⟩ := id C
  obtain ⟨hdg, rfl⟩ := h
  have K := kk p e R s m args below meth c H locs ls cells slots n0 k0 C hl hW hS hn hk hN hK
  rcases (show hs_K S a = 11 ∨ hs_K S a = 12 ∨ hs_K S a = 13 ∨ hs_K S a = 14 ∨ hs_K S a = 15 by omega) with hq | hq | hq | hq | hq
  · obtain ⟨q, hj⟩ := ex_cell (g := g) hL (hs_E_B hq)
    exact va_alen hx hb hKU.2.2.1 hW.1 q 0 hj rfl rfl hdg K
  · obtain ⟨q, hj⟩ := ex_cell (g := g) hL (hs_E_I hq)
    exact va_alen hx hb hKU.2.2.1 hW.1 q 1 hj rfl rfl hdg K
  · obtain ⟨q, hj⟩ := ex_cell (g := g) hL (hs_E_J hq)
    exact va_alen hx hb hKU.2.2.1 hW.1 q 2 hj rfl rfl hdg K
  · obtain ⟨q, hj⟩ := ex_cell (g := g) hL (hs_E_Z hq)
    exact va_alen hx hb hKU.2.2.1 hW.1 q 3 hj rfl rfl hdg K
  · obtain ⟨q, hj⟩ := ex_cell (g := g) hL (hs_E_R hq)
    exact va_alen hx hb hKU.2.2.1 hW.1 q 4 hj rfl rfl hdg K
theorem ex_iast {x v : Int32} {a j : Nat} (h : ex_d M pc (.iastore) 1 pc') (hL : a ∈ hs_L S) (hKd : hs_K S a = 12) (hi : x = nI j) (hj : j < hs_N S a) (hjb : j < 2 ^ 31) (kk : ex_W g d M Po pc' lv st (hs_sI S a j v) n k) : ex_W g d M Po pc lv (.int v :: .int x :: .ref a :: st) S n k := by
  intro p e R s m args below meth c H locs ls cells slots n0 k0 C hl hW hS hn hk hN hK
  obtain ⟨⟨hx, hb, hml, hrt, hlocks⟩, ⟨hown, hnm, htab⟩, ⟨hKU, hKH, hbs, hst⟩, hfr, hlo, hrc, hrs, hn0, hk0⟩ := id C
  obtain ⟨hdg, rfl⟩ := h
  obtain ⟨q, hq⟩ := ex_cell (g := g) hL (hs_E_I hKd)
  obtain ⟨h1, h2⟩ := ex_in hi hj hjb
  refine va_iast hx hb hKU.2.2.1 hW.1 hW.2 hS q 1 hq rfl h1 hdg (fun H1 locs1 hP1 hD1 hS1 => ?_)
  refine kk p e R s m args below meth c H1 locs1 ls cells slots n0 k0 C hl (ex_set hL hq (hs_E_I hKd) rfl ?_ (hs_off_sI _ S a j v) hW.2 hP1 hD1) hS1 hn hk hN hK
  rw [hs_E_I (S := hs_sI S a j v) hKd, h2]
  show Sum.inl (_, _, Sum.inl (hs_u (hs_I S) a j v a)) = _
  rw [hs_u_row]; rfl
theorem ex_bast {x v : Int32} {a j : Nat} (h : ex_d M pc (.bastore) 1 pc') (hL : a ∈ hs_L S) (hKd : hs_K S a = 11) (hi : x = nI j) (hj : j < hs_N S a) (hjb : j < 2 ^ 31) (kk : ex_W g d M Po pc' lv st (hs_sI S a j (vp_nar .byte v)) n k) : ex_W g d M Po pc lv (.int v :: .int x :: .ref a :: st) S n k := by
  intro p e R s m args below meth c H locs ls cells slots n0 k0 C hl hW hS hn hk hN hK
  obtain ⟨⟨hx, hb, hml, hrt, hlocks⟩, ⟨hown, hnm, htab⟩, ⟨hKU, hKH, hbs, hst⟩, hfr, hlo, hrc, hrs, hn0, hk0⟩ := id C
  obtain ⟨hdg, rfl⟩ := h
  obtain ⟨q, hq⟩ := ex_cell (g := g) hL (hs_E_B hKd)
  obtain ⟨h1, h2⟩ := ex_in hi hj hjb
  refine va_bast hx hb hKU.2.2.1 hW.1 hW.2 hS q 0 hq rfl h1 hdg (fun H1 locs1 hP1 hD1 hS1 => ?_)
  refine kk p e R s m args below meth c H1 locs1 ls cells slots n0 k0 C hl (ex_set hL hq (hs_E_B hKd) rfl ?_ (hs_off_sI _ S a j _) hW.2 hP1 hD1) hS1 hn hk hN hK
  rw [hs_E_B (S := hs_sI S a j (vp_nar .byte v)) hKd, h2]
  show Sum.inl (_, _, Sum.inl (hs_u (hs_I S) a j (vp_nar .byte v) a)) = _
  rw [hs_u_row]; rfl
theorem ex_zast {x v : Int32} {a j : Nat} (h : ex_d M pc (.bastore) 1 pc') (hL : a ∈ hs_L S) (hKd : hs_K S a = 14) (hi : x = nI j) (hj : j < hs_N S a) (hjb : j < 2 ^ 31) (kk : ex_W g d M Po pc' lv st (hs_sI S a j (vp_nar .boolean v)) n k) : ex_W g d M Po pc lv (.int v :: .int x :: .ref a :: st) S n k := by
  intro p e R s m args below meth c H locs ls cells slots n0 k0 C hl hW hS hn hk hN hK
  obtain ⟨⟨hx, hb, hml, hrt, hlocks⟩, ⟨hown, hnm, htab⟩, ⟨hKU, hKH, hbs, hst⟩, hfr, hlo, hrc, hrs, hn0, hk0⟩ := id C
  obtain ⟨hdg, rfl⟩ := h
  obtain ⟨q, hq⟩ := ex_cell (g := g) hL (hs_E_Z hKd)
  obtain ⟨h1, h2⟩ := ex_in hi hj hjb
  refine va_zast hx hb hKU.2.2.1 hW.1 hW.2 hS q 3 hq rfl h1 hdg (fun H1 locs1 hP1 hD1 hS1 => ?_)
  refine kk p e R s m args below meth c H1 locs1 ls cells slots n0 k0 C hl (ex_set hL hq (hs_E_Z hKd) rfl ?_ (hs_off_sI _ S a j _) hW.2 hP1 hD1) hS1 hn hk hN hK
  rw [hs_E_Z (S := hs_sI S a j (vp_nar .boolean v)) hKd, h2]
  show Sum.inl (_, _, Sum.inl (hs_u (hs_I S) a j (vp_nar .boolean v) a)) = _
  rw [hs_u_row]; rfl
theorem ex_last {x : Int32} {v : Int64} {a j : Nat} (h : ex_d M pc (.lastore) 1 pc') (hL : a ∈ hs_L S) (hKd : hs_K S a = 13) (hi : x = nI j) (hj : j < hs_N S a) (hjb : j < 2 ^ 31) (kk : ex_W g d M Po pc' lv st (hs_sJ S a j v) n k) : ex_W g d M Po pc lv (.long v :: .int x :: .ref a :: st) S n k := by
  intro p e R s m args below meth c H locs ls cells slots n0 k0 C hl hW hS hn hk hN hK
  obtain ⟨⟨hx, hb, hml, hrt, hlocks⟩, ⟨hown, hnm, htab⟩, ⟨hKU, hKH, hbs, hst⟩, hfr, hlo, hrc, hrs, hn0, hk0⟩ := id C
  obtain ⟨hdg, rfl⟩ := h
  obtain ⟨q, hq⟩ := ex_cell (g := g) hL (hs_E_J hKd)
  obtain ⟨h1, h2⟩ := ex_in hi hj hjb
  refine va_last hx hb hKU.2.2.1 hW.1 hW.2 hS q 2 hq rfl h1 hdg (fun H1 locs1 hP1 hD1 hS1 => ?_)
  refine kk p e R s m args below meth c H1 locs1 ls cells slots n0 k0 C hl (ex_set hL hq (hs_E_J hKd) rfl ?_ (hs_off_sJ _ S a j v) hW.2 hP1 hD1) hS1 hn hk hN hK
  rw [hs_E_J (S := hs_sJ S a j v) hKd, h2]
  show Sum.inl (_, _, Sum.inr (Sum.inl (hs_u (hs_J S) a j v a))) = _
  rw [hs_u_row]; rfl
theorem ex_castW (kd : Nat) (q : vw_C) (h : hs_cl[kd]? = some q) : Cond.castable q.1 "java/lang/Object" ∈ ex_NB := by
  match kd, h with
  | 0, h => cases h; decide +kernel
  | 1, h => cases h; decide +kernel
  | 2, h => cases h; decide +kernel
  | 3, h => cases h; decide +kernel
  | 4, h => cases h; decide +kernel
  | 5, h => cases h; decide +kernel
  | 6, h => cases h; decide +kernel
  | 7, h => cases h; decide +kernel
  | 8, h => cases h; decide +kernel
  | 9, h => cases h; decide +kernel
  | 10, h => cases h; decide +kernel
  | k + 11, h => simp [hs_cl] at h
theorem ex_clsome {kd : Nat} (h : kd < 11) : ∃ q : vw_C, hs_cl[kd]? = some q := ⟨hs_cl[kd]'(by simpa [hs_cl] using h), List.getElem?_eq_getElem _⟩
theorem ex_aastR {x : Int32} {a j b : Nat} (h : ex_d M pc (.aastore) 1 pc') (hL : a ∈ hs_L S) (hKd : hs_K S a = 15) (hLb : b ∈ hs_L S) (hKb : hs_K S b < 11) (hi : x = nI j) (hj : j < hs_N S a) (hjb : j < 2 ^ 31) (kk : ex_W g d M Po pc' lv st (hs_sR S a j (some b)) n k) : ex_W g d M Po pc lv (.ref b :: .int x :: .ref a :: st) S n k := by
  intro p e R s m args below meth c H locs ls cells slots n0 k0 C hl hW hS hn hk hN hK
  obtain ⟨⟨hx, hb, hml, hrt, hlocks⟩, ⟨hown, hnm, htab⟩, ⟨hKU, hKH, hbs, hst⟩, hfr, hlo, hrc, hrs, hn0, hk0⟩ := id C
  obtain ⟨hdg, rfl⟩ := h
  obtain ⟨q, hq⟩ := ex_cell (g := g) hL (hs_E_R hKd)
  obtain ⟨q2, hq2⟩ := ex_cell (g := g) hLb (hs_E_obj rfl hKb)
  obtain ⟨r, hr⟩ := ex_clsome hKb
  obtain ⟨h1, h2⟩ := ex_in hi hj hjb
  refine va_astqO hx hb hKU.2.2.1 hW.1 hW.2 hS q 4 q2 (hs_K S b) hq rfl (hKU.2.1 _ (ex_castW _ r hr)) hq2 hr h1 hdg (fun H1 locs1 hP1 hD1 hS1 => ?_)
  refine kk p e R s m args below meth c H1 locs1 ls cells slots n0 k0 C hl (ex_set hL hq (hs_E_R hKd) rfl ?_ (hs_off_sR _ S a j _) hW.2 hP1 hD1) hS1 hn hk hN hK
  rw [hs_E_R (S := hs_sR S a j (some b)) hKd, h2]
  show Sum.inl (_, _, Sum.inr (Sum.inr (Sum.inr (Sum.inr (hs_u (hs_R S) a j (some b) a))))) = _
  rw [hs_u_row]; rfl
theorem ex_aastN {x : Int32} {a j : Nat} (h : ex_d M pc (.aastore) 1 pc') (hL : a ∈ hs_L S) (hKd : hs_K S a = 15) (hi : x = nI j) (hj : j < hs_N S a) (hjb : j < 2 ^ 31) (kk : ex_W g d M Po pc' lv st (hs_sR S a j none) n k) : ex_W g d M Po pc lv (.null :: .int x :: .ref a :: st) S n k := by
  intro p e R s m args below meth c H locs ls cells slots n0 k0 C hl hW hS hn hk hN hK
  obtain ⟨⟨hx, hb, hml, hrt, hlocks⟩, ⟨hown, hnm, htab⟩, ⟨hKU, hKH, hbs, hst⟩, hfr, hlo, hrc, hrs, hn0, hk0⟩ := id C
  obtain ⟨hdg, rfl⟩ := h
  obtain ⟨q, hq⟩ := ex_cell (g := g) hL (hs_E_R hKd)
  obtain ⟨h1, h2⟩ := ex_in hi hj hjb
  refine va_astqN hx hb hKU.2.2.1 hW.1 hW.2 hS q 4 hq rfl h1 hdg (fun H1 locs1 hP1 hD1 hS1 => ?_)
  refine kk p e R s m args below meth c H1 locs1 ls cells slots n0 k0 C hl (ex_set hL hq (hs_E_R hKd) rfl ?_ (hs_off_sR _ S a j _) hW.2 hP1 hD1) hS1 hn hk hN hK
  rw [hs_E_R (S := hs_sR S a j none) hKd, h2]
  show Sum.inl (_, _, Sum.inr (Sum.inr (Sum.inr (Sum.inr (hs_u (hs_R S) a j none a))))) = _
  rw [hs_u_row]; rfl
end EXA
