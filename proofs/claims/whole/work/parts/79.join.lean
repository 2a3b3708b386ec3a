/-! the class, the reference and the row 'out' stand side by side -/
def OU (S : hs_T) (ow : Nat → Nat) (o : Nat) : Prop := o ∈ hs_L S ∧ hs_K S o = 13 ∧ hs_N S o = 1 ∧ ow o = 9
theorem OU_ck {S S' : hs_T} {ow ow' : Nat → Nat} {dk ds : List Nat} {o : Nat} (h : OU S ow o) (hC : CK ow ow' dk ds S S') : OU S' ow' o := by
  obtain ⟨a1, a2, a3, a4⟩ := hC.1 o h.1
  exact ⟨a1, a2.trans h.2.1, a3.trans h.2.2.1, a4.trans h.2.2.2⟩
theorem CK_out {S : hs_T} {ow : Nat → Nat} {o : Nat} (h : OU S ow o) (v : Int64) : CK ow ow [13] [] S (hs_sJ S o 0 v) :=
  ⟨fun y hy => ⟨hy, rfl, rfl, rfl⟩, fun y hy hd => ⟨rfl, hs_u_off _ _ _ (fun z => hd (Or.inl (by rw [z, h.2.1]; decide))), rfl⟩, fun y hy _ => rfl⟩
theorem RC_out {g : gl_T} {S : hs_T} {ow : Nat → Nat} {x l tp nz o : Nat} {s : st_T} {ys : List Nat} {c : Nat → Nat} (h : RC g S ow x l tp nz s ys c) (ho : OU S ow o) (v : Int64) : RC g (hs_sJ S o 0 v) ow x l tp nz s ys c := RC_ck h (CK_out ho v) (by decide) (by decide)
theorem out_m {S : hs_T} {ow : Nat → Nat} {m o : Nat} {ad : Nat → Nat} (hB : MB S m ad) (ho : OU S ow o) : m ≠ o := fun z => by
  have h1 := hB.1.2
  rw [z, ho.2.1] at h1
  exact absurd h1 (by decide)
theorem out_a {S : hs_T} {ow : Nat → Nat} {o : Nat} {ad : Nat → Nat} (ho : OU S ow o) (hA : OA ow ad) : ∀ q ∈ mb_T, ad q.1 ≠ o := fun q hq z => by
  have h1 := hA q hq
  rw [z, ho.2.2.2] at h1
  exact absurd h1 (by decide)
theorem RM_out {S : hs_T} {ow : Nat → Nat} {m o : Nat} {ad : Nat → Nat} {s : st_T} (h : RM S m ad s) (ho : OU S ow o) (hA : OA ow ad) (v : Int64) : RM (hs_sJ S o 0 v) m ad s :=
  RM_rows h ⟨h.1.1.1, h.1.1.2, rfl, hs_u_off _ _ _ (out_m h.1 ho), rfl⟩ (fun q hq => ⟨(h.1.2.1 q hq).2.1, rfl, rfl, rfl, hs_u_off _ _ _ (out_a ho hA q hq)⟩)
/-- behind the class' call, ahead of the reference's -/
def LJ (g : gl_T) (x l tp nz m o : Nat) (ad : Nat → Nat) (s s' : st_T) (c : Nat → Nat) (n k : Nat) (S' : hs_T) (n' k' : Nat) : Prop := ∃ ow' c' ys', RC g S' ow' x l tp nz s' ys' c' ∧ RM S' m ad s ∧ OA ow' ad ∧ OU S' ow' o ∧ rb s s' c c' n n' k k'
section LJS
variable {g : gl_T} {S S' S2 : hs_T} {ow : Nat → Nat} {x l tp nz m o n k n' k' n2 k2 : Nat} {ad : Nat → Nat} {s s' : st_T} {ys : List Nat} {c : Nat → Nat} {sp : Nat × Value × st_T} {ex : Nat → String}
theorem LJ_cp (hM : RM S m ad s) (hA : OA ow ad) (ho : OU S ow o) {v : Option Value} (hz : sp.1 = 0) (h : cp g S ow x l tp nz c n k ex s sp (.inl v) S' n' k') : v = some sp.2.1 ∧ LJ g x l tp nz m o ad s sp.2.2 c n k S' n' k' := by
  obtain ⟨_, h2, ow', c', ys', hR, hC, hr⟩ := cp_l h
  obtain ⟨r1, r2⟩ := RM_ck hM hC hA
  exact ⟨h2, ow', c', ys', hR, r1, r2, OU_ck ho hC, hr⟩
theorem LJ_hp (hM : RM S m ad s) (hA : OA ow ad) (ho : OU S ow o) {v : Option Value} (h : hp g S ow x l tp nz c n k o s sp (.inl v) S' n' k') : v = some (.int (nI sp.1)) ∧ LJ g x l tp nz m o ad s sp.2.2 c n k S' n' k' ∧ (sp.1 = 0 → hs_J S' o 0 = vJ sp.2.1) := by
  obtain ⟨h2, ow', c', ys', S1, hR, hC, hr, hS⟩ := h
  obtain ⟨r1, r2⟩ := RM_ck hM hC hA
  have h3 := OU_ck ho hC
  refine ⟨Sum.inl.inj h2, ?_⟩
  by_cases z : sp.1 = 0
  · rw [if_pos z] at hS
    subst hS
    refine ⟨⟨ow', c', ys', RC_out hR h3 _, RM_out r1 h3 r2 _, r2, OU_ck h3 (CK_out h3 _), hr⟩, fun _ => ?_⟩
    rw [hs_J_sJ, if_pos ⟨rfl, rfl⟩]
  · rw [if_neg z] at hS
    subst hS
    exact ⟨⟨ow', c', ys', hR, r1, r2, h3, hr⟩, fun w => absurd w z⟩
/-- what holds ahead of every call of the script -/
def LI (g : gl_T) (x m o t : Nat) (S : hs_T) (n k : Nat) : Prop := ∃ l tp nz ow s ys c ad, RC g S ow x l tp nz s ys c ∧ RM S m ad s ∧ OA ow ad ∧ OU S ow o ∧ OQ s ∧ TB s ∧ n ≤ 100 + 60 * t + cN c + (s_ls s).length ∧ k ≤ 30000 + 600 * t + 4 * cN c + 5 * (s_ls s).length
theorem LI_of {t : Nat} (h : LJ g x l tp nz m o ad s sp.2.2 c n k S' n' k') (hp : mp S' m ad n' k' sp (.inl (some sp.2.1)) S2 n2 k2) (hQ : OQ sp.2.2) (hT : TB sp.2.2) (hn : n ≤ 100 + 60 * t + cN c + (s_ls s).length) (hk : k ≤ 30000 + 600 * t + 4 * cN c + 5 * (s_ls s).length) : LI g x m o (t + 1) S2 n2 k2 := by
  obtain ⟨ow', c', ys', hR, hM, hA, ho, hr⟩ := h
  obtain ⟨_, _, hM2, hF, rfl, rfl⟩ := hp
  obtain ⟨r1, r2⟩ := hr
  refine ⟨l, tp, nz, ow', sp.2.2, ys', c', ad, RC_mf hR hM.1 hF hA, hM2, hA, OU_ck ho (MF_ck hM.1 hF hA), hQ, hT, by omega, by omega⟩
theorem MF_out (h : LJ g x l tp nz m o ad s s' c n k S' n' k') (hF : MF S' S2 m ad) : hs_J S2 o = hs_J S' o := by
  obtain ⟨ow', c', ys', hR, hM, hA, ho, hr⟩ := h
  exact (hF.2 o (fun z => out_m hM.1 ho z.symm) (fun q hq z => out_a ho hA q hq z.symm)).2
theorem LJ_RM (h : LJ g x l tp nz m o ad s s' c n k S' n' k') : RM S' m ad s := by
  obtain ⟨ow', c', ys', hR, hM, hA, ho, hr⟩ := h
  exact hM
theorem LJ_o (h : LJ g x l tp nz m o ad s s' c n k S' n' k') : o ∈ hs_L S' ∧ hs_K S' o = 13 ∧ hs_N S' o = 1 := by
  obtain ⟨ow', c', ys', hR, hM, hA, ho, hr⟩ := h
  exact ⟨ho.1, ho.2.1, ho.2.2.1⟩
end LJS
