/-! the state of the office as a value -/
abbrev cl_T : Type := Nat × Nat × Nat
abbrev ru_T : Type := Nat × List cl_T
abbrev dr_T : Type := Nat → Int64
abbrev wi_T : Type := Nat × Nat × Nat × Nat × Nat × Nat
/-- today, sold, the fault's place, what is carried; holders (dead, paid); lines; tape; rules; noise; draws; wins -/
abbrev st_T : Type := (Nat × Nat × Option Nat × Nat) × List (Nat × Nat) × List li_T × List Int32 × List ru_T × List Int32 × List dr_T × List wi_T
def s_td (s : st_T) : Nat := s.1.1
def s_sd (s : st_T) : Nat := s.1.2.1
def s_fp (s : st_T) : Option Nat := s.1.2.2.1
def s_cr (s : st_T) : Nat := s.1.2.2.2
def s_hs (s : st_T) : List (Nat × Nat) := s.2.1
def s_ls (s : st_T) : List li_T := s.2.2.1
def s_tp (s : st_T) : List Int32 := s.2.2.2.1
def s_rs (s : st_T) : List ru_T := s.2.2.2.2.1
def s_ns (s : st_T) : List Int32 := s.2.2.2.2.2.1
def s_ds (s : st_T) : List dr_T := s.2.2.2.2.2.2.1
def s_ws (s : st_T) : List wi_T := s.2.2.2.2.2.2.2
def w_td (s : st_T) (x : Nat) : st_T := ((x, s.1.2), s.2)
def w_sd (s : st_T) (x : Nat) : st_T := ((s.1.1, x, s.1.2.2), s.2)
def w_fp (s : st_T) (x : Option Nat) : st_T := ((s.1.1, s.1.2.1, x, s.1.2.2.2), s.2)
def w_cr (s : st_T) (x : Nat) : st_T := ((s.1.1, s.1.2.1, s.1.2.2.1, x), s.2)
def w_hs (s : st_T) (x : List (Nat × Nat)) : st_T := (s.1, x, s.2.2)
def w_ls (s : st_T) (x : List li_T) : st_T := (s.1, s.2.1, x, s.2.2.2)
def w_tp (s : st_T) (x : List Int32) : st_T := (s.1, s.2.1, s.2.2.1, x, s.2.2.2.2)
def w_rs (s : st_T) (x : List ru_T) : st_T := (s.1, s.2.1, s.2.2.1, s.2.2.2.1, x, s.2.2.2.2.2)
def w_ns (s : st_T) (x : List Int32) : st_T := (s.1, s.2.1, s.2.2.1, s.2.2.2.1, s.2.2.2.2.1, x, s.2.2.2.2.2.2)
def w_ds (s : st_T) (x : List dr_T) : st_T := (s.1, s.2.1, s.2.2.1, s.2.2.2.1, s.2.2.2.2.1, s.2.2.2.2.2.1, x, s.2.2.2.2.2.2.2)
def w_ws (s : st_T) (x : List wi_T) : st_T := (s.1, s.2.1, s.2.2.1, s.2.2.2.1, s.2.2.2.2.1, s.2.2.2.2.2.1, s.2.2.2.2.2.2.1, x)
/-! the reference holds a state -/
def MS (S : hs_T) (m : Nat) (td sd : Nat) (fp : Option Nat) (cr : Nat) : Prop := (hs_I S m 2 = nI td ∧ hs_I S m 3 = nI sd ∧ hs_I S m 17 = eN fp ∧ hs_J S m 34 = lN cr) ∧ td ≤ 100000 ∧ sd ≤ 1000000000 ∧ (∀ d, fp = some d → d ≤ 100000)
def MH (S : hs_T) (m : Nat) (ad : Nat → Nat) (hs : List (Nat × Nat)) : Prop := hs_I S m 1 = nI hs.length ∧ hs.length ≤ 60 ∧ ∀ j, j < 60 → hs_I S (ad 4) j = nI (hs.getD j (0, 0)).1 ∧ hs_J S (ad 5) j = lN (hs.getD j (0, 0)).2 ∧ (hs.getD j (0, 0)).1 ≤ 1
def MT (S : hs_T) (m : Nat) (ad : Nat → Nat) (tp : List Int32) : Prop := hs_I S m 13 = nI tp.length ∧ tp.length ≤ 400 ∧ ∀ j, j < tp.length → hs_I S (ad 12) j = tp.getD j 0
def MR (S : hs_T) (m : Nat) (ad : Nat → Nat) (rs : List ru_T) : Prop := hs_I S m 23 = nI rs.length ∧ rs.length ≤ 20 ∧ ∀ j, j < rs.length → ((rs.getD j (0, [])).1 ≤ 100000 ∧ (rs.getD j (0, [])).2.length ≤ 10) ∧ hs_I S (ad 18) j = nI (rs.getD j (0, [])).1 ∧ hs_I S (ad 19) j = nI (rs.getD j (0, [])).2.length ∧ ∀ c, c < (rs.getD j (0, [])).2.length → hs_I S (ad 20) (10 * j + c) = nI ((rs.getD j (0, [])).2.getD c (0, 0, 0)).1 ∧ hs_I S (ad 21) (10 * j + c) = nI ((rs.getD j (0, [])).2.getD c (0, 0, 0)).2.1 ∧ (((rs.getD j (0, [])).2.getD c (0, 0, 0)).1 ≠ 1 → hs_I S (ad 22) (10 * j + c) = nI ((rs.getD j (0, [])).2.getD c (0, 0, 0)).2.2)
def MN (S : hs_T) (m : Nat) (ad : Nat → Nat) (ns : List Int32) : Prop := hs_I S m 25 = nI ns.length ∧ ns.length ≤ 20 ∧ ∀ j, j < ns.length → hs_I S (ad 24) j = ns.getD j 0
def MD (S : hs_T) (m : Nat) (ad : Nat → Nat) (ds : List dr_T) : Prop := hs_I S m 27 = nI ds.length ∧ ds.length ≤ 40 ∧ ∀ j, j < ds.length → ∀ w, w < 9 → hs_J S (ad 26) (9 * j + w) = ds.getD j (fun _ => 0) w
def MW (S : hs_T) (m : Nat) (ad : Nat → Nat) (ws : List wi_T) : Prop := hs_I S m 33 = nI ws.length ∧ ws.length ≤ 2000 ∧ ∀ j, j < ws.length → hs_I S (ad 28) j = nI (ws.getD j (0, 0, 0, 0, 0, 0)).1 ∧ hs_I S (ad 29) j = nI (ws.getD j (0, 0, 0, 0, 0, 0)).2.2.1 ∧ hs_I S (ad 30) j = nI (ws.getD j (0, 0, 0, 0, 0, 0)).2.2.2.1 ∧ hs_I S (ad 31) j = nI (ws.getD j (0, 0, 0, 0, 0, 0)).2.2.2.2.1 ∧ hs_I S (ad 32) j = nI (ws.getD j (0, 0, 0, 0, 0, 0)).2.2.2.2.2
def RM (S : hs_T) (m : Nat) (ad : Nat → Nat) (s : st_T) : Prop := MB S m ad ∧ MS S m (s_td s) (s_sd s) (s_fp s) (s_cr s) ∧ MH S m ad (s_hs s) ∧ ML S m ad (s_ls s) ∧ MT S m ad (s_tp s) ∧ MR S m ad (s_rs s) ∧ MN S m ad (s_ns s) ∧ MD S m ad (s_ds s) ∧ MW S m ad (s_ws s)
/-- what the reference leaves alone -/
def MF (S S' : hs_T) (m : Nat) (ad : Nat → Nat) : Prop := (hs_L S' = hs_L S ∧ hs_K S' = hs_K S ∧ hs_N S' = hs_N S ∧ hs_R S' = hs_R S) ∧ ∀ x, x ≠ m → (∀ q ∈ mb_T, x ≠ ad q.1) → hs_I S' x = hs_I S x ∧ hs_J S' x = hs_J S x
theorem MF_rf (S : hs_T) (m : Nat) (ad : Nat → Nat) : MF S S m ad := ⟨⟨rfl, rfl, rfl, rfl⟩, fun _ _ _ => ⟨rfl, rfl⟩⟩
theorem MF_tr {S S1 S2 : hs_T} {m : Nat} {ad : Nat → Nat} (h1 : MF S S1 m ad) (h2 : MF S1 S2 m ad) : MF S S2 m ad := ⟨⟨h2.1.1.trans h1.1.1, h2.1.2.1.trans h1.1.2.1, h2.1.2.2.1.trans h1.1.2.2.1, h2.1.2.2.2.trans h1.1.2.2.2⟩, fun x hx hw => ⟨(h2.2 x hx hw).1.trans (h1.2 x hx hw).1, (h2.2 x hx hw).2.trans (h1.2 x hx hw).2⟩⟩
theorem MF_mI {S S1 : hs_T} {m : Nat} {ad : Nat → Nat} (h : MF S S1 m ad) (i : Nat) (v : Int32) : MF S (hs_sI S1 m i v) m ad := MF_tr h ⟨⟨rfl, rfl, rfl, rfl⟩, fun x hx _ => ⟨hs_u_off _ _ _ hx, rfl⟩⟩
theorem MF_mJ {S S1 : hs_T} {m : Nat} {ad : Nat → Nat} (h : MF S S1 m ad) (i : Nat) (v : Int64) : MF S (hs_sJ S1 m i v) m ad := MF_tr h ⟨⟨rfl, rfl, rfl, rfl⟩, fun x hx _ => ⟨rfl, hs_u_off _ _ _ hx⟩⟩
theorem MF_aI {S S1 : hs_T} {m : Nat} {ad : Nat → Nat} (h : MF S S1 m ad) (a : Nat) (ha : ∃ q ∈ mb_T, q.1 = a) (i : Nat) (v : Int32) : MF S (hs_sI S1 (ad a) i v) m ad := MF_tr h ⟨⟨rfl, rfl, rfl, rfl⟩, fun x _ hw => by
  obtain ⟨q, hq, rfl⟩ := ha
  exact ⟨hs_u_off _ _ _ (hw q hq), rfl⟩⟩
theorem MF_aJ {S S1 : hs_T} {m : Nat} {ad : Nat → Nat} (h : MF S S1 m ad) (a : Nat) (ha : ∃ q ∈ mb_T, q.1 = a) (i : Nat) (v : Int64) : MF S (hs_sJ S1 (ad a) i v) m ad := MF_tr h ⟨⟨rfl, rfl, rfl, rfl⟩, fun x _ hw => by
  obtain ⟨q, hq, rfl⟩ := ha
  exact ⟨rfl, hs_u_off _ _ _ (hw q hq)⟩⟩
theorem MS_mI {S : hs_T} {m : Nat} {ad : Nat → Nat} (hA : AD m ad) {td sd : Nat} {fp : Option Nat} {cr : Nat} (h : MS S m td sd fp cr) (i : Nat) (x : Int32) (hi : i ≠ 2 ∧ i ≠ 3 ∧ i ≠ 17) : MS (hs_sI S m i x) m td sd fp cr := by
  unfold MS at h ⊢
  simp only [mI_sm hA, mI_mm, hs_J_sI]
  simpa [Ne.symm hi.1, Ne.symm hi.2.1, Ne.symm hi.2.2] using h
theorem MS_mJ {S : hs_T} {m : Nat} {ad : Nat → Nat} (hA : AD m ad) {td sd : Nat} {fp : Option Nat} {cr : Nat} (h : MS S m td sd fp cr) (i : Nat) (x : Int64) (hi : i ≠ 34) : MS (hs_sJ S m i x) m td sd fp cr := by
  unfold MS at h ⊢
  simp only [mJ_sm hA, mJ_mm, hs_I_sJ]
  simpa [Ne.symm hi] using h
theorem MS_aI {S : hs_T} {m : Nat} {ad : Nat → Nat} (hA : AD m ad) {td sd : Nat} {fp : Option Nat} {cr : Nat} (h : MS S m td sd fp cr) (a i : Nat) (x : Int32) (hi : True) : MS (hs_sI S (ad a) i x) m td sd fp cr := by
  unfold MS at h ⊢
  simp only [mI_sa hA, mI_aa hA, hs_J_sI]
  simpa using h
theorem MS_aJ {S : hs_T} {m : Nat} {ad : Nat → Nat} (hA : AD m ad) {td sd : Nat} {fp : Option Nat} {cr : Nat} (h : MS S m td sd fp cr) (a i : Nat) (x : Int64) (hi : True) : MS (hs_sJ S (ad a) i x) m td sd fp cr := by
  unfold MS at h ⊢
  simp only [mJ_sa hA, mJ_aa hA, hs_I_sJ]
  simpa using h
theorem MH_mI {S : hs_T} {m : Nat} {ad : Nat → Nat} (hA : AD m ad) {hs : List (Nat × Nat)} (h : MH S m ad hs) (i : Nat) (x : Int32) (hi : i ≠ 1) : MH (hs_sI S m i x) m ad hs := by
  unfold MH at h ⊢
  simp only [mI_sm hA, mI_mm, hs_J_sI]
  simpa [Ne.symm hi] using h
theorem MH_mJ {S : hs_T} {m : Nat} {ad : Nat → Nat} (hA : AD m ad) {hs : List (Nat × Nat)} (h : MH S m ad hs) (i : Nat) (x : Int64) (hi : True) : MH (hs_sJ S m i x) m ad hs := by
  unfold MH at h ⊢
  simp only [mJ_sm hA, mJ_mm, hs_I_sJ]
  simpa using h
theorem MH_aI {S : hs_T} {m : Nat} {ad : Nat → Nat} (hA : AD m ad) {hs : List (Nat × Nat)} (h : MH S m ad hs) (a i : Nat) (x : Int32) (hi : a ≠ 4) : MH (hs_sI S (ad a) i x) m ad hs := by
  unfold MH at h ⊢
  simp only [mI_sa hA, mI_aa hA, hs_J_sI]
  simpa [Ne.symm (hi)] using h
theorem MH_aJ {S : hs_T} {m : Nat} {ad : Nat → Nat} (hA : AD m ad) {hs : List (Nat × Nat)} (h : MH S m ad hs) (a i : Nat) (x : Int64) (hi : a ≠ 5) : MH (hs_sJ S (ad a) i x) m ad hs := by
  unfold MH at h ⊢
  simp only [mJ_sa hA, mJ_aa hA, hs_I_sJ]
  simpa [Ne.symm hi] using h
theorem ML_mI {S : hs_T} {m : Nat} {ad : Nat → Nat} (hA : AD m ad) {ls : List li_T} (h : ML S m ad ls) (i : Nat) (x : Int32) (hi : i ≠ 11) : ML (hs_sI S m i x) m ad ls := by
  unfold ML at h ⊢
  simp only [mI_sm hA, mI_mm, hs_J_sI]
  simpa [Ne.symm hi] using h
theorem ML_mJ {S : hs_T} {m : Nat} {ad : Nat → Nat} (hA : AD m ad) {ls : List li_T} (h : ML S m ad ls) (i : Nat) (x : Int64) (hi : True) : ML (hs_sJ S m i x) m ad ls := by
  unfold ML at h ⊢
  simp only [mJ_sm hA, mJ_mm, hs_I_sJ]
  simpa using h
theorem ML_aI {S : hs_T} {m : Nat} {ad : Nat → Nat} (hA : AD m ad) {ls : List li_T} (h : ML S m ad ls) (a i : Nat) (x : Int32) (hi : a ≠ 6 ∧ a ≠ 7 ∧ a ≠ 8 ∧ a ≠ 9 ∧ a ≠ 10) : ML (hs_sI S (ad a) i x) m ad ls := by
  unfold ML at h ⊢
  simp only [mI_sa hA, mI_aa hA, hs_J_sI]
  simpa [Ne.symm (hi.1), Ne.symm (hi.2.1), Ne.symm (hi.2.2.1), Ne.symm (hi.2.2.2.1), Ne.symm (hi.2.2.2.2)] using h
theorem ML_aJ {S : hs_T} {m : Nat} {ad : Nat → Nat} (hA : AD m ad) {ls : List li_T} (h : ML S m ad ls) (a i : Nat) (x : Int64) (hi : True) : ML (hs_sJ S (ad a) i x) m ad ls := by
  unfold ML at h ⊢
  simp only [mJ_sa hA, mJ_aa hA, hs_I_sJ]
  simpa using h
theorem MT_mI {S : hs_T} {m : Nat} {ad : Nat → Nat} (hA : AD m ad) {tp : List Int32} (h : MT S m ad tp) (i : Nat) (x : Int32) (hi : i ≠ 13) : MT (hs_sI S m i x) m ad tp := by
  unfold MT at h ⊢
  simp only [mI_sm hA, mI_mm, hs_J_sI]
  simpa [Ne.symm hi] using h
theorem MT_mJ {S : hs_T} {m : Nat} {ad : Nat → Nat} (hA : AD m ad) {tp : List Int32} (h : MT S m ad tp) (i : Nat) (x : Int64) (hi : True) : MT (hs_sJ S m i x) m ad tp := by
  unfold MT at h ⊢
  simp only [mJ_sm hA, mJ_mm, hs_I_sJ]
  simpa using h
theorem MT_aI {S : hs_T} {m : Nat} {ad : Nat → Nat} (hA : AD m ad) {tp : List Int32} (h : MT S m ad tp) (a i : Nat) (x : Int32) (hi : a ≠ 12) : MT (hs_sI S (ad a) i x) m ad tp := by
  unfold MT at h ⊢
  simp only [mI_sa hA, mI_aa hA, hs_J_sI]
  simpa [Ne.symm (hi)] using h
theorem MT_aJ {S : hs_T} {m : Nat} {ad : Nat → Nat} (hA : AD m ad) {tp : List Int32} (h : MT S m ad tp) (a i : Nat) (x : Int64) (hi : True) : MT (hs_sJ S (ad a) i x) m ad tp := by
  unfold MT at h ⊢
  simp only [mJ_sa hA, mJ_aa hA, hs_I_sJ]
  simpa using h
theorem MR_mI {S : hs_T} {m : Nat} {ad : Nat → Nat} (hA : AD m ad) {rs : List ru_T} (h : MR S m ad rs) (i : Nat) (x : Int32) (hi : i ≠ 23) : MR (hs_sI S m i x) m ad rs := by
  unfold MR at h ⊢
  simp only [mI_sm hA, mI_mm, hs_J_sI]
  simpa [Ne.symm hi] using h
theorem MR_mJ {S : hs_T} {m : Nat} {ad : Nat → Nat} (hA : AD m ad) {rs : List ru_T} (h : MR S m ad rs) (i : Nat) (x : Int64) (hi : True) : MR (hs_sJ S m i x) m ad rs := by
  unfold MR at h ⊢
  simp only [mJ_sm hA, mJ_mm, hs_I_sJ]
  simpa using h
theorem MR_aI {S : hs_T} {m : Nat} {ad : Nat → Nat} (hA : AD m ad) {rs : List ru_T} (h : MR S m ad rs) (a i : Nat) (x : Int32) (hi : a ≠ 18 ∧ a ≠ 19 ∧ a ≠ 20 ∧ a ≠ 21 ∧ a ≠ 22) : MR (hs_sI S (ad a) i x) m ad rs := by
  unfold MR at h ⊢
  simp only [mI_sa hA, mI_aa hA, hs_J_sI]
  simpa [Ne.symm (hi.1), Ne.symm (hi.2.1), Ne.symm (hi.2.2.1), Ne.symm (hi.2.2.2.1), Ne.symm (hi.2.2.2.2)] using h
theorem MR_aJ {S : hs_T} {m : Nat} {ad : Nat → Nat} (hA : AD m ad) {rs : List ru_T} (h : MR S m ad rs) (a i : Nat) (x : Int64) (hi : True) : MR (hs_sJ S (ad a) i x) m ad rs := by
  unfold MR at h ⊢
  simp only [mJ_sa hA, mJ_aa hA, hs_I_sJ]
  simpa using h
theorem MN_mI {S : hs_T} {m : Nat} {ad : Nat → Nat} (hA : AD m ad) {ns : List Int32} (h : MN S m ad ns) (i : Nat) (x : Int32) (hi : i ≠ 25) : MN (hs_sI S m i x) m ad ns := by
  unfold MN at h ⊢
  simp only [mI_sm hA, mI_mm, hs_J_sI]
  simpa [Ne.symm hi] using h
theorem MN_mJ {S : hs_T} {m : Nat} {ad : Nat → Nat} (hA : AD m ad) {ns : List Int32} (h : MN S m ad ns) (i : Nat) (x : Int64) (hi : True) : MN (hs_sJ S m i x) m ad ns := by
  unfold MN at h ⊢
  simp only [mJ_sm hA, mJ_mm, hs_I_sJ]
  simpa using h
theorem MN_aI {S : hs_T} {m : Nat} {ad : Nat → Nat} (hA : AD m ad) {ns : List Int32} (h : MN S m ad ns) (a i : Nat) (x : Int32) (hi : a ≠ 24) : MN (hs_sI S (ad a) i x) m ad ns := by
  unfold MN at h ⊢
  simp only [mI_sa hA, mI_aa hA, hs_J_sI]
  simpa [Ne.symm (hi)] using h
theorem MN_aJ {S : hs_T} {m : Nat} {ad : Nat → Nat} (hA : AD m ad) {ns : List Int32} (h : MN S m ad ns) (a i : Nat) (x : Int64) (hi : True) : MN (hs_sJ S (ad a) i x) m ad ns := by
  unfold MN at h ⊢
  simp only [mJ_sa hA, mJ_aa hA, hs_I_sJ]
  simpa using h
theorem MD_mI {S : hs_T} {m : Nat} {ad : Nat → Nat} (hA : AD m ad) {ds : List dr_T} (h : MD S m ad ds) (i : Nat) (x : Int32) (hi : i ≠ 27) : MD (hs_sI S m i x) m ad ds := by
  unfold MD at h ⊢
  simp only [mI_sm hA, mI_mm, hs_J_sI]
  simpa [Ne.symm hi] using h
theorem MD_mJ {S : hs_T} {m : Nat} {ad : Nat → Nat} (hA : AD m ad) {ds : List dr_T} (h : MD S m ad ds) (i : Nat) (x : Int64) (hi : True) : MD (hs_sJ S m i x) m ad ds := by
  unfold MD at h ⊢
  simp only [mJ_sm hA, mJ_mm, hs_I_sJ]
  simpa using h
theorem MD_aI {S : hs_T} {m : Nat} {ad : Nat → Nat} (hA : AD m ad) {ds : List dr_T} (h : MD S m ad ds) (a i : Nat) (x : Int32) (hi : True) : MD (hs_sI S (ad a) i x) m ad ds := by
  unfold MD at h ⊢
  simp only [mI_sa hA, mI_aa hA, hs_J_sI]
  simpa using h
theorem MD_aJ {S : hs_T} {m : Nat} {ad : Nat → Nat} (hA : AD m ad) {ds : List dr_T} (h : MD S m ad ds) (a i : Nat) (x : Int64) (hi : a ≠ 26) : MD (hs_sJ S (ad a) i x) m ad ds := by
  unfold MD at h ⊢
  simp only [mJ_sa hA, mJ_aa hA, hs_I_sJ]
  simpa [Ne.symm hi] using h
theorem MW_mI {S : hs_T} {m : Nat} {ad : Nat → Nat} (hA : AD m ad) {ws : List wi_T} (h : MW S m ad ws) (i : Nat) (x : Int32) (hi : i ≠ 33) : MW (hs_sI S m i x) m ad ws := by
  unfold MW at h ⊢
  simp only [mI_sm hA, mI_mm, hs_J_sI]
  simpa [Ne.symm hi] using h
theorem MW_mJ {S : hs_T} {m : Nat} {ad : Nat → Nat} (hA : AD m ad) {ws : List wi_T} (h : MW S m ad ws) (i : Nat) (x : Int64) (hi : True) : MW (hs_sJ S m i x) m ad ws := by
  unfold MW at h ⊢
  simp only [mJ_sm hA, mJ_mm, hs_I_sJ]
  simpa using h
theorem MW_aI {S : hs_T} {m : Nat} {ad : Nat → Nat} (hA : AD m ad) {ws : List wi_T} (h : MW S m ad ws) (a i : Nat) (x : Int32) (hi : a ≠ 28 ∧ a ≠ 29 ∧ a ≠ 30 ∧ a ≠ 31 ∧ a ≠ 32) : MW (hs_sI S (ad a) i x) m ad ws := by
  unfold MW at h ⊢
  simp only [mI_sa hA, mI_aa hA, hs_J_sI]
  simpa [Ne.symm (hi.1), Ne.symm (hi.2.1), Ne.symm (hi.2.2.1), Ne.symm (hi.2.2.2.1), Ne.symm (hi.2.2.2.2)] using h
theorem MW_aJ {S : hs_T} {m : Nat} {ad : Nat → Nat} (hA : AD m ad) {ws : List wi_T} (h : MW S m ad ws) (a i : Nat) (x : Int64) (hi : True) : MW (hs_sJ S (ad a) i x) m ad ws := by
  unfold MW at h ⊢
  simp only [mJ_sa hA, mJ_aa hA, hs_I_sJ]
  simpa using h
theorem RM_mI {S : hs_T} {m : Nat} {ad : Nat → Nat} {s : st_T} (h : RM S m ad s) (i : Nat) (x : Int32) (hi : i ≠ 2 ∧ i ≠ 3 ∧ i ≠ 17 ∧ i ≠ 1 ∧ i ≠ 11 ∧ i ≠ 13 ∧ i ≠ 23 ∧ i ≠ 25 ∧ i ≠ 27 ∧ i ≠ 33) : RM (hs_sI S m i x) m ad s := by
  obtain ⟨hB, h1, h2, h3, h4, h5, h6, h7, h8⟩ := h
  exact ⟨hB, MS_mI hB.2.2 h1 i x ⟨hi.1, hi.2.1, hi.2.2.1⟩, MH_mI hB.2.2 h2 i x hi.2.2.2.1, ML_mI hB.2.2 h3 i x hi.2.2.2.2.1, MT_mI hB.2.2 h4 i x hi.2.2.2.2.2.1, MR_mI hB.2.2 h5 i x hi.2.2.2.2.2.2.1, MN_mI hB.2.2 h6 i x hi.2.2.2.2.2.2.2.1, MD_mI hB.2.2 h7 i x hi.2.2.2.2.2.2.2.2.1, MW_mI hB.2.2 h8 i x hi.2.2.2.2.2.2.2.2.2⟩
/-- an answer of the reference: its code, its value, the state behind it -/
def mp (S : hs_T) (m : Nat) (ad : Nat → Nat) (n k : Nat) (sp : Nat × Value × st_T) : ex_R := fun r S' n' k' => r = .inl (some sp.2.1) ∧ hs_I S' m 0 = nI sp.1 ∧ RM S' m ad sp.2.2 ∧ MF S S' m ad ∧ n' = n ∧ k' = k
