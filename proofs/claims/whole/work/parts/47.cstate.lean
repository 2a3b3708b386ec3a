/-! the class: what changes between two heaps, by kinds and slots -/
abbrev ck_D (dk ds : List Nat) (k o : Nat) : Prop := k ∈ dk ∨ ((k = 0 ∨ k = 15 ∨ k = 11 ∨ k = 12) ∧ o ∈ ds)
def CK (ow ow' : Nat → Nat) (dk ds : List Nat) (S S' : hs_T) : Prop := (∀ y, y ∈ hs_L S → y ∈ hs_L S' ∧ hs_K S' y = hs_K S y ∧ hs_N S' y = hs_N S y ∧ ow' y = ow y) ∧ (∀ y, y ∈ hs_L S → ¬ ck_D dk ds (hs_K S y) (ow y) → hs_I S' y = hs_I S y ∧ hs_J S' y = hs_J S y ∧ hs_R S' y = hs_R S y) ∧ ∀ y, y ∈ hs_L S → hs_K S y = 9 ∨ hs_K S y = 4 ∨ hs_K S y = 6 → hs_R S' y = hs_R S y
theorem CK_rf (ow : Nat → Nat) (dk ds : List Nat) (S : hs_T) : CK ow ow dk ds S S := ⟨fun y h => ⟨h, rfl, rfl, rfl⟩, fun y h _ => ⟨rfl, rfl, rfl⟩, fun y h _ => rfl⟩
theorem CK_tr {ow ow1 ow2 : Nat → Nat} {dk ds : List Nat} {S S1 S2 : hs_T} (h1 : CK ow ow1 dk ds S S1) (h2 : CK ow1 ow2 dk ds S1 S2) : CK ow ow2 dk ds S S2 := by
  refine ⟨fun y hy => ?_, fun y hy hd => ?_, fun y hy hk => ?_⟩
  · obtain ⟨a1, a2, a3, a4⟩ := h1.1 y hy
    obtain ⟨b1, b2, b3, b4⟩ := h2.1 y a1
    exact ⟨b1, b2.trans a2, b3.trans a3, b4.trans a4⟩
  · obtain ⟨a1, a2, a3, a4⟩ := h1.1 y hy
    obtain ⟨c1, c2, c3⟩ := h1.2.1 y hy hd
    obtain ⟨d1, d2, d3⟩ := h2.2.1 y a1 (by rw [a2, a4]; exact hd)
    exact ⟨d1.trans c1, d2.trans c2, d3.trans c3⟩
  · obtain ⟨a1, a2, a3, a4⟩ := h1.1 y hy
    exact (h2.2.2 y a1 (by rw [a2]; exact hk)).trans (h1.2.2 y hy hk)
theorem CK_mono {ow ow' : Nat → Nat} {dk ds dk' ds' : List Nat} {S S' : hs_T} (h : CK ow ow' dk ds S S') (hk : ∀ x ∈ dk, x ∈ dk') (hs : ∀ x ∈ ds, x ∈ ds') : CK ow ow' dk' ds' S S' := ⟨h.1, fun y hy hd => h.2.1 y hy (fun z => hd (z.elim (fun z => Or.inl (hk _ z)) (fun z => Or.inr ⟨z.1, hs _ z.2⟩))), h.2.2⟩
theorem CK_sI (ow : Nat → Nat) (S : hs_T) (a i : Nat) (v : Int32) : CK ow ow [hs_K S a] [] S (hs_sI S a i v) := ⟨fun y h => ⟨h, rfl, rfl, rfl⟩, fun y h hd => ⟨hs_u_off _ _ _ (fun z => hd (Or.inl (by rw [z]; exact List.mem_cons_self))), rfl, rfl⟩, fun y h _ => rfl⟩
theorem CK_sJ (ow : Nat → Nat) (S : hs_T) (a i : Nat) (v : Int64) : CK ow ow [hs_K S a] [] S (hs_sJ S a i v) := ⟨fun y h => ⟨h, rfl, rfl, rfl⟩, fun y h hd => ⟨rfl, hs_u_off _ _ _ (fun z => hd (Or.inl (by rw [z]; exact List.mem_cons_self))), rfl⟩, fun y h _ => rfl⟩
theorem CK_aI (ow : Nat → Nat) {S : hs_T} {a : Nat} (i : Nat) (v : Int32) (hk : hs_K S a = 11 ∨ hs_K S a = 12) : CK ow ow [] [ow a] S (hs_sI S a i v) := ⟨fun y h => ⟨h, rfl, rfl, rfl⟩, fun y h hd => ⟨hs_u_off _ _ _ (fun z => hd (Or.inr ⟨by rw [z]; rcases hk with h | h <;> simp [h], by rw [z]; exact List.mem_cons_self⟩)), rfl, rfl⟩, fun y h _ => rfl⟩
theorem CK_new (ow : Nat → Nat) {S : hs_T} {q : Nat} (kd N o : Nat) (hq : q ∉ hs_L S) : CK ow (va_up ow q o) [] [] S (hs_new S q kd N) := by
  refine ⟨fun y hy => ?_, fun y hy _ => ?_, fun y hy _ => ?_⟩
  · obtain ⟨a1, a2, a3, _⟩ := hs_new_o kd N hq hy
    exact ⟨a1, a2, a3, by simp [va_up, show y ≠ q from fun z => hq (z ▸ hy)]⟩
  · exact (hs_new_o kd N hq hy).2.2.2
  · exact (hs_new_o kd N hq hy).2.2.2.2.2
/-- a list of the class: its slot, who holds it -/
def CL (g : gl_T) (S : hs_T) (ow : Nat → Nat) (sl b fi kd c : Nat) (xs : List Nat) : Prop := ∃ a e, hs_R S b fi = some a ∧ al_at g S a e c kd xs ∧ ow a = sl ∧ (c ≠ 0 → ow e = sl)
theorem al_ck {g : gl_T} {S S' : hs_T} {ow ow' : Nat → Nat} {dk ds : List Nat} {a e c kd sl : Nat} {xs : List Nat} (h : al_at g S a e c kd xs) (ha : ow a = sl) (he : c ≠ 0 → ow e = sl) (hC : CK ow ow' dk ds S S') (h0 : 0 ∉ dk) (h15 : 15 ∉ dk) (hs : sl ∉ ds) : al_at g S' a e c kd xs ∧ ow' a = sl ∧ (c ≠ 0 → ow' e = sl) := by
  obtain ⟨⟨h1, h2, h3, h4⟩, h5, h6, h7, h8⟩ := h
  have na : ¬ ck_D dk ds (hs_K S a) (ow a) := by
    rw [h2, ha]; rintro (z | z)
    · exact h0 z
    · exact hs z.2
  obtain ⟨a1, a2, a3, a4⟩ := hC.1 a h1
  obtain ⟨i1, i2, i3⟩ := hC.2.1 a h1 na
  refine ⟨⟨⟨a1, a2.trans h2, by rw [i3]; exact h3, by rw [i1]; exact h4⟩, h5, ?_, ?_, fun x hx => ?_⟩, a4.trans ha, fun hc => ?_⟩
  · rcases h6 with ⟨e1, e2, e3, e4⟩ | z
    · obtain ⟨b1, b2, b3, b4⟩ := hC.1 e e1
      exact Or.inl ⟨b1, b2.trans e2, b3.trans e3, e4⟩
    · exact Or.inr z
  · intro i hi
    rcases h6 with ⟨e1, e2, e3, e4⟩ | z
    · have ne : ¬ ck_D dk ds (hs_K S e) (ow e) := by
        rw [e2, he (by omega)]; rintro (z | z)
        · exact h15 z
        · exact hs z.2
      rw [(hC.2.1 e e1 ne).2.2]; exact h7 i hi
    · omega
  · obtain ⟨x1, x2, x3⟩ := h8 x hx
    obtain ⟨b1, b2, _⟩ := hC.1 x x1
    exact ⟨b1, b2.trans x2, x3⟩
  · rcases h6 with ⟨e1, e2, e3, e4⟩ | z
    · exact (hC.1 e e1).2.2.2.trans (he hc)
    · exact absurd z.2 hc
theorem CL_ck {g : gl_T} {S S' : hs_T} {ow ow' : Nat → Nat} {dk ds : List Nat} {sl b fi kd c : Nat} {xs : List Nat} (h : CL g S ow sl b fi kd c xs) (hb : b ∈ hs_L S ∧ (hs_K S b = 9 ∨ hs_K S b = 4 ∨ hs_K S b = 6)) (hC : CK ow ow' dk ds S S') (h0 : 0 ∉ dk) (h15 : 15 ∉ dk) (hs : sl ∉ ds) : CL g S' ow' sl b fi kd c xs := by
  obtain ⟨a, e, h1, h2, h3, h4⟩ := h
  obtain ⟨k1, k2, k3⟩ := al_ck h2 h3 h4 hC h0 h15 hs
  exact ⟨a, e, by rw [hC.2.2 b hb.1 hb.2]; exact h1, k1, k2, k3⟩
/-- a list's operation -/
theorem CK_al {g : gl_T} {S S' : hs_T} {ow : Nat → Nat} {a e e' c c' kd sl n n' k k' : Nat} {xs xs' : List Nat} (h : al_at g S a e c kd xs) (ha : ow a = sl) (he : c ≠ 0 → ow e = sl) (hE : g.2.2.2.2 1 ∉ hs_L S) (hf : hs_fr S S' [a, e]) (hp : al_at g S' a e' c' kd xs') (he' : e' = e ∨ e' ∉ hs_L S) (hc : c ≤ c') (hsz : xs.length ≤ xs'.length ∨ c ≠ 0) : ∃ ow', CK ow ow' [] [sl] S S' ∧ ow' a = sl ∧ (c' ≠ 0 → ow' e' = sl) := by
  obtain ⟨⟨h1, h2, h3, h4⟩, h5, h6, h7, h8⟩ := h
  have key : ∀ ow', (∀ y, y ∈ hs_L S → ow' y = ow y) → CK ow ow' [] [sl] S S' := by
    intro ow' how
    refine ⟨fun y hy => ⟨(hf.1 y hy).1, (hf.1 y hy).2.1, (hf.1 y hy).2.2, how y hy⟩, fun y hy hd => hf.2 y hy ?_, fun y hy hk => (hf.2 y hy ?_).2.2⟩
    · intro z
      rcases List.mem_cons.mp z with z | z
      · subst z; exact hd (Or.inr ⟨Or.inl h2, by rw [ha]; exact List.mem_cons_self⟩)
      · have z := List.mem_singleton.mp z
        subst z
        rcases h6 with ⟨e1, e2, e3, e4⟩ | ⟨q1, q2⟩
        · exact hd (Or.inr ⟨Or.inr (Or.inl e2), by rw [he (by omega)]; exact List.mem_cons_self⟩)
        · exact hE (q1 ▸ hy)
    · intro z
      rcases List.mem_cons.mp z with z | z
      · subst z; rw [h2] at hk; omega
      · have z := List.mem_singleton.mp z
        subst z
        rcases h6 with ⟨e1, e2, e3, e4⟩ | ⟨q1, q2⟩
        · rw [e2] at hk; omega
        · exact hE (q1 ▸ hy)
  by_cases hn : e' ∈ hs_L S
  · refine ⟨ow, key ow (fun _ _ => rfl), ha, fun _ => ?_⟩
    rcases he' with z | z
    · subst z
      rcases h6 with ⟨e1, e2, e3, e4⟩ | ⟨q1, q2⟩
      · exact he (by omega)
      · exact absurd (q1 ▸ hn) hE
    · exact absurd hn z
  · refine ⟨va_up ow e' sl, key _ (fun y hy => by simp [va_up, show y ≠ e' from fun z => hn (z ▸ hy)]), by simp [va_up, show a ≠ e' from fun z => hn (z ▸ h1), ha], fun _ => by simp [va_up]⟩
/-! the class holds a state -/
def CB (S : hs_T) (ow : Nat → Nat) (x l tp nz : Nat) : Prop := (x ∈ hs_L S ∧ hs_K S x = 9) ∧ (hs_R S x 1 = some l ∧ l ∈ hs_L S ∧ hs_K S l = 4) ∧ (hs_R S x 2 = some tp ∧ tp ∈ hs_L S ∧ hs_K S tp = 11 ∧ hs_N S tp = 400 ∧ ow tp = 6) ∧ (hs_R S x 6 = some nz ∧ nz ∈ hs_L S ∧ hs_K S nz = 12 ∧ hs_N S nz = 20 ∧ ow nz = 7)
def CS (S : hs_T) (x l : Nat) (td sd : Nat) (fp : Option Nat) (cr : Nat) : Prop := hs_I S x 11 = nI td ∧ hs_I S l 2 = nI sd ∧ hs_I S x 5 = eN fp ∧ hs_J S x 10 = lN cr
def CT (S : hs_T) (x tp : Nat) (t : List Int32) : Prop := hs_I S x 3 = nI t.length ∧ ∀ j, j < t.length → hs_I S tp j = t.getD j 0
def CN (S : hs_T) (x nz : Nat) (ns : List Int32) : Prop := hs_I S x 7 = nI ns.length ∧ ∀ j, j < ns.length → hs_I S nz j = ns.getD j 0
def CH (g : gl_T) (S : hs_T) (ow : Nat → Nat) (x c : Nat) (hs : List (Nat × Nat)) : Prop := ∃ as, CL g S ow 0 x 0 3 c as ∧ as.Nodup ∧ as.length = hs.length ∧ ∀ j, j < hs.length → hs_I S (as.getD j 0) 0 = nI (hd_at hs j).1 ∧ hs_J S (as.getD j 0) 1 = lN (hd_at hs j).2
def CLn (S : hs_T) (a : Nat) (q : li_T) : Prop := hs_I S a 0 = nI q.1 ∧ hs_I S a 1 = nI q.2.1 ∧ hs_I S a 2 = nI q.2.2.1 ∧ hs_I S a 3 = nI q.2.2.2.1 ∧ hs_I S a 4 = eN q.2.2.2.2
def CG (g : gl_T) (S : hs_T) (ow : Nat → Nat) (l c4 c5 : Nat) (ls : List li_T) (ys : List Nat) : Prop := ∃ la, CL g S ow 4 l 0 5 c4 la ∧ CL g S ow 5 l 1 5 c5 (ys.map (fun i => la.getD i 0)) ∧ la.Nodup ∧ la.length = ls.length ∧ (∀ j, j < ls.length → CLn S (la.getD j 0) (ln_at ls j)) ∧ GO ls ys
def CCl (g : gl_T) (S : hs_T) (a : Nat) (q : cl_T) : Prop := hs_R S a 0 = some (g.2.2.2.2 (3 + q.1)) ∧ hs_I S a 1 = nI q.2.1 ∧ hs_I S a 2 = nI q.2.2
def CR (g : gl_T) (S : hs_T) (ow : Nat → Nat) (x c : Nat) (rs : List ru_T) : Prop := ∃ ra, CL g S ow 1 x 4 6 c ra ∧ ra.length = rs.length ∧ ∀ j, j < rs.length → hs_I S (ra.getD j 0) 0 = nI (ru_at rs j).1 ∧ ∃ cc ca, CL g S ow (100 + j) (ra.getD j 0) 1 1 cc ca ∧ ca.length = (ru_at rs j).2.length ∧ ∀ i, i < ca.length → CCl g S (ca.getD i 0) (cl_at (ru_at rs j).2 i)
def CDr (S : hs_T) (a : Nat) (d : dr_T) : Prop := (hs_I S a 0).toInt64 = d 0 ∧ (hs_I S a 1).toInt64 = d 1 ∧ (hs_I S a 2).toInt64 = d 2 ∧ hs_J S a 3 = d 3 ∧ hs_J S a 4 = d 4 ∧ hs_J S a 5 = d 5 ∧ (hs_I S a 6).toInt64 = d 6 ∧ (if hs_I S a 6 = 0 then -1 else (hs_I S a 7).toInt64) = d 7 ∧ hs_J S a 8 = d 8
def CD (g : gl_T) (S : hs_T) (ow : Nat → Nat) (x c : Nat) (ds : List dr_T) : Prop := ∃ da, CL g S ow 2 x 8 2 c da ∧ da.length = ds.length ∧ ∀ j, j < ds.length → CDr S (da.getD j 0) (ds.getD j (fun _ => 0))
def CWn (S : hs_T) (a : Nat) (w : wi_T) : Prop := hs_I S a 0 = nI w.1 ∧ hs_I S a 1 = nI w.2.1 ∧ hs_I S a 2 = nI w.2.2.1 ∧ hs_I S a 3 = nI w.2.2.2.1 ∧ hs_I S a 4 = nI w.2.2.2.2.1 ∧ hs_I S a 5 = nI w.2.2.2.2.2
def CW (g : gl_T) (S : hs_T) (ow : Nat → Nat) (x c : Nat) (ws : List wi_T) : Prop := ∃ wa, CL g S ow 3 x 9 8 c wa ∧ wa.Nodup ∧ wa.length = ws.length ∧ ∀ j, j < ws.length → CWn S (wa.getD j 0) (wi_at ws j)
def RC (g : gl_T) (S : hs_T) (ow : Nat → Nat) (x l tp nz : Nat) (s : st_T) (ys : List Nat) (c : Nat → Nat) : Prop := CB S ow x l tp nz ∧ CS S x l (s_td s) (s_sd s) (s_fp s) (s_cr s) ∧ CH g S ow x (c 0) (s_hs s) ∧ CG g S ow l (c 4) (c 5) (s_ls s) ys ∧ CT S x tp (s_tp s) ∧ CR g S ow x (c 1) (s_rs s) ∧ CN S x nz (s_ns s) ∧ CD g S ow x (c 2) (s_ds s) ∧ CW g S ow x (c 3) (s_ws s)
theorem CL_el {g : gl_T} {S : hs_T} {ow : Nat → Nat} {sl b fi kd c : Nat} {xs : List Nat} (h : CL g S ow sl b fi kd c xs) {j : Nat} (hj : j < xs.length) : xs.getD j 0 ∈ hs_L S ∧ hs_K S (xs.getD j 0) = kd := by
  obtain ⟨a, e, h1, h2, h3, h4⟩ := h
  have : xs.getD j 0 ∈ xs := by rw [List.getD_eq_getElem?_getD, List.getElem?_eq_getElem hj]; exact List.getElem_mem hj
  exact ⟨(h2.2.2.2.2 _ this).1, (h2.2.2.2.2 _ this).2.1⟩
/-! what is clean stays -/
section CKS
variable {g : gl_T} {S S' : hs_T} {ow ow' : Nat → Nat} {dk ds : List Nat} {x l tp nz : Nat}
theorem ck_at (hC : CK ow ow' dk ds S S') {y k : Nat} (hy : y ∈ hs_L S) (hk : hs_K S y = k) (h0 : k ∉ dk) (h1 : k ≠ 0 ∧ k ≠ 15 ∧ k ≠ 11 ∧ k ≠ 12) : hs_I S' y = hs_I S y ∧ hs_J S' y = hs_J S y ∧ hs_R S' y = hs_R S y := hC.2.1 y hy (by
  rw [hk]; rintro (z | z)
  · exact h0 z
  · omega)
theorem ck_ar (hC : CK ow ow' dk ds S S') {y o : Nat} (hy : y ∈ hs_L S) (ho : ow y = o) (h0 : hs_K S y ∉ dk) (h1 : o ∉ ds) : hs_I S' y = hs_I S y ∧ hs_J S' y = hs_J S y ∧ hs_R S' y = hs_R S y := hC.2.1 y hy (by
  rw [ho]; rintro (z | z)
  · exact h0 z
  · exact h1 z.2)
theorem CB_ck (h : CB S ow x l tp nz) (hC : CK ow ow' dk ds S S') : CB S' ow' x l tp nz := by
  obtain ⟨⟨h1, h2⟩, ⟨h3, h4, h5⟩, ⟨h6, h7, h8, h9, h10⟩, ⟨h11, h12, h13, h14, h15⟩⟩ := h
  have hR := hC.2.2 x h1 (Or.inl h2)
  obtain ⟨a1, a2, a3, a4⟩ := hC.1 x h1
  obtain ⟨b1, b2, b3, b4⟩ := hC.1 l h4
  obtain ⟨c1, c2, c3, c4⟩ := hC.1 tp h7
  obtain ⟨d1, d2, d3, d4⟩ := hC.1 nz h12
  exact ⟨⟨a1, a2.trans h2⟩, ⟨by rw [hR]; exact h3, b1, b2.trans h5⟩, ⟨by rw [hR]; exact h6, c1, c2.trans h8, c3.trans h9, c4.trans h10⟩, ⟨by rw [hR]; exact h11, d1, d2.trans h13, d3.trans h14, d4.trans h15⟩⟩
theorem CS_ck (hB : CB S ow x l tp nz) {td sd : Nat} {fp : Option Nat} {cr : Nat} (h : CS S x l td sd fp cr) (hC : CK ow ow' dk ds S S') (h9 : 9 ∉ dk) (h4 : 4 ∉ dk) : CS S' x l td sd fp cr := by
  obtain ⟨a1, a2, a3⟩ := ck_at hC hB.1.1 hB.1.2 h9 (by decide)
  obtain ⟨b1, b2, b3⟩ := ck_at hC hB.2.1.2.1 hB.2.1.2.2 h4 (by decide)
  obtain ⟨c1, c2, c3, c4⟩ := h
  exact ⟨by rw [a1]; exact c1, by rw [b1]; exact c2, by rw [a1]; exact c3, by rw [a2]; exact c4⟩
theorem CT_ck (hB : CB S ow x l tp nz) {t : List Int32} (h : CT S x tp t) (hC : CK ow ow' dk ds S S') (h9 : 9 ∉ dk) (h11 : 11 ∉ dk) (h6 : 6 ∉ ds) : CT S' x tp t := by
  obtain ⟨a1, a2, a3⟩ := ck_at hC hB.1.1 hB.1.2 h9 (by decide)
  obtain ⟨b1, b2, b3⟩ := ck_ar hC hB.2.2.1.2.1 hB.2.2.1.2.2.2.2 (by rw [hB.2.2.1.2.2.1]; exact h11) h6
  exact ⟨by rw [a1]; exact h.1, fun j hj => by rw [b1]; exact h.2 j hj⟩
theorem CN_ck (hB : CB S ow x l tp nz) {t : List Int32} (h : CN S x nz t) (hC : CK ow ow' dk ds S S') (h9 : 9 ∉ dk) (h12 : 12 ∉ dk) (h7 : 7 ∉ ds) : CN S' x nz t := by
  obtain ⟨a1, a2, a3⟩ := ck_at hC hB.1.1 hB.1.2 h9 (by decide)
  obtain ⟨b1, b2, b3⟩ := ck_ar hC hB.2.2.2.2.1 hB.2.2.2.2.2.2.2 (by rw [hB.2.2.2.2.2.1]; exact h12) h7
  exact ⟨by rw [a1]; exact h.1, fun j hj => by rw [b1]; exact h.2 j hj⟩
theorem CH_ck (hB : CB S ow x l tp nz) {c : Nat} {hs : List (Nat × Nat)} (h : CH g S ow x c hs) (hC : CK ow ow' dk ds S S') (h0 : 0 ∉ dk) (h15 : 15 ∉ dk) (h3 : 3 ∉ dk) (hs0 : 0 ∉ ds) : CH g S' ow' x c hs := by
  obtain ⟨as, h1, h2, h4, h5⟩ := h
  refine ⟨as, CL_ck h1 ⟨hB.1.1, Or.inl hB.1.2⟩ hC h0 h15 hs0, h2, h4, fun j hj => ?_⟩
  obtain ⟨e1, e2⟩ := CL_el h1 (j := j) (by omega)
  obtain ⟨a1, a2, a3⟩ := ck_at hC e1 e2 h3 (by decide)
  rw [a1, a2]; exact h5 j hj
theorem CG_ck (hB : CB S ow x l tp nz) {c4 c5 : Nat} {ls : List li_T} {ys : List Nat} (h : CG g S ow l c4 c5 ls ys) (hC : CK ow ow' dk ds S S') (h0 : 0 ∉ dk) (h15 : 15 ∉ dk) (hk5 : 5 ∉ dk) (hs4 : 4 ∉ ds) (hs5 : 5 ∉ ds) : CG g S' ow' l c4 c5 ls ys := by
  obtain ⟨la, h1, h2, h3, h4, h5, h6⟩ := h
  refine ⟨la, CL_ck h1 ⟨hB.2.1.2.1, Or.inr (Or.inl hB.2.1.2.2)⟩ hC h0 h15 hs4, CL_ck h2 ⟨hB.2.1.2.1, Or.inr (Or.inl hB.2.1.2.2)⟩ hC h0 h15 hs5, h3, h4, fun j hj => ?_, h6⟩
  obtain ⟨e1, e2⟩ := CL_el h1 (j := j) (by omega)
  obtain ⟨a1, a2, a3⟩ := ck_at hC e1 e2 hk5 (by decide)
  unfold CLn; rw [a1]; exact h5 j hj
theorem CR_ck (hB : CB S ow x l tp nz) {c : Nat} {rs : List ru_T} (h : CR g S ow x c rs) (hC : CK ow ow' dk ds S S') (h0 : 0 ∉ dk) (h15 : 15 ∉ dk) (h6 : 6 ∉ dk) (h1k : 1 ∉ dk) (hs1 : 1 ∉ ds) (hs2 : ∀ j, 100 + j ∉ ds) : CR g S' ow' x c rs := by
  obtain ⟨ra, h1, h2, h3⟩ := h
  refine ⟨ra, CL_ck h1 ⟨hB.1.1, Or.inl hB.1.2⟩ hC h0 h15 hs1, h2, fun j hj => ?_⟩
  obtain ⟨e1, e2⟩ := CL_el h1 (j := j) (by omega)
  obtain ⟨a1, a2, a3⟩ := ck_at hC e1 e2 h6 (by decide)
  obtain ⟨f1, cc, ca, f2, f3, f4⟩ := h3 j hj
  refine ⟨by rw [a1]; exact f1, cc, ca, CL_ck f2 ⟨e1, Or.inr (Or.inr e2)⟩ hC h0 h15 (hs2 j), f3, fun i hi => ?_⟩
  obtain ⟨g1, g2⟩ := CL_el f2 hi
  obtain ⟨b1, b2, b3⟩ := ck_at hC g1 g2 h1k (by decide)
  unfold CCl; rw [b1, b3]; exact f4 i hi
theorem CD_ck (hB : CB S ow x l tp nz) {c : Nat} {d : List dr_T} (h : CD g S ow x c d) (hC : CK ow ow' dk ds S S') (h0 : 0 ∉ dk) (h15 : 15 ∉ dk) (h2k : 2 ∉ dk) (hs2 : 2 ∉ ds) : CD g S' ow' x c d := by
  obtain ⟨da, h1, h2, h3⟩ := h
  refine ⟨da, CL_ck h1 ⟨hB.1.1, Or.inl hB.1.2⟩ hC h0 h15 hs2, h2, fun j hj => ?_⟩
  obtain ⟨e1, e2⟩ := CL_el h1 (j := j) (by omega)
  obtain ⟨a1, a2, a3⟩ := ck_at hC e1 e2 h2k (by decide)
  unfold CDr; rw [a1, a2]; exact h3 j hj
theorem CW_ck (hB : CB S ow x l tp nz) {c : Nat} {ws : List wi_T} (h : CW g S ow x c ws) (hC : CK ow ow' dk ds S S') (h0 : 0 ∉ dk) (h15 : 15 ∉ dk) (h8 : 8 ∉ dk) (hs3 : 3 ∉ ds) : CW g S' ow' x c ws := by
  obtain ⟨wa, h1, h2, h3, h4⟩ := h
  refine ⟨wa, CL_ck h1 ⟨hB.1.1, Or.inl hB.1.2⟩ hC h0 h15 hs3, h2, h3, fun j hj => ?_⟩
  obtain ⟨e1, e2⟩ := CL_el h1 (j := j) (by omega)
  obtain ⟨a1, a2, a3⟩ := ck_at hC e1 e2 h8 (by decide)
  unfold CWn; rw [a1]; exact h4 j hj
theorem RC_ck {s : st_T} {ys : List Nat} {c : Nat → Nat} (h : RC g S ow x l tp nz s ys c) (hC : CK ow ow' dk ds S S') (hk : ∀ k ∈ dk, 10 ≤ k ∧ k ≠ 11 ∧ k ≠ 12 ∧ k ≠ 15) (hs : ∀ o ∈ ds, 8 ≤ o ∧ o < 100) : RC g S' ow' x l tp nz s ys c := by
  obtain ⟨hB, h1, h2, h3, h4, h5, h6, h7, h8⟩ := h
  have k1 : ∀ k, k < 10 → k ∉ dk := fun k hk1 z => by have := hk k z; omega
  have k2 : 15 ∉ dk ∧ 11 ∉ dk ∧ 12 ∉ dk := ⟨fun z => by have := hk _ z; omega, fun z => by have := hk _ z; omega, fun z => by have := hk _ z; omega⟩
  have s1 : ∀ o, o < 8 → o ∉ ds := fun o ho z => by have := hs o z; omega
  have s2 : ∀ j, 100 + j ∉ ds := fun j z => by have := hs _ z; omega
  exact ⟨CB_ck hB hC, CS_ck hB h1 hC (k1 9 (by decide)) (k1 4 (by decide)), CH_ck hB h2 hC (k1 0 (by decide)) k2.1 (k1 3 (by decide)) (s1 0 (by decide)), CG_ck hB h3 hC (k1 0 (by decide)) k2.1 (k1 5 (by decide)) (s1 4 (by decide)) (s1 5 (by decide)), CT_ck hB h4 hC (k1 9 (by decide)) k2.2.1 (s1 6 (by decide)), CR_ck hB h5 hC (k1 0 (by decide)) k2.1 (k1 6 (by decide)) (k1 1 (by decide)) (s1 1 (by decide)) s2, CN_ck hB h6 hC (k1 9 (by decide)) k2.2.2 (s1 7 (by decide)), CD_ck hB h7 hC (k1 0 (by decide)) k2.1 (k1 2 (by decide)) (s1 2 (by decide)), CW_ck hB h8 hC (k1 0 (by decide)) k2.1 (k1 8 (by decide)) (s1 3 (by decide))⟩
end CKS
/-- the constant rows are not among what may change -/
theorem ex_c1 {g : gl_T} {d : Nat} {M : mt_T} {Po : ex_R} {pc : Nat} {lv : List (Nat × Value)} {st : List Value} {S : hs_T} {n k : Nat} (kk : g.2.2.2.2 1 ∉ hs_L S → ex_W g d M Po pc lv st S n k) : ex_W g d M Po pc lv st S n k := by
  intro p e R s m args below meth c H locs ls cells slots n0 k0 C hl hW hS hn hk hN hK
  refine kk (fun hz => ?_) p e R s m args below meth c H locs ls cells slots n0 k0 C hl hW hS hn hk hN hK
  obtain ⟨_, _, ⟨hKU, hKH, hbs, hst⟩, _⟩ := id C
  obtain ⟨j, hj⟩ := ex_cell (g := g) (S := S) hz rfl
  have h1 : ex_A g (g.2.2.2.2 1) := hW.2.2 j _ hj
  obtain ⟨cell, _, _, _, _, _, _, h2⟩ := hKH.2.1 _ (show ((.object "java/lang/Object", 1, 0, fun _ _ => .null) : FieldType × Nat × Nat × ((Nat → Nat) → Nat → Value)) ∈ cs_T from List.mem_cons_self)
  exact h2 h1
