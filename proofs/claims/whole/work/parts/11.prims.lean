/-! throws; constants; the machine's own methods -/
/-- 'throw new cls(text)' of own: its words -/
def ex_th (own : String) (ik is ic : Nat) (cls text : String) (j : Nat) : Prop := Cond.classLink own ik cls ∈ ex_TB ∧ Cond.initialized cls ∈ ex_TB ∧ (own, is, text, j) ∈ cs_R ∧ Bundle.fit cls = true ∧ (∀ w ∈ vx_atS own ic cls ["java/lang/RuntimeException", "java/lang/Exception"], w ∈ ex_TB ∨ w ∈ ex_NB) ∧ (∀ w ∈ Cond.classLink own ik cls :: Cond.initialized cls :: vx_atS own ic cls ["java/lang/RuntimeException", "java/lang/Exception"], vx_ot w = true)
theorem ex_nbw {g : gl_T} {s : State} (hK : ex_KU g s) {w : Cond} (h : w ∈ ex_NB) (args : Array Value) : w.before args s = true := by
  have h2 := hK.2.1 w h
  have h5 := (List.mem_filter.mp h).2
  unfold ex_nw at h5
  split at h5 <;> first | exact va_Nw.use (by rfl) h2 | cases h5
section EXT
variable {g : gl_T} {d : Nat} {M : mt_T} {Po : ex_R} {pc pc' : Nat} {lv : List (Nat × Value)} {st : List Value} {S : hs_T} {n k : Nat}
theorem ex_throw {ik is ic j p1 p2 p3 p4 p5 : Nat} {cls text : String} (hw : ex_th M.1.cls ik is ic cls text j) (h0 : ex_d M pc (.new ik) 3 p1) (h1 : ex_d M p1 (.dup) 1 p2) (h2 : ex_d M p2 (.ldc is) 2 p3) (h3 : ex_d M p3 (.invokespecial ic) 3 p4) (h4 : ex_d M p4 (.athrow) 1 p5) (hd : 6 ≤ d) (hrest : (st.map fun v => v.category).sum ≤ 8) (hn1 : n + 1 ≤ ex_NM) (hk1 : k + 6 ≤ ex_KM) (hpo : Po (.inr cls) S (n + 1) (k + 6)) : ex_W g d M Po pc lv st S n k := by
  intro p e R s m args below meth c H locs ls cells slots n0 k0 C hl hW hS hn hk hN hK
  obtain ⟨⟨hx, hb, hml, hrt, hlocks⟩, ⟨hown, hnm, htab⟩, ⟨hKU, hKH, hbs, hst⟩, hfr, hlo, hrc, hrs, hn0, hk0⟩ := id C
  obtain ⟨d0, rfl⟩ := h0
  obtain ⟨d3, rfl⟩ := h1
  obtain ⟨d4, rfl⟩ := h2
  obtain ⟨d6, rfl⟩ := h3
  obtain ⟨d9, rfl⟩ := h4
  obtain ⟨hcl, hini, hstr, hfit, hat, hot⟩ := hw
  have hstr2 := hKU.2.2.2.1 _ hstr
  have K := vx_throwS (p := p) (l := g.1) (e := e) (R := R) (s := s) (m := m) (args := args) (below := below) (meth := meth) (c := c) (H := H) (locs := locs) (cells := cells) (slots := slots) (free := ex_A g) (ls := ls) (rest := st) (Qc := fun _ _ _ _ => False) (XC := fun E st t => E = cls ∧ ex_WD g S t.heap ∧ va_F (ex_A g) st t) (A := ex_A g) (mc := cells + 1) (ms := slots + 6) hx hb hst hown hfit (by decide +kernel) (ex_w hKU hcl args) (ex_w hKU hini args) hstr2 (fun w hw => (hat w hw).elim (fun z => ex_w hKU z args) (fun z => ex_nbw hKU z args)) hot hKH.2.2.2.2.1 hKH.2.2.2.2.2.1 hS (hl.1.trans hml.symm) d0 d3 d4 d6 d9 (fun x hx => (htab x hx).elim) (by show 2 + 3 < R.frames; omega) (by show (st.map fun v => v.category).sum + (13 * (2 + 1) + 43) ≤ R.locals; omega) (by rw [hrc]; omega) (by rw [hrs]; omega) hlocks
    (fun t _ h2 h3 => ⟨rfl, ⟨hW.1.kept (fun k q hk => h3 q.1 ((hW.1 k q hk).lt)), hW.2⟩, ⟨Nat.le_trans hS.1 h2, fun q h4 h5 => (h3 q (Nat.lt_of_lt_of_le h4 hS.1)).trans (hS.2.1 q h4 h5)⟩⟩) hS.2.2 (Nat.le_refl _) (Nat.le_refl _)
  refine ex_Wmono ?_ K
  rintro t ⟨o, b1, b2, b3⟩
  refine ⟨o, b1, b2, ?_⟩
  rcases b3 with ⟨h, -⟩ | ⟨q', ho, E', ce', L, ⟨hE, hth, hF⟩, h3, h4, h5, h6, h7, h8⟩
  · exact h.elim
  · refine ⟨.inr cls, S, cells + 1, slots + 6, by rw [← Nat.add_assoc, ← Nat.add_assoc, ← hn, ← hk]; exact hpo, by rw [hrc]; omega, by rw [hrs]; omega, hth, hF, Or.inr ⟨q', ho, E', ce', L, by rw [hE], h3, h4, h5, h6, h7, h8⟩⟩
/-! constants -/
theorem ex_gets {idx : Nat} {q : String × String × String × cs_V} (h : ex_d M pc (.getstatic idx) 3 pc') (hq : q ∈ cs_Z) (hw : Cond.fieldLink M.1.cls idx q.1 q.2.1 q.2.2.1 ∈ ex_TB) (kk : ex_W g d M Po pc' lv (q.2.2.2 g.2.2.2.2 :: st) S n k) : ex_W g d M Po pc lv st S n k := by
  intro p e R s m args below meth c H locs ls cells slots n0 k0 C hl hW hS hn hk hN hK
  obtain ⟨⟨hx, hb, hml, hrt, hlocks⟩, ⟨hown, hnm, htab⟩, ⟨hKU, hKH, hbs, hst⟩, hfr, hlo, hrc, hrs, hn0, hk0⟩ := id C
  obtain ⟨hdg, rfl⟩ := h
  exact va_gets hx hb (hKH.1 q hq) hS hown (ex_w hKU hw args) (fun _ h => h) hdg (kk p e R s m args below meth c H locs ls cells slots n0 k0 C hl hW hS hn hk hN hK)
theorem ex_getsQ {idx : Nat} (h : ex_d M pc (.getstatic idx) 3 pc') (hw : Cond.fieldLink M.1.cls idx "jdk/internal/util/Preconditions" "SIOOBE_FORMATTER" "Ljava/util/function/BiFunction;" ∈ ex_TB) (kk : ∀ v : Option Nat, ex_W g d M Po pc' lv (va_rf v :: st) S n k) : ex_W g d M Po pc lv st S n k := by
  intro p e R s m args below meth c H locs ls cells slots n0 k0 C hl hW hS hn hk hN hK
  obtain ⟨⟨hx, hb, hml, hrt, hlocks⟩, ⟨hown, hnm, htab⟩, ⟨hKU, hKH, hbs, hst⟩, hfr, hlo, hrc, hrs, hn0, hk0⟩ := id C
  obtain ⟨hdg, rfl⟩ := h
  rcases hKH.2.2.2.2.2.2 with hz | ⟨t, hz⟩
  · exact va_gets hx hb hz hS hown (ex_w hKU hw args) (fun _ h => h) hdg (kk none p e R s m args below meth c H locs ls cells slots n0 k0 C hl hW hS hn hk hN hK)
  · exact va_gets hx hb hz hS hown (ex_w hKU hw args) (fun _ h => h) hdg (kk (some t) p e R s m args below meth c H locs ls cells slots n0 k0 C hl hW hS hn hk hN hK)
theorem ex_ldcS {idx : Nat} {q : String × Nat × String × Nat} (h : ex_d M pc (.ldc idx) 2 pc') (hq : q ∈ cs_R) (h1 : q.1 = M.1.cls) (h2 : q.2.1 = idx) (kk : ex_W g d M Po pc' lv (.ref (g.2.2.2.2 q.2.2.2) :: st) S n k) : ex_W g d M Po pc lv st S n k := by
  intro p e R s m args below meth c H locs ls cells slots n0 k0 C hl hW hS hn hk hN hK
  obtain ⟨⟨hx, hb, hml, hrt, hlocks⟩, ⟨hown, hnm, htab⟩, ⟨hKU, hKH, hbs, hst⟩, hfr, hlo, hrc, hrs, hn0, hk0⟩ := id C
  obtain ⟨hdg, rfl⟩ := h
  have h3 := hKU.2.2.2.1 q hq
  rw [h1, h2] at h3
  exact va_ldcS hx hb hown h3 hdg (kk p e R s m args below meth c H locs ls cells slots n0 k0 C hl hW hS hn hk hN hK)
theorem ex_getC {idx : Nat} {q : String × String × String × Nat × cs_V} (h : ex_d M pc (.getfield idx) 3 pc') (hq : q ∈ cs_F) (hw : Cond.fieldLink M.1.cls idx q.1 q.2.1 q.2.2.1 ∈ ex_TB ∨ ∃ host, Cond.fieldLinkNest M.1.cls idx q.1 q.2.1 q.2.2.1 host ∈ ex_NB) (kk : ex_W g d M Po pc' lv (q.2.2.2.2 g.2.2.2.2 :: st) S n k) : ex_W g d M Po pc lv (.ref (g.2.2.2.2 q.2.2.2.1) :: st) S n k := by
  intro p e R s m args below meth c H locs ls cells slots n0 k0 C hl hW hS hn hk hN hK
  obtain ⟨⟨hx, hb, hml, hrt, hlocks⟩, ⟨hown, hnm, htab⟩, ⟨hKU, hKH, hbs, hst⟩, hfr, hlo, hrc, hrs, hn0, hk0⟩ := id C
  obtain ⟨hdg, rfl⟩ := h
  have K := kk p e R s m args below meth c H locs ls cells slots n0 k0 C hl hW hS hn hk hN hK
  rcases hw with hw | ⟨host, hw⟩
  · exact vk_getf hx hb (hKH.2.2.1 q hq) hS hown (ex_w hKU hw args) (fun _ h => h) hdg K
  · obtain ⟨cf, k1, i1, f1, cell, e1, e2, e3, e4, e5, e6⟩ := hKH.2.2.1 q hq
    have hlt : g.2.2.2.2 q.2.2.2.1 < s.heap.size := (Array.getElem?_eq_some_iff.mp e3).1
    exact va_Wgetf hx hb hown (ex_nbw hKU hw args) e1 e2 ((hS.2.1 _ hlt e6).trans e3) e4 e5 rfl rfl hdg K
theorem ex_alenC {q : FieldType × Nat × Nat × ((Nat → Nat) → Nat → Value)} (h : ex_d M pc (.arraylength) 1 pc') (hq : q ∈ cs_T) (kk : ex_W g d M Po pc' lv (.int (nI q.2.2.1) :: st) S n k) : ex_W g d M Po pc lv (.ref (g.2.2.2.2 q.2.1) :: st) S n k := by
  intro p e R s m args below meth c H locs ls cells slots n0 k0 C hl hW hS hn hk hN hK
  obtain ⟨⟨hx, hb, hml, hrt, hlocks⟩, ⟨hown, hnm, htab⟩, ⟨hKU, hKH, hbs, hst⟩, hfr, hlo, hrc, hrs, hn0, hk0⟩ := id C
  obtain ⟨hdg, rfl⟩ := h
  exact va_tlen hx hb (hKH.2.1 q hq) hS rfl hdg (kk p e R s m args below meth c H locs ls cells slots n0 k0 C hl hW hS hn hk hN hK)
theorem ex_aaldC {q : FieldType × Nat × Nat × ((Nat → Nat) → Nat → Value)} {C1 : String} {x : Int32} {j : Nat} (h : ex_d M pc (.aaload) 1 pc') (hq : q ∈ cs_T) (hty : q.1 = .object C1) (hi : x = nI j) (hj : j < q.2.2.1) (hjb : j < 2 ^ 31) (kk : ex_W g d M Po pc' lv (q.2.2.2 g.2.2.2.2 j :: st) S n k) : ex_W g d M Po pc lv (.int x :: .ref (g.2.2.2.2 q.2.1) :: st) S n k := by
  intro p e R s m args below meth c H locs ls cells slots n0 k0 C hl hW hS hn hk hN hK
  obtain ⟨⟨hx, hb, hml, hrt, hlocks⟩, ⟨hown, hnm, htab⟩, ⟨hKU, hKH, hbs, hst⟩, hfr, hlo, hrc, hrs, hn0, hk0⟩ := id C
  obtain ⟨hdg, rfl⟩ := h
  obtain ⟨h1, h2⟩ := ex_in hi hj hjb
  have hT := hKH.2.1 q hq
  rw [hty] at hT
  exact vb_tq hx hb hT hS h1 (by rw [h2]) hdg (kk p e R s m args below meth c H locs ls cells slots n0 k0 C hl hW hS hn hk hN hK)
theorem ex_baldC {q : FieldType × Nat × Nat × ((Nat → Nat) → Nat → Value)} {x : Int32} {j : Nat} (h : ex_d M pc (.baload) 1 pc') (hq : q ∈ cs_T) (hty : q.1 = .byte) (hi : x = nI j) (hj : j < q.2.2.1) (hjb : j < 2 ^ 31) (kk : ex_W g d M Po pc' lv (q.2.2.2 g.2.2.2.2 j :: st) S n k) : ex_W g d M Po pc lv (.int x :: .ref (g.2.2.2.2 q.2.1) :: st) S n k := by
  intro p e R s m args below meth c H locs ls cells slots n0 k0 C hl hW hS hn hk hN hK
  obtain ⟨⟨hx, hb, hml, hrt, hlocks⟩, ⟨hown, hnm, htab⟩, ⟨hKU, hKH, hbs, hst⟩, hfr, hlo, hrc, hrs, hn0, hk0⟩ := id C
  obtain ⟨hdg, rfl⟩ := h
  obtain ⟨h1, h2⟩ := ex_in hi hj hjb
  have hT := hKH.2.1 q hq
  rw [hty] at hT
  exact va_tb hx hb hT hS h1 (by rw [h2]) hdg (kk p e R s m args below meth c H locs ls cells slots n0 k0 C hl hW hS hn hk hN hK)
/-! Math, arraycopy, getClass -/
theorem ex_mmax {idx : Nat} {x y : Int32} (h : ex_d M pc (.invokestatic idx) 3 pc') (hw : Cond.methodLink M.1.cls idx Lib.Math.max.name ∈ ex_TB) (hw2 : Cond.static Lib.Math.max.name ∈ ex_TB ∧ Cond.initialized "java/lang/Math" ∈ ex_TB ∧ Cond.code Lib.Math.max.name Lib.Math.max.code 2 (some .int) ∈ ex_TB) (hd : 1 ≤ d) (hrest : (st.map fun v => v.category).sum ≤ 8) (kk : ex_W g d M Po pc' lv (.int (if x < y then y else x) :: st) S n k) : ex_W g d M Po pc lv (.int y :: .int x :: st) S n k := by
  intro p e R s m args below meth c H locs ls cells slots n0 k0 C hl hW hS hn hk hN hK
  obtain ⟨⟨hx, hb, hml, hrt, hlocks⟩, ⟨hown, hnm, htab⟩, ⟨hKU, hKH, hbs, hst⟩, hfr, hlo, hrc, hrs, hn0, hk0⟩ := id C
  obtain ⟨hdg, rfl⟩ := h
  exact va_mmax hx hb (hml.trans hl.1.symm) hown (ex_w hKU hw args) (ex_w hKU hw2.1 args) (ex_w hKU hw2.2.1 args) (ex_w hKU hw2.2.2 args) (by omega) (by omega) (by rw [hrc]; omega) (by rw [hrs]; omega) hdg (kk p e R s m args below meth c H locs ls cells slots n0 k0 C hl hW hS hn hk hN hK)
theorem ex_mmin {idx : Nat} {x y : Int32} (h : ex_d M pc (.invokestatic idx) 3 pc') (hw : Cond.methodLink M.1.cls idx Lib.Math.min.name ∈ ex_TB) (hw2 : Cond.static Lib.Math.min.name ∈ ex_TB ∧ Cond.initialized "java/lang/Math" ∈ ex_TB ∧ Cond.code Lib.Math.min.name Lib.Math.min.code 2 (some .int) ∈ ex_TB) (hd : 1 ≤ d) (hrest : (st.map fun v => v.category).sum ≤ 8) (kk : ex_W g d M Po pc' lv (.int (if y < x then y else x) :: st) S n k) : ex_W g d M Po pc lv (.int y :: .int x :: st) S n k := by
  intro p e R s m args below meth c H locs ls cells slots n0 k0 C hl hW hS hn hk hN hK
  obtain ⟨⟨hx, hb, hml, hrt, hlocks⟩, ⟨hown, hnm, htab⟩, ⟨hKU, hKH, hbs, hst⟩, hfr, hlo, hrc, hrs, hn0, hk0⟩ := id C
  obtain ⟨hdg, rfl⟩ := h
  exact va_mmin hx hb (hml.trans hl.1.symm) hown (ex_w hKU hw args) (ex_w hKU hw2.1 args) (ex_w hKU hw2.2.1 args) (ex_w hKU hw2.2.2 args) (by omega) (by omega) (by rw [hrc]; omega) (by rw [hrs]; omega) hdg (kk p e R s m args below meth c H locs ls cells slots n0 k0 C hl hW hS hn hk hN hK)
theorem ex_mminL {idx : Nat} {x y : Int64} (h : ex_d M pc (.invokestatic idx) 3 pc') (hw : Cond.methodLink M.1.cls idx Lib.MathLoose.min_long.x ∈ ex_TB) (hw2 : Cond.static Lib.MathLoose.min_long.x ∈ ex_TB ∧ Cond.initialized "java/lang/Math" ∈ ex_TB ∧ Cond.code Lib.MathLoose.min_long.x Lib.MathLoose.min_long.code 4 (some .long) ∈ ex_TB) (hd : 1 ≤ d) (hrest : (st.map fun v => v.category).sum ≤ 8) (kk : ex_W g d M Po pc' lv (.long (if y < x then y else x) :: st) S n k) : ex_W g d M Po pc lv (.long y :: .long x :: st) S n k := by
  intro p e R s m args below meth c H locs ls cells slots n0 k0 C hl hW hS hn hk hN hK
  obtain ⟨⟨hx, hb, hml, hrt, hlocks⟩, ⟨hown, hnm, htab⟩, ⟨hKU, hKH, hbs, hst⟩, hfr, hlo, hrc, hrs, hn0, hk0⟩ := id C
  obtain ⟨hdg, rfl⟩ := h
  exact va_mmin_long hx hb (hml.trans hl.1.symm) hown (ex_w hKU hw args) (ex_w hKU hw2.1 args) (ex_w hKU hw2.2.1 args) (ex_w hKU hw2.2.2 args) (by omega) (by omega) (by rw [hrc]; omega) (by rw [hrs]; omega) hdg (kk p e R s m args below meth c H locs ls cells slots n0 k0 C hl hW hS hn hk hN hK)
theorem ex_lcmp {x y : Int64} (h : ex_d M pc (.lcmp) 1 pc') (kk : ex_W g d M Po pc' lv (.int (lg_cmp x y) :: st) S n k) : ex_W g d M Po pc lv (.long y :: .long x :: st) S n k := by
  intro p e R s m args below meth c H locs ls cells slots n0 k0 C hl hW hS hn hk hN hK
  obtain ⟨⟨hx, hb, hml, hrt, hlocks⟩, -⟩ := id C
  obtain ⟨hdg, rfl⟩ := h
  exact W.lcmp hx hb hdg (kk p e R s m args below meth c H locs ls cells slots n0 k0 C hl hW hS hn hk hN hK)
/-- arraycopy between rows of references (they may be one) -/
theorem ex_copy {idx a0 a sp dp N : Nat} {xs xd xn : Int32} (h : ex_d M pc (.invokestatic idx) 3 pc') (hw : Cond.methodLink M.1.cls idx arraycopyName ∈ ex_TB) (hw2 : Cond.native arraycopyName ∈ ex_TB ∧ Cond.static arraycopyName ∈ ex_TB ∧ Cond.initialized "java/lang/System" ∈ ex_TB) (hL0 : a0 ∈ hs_L S) (hK0 : hs_K S a0 = 15) (hL : a ∈ hs_L S) (hK1 : hs_K S a = 15) (hs1 : xs = nI sp) (hd1 : xd = nI dp) (hn1 : xn = nI N) (hb1 : sp + N ≤ hs_N S a0) (hb2 : dp + N ≤ hs_N S a) (hbig : hs_N S a0 < 2 ^ 31 ∧ hs_N S a < 2 ^ 31)
    (hel : ∀ i, i < N → ∀ y, hs_R S a0 (sp + i) = some y → y ∈ hs_L S ∧ hs_K S y < 11) (hd : 1 ≤ d) (hrest : (st.map fun v => v.category).sum ≤ 8) (kk : ex_W g d M Po pc' lv st (hs_rR S a (va_cpy (hs_R S a0) (hs_R S a) sp dp N)) n k) : ex_W g d M Po pc lv (.int xn :: .int xd :: .ref a :: .int xs :: .ref a0 :: st) S n k := by
  intro p e R s m args below meth c H locs ls cells slots n0 k0 C hl hW hS hn hk hN hK
  obtain ⟨⟨hx, hb, hml, hrt, hlocks⟩, ⟨hown, hnm, htab⟩, ⟨hKU, hKH, hbs, hst⟩, hfr, hlo, hrc, hrs, hn0, hk0⟩ := id C
  obtain ⟨hdg, rfl⟩ := h
  obtain ⟨q0, hq0⟩ := ex_cell (g := g) hL0 (hs_E_R hK0)
  obtain ⟨q1, hq1⟩ := ex_cell (g := g) hL (hs_E_R hK1)
  subst hs1; subst hd1; subst hn1
  have e1 : (nI sp).toNatClampNeg = sp := nI_clamp (by omega)
  have e2 : (nI dp).toNatClampNeg = dp := nI_clamp (by omega)
  have e3 : (nI N).toNatClampNeg = N := nI_clamp (by omega)
  have h99 : nativeFrameWords "java/lang/System" "arraycopy" 5 + 11 ≤ 56 := by decide +kernel
  refine va_copyM hx hb (hml.trans hl.1.symm) hown (ex_w hKU hw args) (ex_w hKU hw2.1 args) (ex_w hKU hw2.2.1 args) (ex_w hKU hw2.2.2 args) hKU.2.2.1 hW.1 hW.2 hS q0 q1 4 4 hq0 hq1 rfl rfl (nI_pos (by omega)) (nI_pos (by omega)) (nI_pos (by omega)) (by rw [e1, e3]; exact hb1) (by rw [e2, e3]; exact hb2) ?_ (by omega) (by omega) hdg (fun H1 locs1 hP1 hD1 hS1 => ?_)
  · rw [e1, e3]
    intro i hi y hy
    obtain ⟨hLy, hKy⟩ := hel i hi y hy
    obtain ⟨qy, hqy⟩ := ex_cell (g := g) hLy (hs_E_obj rfl hKy)
    obtain ⟨r, hr⟩ := ex_clsome hKy
    refine va_rAny hKU.2.2.1 hW.1 hqy hr (fun comp c0 h1 h2 => ?_)
    obtain ⟨c3, c4, hc3, hc4, hasg⟩ := Cond.castable_spec (ex_nbw hKU (ex_castW _ r hr) args)
    cases Option.some.inj (hc3.symm.trans h2)
    cases Option.some.inj (hc4.symm.trans h1)
    exact hasg
  · refine kk p e R s m args below meth c H1 locs1 ls cells slots n0 k0 C hl (ex_set hL hq1 (hs_E_R hK1) rfl ?_ (hs_off_rR _ S a _) hW.2 hP1 hD1) hS1 hn hk hN hK
    rw [hs_E_R (S := hs_rR S a _) hK1, e1, e2, e3]
    show Sum.inl (_, _, Sum.inr (Sum.inr (Sum.inr (Sum.inr (va_up (hs_R S) a _ a))))) = _
    rw [va_up_self]; rfl
end EXT
