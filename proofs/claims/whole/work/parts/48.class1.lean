section EXTW
variable {g : gl_T} {d : Nat} {M : mt_T} {Po : ex_R} {pc pc' : Nat} {lv : List (Nat × Value)} {st : List Value} {S : hs_T} {n k : Nat}
theorem ex_throwW {ik is ic j p1 p2 p3 p4 p5 : Nat} {cls text : String} (hw : ex_th M.1.cls ik is ic cls text j) (h0 : ex_d M pc (.new ik) 3 p1) (h1 : ex_d M p1 (.dup) 1 p2) (h2 : ex_d M p2 (.ldc_w is) 3 p3) (h3 : ex_d M p3 (.invokespecial ic) 3 p4) (h4 : ex_d M p4 (.athrow) 1 p5) (hd : 6 ≤ d) (hrest : (st.map fun v => v.category).sum ≤ 8) (hn1 : n + 1 ≤ ex_NM) (hk1 : k + 6 ≤ ex_KM) (hpo : Po (.inr cls) S (n + 1) (k + 6)) : ex_W g d M Po pc lv st S n k := by
  intro p e R s m args below meth c H locs ls cells slots n0 k0 C hl hW hS hn hk hN hK
  obtain ⟨⟨hx, hb, hml, hrt, hlocks⟩, ⟨hown, hnm, htab⟩, ⟨hKU, hKH, hbs, hst⟩, hfr, hlo, hrc, hrs, hn0, hk0⟩ := id C
  obtain ⟨d0, rfl⟩ := h0
  obtain ⟨d3, rfl⟩ := h1
  obtain ⟨d4, rfl⟩ := h2
  obtain ⟨d6, rfl⟩ := h3
  obtain ⟨d9, rfl⟩ := h4
  obtain ⟨hcl, hini, hstr, hfit, hat, hot⟩ := hw
  have hstr2 := hKU.2.2.2.1 _ hstr
  have K := vx_throwSW (p := p) (l := g.1) (e := e) (R := R) (s := s) (m := m) (args := args) (below := below) (meth := meth) (c := c) (H := H) (locs := locs) (cells := cells) (slots := slots) (free := ex_A g) (ls := ls) (rest := st) (Qc := fun _ _ _ _ => False) (XC := fun E st t => E = cls ∧ ex_WD g S t.heap ∧ va_F (ex_A g) st t) (A := ex_A g) (mc := cells + 1) (ms := slots + 6) hx hb hst hown hfit (by decide +kernel) (ex_w hKU hcl args) (ex_w hKU hini args) hstr2 (fun w hw => (hat w hw).elim (fun z => ex_w hKU z args) (fun z => ex_nbw hKU z args)) hot hKH.2.2.2.2.1 hKH.2.2.2.2.2.1 hS (hl.1.trans hml.symm) d0 d3 d4 d6 d9 (fun x hx => (htab x hx).elim) (by show 2 + 3 < R.frames; omega) (by show (st.map fun v => v.category).sum + (13 * (2 + 1) + 43) ≤ R.locals; omega) (by rw [hrc]; omega) (by rw [hrs]; omega) hlocks
    (fun t _ h2 h3 => ⟨rfl, ⟨hW.1.kept (fun k q hk => h3 q.1 ((hW.1 k q hk).lt)), hW.2⟩, ⟨Nat.le_trans hS.1 h2, fun q h4 h5 => (h3 q (Nat.lt_of_lt_of_le h4 hS.1)).trans (hS.2.1 q h4 h5)⟩⟩) hS.2.2 (Nat.le_refl _) (Nat.le_refl _)
  refine ex_Wmono ?_ K
  rintro t ⟨o, b1, b2, b3⟩
  refine ⟨o, b1, b2, ?_⟩
  rcases b3 with ⟨h, -⟩ | ⟨q', ho, E', ce', L, ⟨hE, hth, hF⟩, h3, h4, h5, h6, h7, h8⟩
  · exact h.elim
  · refine ⟨.inr cls, S, cells + 1, slots + 6, by rw [← Nat.add_assoc, ← Nat.add_assoc, ← hn, ← hk]; exact hpo, by rw [hrc]; omega, by rw [hrs]; omega, hth, hF, Or.inr ⟨q', ho, E', ce', L, by rw [hE], h3, h4, h5, h6, h7, h8⟩⟩
end EXTW
/-! the class' calls -/
def exI : String := "java/lang/IndexOutOfBoundsException"
def exA : String := "java/lang/IllegalArgumentException"
def exS : String := "java/lang/IllegalStateException"
def ex3 (c : Nat) : String := if c = 1 then exI else if c = 2 then exA else exS
def exN (E : String) (_ : Nat) : String := E
def exJ (E F : String) (c : Nat) : String := if c = 1 then E else F
def cN (c : Nat → Nat) : Nat := c 0 + c 1 + c 2 + c 3 + c 4 + c 5
def rb (s s' : st_T) (c c' : Nat → Nat) (n n' k k' : Nat) : Prop := n' + cN c + (s_ls s).length ≤ n + 60 + cN c' + (s_ls s').length ∧ k' + 4 * cN c + 5 * (s_ls s).length ≤ k + 600 + 4 * cN c' + 5 * (s_ls s').length
abbrev cDk : List Nat := [1, 2, 3, 4, 5, 6, 7, 8, 9]
abbrev cDs : List Nat := [0, 1, 2, 3, 4, 5, 6, 7]
def cp (g : gl_T) (S : hs_T) (ow : Nat → Nat) (x l tp nz : Nat) (c : Nat → Nat) (n k : Nat) (ex : Nat → String) (s : st_T) (sp : Nat × Value × st_T) : ex_R := fun r S' n' k' => r = (if sp.1 = 0 then .inl (some sp.2.1) else .inr (ex sp.1)) ∧ ∃ ow' c' ys', RC g S' ow' x l tp nz sp.2.2 ys' c' ∧ CK ow ow' cDk cDs S S' ∧ rb s sp.2.2 c c' n n' k k'
theorem cp_i {g : gl_T} {S S' : hs_T} {ow ow' : Nat → Nat} {x l tp nz n k n' k' : Nat} {c c' : Nat → Nat} {ex : Nat → String} {s s' : st_T} {ys' : List Nat} {sp : Nat × Value × st_T} {v : Value} (hsp : sp = (0, v, s')) (h : RC g S' ow' x l tp nz s' ys' c') (hC : CK ow ow' cDk cDs S S') (hb : rb s s' c c' n n' k k') : cp g S ow x l tp nz c n k ex s sp (.inl (some v)) S' n' k' := by
  subst hsp
  exact ⟨rfl, ow', c', ys', h, hC, hb⟩
theorem rb_rf (s : st_T) (c : Nat → Nat) (n k : Nat) : rb s s c c n n k k := ⟨by omega, by omega⟩
theorem rb_eq {s s' : st_T} (hl : (s_ls s').length = (s_ls s).length) (c : Nat → Nat) (n k : Nat) : rb s s' c c n n k k := ⟨by rw [hl]; omega, by rw [hl]; omega⟩
theorem cp_s {g : gl_T} {S : hs_T} {ow : Nat → Nat} {x l tp nz n k : Nat} {c : Nat → Nat} {ex : Nat → String} {s : st_T} {ys : List Nat} {sp : Nat × Value × st_T} {v : Value} (hsp : sp = (0, v, s)) (h : RC g S ow x l tp nz s ys c) : cp g S ow x l tp nz c n k ex s sp (.inl (some v)) S n k := cp_i hsp h (CK_rf _ _ _ _) (rb_rf _ _ _ _)
theorem cp_x {g : gl_T} {S : hs_T} {ow : Nat → Nat} {x l tp nz n k code : Nat} {c : Nat → Nat} {ex : Nat → String} {E : String} {s : st_T} {ys : List Nat} {sp : Nat × Value × st_T} {v : Value} (hsp : sp = (code, v, s)) (hc : code ≠ 0) (hE : ex code = E) (h : RC g S ow x l tp nz s ys c) : cp g S ow x l tp nz c n k ex s sp (.inr E) S (n + 1) (k + 6) := by
  subst hsp
  exact ⟨by rw [if_neg hc, hE], ow, c, ys, h, CK_rf _ _ _ _, ⟨by show n + 1 + cN c + (s_ls s).length ≤ n + 60 + cN c + (s_ls s).length; omega, by show k + 6 + 4 * cN c + 5 * (s_ls s).length ≤ k + 600 + 4 * cN c + 5 * (s_ls s).length; omega⟩⟩
def BD (s : st_T) : Prop := s_td s ≤ 100000 ∧ s_sd s ≤ 1000000000 ∧ (s_hs s).length ≤ 60 ∧ ((s_ls s).length ≤ 1500 ∧ ∀ j, j < (s_ls s).length → ln_ok (ln_at (s_ls s) j)) ∧ (s_tp s).length ≤ 400 ∧ ((s_rs s).length ≤ 20 ∧ ∀ j, j < (s_rs s).length → (ru_at (s_rs s) j).1 ≤ 100000 ∧ (ru_at (s_rs s) j).2.length ≤ 10) ∧ (s_ns s).length ≤ 20 ∧ (s_ds s).length ≤ 40 ∧ (s_ws s).length ≤ 2000 ∧ ∀ j, j < 60 → (hd_at (s_hs s) j).1 ≤ 1
theorem RM_bd {S : hs_T} {m : Nat} {ad : Nat → Nat} {s : st_T} (h : RM S m ad s) : BD s := by
  obtain ⟨hB, hMS, hMH, hML, hMT, hMR, hMN, hMD, hMW⟩ := h
  exact ⟨hMS.2.1, hMS.2.2.1, hMH.2.1, ⟨hML.2.1, fun j hj => (hML.2.2 j hj).1⟩, hMT.2.1, ⟨hMR.2.1, fun j hj => (hMR.2.2 j hj).1⟩, hMN.2.1, hMD.2.1, hMW.2.1, fun j hj => (hMH.2.2 j hj).2.2⟩
def ex_xt (E : String) (S : hs_T) (n k : Nat) : ex_R := fun r S' n' k' => r = .inr E ∧ S' = S ∧ n' = n + 1 ∧ k' = k + 6
theorem ex_xt_i {E : String} {S : hs_T} {n k : Nat} : ex_xt E S n k (.inr E) S (n + 1) (k + 6) := ⟨rfl, rfl, rfl, rfl⟩
theorem gd_some {xs : List Nat} {j : Nat} (h : j < xs.length) : xs[j]? = some (xs.getD j 0) := by rw [List.getD_eq_getElem?_getD, List.getElem?_eq_getElem h]; rfl
theorem al_mem {g : gl_T} {S : hs_T} {a e c kd : Nat} {xs : List Nat} (h : al_at g S a e c kd xs) {j : Nat} (hj : j < xs.length) : xs.getD j 0 ∈ hs_L S ∧ hs_K S (xs.getD j 0) = kd := by
  have : xs.getD j 0 ∈ xs := by rw [List.getD_eq_getElem?_getD, List.getElem?_eq_getElem hj]; exact List.getElem_mem hj
  exact ⟨(h.2.2.2.2 _ this).1, (h.2.2.2.2 _ this).2.1⟩
theorem c_szn (g : gl_T) {S : hs_T} {n k a e c kd N : Nat} {xs : List Nat} (h : al_at g S a e c kd xs) (hl : xs.length = N) : ex_M g 0 mJx4a65c_size_8abf5 [.ref a] S n k (ex_rt (some (.int (nI N))) S n k) := by
  have := c_AL_size g (n := n) (k := k) h.1.1 h.1.2.1
  rwa [h.1.2.2.2, hl] at this
theorem c_getj (g : gl_T) {S : hs_T} {n k a e c kd : Nat} {xs : List Nat} (h : al_at g S a e c kd xs) {y : Int32} {j : Nat} (hy : y = nI j) (hj : j < xs.length) : ex_M g 2 mJx4a65c_get_915e3 [.ref a, .int y] S n k (ex_rt (some (.ref (xs.getD j 0))) S n k) := c_AL_get g h hy (gd_some hj)
set_option maxRecDepth 20000 in
set_option maxHeartbeats 4000000 in
theorem c_fault (g : gl_T) {S : hs_T} {n k x l tp nz : Nat} {ow : Nat → Nat} {s : st_T} {ys : List Nat} {c : Nat → Nat} (h : RC g S ow x l tp nz s ys c) (hb : BD s) (hO : OK s) (hn : n + 40000 ≤ ex_NM) (hk : k + 200000 ≤ ex_KM)  : ex_M g 6 mX9_fault [.ref x] S n k (cp g S ow x l tp nz c n k (exN exS) s (sp_fault s)) := by
  refine ex_enter (by decide +kernel) (Nat.le_of_ble_eq_true rfl) ?_
  show ex_W _ _ _ _ 0 [(0, .ref x)] [] _ _ _
  obtain ⟨hB, hCS, hCH, hCG, hCT, hCR, hCN, hCD, hCW⟩ := id h
  obtain ⟨bd1, bd2, bd3, ⟨bd4, bd5⟩, bd6, ⟨bd7, bd8⟩, bd9, bd10, bd11, bd12⟩ := id hb
  refine ex_aload_n dX9_fault_0 0 rfl ?_
  refine ex_getI dX9_fault_1 fl_X9_34 hB.1.1 hB.1.2 ?_
  exact ex_irt rfl dX9_fault_4 (cp_s (by unfold sp_fault; rw [hCS.2.2.1]) h)
set_option maxRecDepth 20000 in
set_option maxHeartbeats 4000000 in
theorem c_carried (g : gl_T) {S : hs_T} {n k x l tp nz : Nat} {ow : Nat → Nat} {s : st_T} {ys : List Nat} {c : Nat → Nat} (h : RC g S ow x l tp nz s ys c) (hb : BD s) (hO : OK s) (hn : n + 40000 ≤ ex_NM) (hk : k + 200000 ≤ ex_KM)  : ex_M g 6 mX9_carried [.ref x] S n k (cp g S ow x l tp nz c n k (exN exS) s (sp_carried s)) := by
  refine ex_enter (by decide +kernel) (Nat.le_of_ble_eq_true rfl) ?_
  show ex_W _ _ _ _ 0 [(0, .ref x)] [] _ _ _
  obtain ⟨hB, hCS, hCH, hCG, hCT, hCR, hCN, hCD, hCW⟩ := id h
  obtain ⟨bd1, bd2, bd3, ⟨bd4, bd5⟩, bd6, ⟨bd7, bd8⟩, bd9, bd10, bd11, bd12⟩ := id hb
  refine ex_aload_n dX9_carried_0 0 rfl ?_
  refine ex_getJ dX9_carried_1 fl_X9_50 hB.1.1 hB.1.2 ?_
  exact ex_lrt rfl dX9_carried_4 (cp_s (by unfold sp_carried; rw [hCS.2.2.2]) h)
set_option maxRecDepth 20000 in
set_option maxHeartbeats 4000000 in
theorem c_chkH1 (g : gl_T) {S : hs_T} {n k x l tp nz : Nat} {ow : Nat → Nat} {s : st_T} {ys : List Nat} {c : Nat → Nat} (h : RC g S ow x l tp nz s ys c) (hb : BD s) (hn : n + 1 ≤ ex_NM) (hk : k + 6 ≤ ex_KM) {y : Int32} (hy : hd_ok s y) : ex_M g 6 mX9_checkHolder [.ref x, .int y] S n k (ex_rt none S n k) := by
  refine ex_enter (by decide +kernel) (Nat.le_of_ble_eq_true rfl) ?_
  show ex_W _ _ _ _ 0 [(0, .ref x), (1, .int y)] [] _ _ _
  obtain ⟨hB, hCS, hCH, hCG, hCT, hCR, hCN, hCD, hCW⟩ := id h
  obtain ⟨bd1, bd2, bd3, ⟨bd4, bd5⟩, bd6, ⟨bd7, bd8⟩, bd9, bd10, bd11, bd12⟩ := id hb
  obtain ⟨as, ⟨a0, e0, r0, l0, o0, p0⟩, nd0, len0, f0⟩ := id hCH
  refine ex_iload_n dX9_checkHolder_0 1 rfl ?_
  refine ex_if_lt (tgt := 15) dX9_checkHolder_1 (by decide) (fun c1 => absurd c1 (by have := hy.1; simp only [i_le, i_lt, Int32.reduceToInt] at *; omega)) (fun c1 => ?_)
  refine ex_iload_n dX9_checkHolder_4 1 rfl ?_
  refine ex_aload_n dX9_checkHolder_5 0 rfl ?_
  refine ex_getR (b := a0) dX9_checkHolder_6 fl_X9_10 hB.1.1 hB.1.2 r0 ?_
  refine ex_cVr [] [.int y] dX9_checkHolder_9 cV_X9_57 (c_szn g l0 len0) l0.1.1 l0.1.2.1 rfl rfl rfl (by decide) (Nat.le_of_ble_eq_true rfl) rfl ?_
  refine ex_icmp_lt (tgt := 25) dX9_checkHolder_12 (by decide) (fun c12 => ?_) (fun c12 => absurd hy.2 c12)
  exact ex_vrt rfl dX9_checkHolder_25 ex_rt_i
set_option maxRecDepth 20000 in
set_option maxHeartbeats 4000000 in
theorem c_chkH0 (g : gl_T) {S : hs_T} {n k x l tp nz : Nat} {ow : Nat → Nat} {s : st_T} {ys : List Nat} {c : Nat → Nat} (h : RC g S ow x l tp nz s ys c) (hb : BD s) (hn : n + 1 ≤ ex_NM) (hk : k + 6 ≤ ex_KM) {y : Int32} (hy : ¬ hd_ok s y) : ex_M g 6 mX9_checkHolder [.ref x, .int y] S n k (ex_xt exI S n k) := by
  refine ex_enter (by decide +kernel) (Nat.le_of_ble_eq_true rfl) ?_
  show ex_W _ _ _ _ 0 [(0, .ref x), (1, .int y)] [] _ _ _
  obtain ⟨hB, hCS, hCH, hCG, hCT, hCR, hCN, hCD, hCW⟩ := id h
  obtain ⟨bd1, bd2, bd3, ⟨bd4, bd5⟩, bd6, ⟨bd7, bd8⟩, bd9, bd10, bd11, bd12⟩ := id hb
  obtain ⟨as, ⟨a0, e0, r0, l0, o0, p0⟩, nd0, len0, f0⟩ := id hCH
  refine ex_iload_n dX9_checkHolder_0 1 rfl ?_
  refine ex_if_lt (tgt := 15) dX9_checkHolder_1 (by decide) (fun c1 => ?_) (fun c1 => ?_)
  · exact ex_throw th_X9_130_255_134 dX9_checkHolder_15 dX9_checkHolder_18 dX9_checkHolder_19 dX9_checkHolder_21 dX9_checkHolder_24 (by decide) (Nat.le_of_ble_eq_true rfl) hn hk ex_xt_i
  · refine ex_iload_n dX9_checkHolder_4 1 rfl ?_
    refine ex_aload_n dX9_checkHolder_5 0 rfl ?_
    refine ex_getR (b := a0) dX9_checkHolder_6 fl_X9_10 hB.1.1 hB.1.2 r0 ?_
    refine ex_cVr [] [.int y] dX9_checkHolder_9 cV_X9_57 (c_szn g l0 len0) l0.1.1 l0.1.2.1 rfl rfl rfl (by decide) (Nat.le_of_ble_eq_true rfl) rfl ?_
    refine ex_icmp_lt (tgt := 25) dX9_checkHolder_12 (by decide) (fun c12 => absurd c12 (fun z => hy ⟨by simp only [i_le, i_lt, Int32.reduceToInt] at *; omega, z⟩)) (fun c12 => ?_)
    exact ex_throw th_X9_130_255_134 dX9_checkHolder_15 dX9_checkHolder_18 dX9_checkHolder_19 dX9_checkHolder_21 dX9_checkHolder_24 (by decide) (Nat.le_of_ble_eq_true rfl) hn hk ex_xt_i
set_option maxRecDepth 20000 in
set_option maxHeartbeats 4000000 in
theorem c_chkW1 (g : gl_T) {S : hs_T} {n k x l tp nz : Nat} {ow : Nat → Nat} {s : st_T} {ys : List Nat} {c : Nat → Nat} (h : RC g S ow x l tp nz s ys c) (hb : BD s) (hn : n + 1 ≤ ex_NM) (hk : k + 6 ≤ ex_KM) {y : Int32} (hy : ix_ok y (s_ws s).length) : ex_M g 6 mX9_checkWin [.ref x, .int y] S n k (ex_rt none S n k) := by
  refine ex_enter (by decide +kernel) (Nat.le_of_ble_eq_true rfl) ?_
  show ex_W _ _ _ _ 0 [(0, .ref x), (1, .int y)] [] _ _ _
  obtain ⟨hB, hCS, hCH, hCG, hCT, hCR, hCN, hCD, hCW⟩ := id h
  obtain ⟨bd1, bd2, bd3, ⟨bd4, bd5⟩, bd6, ⟨bd7, bd8⟩, bd9, bd10, bd11, bd12⟩ := id hb
  obtain ⟨wa, ⟨a3, e3, r3, l3, o3, p3⟩, nd3, len3, f3⟩ := id hCW
  refine ex_iload_n dX9_checkWin_0 1 rfl ?_
  refine ex_if_lt (tgt := 15) dX9_checkWin_1 (by decide) (fun c1 => absurd c1 (by have := hy.1; simp only [i_le, i_lt, Int32.reduceToInt] at *; omega)) (fun c1 => ?_)
  refine ex_iload_n dX9_checkWin_4 1 rfl ?_
  refine ex_aload_n dX9_checkWin_5 0 rfl ?_
  refine ex_getR (b := a3) dX9_checkWin_6 fl_X9_47 hB.1.1 hB.1.2 r3 ?_
  refine ex_cVr [] [.int y] dX9_checkWin_9 cV_X9_57 (c_szn g l3 len3) l3.1.1 l3.1.2.1 rfl rfl rfl (by decide) (Nat.le_of_ble_eq_true rfl) rfl ?_
  refine ex_icmp_lt (tgt := 26) dX9_checkWin_12 (by decide) (fun c12 => ?_) (fun c12 => absurd hy.2 c12)
  exact ex_vrt rfl dX9_checkWin_26 ex_rt_i
set_option maxRecDepth 20000 in
set_option maxHeartbeats 4000000 in
theorem c_chkW0 (g : gl_T) {S : hs_T} {n k x l tp nz : Nat} {ow : Nat → Nat} {s : st_T} {ys : List Nat} {c : Nat → Nat} (h : RC g S ow x l tp nz s ys c) (hb : BD s) (hn : n + 1 ≤ ex_NM) (hk : k + 6 ≤ ex_KM) {y : Int32} (hy : ¬ ix_ok y (s_ws s).length) : ex_M g 6 mX9_checkWin [.ref x, .int y] S n k (ex_xt exI S n k) := by
  refine ex_enter (by decide +kernel) (Nat.le_of_ble_eq_true rfl) ?_
  show ex_W _ _ _ _ 0 [(0, .ref x), (1, .int y)] [] _ _ _
  obtain ⟨hB, hCS, hCH, hCG, hCT, hCR, hCN, hCD, hCW⟩ := id h
  obtain ⟨bd1, bd2, bd3, ⟨bd4, bd5⟩, bd6, ⟨bd7, bd8⟩, bd9, bd10, bd11, bd12⟩ := id hb
  obtain ⟨wa, ⟨a3, e3, r3, l3, o3, p3⟩, nd3, len3, f3⟩ := id hCW
  refine ex_iload_n dX9_checkWin_0 1 rfl ?_
  refine ex_if_lt (tgt := 15) dX9_checkWin_1 (by decide) (fun c1 => ?_) (fun c1 => ?_)
  · exact ex_throwW th_X9_130_261_134 dX9_checkWin_15 dX9_checkWin_18 dX9_checkWin_19 dX9_checkWin_22 dX9_checkWin_25 (by decide) (Nat.le_of_ble_eq_true rfl) hn hk ex_xt_i
  · refine ex_iload_n dX9_checkWin_4 1 rfl ?_
    refine ex_aload_n dX9_checkWin_5 0 rfl ?_
    refine ex_getR (b := a3) dX9_checkWin_6 fl_X9_47 hB.1.1 hB.1.2 r3 ?_
    refine ex_cVr [] [.int y] dX9_checkWin_9 cV_X9_57 (c_szn g l3 len3) l3.1.1 l3.1.2.1 rfl rfl rfl (by decide) (Nat.le_of_ble_eq_true rfl) rfl ?_
    refine ex_icmp_lt (tgt := 26) dX9_checkWin_12 (by decide) (fun c12 => absurd c12 (fun z => hy ⟨by simp only [i_le, i_lt, Int32.reduceToInt] at *; omega, z⟩)) (fun c12 => ?_)
    exact ex_throwW th_X9_130_261_134 dX9_checkWin_15 dX9_checkWin_18 dX9_checkWin_19 dX9_checkWin_22 dX9_checkWin_25 (by decide) (Nat.le_of_ble_eq_true rfl) hn hk ex_xt_i
set_option maxRecDepth 20000 in
set_option maxHeartbeats 4000000 in
theorem c_alive1 (g : gl_T) {S : hs_T} {n k x l tp nz : Nat} {ow : Nat → Nat} {s : st_T} {ys : List Nat} {c : Nat → Nat} (h : RC g S ow x l tp nz s ys c) (hb : BD s) (hn : n + 1 ≤ ex_NM) (hk : k + 6 ≤ ex_KM) {y : Int32} {j : Nat} (hyj : y = nI j) (hj : j < (s_hs s).length) (hd : ¬ (hd_at (s_hs s) j).1 = 1) : ex_M g 6 mX9_checkAlive [.ref x, .int y] S n k (ex_rt none S n k) := by
  refine ex_enter (by decide +kernel) (Nat.le_of_ble_eq_true rfl) ?_
  show ex_W _ _ _ _ 0 [(0, .ref x), (1, .int y)] [] _ _ _
  obtain ⟨hB, hCS, hCH, hCG, hCT, hCR, hCN, hCD, hCW⟩ := id h
  obtain ⟨bd1, bd2, bd3, ⟨bd4, bd5⟩, bd6, ⟨bd7, bd8⟩, bd9, bd10, bd11, bd12⟩ := id hb
  obtain ⟨as, ⟨a0, e0, r0, l0, o0, p0⟩, nd0, len0, f0⟩ := id hCH
  have hj0 : j < as.length := by omega
  have mj := al_mem l0 hj0
  have fj := f0 j hj
  refine ex_aload_n dX9_checkAlive_0 0 rfl ?_
  refine ex_getR (b := a0) dX9_checkAlive_1 fl_X9_10 hB.1.1 hB.1.2 r0 ?_
  refine ex_iload_n dX9_checkAlive_4 1 rfl ?_
  refine ex_cVr [.int y] [] dX9_checkAlive_5 cV_X9_103 (c_getj g l0 hyj hj0) l0.1.1 l0.1.2.1 rfl rfl rfl (by decide) (Nat.le_of_ble_eq_true rfl) rfl ?_
  refine ex_cast dX9_checkAlive_8 mj.1 mj.2 rfl kl_X9_68 ?_
  refine ex_getI dX9_checkAlive_11 fl_X9_107 mj.1 mj.2 ?_
  refine ex_if_eq (tgt := 28) dX9_checkAlive_14 (by decide) (fun c14 => ?_) (fun c14 => absurd (by have := bd12 j (by omega); rw [fj.1, show (hd_at (s_hs s) j).1 = 0 by omega]; rfl) c14)
  exact ex_vrt rfl dX9_checkAlive_28 ex_rt_i
set_option maxRecDepth 20000 in
set_option maxHeartbeats 4000000 in
theorem c_alive0 (g : gl_T) {S : hs_T} {n k x l tp nz : Nat} {ow : Nat → Nat} {s : st_T} {ys : List Nat} {c : Nat → Nat} (h : RC g S ow x l tp nz s ys c) (hb : BD s) (hn : n + 1 ≤ ex_NM) (hk : k + 6 ≤ ex_KM) {y : Int32} {j : Nat} (hyj : y = nI j) (hj : j < (s_hs s).length) (hd : (hd_at (s_hs s) j).1 = 1) : ex_M g 6 mX9_checkAlive [.ref x, .int y] S n k (ex_xt exS S n k) := by
  refine ex_enter (by decide +kernel) (Nat.le_of_ble_eq_true rfl) ?_
  show ex_W _ _ _ _ 0 [(0, .ref x), (1, .int y)] [] _ _ _
  obtain ⟨hB, hCS, hCH, hCG, hCT, hCR, hCN, hCD, hCW⟩ := id h
  obtain ⟨bd1, bd2, bd3, ⟨bd4, bd5⟩, bd6, ⟨bd7, bd8⟩, bd9, bd10, bd11, bd12⟩ := id hb
  obtain ⟨as, ⟨a0, e0, r0, l0, o0, p0⟩, nd0, len0, f0⟩ := id hCH
  have hj0 : j < as.length := by omega
  have mj := al_mem l0 hj0
  have fj := f0 j hj
  refine ex_aload_n dX9_checkAlive_0 0 rfl ?_
  refine ex_getR (b := a0) dX9_checkAlive_1 fl_X9_10 hB.1.1 hB.1.2 r0 ?_
  refine ex_iload_n dX9_checkAlive_4 1 rfl ?_
  refine ex_cVr [.int y] [] dX9_checkAlive_5 cV_X9_103 (c_getj g l0 hyj hj0) l0.1.1 l0.1.2.1 rfl rfl rfl (by decide) (Nat.le_of_ble_eq_true rfl) rfl ?_
  refine ex_cast dX9_checkAlive_8 mj.1 mj.2 rfl kl_X9_68 ?_
  refine ex_getI dX9_checkAlive_11 fl_X9_107 mj.1 mj.2 ?_
  refine ex_if_eq (tgt := 28) dX9_checkAlive_14 (by decide) (fun c14 => absurd c14 (by rw [fj.1, hd]; decide)) (fun c14 => ?_)
  exact ex_throwW th_X9_61_257_65 dX9_checkAlive_17 dX9_checkAlive_20 dX9_checkAlive_21 dX9_checkAlive_24 dX9_checkAlive_27 (by decide) (Nat.le_of_ble_eq_true rfl) hn hk ex_xt_i
