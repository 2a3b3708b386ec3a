section
variable {g : gl_T} {R : Room} {p : Program} {e : Env} {below : List Frame} {s : State} {sargs : Array Value} {len W9 : Nat}
variable {g : gl_T} {d : Nat} {M : mt_T} {Po : ex_R} {pc pc' : Nat} {lv : List (Nat × Value)} {st : List Value} {S : hs_T} {n k : Nat}
/-- an instance method of a constant -/
theorem ex_callVC {idx nA d' : Nat} {M' : mt_T} {Po' : ex_R} {As : List Value} {q : String × Nat} (h : ex_d M pc (.invokevirtual idx) 3 pc') (hc : ex_cV M.1.cls idx M' nA) (hM' : ex_M g d' M' (.ref (g.2.2.2.2 q.2) :: As) S n k Po') (hq : q ∈ cs_O) (hqc : q.1 = M'.1.cls) (hnA : As.length = nA) (hd : d' + 1 ≤ d) (hrest : (st.map fun v => v.category).sum ≤ 8)
    (kk : ∀ v S' n' k', Po' (.inl v) S' n' k' → ex_W g d M Po pc' lv (v.toList ++ st) S' n' k') (kx : ∀ E S' n' k', Po' (.inr E) S' n' k' → Po (.inr E) S' n' k') : ex_W g d M Po pc lv (As.reverse ++ .ref (g.2.2.2.2 q.2) :: st) S n k := by
  intro p e R s m args below meth c H locs ls cells slots n0 k0 C hl hW hS hn hk hN hK
  obtain ⟨⟨hx, hb, hml, hrt, hlocks⟩, ⟨hown, hnm, htab⟩, ⟨hKU, hKH, hbs, hst⟩, hfr, hlo, hrc, hrs, hn0, hk0⟩ := id C
  obtain ⟨hdg, rfl⟩ := h
  obtain ⟨⟨hcode, hini, hmh, hpar, hmax⟩, hlink, hinst, hsel⟩ := hc
  have hBk := ex_back (g := g) (R := R) (p := p) (e := e) (below := below) (s := s) (sargs := args) (len := 3) (W9 := 8) hM' hst hN hK hcode hini (by omega) (by omega) hKU
  obtain ⟨cellB, hcB, hoB, hclB, -⟩ := (hKH.2.2.2.1 q hq).kept hS.2.1
  rw [hqc] at hclB
  intro T hT X
  rcases vx_callV X hx hown (ex_w hKU hlink args) (ex_w hKU hinst args) (ex_w hKU hsel args) (ex_w hKU hcode args) hmh hBk (by rw [hT]; exact hcB) hoB hclB (g := F0 m pc ls (As.reverse ++ .ref (g.2.2.2.2 q.2) :: st)) rfl (hl.1.trans hml.symm) (argsL := As) (rest := st) (ex_plen hpar hnA) rfl (lv_room hrest) (by rw [hb]; exact hdg)
    (fun vm₁ hW₁ => ⟨by show cells + (ex_NM - n) ≤ R.cells; rw [hrc]; omega, by show slots + (ex_KM - k) ≤ R.slots; rw [hrs]; omega, ex_P_of hKU hKH hbs hW hS (U := T.setVm vm₁) hT hW₁⟩) with ⟨v, vm₁, B, hW₁, X', ⟨S', kc, ks, L, hPo, hkc, hks, hWD, hF, hBl, hL', hBc, hBs⟩, st1⟩ | ⟨q', vm₁, B, hW₁, X', ⟨E, ce, S', kc, ks, L, hPo, hkc, hks, hWD, hF, hBl, hL', hBc, hBs, hce, hcv, hcl⟩, st1⟩
  · have hS' := ex_on hS (A := ⟨T.setVm vm₁, locs, cells, slots⟩) hT rfl hF hBl hL'
    obtain ⟨U', l2, c2, s2⟩ := B
    dsimp only [Pt.U, Pt.locs, Pt.cells, Pt.slots] at X' hWD hS' hBc hBs st1
    subst hBc; subst hBs
    obtain ⟨t, a1, b1⟩ := kk v S' (n + kc) (k + ks) hPo p e R s m args below meth c U'.heap l2 ls (cells + kc) (slots + ks) n0 k0 C hl hWD hS' (by omega) (by omega) (by omega) (by omega) U' rfl X'
    exact ⟨t, st1 t a1, b1⟩
  · have hS' := ex_on hS (A := ⟨T.setVm vm₁, locs, cells, slots⟩) hT rfl hF hBl hL'
    obtain ⟨U', l2, c2, s2⟩ := B
    dsimp only [Pt.U, Pt.locs, Pt.cells, Pt.slots] at X' hWD hS' hBc hBs st1 hce hcl
    subst hBc; subst hBs
    obtain ⟨t, a1, b1⟩ := ex_thrown (g := g) (Po := Po) (pc := pc) (rest := st) (ls := ls) (n' := n + kc) (k' := k + ks) C hWD hS' (by omega) (by omega) (by omega) (by omega) (kx E S' (n + kc) (k + ks) hPo) hce hcv (vx_cls hW₁ hcl) U' rfl X'
    exact ⟨t, st1.trans a1, b1⟩

theorem ex_cVC {idx nA d' : Nat} {M' : mt_T} {v : Value} {q : String × Nat} {stk : List Value} {S1 : hs_T} {n1 k1 : Nat} (As st : List Value) (h : ex_d M pc (.invokevirtual idx) 3 pc') (hc : ex_cV M.1.cls idx M' nA) (hM' : ex_M g d' M' (.ref (g.2.2.2.2 q.2) :: As) S n k (ex_rt (some v) S1 n1 k1)) (hq : q ∈ cs_O) (hqc : q.1 = M'.1.cls) (hnA : As.length = nA) (hd : d' + 1 ≤ d) (hrest : (st.map fun v => v.category).sum ≤ 8) (hstk : stk = As.reverse ++ .ref (g.2.2.2.2 q.2) :: st)
    (kk : ex_W g d M Po pc' lv (v :: st) S1 n1 k1) : ex_W g d M Po pc lv stk S n k := by
  subst hstk
  refine ex_callVC h hc hM' hq hqc hnA hd hrest ?_ ?_
  · rintro v' S' n' k' ⟨h1, rfl, rfl, rfl⟩; cases h1; exact kk
  · rintro E S' n' k' ⟨h1, -⟩; cases h1
theorem ex_cSv {idx nA d' : Nat} {M' : mt_T} {stk : List Value} {S1 : hs_T} {n1 k1 : Nat} (As st : List Value) (h : ex_d M pc (.invokestatic idx) 3 pc') (hc : ex_cS M.1.cls idx M' nA) (hM' : ex_M g d' M' As S n k (ex_rt none S1 n1 k1)) (hnA : As.length = nA) (hd : d' + 1 ≤ d) (hrest : (st.map fun v => v.category).sum ≤ 8) (hstk : stk = As.reverse ++ st)
    (kk : ex_W g d M Po pc' lv st S1 n1 k1) : ex_W g d M Po pc lv stk S n k := by
  refine ex_cSg As st h hc hM' hnA hd hrest hstk ?_ ?_
  · rintro E S' n' k' ⟨h1, -⟩; cases h1
  · rintro v' S' n' k' ⟨h1, rfl, rfl, rfl⟩; cases h1; exact kk
end
theorem cR_0 : ("BondOffice$RuleReader", 90, ";", 17) ∈ cs_R := List.getElem_mem (l := cs_R) (n := 0) (by decide)
theorem cR_1 : ("BondOfficeModel", 174, "fund", 10) ∈ cs_R := List.getElem_mem (l := cs_R) (n := 1) (by decide)
theorem cR_2 : ("BondOfficeModel", 189, "days", 11) ∈ cs_R := List.getElem_mem (l := cs_R) (n := 2) (by decide)
theorem cR_3 : ("BondOfficeModel", 191, "tier", 12) ∈ cs_R := List.getElem_mem (l := cs_R) (n := 3) (by decide)
theorem cR_4 : ("BondOfficeModel", 195, "share", 13) ∈ cs_R := List.getElem_mem (l := cs_R) (n := 4) (by decide)
theorem cR_5 : ("BondOfficeModel", 193, "x", 16) ∈ cs_R := List.getElem_mem (l := cs_R) (n := 5) (by decide)
theorem cR_6 : ("BondOffice$Kind", 68, "days", 11) ∈ cs_R := List.getElem_mem (l := cs_R) (n := 6) (by decide)
theorem cR_7 : ("BondOffice$Kind", 70, "", 14) ∈ cs_R := List.getElem_mem (l := cs_R) (n := 7) (by decide)
theorem cR_8 : ("BondOffice$Kind", 58, "fund", 10) ∈ cs_R := List.getElem_mem (l := cs_R) (n := 8) (by decide)
theorem cR_9 : ("BondOffice$Kind", 61, "/", 15) ∈ cs_R := List.getElem_mem (l := cs_R) (n := 9) (by decide)
theorem cR_10 : ("BondOffice$Kind", 73, "tier", 12) ∈ cs_R := List.getElem_mem (l := cs_R) (n := 10) (by decide)
theorem cR_11 : ("BondOffice$Kind", 75, "x", 16) ∈ cs_R := List.getElem_mem (l := cs_R) (n := 11) (by decide)
theorem cR_12 : ("BondOffice$Kind", 78, "share", 13) ∈ cs_R := List.getElem_mem (l := cs_R) (n := 12) (by decide)
theorem cR_13 : ("BondOffice", 63, "there are 60 holders", 30) ∈ cs_R := List.getElem_mem (l := cs_R) (n := 13) (by decide)
theorem cR_14 : ("BondOffice", 255, "no such holder", 31) ∈ cs_R := List.getElem_mem (l := cs_R) (n := 14) (by decide)
theorem cR_15 : ("BondOffice", 82, "bonds bought are 1 to 10,000,000", 32) ∈ cs_R := List.getElem_mem (l := cs_R) (n := 15) (by decide)
theorem cR_16 : ("BondOffice", 257, "the holder died", 33) ∈ cs_R := List.getElem_mem (l := cs_R) (n := 16) (by decide)
theorem cR_17 : ("BondOffice", 259, "both holders are one", 34) ∈ cs_R := List.getElem_mem (l := cs_R) (n := 17) (by decide)
theorem cR_18 : ("BondOffice", 132, "no such line", 35) ∈ cs_R := List.getElem_mem (l := cs_R) (n := 18) (by decide)
theorem cR_19 : ("BondOffice", 135, "no such fact of a line", 36) ∈ cs_R := List.getElem_mem (l := cs_R) (n := 19) (by decide)
theorem cR_20 : ("BondOffice", 143, "days are 0 to 10,000, and the day is at most 100,000", 37) ∈ cs_R := List.getElem_mem (l := cs_R) (n := 20) (by decide)
theorem cR_21 : ("BondOffice", 148, "no such bytes on the tape, or no such day", 38) ∈ cs_R := List.getElem_mem (l := cs_R) (n := 21) (by decide)
theorem cR_22 : ("BondOffice", 150, "there are 20 rules", 39) ∈ cs_R := List.getElem_mem (l := cs_R) (n := 22) (by decide)
theorem cR_23 : ("BondOffice", 223, "no such draw", 40) ∈ cs_R := List.getElem_mem (l := cs_R) (n := 23) (by decide)
theorem cR_24 : ("BondOffice", 225, "no such fact of a draw", 41) ∈ cs_R := List.getElem_mem (l := cs_R) (n := 24) (by decide)
theorem cR_25 : ("BondOffice", 261, "no such win", 42) ∈ cs_R := List.getElem_mem (l := cs_R) (n := 25) (by decide)
theorem cR_26 : ("BondOffice", 233, "no such fact of a win", 43) ∈ cs_R := List.getElem_mem (l := cs_R) (n := 26) (by decide)
theorem cZ_0 : ("java/util/ArrayList", "DEFAULTCAPACITY_EMPTY_ELEMENTDATA", "[Ljava/lang/Object;", fun ad => .ref (ad 1)) ∈ cs_Z := List.getElem_mem (l := cs_Z) (n := 0) (by decide)
theorem cZ_1 : ("BondOffice$RuleReader", "KINDS", "[LBondOffice$Kind;", fun ad => .ref (ad 2)) ∈ cs_Z := List.getElem_mem (l := cs_Z) (n := 1) (by decide)
theorem cZ_2 : ("BondOffice$Kind", "FUND", "LBondOffice$Kind;", fun ad => .ref (ad 3)) ∈ cs_Z := List.getElem_mem (l := cs_Z) (n := 2) (by decide)
theorem cZ_3 : ("BondOffice$Kind", "DAYS", "LBondOffice$Kind;", fun ad => .ref (ad 4)) ∈ cs_Z := List.getElem_mem (l := cs_Z) (n := 3) (by decide)
theorem cZ_4 : ("BondOffice$Kind", "TIER", "LBondOffice$Kind;", fun ad => .ref (ad 5)) ∈ cs_Z := List.getElem_mem (l := cs_Z) (n := 4) (by decide)
theorem cZ_5 : ("BondOffice$Kind", "SHARE", "LBondOffice$Kind;", fun ad => .ref (ad 6)) ∈ cs_Z := List.getElem_mem (l := cs_Z) (n := 5) (by decide)
theorem cZ_6 : ("java/lang/String", "COMPACT_STRINGS", "Z", fun _ => .int 1) ∈ cs_Z := List.getElem_mem (l := cs_Z) (n := 6) (by decide)
theorem cF_0 : ("BondOffice$Kind", "word", "Ljava/lang/String;", 3, fun ad => .ref (ad 10)) ∈ cs_F := List.getElem_mem (l := cs_F) (n := 0) (by decide)
theorem cF_1 : ("BondOffice$Kind", "firstLeast", "I", 3, fun _ => .int 0) ∈ cs_F := List.getElem_mem (l := cs_F) (n := 1) (by decide)
theorem cF_2 : ("BondOffice$Kind", "firstMost", "I", 3, fun _ => .int 1000000) ∈ cs_F := List.getElem_mem (l := cs_F) (n := 2) (by decide)
theorem cF_3 : ("BondOffice$Kind", "joint", "Ljava/lang/String;", 3, fun ad => .ref (ad 15)) ∈ cs_F := List.getElem_mem (l := cs_F) (n := 3) (by decide)
theorem cF_4 : ("BondOffice$Kind", "secondLeast", "I", 3, fun _ => .int 1) ∈ cs_F := List.getElem_mem (l := cs_F) (n := 4) (by decide)
theorem cF_5 : ("BondOffice$Kind", "secondMost", "I", 3, fun _ => .int (1000000000)) ∈ cs_F := List.getElem_mem (l := cs_F) (n := 5) (by decide)
theorem cF_6 : ("BondOffice$Kind", "word", "Ljava/lang/String;", 4, fun ad => .ref (ad 11)) ∈ cs_F := List.getElem_mem (l := cs_F) (n := 6) (by decide)
theorem cF_7 : ("BondOffice$Kind", "firstLeast", "I", 4, fun _ => .int 0) ∈ cs_F := List.getElem_mem (l := cs_F) (n := 7) (by decide)
theorem cF_8 : ("BondOffice$Kind", "firstMost", "I", 4, fun _ => .int 1000000000) ∈ cs_F := List.getElem_mem (l := cs_F) (n := 8) (by decide)
theorem cF_9 : ("BondOffice$Kind", "joint", "Ljava/lang/String;", 4, fun ad => .ref (ad 14)) ∈ cs_F := List.getElem_mem (l := cs_F) (n := 9) (by decide)
theorem cF_10 : ("BondOffice$Kind", "secondLeast", "I", 4, fun _ => .int 0) ∈ cs_F := List.getElem_mem (l := cs_F) (n := 10) (by decide)
theorem cF_11 : ("BondOffice$Kind", "secondMost", "I", 4, fun _ => .int (-1)) ∈ cs_F := List.getElem_mem (l := cs_F) (n := 11) (by decide)
theorem cF_12 : ("BondOffice$Kind", "word", "Ljava/lang/String;", 5, fun ad => .ref (ad 12)) ∈ cs_F := List.getElem_mem (l := cs_F) (n := 12) (by decide)
theorem cF_13 : ("BondOffice$Kind", "firstLeast", "I", 5, fun _ => .int 1) ∈ cs_F := List.getElem_mem (l := cs_F) (n := 13) (by decide)
theorem cF_14 : ("BondOffice$Kind", "firstMost", "I", 5, fun _ => .int 1000000000) ∈ cs_F := List.getElem_mem (l := cs_F) (n := 14) (by decide)
theorem cF_15 : ("BondOffice$Kind", "joint", "Ljava/lang/String;", 5, fun ad => .ref (ad 16)) ∈ cs_F := List.getElem_mem (l := cs_F) (n := 15) (by decide)
theorem cF_16 : ("BondOffice$Kind", "secondLeast", "I", 5, fun _ => .int 0) ∈ cs_F := List.getElem_mem (l := cs_F) (n := 16) (by decide)
theorem cF_17 : ("BondOffice$Kind", "secondMost", "I", 5, fun _ => .int (1000000000)) ∈ cs_F := List.getElem_mem (l := cs_F) (n := 17) (by decide)
theorem cF_18 : ("BondOffice$Kind", "word", "Ljava/lang/String;", 6, fun ad => .ref (ad 13)) ∈ cs_F := List.getElem_mem (l := cs_F) (n := 18) (by decide)
theorem cF_19 : ("BondOffice$Kind", "firstLeast", "I", 6, fun _ => .int 1) ∈ cs_F := List.getElem_mem (l := cs_F) (n := 19) (by decide)
theorem cF_20 : ("BondOffice$Kind", "firstMost", "I", 6, fun _ => .int 1000000000) ∈ cs_F := List.getElem_mem (l := cs_F) (n := 20) (by decide)
theorem cF_21 : ("BondOffice$Kind", "joint", "Ljava/lang/String;", 6, fun ad => .ref (ad 14)) ∈ cs_F := List.getElem_mem (l := cs_F) (n := 21) (by decide)
theorem cF_22 : ("BondOffice$Kind", "secondLeast", "I", 6, fun _ => .int 0) ∈ cs_F := List.getElem_mem (l := cs_F) (n := 22) (by decide)
theorem cF_23 : ("BondOffice$Kind", "secondMost", "I", 6, fun _ => .int (100)) ∈ cs_F := List.getElem_mem (l := cs_F) (n := 23) (by decide)
theorem cF_24 : ("java/lang/String", "value", "[B", 10, fun ad => .ref (ad 20)) ∈ cs_F := List.getElem_mem (l := cs_F) (n := 24) (by decide)
theorem cF_25 : ("java/lang/String", "coder", "B", 10, fun _ => .int 0) ∈ cs_F := List.getElem_mem (l := cs_F) (n := 25) (by decide)
theorem cF_26 : ("java/lang/String", "value", "[B", 11, fun ad => .ref (ad 21)) ∈ cs_F := List.getElem_mem (l := cs_F) (n := 26) (by decide)
theorem cF_27 : ("java/lang/String", "coder", "B", 11, fun _ => .int 0) ∈ cs_F := List.getElem_mem (l := cs_F) (n := 27) (by decide)
theorem cF_28 : ("java/lang/String", "value", "[B", 12, fun ad => .ref (ad 22)) ∈ cs_F := List.getElem_mem (l := cs_F) (n := 28) (by decide)
theorem cF_29 : ("java/lang/String", "coder", "B", 12, fun _ => .int 0) ∈ cs_F := List.getElem_mem (l := cs_F) (n := 29) (by decide)
theorem cF_30 : ("java/lang/String", "value", "[B", 13, fun ad => .ref (ad 23)) ∈ cs_F := List.getElem_mem (l := cs_F) (n := 30) (by decide)
theorem cF_31 : ("java/lang/String", "coder", "B", 13, fun _ => .int 0) ∈ cs_F := List.getElem_mem (l := cs_F) (n := 31) (by decide)
theorem cF_32 : ("java/lang/String", "value", "[B", 14, fun ad => .ref (ad 24)) ∈ cs_F := List.getElem_mem (l := cs_F) (n := 32) (by decide)
theorem cF_33 : ("java/lang/String", "coder", "B", 14, fun _ => .int 0) ∈ cs_F := List.getElem_mem (l := cs_F) (n := 33) (by decide)
theorem cF_34 : ("java/lang/String", "value", "[B", 15, fun ad => .ref (ad 25)) ∈ cs_F := List.getElem_mem (l := cs_F) (n := 34) (by decide)
theorem cF_35 : ("java/lang/String", "coder", "B", 15, fun _ => .int 0) ∈ cs_F := List.getElem_mem (l := cs_F) (n := 35) (by decide)
theorem cF_36 : ("java/lang/String", "value", "[B", 16, fun ad => .ref (ad 26)) ∈ cs_F := List.getElem_mem (l := cs_F) (n := 36) (by decide)
theorem cF_37 : ("java/lang/String", "coder", "B", 16, fun _ => .int 0) ∈ cs_F := List.getElem_mem (l := cs_F) (n := 37) (by decide)
theorem cF_38 : ("java/lang/String", "value", "[B", 17, fun ad => .ref (ad 27)) ∈ cs_F := List.getElem_mem (l := cs_F) (n := 38) (by decide)
theorem cF_39 : ("java/lang/String", "coder", "B", 17, fun _ => .int 0) ∈ cs_F := List.getElem_mem (l := cs_F) (n := 39) (by decide)
theorem cT_0 : (.object "java/lang/Object", 1, 0, fun _ _ => .null) ∈ cs_T := List.getElem_mem (l := cs_T) (n := 0) (by decide)
theorem cT_1 : (.object "BondOffice$Kind", 2, 4, fun ad i => .ref (ad (3 + i))) ∈ cs_T := List.getElem_mem (l := cs_T) (n := 1) (by decide)
theorem cT_2 : (.byte, 20, 4, fun _ i => .int (([102, 117, 110, 100] : List Int32).getD i 0)) ∈ cs_T := List.getElem_mem (l := cs_T) (n := 2) (by decide)
theorem cT_3 : (.byte, 21, 4, fun _ i => .int (([100, 97, 121, 115] : List Int32).getD i 0)) ∈ cs_T := List.getElem_mem (l := cs_T) (n := 3) (by decide)
theorem cT_4 : (.byte, 22, 4, fun _ i => .int (([116, 105, 101, 114] : List Int32).getD i 0)) ∈ cs_T := List.getElem_mem (l := cs_T) (n := 4) (by decide)
theorem cT_5 : (.byte, 23, 5, fun _ i => .int (([115, 104, 97, 114, 101] : List Int32).getD i 0)) ∈ cs_T := List.getElem_mem (l := cs_T) (n := 5) (by decide)
theorem cT_6 : (.byte, 24, 0, fun _ i => .int (([] : List Int32).getD i 0)) ∈ cs_T := List.getElem_mem (l := cs_T) (n := 6) (by decide)
theorem cT_7 : (.byte, 25, 1, fun _ i => .int (([47] : List Int32).getD i 0)) ∈ cs_T := List.getElem_mem (l := cs_T) (n := 7) (by decide)
theorem cT_8 : (.byte, 26, 1, fun _ i => .int (([120] : List Int32).getD i 0)) ∈ cs_T := List.getElem_mem (l := cs_T) (n := 8) (by decide)
theorem cT_9 : (.byte, 27, 1, fun _ i => .int (([59] : List Int32).getD i 0)) ∈ cs_T := List.getElem_mem (l := cs_T) (n := 9) (by decide)
theorem cO_0 : ("BondOffice$Kind", 3) ∈ cs_O := List.getElem_mem (l := cs_O) (n := 0) (by decide)
theorem cO_1 : ("BondOffice$Kind", 4) ∈ cs_O := List.getElem_mem (l := cs_O) (n := 1) (by decide)
theorem cO_2 : ("BondOffice$Kind", 5) ∈ cs_O := List.getElem_mem (l := cs_O) (n := 2) (by decide)
theorem cO_3 : ("BondOffice$Kind", 6) ∈ cs_O := List.getElem_mem (l := cs_O) (n := 3) (by decide)
theorem cO_4 : ("java/lang/String", 10) ∈ cs_O := List.getElem_mem (l := cs_O) (n := 4) (by decide)
theorem cO_5 : ("java/lang/String", 11) ∈ cs_O := List.getElem_mem (l := cs_O) (n := 5) (by decide)
theorem cO_6 : ("java/lang/String", 12) ∈ cs_O := List.getElem_mem (l := cs_O) (n := 6) (by decide)
theorem cO_7 : ("java/lang/String", 13) ∈ cs_O := List.getElem_mem (l := cs_O) (n := 7) (by decide)
theorem cO_8 : ("java/lang/String", 14) ∈ cs_O := List.getElem_mem (l := cs_O) (n := 8) (by decide)
theorem cO_9 : ("java/lang/String", 15) ∈ cs_O := List.getElem_mem (l := cs_O) (n := 9) (by decide)
theorem cO_10 : ("java/lang/String", 16) ∈ cs_O := List.getElem_mem (l := cs_O) (n := 10) (by decide)
theorem cO_11 : ("java/lang/String", 17) ∈ cs_O := List.getElem_mem (l := cs_O) (n := 11) (by decide)
theorem cO_12 : ("[Ljava/lang/Object;", 1) ∈ cs_O := List.getElem_mem (l := cs_O) (n := 12) (by decide)
set_option maxRecDepth 20000 in
set_option maxHeartbeats 2000000 in
theorem c_coder_0 (g : gl_T) {S : hs_T} {n k : Nat}  : ex_M g 0 mJ0_coder_7d493 [.ref (g.2.2.2.2 10)] S n k (ex_rt (some (.int 0)) S n k) := by
  refine ex_enter (by decide +kernel) (Nat.le_of_ble_eq_true rfl) ?_
  show ex_W _ _ _ _ 0 [(0, .ref (g.2.2.2.2 10))] [] _ _ _
  refine ex_gets (q := ("java/lang/String", "COMPACT_STRINGS", "Z", fun _ => .int 1)) dJ0_coder_7d493_0 cZ_6 gs_J0_38 ?_
  refine ex_if_eq (tgt := 13) dJ0_coder_7d493_3 (by decide) (fun c3 => absurd c3 (by decide)) (fun c3 => ?_)
  refine ex_aload_n dJ0_coder_7d493_6 0 rfl ?_
  refine ex_getC (q := ("java/lang/String", "coder", "B", 10, fun _ => .int 0)) dJ0_coder_7d493_7 cF_25 gc_J0_15 ?_
  refine ex_goto (tgt := 14) dJ0_coder_7d493_10 (by decide) ?_
  exact ex_zret rfl (by decide +kernel) dJ0_coder_7d493_14 ex_rt_i
set_option maxRecDepth 20000 in
set_option maxHeartbeats 2000000 in
theorem c_latin_0 (g : gl_T) {S : hs_T} {n k : Nat}  : ex_M g 0 mJ0_isLatin1_aae02 [.ref (g.2.2.2.2 10)] S n k (ex_rt (some (.int 1)) S n k) := by
  refine ex_enter (by decide +kernel) (Nat.le_of_ble_eq_true rfl) ?_
  show ex_W _ _ _ _ 0 [(0, .ref (g.2.2.2.2 10))] [] _ _ _
  refine ex_gets (q := ("java/lang/String", "COMPACT_STRINGS", "Z", fun _ => .int 1)) dJ0_isLatin1_aae02_0 cZ_6 gs_J0_38 ?_
  refine ex_if_eq (tgt := 17) dJ0_isLatin1_aae02_3 (by decide) (fun c3 => absurd c3 (by decide)) (fun c3 => ?_)
  refine ex_aload_n dJ0_isLatin1_aae02_6 0 rfl ?_
  refine ex_getC (q := ("java/lang/String", "coder", "B", 10, fun _ => .int 0)) dJ0_isLatin1_aae02_7 cF_25 gc_J0_15 ?_
  refine ex_if_ne (tgt := 17) dJ0_isLatin1_aae02_10 (by decide) (fun c10 => absurd (by decide) c10) (fun c10 => ?_)
  refine ex_iconst (v := 1) dJ0_isLatin1_aae02_13 (by decide) ?_
  refine ex_goto (tgt := 18) dJ0_isLatin1_aae02_14 (by decide) ?_
  exact ex_bret rfl (by decide) dJ0_isLatin1_aae02_18 ex_rt_i
set_option maxRecDepth 20000 in
set_option maxHeartbeats 2000000 in
theorem c_len_0 (g : gl_T) {S : hs_T} {n k : Nat}  : ex_M g 1 mJ0_length_8abf5 [.ref (g.2.2.2.2 10)] S n k (ex_rt (some (.int 4)) S n k) := by
  refine ex_enter (by decide +kernel) (Nat.le_of_ble_eq_true rfl) ?_
  show ex_W _ _ _ _ 0 [(0, .ref (g.2.2.2.2 10))] [] _ _ _
  refine ex_aload_n dJ0_length_8abf5_0 0 rfl ?_
  refine ex_getC (q := ("java/lang/String", "value", "[B", 10, fun ad => .ref (ad 20))) dJ0_length_8abf5_1 cF_24 gc_J0_9 ?_
  refine ex_alenC (q := (.byte, 20, 4, fun _ i => .int (([102, 117, 110, 100] : List Int32).getD i 0))) dJ0_length_8abf5_4 cT_2 ?_
  refine ex_aload_n dJ0_length_8abf5_5 0 rfl ?_
  refine ex_cVC (q := ("java/lang/String", 10)) [] [.int (nI 4)] dJ0_length_8abf5_6 cV_J0_335 (c_coder_0 g) cO_4 rfl rfl (by decide) (Nat.le_of_ble_eq_true rfl) rfl ?_
  refine ex_ishr dJ0_length_8abf5_9 ?_
  exact ex_irt rfl dJ0_length_8abf5_10 (ex_rt_e (by decide))
set_option maxRecDepth 20000 in
set_option maxHeartbeats 2000000 in
theorem c_coder_1 (g : gl_T) {S : hs_T} {n k : Nat}  : ex_M g 0 mJ0_coder_7d493 [.ref (g.2.2.2.2 11)] S n k (ex_rt (some (.int 0)) S n k) := by
  refine ex_enter (by decide +kernel) (Nat.le_of_ble_eq_true rfl) ?_
  show ex_W _ _ _ _ 0 [(0, .ref (g.2.2.2.2 11))] [] _ _ _
  refine ex_gets (q := ("java/lang/String", "COMPACT_STRINGS", "Z", fun _ => .int 1)) dJ0_coder_7d493_0 cZ_6 gs_J0_38 ?_
  refine ex_if_eq (tgt := 13) dJ0_coder_7d493_3 (by decide) (fun c3 => absurd c3 (by decide)) (fun c3 => ?_)
  refine ex_aload_n dJ0_coder_7d493_6 0 rfl ?_
  refine ex_getC (q := ("java/lang/String", "coder", "B", 11, fun _ => .int 0)) dJ0_coder_7d493_7 cF_27 gc_J0_15 ?_
  refine ex_goto (tgt := 14) dJ0_coder_7d493_10 (by decide) ?_
  exact ex_zret rfl (by decide +kernel) dJ0_coder_7d493_14 ex_rt_i
set_option maxRecDepth 20000 in
set_option maxHeartbeats 2000000 in
theorem c_latin_1 (g : gl_T) {S : hs_T} {n k : Nat}  : ex_M g 0 mJ0_isLatin1_aae02 [.ref (g.2.2.2.2 11)] S n k (ex_rt (some (.int 1)) S n k) := by
  refine ex_enter (by decide +kernel) (Nat.le_of_ble_eq_true rfl) ?_
  show ex_W _ _ _ _ 0 [(0, .ref (g.2.2.2.2 11))] [] _ _ _
  refine ex_gets (q := ("java/lang/String", "COMPACT_STRINGS", "Z", fun _ => .int 1)) dJ0_isLatin1_aae02_0 cZ_6 gs_J0_38 ?_
  refine ex_if_eq (tgt := 17) dJ0_isLatin1_aae02_3 (by decide) (fun c3 => absurd c3 (by decide)) (fun c3 => ?_)
  refine ex_aload_n dJ0_isLatin1_aae02_6 0 rfl ?_
  refine ex_getC (q := ("java/lang/String", "coder", "B", 11, fun _ => .int 0)) dJ0_isLatin1_aae02_7 cF_27 gc_J0_15 ?_
  refine ex_if_ne (tgt := 17) dJ0_isLatin1_aae02_10 (by decide) (fun c10 => absurd (by decide) c10) (fun c10 => ?_)
  refine ex_iconst (v := 1) dJ0_isLatin1_aae02_13 (by decide) ?_
  refine ex_goto (tgt := 18) dJ0_isLatin1_aae02_14 (by decide) ?_
  exact ex_bret rfl (by decide) dJ0_isLatin1_aae02_18 ex_rt_i
set_option maxRecDepth 20000 in
set_option maxHeartbeats 2000000 in
theorem c_len_1 (g : gl_T) {S : hs_T} {n k : Nat}  : ex_M g 1 mJ0_length_8abf5 [.ref (g.2.2.2.2 11)] S n k (ex_rt (some (.int 4)) S n k) := by
  refine ex_enter (by decide +kernel) (Nat.le_of_ble_eq_true rfl) ?_
  show ex_W _ _ _ _ 0 [(0, .ref (g.2.2.2.2 11))] [] _ _ _
  refine ex_aload_n dJ0_length_8abf5_0 0 rfl ?_
  refine ex_getC (q := ("java/lang/String", "value", "[B", 11, fun ad => .ref (ad 21))) dJ0_length_8abf5_1 cF_26 gc_J0_9 ?_
  refine ex_alenC (q := (.byte, 21, 4, fun _ i => .int (([100, 97, 121, 115] : List Int32).getD i 0))) dJ0_length_8abf5_4 cT_3 ?_
  refine ex_aload_n dJ0_length_8abf5_5 0 rfl ?_
  refine ex_cVC (q := ("java/lang/String", 11)) [] [.int (nI 4)] dJ0_length_8abf5_6 cV_J0_335 (c_coder_1 g) cO_5 rfl rfl (by decide) (Nat.le_of_ble_eq_true rfl) rfl ?_
  refine ex_ishr dJ0_length_8abf5_9 ?_
  exact ex_irt rfl dJ0_length_8abf5_10 (ex_rt_e (by decide))
set_option maxRecDepth 20000 in
set_option maxHeartbeats 2000000 in
theorem c_coder_2 (g : gl_T) {S : hs_T} {n k : Nat}  : ex_M g 0 mJ0_coder_7d493 [.ref (g.2.2.2.2 12)] S n k (ex_rt (some (.int 0)) S n k) := by
  refine ex_enter (by decide +kernel) (Nat.le_of_ble_eq_true rfl) ?_
  show ex_W _ _ _ _ 0 [(0, .ref (g.2.2.2.2 12))] [] _ _ _
  refine ex_gets (q := ("java/lang/String", "COMPACT_STRINGS", "Z", fun _ => .int 1)) dJ0_coder_7d493_0 cZ_6 gs_J0_38 ?_
  refine ex_if_eq (tgt := 13) dJ0_coder_7d493_3 (by decide) (fun c3 => absurd c3 (by decide)) (fun c3 => ?_)
  refine ex_aload_n dJ0_coder_7d493_6 0 rfl ?_
  refine ex_getC (q := ("java/lang/String", "coder", "B", 12, fun _ => .int 0)) dJ0_coder_7d493_7 cF_29 gc_J0_15 ?_
  refine ex_goto (tgt := 14) dJ0_coder_7d493_10 (by decide) ?_
  exact ex_zret rfl (by decide +kernel) dJ0_coder_7d493_14 ex_rt_i
set_option maxRecDepth 20000 in
set_option maxHeartbeats 2000000 in
theorem c_latin_2 (g : gl_T) {S : hs_T} {n k : Nat}  : ex_M g 0 mJ0_isLatin1_aae02 [.ref (g.2.2.2.2 12)] S n k (ex_rt (some (.int 1)) S n k) := by
  refine ex_enter (by decide +kernel) (Nat.le_of_ble_eq_true rfl) ?_
  show ex_W _ _ _ _ 0 [(0, .ref (g.2.2.2.2 12))] [] _ _ _
  refine ex_gets (q := ("java/lang/String", "COMPACT_STRINGS", "Z", fun _ => .int 1)) dJ0_isLatin1_aae02_0 cZ_6 gs_J0_38 ?_
  refine ex_if_eq (tgt := 17) dJ0_isLatin1_aae02_3 (by decide) (fun c3 => absurd c3 (by decide)) (fun c3 => ?_)
  refine ex_aload_n dJ0_isLatin1_aae02_6 0 rfl ?_
  refine ex_getC (q := ("java/lang/String", "coder", "B", 12, fun _ => .int 0)) dJ0_isLatin1_aae02_7 cF_29 gc_J0_15 ?_
  refine ex_if_ne (tgt := 17) dJ0_isLatin1_aae02_10 (by decide) (fun c10 => absurd (by decide) c10) (fun c10 => ?_)
  refine ex_iconst (v := 1) dJ0_isLatin1_aae02_13 (by decide) ?_
  refine ex_goto (tgt := 18) dJ0_isLatin1_aae02_14 (by decide) ?_
  exact ex_bret rfl (by decide) dJ0_isLatin1_aae02_18 ex_rt_i
set_option maxRecDepth 20000 in
set_option maxHeartbeats 2000000 in
theorem c_len_2 (g : gl_T) {S : hs_T} {n k : Nat}  : ex_M g 1 mJ0_length_8abf5 [.ref (g.2.2.2.2 12)] S n k (ex_rt (some (.int 4)) S n k) := by
  refine ex_enter (by decide +kernel) (Nat.le_of_ble_eq_true rfl) ?_
  show ex_W _ _ _ _ 0 [(0, .ref (g.2.2.2.2 12))] [] _ _ _
  refine ex_aload_n dJ0_length_8abf5_0 0 rfl ?_
  refine ex_getC (q := ("java/lang/String", "value", "[B", 12, fun ad => .ref (ad 22))) dJ0_length_8abf5_1 cF_28 gc_J0_9 ?_
  refine ex_alenC (q := (.byte, 22, 4, fun _ i => .int (([116, 105, 101, 114] : List Int32).getD i 0))) dJ0_length_8abf5_4 cT_4 ?_
  refine ex_aload_n dJ0_length_8abf5_5 0 rfl ?_
  refine ex_cVC (q := ("java/lang/String", 12)) [] [.int (nI 4)] dJ0_length_8abf5_6 cV_J0_335 (c_coder_2 g) cO_6 rfl rfl (by decide) (Nat.le_of_ble_eq_true rfl) rfl ?_
  refine ex_ishr dJ0_length_8abf5_9 ?_
  exact ex_irt rfl dJ0_length_8abf5_10 (ex_rt_e (by decide))
set_option maxRecDepth 20000 in
set_option maxHeartbeats 2000000 in
theorem c_coder_3 (g : gl_T) {S : hs_T} {n k : Nat}  : ex_M g 0 mJ0_coder_7d493 [.ref (g.2.2.2.2 13)] S n k (ex_rt (some (.int 0)) S n k) := by
  refine ex_enter (by decide +kernel) (Nat.le_of_ble_eq_true rfl) ?_
  show ex_W _ _ _ _ 0 [(0, .ref (g.2.2.2.2 13))] [] _ _ _
  refine ex_gets (q := ("java/lang/String", "COMPACT_STRINGS", "Z", fun _ => .int 1)) dJ0_coder_7d493_0 cZ_6 gs_J0_38 ?_
  refine ex_if_eq (tgt := 13) dJ0_coder_7d493_3 (by decide) (fun c3 => absurd c3 (by decide)) (fun c3 => ?_)
  refine ex_aload_n dJ0_coder_7d493_6 0 rfl ?_
  refine ex_getC (q := ("java/lang/String", "coder", "B", 13, fun _ => .int 0)) dJ0_coder_7d493_7 cF_31 gc_J0_15 ?_
  refine ex_goto (tgt := 14) dJ0_coder_7d493_10 (by decide) ?_
  exact ex_zret rfl (by decide +kernel) dJ0_coder_7d493_14 ex_rt_i
set_option maxRecDepth 20000 in
set_option maxHeartbeats 2000000 in
theorem c_latin_3 (g : gl_T) {S : hs_T} {n k : Nat}  : ex_M g 0 mJ0_isLatin1_aae02 [.ref (g.2.2.2.2 13)] S n k (ex_rt (some (.int 1)) S n k) := by
  refine ex_enter (by decide +kernel) (Nat.le_of_ble_eq_true rfl) ?_
  show ex_W _ _ _ _ 0 [(0, .ref (g.2.2.2.2 13))] [] _ _ _
  refine ex_gets (q := ("java/lang/String", "COMPACT_STRINGS", "Z", fun _ => .int 1)) dJ0_isLatin1_aae02_0 cZ_6 gs_J0_38 ?_
  refine ex_if_eq (tgt := 17) dJ0_isLatin1_aae02_3 (by decide) (fun c3 => absurd c3 (by decide)) (fun c3 => ?_)
  refine ex_aload_n dJ0_isLatin1_aae02_6 0 rfl ?_
  refine ex_getC (q := ("java/lang/String", "coder", "B", 13, fun _ => .int 0)) dJ0_isLatin1_aae02_7 cF_31 gc_J0_15 ?_
  refine ex_if_ne (tgt := 17) dJ0_isLatin1_aae02_10 (by decide) (fun c10 => absurd (by decide) c10) (fun c10 => ?_)
  refine ex_iconst (v := 1) dJ0_isLatin1_aae02_13 (by decide) ?_
  refine ex_goto (tgt := 18) dJ0_isLatin1_aae02_14 (by decide) ?_
  exact ex_bret rfl (by decide) dJ0_isLatin1_aae02_18 ex_rt_i
set_option maxRecDepth 20000 in
set_option maxHeartbeats 2000000 in
theorem c_len_3 (g : gl_T) {S : hs_T} {n k : Nat}  : ex_M g 1 mJ0_length_8abf5 [.ref (g.2.2.2.2 13)] S n k (ex_rt (some (.int 5)) S n k) := by
  refine ex_enter (by decide +kernel) (Nat.le_of_ble_eq_true rfl) ?_
  show ex_W _ _ _ _ 0 [(0, .ref (g.2.2.2.2 13))] [] _ _ _
  refine ex_aload_n dJ0_length_8abf5_0 0 rfl ?_
  refine ex_getC (q := ("java/lang/String", "value", "[B", 13, fun ad => .ref (ad 23))) dJ0_length_8abf5_1 cF_30 gc_J0_9 ?_
  refine ex_alenC (q := (.byte, 23, 5, fun _ i => .int (([115, 104, 97, 114, 101] : List Int32).getD i 0))) dJ0_length_8abf5_4 cT_5 ?_
  refine ex_aload_n dJ0_length_8abf5_5 0 rfl ?_
  refine ex_cVC (q := ("java/lang/String", 13)) [] [.int (nI 5)] dJ0_length_8abf5_6 cV_J0_335 (c_coder_3 g) cO_7 rfl rfl (by decide) (Nat.le_of_ble_eq_true rfl) rfl ?_
  refine ex_ishr dJ0_length_8abf5_9 ?_
  exact ex_irt rfl dJ0_length_8abf5_10 (ex_rt_e (by decide))
set_option maxRecDepth 20000 in
set_option maxHeartbeats 2000000 in
theorem c_coder_4 (g : gl_T) {S : hs_T} {n k : Nat}  : ex_M g 0 mJ0_coder_7d493 [.ref (g.2.2.2.2 14)] S n k (ex_rt (some (.int 0)) S n k) := by
  refine ex_enter (by decide +kernel) (Nat.le_of_ble_eq_true rfl) ?_
  show ex_W _ _ _ _ 0 [(0, .ref (g.2.2.2.2 14))] [] _ _ _
  refine ex_gets (q := ("java/lang/String", "COMPACT_STRINGS", "Z", fun _ => .int 1)) dJ0_coder_7d493_0 cZ_6 gs_J0_38 ?_
  refine ex_if_eq (tgt := 13) dJ0_coder_7d493_3 (by decide) (fun c3 => absurd c3 (by decide)) (fun c3 => ?_)
  refine ex_aload_n dJ0_coder_7d493_6 0 rfl ?_
  refine ex_getC (q := ("java/lang/String", "coder", "B", 14, fun _ => .int 0)) dJ0_coder_7d493_7 cF_33 gc_J0_15 ?_
  refine ex_goto (tgt := 14) dJ0_coder_7d493_10 (by decide) ?_
  exact ex_zret rfl (by decide +kernel) dJ0_coder_7d493_14 ex_rt_i
set_option maxRecDepth 20000 in
set_option maxHeartbeats 2000000 in
theorem c_latin_4 (g : gl_T) {S : hs_T} {n k : Nat}  : ex_M g 0 mJ0_isLatin1_aae02 [.ref (g.2.2.2.2 14)] S n k (ex_rt (some (.int 1)) S n k) := by
  refine ex_enter (by decide +kernel) (Nat.le_of_ble_eq_true rfl) ?_
  show ex_W _ _ _ _ 0 [(0, .ref (g.2.2.2.2 14))] [] _ _ _
  refine ex_gets (q := ("java/lang/String", "COMPACT_STRINGS", "Z", fun _ => .int 1)) dJ0_isLatin1_aae02_0 cZ_6 gs_J0_38 ?_
  refine ex_if_eq (tgt := 17) dJ0_isLatin1_aae02_3 (by decide) (fun c3 => absurd c3 (by decide)) (fun c3 => ?_)
  refine ex_aload_n dJ0_isLatin1_aae02_6 0 rfl ?_
  refine ex_getC (q := ("java/lang/String", "coder", "B", 14, fun _ => .int 0)) dJ0_isLatin1_aae02_7 cF_33 gc_J0_15 ?_
  refine ex_if_ne (tgt := 17) dJ0_isLatin1_aae02_10 (by decide) (fun c10 => absurd (by decide) c10) (fun c10 => ?_)
  refine ex_iconst (v := 1) dJ0_isLatin1_aae02_13 (by decide) ?_
  refine ex_goto (tgt := 18) dJ0_isLatin1_aae02_14 (by decide) ?_
  exact ex_bret rfl (by decide) dJ0_isLatin1_aae02_18 ex_rt_i
set_option maxRecDepth 20000 in
set_option maxHeartbeats 2000000 in
theorem c_len_4 (g : gl_T) {S : hs_T} {n k : Nat}  : ex_M g 1 mJ0_length_8abf5 [.ref (g.2.2.2.2 14)] S n k (ex_rt (some (.int 0)) S n k) := by
  refine ex_enter (by decide +kernel) (Nat.le_of_ble_eq_true rfl) ?_
  show ex_W _ _ _ _ 0 [(0, .ref (g.2.2.2.2 14))] [] _ _ _
  refine ex_aload_n dJ0_length_8abf5_0 0 rfl ?_
  refine ex_getC (q := ("java/lang/String", "value", "[B", 14, fun ad => .ref (ad 24))) dJ0_length_8abf5_1 cF_32 gc_J0_9 ?_
  refine ex_alenC (q := (.byte, 24, 0, fun _ i => .int (([] : List Int32).getD i 0))) dJ0_length_8abf5_4 cT_6 ?_
  refine ex_aload_n dJ0_length_8abf5_5 0 rfl ?_
  refine ex_cVC (q := ("java/lang/String", 14)) [] [.int (nI 0)] dJ0_length_8abf5_6 cV_J0_335 (c_coder_4 g) cO_8 rfl rfl (by decide) (Nat.le_of_ble_eq_true rfl) rfl ?_
  refine ex_ishr dJ0_length_8abf5_9 ?_
  exact ex_irt rfl dJ0_length_8abf5_10 (ex_rt_e (by decide))
set_option maxRecDepth 20000 in
set_option maxHeartbeats 2000000 in
theorem c_empty_4 (g : gl_T) {S : hs_T} {n k : Nat}  : ex_M g 0 mJ0_isEmpty_aae02 [.ref (g.2.2.2.2 14)] S n k (ex_rt (some (.int 1)) S n k) := by
  refine ex_enter (by decide +kernel) (Nat.le_of_ble_eq_true rfl) ?_
  show ex_W _ _ _ _ 0 [(0, .ref (g.2.2.2.2 14))] [] _ _ _
  refine ex_aload_n dJ0_isEmpty_aae02_0 0 rfl ?_
  refine ex_getC (q := ("java/lang/String", "value", "[B", 14, fun ad => .ref (ad 24))) dJ0_isEmpty_aae02_1 cF_32 gc_J0_9 ?_
  refine ex_alenC (q := (.byte, 24, 0, fun _ i => .int (([] : List Int32).getD i 0))) dJ0_isEmpty_aae02_4 cT_6 ?_
  refine ex_if_ne (tgt := 12) dJ0_isEmpty_aae02_5 (by decide) (fun c5 => absurd (by decide) c5) (fun c5 => ?_)
  refine ex_iconst (v := 1) dJ0_isEmpty_aae02_8 (by decide) ?_
  refine ex_goto (tgt := 13) dJ0_isEmpty_aae02_9 (by decide) ?_
  exact ex_bret rfl (by decide) dJ0_isEmpty_aae02_13 ex_rt_i
set_option maxRecDepth 20000 in
set_option maxHeartbeats 2000000 in
theorem c_coder_5 (g : gl_T) {S : hs_T} {n k : Nat}  : ex_M g 0 mJ0_coder_7d493 [.ref (g.2.2.2.2 15)] S n k (ex_rt (some (.int 0)) S n k) := by
  refine ex_enter (by decide +kernel) (Nat.le_of_ble_eq_true rfl) ?_
  show ex_W _ _ _ _ 0 [(0, .ref (g.2.2.2.2 15))] [] _ _ _
  refine ex_gets (q := ("java/lang/String", "COMPACT_STRINGS", "Z", fun _ => .int 1)) dJ0_coder_7d493_0 cZ_6 gs_J0_38 ?_
  refine ex_if_eq (tgt := 13) dJ0_coder_7d493_3 (by decide) (fun c3 => absurd c3 (by decide)) (fun c3 => ?_)
  refine ex_aload_n dJ0_coder_7d493_6 0 rfl ?_
  refine ex_getC (q := ("java/lang/String", "coder", "B", 15, fun _ => .int 0)) dJ0_coder_7d493_7 cF_35 gc_J0_15 ?_
  refine ex_goto (tgt := 14) dJ0_coder_7d493_10 (by decide) ?_
  exact ex_zret rfl (by decide +kernel) dJ0_coder_7d493_14 ex_rt_i
set_option maxRecDepth 20000 in
set_option maxHeartbeats 2000000 in
theorem c_latin_5 (g : gl_T) {S : hs_T} {n k : Nat}  : ex_M g 0 mJ0_isLatin1_aae02 [.ref (g.2.2.2.2 15)] S n k (ex_rt (some (.int 1)) S n k) := by
  refine ex_enter (by decide +kernel) (Nat.le_of_ble_eq_true rfl) ?_
  show ex_W _ _ _ _ 0 [(0, .ref (g.2.2.2.2 15))] [] _ _ _
  refine ex_gets (q := ("java/lang/String", "COMPACT_STRINGS", "Z", fun _ => .int 1)) dJ0_isLatin1_aae02_0 cZ_6 gs_J0_38 ?_
  refine ex_if_eq (tgt := 17) dJ0_isLatin1_aae02_3 (by decide) (fun c3 => absurd c3 (by decide)) (fun c3 => ?_)
  refine ex_aload_n dJ0_isLatin1_aae02_6 0 rfl ?_
  refine ex_getC (q := ("java/lang/String", "coder", "B", 15, fun _ => .int 0)) dJ0_isLatin1_aae02_7 cF_35 gc_J0_15 ?_
  refine ex_if_ne (tgt := 17) dJ0_isLatin1_aae02_10 (by decide) (fun c10 => absurd (by decide) c10) (fun c10 => ?_)
  refine ex_iconst (v := 1) dJ0_isLatin1_aae02_13 (by decide) ?_
  refine ex_goto (tgt := 18) dJ0_isLatin1_aae02_14 (by decide) ?_
  exact ex_bret rfl (by decide) dJ0_isLatin1_aae02_18 ex_rt_i
set_option maxRecDepth 20000 in
set_option maxHeartbeats 2000000 in
theorem c_len_5 (g : gl_T) {S : hs_T} {n k : Nat}  : ex_M g 1 mJ0_length_8abf5 [.ref (g.2.2.2.2 15)] S n k (ex_rt (some (.int 1)) S n k) := by
  refine ex_enter (by decide +kernel) (Nat.le_of_ble_eq_true rfl) ?_
  show ex_W _ _ _ _ 0 [(0, .ref (g.2.2.2.2 15))] [] _ _ _
  refine ex_aload_n dJ0_length_8abf5_0 0 rfl ?_
  refine ex_getC (q := ("java/lang/String", "value", "[B", 15, fun ad => .ref (ad 25))) dJ0_length_8abf5_1 cF_34 gc_J0_9 ?_
  refine ex_alenC (q := (.byte, 25, 1, fun _ i => .int (([47] : List Int32).getD i 0))) dJ0_length_8abf5_4 cT_7 ?_
  refine ex_aload_n dJ0_length_8abf5_5 0 rfl ?_
  refine ex_cVC (q := ("java/lang/String", 15)) [] [.int (nI 1)] dJ0_length_8abf5_6 cV_J0_335 (c_coder_5 g) cO_9 rfl rfl (by decide) (Nat.le_of_ble_eq_true rfl) rfl ?_
  refine ex_ishr dJ0_length_8abf5_9 ?_
  exact ex_irt rfl dJ0_length_8abf5_10 (ex_rt_e (by decide))
set_option maxRecDepth 20000 in
set_option maxHeartbeats 2000000 in
theorem c_empty_5 (g : gl_T) {S : hs_T} {n k : Nat}  : ex_M g 0 mJ0_isEmpty_aae02 [.ref (g.2.2.2.2 15)] S n k (ex_rt (some (.int 0)) S n k) := by
  refine ex_enter (by decide +kernel) (Nat.le_of_ble_eq_true rfl) ?_
  show ex_W _ _ _ _ 0 [(0, .ref (g.2.2.2.2 15))] [] _ _ _
  refine ex_aload_n dJ0_isEmpty_aae02_0 0 rfl ?_
  refine ex_getC (q := ("java/lang/String", "value", "[B", 15, fun ad => .ref (ad 25))) dJ0_isEmpty_aae02_1 cF_34 gc_J0_9 ?_
  refine ex_alenC (q := (.byte, 25, 1, fun _ i => .int (([47] : List Int32).getD i 0))) dJ0_isEmpty_aae02_4 cT_7 ?_
  refine ex_if_ne (tgt := 12) dJ0_isEmpty_aae02_5 (by decide) (fun c5 => ?_) (fun c5 => absurd c5 (by decide))
  refine ex_iconst (v := 0) dJ0_isEmpty_aae02_12 (by decide) ?_
  exact ex_bret rfl (by decide) dJ0_isEmpty_aae02_13 ex_rt_i
set_option maxRecDepth 20000 in
set_option maxHeartbeats 2000000 in
theorem c_coder_6 (g : gl_T) {S : hs_T} {n k : Nat}  : ex_M g 0 mJ0_coder_7d493 [.ref (g.2.2.2.2 16)] S n k (ex_rt (some (.int 0)) S n k) := by
  refine ex_enter (by decide +kernel) (Nat.le_of_ble_eq_true rfl) ?_
  show ex_W _ _ _ _ 0 [(0, .ref (g.2.2.2.2 16))] [] _ _ _
  refine ex_gets (q := ("java/lang/String", "COMPACT_STRINGS", "Z", fun _ => .int 1)) dJ0_coder_7d493_0 cZ_6 gs_J0_38 ?_
  refine ex_if_eq (tgt := 13) dJ0_coder_7d493_3 (by decide) (fun c3 => absurd c3 (by decide)) (fun c3 => ?_)
  refine ex_aload_n dJ0_coder_7d493_6 0 rfl ?_
  refine ex_getC (q := ("java/lang/String", "coder", "B", 16, fun _ => .int 0)) dJ0_coder_7d493_7 cF_37 gc_J0_15 ?_
  refine ex_goto (tgt := 14) dJ0_coder_7d493_10 (by decide) ?_
  exact ex_zret rfl (by decide +kernel) dJ0_coder_7d493_14 ex_rt_i
set_option maxRecDepth 20000 in
set_option maxHeartbeats 2000000 in
theorem c_latin_6 (g : gl_T) {S : hs_T} {n k : Nat}  : ex_M g 0 mJ0_isLatin1_aae02 [.ref (g.2.2.2.2 16)] S n k (ex_rt (some (.int 1)) S n k) := by
  refine ex_enter (by decide +kernel) (Nat.le_of_ble_eq_true rfl) ?_
  show ex_W _ _ _ _ 0 [(0, .ref (g.2.2.2.2 16))] [] _ _ _
  refine ex_gets (q := ("java/lang/String", "COMPACT_STRINGS", "Z", fun _ => .int 1)) dJ0_isLatin1_aae02_0 cZ_6 gs_J0_38 ?_
  refine ex_if_eq (tgt := 17) dJ0_isLatin1_aae02_3 (by decide) (fun c3 => absurd c3 (by decide)) (fun c3 => ?_)
  refine ex_aload_n dJ0_isLatin1_aae02_6 0 rfl ?_
  refine ex_getC (q := ("java/lang/String", "coder", "B", 16, fun _ => .int 0)) dJ0_isLatin1_aae02_7 cF_37 gc_J0_15 ?_
  refine ex_if_ne (tgt := 17) dJ0_isLatin1_aae02_10 (by decide) (fun c10 => absurd (by decide) c10) (fun c10 => ?_)
  refine ex_iconst (v := 1) dJ0_isLatin1_aae02_13 (by decide) ?_
  refine ex_goto (tgt := 18) dJ0_isLatin1_aae02_14 (by decide) ?_
  exact ex_bret rfl (by decide) dJ0_isLatin1_aae02_18 ex_rt_i
set_option maxRecDepth 20000 in
set_option maxHeartbeats 2000000 in
theorem c_len_6 (g : gl_T) {S : hs_T} {n k : Nat}  : ex_M g 1 mJ0_length_8abf5 [.ref (g.2.2.2.2 16)] S n k (ex_rt (some (.int 1)) S n k) := by
  refine ex_enter (by decide +kernel) (Nat.le_of_ble_eq_true rfl) ?_
  show ex_W _ _ _ _ 0 [(0, .ref (g.2.2.2.2 16))] [] _ _ _
  refine ex_aload_n dJ0_length_8abf5_0 0 rfl ?_
  refine ex_getC (q := ("java/lang/String", "value", "[B", 16, fun ad => .ref (ad 26))) dJ0_length_8abf5_1 cF_36 gc_J0_9 ?_
  refine ex_alenC (q := (.byte, 26, 1, fun _ i => .int (([120] : List Int32).getD i 0))) dJ0_length_8abf5_4 cT_8 ?_
  refine ex_aload_n dJ0_length_8abf5_5 0 rfl ?_
  refine ex_cVC (q := ("java/lang/String", 16)) [] [.int (nI 1)] dJ0_length_8abf5_6 cV_J0_335 (c_coder_6 g) cO_10 rfl rfl (by decide) (Nat.le_of_ble_eq_true rfl) rfl ?_
  refine ex_ishr dJ0_length_8abf5_9 ?_
  exact ex_irt rfl dJ0_length_8abf5_10 (ex_rt_e (by decide))
set_option maxRecDepth 20000 in
set_option maxHeartbeats 2000000 in
theorem c_empty_6 (g : gl_T) {S : hs_T} {n k : Nat}  : ex_M g 0 mJ0_isEmpty_aae02 [.ref (g.2.2.2.2 16)] S n k (ex_rt (some (.int 0)) S n k) := by
  refine ex_enter (by decide +kernel) (Nat.le_of_ble_eq_true rfl) ?_
  show ex_W _ _ _ _ 0 [(0, .ref (g.2.2.2.2 16))] [] _ _ _
  refine ex_aload_n dJ0_isEmpty_aae02_0 0 rfl ?_
  refine ex_getC (q := ("java/lang/String", "value", "[B", 16, fun ad => .ref (ad 26))) dJ0_isEmpty_aae02_1 cF_36 gc_J0_9 ?_
  refine ex_alenC (q := (.byte, 26, 1, fun _ i => .int (([120] : List Int32).getD i 0))) dJ0_isEmpty_aae02_4 cT_8 ?_
  refine ex_if_ne (tgt := 12) dJ0_isEmpty_aae02_5 (by decide) (fun c5 => ?_) (fun c5 => absurd c5 (by decide))
  refine ex_iconst (v := 0) dJ0_isEmpty_aae02_12 (by decide) ?_
  exact ex_bret rfl (by decide) dJ0_isEmpty_aae02_13 ex_rt_i
set_option maxRecDepth 20000 in
set_option maxHeartbeats 2000000 in
theorem c_coder_7 (g : gl_T) {S : hs_T} {n k : Nat}  : ex_M g 0 mJ0_coder_7d493 [.ref (g.2.2.2.2 17)] S n k (ex_rt (some (.int 0)) S n k) := by
  refine ex_enter (by decide +kernel) (Nat.le_of_ble_eq_true rfl) ?_
  show ex_W _ _ _ _ 0 [(0, .ref (g.2.2.2.2 17))] [] _ _ _
  refine ex_gets (q := ("java/lang/String", "COMPACT_STRINGS", "Z", fun _ => .int 1)) dJ0_coder_7d493_0 cZ_6 gs_J0_38 ?_
  refine ex_if_eq (tgt := 13) dJ0_coder_7d493_3 (by decide) (fun c3 => absurd c3 (by decide)) (fun c3 => ?_)
  refine ex_aload_n dJ0_coder_7d493_6 0 rfl ?_
  refine ex_getC (q := ("java/lang/String", "coder", "B", 17, fun _ => .int 0)) dJ0_coder_7d493_7 cF_39 gc_J0_15 ?_
  refine ex_goto (tgt := 14) dJ0_coder_7d493_10 (by decide) ?_
  exact ex_zret rfl (by decide +kernel) dJ0_coder_7d493_14 ex_rt_i
set_option maxRecDepth 20000 in
set_option maxHeartbeats 2000000 in
theorem c_latin_7 (g : gl_T) {S : hs_T} {n k : Nat}  : ex_M g 0 mJ0_isLatin1_aae02 [.ref (g.2.2.2.2 17)] S n k (ex_rt (some (.int 1)) S n k) := by
  refine ex_enter (by decide +kernel) (Nat.le_of_ble_eq_true rfl) ?_
  show ex_W _ _ _ _ 0 [(0, .ref (g.2.2.2.2 17))] [] _ _ _
  refine ex_gets (q := ("java/lang/String", "COMPACT_STRINGS", "Z", fun _ => .int 1)) dJ0_isLatin1_aae02_0 cZ_6 gs_J0_38 ?_
  refine ex_if_eq (tgt := 17) dJ0_isLatin1_aae02_3 (by decide) (fun c3 => absurd c3 (by decide)) (fun c3 => ?_)
  refine ex_aload_n dJ0_isLatin1_aae02_6 0 rfl ?_
  refine ex_getC (q := ("java/lang/String", "coder", "B", 17, fun _ => .int 0)) dJ0_isLatin1_aae02_7 cF_39 gc_J0_15 ?_
  refine ex_if_ne (tgt := 17) dJ0_isLatin1_aae02_10 (by decide) (fun c10 => absurd (by decide) c10) (fun c10 => ?_)
  refine ex_iconst (v := 1) dJ0_isLatin1_aae02_13 (by decide) ?_
  refine ex_goto (tgt := 18) dJ0_isLatin1_aae02_14 (by decide) ?_
  exact ex_bret rfl (by decide) dJ0_isLatin1_aae02_18 ex_rt_i
set_option maxRecDepth 20000 in
set_option maxHeartbeats 2000000 in
theorem c_len_7 (g : gl_T) {S : hs_T} {n k : Nat}  : ex_M g 1 mJ0_length_8abf5 [.ref (g.2.2.2.2 17)] S n k (ex_rt (some (.int 1)) S n k) := by
  refine ex_enter (by decide +kernel) (Nat.le_of_ble_eq_true rfl) ?_
  show ex_W _ _ _ _ 0 [(0, .ref (g.2.2.2.2 17))] [] _ _ _
  refine ex_aload_n dJ0_length_8abf5_0 0 rfl ?_
  refine ex_getC (q := ("java/lang/String", "value", "[B", 17, fun ad => .ref (ad 27))) dJ0_length_8abf5_1 cF_38 gc_J0_9 ?_
  refine ex_alenC (q := (.byte, 27, 1, fun _ i => .int (([59] : List Int32).getD i 0))) dJ0_length_8abf5_4 cT_9 ?_
  refine ex_aload_n dJ0_length_8abf5_5 0 rfl ?_
  refine ex_cVC (q := ("java/lang/String", 17)) [] [.int (nI 1)] dJ0_length_8abf5_6 cV_J0_335 (c_coder_7 g) cO_11 rfl rfl (by decide) (Nat.le_of_ble_eq_true rfl) rfl ?_
  refine ex_ishr dJ0_length_8abf5_9 ?_
  exact ex_irt rfl dJ0_length_8abf5_10 (ex_rt_e (by decide))
set_option maxRecDepth 20000 in
set_option maxHeartbeats 2000000 in
theorem c_chks (g : gl_T) {S : hs_T} {n k : Nat} {x y : Int32} {j N : Nat} (hx : x = nI j) (hy : y = nI N) (hj : j < N) (hN : N < 2 ^ 31) : ex_M g 1 mJ0_checkIndex_df160 [.int x, .int y] S n k (ex_rt none S n k) := by
  refine ex_enter (by decide +kernel) (Nat.le_of_ble_eq_true rfl) ?_
  show ex_W _ _ _ _ 0 [(0, .int x), (1, .int y)] [] _ _ _
  refine ex_iload_n dJ0_checkIndex_df160_0 0 rfl ?_
  refine ex_iload_n dJ0_checkIndex_df160_1 1 rfl ?_
  refine ex_getsQ dJ0_checkIndex_df160_2 gs_J0_1053 (fun v2 => ?_)
  refine ex_cSr [.int x, .int y, va_rf v2] [] dJ0_checkIndex_df160_5 cS_J0_1059 (c_chk3 g hx hy hj hN) rfl (by decide) (Nat.le_of_ble_eq_true rfl) rfl ?_
  refine ex_pop dJ0_checkIndex_df160_8 rfl ?_
  exact ex_vrt rfl dJ0_checkIndex_df160_9 ex_rt_i
set_option maxRecDepth 20000 in
set_option maxHeartbeats 2000000 in
theorem c_lch_0_0 (g : gl_T) {S : hs_T} {n k : Nat}  : ex_M g 2 mJ1_charAt_3b067 [.ref (g.2.2.2.2 20), .int 0] S n k (ex_rt (some (.int 102)) S n k) := by
  refine ex_enter (by decide +kernel) (Nat.le_of_ble_eq_true rfl) ?_
  show ex_W _ _ _ _ 0 [(0, .ref (g.2.2.2.2 20)), (1, .int 0)] [] _ _ _
  refine ex_iload_n dJ1_charAt_3b067_0 1 rfl ?_
  refine ex_aload_n dJ1_charAt_3b067_1 0 rfl ?_
  refine ex_alenC (q := (.byte, 20, 4, fun _ i => .int (([102, 117, 110, 100] : List Int32).getD i 0))) dJ1_charAt_3b067_2 cT_2 ?_
  refine ex_cSv [.int 0, .int (nI 4)] [] dJ1_charAt_3b067_3 cS_J1_9 (c_chks g (j := 0) (N := 4) (by decide) rfl (by decide) (by decide)) rfl (by decide) (Nat.le_of_ble_eq_true rfl) rfl ?_
  refine ex_aload_n dJ1_charAt_3b067_6 0 rfl ?_
  refine ex_iload_n dJ1_charAt_3b067_7 1 rfl ?_
  refine ex_baldC (q := (.byte, 20, 4, fun _ i => .int (([102, 117, 110, 100] : List Int32).getD i 0))) (j := 0) dJ1_charAt_3b067_8 cT_2 rfl (by decide) (by decide) (by decide) ?_
  refine ex_sipush (v := 255) dJ1_charAt_3b067_9 (by decide) ?_
  refine ex_iand dJ1_charAt_3b067_12 ?_
  refine ex_i2c (v := 102) dJ1_charAt_3b067_13 (by decide) ?_
  exact ex_zret rfl (by decide +kernel) dJ1_charAt_3b067_14 ex_rt_i
set_option maxRecDepth 20000 in
set_option maxHeartbeats 2000000 in
theorem c_char_0_0 (g : gl_T) {S : hs_T} {n k : Nat}  : ex_M g 3 mJ0_charAt_5068e [.ref (g.2.2.2.2 10), .int 0] S n k (ex_rt (some (.int 102)) S n k) := by
  refine ex_enter (by decide +kernel) (Nat.le_of_ble_eq_true rfl) ?_
  show ex_W _ _ _ _ 0 [(0, .ref (g.2.2.2.2 10)), (1, .int 0)] [] _ _ _
  refine ex_aload_n dJ0_charAt_5068e_0 0 rfl ?_
  refine ex_cVC (q := ("java/lang/String", 10)) [] [] dJ0_charAt_5068e_1 cV_J0_492 (c_latin_0 g) cO_4 rfl rfl (by decide) (Nat.le_of_ble_eq_true rfl) rfl ?_
  refine ex_if_eq (tgt := 16) dJ0_charAt_5068e_4 (by decide) (fun c4 => absurd c4 (by decide)) (fun c4 => ?_)
  refine ex_aload_n dJ0_charAt_5068e_7 0 rfl ?_
  refine ex_getC (q := ("java/lang/String", "value", "[B", 10, fun ad => .ref (ad 20))) dJ0_charAt_5068e_8 cF_24 gc_J0_9 ?_
  refine ex_iload_n dJ0_charAt_5068e_11 1 rfl ?_
  refine ex_cSr [.ref (g.2.2.2.2 20), .int 0] [] dJ0_charAt_5068e_12 cS_J0_495 (c_lch_0_0 g) rfl (by decide) (Nat.le_of_ble_eq_true rfl) rfl ?_
  exact ex_zret rfl (by decide +kernel) dJ0_charAt_5068e_15 ex_rt_i
set_option maxRecDepth 20000 in
set_option maxHeartbeats 2000000 in
theorem c_lch_0_1 (g : gl_T) {S : hs_T} {n k : Nat}  : ex_M g 2 mJ1_charAt_3b067 [.ref (g.2.2.2.2 20), .int 1] S n k (ex_rt (some (.int 117)) S n k) := by
  refine ex_enter (by decide +kernel) (Nat.le_of_ble_eq_true rfl) ?_
  show ex_W _ _ _ _ 0 [(0, .ref (g.2.2.2.2 20)), (1, .int 1)] [] _ _ _
  refine ex_iload_n dJ1_charAt_3b067_0 1 rfl ?_
  refine ex_aload_n dJ1_charAt_3b067_1 0 rfl ?_
  refine ex_alenC (q := (.byte, 20, 4, fun _ i => .int (([102, 117, 110, 100] : List Int32).getD i 0))) dJ1_charAt_3b067_2 cT_2 ?_
  refine ex_cSv [.int 1, .int (nI 4)] [] dJ1_charAt_3b067_3 cS_J1_9 (c_chks g (j := 1) (N := 4) (by decide) rfl (by decide) (by decide)) rfl (by decide) (Nat.le_of_ble_eq_true rfl) rfl ?_
  refine ex_aload_n dJ1_charAt_3b067_6 0 rfl ?_
  refine ex_iload_n dJ1_charAt_3b067_7 1 rfl ?_
  refine ex_baldC (q := (.byte, 20, 4, fun _ i => .int (([102, 117, 110, 100] : List Int32).getD i 0))) (j := 1) dJ1_charAt_3b067_8 cT_2 rfl (by decide) (by decide) (by decide) ?_
  refine ex_sipush (v := 255) dJ1_charAt_3b067_9 (by decide) ?_
  refine ex_iand dJ1_charAt_3b067_12 ?_
  refine ex_i2c (v := 117) dJ1_charAt_3b067_13 (by decide) ?_
  exact ex_zret rfl (by decide +kernel) dJ1_charAt_3b067_14 ex_rt_i
set_option maxRecDepth 20000 in
set_option maxHeartbeats 2000000 in
theorem c_char_0_1 (g : gl_T) {S : hs_T} {n k : Nat}  : ex_M g 3 mJ0_charAt_5068e [.ref (g.2.2.2.2 10), .int 1] S n k (ex_rt (some (.int 117)) S n k) := by
  refine ex_enter (by decide +kernel) (Nat.le_of_ble_eq_true rfl) ?_
  show ex_W _ _ _ _ 0 [(0, .ref (g.2.2.2.2 10)), (1, .int 1)] [] _ _ _
  refine ex_aload_n dJ0_charAt_5068e_0 0 rfl ?_
  refine ex_cVC (q := ("java/lang/String", 10)) [] [] dJ0_charAt_5068e_1 cV_J0_492 (c_latin_0 g) cO_4 rfl rfl (by decide) (Nat.le_of_ble_eq_true rfl) rfl ?_
  refine ex_if_eq (tgt := 16) dJ0_charAt_5068e_4 (by decide) (fun c4 => absurd c4 (by decide)) (fun c4 => ?_)
  refine ex_aload_n dJ0_charAt_5068e_7 0 rfl ?_
  refine ex_getC (q := ("java/lang/String", "value", "[B", 10, fun ad => .ref (ad 20))) dJ0_charAt_5068e_8 cF_24 gc_J0_9 ?_
  refine ex_iload_n dJ0_charAt_5068e_11 1 rfl ?_
  refine ex_cSr [.ref (g.2.2.2.2 20), .int 1] [] dJ0_charAt_5068e_12 cS_J0_495 (c_lch_0_1 g) rfl (by decide) (Nat.le_of_ble_eq_true rfl) rfl ?_
  exact ex_zret rfl (by decide +kernel) dJ0_charAt_5068e_15 ex_rt_i
set_option maxRecDepth 20000 in
set_option maxHeartbeats 2000000 in
theorem c_lch_0_2 (g : gl_T) {S : hs_T} {n k : Nat}  : ex_M g 2 mJ1_charAt_3b067 [.ref (g.2.2.2.2 20), .int 2] S n k (ex_rt (some (.int 110)) S n k) := by
  refine ex_enter (by decide +kernel) (Nat.le_of_ble_eq_true rfl) ?_
  show ex_W _ _ _ _ 0 [(0, .ref (g.2.2.2.2 20)), (1, .int 2)] [] _ _ _
  refine ex_iload_n dJ1_charAt_3b067_0 1 rfl ?_
  refine ex_aload_n dJ1_charAt_3b067_1 0 rfl ?_
  refine ex_alenC (q := (.byte, 20, 4, fun _ i => .int (([102, 117, 110, 100] : List Int32).getD i 0))) dJ1_charAt_3b067_2 cT_2 ?_
  refine ex_cSv [.int 2, .int (nI 4)] [] dJ1_charAt_3b067_3 cS_J1_9 (c_chks g (j := 2) (N := 4) (by decide) rfl (by decide) (by decide)) rfl (by decide) (Nat.le_of_ble_eq_true rfl) rfl ?_
  refine ex_aload_n dJ1_charAt_3b067_6 0 rfl ?_
  refine ex_iload_n dJ1_charAt_3b067_7 1 rfl ?_
  refine ex_baldC (q := (.byte, 20, 4, fun _ i => .int (([102, 117, 110, 100] : List Int32).getD i 0))) (j := 2) dJ1_charAt_3b067_8 cT_2 rfl (by decide) (by decide) (by decide) ?_
  refine ex_sipush (v := 255) dJ1_charAt_3b067_9 (by decide) ?_
  refine ex_iand dJ1_charAt_3b067_12 ?_
  refine ex_i2c (v := 110) dJ1_charAt_3b067_13 (by decide) ?_
  exact ex_zret rfl (by decide +kernel) dJ1_charAt_3b067_14 ex_rt_i
set_option maxRecDepth 20000 in
set_option maxHeartbeats 2000000 in
theorem c_char_0_2 (g : gl_T) {S : hs_T} {n k : Nat}  : ex_M g 3 mJ0_charAt_5068e [.ref (g.2.2.2.2 10), .int 2] S n k (ex_rt (some (.int 110)) S n k) := by
  refine ex_enter (by decide +kernel) (Nat.le_of_ble_eq_true rfl) ?_
  show ex_W _ _ _ _ 0 [(0, .ref (g.2.2.2.2 10)), (1, .int 2)] [] _ _ _
  refine ex_aload_n dJ0_charAt_5068e_0 0 rfl ?_
  refine ex_cVC (q := ("java/lang/String", 10)) [] [] dJ0_charAt_5068e_1 cV_J0_492 (c_latin_0 g) cO_4 rfl rfl (by decide) (Nat.le_of_ble_eq_true rfl) rfl ?_
  refine ex_if_eq (tgt := 16) dJ0_charAt_5068e_4 (by decide) (fun c4 => absurd c4 (by decide)) (fun c4 => ?_)
  refine ex_aload_n dJ0_charAt_5068e_7 0 rfl ?_
  refine ex_getC (q := ("java/lang/String", "value", "[B", 10, fun ad => .ref (ad 20))) dJ0_charAt_5068e_8 cF_24 gc_J0_9 ?_
  refine ex_iload_n dJ0_charAt_5068e_11 1 rfl ?_
  refine ex_cSr [.ref (g.2.2.2.2 20), .int 2] [] dJ0_charAt_5068e_12 cS_J0_495 (c_lch_0_2 g) rfl (by decide) (Nat.le_of_ble_eq_true rfl) rfl ?_
  exact ex_zret rfl (by decide +kernel) dJ0_charAt_5068e_15 ex_rt_i
set_option maxRecDepth 20000 in
set_option maxHeartbeats 2000000 in
theorem c_lch_0_3 (g : gl_T) {S : hs_T} {n k : Nat}  : ex_M g 2 mJ1_charAt_3b067 [.ref (g.2.2.2.2 20), .int 3] S n k (ex_rt (some (.int 100)) S n k) := by
  refine ex_enter (by decide +kernel) (Nat.le_of_ble_eq_true rfl) ?_
  show ex_W _ _ _ _ 0 [(0, .ref (g.2.2.2.2 20)), (1, .int 3)] [] _ _ _
  refine ex_iload_n dJ1_charAt_3b067_0 1 rfl ?_
  refine ex_aload_n dJ1_charAt_3b067_1 0 rfl ?_
  refine ex_alenC (q := (.byte, 20, 4, fun _ i => .int (([102, 117, 110, 100] : List Int32).getD i 0))) dJ1_charAt_3b067_2 cT_2 ?_
  refine ex_cSv [.int 3, .int (nI 4)] [] dJ1_charAt_3b067_3 cS_J1_9 (c_chks g (j := 3) (N := 4) (by decide) rfl (by decide) (by decide)) rfl (by decide) (Nat.le_of_ble_eq_true rfl) rfl ?_
  refine ex_aload_n dJ1_charAt_3b067_6 0 rfl ?_
  refine ex_iload_n dJ1_charAt_3b067_7 1 rfl ?_
  refine ex_baldC (q := (.byte, 20, 4, fun _ i => .int (([102, 117, 110, 100] : List Int32).getD i 0))) (j := 3) dJ1_charAt_3b067_8 cT_2 rfl (by decide) (by decide) (by decide) ?_
  refine ex_sipush (v := 255) dJ1_charAt_3b067_9 (by decide) ?_
  refine ex_iand dJ1_charAt_3b067_12 ?_
  refine ex_i2c (v := 100) dJ1_charAt_3b067_13 (by decide) ?_
  exact ex_zret rfl (by decide +kernel) dJ1_charAt_3b067_14 ex_rt_i
set_option maxRecDepth 20000 in
set_option maxHeartbeats 2000000 in
theorem c_char_0_3 (g : gl_T) {S : hs_T} {n k : Nat}  : ex_M g 3 mJ0_charAt_5068e [.ref (g.2.2.2.2 10), .int 3] S n k (ex_rt (some (.int 100)) S n k) := by
  refine ex_enter (by decide +kernel) (Nat.le_of_ble_eq_true rfl) ?_
  show ex_W _ _ _ _ 0 [(0, .ref (g.2.2.2.2 10)), (1, .int 3)] [] _ _ _
  refine ex_aload_n dJ0_charAt_5068e_0 0 rfl ?_
  refine ex_cVC (q := ("java/lang/String", 10)) [] [] dJ0_charAt_5068e_1 cV_J0_492 (c_latin_0 g) cO_4 rfl rfl (by decide) (Nat.le_of_ble_eq_true rfl) rfl ?_
  refine ex_if_eq (tgt := 16) dJ0_charAt_5068e_4 (by decide) (fun c4 => absurd c4 (by decide)) (fun c4 => ?_)
  refine ex_aload_n dJ0_charAt_5068e_7 0 rfl ?_
  refine ex_getC (q := ("java/lang/String", "value", "[B", 10, fun ad => .ref (ad 20))) dJ0_charAt_5068e_8 cF_24 gc_J0_9 ?_
  refine ex_iload_n dJ0_charAt_5068e_11 1 rfl ?_
  refine ex_cSr [.ref (g.2.2.2.2 20), .int 3] [] dJ0_charAt_5068e_12 cS_J0_495 (c_lch_0_3 g) rfl (by decide) (Nat.le_of_ble_eq_true rfl) rfl ?_
  exact ex_zret rfl (by decide +kernel) dJ0_charAt_5068e_15 ex_rt_i
set_option maxRecDepth 20000 in
set_option maxHeartbeats 2000000 in
theorem c_lch_1_0 (g : gl_T) {S : hs_T} {n k : Nat}  : ex_M g 2 mJ1_charAt_3b067 [.ref (g.2.2.2.2 21), .int 0] S n k (ex_rt (some (.int 100)) S n k) := by
  refine ex_enter (by decide +kernel) (Nat.le_of_ble_eq_true rfl) ?_
  show ex_W _ _ _ _ 0 [(0, .ref (g.2.2.2.2 21)), (1, .int 0)] [] _ _ _
  refine ex_iload_n dJ1_charAt_3b067_0 1 rfl ?_
  refine ex_aload_n dJ1_charAt_3b067_1 0 rfl ?_
  refine ex_alenC (q := (.byte, 21, 4, fun _ i => .int (([100, 97, 121, 115] : List Int32).getD i 0))) dJ1_charAt_3b067_2 cT_3 ?_
  refine ex_cSv [.int 0, .int (nI 4)] [] dJ1_charAt_3b067_3 cS_J1_9 (c_chks g (j := 0) (N := 4) (by decide) rfl (by decide) (by decide)) rfl (by decide) (Nat.le_of_ble_eq_true rfl) rfl ?_
  refine ex_aload_n dJ1_charAt_3b067_6 0 rfl ?_
  refine ex_iload_n dJ1_charAt_3b067_7 1 rfl ?_
  refine ex_baldC (q := (.byte, 21, 4, fun _ i => .int (([100, 97, 121, 115] : List Int32).getD i 0))) (j := 0) dJ1_charAt_3b067_8 cT_3 rfl (by decide) (by decide) (by decide) ?_
  refine ex_sipush (v := 255) dJ1_charAt_3b067_9 (by decide) ?_
  refine ex_iand dJ1_charAt_3b067_12 ?_
  refine ex_i2c (v := 100) dJ1_charAt_3b067_13 (by decide) ?_
  exact ex_zret rfl (by decide +kernel) dJ1_charAt_3b067_14 ex_rt_i
set_option maxRecDepth 20000 in
set_option maxHeartbeats 2000000 in
theorem c_char_1_0 (g : gl_T) {S : hs_T} {n k : Nat}  : ex_M g 3 mJ0_charAt_5068e [.ref (g.2.2.2.2 11), .int 0] S n k (ex_rt (some (.int 100)) S n k) := by
  refine ex_enter (by decide +kernel) (Nat.le_of_ble_eq_true rfl) ?_
  show ex_W _ _ _ _ 0 [(0, .ref (g.2.2.2.2 11)), (1, .int 0)] [] _ _ _
  refine ex_aload_n dJ0_charAt_5068e_0 0 rfl ?_
  refine ex_cVC (q := ("java/lang/String", 11)) [] [] dJ0_charAt_5068e_1 cV_J0_492 (c_latin_1 g) cO_5 rfl rfl (by decide) (Nat.le_of_ble_eq_true rfl) rfl ?_
  refine ex_if_eq (tgt := 16) dJ0_charAt_5068e_4 (by decide) (fun c4 => absurd c4 (by decide)) (fun c4 => ?_)
  refine ex_aload_n dJ0_charAt_5068e_7 0 rfl ?_
  refine ex_getC (q := ("java/lang/String", "value", "[B", 11, fun ad => .ref (ad 21))) dJ0_charAt_5068e_8 cF_26 gc_J0_9 ?_
  refine ex_iload_n dJ0_charAt_5068e_11 1 rfl ?_
  refine ex_cSr [.ref (g.2.2.2.2 21), .int 0] [] dJ0_charAt_5068e_12 cS_J0_495 (c_lch_1_0 g) rfl (by decide) (Nat.le_of_ble_eq_true rfl) rfl ?_
  exact ex_zret rfl (by decide +kernel) dJ0_charAt_5068e_15 ex_rt_i
set_option maxRecDepth 20000 in
set_option maxHeartbeats 2000000 in
theorem c_lch_1_1 (g : gl_T) {S : hs_T} {n k : Nat}  : ex_M g 2 mJ1_charAt_3b067 [.ref (g.2.2.2.2 21), .int 1] S n k (ex_rt (some (.int 97)) S n k) := by
  refine ex_enter (by decide +kernel) (Nat.le_of_ble_eq_true rfl) ?_
  show ex_W _ _ _ _ 0 [(0, .ref (g.2.2.2.2 21)), (1, .int 1)] [] _ _ _
  refine ex_iload_n dJ1_charAt_3b067_0 1 rfl ?_
  refine ex_aload_n dJ1_charAt_3b067_1 0 rfl ?_
  refine ex_alenC (q := (.byte, 21, 4, fun _ i => .int (([100, 97, 121, 115] : List Int32).getD i 0))) dJ1_charAt_3b067_2 cT_3 ?_
  refine ex_cSv [.int 1, .int (nI 4)] [] dJ1_charAt_3b067_3 cS_J1_9 (c_chks g (j := 1) (N := 4) (by decide) rfl (by decide) (by decide)) rfl (by decide) (Nat.le_of_ble_eq_true rfl) rfl ?_
  refine ex_aload_n dJ1_charAt_3b067_6 0 rfl ?_
  refine ex_iload_n dJ1_charAt_3b067_7 1 rfl ?_
  refine ex_baldC (q := (.byte, 21, 4, fun _ i => .int (([100, 97, 121, 115] : List Int32).getD i 0))) (j := 1) dJ1_charAt_3b067_8 cT_3 rfl (by decide) (by decide) (by decide) ?_
  refine ex_sipush (v := 255) dJ1_charAt_3b067_9 (by decide) ?_
  refine ex_iand dJ1_charAt_3b067_12 ?_
  refine ex_i2c (v := 97) dJ1_charAt_3b067_13 (by decide) ?_
  exact ex_zret rfl (by decide +kernel) dJ1_charAt_3b067_14 ex_rt_i
set_option maxRecDepth 20000 in
set_option maxHeartbeats 2000000 in
theorem c_char_1_1 (g : gl_T) {S : hs_T} {n k : Nat}  : ex_M g 3 mJ0_charAt_5068e [.ref (g.2.2.2.2 11), .int 1] S n k (ex_rt (some (.int 97)) S n k) := by
  refine ex_enter (by decide +kernel) (Nat.le_of_ble_eq_true rfl) ?_
  show ex_W _ _ _ _ 0 [(0, .ref (g.2.2.2.2 11)), (1, .int 1)] [] _ _ _
  refine ex_aload_n dJ0_charAt_5068e_0 0 rfl ?_
  refine ex_cVC (q := ("java/lang/String", 11)) [] [] dJ0_charAt_5068e_1 cV_J0_492 (c_latin_1 g) cO_5 rfl rfl (by decide) (Nat.le_of_ble_eq_true rfl) rfl ?_
  refine ex_if_eq (tgt := 16) dJ0_charAt_5068e_4 (by decide) (fun c4 => absurd c4 (by decide)) (fun c4 => ?_)
  refine ex_aload_n dJ0_charAt_5068e_7 0 rfl ?_
  refine ex_getC (q := ("java/lang/String", "value", "[B", 11, fun ad => .ref (ad 21))) dJ0_charAt_5068e_8 cF_26 gc_J0_9 ?_
  refine ex_iload_n dJ0_charAt_5068e_11 1 rfl ?_
  refine ex_cSr [.ref (g.2.2.2.2 21), .int 1] [] dJ0_charAt_5068e_12 cS_J0_495 (c_lch_1_1 g) rfl (by decide) (Nat.le_of_ble_eq_true rfl) rfl ?_
  exact ex_zret rfl (by decide +kernel) dJ0_charAt_5068e_15 ex_rt_i
set_option maxRecDepth 20000 in
set_option maxHeartbeats 2000000 in
theorem c_lch_1_2 (g : gl_T) {S : hs_T} {n k : Nat}  : ex_M g 2 mJ1_charAt_3b067 [.ref (g.2.2.2.2 21), .int 2] S n k (ex_rt (some (.int 121)) S n k) := by
  refine ex_enter (by decide +kernel) (Nat.le_of_ble_eq_true rfl) ?_
  show ex_W _ _ _ _ 0 [(0, .ref (g.2.2.2.2 21)), (1, .int 2)] [] _ _ _
  refine ex_iload_n dJ1_charAt_3b067_0 1 rfl ?_
  refine ex_aload_n dJ1_charAt_3b067_1 0 rfl ?_
  refine ex_alenC (q := (.byte, 21, 4, fun _ i => .int (([100, 97, 121, 115] : List Int32).getD i 0))) dJ1_charAt_3b067_2 cT_3 ?_
  refine ex_cSv [.int 2, .int (nI 4)] [] dJ1_charAt_3b067_3 cS_J1_9 (c_chks g (j := 2) (N := 4) (by decide) rfl (by decide) (by decide)) rfl (by decide) (Nat.le_of_ble_eq_true rfl) rfl ?_
  refine ex_aload_n dJ1_charAt_3b067_6 0 rfl ?_
  refine ex_iload_n dJ1_charAt_3b067_7 1 rfl ?_
  refine ex_baldC (q := (.byte, 21, 4, fun _ i => .int (([100, 97, 121, 115] : List Int32).getD i 0))) (j := 2) dJ1_charAt_3b067_8 cT_3 rfl (by decide) (by decide) (by decide) ?_
  refine ex_sipush (v := 255) dJ1_charAt_3b067_9 (by decide) ?_
  refine ex_iand dJ1_charAt_3b067_12 ?_
  refine ex_i2c (v := 121) dJ1_charAt_3b067_13 (by decide) ?_
  exact ex_zret rfl (by decide +kernel) dJ1_charAt_3b067_14 ex_rt_i
set_option maxRecDepth 20000 in
set_option maxHeartbeats 2000000 in
theorem c_char_1_2 (g : gl_T) {S : hs_T} {n k : Nat}  : ex_M g 3 mJ0_charAt_5068e [.ref (g.2.2.2.2 11), .int 2] S n k (ex_rt (some (.int 121)) S n k) := by
  refine ex_enter (by decide +kernel) (Nat.le_of_ble_eq_true rfl) ?_
  show ex_W _ _ _ _ 0 [(0, .ref (g.2.2.2.2 11)), (1, .int 2)] [] _ _ _
  refine ex_aload_n dJ0_charAt_5068e_0 0 rfl ?_
  refine ex_cVC (q := ("java/lang/String", 11)) [] [] dJ0_charAt_5068e_1 cV_J0_492 (c_latin_1 g) cO_5 rfl rfl (by decide) (Nat.le_of_ble_eq_true rfl) rfl ?_
  refine ex_if_eq (tgt := 16) dJ0_charAt_5068e_4 (by decide) (fun c4 => absurd c4 (by decide)) (fun c4 => ?_)
  refine ex_aload_n dJ0_charAt_5068e_7 0 rfl ?_
  refine ex_getC (q := ("java/lang/String", "value", "[B", 11, fun ad => .ref (ad 21))) dJ0_charAt_5068e_8 cF_26 gc_J0_9 ?_
  refine ex_iload_n dJ0_charAt_5068e_11 1 rfl ?_
  refine ex_cSr [.ref (g.2.2.2.2 21), .int 2] [] dJ0_charAt_5068e_12 cS_J0_495 (c_lch_1_2 g) rfl (by decide) (Nat.le_of_ble_eq_true rfl) rfl ?_
  exact ex_zret rfl (by decide +kernel) dJ0_charAt_5068e_15 ex_rt_i
set_option maxRecDepth 20000 in
set_option maxHeartbeats 2000000 in
theorem c_lch_1_3 (g : gl_T) {S : hs_T} {n k : Nat}  : ex_M g 2 mJ1_charAt_3b067 [.ref (g.2.2.2.2 21), .int 3] S n k (ex_rt (some (.int 115)) S n k) := by
  refine ex_enter (by decide +kernel) (Nat.le_of_ble_eq_true rfl) ?_
  show ex_W _ _ _ _ 0 [(0, .ref (g.2.2.2.2 21)), (1, .int 3)] [] _ _ _
  refine ex_iload_n dJ1_charAt_3b067_0 1 rfl ?_
  refine ex_aload_n dJ1_charAt_3b067_1 0 rfl ?_
  refine ex_alenC (q := (.byte, 21, 4, fun _ i => .int (([100, 97, 121, 115] : List Int32).getD i 0))) dJ1_charAt_3b067_2 cT_3 ?_
  refine ex_cSv [.int 3, .int (nI 4)] [] dJ1_charAt_3b067_3 cS_J1_9 (c_chks g (j := 3) (N := 4) (by decide) rfl (by decide) (by decide)) rfl (by decide) (Nat.le_of_ble_eq_true rfl) rfl ?_
  refine ex_aload_n dJ1_charAt_3b067_6 0 rfl ?_
  refine ex_iload_n dJ1_charAt_3b067_7 1 rfl ?_
  refine ex_baldC (q := (.byte, 21, 4, fun _ i => .int (([100, 97, 121, 115] : List Int32).getD i 0))) (j := 3) dJ1_charAt_3b067_8 cT_3 rfl (by decide) (by decide) (by decide) ?_
  refine ex_sipush (v := 255) dJ1_charAt_3b067_9 (by decide) ?_
  refine ex_iand dJ1_charAt_3b067_12 ?_
  refine ex_i2c (v := 115) dJ1_charAt_3b067_13 (by decide) ?_
  exact ex_zret rfl (by decide +kernel) dJ1_charAt_3b067_14 ex_rt_i
set_option maxRecDepth 20000 in
set_option maxHeartbeats 2000000 in
theorem c_char_1_3 (g : gl_T) {S : hs_T} {n k : Nat}  : ex_M g 3 mJ0_charAt_5068e [.ref (g.2.2.2.2 11), .int 3] S n k (ex_rt (some (.int 115)) S n k) := by
  refine ex_enter (by decide +kernel) (Nat.le_of_ble_eq_true rfl) ?_
  show ex_W _ _ _ _ 0 [(0, .ref (g.2.2.2.2 11)), (1, .int 3)] [] _ _ _
  refine ex_aload_n dJ0_charAt_5068e_0 0 rfl ?_
  refine ex_cVC (q := ("java/lang/String", 11)) [] [] dJ0_charAt_5068e_1 cV_J0_492 (c_latin_1 g) cO_5 rfl rfl (by decide) (Nat.le_of_ble_eq_true rfl) rfl ?_
  refine ex_if_eq (tgt := 16) dJ0_charAt_5068e_4 (by decide) (fun c4 => absurd c4 (by decide)) (fun c4 => ?_)
  refine ex_aload_n dJ0_charAt_5068e_7 0 rfl ?_
  refine ex_getC (q := ("java/lang/String", "value", "[B", 11, fun ad => .ref (ad 21))) dJ0_charAt_5068e_8 cF_26 gc_J0_9 ?_
  refine ex_iload_n dJ0_charAt_5068e_11 1 rfl ?_
  refine ex_cSr [.ref (g.2.2.2.2 21), .int 3] [] dJ0_charAt_5068e_12 cS_J0_495 (c_lch_1_3 g) rfl (by decide) (Nat.le_of_ble_eq_true rfl) rfl ?_
  exact ex_zret rfl (by decide +kernel) dJ0_charAt_5068e_15 ex_rt_i
set_option maxRecDepth 20000 in
set_option maxHeartbeats 2000000 in
theorem c_lch_2_0 (g : gl_T) {S : hs_T} {n k : Nat}  : ex_M g 2 mJ1_charAt_3b067 [.ref (g.2.2.2.2 22), .int 0] S n k (ex_rt (some (.int 116)) S n k) := by
  refine ex_enter (by decide +kernel) (Nat.le_of_ble_eq_true rfl) ?_
  show ex_W _ _ _ _ 0 [(0, .ref (g.2.2.2.2 22)), (1, .int 0)] [] _ _ _
  refine ex_iload_n dJ1_charAt_3b067_0 1 rfl ?_
  refine ex_aload_n dJ1_charAt_3b067_1 0 rfl ?_
  refine ex_alenC (q := (.byte, 22, 4, fun _ i => .int (([116, 105, 101, 114] : List Int32).getD i 0))) dJ1_charAt_3b067_2 cT_4 ?_
  refine ex_cSv [.int 0, .int (nI 4)] [] dJ1_charAt_3b067_3 cS_J1_9 (c_chks g (j := 0) (N := 4) (by decide) rfl (by decide) (by decide)) rfl (by decide) (Nat.le_of_ble_eq_true rfl) rfl ?_
  refine ex_aload_n dJ1_charAt_3b067_6 0 rfl ?_
  refine ex_iload_n dJ1_charAt_3b067_7 1 rfl ?_
  refine ex_baldC (q := (.byte, 22, 4, fun _ i => .int (([116, 105, 101, 114] : List Int32).getD i 0))) (j := 0) dJ1_charAt_3b067_8 cT_4 rfl (by decide) (by decide) (by decide) ?_
  refine ex_sipush (v := 255) dJ1_charAt_3b067_9 (by decide) ?_
  refine ex_iand dJ1_charAt_3b067_12 ?_
  refine ex_i2c (v := 116) dJ1_charAt_3b067_13 (by decide) ?_
  exact ex_zret rfl (by decide +kernel) dJ1_charAt_3b067_14 ex_rt_i
set_option maxRecDepth 20000 in
set_option maxHeartbeats 2000000 in
theorem c_char_2_0 (g : gl_T) {S : hs_T} {n k : Nat}  : ex_M g 3 mJ0_charAt_5068e [.ref (g.2.2.2.2 12), .int 0] S n k (ex_rt (some (.int 116)) S n k) := by
  refine ex_enter (by decide +kernel) (Nat.le_of_ble_eq_true rfl) ?_
  show ex_W _ _ _ _ 0 [(0, .ref (g.2.2.2.2 12)), (1, .int 0)] [] _ _ _
  refine ex_aload_n dJ0_charAt_5068e_0 0 rfl ?_
  refine ex_cVC (q := ("java/lang/String", 12)) [] [] dJ0_charAt_5068e_1 cV_J0_492 (c_latin_2 g) cO_6 rfl rfl (by decide) (Nat.le_of_ble_eq_true rfl) rfl ?_
  refine ex_if_eq (tgt := 16) dJ0_charAt_5068e_4 (by decide) (fun c4 => absurd c4 (by decide)) (fun c4 => ?_)
  refine ex_aload_n dJ0_charAt_5068e_7 0 rfl ?_
  refine ex_getC (q := ("java/lang/String", "value", "[B", 12, fun ad => .ref (ad 22))) dJ0_charAt_5068e_8 cF_28 gc_J0_9 ?_
  refine ex_iload_n dJ0_charAt_5068e_11 1 rfl ?_
  refine ex_cSr [.ref (g.2.2.2.2 22), .int 0] [] dJ0_charAt_5068e_12 cS_J0_495 (c_lch_2_0 g) rfl (by decide) (Nat.le_of_ble_eq_true rfl) rfl ?_
  exact ex_zret rfl (by decide +kernel) dJ0_charAt_5068e_15 ex_rt_i
set_option maxRecDepth 20000 in
set_option maxHeartbeats 2000000 in
theorem c_lch_2_1 (g : gl_T) {S : hs_T} {n k : Nat}  : ex_M g 2 mJ1_charAt_3b067 [.ref (g.2.2.2.2 22), .int 1] S n k (ex_rt (some (.int 105)) S n k) := by
  refine ex_enter (by decide +kernel) (Nat.le_of_ble_eq_true rfl) ?_
  show ex_W _ _ _ _ 0 [(0, .ref (g.2.2.2.2 22)), (1, .int 1)] [] _ _ _
  refine ex_iload_n dJ1_charAt_3b067_0 1 rfl ?_
  refine ex_aload_n dJ1_charAt_3b067_1 0 rfl ?_
  refine ex_alenC (q := (.byte, 22, 4, fun _ i => .int (([116, 105, 101, 114] : List Int32).getD i 0))) dJ1_charAt_3b067_2 cT_4 ?_
  refine ex_cSv [.int 1, .int (nI 4)] [] dJ1_charAt_3b067_3 cS_J1_9 (c_chks g (j := 1) (N := 4) (by decide) rfl (by decide) (by decide)) rfl (by decide) (Nat.le_of_ble_eq_true rfl) rfl ?_
  refine ex_aload_n dJ1_charAt_3b067_6 0 rfl ?_
  refine ex_iload_n dJ1_charAt_3b067_7 1 rfl ?_
  refine ex_baldC (q := (.byte, 22, 4, fun _ i => .int (([116, 105, 101, 114] : List Int32).getD i 0))) (j := 1) dJ1_charAt_3b067_8 cT_4 rfl (by decide) (by decide) (by decide) ?_
  refine ex_sipush (v := 255) dJ1_charAt_3b067_9 (by decide) ?_
  refine ex_iand dJ1_charAt_3b067_12 ?_
  refine ex_i2c (v := 105) dJ1_charAt_3b067_13 (by decide) ?_
  exact ex_zret rfl (by decide +kernel) dJ1_charAt_3b067_14 ex_rt_i
set_option maxRecDepth 20000 in
set_option maxHeartbeats 2000000 in
theorem c_char_2_1 (g : gl_T) {S : hs_T} {n k : Nat}  : ex_M g 3 mJ0_charAt_5068e [.ref (g.2.2.2.2 12), .int 1] S n k (ex_rt (some (.int 105)) S n k) := by
  refine ex_enter (by decide +kernel) (Nat.le_of_ble_eq_true rfl) ?_
  show ex_W _ _ _ _ 0 [(0, .ref (g.2.2.2.2 12)), (1, .int 1)] [] _ _ _
  refine ex_aload_n dJ0_charAt_5068e_0 0 rfl ?_
  refine ex_cVC (q := ("java/lang/String", 12)) [] [] dJ0_charAt_5068e_1 cV_J0_492 (c_latin_2 g) cO_6 rfl rfl (by decide) (Nat.le_of_ble_eq_true rfl) rfl ?_
  refine ex_if_eq (tgt := 16) dJ0_charAt_5068e_4 (by decide) (fun c4 => absurd c4 (by decide)) (fun c4 => ?_)
  refine ex_aload_n dJ0_charAt_5068e_7 0 rfl ?_
  refine ex_getC (q := ("java/lang/String", "value", "[B", 12, fun ad => .ref (ad 22))) dJ0_charAt_5068e_8 cF_28 gc_J0_9 ?_
  refine ex_iload_n dJ0_charAt_5068e_11 1 rfl ?_
  refine ex_cSr [.ref (g.2.2.2.2 22), .int 1] [] dJ0_charAt_5068e_12 cS_J0_495 (c_lch_2_1 g) rfl (by decide) (Nat.le_of_ble_eq_true rfl) rfl ?_
  exact ex_zret rfl (by decide +kernel) dJ0_charAt_5068e_15 ex_rt_i
set_option maxRecDepth 20000 in
set_option maxHeartbeats 2000000 in
theorem c_lch_2_2 (g : gl_T) {S : hs_T} {n k : Nat}  : ex_M g 2 mJ1_charAt_3b067 [.ref (g.2.2.2.2 22), .int 2] S n k (ex_rt (some (.int 101)) S n k) := by
  refine ex_enter (by decide +kernel) (Nat.le_of_ble_eq_true rfl) ?_
  show ex_W _ _ _ _ 0 [(0, .ref (g.2.2.2.2 22)), (1, .int 2)] [] _ _ _
  refine ex_iload_n dJ1_charAt_3b067_0 1 rfl ?_
  refine ex_aload_n dJ1_charAt_3b067_1 0 rfl ?_
  refine ex_alenC (q := (.byte, 22, 4, fun _ i => .int (([116, 105, 101, 114] : List Int32).getD i 0))) dJ1_charAt_3b067_2 cT_4 ?_
  refine ex_cSv [.int 2, .int (nI 4)] [] dJ1_charAt_3b067_3 cS_J1_9 (c_chks g (j := 2) (N := 4) (by decide) rfl (by decide) (by decide)) rfl (by decide) (Nat.le_of_ble_eq_true rfl) rfl ?_
  refine ex_aload_n dJ1_charAt_3b067_6 0 rfl ?_
  refine ex_iload_n dJ1_charAt_3b067_7 1 rfl ?_
  refine ex_baldC (q := (.byte, 22, 4, fun _ i => .int (([116, 105, 101, 114] : List Int32).getD i 0))) (j := 2) dJ1_charAt_3b067_8 cT_4 rfl (by decide) (by decide) (by decide) ?_
  refine ex_sipush (v := 255) dJ1_charAt_3b067_9 (by decide) ?_
  refine ex_iand dJ1_charAt_3b067_12 ?_
  refine ex_i2c (v := 101) dJ1_charAt_3b067_13 (by decide) ?_
  exact ex_zret rfl (by decide +kernel) dJ1_charAt_3b067_14 ex_rt_i
set_option maxRecDepth 20000 in
set_option maxHeartbeats 2000000 in
theorem c_char_2_2 (g : gl_T) {S : hs_T} {n k : Nat}  : ex_M g 3 mJ0_charAt_5068e [.ref (g.2.2.2.2 12), .int 2] S n k (ex_rt (some (.int 101)) S n k) := by
  refine ex_enter (by decide +kernel) (Nat.le_of_ble_eq_true rfl) ?_
  show ex_W _ _ _ _ 0 [(0, .ref (g.2.2.2.2 12)), (1, .int 2)] [] _ _ _
  refine ex_aload_n dJ0_charAt_5068e_0 0 rfl ?_
  refine ex_cVC (q := ("java/lang/String", 12)) [] [] dJ0_charAt_5068e_1 cV_J0_492 (c_latin_2 g) cO_6 rfl rfl (by decide) (Nat.le_of_ble_eq_true rfl) rfl ?_
  refine ex_if_eq (tgt := 16) dJ0_charAt_5068e_4 (by decide) (fun c4 => absurd c4 (by decide)) (fun c4 => ?_)
  refine ex_aload_n dJ0_charAt_5068e_7 0 rfl ?_
  refine ex_getC (q := ("java/lang/String", "value", "[B", 12, fun ad => .ref (ad 22))) dJ0_charAt_5068e_8 cF_28 gc_J0_9 ?_
  refine ex_iload_n dJ0_charAt_5068e_11 1 rfl ?_
  refine ex_cSr [.ref (g.2.2.2.2 22), .int 2] [] dJ0_charAt_5068e_12 cS_J0_495 (c_lch_2_2 g) rfl (by decide) (Nat.le_of_ble_eq_true rfl) rfl ?_
  exact ex_zret rfl (by decide +kernel) dJ0_charAt_5068e_15 ex_rt_i
set_option maxRecDepth 20000 in
set_option maxHeartbeats 2000000 in
theorem c_lch_2_3 (g : gl_T) {S : hs_T} {n k : Nat}  : ex_M g 2 mJ1_charAt_3b067 [.ref (g.2.2.2.2 22), .int 3] S n k (ex_rt (some (.int 114)) S n k) := by
  refine ex_enter (by decide +kernel) (Nat.le_of_ble_eq_true rfl) ?_
  show ex_W _ _ _ _ 0 [(0, .ref (g.2.2.2.2 22)), (1, .int 3)] [] _ _ _
  refine ex_iload_n dJ1_charAt_3b067_0 1 rfl ?_
  refine ex_aload_n dJ1_charAt_3b067_1 0 rfl ?_
  refine ex_alenC (q := (.byte, 22, 4, fun _ i => .int (([116, 105, 101, 114] : List Int32).getD i 0))) dJ1_charAt_3b067_2 cT_4 ?_
  refine ex_cSv [.int 3, .int (nI 4)] [] dJ1_charAt_3b067_3 cS_J1_9 (c_chks g (j := 3) (N := 4) (by decide) rfl (by decide) (by decide)) rfl (by decide) (Nat.le_of_ble_eq_true rfl) rfl ?_
  refine ex_aload_n dJ1_charAt_3b067_6 0 rfl ?_
  refine ex_iload_n dJ1_charAt_3b067_7 1 rfl ?_
  refine ex_baldC (q := (.byte, 22, 4, fun _ i => .int (([116, 105, 101, 114] : List Int32).getD i 0))) (j := 3) dJ1_charAt_3b067_8 cT_4 rfl (by decide) (by decide) (by decide) ?_
  refine ex_sipush (v := 255) dJ1_charAt_3b067_9 (by decide) ?_
  refine ex_iand dJ1_charAt_3b067_12 ?_
  refine ex_i2c (v := 114) dJ1_charAt_3b067_13 (by decide) ?_
  exact ex_zret rfl (by decide +kernel) dJ1_charAt_3b067_14 ex_rt_i
set_option maxRecDepth 20000 in
set_option maxHeartbeats 2000000 in
theorem c_char_2_3 (g : gl_T) {S : hs_T} {n k : Nat}  : ex_M g 3 mJ0_charAt_5068e [.ref (g.2.2.2.2 12), .int 3] S n k (ex_rt (some (.int 114)) S n k) := by
  refine ex_enter (by decide +kernel) (Nat.le_of_ble_eq_true rfl) ?_
  show ex_W _ _ _ _ 0 [(0, .ref (g.2.2.2.2 12)), (1, .int 3)] [] _ _ _
  refine ex_aload_n dJ0_charAt_5068e_0 0 rfl ?_
  refine ex_cVC (q := ("java/lang/String", 12)) [] [] dJ0_charAt_5068e_1 cV_J0_492 (c_latin_2 g) cO_6 rfl rfl (by decide) (Nat.le_of_ble_eq_true rfl) rfl ?_
  refine ex_if_eq (tgt := 16) dJ0_charAt_5068e_4 (by decide) (fun c4 => absurd c4 (by decide)) (fun c4 => ?_)
  refine ex_aload_n dJ0_charAt_5068e_7 0 rfl ?_
  refine ex_getC (q := ("java/lang/String", "value", "[B", 12, fun ad => .ref (ad 22))) dJ0_charAt_5068e_8 cF_28 gc_J0_9 ?_
  refine ex_iload_n dJ0_charAt_5068e_11 1 rfl ?_
  refine ex_cSr [.ref (g.2.2.2.2 22), .int 3] [] dJ0_charAt_5068e_12 cS_J0_495 (c_lch_2_3 g) rfl (by decide) (Nat.le_of_ble_eq_true rfl) rfl ?_
  exact ex_zret rfl (by decide +kernel) dJ0_charAt_5068e_15 ex_rt_i
set_option maxRecDepth 20000 in
set_option maxHeartbeats 2000000 in
theorem c_lch_3_0 (g : gl_T) {S : hs_T} {n k : Nat}  : ex_M g 2 mJ1_charAt_3b067 [.ref (g.2.2.2.2 23), .int 0] S n k (ex_rt (some (.int 115)) S n k) := by
  refine ex_enter (by decide +kernel) (Nat.le_of_ble_eq_true rfl) ?_
  show ex_W _ _ _ _ 0 [(0, .ref (g.2.2.2.2 23)), (1, .int 0)] [] _ _ _
  refine ex_iload_n dJ1_charAt_3b067_0 1 rfl ?_
  refine ex_aload_n dJ1_charAt_3b067_1 0 rfl ?_
  refine ex_alenC (q := (.byte, 23, 5, fun _ i => .int (([115, 104, 97, 114, 101] : List Int32).getD i 0))) dJ1_charAt_3b067_2 cT_5 ?_
  refine ex_cSv [.int 0, .int (nI 5)] [] dJ1_charAt_3b067_3 cS_J1_9 (c_chks g (j := 0) (N := 5) (by decide) rfl (by decide) (by decide)) rfl (by decide) (Nat.le_of_ble_eq_true rfl) rfl ?_
  refine ex_aload_n dJ1_charAt_3b067_6 0 rfl ?_
  refine ex_iload_n dJ1_charAt_3b067_7 1 rfl ?_
  refine ex_baldC (q := (.byte, 23, 5, fun _ i => .int (([115, 104, 97, 114, 101] : List Int32).getD i 0))) (j := 0) dJ1_charAt_3b067_8 cT_5 rfl (by decide) (by decide) (by decide) ?_
  refine ex_sipush (v := 255) dJ1_charAt_3b067_9 (by decide) ?_
  refine ex_iand dJ1_charAt_3b067_12 ?_
  refine ex_i2c (v := 115) dJ1_charAt_3b067_13 (by decide) ?_
  exact ex_zret rfl (by decide +kernel) dJ1_charAt_3b067_14 ex_rt_i
set_option maxRecDepth 20000 in
set_option maxHeartbeats 2000000 in
theorem c_char_3_0 (g : gl_T) {S : hs_T} {n k : Nat}  : ex_M g 3 mJ0_charAt_5068e [.ref (g.2.2.2.2 13), .int 0] S n k (ex_rt (some (.int 115)) S n k) := by
  refine ex_enter (by decide +kernel) (Nat.le_of_ble_eq_true rfl) ?_
  show ex_W _ _ _ _ 0 [(0, .ref (g.2.2.2.2 13)), (1, .int 0)] [] _ _ _
  refine ex_aload_n dJ0_charAt_5068e_0 0 rfl ?_
  refine ex_cVC (q := ("java/lang/String", 13)) [] [] dJ0_charAt_5068e_1 cV_J0_492 (c_latin_3 g) cO_7 rfl rfl (by decide) (Nat.le_of_ble_eq_true rfl) rfl ?_
  refine ex_if_eq (tgt := 16) dJ0_charAt_5068e_4 (by decide) (fun c4 => absurd c4 (by decide)) (fun c4 => ?_)
  refine ex_aload_n dJ0_charAt_5068e_7 0 rfl ?_
  refine ex_getC (q := ("java/lang/String", "value", "[B", 13, fun ad => .ref (ad 23))) dJ0_charAt_5068e_8 cF_30 gc_J0_9 ?_
  refine ex_iload_n dJ0_charAt_5068e_11 1 rfl ?_
  refine ex_cSr [.ref (g.2.2.2.2 23), .int 0] [] dJ0_charAt_5068e_12 cS_J0_495 (c_lch_3_0 g) rfl (by decide) (Nat.le_of_ble_eq_true rfl) rfl ?_
  exact ex_zret rfl (by decide +kernel) dJ0_charAt_5068e_15 ex_rt_i
set_option maxRecDepth 20000 in
set_option maxHeartbeats 2000000 in
theorem c_lch_3_1 (g : gl_T) {S : hs_T} {n k : Nat}  : ex_M g 2 mJ1_charAt_3b067 [.ref (g.2.2.2.2 23), .int 1] S n k (ex_rt (some (.int 104)) S n k) := by
  refine ex_enter (by decide +kernel) (Nat.le_of_ble_eq_true rfl) ?_
  show ex_W _ _ _ _ 0 [(0, .ref (g.2.2.2.2 23)), (1, .int 1)] [] _ _ _
  refine ex_iload_n dJ1_charAt_3b067_0 1 rfl ?_
  refine ex_aload_n dJ1_charAt_3b067_1 0 rfl ?_
  refine ex_alenC (q := (.byte, 23, 5, fun _ i => .int (([115, 104, 97, 114, 101] : List Int32).getD i 0))) dJ1_charAt_3b067_2 cT_5 ?_
  refine ex_cSv [.int 1, .int (nI 5)] [] dJ1_charAt_3b067_3 cS_J1_9 (c_chks g (j := 1) (N := 5) (by decide) rfl (by decide) (by decide)) rfl (by decide) (Nat.le_of_ble_eq_true rfl) rfl ?_
  refine ex_aload_n dJ1_charAt_3b067_6 0 rfl ?_
  refine ex_iload_n dJ1_charAt_3b067_7 1 rfl ?_
  refine ex_baldC (q := (.byte, 23, 5, fun _ i => .int (([115, 104, 97, 114, 101] : List Int32).getD i 0))) (j := 1) dJ1_charAt_3b067_8 cT_5 rfl (by decide) (by decide) (by decide) ?_
  refine ex_sipush (v := 255) dJ1_charAt_3b067_9 (by decide) ?_
  refine ex_iand dJ1_charAt_3b067_12 ?_
  refine ex_i2c (v := 104) dJ1_charAt_3b067_13 (by decide) ?_
  exact ex_zret rfl (by decide +kernel) dJ1_charAt_3b067_14 ex_rt_i
set_option maxRecDepth 20000 in
set_option maxHeartbeats 2000000 in
theorem c_char_3_1 (g : gl_T) {S : hs_T} {n k : Nat}  : ex_M g 3 mJ0_charAt_5068e [.ref (g.2.2.2.2 13), .int 1] S n k (ex_rt (some (.int 104)) S n k) := by
  refine ex_enter (by decide +kernel) (Nat.le_of_ble_eq_true rfl) ?_
  show ex_W _ _ _ _ 0 [(0, .ref (g.2.2.2.2 13)), (1, .int 1)] [] _ _ _
  refine ex_aload_n dJ0_charAt_5068e_0 0 rfl ?_
  refine ex_cVC (q := ("java/lang/String", 13)) [] [] dJ0_charAt_5068e_1 cV_J0_492 (c_latin_3 g) cO_7 rfl rfl (by decide) (Nat.le_of_ble_eq_true rfl) rfl ?_
  refine ex_if_eq (tgt := 16) dJ0_charAt_5068e_4 (by decide) (fun c4 => absurd c4 (by decide)) (fun c4 => ?_)
  refine ex_aload_n dJ0_charAt_5068e_7 0 rfl ?_
  refine ex_getC (q := ("java/lang/String", "value", "[B", 13, fun ad => .ref (ad 23))) dJ0_charAt_5068e_8 cF_30 gc_J0_9 ?_
  refine ex_iload_n dJ0_charAt_5068e_11 1 rfl ?_
  refine ex_cSr [.ref (g.2.2.2.2 23), .int 1] [] dJ0_charAt_5068e_12 cS_J0_495 (c_lch_3_1 g) rfl (by decide) (Nat.le_of_ble_eq_true rfl) rfl ?_
  exact ex_zret rfl (by decide +kernel) dJ0_charAt_5068e_15 ex_rt_i
set_option maxRecDepth 20000 in
set_option maxHeartbeats 2000000 in
theorem c_lch_3_2 (g : gl_T) {S : hs_T} {n k : Nat}  : ex_M g 2 mJ1_charAt_3b067 [.ref (g.2.2.2.2 23), .int 2] S n k (ex_rt (some (.int 97)) S n k) := by
  refine ex_enter (by decide +kernel) (Nat.le_of_ble_eq_true rfl) ?_
  show ex_W _ _ _ _ 0 [(0, .ref (g.2.2.2.2 23)), (1, .int 2)] [] _ _ _
  refine ex_iload_n dJ1_charAt_3b067_0 1 rfl ?_
  refine ex_aload_n dJ1_charAt_3b067_1 0 rfl ?_
  refine ex_alenC (q := (.byte, 23, 5, fun _ i => .int (([115, 104, 97, 114, 101] : List Int32).getD i 0))) dJ1_charAt_3b067_2 cT_5 ?_
  refine ex_cSv [.int 2, .int (nI 5)] [] dJ1_charAt_3b067_3 cS_J1_9 (c_chks g (j := 2) (N := 5) (by decide) rfl (by decide) (by decide)) rfl (by decide) (Nat.le_of_ble_eq_true rfl) rfl ?_
  refine ex_aload_n dJ1_charAt_3b067_6 0 rfl ?_
  refine ex_iload_n dJ1_charAt_3b067_7 1 rfl ?_
  refine ex_baldC (q := (.byte, 23, 5, fun _ i => .int (([115, 104, 97, 114, 101] : List Int32).getD i 0))) (j := 2) dJ1_charAt_3b067_8 cT_5 rfl (by decide) (by decide) (by decide) ?_
  refine ex_sipush (v := 255) dJ1_charAt_3b067_9 (by decide) ?_
  refine ex_iand dJ1_charAt_3b067_12 ?_
  refine ex_i2c (v := 97) dJ1_charAt_3b067_13 (by decide) ?_
  exact ex_zret rfl (by decide +kernel) dJ1_charAt_3b067_14 ex_rt_i
set_option maxRecDepth 20000 in
set_option maxHeartbeats 2000000 in
theorem c_char_3_2 (g : gl_T) {S : hs_T} {n k : Nat}  : ex_M g 3 mJ0_charAt_5068e [.ref (g.2.2.2.2 13), .int 2] S n k (ex_rt (some (.int 97)) S n k) := by
  refine ex_enter (by decide +kernel) (Nat.le_of_ble_eq_true rfl) ?_
  show ex_W _ _ _ _ 0 [(0, .ref (g.2.2.2.2 13)), (1, .int 2)] [] _ _ _
  refine ex_aload_n dJ0_charAt_5068e_0 0 rfl ?_
  refine ex_cVC (q := ("java/lang/String", 13)) [] [] dJ0_charAt_5068e_1 cV_J0_492 (c_latin_3 g) cO_7 rfl rfl (by decide) (Nat.le_of_ble_eq_true rfl) rfl ?_
  refine ex_if_eq (tgt := 16) dJ0_charAt_5068e_4 (by decide) (fun c4 => absurd c4 (by decide)) (fun c4 => ?_)
  refine ex_aload_n dJ0_charAt_5068e_7 0 rfl ?_
  refine ex_getC (q := ("java/lang/String", "value", "[B", 13, fun ad => .ref (ad 23))) dJ0_charAt_5068e_8 cF_30 gc_J0_9 ?_
  refine ex_iload_n dJ0_charAt_5068e_11 1 rfl ?_
  refine ex_cSr [.ref (g.2.2.2.2 23), .int 2] [] dJ0_charAt_5068e_12 cS_J0_495 (c_lch_3_2 g) rfl (by decide) (Nat.le_of_ble_eq_true rfl) rfl ?_
  exact ex_zret rfl (by decide +kernel) dJ0_charAt_5068e_15 ex_rt_i
set_option maxRecDepth 20000 in
set_option maxHeartbeats 2000000 in
theorem c_lch_3_3 (g : gl_T) {S : hs_T} {n k : Nat}  : ex_M g 2 mJ1_charAt_3b067 [.ref (g.2.2.2.2 23), .int 3] S n k (ex_rt (some (.int 114)) S n k) := by
  refine ex_enter (by decide +kernel) (Nat.le_of_ble_eq_true rfl) ?_
  show ex_W _ _ _ _ 0 [(0, .ref (g.2.2.2.2 23)), (1, .int 3)] [] _ _ _
  refine ex_iload_n dJ1_charAt_3b067_0 1 rfl ?_
  refine ex_aload_n dJ1_charAt_3b067_1 0 rfl ?_
  refine ex_alenC (q := (.byte, 23, 5, fun _ i => .int (([115, 104, 97, 114, 101] : List Int32).getD i 0))) dJ1_charAt_3b067_2 cT_5 ?_
  refine ex_cSv [.int 3, .int (nI 5)] [] dJ1_charAt_3b067_3 cS_J1_9 (c_chks g (j := 3) (N := 5) (by decide) rfl (by decide) (by decide)) rfl (by decide) (Nat.le_of_ble_eq_true rfl) rfl ?_
  refine ex_aload_n dJ1_charAt_3b067_6 0 rfl ?_
  refine ex_iload_n dJ1_charAt_3b067_7 1 rfl ?_
  refine ex_baldC (q := (.byte, 23, 5, fun _ i => .int (([115, 104, 97, 114, 101] : List Int32).getD i 0))) (j := 3) dJ1_charAt_3b067_8 cT_5 rfl (by decide) (by decide) (by decide) ?_
  refine ex_sipush (v := 255) dJ1_charAt_3b067_9 (by decide) ?_
  refine ex_iand dJ1_charAt_3b067_12 ?_
  refine ex_i2c (v := 114) dJ1_charAt_3b067_13 (by decide) ?_
  exact ex_zret rfl (by decide +kernel) dJ1_charAt_3b067_14 ex_rt_i
set_option maxRecDepth 20000 in
set_option maxHeartbeats 2000000 in
theorem c_char_3_3 (g : gl_T) {S : hs_T} {n k : Nat}  : ex_M g 3 mJ0_charAt_5068e [.ref (g.2.2.2.2 13), .int 3] S n k (ex_rt (some (.int 114)) S n k) := by
  refine ex_enter (by decide +kernel) (Nat.le_of_ble_eq_true rfl) ?_
  show ex_W _ _ _ _ 0 [(0, .ref (g.2.2.2.2 13)), (1, .int 3)] [] _ _ _
  refine ex_aload_n dJ0_charAt_5068e_0 0 rfl ?_
  refine ex_cVC (q := ("java/lang/String", 13)) [] [] dJ0_charAt_5068e_1 cV_J0_492 (c_latin_3 g) cO_7 rfl rfl (by decide) (Nat.le_of_ble_eq_true rfl) rfl ?_
  refine ex_if_eq (tgt := 16) dJ0_charAt_5068e_4 (by decide) (fun c4 => absurd c4 (by decide)) (fun c4 => ?_)
  refine ex_aload_n dJ0_charAt_5068e_7 0 rfl ?_
  refine ex_getC (q := ("java/lang/String", "value", "[B", 13, fun ad => .ref (ad 23))) dJ0_charAt_5068e_8 cF_30 gc_J0_9 ?_
  refine ex_iload_n dJ0_charAt_5068e_11 1 rfl ?_
  refine ex_cSr [.ref (g.2.2.2.2 23), .int 3] [] dJ0_charAt_5068e_12 cS_J0_495 (c_lch_3_3 g) rfl (by decide) (Nat.le_of_ble_eq_true rfl) rfl ?_
  exact ex_zret rfl (by decide +kernel) dJ0_charAt_5068e_15 ex_rt_i
set_option maxRecDepth 20000 in
set_option maxHeartbeats 2000000 in
theorem c_lch_3_4 (g : gl_T) {S : hs_T} {n k : Nat}  : ex_M g 2 mJ1_charAt_3b067 [.ref (g.2.2.2.2 23), .int 4] S n k (ex_rt (some (.int 101)) S n k) := by
  refine ex_enter (by decide +kernel) (Nat.le_of_ble_eq_true rfl) ?_
  show ex_W _ _ _ _ 0 [(0, .ref (g.2.2.2.2 23)), (1, .int 4)] [] _ _ _
  refine ex_iload_n dJ1_charAt_3b067_0 1 rfl ?_
  refine ex_aload_n dJ1_charAt_3b067_1 0 rfl ?_
  refine ex_alenC (q := (.byte, 23, 5, fun _ i => .int (([115, 104, 97, 114, 101] : List Int32).getD i 0))) dJ1_charAt_3b067_2 cT_5 ?_
  refine ex_cSv [.int 4, .int (nI 5)] [] dJ1_charAt_3b067_3 cS_J1_9 (c_chks g (j := 4) (N := 5) (by decide) rfl (by decide) (by decide)) rfl (by decide) (Nat.le_of_ble_eq_true rfl) rfl ?_
  refine ex_aload_n dJ1_charAt_3b067_6 0 rfl ?_
  refine ex_iload_n dJ1_charAt_3b067_7 1 rfl ?_
  refine ex_baldC (q := (.byte, 23, 5, fun _ i => .int (([115, 104, 97, 114, 101] : List Int32).getD i 0))) (j := 4) dJ1_charAt_3b067_8 cT_5 rfl (by decide) (by decide) (by decide) ?_
  refine ex_sipush (v := 255) dJ1_charAt_3b067_9 (by decide) ?_
  refine ex_iand dJ1_charAt_3b067_12 ?_
  refine ex_i2c (v := 101) dJ1_charAt_3b067_13 (by decide) ?_
  exact ex_zret rfl (by decide +kernel) dJ1_charAt_3b067_14 ex_rt_i
set_option maxRecDepth 20000 in
set_option maxHeartbeats 2000000 in
theorem c_char_3_4 (g : gl_T) {S : hs_T} {n k : Nat}  : ex_M g 3 mJ0_charAt_5068e [.ref (g.2.2.2.2 13), .int 4] S n k (ex_rt (some (.int 101)) S n k) := by
  refine ex_enter (by decide +kernel) (Nat.le_of_ble_eq_true rfl) ?_
  show ex_W _ _ _ _ 0 [(0, .ref (g.2.2.2.2 13)), (1, .int 4)] [] _ _ _
  refine ex_aload_n dJ0_charAt_5068e_0 0 rfl ?_
  refine ex_cVC (q := ("java/lang/String", 13)) [] [] dJ0_charAt_5068e_1 cV_J0_492 (c_latin_3 g) cO_7 rfl rfl (by decide) (Nat.le_of_ble_eq_true rfl) rfl ?_
  refine ex_if_eq (tgt := 16) dJ0_charAt_5068e_4 (by decide) (fun c4 => absurd c4 (by decide)) (fun c4 => ?_)
  refine ex_aload_n dJ0_charAt_5068e_7 0 rfl ?_
  refine ex_getC (q := ("java/lang/String", "value", "[B", 13, fun ad => .ref (ad 23))) dJ0_charAt_5068e_8 cF_30 gc_J0_9 ?_
  refine ex_iload_n dJ0_charAt_5068e_11 1 rfl ?_
  refine ex_cSr [.ref (g.2.2.2.2 23), .int 4] [] dJ0_charAt_5068e_12 cS_J0_495 (c_lch_3_4 g) rfl (by decide) (Nat.le_of_ble_eq_true rfl) rfl ?_
  exact ex_zret rfl (by decide +kernel) dJ0_charAt_5068e_15 ex_rt_i
set_option maxRecDepth 20000 in
set_option maxHeartbeats 2000000 in
theorem c_lch_5_0 (g : gl_T) {S : hs_T} {n k : Nat}  : ex_M g 2 mJ1_charAt_3b067 [.ref (g.2.2.2.2 25), .int 0] S n k (ex_rt (some (.int 47)) S n k) := by
  refine ex_enter (by decide +kernel) (Nat.le_of_ble_eq_true rfl) ?_
  show ex_W _ _ _ _ 0 [(0, .ref (g.2.2.2.2 25)), (1, .int 0)] [] _ _ _
  refine ex_iload_n dJ1_charAt_3b067_0 1 rfl ?_
  refine ex_aload_n dJ1_charAt_3b067_1 0 rfl ?_
  refine ex_alenC (q := (.byte, 25, 1, fun _ i => .int (([47] : List Int32).getD i 0))) dJ1_charAt_3b067_2 cT_7 ?_
  refine ex_cSv [.int 0, .int (nI 1)] [] dJ1_charAt_3b067_3 cS_J1_9 (c_chks g (j := 0) (N := 1) (by decide) rfl (by decide) (by decide)) rfl (by decide) (Nat.le_of_ble_eq_true rfl) rfl ?_
  refine ex_aload_n dJ1_charAt_3b067_6 0 rfl ?_
  refine ex_iload_n dJ1_charAt_3b067_7 1 rfl ?_
  refine ex_baldC (q := (.byte, 25, 1, fun _ i => .int (([47] : List Int32).getD i 0))) (j := 0) dJ1_charAt_3b067_8 cT_7 rfl (by decide) (by decide) (by decide) ?_
  refine ex_sipush (v := 255) dJ1_charAt_3b067_9 (by decide) ?_
  refine ex_iand dJ1_charAt_3b067_12 ?_
  refine ex_i2c (v := 47) dJ1_charAt_3b067_13 (by decide) ?_
  exact ex_zret rfl (by decide +kernel) dJ1_charAt_3b067_14 ex_rt_i
set_option maxRecDepth 20000 in
set_option maxHeartbeats 2000000 in
theorem c_char_5_0 (g : gl_T) {S : hs_T} {n k : Nat}  : ex_M g 3 mJ0_charAt_5068e [.ref (g.2.2.2.2 15), .int 0] S n k (ex_rt (some (.int 47)) S n k) := by
  refine ex_enter (by decide +kernel) (Nat.le_of_ble_eq_true rfl) ?_
  show ex_W _ _ _ _ 0 [(0, .ref (g.2.2.2.2 15)), (1, .int 0)] [] _ _ _
  refine ex_aload_n dJ0_charAt_5068e_0 0 rfl ?_
  refine ex_cVC (q := ("java/lang/String", 15)) [] [] dJ0_charAt_5068e_1 cV_J0_492 (c_latin_5 g) cO_9 rfl rfl (by decide) (Nat.le_of_ble_eq_true rfl) rfl ?_
  refine ex_if_eq (tgt := 16) dJ0_charAt_5068e_4 (by decide) (fun c4 => absurd c4 (by decide)) (fun c4 => ?_)
  refine ex_aload_n dJ0_charAt_5068e_7 0 rfl ?_
  refine ex_getC (q := ("java/lang/String", "value", "[B", 15, fun ad => .ref (ad 25))) dJ0_charAt_5068e_8 cF_34 gc_J0_9 ?_
  refine ex_iload_n dJ0_charAt_5068e_11 1 rfl ?_
  refine ex_cSr [.ref (g.2.2.2.2 25), .int 0] [] dJ0_charAt_5068e_12 cS_J0_495 (c_lch_5_0 g) rfl (by decide) (Nat.le_of_ble_eq_true rfl) rfl ?_
  exact ex_zret rfl (by decide +kernel) dJ0_charAt_5068e_15 ex_rt_i
set_option maxRecDepth 20000 in
set_option maxHeartbeats 2000000 in
theorem c_lch_6_0 (g : gl_T) {S : hs_T} {n k : Nat}  : ex_M g 2 mJ1_charAt_3b067 [.ref (g.2.2.2.2 26), .int 0] S n k (ex_rt (some (.int 120)) S n k) := by
  refine ex_enter (by decide +kernel) (Nat.le_of_ble_eq_true rfl) ?_
  show ex_W _ _ _ _ 0 [(0, .ref (g.2.2.2.2 26)), (1, .int 0)] [] _ _ _
  refine ex_iload_n dJ1_charAt_3b067_0 1 rfl ?_
  refine ex_aload_n dJ1_charAt_3b067_1 0 rfl ?_
  refine ex_alenC (q := (.byte, 26, 1, fun _ i => .int (([120] : List Int32).getD i 0))) dJ1_charAt_3b067_2 cT_8 ?_
  refine ex_cSv [.int 0, .int (nI 1)] [] dJ1_charAt_3b067_3 cS_J1_9 (c_chks g (j := 0) (N := 1) (by decide) rfl (by decide) (by decide)) rfl (by decide) (Nat.le_of_ble_eq_true rfl) rfl ?_
  refine ex_aload_n dJ1_charAt_3b067_6 0 rfl ?_
  refine ex_iload_n dJ1_charAt_3b067_7 1 rfl ?_
  refine ex_baldC (q := (.byte, 26, 1, fun _ i => .int (([120] : List Int32).getD i 0))) (j := 0) dJ1_charAt_3b067_8 cT_8 rfl (by decide) (by decide) (by decide) ?_
  refine ex_sipush (v := 255) dJ1_charAt_3b067_9 (by decide) ?_
  refine ex_iand dJ1_charAt_3b067_12 ?_
  refine ex_i2c (v := 120) dJ1_charAt_3b067_13 (by decide) ?_
  exact ex_zret rfl (by decide +kernel) dJ1_charAt_3b067_14 ex_rt_i
set_option maxRecDepth 20000 in
set_option maxHeartbeats 2000000 in
theorem c_char_6_0 (g : gl_T) {S : hs_T} {n k : Nat}  : ex_M g 3 mJ0_charAt_5068e [.ref (g.2.2.2.2 16), .int 0] S n k (ex_rt (some (.int 120)) S n k) := by
  refine ex_enter (by decide +kernel) (Nat.le_of_ble_eq_true rfl) ?_
  show ex_W _ _ _ _ 0 [(0, .ref (g.2.2.2.2 16)), (1, .int 0)] [] _ _ _
  refine ex_aload_n dJ0_charAt_5068e_0 0 rfl ?_
  refine ex_cVC (q := ("java/lang/String", 16)) [] [] dJ0_charAt_5068e_1 cV_J0_492 (c_latin_6 g) cO_10 rfl rfl (by decide) (Nat.le_of_ble_eq_true rfl) rfl ?_
  refine ex_if_eq (tgt := 16) dJ0_charAt_5068e_4 (by decide) (fun c4 => absurd c4 (by decide)) (fun c4 => ?_)
  refine ex_aload_n dJ0_charAt_5068e_7 0 rfl ?_
  refine ex_getC (q := ("java/lang/String", "value", "[B", 16, fun ad => .ref (ad 26))) dJ0_charAt_5068e_8 cF_36 gc_J0_9 ?_
  refine ex_iload_n dJ0_charAt_5068e_11 1 rfl ?_
  refine ex_cSr [.ref (g.2.2.2.2 26), .int 0] [] dJ0_charAt_5068e_12 cS_J0_495 (c_lch_6_0 g) rfl (by decide) (Nat.le_of_ble_eq_true rfl) rfl ?_
  exact ex_zret rfl (by decide +kernel) dJ0_charAt_5068e_15 ex_rt_i
set_option maxRecDepth 20000 in
set_option maxHeartbeats 2000000 in
theorem c_lch_7_0 (g : gl_T) {S : hs_T} {n k : Nat}  : ex_M g 2 mJ1_charAt_3b067 [.ref (g.2.2.2.2 27), .int 0] S n k (ex_rt (some (.int 59)) S n k) := by
  refine ex_enter (by decide +kernel) (Nat.le_of_ble_eq_true rfl) ?_
  show ex_W _ _ _ _ 0 [(0, .ref (g.2.2.2.2 27)), (1, .int 0)] [] _ _ _
  refine ex_iload_n dJ1_charAt_3b067_0 1 rfl ?_
  refine ex_aload_n dJ1_charAt_3b067_1 0 rfl ?_
  refine ex_alenC (q := (.byte, 27, 1, fun _ i => .int (([59] : List Int32).getD i 0))) dJ1_charAt_3b067_2 cT_9 ?_
  refine ex_cSv [.int 0, .int (nI 1)] [] dJ1_charAt_3b067_3 cS_J1_9 (c_chks g (j := 0) (N := 1) (by decide) rfl (by decide) (by decide)) rfl (by decide) (Nat.le_of_ble_eq_true rfl) rfl ?_
  refine ex_aload_n dJ1_charAt_3b067_6 0 rfl ?_
  refine ex_iload_n dJ1_charAt_3b067_7 1 rfl ?_
  refine ex_baldC (q := (.byte, 27, 1, fun _ i => .int (([59] : List Int32).getD i 0))) (j := 0) dJ1_charAt_3b067_8 cT_9 rfl (by decide) (by decide) (by decide) ?_
  refine ex_sipush (v := 255) dJ1_charAt_3b067_9 (by decide) ?_
  refine ex_iand dJ1_charAt_3b067_12 ?_
  refine ex_i2c (v := 59) dJ1_charAt_3b067_13 (by decide) ?_
  exact ex_zret rfl (by decide +kernel) dJ1_charAt_3b067_14 ex_rt_i
set_option maxRecDepth 20000 in
set_option maxHeartbeats 2000000 in
theorem c_char_7_0 (g : gl_T) {S : hs_T} {n k : Nat}  : ex_M g 3 mJ0_charAt_5068e [.ref (g.2.2.2.2 17), .int 0] S n k (ex_rt (some (.int 59)) S n k) := by
  refine ex_enter (by decide +kernel) (Nat.le_of_ble_eq_true rfl) ?_
  show ex_W _ _ _ _ 0 [(0, .ref (g.2.2.2.2 17)), (1, .int 0)] [] _ _ _
  refine ex_aload_n dJ0_charAt_5068e_0 0 rfl ?_
  refine ex_cVC (q := ("java/lang/String", 17)) [] [] dJ0_charAt_5068e_1 cV_J0_492 (c_latin_7 g) cO_11 rfl rfl (by decide) (Nat.le_of_ble_eq_true rfl) rfl ?_
  refine ex_if_eq (tgt := 16) dJ0_charAt_5068e_4 (by decide) (fun c4 => absurd c4 (by decide)) (fun c4 => ?_)
  refine ex_aload_n dJ0_charAt_5068e_7 0 rfl ?_
  refine ex_getC (q := ("java/lang/String", "value", "[B", 17, fun ad => .ref (ad 27))) dJ0_charAt_5068e_8 cF_38 gc_J0_9 ?_
  refine ex_iload_n dJ0_charAt_5068e_11 1 rfl ?_
  refine ex_cSr [.ref (g.2.2.2.2 27), .int 0] [] dJ0_charAt_5068e_12 cS_J0_495 (c_lch_7_0 g) rfl (by decide) (Nat.le_of_ble_eq_true rfl) rfl ?_
  exact ex_zret rfl (by decide +kernel) dJ0_charAt_5068e_15 ex_rt_i
