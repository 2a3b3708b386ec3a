/-! what is made, cast, thrown; constants; the machine's own methods -/
/-- a class that is made: link, size, and what its fields begin with -/
def ex_nl (own : String) (idx kd : Nat) : Prop := ∃ q : vw_C, hs_cl[kd]? = some q ∧ kd < 11 ∧ ex_ck q ∧ Cond.classLink own idx q.1 ∈ ex_TB ∧ Cond.instantiable q.1 q.2.2 ∈ ex_TB ∧ Cond.initialized q.1 ∈ ex_TB ∧ (hs_ft kd).length = q.2.2 ∧ ∀ ty0 : Nat → FieldType, (∀ k, k < q.2.2 → parseFieldDescriptor (q.2.1 k).2.2.1 = some (ty0 k)) → ∀ j, j < q.2.2 → defaultValue (ty0 j) = vp_V (hs_zs (hs_ft kd)) j
section EXN
variable {g : gl_T} {d : Nat} {M : mt_T} {Po : ex_R} {pc pc' : Nat} {lv : List (Nat × Value)} {st : List Value} {S : hs_T} {n k : Nat}
theorem ex_pushed {q kd N : Nat} {e : va_E} {H1 : Heap} (he : hs_E g.2.2.1 (hs_new S q kd N) q = e) (hP : va_P g.2.1 hs_cl (ex_ws g S ++ [(q, e)]) H1) (hD : va_D (ex_A g) (ex_ws g S ++ [(q, e)])) : q ∉ hs_L S ∧ ex_WD g (hs_new S q kd N) H1 := by
  have hfr : q ∉ hs_L S := va_pl_fresh2 (X := []) (f := hs_E g.2.2.1 S) (e := e) hD
  have h1 : ex_ws g S ++ [(q, e)] = ex_ws g (hs_new S q kd N) := by
    unfold ex_ws
    rw [va_pl_push hfr, hs_L_new]
    exact va_pl_congr (hs_up he (hs_off_new _ S q kd N))
  rw [h1] at hP hD
  exact ⟨hfr, hP, hD⟩
theorem ex_new {idx kd N : Nat} (h : ex_d M pc (.new idx) 3 pc') (hw : ex_nl M.1.cls idx kd) (hN1 : (hs_ft kd).length = N) (hn1 : n + 1 ≤ ex_NM) (hk1 : k + N ≤ ex_KM) (kk : ∀ q, q ∉ hs_L S → ex_W g d M Po pc' lv (.ref q :: st) (hs_new S q kd 0) (n + 1) (k + N)) : ex_W g d M Po pc lv st S n k := by
  intro p e R s m args below meth c H locs ls cells slots n0 k0 C hl hW hS hn hk hN hK
  obtain ⟨⟨hx, hb, hml, hrt, hlocks⟩, ⟨hown, hnm, htab⟩, ⟨hKU, hKH, hbs, hst⟩, hfr, hlo, hrc, hrs, hn0, hk0⟩ := id C
  obtain ⟨hdg, rfl⟩ := h
  obtain ⟨⟨Cn, T, N2⟩, hq, hkd, ⟨hin, ⟨ty0, hty0⟩, hap⟩, hcl, hins, hini, hlen, hz⟩ := hw
  have hNN : N2 = N := hlen.symm.trans hN1
  subst hNN
  refine va_new hx hb (ex_ts hKU args) hin ty0 hty0 hown (ex_w hKU hcl args) (ex_w hKU hins args) (ex_w hKU hini args) hKU.2.2.1 hW.1 hW.2 hS (fun q hq => Nat.le_trans hbs hq) hq (hz ty0 hty0) (by rw [hrc]; omega) (by rw [hrs]; omega) hdg (fun q H1 hP1 hD1 hS1 => ?_)
  obtain ⟨h1, h2⟩ := ex_pushed (g := g) (S := S) (kd := kd) (N := 0) (by rw [hs_E_obj (k := kd) (by rw [hs_K_new]; simp) hkd, hs_new_fs]) hP1 hD1
  exact kk q h1 p e R s m args below meth c H1 locs ls (cells + 1) (slots + N2) n0 k0 C hl h2 hS1 (by omega) (by omega) hn1 hk1
theorem ex_arr1 {ty : FieldType} {cA : ClassId} {j : Nat} {s : State} (hK : va_K g.2.1 hs_cl (ex_ty g) s) (hj : (ex_ty g)[j]? = some (g.2.2.1 j, ty)) (hK2 : va_K g.2.1 hs_cl (ex_ty g ++ [(cA, ty)]) s) : cA = g.2.2.1 j := by
  have h1 := (hK.2 j _ hj).2
  have h2 := (hK2.2 (ex_ty g).length (cA, ty) (by simp)).2
  cases ty with
  | object C =>
    obtain ⟨_, _, -, -, -, h1⟩ := h1
    obtain ⟨_, _, -, -, -, h2⟩ := h2
    exact Option.some.inj (h2.symm.trans h1)
  | _ => exact Option.some.inj (h2.symm.trans h1)
theorem ex_newI {x : Int32} {N : Nat} (h : ex_d M pc (.newarray .int) 2 pc') (hw : Cond.arrayClass .int ∈ ex_TB) (hx1 : x = nI N) (hNb : N ≤ 100000) (hn1 : n + 1 ≤ ex_NM) (hk1 : k + N ≤ ex_KM) (kk : ∀ q, q ∉ hs_L S → ex_W g d M Po pc' lv (.ref q :: st) (hs_new S q 12 N) (n + 1) (k + N)) : ex_W g d M Po pc lv (.int x :: st) S n k := by
  intro p e R s m args below meth c H locs ls cells slots n0 k0 C hl hW hS hn hk hN hK
  obtain ⟨⟨hx, hb, hml, hrt, hlocks⟩, ⟨hown, hnm, htab⟩, ⟨hKU, hKH, hbs, hst⟩, hfr, hlo, hrc, hrs, hn0, hk0⟩ := id C
  obtain ⟨hdg, rfl⟩ := h
  subst hx1
  refine va_newa hx hb (atype := .int) (ex_w hKU hw args) rfl hKU.2.2.1 hW.1 hW.2 hS (fun q hq => Nat.le_trans hbs hq) (N' := N) (a0 := (N, .inl (fun _ => 0))) (fun cA => rfl) (nI_pos (by omega)) (nI_clamp (by omega)) (by show N * 4 ≤ _; omega) (by rw [hrc]; omega) (by rw [hrs]; omega) hdg (fun q cA H1 hK1 hP1 hD1 hS1 => ?_)
  have hcA := ex_arr1 (j := 1) hKU.2.2.1 rfl hK1
  subst hcA
  obtain ⟨h1, h2⟩ := ex_pushed (g := g) (S := S) (kd := 12) (N := N) (by rw [hs_E_I (by rw [hs_K_new]; simp)]; simp [hs_N, hs_new, hs_I, va_up]) hP1 hD1
  exact kk q h1 p e R s m args below meth c H1 locs ls (cells + 1) (slots + N) n0 k0 C hl h2 hS1 (by omega) (by omega) hn1 hk1
theorem ex_newB {x : Int32} {N : Nat} (h : ex_d M pc (.newarray .byte) 2 pc') (hw : Cond.arrayClass .byte ∈ ex_TB) (hx1 : x = nI N) (hNb : N ≤ 100000) (hn1 : n + 1 ≤ ex_NM) (hk1 : k + N ≤ ex_KM) (kk : ∀ q, q ∉ hs_L S → ex_W g d M Po pc' lv (.ref q :: st) (hs_new S q 11 N) (n + 1) (k + N)) : ex_W g d M Po pc lv (.int x :: st) S n k := by
  intro p e R s m args below meth c H locs ls cells slots n0 k0 C hl hW hS hn hk hN hK
  obtain ⟨⟨hx, hb, hml, hrt, hlocks⟩, ⟨hown, hnm, htab⟩, ⟨hKU, hKH, hbs, hst⟩, hfr, hlo, hrc, hrs, hn0, hk0⟩ := id C
  obtain ⟨hdg, rfl⟩ := h
  subst hx1
  refine va_newa hx hb (atype := .byte) (ex_w hKU hw args) rfl hKU.2.2.1 hW.1 hW.2 hS (fun q hq => Nat.le_trans hbs hq) (N' := N) (a0 := (N, .inl (fun _ => 0))) (fun cA => rfl) (nI_pos (by omega)) (nI_clamp (by omega)) (by show N * 1 ≤ _; omega) (by rw [hrc]; omega) (by rw [hrs]; omega) hdg (fun q cA H1 hK1 hP1 hD1 hS1 => ?_)
  have hcA := ex_arr1 (j := 0) hKU.2.2.1 rfl hK1
  subst hcA
  obtain ⟨h1, h2⟩ := ex_pushed (g := g) (S := S) (kd := 11) (N := N) (by rw [hs_E_B (by rw [hs_K_new]; simp)]; simp [hs_N, hs_new, hs_I, va_up]) hP1 hD1
  exact kk q h1 p e R s m args below meth c H1 locs ls (cells + 1) (slots + N) n0 k0 C hl h2 hS1 (by omega) (by omega) hn1 hk1
theorem ex_newZ {x : Int32} {N : Nat} (h : ex_d M pc (.newarray .boolean) 2 pc') (hw : Cond.arrayClass .boolean ∈ ex_TB) (hx1 : x = nI N) (hNb : N ≤ 100000) (hn1 : n + 1 ≤ ex_NM) (hk1 : k + N ≤ ex_KM) (kk : ∀ q, q ∉ hs_L S → ex_W g d M Po pc' lv (.ref q :: st) (hs_new S q 14 N) (n + 1) (k + N)) : ex_W g d M Po pc lv (.int x :: st) S n k := by
  intro p e R s m args below meth c H locs ls cells slots n0 k0 C hl hW hS hn hk hN hK
  obtain ⟨⟨hx, hb, hml, hrt, hlocks⟩, ⟨hown, hnm, htab⟩, ⟨hKU, hKH, hbs, hst⟩, hfr, hlo, hrc, hrs, hn0, hk0⟩ := id C
  obtain ⟨hdg, rfl⟩ := h
  subst hx1
  refine va_newa hx hb (atype := .boolean) (ex_w hKU hw args) rfl hKU.2.2.1 hW.1 hW.2 hS (fun q hq => Nat.le_trans hbs hq) (N' := N) (a0 := (N, .inl (fun _ => 0))) (fun cA => rfl) (nI_pos (by omega)) (nI_clamp (by omega)) (by show N * 1 ≤ _; omega) (by rw [hrc]; omega) (by rw [hrs]; omega) hdg (fun q cA H1 hK1 hP1 hD1 hS1 => ?_)
  have hcA := ex_arr1 (j := 3) hKU.2.2.1 rfl hK1
  subst hcA
  obtain ⟨h1, h2⟩ := ex_pushed (g := g) (S := S) (kd := 14) (N := N) (by rw [hs_E_Z (by rw [hs_K_new]; simp)]; simp [hs_N, hs_new, hs_I, va_up]) hP1 hD1
  exact kk q h1 p e R s m args below meth c H1 locs ls (cells + 1) (slots + N) n0 k0 C hl h2 hS1 (by omega) (by omega) hn1 hk1
theorem ex_newJ {x : Int32} {N : Nat} (h : ex_d M pc (.newarray .long) 2 pc') (hw : Cond.arrayClass .long ∈ ex_TB) (hx1 : x = nI N) (hNb : N ≤ 100000) (hn1 : n + 1 ≤ ex_NM) (hk1 : k + N ≤ ex_KM) (kk : ∀ q, q ∉ hs_L S → ex_W g d M Po pc' lv (.ref q :: st) (hs_new S q 13 N) (n + 1) (k + N)) : ex_W g d M Po pc lv (.int x :: st) S n k := by
  intro p e R s m args below meth c H locs ls cells slots n0 k0 C hl hW hS hn hk hN hK
  obtain ⟨⟨hx, hb, hml, hrt, hlocks⟩, ⟨hown, hnm, htab⟩, ⟨hKU, hKH, hbs, hst⟩, hfr, hlo, hrc, hrs, hn0, hk0⟩ := id C
  obtain ⟨hdg, rfl⟩ := h
  subst hx1
  refine va_newa hx hb (atype := .long) (ex_w hKU hw args) rfl hKU.2.2.1 hW.1 hW.2 hS (fun q hq => Nat.le_trans hbs hq) (N' := N) (a0 := (N, .inr (.inl (fun _ => 0)))) (fun cA => rfl) (nI_pos (by omega)) (nI_clamp (by omega)) (by show N * 8 ≤ _; omega) (by rw [hrc]; omega) (by rw [hrs]; omega) hdg (fun q cA H1 hK1 hP1 hD1 hS1 => ?_)
  have hcA := ex_arr1 (j := 2) hKU.2.2.1 rfl hK1
  subst hcA
  obtain ⟨h1, h2⟩ := ex_pushed (g := g) (S := S) (kd := 13) (N := N) (by rw [hs_E_J (by rw [hs_K_new]; simp)]; simp [hs_N, hs_new, hs_J, va_up]) hP1 hD1
  exact kk q h1 p e R s m args below meth c H1 locs ls (cells + 1) (slots + N) n0 k0 C hl h2 hS1 (by omega) (by omega) hn1 hk1
theorem ex_newQ {x : Int32} {idx N : Nat} (h : ex_d M pc (.anewarray idx) 3 pc') (hw : Cond.classLink M.1.cls idx "java/lang/Object" ∈ ex_TB) (hx1 : x = nI N) (hNb : N ≤ 100000) (hn1 : n + 1 ≤ ex_NM) (hk1 : k + N ≤ ex_KM) (kk : ∀ q, q ∉ hs_L S → ex_W g d M Po pc' lv (.ref q :: st) (hs_new S q 15 N) (n + 1) (k + N)) : ex_W g d M Po pc lv (.int x :: st) S n k := by
  intro p e R s m args below meth c H locs ls cells slots n0 k0 C hl hW hS hn hk hN hK
  obtain ⟨⟨hx, hb, hml, hrt, hlocks⟩, ⟨hown, hnm, htab⟩, ⟨hKU, hKH, hbs, hst⟩, hfr, hlo, hrc, hrs, hn0, hk0⟩ := id C
  obtain ⟨hdg, rfl⟩ := h
  subst hx1
  refine va_newq hx hb hown (ex_w hKU hw args) hKU.2.2.2.2.2.1 hKU.2.2.1 hW.1 hW.2 hS (fun q hq => Nat.le_trans hbs hq) (N' := N) (nI_pos (by omega)) (nI_clamp (by omega)) (by omega) (by rw [hrc]; omega) (by rw [hrs]; omega) hdg (fun q cA H1 hK1 hP1 hD1 hS1 => ?_)
  have hcA := ex_arr1 (j := 4) hKU.2.2.1 rfl hK1
  subst hcA
  obtain ⟨h1, h2⟩ := ex_pushed (g := g) (S := S) (kd := 15) (N := N) (by rw [hs_E_R (by rw [hs_K_new]; simp)]; simp [hs_N, hs_new, hs_R, va_up]) hP1 hD1
  exact kk q h1 p e R s m args below meth c H1 locs ls (cells + 1) (slots + N) n0 k0 C hl h2 hS1 (by omega) (by omega) hn1 hk1
/-- Object.<init> -/
theorem ex_objInit {idx a : Nat} (h : ex_d M pc (.invokespecial idx) 3 pc') (hw : Cond.methodLink M.1.cls idx objectInit ∈ ex_TB ∧ Cond.instanceMethod objectInit ∈ ex_TB ∧ Cond.code objectInit ⟨#[0xb1]⟩ 1 none ∈ ex_TB) (hd : 1 ≤ d) (hrest : (st.map fun v => v.category).sum ≤ 8) (kk : ex_W g d M Po pc' lv st S n k) : ex_W g d M Po pc lv (.ref a :: st) S n k := by
  intro p e R s m args below meth c H locs ls cells slots n0 k0 C hl hW hS hn hk hN hK
  obtain ⟨⟨hx, hb, hml, hrt, hlocks⟩, ⟨hown, hnm, htab⟩, ⟨hKU, hKH, hbs, hst⟩, hfr, hlo, hrc, hrs, hn0, hk0⟩ := id C
  obtain ⟨hdg, rfl⟩ := h
  have hrm : 2 * (F0 m pc ls (.ref a :: st)).monitorRoom + (st.map fun v => v.category).sum ≤ 8 := lv_room hrest
  refine W.objInit hx hb hown (ex_w hKU hw.1 args) (ex_w hKU hw.2.1 args) (ex_w hKU hw.2.2 args) rfl (by rw [hml]; exact hl.1) rfl hdg (by omega) (by omega) ?_
  exact kk p e R s m args below meth c H locs ls cells slots n0 k0 C hl hW hS hn hk hN hK
theorem ex_cast {idx a kd : Nat} {q : vw_C} (h : ex_d M pc (.checkcast idx) 3 pc') (hL : a ∈ hs_L S) (hKd : hs_K S a = kd) (hq : hs_cl[kd]? = some q) (hw : Cond.classLink M.1.cls idx q.1 ∈ ex_TB) (kk : ex_W g d M Po pc' lv (.ref a :: st) S n k) : ex_W g d M Po pc lv (.ref a :: st) S n k := by
  intro p e R s m args below meth c H locs ls cells slots n0 k0 C hl hW hS hn hk hN hK
  obtain ⟨⟨hx, hb, hml, hrt, hlocks⟩, ⟨hown, hnm, htab⟩, ⟨hKU, hKH, hbs, hst⟩, hfr, hlo, hrc, hrs, hn0, hk0⟩ := id C
  obtain ⟨hdg, rfl⟩ := h
  have hkd : kd < 11 := (List.getElem?_eq_some_iff.mp hq).1
  obtain ⟨j, hj⟩ := ex_cell (g := g) hL (hs_E_obj hKd hkd)
  exact va_castS hx hb hown (ex_w hKU hw args) (hKU.2.2.1.1 kd q hq).2 (va_recv hKU.2.2.1 hW.1 hq hj) hdg (kk p e R s m args below meth c H locs ls cells slots n0 k0 C hl hW hS hn hk hN hK)
end EXN
