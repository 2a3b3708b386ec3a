/-! the same rows where more is known of the method and of its start: X (a table, the script) -/
def eh_S (X : Code → State → Prop) (g : gl_T) (d : Nat) (M : mt_T) (p : Program) (R : Room) (s : State) (m : MethodId) (meth : Method) (c : Code) (n0 k0 : Nat) : Prop :=
  (p.tables.exec = Jvm.exec ∧ c.code = M.2.1 ∧ c.maxLocals = M.2.2.1 ∧ meth.sig.returnType = M.2.2.2 ∧ meth.locks = false) ∧
  (s.vm.findClass M.1.cls = some m.cls ∧ True ∧ X c s) ∧
  (ex_KU g s ∧ ex_KH g s s.heap ∧ g.2.2.2.1 ≤ s.heap.size ∧ g.1.stackTraces = false) ∧
  (d ≤ R.frames ∧ 64 * d ≤ R.locals ∧ R.cells = ex_NM - n0 ∧ R.slots = ex_KM - k0 ∧ n0 ≤ ex_NM ∧ k0 ≤ ex_KM)
def eh_W (X : Code → State → Prop) (g : gl_T) (d : Nat) (M : mt_T) (Po : ex_R) (pc : Nat) (lv : List (Nat × Value)) (st : List Value) (S : hs_T) (n k : Nat) : Prop :=
  ∀ (p : Program) (e : Env) (R : Room) (s : State) (m : MethodId) (args : Array Value) (below : List Frame) (meth : Method) (c : Code) (H : Heap) (locs : List Loc) (ls : Array Slot) (cells slots n0 k0 : Nat),
    eh_S X g d M p R s m meth c n0 k0 → lv_has ls M.2.2.1 lv → ex_WD g S H → va_S (ex_A g) s.heap H locs → n = n0 + cells → k = k0 + slots → n ≤ ex_NM → k ≤ ex_KM →
    W p g.1 e R s m args below meth c H locs cells slots (ex_Z g Po n0 k0 R below args s) (F0 m pc ls st)
theorem eh_ends {X : Code → State → Prop} {g : gl_T} {d : Nat} {M : mt_T} {Po : ex_R} {S : hs_T} {n k n0 k0 cells slots : Nat} {p : Program} {R : Room} {s : State} {m : MethodId} {args : Array Value} {below : List Frame} {meth : Method} {c : Code} {H : Heap} {locs : List Loc} {v : Option Value}
    (C : eh_S X g d M p R s m meth c n0 k0) (hW : ex_WD g S H) (hS : va_S (ex_A g) s.heap H locs) (hn : n = n0 + cells) (hk : k = k0 + slots) (hN : n ≤ ex_NM) (hK : k ≤ ex_KM) (hpo : Po (.inl v) S n k) :
    ∀ t, MQ below (fun _ _ o t => o = .returned v ∧ t.heap = H) args s cells slots (ex_A g) t → ex_Z g Po n0 k0 R below args s t := by
  rintro t ⟨o, h1, h2, ⟨ho, hth⟩, L, h3, h4⟩
  obtain ⟨-, -, -, -, -, hrc, hrs, -, -⟩ := C
  refine ⟨o, h1, h2, .inl v, S, cells, slots, by rw [← hn, ← hk]; exact hpo, by rw [hrc]; omega, by rw [hrs]; omega, by rw [hth]; exact hW, hS.F hth, Or.inl ⟨⟨v, rfl, ho⟩, L, h3, h4⟩⟩
section EHR
variable {X : Code → State → Prop} {g : gl_T} {d : Nat} {M : mt_T} {Po : ex_R} {pc pc' : Nat} {lv : List (Nat × Value)} {st : List Value} {S : hs_T} {n k : Nat}
theorem eh_iret {v : Int32} (hr : M.2.2.2 = some .int) (hdg : decode M.2.1 pc = .ok (.ireturn, 1)) (hpo : Po (.inl (some (.int v))) S n k) : eh_W X g d M Po pc lv [.int v] S n k := by
  intro p e R s m args below meth c H locs ls cells slots n0 k0 C hl hW hS hn hk hN hK
  obtain ⟨⟨hx, hb, hml, hrt, hlocks⟩, -⟩ := id C
  exact ex_Wmono (eh_ends C hW hS hn hk hN hK hpo) (W.iret hx hb (hrt.trans hr) (fun t ht _ => ⟨rfl, ht⟩) hS.2.2 hdg hlocks)
theorem eh_iconst {q : Int} {v : Int32} (h : ex_d M pc (.iconst q) 1 pc') (hv : Int32.ofInt q = v) (kk : eh_W X g d M Po pc' lv (.int v :: st) S n k) : eh_W X g d M Po pc lv (st) S n k := by
  intro p e R s m args below meth c H locs ls cells slots n0 k0 C hl hW hS hn hk hN hK
  obtain ⟨⟨hx, hb, hml, hrt, hlocks⟩, ⟨hown, hnm, htab⟩, ⟨hKU, hKH, hbs, hst⟩, hfr, hlo, hrc, hrs, hn0, hk0⟩ := id C
  obtain ⟨hdg, rfl⟩ := h
  exact lv_iconst hx hb hdg hv (kk p e R s m args below meth c H locs ls cells slots n0 k0 C hl hW hS hn hk hN hK)
theorem eh_bipush {q : Int} {v : Int32} (h : ex_d M pc (.bipush q) 2 pc') (hv : (Int8.ofInt q).toInt32 = v) (kk : eh_W X g d M Po pc' lv (.int v :: st) S n k) : eh_W X g d M Po pc lv (st) S n k := by
  intro p e R s m args below meth c H locs ls cells slots n0 k0 C hl hW hS hn hk hN hK
  obtain ⟨⟨hx, hb, hml, hrt, hlocks⟩, ⟨hown, hnm, htab⟩, ⟨hKU, hKH, hbs, hst⟩, hfr, hlo, hrc, hrs, hn0, hk0⟩ := id C
  obtain ⟨hdg, rfl⟩ := h
  exact lv_bipush hx hb hdg hv (kk p e R s m args below meth c H locs ls cells slots n0 k0 C hl hW hS hn hk hN hK)
theorem eh_iadd {x y : Int32} (h : ex_d M pc (.iadd) 1 pc')  (kk : eh_W X g d M Po pc' lv (.int (x + y) :: st) S n k) : eh_W X g d M Po pc lv (.int y :: .int x :: st) S n k := by
  intro p e R s m args below meth c H locs ls cells slots n0 k0 C hl hW hS hn hk hN hK
  obtain ⟨⟨hx, hb, hml, hrt, hlocks⟩, ⟨hown, hnm, htab⟩, ⟨hKU, hKH, hbs, hst⟩, hfr, hlo, hrc, hrs, hn0, hk0⟩ := id C
  obtain ⟨hdg, rfl⟩ := h
  exact lv_iadd hx hb hdg  (kk p e R s m args below meth c H locs ls cells slots n0 k0 C hl hW hS hn hk hN hK)
theorem eh_isub {x y : Int32} (h : ex_d M pc (.isub) 1 pc')  (kk : eh_W X g d M Po pc' lv (.int (x - y) :: st) S n k) : eh_W X g d M Po pc lv (.int y :: .int x :: st) S n k := by
  intro p e R s m args below meth c H locs ls cells slots n0 k0 C hl hW hS hn hk hN hK
  obtain ⟨⟨hx, hb, hml, hrt, hlocks⟩, ⟨hown, hnm, htab⟩, ⟨hKU, hKH, hbs, hst⟩, hfr, hlo, hrc, hrs, hn0, hk0⟩ := id C
  obtain ⟨hdg, rfl⟩ := h
  exact lv_isub hx hb hdg  (kk p e R s m args below meth c H locs ls cells slots n0 k0 C hl hW hS hn hk hN hK)
theorem eh_iand {x y : Int32} (h : ex_d M pc (.iand) 1 pc')  (kk : eh_W X g d M Po pc' lv (.int (x &&& y) :: st) S n k) : eh_W X g d M Po pc lv (.int y :: .int x :: st) S n k := by
  intro p e R s m args below meth c H locs ls cells slots n0 k0 C hl hW hS hn hk hN hK
  obtain ⟨⟨hx, hb, hml, hrt, hlocks⟩, ⟨hown, hnm, htab⟩, ⟨hKU, hKH, hbs, hst⟩, hfr, hlo, hrc, hrs, hn0, hk0⟩ := id C
  obtain ⟨hdg, rfl⟩ := h
  exact lv_iand hx hb hdg  (kk p e R s m args below meth c H locs ls cells slots n0 k0 C hl hW hS hn hk hN hK)
theorem eh_i2l {x : Int32} (h : ex_d M pc (.i2l) 1 pc')  (kk : eh_W X g d M Po pc' lv (.long x.toInt64 :: st) S n k) : eh_W X g d M Po pc lv (.int x :: st) S n k := by
  intro p e R s m args below meth c H locs ls cells slots n0 k0 C hl hW hS hn hk hN hK
  obtain ⟨⟨hx, hb, hml, hrt, hlocks⟩, ⟨hown, hnm, htab⟩, ⟨hKU, hKH, hbs, hst⟩, hfr, hlo, hrc, hrs, hn0, hk0⟩ := id C
  obtain ⟨hdg, rfl⟩ := h
  exact lv_i2l hx hb hdg rfl (kk p e R s m args below meth c H locs ls cells slots n0 k0 C hl hW hS hn hk hN hK)
theorem eh_dup {va : Value} (h : ex_d M pc (.dup) 1 pc') (hva : va.category = 1) (kk : eh_W X g d M Po pc' lv (va :: va :: st) S n k) : eh_W X g d M Po pc lv (va :: st) S n k := by
  intro p e R s m args below meth c H locs ls cells slots n0 k0 C hl hW hS hn hk hN hK
  obtain ⟨⟨hx, hb, hml, hrt, hlocks⟩, ⟨hown, hnm, htab⟩, ⟨hKU, hKH, hbs, hst⟩, hfr, hlo, hrc, hrs, hn0, hk0⟩ := id C
  obtain ⟨hdg, rfl⟩ := h
  exact lv_dup hx hb hdg hva (kk p e R s m args below meth c H locs ls cells slots n0 k0 C hl hW hS hn hk hN hK)
theorem eh_iload {i : Nat} {x : Int32} (h : ex_d M pc (.iload i) 2 pc') (j : Nat) (hj : lv[j]? = some (i, .int x)) (kk : eh_W X g d M Po pc' lv (.int x :: st) S n k) : eh_W X g d M Po pc lv (st) S n k := by
  intro p e R s m args below meth c H locs ls cells slots n0 k0 C hl hW hS hn hk hN hK
  obtain ⟨⟨hx, hb, hml, hrt, hlocks⟩, ⟨hown, hnm, htab⟩, ⟨hKU, hKH, hbs, hst⟩, hfr, hlo, hrc, hrs, hn0, hk0⟩ := id C
  obtain ⟨hdg, rfl⟩ := h
  exact lv_iload hx hb hdg (lv_at hl j hj) (kk p e R s m args below meth c H locs ls cells slots n0 k0 C hl hW hS hn hk hN hK)
theorem eh_iload_n {q : Fin 4} {x : Int32} (h : ex_d M pc (.iload_n q) 1 pc') (j : Nat) (hj : lv[j]? = some ((q : Nat), .int x)) (kk : eh_W X g d M Po pc' lv (.int x :: st) S n k) : eh_W X g d M Po pc lv (st) S n k := by
  intro p e R s m args below meth c H locs ls cells slots n0 k0 C hl hW hS hn hk hN hK
  obtain ⟨⟨hx, hb, hml, hrt, hlocks⟩, ⟨hown, hnm, htab⟩, ⟨hKU, hKH, hbs, hst⟩, hfr, hlo, hrc, hrs, hn0, hk0⟩ := id C
  obtain ⟨hdg, rfl⟩ := h
  exact lv_iload_n hx hb hdg rfl (lv_at hl j hj) (kk p e R s m args below meth c H locs ls cells slots n0 k0 C hl hW hS hn hk hN hK)
theorem eh_lload {i : Nat} {x : Int64} (h : ex_d M pc (.lload i) 2 pc') (j : Nat) (hj : lv[j]? = some (i, .long x)) (kk : eh_W X g d M Po pc' lv (.long x :: st) S n k) : eh_W X g d M Po pc lv (st) S n k := by
  intro p e R s m args below meth c H locs ls cells slots n0 k0 C hl hW hS hn hk hN hK
  obtain ⟨⟨hx, hb, hml, hrt, hlocks⟩, ⟨hown, hnm, htab⟩, ⟨hKU, hKH, hbs, hst⟩, hfr, hlo, hrc, hrs, hn0, hk0⟩ := id C
  obtain ⟨hdg, rfl⟩ := h
  exact lv_lload hx hb hdg (lv_at hl j hj) (kk p e R s m args below meth c H locs ls cells slots n0 k0 C hl hW hS hn hk hN hK)
theorem eh_aload {i : Nat} {x : Nat} (h : ex_d M pc (.aload i) 2 pc') (j : Nat) (hj : lv[j]? = some (i, .ref x)) (kk : eh_W X g d M Po pc' lv (.ref x :: st) S n k) : eh_W X g d M Po pc lv (st) S n k := by
  intro p e R s m args below meth c H locs ls cells slots n0 k0 C hl hW hS hn hk hN hK
  obtain ⟨⟨hx, hb, hml, hrt, hlocks⟩, ⟨hown, hnm, htab⟩, ⟨hKU, hKH, hbs, hst⟩, hfr, hlo, hrc, hrs, hn0, hk0⟩ := id C
  obtain ⟨hdg, rfl⟩ := h
  exact lv_aload hx hb hdg (lv_at hl j hj) (kk p e R s m args below meth c H locs ls cells slots n0 k0 C hl hW hS hn hk hN hK)
theorem eh_aload_n {q : Fin 4} {x : Nat} (h : ex_d M pc (.aload_n q) 1 pc') (j : Nat) (hj : lv[j]? = some ((q : Nat), .ref x)) (kk : eh_W X g d M Po pc' lv (.ref x :: st) S n k) : eh_W X g d M Po pc lv (st) S n k := by
  intro p e R s m args below meth c H locs ls cells slots n0 k0 C hl hW hS hn hk hN hK
  obtain ⟨⟨hx, hb, hml, hrt, hlocks⟩, ⟨hown, hnm, htab⟩, ⟨hKU, hKH, hbs, hst⟩, hfr, hlo, hrc, hrs, hn0, hk0⟩ := id C
  obtain ⟨hdg, rfl⟩ := h
  exact lv_aload_n hx hb hdg rfl (lv_at hl j hj) (kk p e R s m args below meth c H locs ls cells slots n0 k0 C hl hW hS hn hk hN hK)
theorem eh_istore {i : Nat} {x : Int32} (lv' : List (Nat × Value)) (h : ex_d M pc (.istore i) 2 pc') (hi : i < M.2.2.1) (hlv : (i, Value.int x) :: lv.filter (fun z => !(z.1 == i) && !(z.1 + 1 == i && z.2.category == 2)) = lv') (kk : eh_W X g d M Po pc' lv' st S n k) : eh_W X g d M Po pc lv (.int x :: st) S n k := by
  intro p e R s m args below meth c H locs ls cells slots n0 k0 C hl hW hS hn hk hN hK
  obtain ⟨⟨hx, hb, hml, hrt, hlocks⟩, ⟨hown, hnm, htab⟩, ⟨hKU, hKH, hbs, hst⟩, hfr, hlo, hrc, hrs, hn0, hk0⟩ := id C
  obtain ⟨hdg, rfl⟩ := h
  exact lv_istore hx hb hdg  hl hi hlv (fun ls hl => kk p e R s m args below meth c H locs ls cells slots n0 k0 C hl hW hS hn hk hN hK)
theorem eh_lstore {i : Nat} {x : Int64} (lv' : List (Nat × Value)) (h : ex_d M pc (.lstore i) 2 pc') (hi : i + 1 < M.2.2.1) (hlv : (i, Value.long x) :: lv.filter (fun z => !(z.1 == i) && (!(z.1 == i + 1) && !(z.1 + 1 == i && z.2.category == 2))) = lv') (kk : eh_W X g d M Po pc' lv' st S n k) : eh_W X g d M Po pc lv (.long x :: st) S n k := by
  intro p e R s m args below meth c H locs ls cells slots n0 k0 C hl hW hS hn hk hN hK
  obtain ⟨⟨hx, hb, hml, hrt, hlocks⟩, ⟨hown, hnm, htab⟩, ⟨hKU, hKH, hbs, hst⟩, hfr, hlo, hrc, hrs, hn0, hk0⟩ := id C
  obtain ⟨hdg, rfl⟩ := h
  exact lv_lstore hx hb hdg  hl hi hlv (fun ls hl => kk p e R s m args below meth c H locs ls cells slots n0 k0 C hl hW hS hn hk hN hK)
theorem eh_astore {i : Nat} {x : Nat} (lv' : List (Nat × Value)) (h : ex_d M pc (.astore i) 2 pc') (hi : i < M.2.2.1) (hlv : (i, Value.ref x) :: lv.filter (fun z => !(z.1 == i) && !(z.1 + 1 == i && z.2.category == 2)) = lv') (kk : eh_W X g d M Po pc' lv' st S n k) : eh_W X g d M Po pc lv (.ref x :: st) S n k := by
  intro p e R s m args below meth c H locs ls cells slots n0 k0 C hl hW hS hn hk hN hK
  obtain ⟨⟨hx, hb, hml, hrt, hlocks⟩, ⟨hown, hnm, htab⟩, ⟨hKU, hKH, hbs, hst⟩, hfr, hlo, hrc, hrs, hn0, hk0⟩ := id C
  obtain ⟨hdg, rfl⟩ := h
  exact lv_astore hx hb hdg  hl hi hlv (fun ls hl => kk p e R s m args below meth c H locs ls cells slots n0 k0 C hl hW hS hn hk hN hK)
theorem eh_astore_n {q : Fin 4} {x : Nat} (lv' : List (Nat × Value)) (h : ex_d M pc (.astore_n q) 1 pc') (hi : (q : Nat) < M.2.2.1) (hlv : ((q : Nat), Value.ref x) :: lv.filter (fun z => !(z.1 == (q : Nat)) && !(z.1 + 1 == (q : Nat) && z.2.category == 2)) = lv') (kk : eh_W X g d M Po pc' lv' st S n k) : eh_W X g d M Po pc lv (.ref x :: st) S n k := by
  intro p e R s m args below meth c H locs ls cells slots n0 k0 C hl hW hS hn hk hN hK
  obtain ⟨⟨hx, hb, hml, hrt, hlocks⟩, ⟨hown, hnm, htab⟩, ⟨hKU, hKH, hbs, hst⟩, hfr, hlo, hrc, hrs, hn0, hk0⟩ := id C
  obtain ⟨hdg, rfl⟩ := h
  exact lv_astore_n hx hb hdg rfl hl hi hlv (fun ls hl => kk p e R s m args below meth c H locs ls cells slots n0 k0 C hl hW hS hn hk hN hK)
theorem eh_iinc {i : Nat} {q : Int} {x v : Int32} (j : Nat) (lv' : List (Nat × Value)) (h : ex_d M pc (.iinc i q) 3 pc') (hj : lv[j]? = some (i, .int x)) (hv : x + Int32.ofInt q = v) (hi : i < M.2.2.1) (hlv : (i, Value.int v) :: lv.filter (fun z => !(z.1 == i) && !(z.1 + 1 == i && z.2.category == 2)) = lv') (kk : eh_W X g d M Po pc' lv' st S n k) : eh_W X g d M Po pc lv st S n k := by
  intro p e R s m args below meth c H locs ls cells slots n0 k0 C hl hW hS hn hk hN hK
  obtain ⟨⟨hx, hb, hml, hrt, hlocks⟩, ⟨hown, hnm, htab⟩, ⟨hKU, hKH, hbs, hst⟩, hfr, hlo, hrc, hrs, hn0, hk0⟩ := id C
  obtain ⟨hdg, rfl⟩ := h
  exact lv_iinc hx hb hdg hl hj hv hi hlv (fun ls hl => kk p e R s m args below meth c H locs ls cells slots n0 k0 C hl hW hS hn hk hN hK)
theorem eh_if_eq {x : Int32} {off : Int} {tgt : Nat} (h : ex_d M pc (.ifCond .eq off) 3 pc') (ht : (pc : Int) + off = (tgt : Int)) (kt : x = 0 → eh_W X g d M Po tgt lv st S n k) (kf : ¬ x = 0 → eh_W X g d M Po pc' lv st S n k) : eh_W X g d M Po pc lv (.int x :: st) S n k := by
  intro p e R s m args below meth c H locs ls cells slots n0 k0 C hl hW hS hn hk hN hK
  obtain ⟨⟨hx, hb, hml, hrt, hlocks⟩, ⟨hown, hnm, htab⟩, ⟨hKU, hKH, hbs, hst⟩, hfr, hlo, hrc, hrs, hn0, hk0⟩ := id C
  obtain ⟨hdg, rfl⟩ := h
  exact lv_if_eq hx hb hdg ht (fun hc => kt hc p e R s m args below meth c H locs ls cells slots n0 k0 C hl hW hS hn hk hN hK) (fun hc => kf hc p e R s m args below meth c H locs ls cells slots n0 k0 C hl hW hS hn hk hN hK)
theorem eh_if_ne {x : Int32} {off : Int} {tgt : Nat} (h : ex_d M pc (.ifCond .ne off) 3 pc') (ht : (pc : Int) + off = (tgt : Int)) (kt : ¬ x = 0 → eh_W X g d M Po tgt lv st S n k) (kf : x = 0 → eh_W X g d M Po pc' lv st S n k) : eh_W X g d M Po pc lv (.int x :: st) S n k := by
  intro p e R s m args below meth c H locs ls cells slots n0 k0 C hl hW hS hn hk hN hK
  obtain ⟨⟨hx, hb, hml, hrt, hlocks⟩, ⟨hown, hnm, htab⟩, ⟨hKU, hKH, hbs, hst⟩, hfr, hlo, hrc, hrs, hn0, hk0⟩ := id C
  obtain ⟨hdg, rfl⟩ := h
  exact lv_if_ne hx hb hdg ht (fun hc => kt hc p e R s m args below meth c H locs ls cells slots n0 k0 C hl hW hS hn hk hN hK) (fun hc => kf hc p e R s m args below meth c H locs ls cells slots n0 k0 C hl hW hS hn hk hN hK)
theorem eh_icmp_eq {x y : Int32} {off : Int} {tgt : Nat} (h : ex_d M pc (.if_icmp .eq off) 3 pc') (ht : (pc : Int) + off = (tgt : Int)) (kt : x = y → eh_W X g d M Po tgt lv st S n k) (kf : ¬ x = y → eh_W X g d M Po pc' lv st S n k) : eh_W X g d M Po pc lv (.int y :: .int x :: st) S n k := by
  intro p e R s m args below meth c H locs ls cells slots n0 k0 C hl hW hS hn hk hN hK
  obtain ⟨⟨hx, hb, hml, hrt, hlocks⟩, ⟨hown, hnm, htab⟩, ⟨hKU, hKH, hbs, hst⟩, hfr, hlo, hrc, hrs, hn0, hk0⟩ := id C
  obtain ⟨hdg, rfl⟩ := h
  exact lv_icmp_eq hx hb hdg ht (fun hc => kt hc p e R s m args below meth c H locs ls cells slots n0 k0 C hl hW hS hn hk hN hK) (fun hc => kf hc p e R s m args below meth c H locs ls cells slots n0 k0 C hl hW hS hn hk hN hK)
theorem eh_icmp_gt {x y : Int32} {off : Int} {tgt : Nat} (h : ex_d M pc (.if_icmp .gt off) 3 pc') (ht : (pc : Int) + off = (tgt : Int)) (kt : y < x → eh_W X g d M Po tgt lv st S n k) (kf : ¬ y < x → eh_W X g d M Po pc' lv st S n k) : eh_W X g d M Po pc lv (.int y :: .int x :: st) S n k := by
  intro p e R s m args below meth c H locs ls cells slots n0 k0 C hl hW hS hn hk hN hK
  obtain ⟨⟨hx, hb, hml, hrt, hlocks⟩, ⟨hown, hnm, htab⟩, ⟨hKU, hKH, hbs, hst⟩, hfr, hlo, hrc, hrs, hn0, hk0⟩ := id C
  obtain ⟨hdg, rfl⟩ := h
  exact lv_icmp_gt hx hb hdg ht (fun hc => kt hc p e R s m args below meth c H locs ls cells slots n0 k0 C hl hW hS hn hk hN hK) (fun hc => kf hc p e R s m args below meth c H locs ls cells slots n0 k0 C hl hW hS hn hk hN hK)
theorem eh_goto {off : Int} {tgt : Nat} (h : ex_d M pc (.goto off) 3 pc') (ht : (pc : Int) + off = (tgt : Int)) (kk : eh_W X g d M Po tgt lv st S n k) : eh_W X g d M Po pc lv st S n k := by
  intro p e R s m args below meth c H locs ls cells slots n0 k0 C hl hW hS hn hk hN hK
  obtain ⟨⟨hx, hb, hml, hrt, hlocks⟩, ⟨hown, hnm, htab⟩, ⟨hKU, hKH, hbs, hst⟩, hfr, hlo, hrc, hrs, hn0, hk0⟩ := id C
  obtain ⟨hdg, rfl⟩ := h
  exact lv_goto hx hb hdg ht (kk p e R s m args below meth c H locs ls cells slots n0 k0 C hl hW hS hn hk hN hK)
theorem eh_tableIn {dflt lo hi : Int} {offs : Array Int} {len : Nat} {x : Int32} {off : Int} {tgt : Nat} (h : ex_d M pc (.tableswitch dflt lo hi offs) len pc') (h1 : ¬ x.toInt < lo) (h2 : ¬ hi < x.toInt) (ho : offs[(x.toInt - lo).toNat]? = some off) (ht : (pc : Int) + off = (tgt : Int)) (kk : eh_W X g d M Po tgt lv st S n k) : eh_W X g d M Po pc lv (.int x :: st) S n k := by
  intro p e R s m args below meth c H locs ls cells slots n0 k0 C hl hW hS hn hk hN hK
  obtain ⟨⟨hx, hb, hml, hrt, hlocks⟩, ⟨hown, hnm, htab⟩, ⟨hKU, hKH, hbs, hst⟩, hfr, hlo, hrc, hrs, hn0, hk0⟩ := id C
  obtain ⟨hdg, rfl⟩ := h
  exact lv_tableIn hx hb hdg h1 h2 ho ht (kk p e R s m args below meth c H locs ls cells slots n0 k0 C hl hW hS hn hk hN hK)
theorem eh_tableOut {dflt lo hi : Int} {offs : Array Int} {len : Nat} {x : Int32} {tgt : Nat} (h : ex_d M pc (.tableswitch dflt lo hi offs) len pc') (h1 : x.toInt < lo ∨ hi < x.toInt) (ht : (pc : Int) + dflt = (tgt : Int)) (kk : eh_W X g d M Po tgt lv st S n k) : eh_W X g d M Po pc lv (.int x :: st) S n k := by
  intro p e R s m args below meth c H locs ls cells slots n0 k0 C hl hW hS hn hk hN hK
  obtain ⟨⟨hx, hb, hml, hrt, hlocks⟩, ⟨hown, hnm, htab⟩, ⟨hKU, hKH, hbs, hst⟩, hfr, hlo, hrc, hrs, hn0, hk0⟩ := id C
  obtain ⟨hdg, rfl⟩ := h
  exact lv_tableOut hx hb hdg h1 ht (kk p e R s m args below meth c H locs ls cells slots n0 k0 C hl hW hS hn hk hN hK)
theorem eh_lald {x : Int32} {a j : Nat} (h : ex_d M pc (.laload) 1 pc') (hL : a ∈ hs_L S) (hKd : hs_K S a = 13) (hi : x = nI j) (hj : j < hs_N S a) (hjb : j < 2 ^ 31) (kk : eh_W X g d M Po pc' lv (.long (hs_J S a j) :: st) S n k) : eh_W X g d M Po pc lv (.int x :: .ref a :: st) S n k := by
  intro p e R s m args below meth c H locs ls cells slots n0 k0 C hl hW hS hn hk hN hK
  obtain ⟨⟨hx, hb, hml, hrt, hlocks⟩, ⟨hown, hnm, htab⟩, ⟨hKU, hKH, hbs, hst⟩, hfr, hlo, hrc, hrs, hn0, hk0⟩ := id C
  obtain ⟨hdg, rfl⟩ := h
  obtain ⟨q, hq⟩ := ex_cell (g := g) hL (hs_E_J hKd)
  obtain ⟨h1, h2⟩ := ex_in hi hj hjb
  exact va_lald hx hb hKU.2.2.1 hW.1 q 2 hq rfl h1 hdg (by rw [h2]; exact kk p e R s m args below meth c H locs ls cells slots n0 k0 C hl hW hS hn hk hN hK)
theorem eh_last {x : Int32} {v : Int64} {a j : Nat} (h : ex_d M pc (.lastore) 1 pc') (hL : a ∈ hs_L S) (hKd : hs_K S a = 13) (hi : x = nI j) (hj : j < hs_N S a) (hjb : j < 2 ^ 31) (kk : eh_W X g d M Po pc' lv st (hs_sJ S a j v) n k) : eh_W X g d M Po pc lv (.long v :: .int x :: .ref a :: st) S n k := by
  intro p e R s m args below meth c H locs ls cells slots n0 k0 C hl hW hS hn hk hN hK
  obtain ⟨⟨hx, hb, hml, hrt, hlocks⟩, ⟨hown, hnm, htab⟩, ⟨hKU, hKH, hbs, hst⟩, hfr, hlo, hrc, hrs, hn0, hk0⟩ := id C
  obtain ⟨hdg, rfl⟩ := h
  obtain ⟨q, hq⟩ := ex_cell (g := g) hL (hs_E_J hKd)
  obtain ⟨h1, h2⟩ := ex_in hi hj hjb
  refine va_last hx hb hKU.2.2.1 hW.1 hW.2 hS q 2 hq rfl h1 hdg (fun H1 locs1 hP1 hD1 hS1 => ?_)
  refine kk p e R s m args below meth c H1 locs1 ls cells slots n0 k0 C hl (ex_set hL hq (hs_E_J hKd) rfl ?_ (hs_off_sJ _ S a j v) hW.2 hP1 hD1) hS1 hn hk hN hK
  rw [hs_E_J (S := hs_sJ S a j v) hKd, h2]
  show Sum.inl (_, _, Sum.inr (Sum.inl (hs_u (hs_J S) a j v a))) = _
  rw [hs_u_row]; rfl
theorem eh_new {idx kd N : Nat} (h : ex_d M pc (.new idx) 3 pc') (hw : ex_nl M.1.cls idx kd) (hN1 : (hs_ft kd).length = N) (hn1 : n + 1 ≤ ex_NM) (hk1 : k + N ≤ ex_KM) (kk : ∀ q, q ∉ hs_L S → eh_W X g d M Po pc' lv (.ref q :: st) (hs_new S q kd 0) (n + 1) (k + N)) : eh_W X g d M Po pc lv st S n k := by
  intro p e R s m args below meth c H locs ls cells slots n0 k0 C hl hW hS hn hk hN hK
  obtain ⟨⟨hx, hb, hml, hrt, hlocks⟩, ⟨hown, hnm, htab⟩, ⟨hKU, hKH, hbs, hst⟩, hfr, hlo, hrc, hrs, hn0, hk0⟩ := id C
  obtain ⟨hdg, rfl⟩ := h
  obtain ⟨⟨Cn, T, N2⟩, hq, hkd, ⟨hin, ⟨ty0, hty0⟩, hap⟩, hcl, hins, hini, hlen, hz⟩ := hw
  have hNN : N2 = N := hlen.symm.trans hN1
  subst hNN
  refine va_new hx hb (ex_ts hKU args) hin ty0 hty0 hown (ex_w hKU hcl args) (ex_w hKU hins args) (ex_w hKU hini args) hKU.2.2.1 hW.1 hW.2 hS (fun q hq => Nat.le_trans hbs hq) hq (hz ty0 hty0) (by rw [hrc]; omega) (by rw [hrs]; omega) hdg (fun q H1 hP1 hD1 hS1 => ?_)
  obtain ⟨h1, h2⟩ := ex_pushed (g := g) (S := S) (kd := kd) (N := 0) (by rw [hs_E_obj (k := kd) (by rw [hs_K_new]; simp) hkd, hs_new_fs]) hP1 hD1
  exact kk q h1 p e R s m args below meth c H1 locs ls (cells + 1) (slots + N2) n0 k0 C hl h2 hS1 (by omega) (by omega) hn1 hk1
theorem eh_newJ {x : Int32} {N : Nat} (h : ex_d M pc (.newarray .long) 2 pc') (hw : Cond.arrayClass .long ∈ ex_TB) (hx1 : x = nI N) (hNb : N ≤ 100000) (hn1 : n + 1 ≤ ex_NM) (hk1 : k + N ≤ ex_KM) (kk : ∀ q, q ∉ hs_L S → eh_W X g d M Po pc' lv (.ref q :: st) (hs_new S q 13 N) (n + 1) (k + N)) : eh_W X g d M Po pc lv (.int x :: st) S n k := by
  intro p e R s m args below meth c H locs ls cells slots n0 k0 C hl hW hS hn hk hN hK
  obtain ⟨⟨hx, hb, hml, hrt, hlocks⟩, ⟨hown, hnm, htab⟩, ⟨hKU, hKH, hbs, hst⟩, hfr, hlo, hrc, hrs, hn0, hk0⟩ := id C
  obtain ⟨hdg, rfl⟩ := h
  subst hx1
  refine va_newa hx hb (atype := .long) (ex_w hKU hw args) rfl hKU.2.2.1 hW.1 hW.2 hS (fun q hq => Nat.le_trans hbs hq) (N' := N) (a0 := (N, .inr (.inl (fun _ => 0)))) (fun cA => rfl) (nI_pos (by omega)) (nI_clamp (by omega)) (by show N * 8 ≤ _; omega) (by rw [hrc]; omega) (by rw [hrs]; omega) hdg (fun q cA H1 hK1 hP1 hD1 hS1 => ?_)
  have hcA := ex_arr1 (j := 2) hKU.2.2.1 rfl hK1
  subst hcA
  obtain ⟨h1, h2⟩ := ex_pushed (g := g) (S := S) (kd := 13) (N := N) (by rw [hs_E_J (by rw [hs_K_new]; simp)]; simp [hs_N, hs_new, hs_J, va_up]) hP1 hD1
  exact kk q h1 p e R s m args below meth c H1 locs ls (cells + 1) (slots + N) n0 k0 C hl h2 hS1 (by omega) (by omega) hn1 hk1
theorem eh_lcmp {x y : Int64} (h : ex_d M pc (.lcmp) 1 pc') (kk : eh_W X g d M Po pc' lv (.int (lg_cmp x y) :: st) S n k) : eh_W X g d M Po pc lv (.long y :: .long x :: st) S n k := by
  intro p e R s m args below meth c H locs ls cells slots n0 k0 C hl hW hS hn hk hN hK
  obtain ⟨⟨hx, hb, hml, hrt, hlocks⟩, -⟩ := id C
  obtain ⟨hdg, rfl⟩ := h
  exact W.lcmp hx hb hdg (kk p e R s m args below meth c H locs ls cells slots n0 k0 C hl hW hS hn hk hN hK)
theorem eh_zret {v : Int32} {ty : FieldType} (hr : M.2.2.2 = some ty) (hnw : narrow ty (.int v) = .int v) (hdg : ex_d M pc (.ireturn) 1 pc') (hpo : Po (.inl (some (.int v))) S n k) : eh_W X g d M Po pc lv [.int v] S n k := by
  intro p e R s m args below meth c H locs ls cells slots n0 k0 C hl hW hS hn hk hN hK
  obtain ⟨⟨hx, hb, hml, hrt, hlocks⟩, -⟩ := id C
  exact ex_Wmono (eh_ends C hW hS hn hk hN hK hpo) (W.zret hx hb (hrt.trans hr) hnw (fun t ht _ => ⟨rfl, ht⟩) hS.2.2 hdg.1 hlocks)
theorem eh_bret {v : Int32} (hr : M.2.2.2 = some .boolean) (hv : v = 0 ∨ v = 1) (hdg : ex_d M pc (.ireturn) 1 pc') (hpo : Po (.inl (some (.int v))) S n k) : eh_W X g d M Po pc lv [.int v] S n k := eh_zret hr (by rcases hv with rfl | rfl <;> decide +kernel) hdg hpo
theorem eh_irt {v : Int32} (hr : M.2.2.2 = some .int) (hdg : ex_d M pc (.ireturn) 1 pc') (hpo : Po (.inl (some (.int v))) S n k) : eh_W X g d M Po pc lv [.int v] S n k := eh_iret hr hdg.1 hpo
theorem eh_lv {g : gl_T} {d : Nat} {M : mt_T} {Po : ex_R} {pc : Nat} {lv lv' : List (Nat × Value)} {st : List Value} {S : hs_T} {n k : Nat} (ks : List Nat) (hl : lv_pick lv ks = lv') (kk : eh_W X g d M Po pc lv' st S n k) : eh_W X g d M Po pc lv st S n k := by
  intro p e R s m args below meth c H locs ls cells slots n0 k0 C hl2 hW hS hn hk hN hK
  exact kk p e R s m args below meth c H locs ls cells slots n0 k0 C (lv_sub hl2 ks hl) hW hS hn hk hN hK
theorem eh_callI {idx nA d' b : Nat} {M' : mt_T} {Po' : ex_R} {As : List Value} (h : ex_d M pc (.invokespecial idx) 3 pc') (hc : ex_cI M.1.cls idx M' nA) (hM' : ex_M g d' M' (.ref b :: As) S n k Po') (hnA : As.length = nA) (hd : d' + 1 ≤ d) (hrest : (st.map fun v => v.category).sum ≤ 8) (hno : ∀ E S' n' k', ¬ Po' (.inr E) S' n' k')
    (kk : ∀ v S' n' k', Po' (.inl v) S' n' k' → eh_W X g d M Po pc' lv (v.toList ++ st) S' n' k') : eh_W X g d M Po pc lv (As.reverse ++ .ref b :: st) S n k := by
  intro p e R s m args below meth c H locs ls cells slots n0 k0 C hl hW hS hn hk hN hK
  obtain ⟨⟨hx, hb, hml, hrt, hlocks⟩, ⟨hown, hnm, htab⟩, ⟨hKU, hKH, hbs, hst⟩, hfr, hlo, hrc, hrs, hn0, hk0⟩ := id C
  obtain ⟨hdg, rfl⟩ := h
  obtain ⟨⟨hcode, hini, hmh, hpar, hmax⟩, hlink, hinst, hnm2, hret⟩ := hc
  have hBk := ex_backN (ex_back (g := g) (R := R) (p := p) (e := e) (below := below) (s := s) (sargs := args) (len := 3) (W9 := 8) hM' hst hN hK hcode hini (by omega) (by omega) hKU) (fun A a q B ⟨E, ce, S', kc, ks, L, h1, _⟩ => hno _ _ _ _ h1)
  rw [hret] at hcode
  intro T hT X1
  have hpre : ∀ vm₁, s.WarmedH vm₁ → PreOf R (ex_NM - n) (ex_KM - k) (ex_P g S (.ref b :: As)) ⟨T.setVm vm₁, locs, cells, slots⟩ (Value.ref b :: As).toArray := fun vm₁ hW₁ => ⟨by show cells + (ex_NM - n) ≤ R.cells; rw [hrc]; omega, by show slots + (ex_KM - k) ≤ R.slots; rw [hrs]; omega, ex_P_of hKU hKH hbs hW hS (U := T.setVm vm₁) hT hW₁⟩
  have K : ∃ (v : Option Value) (vm₁ : Vm) (B : Pt), s.WarmedH vm₁ ∧ Stand p g.1 e R s m args below meth c B.U B.locs B.cells B.slots ∧ ex_PoB g Po' n k ⟨T.setVm vm₁, locs, cells, slots⟩ (Value.ref b :: As).toArray v B ∧
      ∀ target, Steps p.tables e below (B.U.setTop { F0 m pc ls (As.reverse ++ .ref b :: st) with pc := pc + 3, stack := v.toList ++ st }) target → Steps p.tables e below (T.setTop (F0 m pc ls (As.reverse ++ .ref b :: st))) target := by
    rcases hlink with hlink | ⟨host, hlink⟩
    · exact callI X1 hx hown hnm2 (ex_w hKU hlink args) (ex_w hKU hinst args) (ex_w hKU hcode args) hmh hBk (g := F0 m pc ls (As.reverse ++ .ref b :: st)) rfl (hl.1.trans hml.symm) (argsL := As) (rest := st) (ex_plen hpar hnA) rfl (lv_room hrest) (by rw [hb]; exact hdg) hpre
    · exact va_callIN X1 hx hown hnm2 (va_Nw.use (by rfl) (hKU.2.1 _ hlink)) (ex_w hKU hinst args) (ex_w hKU hcode args) hmh hBk (g := F0 m pc ls (As.reverse ++ .ref b :: st)) rfl (hl.1.trans hml.symm) (argsL := As) (rest := st) (ex_plen hpar hnA) rfl (lv_room hrest) (by rw [hb]; exact hdg) hpre
  obtain ⟨v, vm₁, B, hW₁, X', ⟨S', kc, ks, L, hPo, hkc, hks, hWD, hF, hBl, hL', hBc, hBs⟩, st1⟩ := K
  have hS' := ex_on hS (A := ⟨T.setVm vm₁, locs, cells, slots⟩) hT rfl hF hBl hL'
  obtain ⟨U', l2, c2, s2⟩ := B
  dsimp only [Pt.U, Pt.locs, Pt.cells, Pt.slots] at X' hWD hS' hBc hBs st1
  subst hBc; subst hBs
  obtain ⟨t, a1, b1⟩ := kk v S' (n + kc) (k + ks) hPo p e R s m args below meth c U'.heap l2 ls (cells + kc) (slots + ks) n0 k0 C hl hWD hS' (by omega) (by omega) (by omega) (by omega) U' rfl X'
  exact ⟨t, st1 t a1, b1⟩
theorem eh_callV {idx nA d' b : Nat} {M' : mt_T} {Po' : ex_R} {As : List Value} {kd : Nat} {q : vw_C} (h : ex_d M pc (.invokevirtual idx) 3 pc') (hc : ex_cV M.1.cls idx M' nA) (hM' : ex_M g d' M' (.ref b :: As) S n k Po') (hL : b ∈ hs_L S) (hKb : hs_K S b = kd) (hq : hs_cl[kd]? = some q) (hqc : q.1 = M'.1.cls) (hnA : As.length = nA) (hd : d' + 1 ≤ d) (hrest : (st.map fun v => v.category).sum ≤ 8)
    (kk : ∀ v S' n' k', Po' (.inl v) S' n' k' → eh_W X g d M Po pc' lv (v.toList ++ st) S' n' k') (hno : ∀ E S' n' k', ¬ Po' (.inr E) S' n' k') : eh_W X g d M Po pc lv (As.reverse ++ .ref b :: st) S n k := by
  intro p e R s m args below meth c H locs ls cells slots n0 k0 C hl hW hS hn hk hN hK
  obtain ⟨⟨hx, hb, hml, hrt, hlocks⟩, ⟨hown, hnm, htab⟩, ⟨hKU, hKH, hbs, hst⟩, hfr, hlo, hrc, hrs, hn0, hk0⟩ := id C
  obtain ⟨hdg, rfl⟩ := h
  obtain ⟨⟨hcode, hini, hmh, hpar, hmax⟩, hlink, hinst, hsel⟩ := hc
  have hkd : kd < 11 := (List.getElem?_eq_some_iff.mp hq).1
  have hBk := ex_back (g := g) (R := R) (p := p) (e := e) (below := below) (s := s) (sargs := args) (len := 3) (W9 := 8) hM' hst hN hK hcode hini (by omega) (by omega) hKU
  obtain ⟨j, hj⟩ := ex_cell (g := g) hL (hs_E_obj hKb hkd)
  obtain ⟨cellB, hcB, hoB, hclB⟩ := va_recv hKU.2.2.1 hW.1 hq hj
  rw [hqc] at hclB
  intro T hT X1
  rcases vx_callV X1 hx hown (ex_w hKU hlink args) (ex_w hKU hinst args) (ex_w hKU hsel args) (ex_w hKU hcode args) hmh hBk (by rw [hT]; exact hcB) hoB hclB (g := F0 m pc ls (As.reverse ++ .ref b :: st)) rfl (hl.1.trans hml.symm) (argsL := As) (rest := st) (ex_plen hpar hnA) rfl (lv_room hrest) (by rw [hb]; exact hdg)
    (fun vm₁ hW₁ => ⟨by show cells + (ex_NM - n) ≤ R.cells; rw [hrc]; omega, by show slots + (ex_KM - k) ≤ R.slots; rw [hrs]; omega, ex_P_of hKU hKH hbs hW hS (U := T.setVm vm₁) hT hW₁⟩) with ⟨v, vm₁, B, hW₁, X', ⟨S', kc, ks, L, hPo, hkc, hks, hWD, hF, hBl, hL', hBc, hBs⟩, st1⟩ | ⟨q', vm₁, B, hW₁, X', ⟨E, ce, S', kc, ks, L, hPo, hkc, hks, hWD, hF, hBl, hL', hBc, hBs, hce, hcv, hcl⟩, st1⟩
  · have hS' := ex_on hS (A := ⟨T.setVm vm₁, locs, cells, slots⟩) hT rfl hF hBl hL'
    obtain ⟨U', l2, c2, s2⟩ := B
    dsimp only [Pt.U, Pt.locs, Pt.cells, Pt.slots] at X' hWD hS' hBc hBs st1
    subst hBc; subst hBs
    obtain ⟨t, a1, b1⟩ := kk v S' (n + kc) (k + ks) hPo p e R s m args below meth c U'.heap l2 ls (cells + kc) (slots + ks) n0 k0 C hl hWD hS' (by omega) (by omega) (by omega) (by omega) U' rfl X'
    exact ⟨t, st1 t a1, b1⟩
  · exact absurd hPo (hno _ _ _ _)
theorem eh_callX {idx nA d' b : Nat} {hh : List (Nat × Nat × Nat × Nat)} {M' : mt_T} {Po' : ex_R} {As : List Value} {kd : Nat} {q : vw_C} (h : ex_d M pc (.invokevirtual idx) 3 pc') (hc : ex_cV M.1.cls idx M' nA) (hM' : ex_M g d' M' (.ref b :: As) S n k Po') (hL : b ∈ hs_L S) (hKb : hs_K S b = kd) (hq : hs_cl[kd]? = some q) (hqc : q.1 = M'.1.cls) (hnA : As.length = nA) (hd : d' + 1 ≤ d) (hrest : (st.map fun v => v.category).sum ≤ 8)
    (kk : ∀ v S' n' k', Po' (.inl v) S' n' k' → eh_W X g d M Po pc' lv (v.toList ++ st) S' n' k') (hX : ∀ c s, X c s → c.exceptionTable.toList = tableOf hh) (kx : ∀ E S' n' k', Po' (.inr E) S' n' k' → ∃ (pre : List ExceptionTableEntry) (x : ExceptionTableEntry) (suf : List ExceptionTableEntry) (name : String), tableOf hh = pre ++ x :: suf ∧ (∀ z ∈ pre, z.catchType ≠ 0 ∧ ∃ nm, Cond.classLink M.1.cls z.catchType nm ∈ ex_TB ∧ (E, nm) ∈ cs_N) ∧ covers x pc = true ∧ x.catchType ≠ 0 ∧ Cond.classLink M.1.cls x.catchType name ∈ ex_TB ∧ Cond.castable E name ∈ ex_NB ∧ ∀ q, eh_W X g d M Po x.handlerPc lv [.ref q] S' n' k') : eh_W X g d M Po pc lv (As.reverse ++ .ref b :: st) S n k := by
  intro p e R s m args below meth c H locs ls cells slots n0 k0 C hl hW hS hn hk hN hK
  obtain ⟨⟨hx, hb, hml, hrt, hlocks⟩, ⟨hown, hnm, htab⟩, ⟨hKU, hKH, hbs, hst⟩, hfr, hlo, hrc, hrs, hn0, hk0⟩ := id C
  obtain ⟨hdg, rfl⟩ := h
  obtain ⟨⟨hcode, hini, hmh, hpar, hmax⟩, hlink, hinst, hsel⟩ := hc
  have hkd : kd < 11 := (List.getElem?_eq_some_iff.mp hq).1
  have hBk := ex_back (g := g) (R := R) (p := p) (e := e) (below := below) (s := s) (sargs := args) (len := 3) (W9 := 8) hM' hst hN hK hcode hini (by omega) (by omega) hKU
  obtain ⟨j, hj⟩ := ex_cell (g := g) hL (hs_E_obj hKb hkd)
  obtain ⟨cellB, hcB, hoB, hclB⟩ := va_recv hKU.2.2.1 hW.1 hq hj
  rw [hqc] at hclB
  intro T hT X1
  rcases vx_callV X1 hx hown (ex_w hKU hlink args) (ex_w hKU hinst args) (ex_w hKU hsel args) (ex_w hKU hcode args) hmh hBk (by rw [hT]; exact hcB) hoB hclB (g := F0 m pc ls (As.reverse ++ .ref b :: st)) rfl (hl.1.trans hml.symm) (argsL := As) (rest := st) (ex_plen hpar hnA) rfl (lv_room hrest) (by rw [hb]; exact hdg)
    (fun vm₁ hW₁ => ⟨by show cells + (ex_NM - n) ≤ R.cells; rw [hrc]; omega, by show slots + (ex_KM - k) ≤ R.slots; rw [hrs]; omega, ex_P_of hKU hKH hbs hW hS (U := T.setVm vm₁) hT hW₁⟩) with ⟨v, vm₁, B, hW₁, X', ⟨S', kc, ks, L, hPo, hkc, hks, hWD, hF, hBl, hL', hBc, hBs⟩, st1⟩ | ⟨q', vm₁, B, hW₁, X', ⟨E, ce, S', kc, ks, L, hPo, hkc, hks, hWD, hF, hBl, hL', hBc, hBs, hce, hcv, hcl⟩, st1⟩
  · have hS' := ex_on hS (A := ⟨T.setVm vm₁, locs, cells, slots⟩) hT rfl hF hBl hL'
    obtain ⟨U', l2, c2, s2⟩ := B
    dsimp only [Pt.U, Pt.locs, Pt.cells, Pt.slots] at X' hWD hS' hBc hBs st1
    subst hBc; subst hBs
    obtain ⟨t, a1, b1⟩ := kk v S' (n + kc) (k + ks) hPo p e R s m args below meth c U'.heap l2 ls (cells + kc) (slots + ks) n0 k0 C hl hWD hS' (by omega) (by omega) (by omega) (by omega) U' rfl X'
    exact ⟨t, st1 t a1, b1⟩
  · have hS' := ex_on hS (A := ⟨T.setVm vm₁, locs, cells, slots⟩) hT rfl hF hBl hL'
    obtain ⟨U', l2, c2, s2⟩ := B
    dsimp only [Pt.U, Pt.locs, Pt.cells, Pt.slots] at X' hWD hS' hBc hBs st1 hce hcl
    subst hBc; subst hBs
    obtain ⟨pre, x, suf, name, hsp, hpre, hcov, h0, hlk, hcs, kk2⟩ := kx E S' (n + kc) (k + ks) hPo
    have K := kk2 q' p e R s m args below meth c U'.heap l2 ls (cells + kc) (slots + ks) n0 k0 C hl hWD hS' (by omega) (by omega) (by omega) (by omega)
    obtain ⟨t, a1, b1⟩ := vx_catch (rest := st) (pc := pc) hown pre x suf ((hX c s htab).trans hsp) (fun z hz => Or.inr ⟨(hpre z hz).1, by obtain ⟨nm, z1, z2⟩ := (hpre z hz).2; exact ⟨nm, ex_w hKU z1 args, hKU.2.2.2.2.1 _ z2⟩⟩) hcov h0 (ex_w hKU hlk args) (ex_nbw hKU hcs args) hce hcv (vx_cls hW₁ hcl) K U' rfl X'
    exact ⟨t, st1.trans a1, b1⟩
end EHR
def eh_cw (M : mt_T) (hh : List (Nat × Nat × Nat × Nat)) : List Cond := Cond.codeWith M.1 M.2.1 M.2.2.1 M.2.2.2 hh :: ex_TB
def eh_M (g : gl_T) (d : Nat) (M : mt_T) (hh : List (Nat × Nat × Nat × Nat)) (av : List Value) (S : hs_T) (n k : Nat) (Po : ex_R) : Prop :=
  g.1.stackTraces = false → n ≤ ex_NM → k ≤ ex_KM → MetFree g.1 M.1 (headSpec (eh_cw M hh) (ex_rm d n k)) (ex_P g S av) (fun _ _ _ _ _ => True) (ex_Q g Po n k (ex_NM - n) (ex_KM - k))
theorem eh_enter {hh : List (Nat × Nat × Nat × Nat)} {g : gl_T} {d : Nat} {M : mt_T} {Po : ex_R} {av : List Value} {S : hs_T} {n k : Nat} (hy : plainName M.1.cls = true) (hlen : (lg_sl av).length ≤ M.2.2.1) (h : eh_W (fun c _ => c.exceptionTable.toList = tableOf hh) g d M Po 0 (lv_args 0 av) [] S n k) : eh_M g d M hh av S n k Po := by
  intro hst hn hk
  obtain ⟨y, cc, maxL, ret⟩ := M
  refine MetFree.of_bodyS (code := cc) (maxLocals := maxL) (ret := ret) hy ?_ ?_
  · intro args s m h hn
    obtain ⟨m9, meth, c, hn9, h1, h2, h3, h4, -, h5, h6, -⟩ := Cond.codeWith_spec (atoms_spec (ws := eh_cw (y, cc, maxL, ret) hh) h _ List.mem_cons_self)
    cases hn.symm.trans hn9
    exact ⟨meth, c, h1, h2, h3, h4, h5, h6⟩
  · intro p e s m args below meth c s₁ B hml hP _
    have hh0 : s₁.heap = s.heap := by rw [B.state]; rfl
    have ht : c.exceptionTable.toList = tableOf hh := vx_table (x := y) B (atoms_spec (ws := eh_cw (y, cc, maxL, ret) hh) B.pre _ List.mem_cons_self)
    obtain ⟨rfl, hKU, hKH, hWD, hbs⟩ := hP
    have C : eh_S (fun c _ => c.exceptionTable.toList = tableOf hh) g d (y, cc, maxL, ret) p (ex_rm d n k) s m meth c n k := ⟨⟨B.exec, B.bytes, hml, B.returns, B.notSynchronized⟩, ⟨findClass_of_methodNamed B.named, trivial, ht⟩, ⟨hKU, hKH, hbs, hst⟩, ⟨Nat.le_refl _, Nat.le_refl _, rfl, rfl, hn, hk⟩⟩
    have hl := lv_entry av (n := maxL) hlen
    have K := h p e (ex_rm d n k) s m av.toArray below meth c s.heap [] _ 0 0 n k C hl hWD va_S.rf rfl rfl hn hk
    have K2 : W p g.1 e (ex_rm d n k) s m av.toArray below meth c s.heap [] 0 0 (ex_Z g Po n k (ex_rm d n k) below av.toArray s) (entryFrame m av.toArray maxL) := by
      rw [lg_entry_eq]
      exact K
    obtain ⟨t, a1, o, b1, b2, b3⟩ := K2 s₁ hh0 (Stand.of_body B)
    exact ⟨t, o, a1, b1, b2, b3⟩
section EHB
variable {g : gl_T} {R : Room} {p : Program} {e : Env} {below : List Frame} {s : State} {sargs : Array Value} {len W9 : Nat}
theorem eh_back {d n k : Nat} {hh : List (Nat × Nat × Nat × Nat)} {M : mt_T} {av : List Value} {S : hs_T} {Po : ex_R} (hM0 : eh_M g d M hh av S n k Po) (hst : g.1.stackTraces = false) (hn : n ≤ ex_NM) (hk : k ≤ ex_KM) (hcw : Cond.codeWith M.1 M.2.1 M.2.2.1 M.2.2.2 hh ∈ ex_TB) (hiw : Cond.initialized M.1.cls ∈ ex_TB)
    (hframes : d + 1 ≤ R.frames) (hlocals : W9 + (M.2.2.1 + 11) + 64 * d ≤ R.locals) (hKU : ex_KU g s) :
    vx_Back g.1 R p e below s sargs M.1 len W9 (PreOf R (ex_NM - n) (ex_KM - k) (ex_P g S av)) (ex_PoB g Po n k) (ex_PoX g Po n k) := by
  have hM := hM0 hst hn hk
  obtain ⟨y, bytes, maxL, ret⟩ := M
  intro m meth c A f ig mk a X hg hsize hdg hW hnm hp
  have hKA : ex_KU g A.U := hKU.warm X.warmed
  have h1 : (headSpec (eh_cw (y, bytes, maxL, ret) hh) (ex_rm d n k)).pre.before a A.U = true := atoms_intro fun w hw => by
    rcases List.mem_cons.mp hw with rfl | hw
    · exact ex_w hKA hcw a
    · exact ex_w hKA hw a
  have h2 : (Cond.codeWith y bytes maxL ret hh).before a A.U = true := ex_w hKA hcw a
  have h3 : (Cond.initialized y.cls).before a A.U = true := ex_w hKA hiw a
  have h4 : A.cells + (headSpec (eh_cw (y, bytes, maxL, ret) hh) (ex_rm d n k)).room.cells ≤ R.cells := hp.1
  have h5 : A.slots + (headSpec (eh_cw (y, bytes, maxL, ret) hh) (ex_rm d n k)).room.slots ≤ R.slots := hp.2.1
  have hPc : ex_P g S av a (A.U.calling f mk a) := ex_blind _ _ _ _ hp.2.2
  obtain ⟨U, Ls, c0, s0⟩ := A
  dsimp only [Pt.U, Pt.locs, Pt.cells, Pt.slots] at h1 h2 h3 h4 h5 X hnm hPc ⊢
  obtain ⟨m9, methY, cY, hn9, hmY, hcY, -, hlY, -⟩ := Cond.codeWith_spec h2
  cases hnm.symm.trans hn9
  obtain ⟨kY, hkY, -⟩ := className_of_methodNamed hnm
  have hinitY : kY.init = .initialized := Cond.initialized_spec (findClass_of_methodNamed hnm) hkY h3
  have h : At U f.method c below := by rw [hg]; exact X.here
  have hlocals9 : W9 + (maxL + 11) + (headSpec (eh_cw (y, bytes, maxL, ret) hh) (ex_rm d n k)).room.locals ≤ R.locals := hlocals
  have happ : (headSpec (eh_cw (y, bytes, maxL, ret) hh) (ex_rm d n k)).appliesLoose y e.platform (U.calling f mk a) = true :=
    Spec.appliesLoose_calling (g := f) h hdg hnm hkY hinitY
      (X.room_calling (g := f) (R' := (headSpec (eh_cw (y, bytes, maxL, ret) hh) (ex_rm d n k)).room) hsize hmY hcY hframes (by rw [hlY]; omega) h4 h5) h1
  obtain ⟨mid, hmid⟩ := h.above
  have hfr : (U.setTop f).frames = (.java f :: mid) ++ below := by rw [State.frames_setTop' f h.top, hmid]; rfl
  obtain ⟨o, s₂, hsteps, -, hend, hq⟩ := Steps.callFree hM p X.admits X.cas X.clock (acts := []) hfr happ hPc trivial
  have hq' : ex_Q g Po n k (ex_NM - n) (ex_KM - k) a (U.calling f mk a) o s₂ := hq
  rw [State.frames_setTop' f h.top] at hend
  obtain ⟨g₀, hg0⟩ := Option.isSome_iff_exists.mp h.top
  obtain ⟨r, hr⟩ := State.topJava?_eq_some.mp hg0
  have hr' : (({ U with heap := s₂.heap, slotsUsed := s₂.slotsUsed } : State).setVm s₂.vm).frames = .java g₀ :: r := hr
  obtain ⟨rr, S', mc, ms, hPo, hmc, hms, hWD, hF, hq'⟩ := hq'
  have hF' : U.heap.size ≤ s₂.heap.size ∧ ∀ q : Nat, q < U.heap.size → ¬ ex_A g q → s₂.heap[q]? = U.heap[q]? := hF
  rcases hq' with ⟨hqc, L, hfe, hL⟩ | ⟨q, rfl, E, ce, L, hx, hce, hcv, hcl, hW₂, hsm, hL⟩
  · obtain ⟨⟨v, rfl⟩, hW₂, e2, q2, q3, q4, q5, q6⟩ := id hfe
    obtain ⟨v', hv1, hv2⟩ := hqc
    cases hv2
    subst hv1
    have e3 : s₂ = ({ (U.calling f mk a).setFrames s₂.frames with heap := s₂.heap, slotsUsed := s₂.slotsUsed } : State).setVm s₂.vm := by
      have : s₂ = ({ s₂ with vm := (U.calling f mk a).vm } : State).setVm s₂.vm := rfl
      rw [e2] at this
      exact this
    obtain ⟨c₂, i₂, len₂, hc₂, hd₂, hf₂⟩ := hend
    have hW' : U.WarmedH s₂.vm := hW₂
    have hcc : c₂ = c := by
      have h1 : s₂.code? f.method = U.code? f.method := by
        rw [State.code?_eq, State.code?_eq, hW'.alike.method?]
      exact Option.some.inj (hc₂.symm.trans (h1.trans h.code))
    subst hcc
    have hlen : len₂ = len := by rw [hdg] at hd₂; cases hd₂; rfl
    subst hlen
    have hs₂ : s₂ = (({ U with heap := s₂.heap, slotsUsed := s₂.slotsUsed } : State).setVm s₂.vm).setTop { f with pc := f.pc + len₂, stack := v.toList ++ f.stack } := by
      refine e3.trans ?_
      rw [hf₂, State.calling_eq h.top, State.setFrames_setFrames, State.setTop_of_frames _ hr', hr]
      rfl
    have hsame : U.sameButNew ({ U with heap := s₂.heap, slotsUsed := s₂.slotsUsed } : State) L mc ms := by
      refine ⟨?_, q2, q3, q4, q5, q6⟩
      obtain ⟨t, ht, -⟩ := State.frames_cons hr
      show ({ U with heap := s₂.heap, slotsUsed := s₂.slotsUsed } : State) = { U.setFrames U.frames with heap := s₂.heap, slotsUsed := s₂.slotsUsed }
      rw [State.setFrames_self ht]
    subst hg
    refine Or.inl ⟨v, ⟨(({ U with heap := s₂.heap, slotsUsed := s₂.slotsUsed } : State).setVm s₂.vm), Ls ++ L, c0 + mc, s0 + ms⟩,
      ⟨X.admits, X.cas, X.clock, X.frames, X.room, X.hears, X.method, X.code, (X.here.setHeapUsed s₂.heap s₂.slotsUsed).setVm hW'.alike, X.tail, State.WarmedH.trans X.warmed hW', X.limits, X.bytes, X.same.trans (hsame.setVm s.vm)⟩,
      ⟨S', mc, ms, L, hPo, hmc, hms, hWD, hF', rfl, hL, rfl, rfl⟩, ?_⟩
    show Steps p.tables e below _ ((({ U with heap := s₂.heap, slotsUsed := s₂.slotsUsed } : State).setVm s₂.vm).setTop { f with pc := f.pc + len₂, stack := v.toList ++ f.stack })
    rw [← hs₂]
    exact hsteps
  · subst hx
    obtain ⟨e2, q2, q3, q4, q5, q6⟩ := id hsm
    have e3 : s₂ = ({ (U.calling f mk a).setFrames s₂.frames with heap := s₂.heap, slotsUsed := s₂.slotsUsed } : State).setVm s₂.vm := by
      have : s₂ = ({ s₂ with vm := (U.calling f mk a).vm } : State).setVm s₂.vm := rfl
      rw [e2] at this
      exact this
    have hf₂ : s₂.frames = .throwing q :: .java f :: U.frames.tail := hend
    have hW' : U.WarmedH s₂.vm := hW₂
    have hs₂ : s₂ = ((({ U with heap := s₂.heap, slotsUsed := s₂.slotsUsed } : State).setVm s₂.vm).setTop f).pushFrame (.throwing q) := by
      refine e3.trans ?_
      rw [hf₂, State.calling_eq h.top, State.setFrames_setFrames, State.pushFrame, State.frames_setTop _ hr', State.setTop_of_frames _ hr', State.setFrames_setFrames, hr]
      rfl
    have hsame : U.sameButNew ({ U with heap := s₂.heap, slotsUsed := s₂.slotsUsed } : State) L mc ms := by
      refine ⟨?_, q2, q3, q4, q5, q6⟩
      obtain ⟨t, ht, -⟩ := State.frames_cons hr
      show ({ U with heap := s₂.heap, slotsUsed := s₂.slotsUsed } : State) = { U.setFrames U.frames with heap := s₂.heap, slotsUsed := s₂.slotsUsed }
      rw [State.setFrames_self ht]
    subst hg
    refine Or.inr ⟨q, ⟨(({ U with heap := s₂.heap, slotsUsed := s₂.slotsUsed } : State).setVm s₂.vm), Ls ++ L, c0 + mc, s0 + ms⟩,
      ⟨X.admits, X.cas, X.clock, X.frames, X.room, X.hears, X.method, X.code, (X.here.setHeapUsed s₂.heap s₂.slotsUsed).setVm hW'.alike, X.tail, State.WarmedH.trans X.warmed hW', X.limits, X.bytes, X.same.trans (hsame.setVm s.vm)⟩,
      ⟨E, ce, S', mc, ms, L, hPo, hmc, hms, hWD, hF', rfl, hL, rfl, rfl, hce, hcv, hcl⟩, ?_⟩
    show Steps p.tables e below _ (((({ U with heap := s₂.heap, slotsUsed := s₂.slotsUsed } : State).setVm s₂.vm).setTop f).pushFrame (.throwing q))
    rw [← hs₂]
    exact hsteps
end EHB
def eh_cS (own : String) (idx : Nat) (M' : mt_T) (nA : Nat) (hh : List (Nat × Nat × Nat × Nat)) : Prop := (Cond.codeWith M'.1 M'.2.1 M'.2.2.1 M'.2.2.2 hh ∈ ex_TB ∧ Cond.initialized M'.1.cls ∈ ex_TB ∧ (M'.1.cls ≠ "java/lang/invoke/MethodHandle" ∧ M'.1.cls ≠ "java/lang/invoke/VarHandle") ∧ ((parseMethodDescriptor M'.1.desc).map fun q => q.parameters.length) = some nA ∧ M'.2.2.1 ≤ 45) ∧ Cond.methodLink own idx M'.1 ∈ ex_TB ∧ Cond.static M'.1 ∈ ex_TB
section EHC
variable {X : Code → State → Prop} {g : gl_T} {d : Nat} {M : mt_T} {Po : ex_R} {pc pc' : Nat} {lv : List (Nat × Value)} {st : List Value} {S : hs_T} {n k : Nat}
theorem eh_callS {idx nA d' : Nat} {hh : List (Nat × Nat × Nat × Nat)} {M' : mt_T} {Po' : ex_R} {As : List Value} (h : ex_d M pc (.invokestatic idx) 3 pc') (hc : eh_cS M.1.cls idx M' nA hh) (hM' : eh_M g d' M' hh As S n k Po') (hnA : As.length = nA) (hd : d' + 1 ≤ d) (hrest : (st.map fun v => v.category).sum ≤ 8) (hno : ∀ E S' n' k', ¬ Po' (.inr E) S' n' k')
    (kk : ∀ v S' n' k', Po' (.inl v) S' n' k' → eh_W X g d M Po pc' lv (v.toList ++ st) S' n' k') : eh_W X g d M Po pc lv (As.reverse ++ st) S n k := by
  intro p e R s m args below meth c H locs ls cells slots n0 k0 C hl hW hS hn hk hN hK
  obtain ⟨⟨hx, hb, hml, hrt, hlocks⟩, ⟨hown, hnm, htab⟩, ⟨hKU, hKH, hbs, hst⟩, hfr, hlo, hrc, hrs, hn0, hk0⟩ := id C
  obtain ⟨hdg, rfl⟩ := h
  obtain ⟨⟨hcode, hini, hmh, hpar, hmax⟩, hlink, hstat⟩ := hc
  have hBk := ex_backN (eh_back (g := g) (R := R) (p := p) (e := e) (below := below) (s := s) (sargs := args) (len := 3) (W9 := 8) hM' hst hN hK hcode hini (by omega) (by omega) hKU) (fun A a q B ⟨E, ce, S', kc, ks, L, h1, _⟩ => hno _ _ _ _ h1)
  intro T hT X1
  have hpre : ∀ vm₁, s.WarmedH vm₁ → PreOf R (ex_NM - n) (ex_KM - k) (ex_P g S As) ⟨T.setVm vm₁, locs, cells, slots⟩ As.toArray := fun vm₁ hW₁ => ⟨by show cells + (ex_NM - n) ≤ R.cells; rw [hrc]; omega, by show slots + (ex_KM - k) ≤ R.slots; rw [hrs]; omega, ex_P_of hKU hKH hbs hW hS (U := T.setVm vm₁) hT hW₁⟩
  have K : ∃ (v : Option Value) (vm₁ : Vm) (B : Pt), s.WarmedH vm₁ ∧ Stand p g.1 e R s m args below meth c B.U B.locs B.cells B.slots ∧ ex_PoB g Po' n k ⟨T.setVm vm₁, locs, cells, slots⟩ As.toArray v B ∧
      ∀ target, Steps p.tables e below (B.U.setTop { F0 m pc ls (As.reverse ++ st) with pc := pc + 3, stack := v.toList ++ st }) target → Steps p.tables e below (T.setTop (F0 m pc ls (As.reverse ++ st))) target := by
    exact vx_callSW X1 hx hown (ex_w hKU hlink args) (ex_w hKU hstat args) (ex_w hKU hini args) (ex_w hKU hcode args) hmh hBk (g := F0 m pc ls (As.reverse ++ st)) rfl (hl.1.trans hml.symm) (argsL := As) (rest := st) (ex_plen hpar hnA) rfl (lv_room hrest) (by rw [hb]; exact hdg) hpre
  obtain ⟨v, vm₁, B, hW₁, X', ⟨S', kc, ks, L, hPo, hkc, hks, hWD, hF, hBl, hL', hBc, hBs⟩, st1⟩ := K
  have hS' := ex_on hS (A := ⟨T.setVm vm₁, locs, cells, slots⟩) hT rfl hF hBl hL'
  obtain ⟨U', l2, c2, s2⟩ := B
  dsimp only [Pt.U, Pt.locs, Pt.cells, Pt.slots] at X' hWD hS' hBc hBs st1
  subst hBc; subst hBs
  obtain ⟨t, a1, b1⟩ := kk v S' (n + kc) (k + ks) hPo p e R s m args below meth c U'.heap l2 ls (cells + kc) (slots + ks) n0 k0 C hl hWD hS' (by omega) (by omega) (by omega) (by omega) U' rfl X'
  exact ⟨t, st1 t a1, b1⟩
theorem eh_cVg {idx nA d' b kd : Nat} {M' : mt_T} {Po' : ex_R} {q : vw_C} {stk : List Value} (As st : List Value) (h : ex_d M pc (.invokevirtual idx) 3 pc') (hc : ex_cV M.1.cls idx M' nA) (hM' : ex_M g d' M' (.ref b :: As) S n k Po') (hL : b ∈ hs_L S) (hKb : hs_K S b = kd) (hq : hs_cl[kd]? = some q) (hqc : q.1 = M'.1.cls) (hnA : As.length = nA) (hd : d' + 1 ≤ d) (hrest : (st.map fun v => v.category).sum ≤ 8) (hstk : stk = As.reverse ++ .ref b :: st) (hno : ∀ E S' n' k', ¬ Po' (.inr E) S' n' k') (kk : ∀ v S' n' k', Po' (.inl v) S' n' k' → eh_W X g d M Po pc' lv (v.toList ++ st) S' n' k') : eh_W X g d M Po pc lv stk S n k := by
  subst hstk
  exact eh_callV h hc hM' hL hKb hq hqc hnA hd hrest kk hno
theorem eh_cXg {idx nA d' b kd : Nat} {hh : List (Nat × Nat × Nat × Nat)} {M' : mt_T} {Po' : ex_R} {q : vw_C} {stk : List Value} (As st : List Value) (h : ex_d M pc (.invokevirtual idx) 3 pc') (hc : ex_cV M.1.cls idx M' nA) (hM' : ex_M g d' M' (.ref b :: As) S n k Po') (hL : b ∈ hs_L S) (hKb : hs_K S b = kd) (hq : hs_cl[kd]? = some q) (hqc : q.1 = M'.1.cls) (hnA : As.length = nA) (hd : d' + 1 ≤ d) (hrest : (st.map fun v => v.category).sum ≤ 8) (hstk : stk = As.reverse ++ .ref b :: st) (kk : ∀ v S' n' k', Po' (.inl v) S' n' k' → eh_W (fun c _ => c.exceptionTable.toList = tableOf hh) g d M Po pc' lv (v.toList ++ st) S' n' k') (kx : ∀ E S' n' k', Po' (.inr E) S' n' k' → ∃ (pre : List ExceptionTableEntry) (x : ExceptionTableEntry) (suf : List ExceptionTableEntry) (name : String), tableOf hh = pre ++ x :: suf ∧ (∀ z ∈ pre, z.catchType ≠ 0 ∧ ∃ nm, Cond.classLink M.1.cls z.catchType nm ∈ ex_TB ∧ (E, nm) ∈ cs_N) ∧ covers x pc = true ∧ x.catchType ≠ 0 ∧ Cond.classLink M.1.cls x.catchType name ∈ ex_TB ∧ Cond.castable E name ∈ ex_NB ∧ ∀ q, eh_W (fun c _ => c.exceptionTable.toList = tableOf hh) g d M Po x.handlerPc lv [.ref q] S' n' k') : eh_W (fun c _ => c.exceptionTable.toList = tableOf hh) g d M Po pc lv stk S n k := by
  subst hstk
  exact eh_callX h hc hM' hL hKb hq hqc hnA hd hrest kk (fun _ _ h => h) kx
theorem eh_cSg {idx nA d' : Nat} {hh : List (Nat × Nat × Nat × Nat)} {M' : mt_T} {Po' : ex_R} {stk : List Value} (As st : List Value) (h : ex_d M pc (.invokestatic idx) 3 pc') (hc : eh_cS M.1.cls idx M' nA hh) (hM' : eh_M g d' M' hh As S n k Po') (hnA : As.length = nA) (hd : d' + 1 ≤ d) (hrest : (st.map fun v => v.category).sum ≤ 8) (hstk : stk = As.reverse ++ st) (hno : ∀ E S' n' k', ¬ Po' (.inr E) S' n' k') (kk : ∀ v S' n' k', Po' (.inl v) S' n' k' → eh_W X g d M Po pc' lv (v.toList ++ st) S' n' k') : eh_W X g d M Po pc lv stk S n k := by
  subst hstk
  exact eh_callS h hc hM' hnA hd hrest hno kk
theorem eh_cIg {idx nA d' b : Nat} {M' : mt_T} {Po' : ex_R} {stk : List Value} (As st : List Value) (h : ex_d M pc (.invokespecial idx) 3 pc') (hc : ex_cI M.1.cls idx M' nA) (hM' : ex_M g d' M' (.ref b :: As) S n k Po') (hnA : As.length = nA) (hd : d' + 1 ≤ d) (hrest : (st.map fun v => v.category).sum ≤ 8) (hstk : stk = As.reverse ++ .ref b :: st) (hno : ∀ E S' n' k', ¬ Po' (.inr E) S' n' k') (kk : ∀ v S' n' k', Po' (.inl v) S' n' k' → eh_W X g d M Po pc' lv (v.toList ++ st) S' n' k') : eh_W X g d M Po pc lv stk S n k := by
  subst hstk
  exact eh_callI h hc hM' hnA hd hrest hno kk
/-! the script, which nobody changes -/
theorem eh_sld {b L : Nat} {xs : Nat → Int32} {x : Int32} {j : Nat} (hX : ∀ c s, X c s → va_X b L xs s s.heap ∧ b < s.heap.size) (hb : b < g.2.2.2.1) (h : ex_d M pc (.iaload) 1 pc') (hi : x = nI j) (hj : j < L) (hjb : j < 2 ^ 31) (kk : eh_W X g d M Po pc' lv (.int (xs j) :: st) S n k) : eh_W X g d M Po pc lv (.int x :: .ref b :: st) S n k := by
  intro p e R s m args below meth c H locs ls cells slots n0 k0 C hl hW hS hn hk hN hK
  obtain ⟨⟨hx, hbb, hml, hrt, hlocks⟩, ⟨hown, hnm, htab⟩, ⟨hKU, hKH, hbs, hst⟩, hfr, hlo, hrc, hrs, hn0, hk0⟩ := id C
  obtain ⟨hdg, rfl⟩ := h
  obtain ⟨h1, h2⟩ := ex_in hi hj hjb
  have K := kk p e R s m args below meth c H locs ls cells slots n0 k0 C hl hW hS hn hk hN hK
  rw [← h2] at K
  exact va_sld hx hbb (hX c s htab).1 (hX c s htab).2 (Nat.not_le.mpr hb) hS h1 hdg K
theorem eh_slen {b L : Nat} {xs : Nat → Int32} (hX : ∀ c s, X c s → va_X b L xs s s.heap ∧ b < s.heap.size) (hb : b < g.2.2.2.1) (h : ex_d M pc (.arraylength) 1 pc') (kk : eh_W X g d M Po pc' lv (.int (nI L) :: st) S n k) : eh_W X g d M Po pc lv (.ref b :: st) S n k := by
  intro p e R s m args below meth c H locs ls cells slots n0 k0 C hl hW hS hn hk hN hK
  obtain ⟨⟨hx, hbb, hml, hrt, hlocks⟩, ⟨hown, hnm, htab⟩, ⟨hKU, hKH, hbs, hst⟩, hfr, hlo, hrc, hrs, hn0, hk0⟩ := id C
  obtain ⟨hdg, rfl⟩ := h
  exact va_slen hx hbb (hX c s htab).1 (hX c s htab).2 (Nat.not_le.mpr hb) hS hdg (kk p e R s m args below meth c H locs ls cells slots n0 k0 C hl hW hS hn hk hN hK)
end EHC
