/-! an instruction, a row -/
def ex_d (M : mt_T) (pc : Nat) (i : Instr) (len pc' : Nat) : Prop := decode M.2.1 pc = .ok (i, len) ∧ pc' = pc + len
section EXR2
variable {g : gl_T} {d : Nat} {M : mt_T} {Po : ex_R} {pc pc' : Nat} {lv : List (Nat × Value)} {st : List Value} {S : hs_T} {n k : Nat}
theorem ex_iconst {q : Int} {v : Int32} (h : ex_d M pc (.iconst q) 1 pc') (hv : Int32.ofInt q = v) (kk : ex_W g d M Po pc' lv (.int v :: st) S n k) : ex_W g d M Po pc lv (st) S n k := by
  intro p e R s m args below meth c H locs ls cells slots n0 k0 C hl hW hS hn hk hN hK
  obtain ⟨⟨hx, hb, hml, hrt, hlocks⟩, ⟨hown, hnm, htab⟩, ⟨hKU, hKH, hbs, hst⟩, hfr, hlo, hrc, hrs, hn0, hk0⟩ := id C
  obtain ⟨hdg, rfl⟩ := h
  exact lv_iconst hx hb hdg hv (kk p e R s m args below meth c H locs ls cells slots n0 k0 C hl hW hS hn hk hN hK)
theorem ex_bipush {q : Int} {v : Int32} (h : ex_d M pc (.bipush q) 2 pc') (hv : (Int8.ofInt q).toInt32 = v) (kk : ex_W g d M Po pc' lv (.int v :: st) S n k) : ex_W g d M Po pc lv (st) S n k := by
  intro p e R s m args below meth c H locs ls cells slots n0 k0 C hl hW hS hn hk hN hK
  obtain ⟨⟨hx, hb, hml, hrt, hlocks⟩, ⟨hown, hnm, htab⟩, ⟨hKU, hKH, hbs, hst⟩, hfr, hlo, hrc, hrs, hn0, hk0⟩ := id C
  obtain ⟨hdg, rfl⟩ := h
  exact lv_bipush hx hb hdg hv (kk p e R s m args below meth c H locs ls cells slots n0 k0 C hl hW hS hn hk hN hK)
theorem ex_sipush {q : Int} {v : Int32} (h : ex_d M pc (.sipush q) 3 pc') (hv : (Int16.ofInt q).toInt32 = v) (kk : ex_W g d M Po pc' lv (.int v :: st) S n k) : ex_W g d M Po pc lv (st) S n k := by
  intro p e R s m args below meth c H locs ls cells slots n0 k0 C hl hW hS hn hk hN hK
  obtain ⟨⟨hx, hb, hml, hrt, hlocks⟩, ⟨hown, hnm, htab⟩, ⟨hKU, hKH, hbs, hst⟩, hfr, hlo, hrc, hrs, hn0, hk0⟩ := id C
  obtain ⟨hdg, rfl⟩ := h
  exact lv_sipush hx hb hdg hv (kk p e R s m args below meth c H locs ls cells slots n0 k0 C hl hW hS hn hk hN hK)
theorem ex_lconst {q : Fin 2} {v : Int64} (h : ex_d M pc (.lconst q) 1 pc') (hv : Int64.ofNat (q : Nat) = v) (kk : ex_W g d M Po pc' lv (.long v :: st) S n k) : ex_W g d M Po pc lv (st) S n k := by
  intro p e R s m args below meth c H locs ls cells slots n0 k0 C hl hW hS hn hk hN hK
  obtain ⟨⟨hx, hb, hml, hrt, hlocks⟩, ⟨hown, hnm, htab⟩, ⟨hKU, hKH, hbs, hst⟩, hfr, hlo, hrc, hrs, hn0, hk0⟩ := id C
  obtain ⟨hdg, rfl⟩ := h
  exact lv_lconst hx hb hdg hv (kk p e R s m args below meth c H locs ls cells slots n0 k0 C hl hW hS hn hk hN hK)
theorem ex_null  (h : ex_d M pc (.aconst_null) 1 pc')  (kk : ex_W g d M Po pc' lv (.null :: st) S n k) : ex_W g d M Po pc lv (st) S n k := by
  intro p e R s m args below meth c H locs ls cells slots n0 k0 C hl hW hS hn hk hN hK
  obtain ⟨⟨hx, hb, hml, hrt, hlocks⟩, ⟨hown, hnm, htab⟩, ⟨hKU, hKH, hbs, hst⟩, hfr, hlo, hrc, hrs, hn0, hk0⟩ := id C
  obtain ⟨hdg, rfl⟩ := h
  exact lv_null hx hb hdg  (kk p e R s m args below meth c H locs ls cells slots n0 k0 C hl hW hS hn hk hN hK)
theorem ex_iadd {x y : Int32} (h : ex_d M pc (.iadd) 1 pc')  (kk : ex_W g d M Po pc' lv (.int (x + y) :: st) S n k) : ex_W g d M Po pc lv (.int y :: .int x :: st) S n k := by
  intro p e R s m args below meth c H locs ls cells slots n0 k0 C hl hW hS hn hk hN hK
  obtain ⟨⟨hx, hb, hml, hrt, hlocks⟩, ⟨hown, hnm, htab⟩, ⟨hKU, hKH, hbs, hst⟩, hfr, hlo, hrc, hrs, hn0, hk0⟩ := id C
  obtain ⟨hdg, rfl⟩ := h
  exact lv_iadd hx hb hdg  (kk p e R s m args below meth c H locs ls cells slots n0 k0 C hl hW hS hn hk hN hK)
theorem ex_isub {x y : Int32} (h : ex_d M pc (.isub) 1 pc')  (kk : ex_W g d M Po pc' lv (.int (x - y) :: st) S n k) : ex_W g d M Po pc lv (.int y :: .int x :: st) S n k := by
  intro p e R s m args below meth c H locs ls cells slots n0 k0 C hl hW hS hn hk hN hK
  obtain ⟨⟨hx, hb, hml, hrt, hlocks⟩, ⟨hown, hnm, htab⟩, ⟨hKU, hKH, hbs, hst⟩, hfr, hlo, hrc, hrs, hn0, hk0⟩ := id C
  obtain ⟨hdg, rfl⟩ := h
  exact lv_isub hx hb hdg  (kk p e R s m args below meth c H locs ls cells slots n0 k0 C hl hW hS hn hk hN hK)
theorem ex_imul {x y : Int32} (h : ex_d M pc (.imul) 1 pc')  (kk : ex_W g d M Po pc' lv (.int (x * y) :: st) S n k) : ex_W g d M Po pc lv (.int y :: .int x :: st) S n k := by
  intro p e R s m args below meth c H locs ls cells slots n0 k0 C hl hW hS hn hk hN hK
  obtain ⟨⟨hx, hb, hml, hrt, hlocks⟩, ⟨hown, hnm, htab⟩, ⟨hKU, hKH, hbs, hst⟩, hfr, hlo, hrc, hrs, hn0, hk0⟩ := id C
  obtain ⟨hdg, rfl⟩ := h
  exact lv_imul hx hb hdg  (kk p e R s m args below meth c H locs ls cells slots n0 k0 C hl hW hS hn hk hN hK)
theorem ex_iand {x y : Int32} (h : ex_d M pc (.iand) 1 pc')  (kk : ex_W g d M Po pc' lv (.int (x &&& y) :: st) S n k) : ex_W g d M Po pc lv (.int y :: .int x :: st) S n k := by
  intro p e R s m args below meth c H locs ls cells slots n0 k0 C hl hW hS hn hk hN hK
  obtain ⟨⟨hx, hb, hml, hrt, hlocks⟩, ⟨hown, hnm, htab⟩, ⟨hKU, hKH, hbs, hst⟩, hfr, hlo, hrc, hrs, hn0, hk0⟩ := id C
  obtain ⟨hdg, rfl⟩ := h
  exact lv_iand hx hb hdg  (kk p e R s m args below meth c H locs ls cells slots n0 k0 C hl hW hS hn hk hN hK)
theorem ex_ior {x y : Int32} (h : ex_d M pc (.ior) 1 pc')  (kk : ex_W g d M Po pc' lv (.int (x ||| y) :: st) S n k) : ex_W g d M Po pc lv (.int y :: .int x :: st) S n k := by
  intro p e R s m args below meth c H locs ls cells slots n0 k0 C hl hW hS hn hk hN hK
  obtain ⟨⟨hx, hb, hml, hrt, hlocks⟩, ⟨hown, hnm, htab⟩, ⟨hKU, hKH, hbs, hst⟩, hfr, hlo, hrc, hrs, hn0, hk0⟩ := id C
  obtain ⟨hdg, rfl⟩ := h
  exact lv_ior hx hb hdg  (kk p e R s m args below meth c H locs ls cells slots n0 k0 C hl hW hS hn hk hN hK)
theorem ex_ixor {x y : Int32} (h : ex_d M pc (.ixor) 1 pc')  (kk : ex_W g d M Po pc' lv (.int (x ^^^ y) :: st) S n k) : ex_W g d M Po pc lv (.int y :: .int x :: st) S n k := by
  intro p e R s m args below meth c H locs ls cells slots n0 k0 C hl hW hS hn hk hN hK
  obtain ⟨⟨hx, hb, hml, hrt, hlocks⟩, ⟨hown, hnm, htab⟩, ⟨hKU, hKH, hbs, hst⟩, hfr, hlo, hrc, hrs, hn0, hk0⟩ := id C
  obtain ⟨hdg, rfl⟩ := h
  exact lv_ixor hx hb hdg  (kk p e R s m args below meth c H locs ls cells slots n0 k0 C hl hW hS hn hk hN hK)
theorem ex_ishl {x y : Int32} (h : ex_d M pc (.ishl) 1 pc')  (kk : ex_W g d M Po pc' lv (.int (x <<< (y &&& 31)) :: st) S n k) : ex_W g d M Po pc lv (.int y :: .int x :: st) S n k := by
  intro p e R s m args below meth c H locs ls cells slots n0 k0 C hl hW hS hn hk hN hK
  obtain ⟨⟨hx, hb, hml, hrt, hlocks⟩, ⟨hown, hnm, htab⟩, ⟨hKU, hKH, hbs, hst⟩, hfr, hlo, hrc, hrs, hn0, hk0⟩ := id C
  obtain ⟨hdg, rfl⟩ := h
  exact lv_ishl hx hb hdg  (kk p e R s m args below meth c H locs ls cells slots n0 k0 C hl hW hS hn hk hN hK)
theorem ex_ishr {x y : Int32} (h : ex_d M pc (.ishr) 1 pc')  (kk : ex_W g d M Po pc' lv (.int (x >>> (y &&& 31)) :: st) S n k) : ex_W g d M Po pc lv (.int y :: .int x :: st) S n k := by
  intro p e R s m args below meth c H locs ls cells slots n0 k0 C hl hW hS hn hk hN hK
  obtain ⟨⟨hx, hb, hml, hrt, hlocks⟩, ⟨hown, hnm, htab⟩, ⟨hKU, hKH, hbs, hst⟩, hfr, hlo, hrc, hrs, hn0, hk0⟩ := id C
  obtain ⟨hdg, rfl⟩ := h
  exact lv_ishr hx hb hdg  (kk p e R s m args below meth c H locs ls cells slots n0 k0 C hl hW hS hn hk hN hK)
theorem ex_idiv {x y : Int32} (h : ex_d M pc (.idiv) 1 pc') (hne : ¬ y = 0) (kk : ex_W g d M Po pc' lv (.int (x / y) :: st) S n k) : ex_W g d M Po pc lv (.int y :: .int x :: st) S n k := by
  intro p e R s m args below meth c H locs ls cells slots n0 k0 C hl hW hS hn hk hN hK
  obtain ⟨⟨hx, hb, hml, hrt, hlocks⟩, ⟨hown, hnm, htab⟩, ⟨hKU, hKH, hbs, hst⟩, hfr, hlo, hrc, hrs, hn0, hk0⟩ := id C
  obtain ⟨hdg, rfl⟩ := h
  exact lv_idiv hx hb hdg hne (kk p e R s m args below meth c H locs ls cells slots n0 k0 C hl hW hS hn hk hN hK)
theorem ex_irem {x y : Int32} (h : ex_d M pc (.irem) 1 pc') (hne : ¬ y = 0) (kk : ex_W g d M Po pc' lv (.int (x - x / y * y) :: st) S n k) : ex_W g d M Po pc lv (.int y :: .int x :: st) S n k := by
  intro p e R s m args below meth c H locs ls cells slots n0 k0 C hl hW hS hn hk hN hK
  obtain ⟨⟨hx, hb, hml, hrt, hlocks⟩, ⟨hown, hnm, htab⟩, ⟨hKU, hKH, hbs, hst⟩, hfr, hlo, hrc, hrs, hn0, hk0⟩ := id C
  obtain ⟨hdg, rfl⟩ := h
  exact lv_irem hx hb hdg hne (kk p e R s m args below meth c H locs ls cells slots n0 k0 C hl hW hS hn hk hN hK)
theorem ex_iushr {x y : Int32} (h : ex_d M pc (.iushr) 1 pc')  (kk : ex_W g d M Po pc' lv (.int ((x.toUInt32 >>> (y.toUInt32 &&& Int32.toUInt32 31)).toInt32) :: st) S n k) : ex_W g d M Po pc lv (.int y :: .int x :: st) S n k := by
  intro p e R s m args below meth c H locs ls cells slots n0 k0 C hl hW hS hn hk hN hK
  obtain ⟨⟨hx, hb, hml, hrt, hlocks⟩, ⟨hown, hnm, htab⟩, ⟨hKU, hKH, hbs, hst⟩, hfr, hlo, hrc, hrs, hn0, hk0⟩ := id C
  obtain ⟨hdg, rfl⟩ := h
  exact lv_iushr hx hb hdg rfl (kk p e R s m args below meth c H locs ls cells slots n0 k0 C hl hW hS hn hk hN hK)
theorem ex_ladd {x y : Int64} (h : ex_d M pc (.ladd) 1 pc')  (kk : ex_W g d M Po pc' lv (.long (x + y) :: st) S n k) : ex_W g d M Po pc lv (.long y :: .long x :: st) S n k := by
  intro p e R s m args below meth c H locs ls cells slots n0 k0 C hl hW hS hn hk hN hK
  obtain ⟨⟨hx, hb, hml, hrt, hlocks⟩, ⟨hown, hnm, htab⟩, ⟨hKU, hKH, hbs, hst⟩, hfr, hlo, hrc, hrs, hn0, hk0⟩ := id C
  obtain ⟨hdg, rfl⟩ := h
  exact lv_ladd hx hb hdg  (kk p e R s m args below meth c H locs ls cells slots n0 k0 C hl hW hS hn hk hN hK)
theorem ex_lsub {x y : Int64} (h : ex_d M pc (.lsub) 1 pc')  (kk : ex_W g d M Po pc' lv (.long (x - y) :: st) S n k) : ex_W g d M Po pc lv (.long y :: .long x :: st) S n k := by
  intro p e R s m args below meth c H locs ls cells slots n0 k0 C hl hW hS hn hk hN hK
  obtain ⟨⟨hx, hb, hml, hrt, hlocks⟩, ⟨hown, hnm, htab⟩, ⟨hKU, hKH, hbs, hst⟩, hfr, hlo, hrc, hrs, hn0, hk0⟩ := id C
  obtain ⟨hdg, rfl⟩ := h
  exact lv_lsub hx hb hdg  (kk p e R s m args below meth c H locs ls cells slots n0 k0 C hl hW hS hn hk hN hK)
theorem ex_lmul {x y : Int64} (h : ex_d M pc (.lmul) 1 pc')  (kk : ex_W g d M Po pc' lv (.long (x * y) :: st) S n k) : ex_W g d M Po pc lv (.long y :: .long x :: st) S n k := by
  intro p e R s m args below meth c H locs ls cells slots n0 k0 C hl hW hS hn hk hN hK
  obtain ⟨⟨hx, hb, hml, hrt, hlocks⟩, ⟨hown, hnm, htab⟩, ⟨hKU, hKH, hbs, hst⟩, hfr, hlo, hrc, hrs, hn0, hk0⟩ := id C
  obtain ⟨hdg, rfl⟩ := h
  exact lv_lmul hx hb hdg  (kk p e R s m args below meth c H locs ls cells slots n0 k0 C hl hW hS hn hk hN hK)
theorem ex_land {x y : Int64} (h : ex_d M pc (.land) 1 pc')  (kk : ex_W g d M Po pc' lv (.long (x &&& y) :: st) S n k) : ex_W g d M Po pc lv (.long y :: .long x :: st) S n k := by
  intro p e R s m args below meth c H locs ls cells slots n0 k0 C hl hW hS hn hk hN hK
  obtain ⟨⟨hx, hb, hml, hrt, hlocks⟩, ⟨hown, hnm, htab⟩, ⟨hKU, hKH, hbs, hst⟩, hfr, hlo, hrc, hrs, hn0, hk0⟩ := id C
  obtain ⟨hdg, rfl⟩ := h
  exact lv_land hx hb hdg  (kk p e R s m args below meth c H locs ls cells slots n0 k0 C hl hW hS hn hk hN hK)
theorem ex_ldiv {x y : Int64} (h : ex_d M pc (.ldiv) 1 pc') (hne : ¬ y = 0) (kk : ex_W g d M Po pc' lv (.long (x / y) :: st) S n k) : ex_W g d M Po pc lv (.long y :: .long x :: st) S n k := by
  intro p e R s m args below meth c H locs ls cells slots n0 k0 C hl hW hS hn hk hN hK
  obtain ⟨⟨hx, hb, hml, hrt, hlocks⟩, ⟨hown, hnm, htab⟩, ⟨hKU, hKH, hbs, hst⟩, hfr, hlo, hrc, hrs, hn0, hk0⟩ := id C
  obtain ⟨hdg, rfl⟩ := h
  exact lv_ldiv hx hb hdg hne (kk p e R s m args below meth c H locs ls cells slots n0 k0 C hl hW hS hn hk hN hK)
theorem ex_lrem {x y : Int64} (h : ex_d M pc (.lrem) 1 pc') (hne : ¬ y = 0) (kk : ex_W g d M Po pc' lv (.long (x - x / y * y) :: st) S n k) : ex_W g d M Po pc lv (.long y :: .long x :: st) S n k := by
  intro p e R s m args below meth c H locs ls cells slots n0 k0 C hl hW hS hn hk hN hK
  obtain ⟨⟨hx, hb, hml, hrt, hlocks⟩, ⟨hown, hnm, htab⟩, ⟨hKU, hKH, hbs, hst⟩, hfr, hlo, hrc, hrs, hn0, hk0⟩ := id C
  obtain ⟨hdg, rfl⟩ := h
  exact lv_lrem hx hb hdg hne (kk p e R s m args below meth c H locs ls cells slots n0 k0 C hl hW hS hn hk hN hK)
theorem ex_i2l {x : Int32} (h : ex_d M pc (.i2l) 1 pc')  (kk : ex_W g d M Po pc' lv (.long x.toInt64 :: st) S n k) : ex_W g d M Po pc lv (.int x :: st) S n k := by
  intro p e R s m args below meth c H locs ls cells slots n0 k0 C hl hW hS hn hk hN hK
  obtain ⟨⟨hx, hb, hml, hrt, hlocks⟩, ⟨hown, hnm, htab⟩, ⟨hKU, hKH, hbs, hst⟩, hfr, hlo, hrc, hrs, hn0, hk0⟩ := id C
  obtain ⟨hdg, rfl⟩ := h
  exact lv_i2l hx hb hdg rfl (kk p e R s m args below meth c H locs ls cells slots n0 k0 C hl hW hS hn hk hN hK)
theorem ex_l2i {x : Int64} (h : ex_d M pc (.l2i) 1 pc')  (kk : ex_W g d M Po pc' lv (.int x.toInt32 :: st) S n k) : ex_W g d M Po pc lv (.long x :: st) S n k := by
  intro p e R s m args below meth c H locs ls cells slots n0 k0 C hl hW hS hn hk hN hK
  obtain ⟨⟨hx, hb, hml, hrt, hlocks⟩, ⟨hown, hnm, htab⟩, ⟨hKU, hKH, hbs, hst⟩, hfr, hlo, hrc, hrs, hn0, hk0⟩ := id C
  obtain ⟨hdg, rfl⟩ := h
  exact lv_l2i hx hb hdg rfl (kk p e R s m args below meth c H locs ls cells slots n0 k0 C hl hW hS hn hk hN hK)
theorem ex_i2b {x : Int32} (h : ex_d M pc (.i2b) 1 pc')  (kk : ex_W g d M Po pc' lv (.int x.toInt8.toInt32 :: st) S n k) : ex_W g d M Po pc lv (.int x :: st) S n k := by
  intro p e R s m args below meth c H locs ls cells slots n0 k0 C hl hW hS hn hk hN hK
  obtain ⟨⟨hx, hb, hml, hrt, hlocks⟩, ⟨hown, hnm, htab⟩, ⟨hKU, hKH, hbs, hst⟩, hfr, hlo, hrc, hrs, hn0, hk0⟩ := id C
  obtain ⟨hdg, rfl⟩ := h
  exact lv_i2b hx hb hdg rfl (kk p e R s m args below meth c H locs ls cells slots n0 k0 C hl hW hS hn hk hN hK)
theorem ex_i2c {x : Int32} {v : Int32} (h : ex_d M pc (.i2c) 1 pc') (hv : (x.toUInt32 % 65536).toInt32 = v) (kk : ex_W g d M Po pc' lv (.int v :: st) S n k) : ex_W g d M Po pc lv (.int x :: st) S n k := by
  intro p e R s m args below meth c H locs ls cells slots n0 k0 C hl hW hS hn hk hN hK
  obtain ⟨⟨hx, hb, hml, hrt, hlocks⟩, ⟨hown, hnm, htab⟩, ⟨hKU, hKH, hbs, hst⟩, hfr, hlo, hrc, hrs, hn0, hk0⟩ := id C
  obtain ⟨hdg, rfl⟩ := h
  exact lv_i2c hx hb hdg hv (kk p e R s m args below meth c H locs ls cells slots n0 k0 C hl hW hS hn hk hN hK)
theorem ex_dup {va : Value} (h : ex_d M pc (.dup) 1 pc') (hva : va.category = 1) (kk : ex_W g d M Po pc' lv (va :: va :: st) S n k) : ex_W g d M Po pc lv (va :: st) S n k := by
  intro p e R s m args below meth c H locs ls cells slots n0 k0 C hl hW hS hn hk hN hK
  obtain ⟨⟨hx, hb, hml, hrt, hlocks⟩, ⟨hown, hnm, htab⟩, ⟨hKU, hKH, hbs, hst⟩, hfr, hlo, hrc, hrs, hn0, hk0⟩ := id C
  obtain ⟨hdg, rfl⟩ := h
  exact lv_dup hx hb hdg hva (kk p e R s m args below meth c H locs ls cells slots n0 k0 C hl hW hS hn hk hN hK)
theorem ex_dup_x1 {va vb : Value} (h : ex_d M pc (.dup_x1) 1 pc') (hva : va.category = 1) (hvb : vb.category = 1) (kk : ex_W g d M Po pc' lv (va :: vb :: va :: st) S n k) : ex_W g d M Po pc lv (va :: vb :: st) S n k := by
  intro p e R s m args below meth c H locs ls cells slots n0 k0 C hl hW hS hn hk hN hK
  obtain ⟨⟨hx, hb, hml, hrt, hlocks⟩, ⟨hown, hnm, htab⟩, ⟨hKU, hKH, hbs, hst⟩, hfr, hlo, hrc, hrs, hn0, hk0⟩ := id C
  obtain ⟨hdg, rfl⟩ := h
  exact lv_dup_x1 hx hb hdg hva hvb (kk p e R s m args below meth c H locs ls cells slots n0 k0 C hl hW hS hn hk hN hK)
theorem ex_dup2_2 {va : Value} (h : ex_d M pc (.dup2) 1 pc') (hva : va.category = 2) (kk : ex_W g d M Po pc' lv (va :: va :: st) S n k) : ex_W g d M Po pc lv (va :: st) S n k := by
  intro p e R s m args below meth c H locs ls cells slots n0 k0 C hl hW hS hn hk hN hK
  obtain ⟨⟨hx, hb, hml, hrt, hlocks⟩, ⟨hown, hnm, htab⟩, ⟨hKU, hKH, hbs, hst⟩, hfr, hlo, hrc, hrs, hn0, hk0⟩ := id C
  obtain ⟨hdg, rfl⟩ := h
  exact lv_dup2_2 hx hb hdg hva (kk p e R s m args below meth c H locs ls cells slots n0 k0 C hl hW hS hn hk hN hK)
theorem ex_dup2_11 {va vb : Value} (h : ex_d M pc (.dup2) 1 pc') (hva : va.category = 1) (hvb : vb.category = 1) (kk : ex_W g d M Po pc' lv (va :: vb :: va :: vb :: st) S n k) : ex_W g d M Po pc lv (va :: vb :: st) S n k := by
  intro p e R s m args below meth c H locs ls cells slots n0 k0 C hl hW hS hn hk hN hK
  obtain ⟨⟨hx, hb, hml, hrt, hlocks⟩, ⟨hown, hnm, htab⟩, ⟨hKU, hKH, hbs, hst⟩, hfr, hlo, hrc, hrs, hn0, hk0⟩ := id C
  obtain ⟨hdg, rfl⟩ := h
  exact lv_dup2_11 hx hb hdg hva hvb (kk p e R s m args below meth c H locs ls cells slots n0 k0 C hl hW hS hn hk hN hK)
theorem ex_pop {va : Value} (h : ex_d M pc (.pop) 1 pc') (hva : va.category = 1) (kk : ex_W g d M Po pc' lv (st) S n k) : ex_W g d M Po pc lv (va :: st) S n k := by
  intro p e R s m args below meth c H locs ls cells slots n0 k0 C hl hW hS hn hk hN hK
  obtain ⟨⟨hx, hb, hml, hrt, hlocks⟩, ⟨hown, hnm, htab⟩, ⟨hKU, hKH, hbs, hst⟩, hfr, hlo, hrc, hrs, hn0, hk0⟩ := id C
  obtain ⟨hdg, rfl⟩ := h
  exact lv_pop hx hb hdg hva (kk p e R s m args below meth c H locs ls cells slots n0 k0 C hl hW hS hn hk hN hK)
theorem ex_iload {i : Nat} {x : Int32} (h : ex_d M pc (.iload i) 2 pc') (j : Nat) (hj : lv[j]? = some (i, .int x)) (kk : ex_W g d M Po pc' lv (.int x :: st) S n k) : ex_W g d M Po pc lv (st) S n k := by
  intro p e R s m args below meth c H locs ls cells slots n0 k0 C hl hW hS hn hk hN hK
  obtain ⟨⟨hx, hb, hml, hrt, hlocks⟩, ⟨hown, hnm, htab⟩, ⟨hKU, hKH, hbs, hst⟩, hfr, hlo, hrc, hrs, hn0, hk0⟩ := id C
  obtain ⟨hdg, rfl⟩ := h
  exact lv_iload hx hb hdg (lv_at hl j hj) (kk p e R s m args below meth c H locs ls cells slots n0 k0 C hl hW hS hn hk hN hK)
theorem ex_iload_n {q : Fin 4} {x : Int32} (h : ex_d M pc (.iload_n q) 1 pc') (j : Nat) (hj : lv[j]? = some ((q : Nat), .int x)) (kk : ex_W g d M Po pc' lv (.int x :: st) S n k) : ex_W g d M Po pc lv (st) S n k := by
  intro p e R s m args below meth c H locs ls cells slots n0 k0 C hl hW hS hn hk hN hK
  obtain ⟨⟨hx, hb, hml, hrt, hlocks⟩, ⟨hown, hnm, htab⟩, ⟨hKU, hKH, hbs, hst⟩, hfr, hlo, hrc, hrs, hn0, hk0⟩ := id C
  obtain ⟨hdg, rfl⟩ := h
  exact lv_iload_n hx hb hdg rfl (lv_at hl j hj) (kk p e R s m args below meth c H locs ls cells slots n0 k0 C hl hW hS hn hk hN hK)
theorem ex_lload {i : Nat} {x : Int64} (h : ex_d M pc (.lload i) 2 pc') (j : Nat) (hj : lv[j]? = some (i, .long x)) (kk : ex_W g d M Po pc' lv (.long x :: st) S n k) : ex_W g d M Po pc lv (st) S n k := by
  intro p e R s m args below meth c H locs ls cells slots n0 k0 C hl hW hS hn hk hN hK
  obtain ⟨⟨hx, hb, hml, hrt, hlocks⟩, ⟨hown, hnm, htab⟩, ⟨hKU, hKH, hbs, hst⟩, hfr, hlo, hrc, hrs, hn0, hk0⟩ := id C
  obtain ⟨hdg, rfl⟩ := h
  exact lv_lload hx hb hdg (lv_at hl j hj) (kk p e R s m args below meth c H locs ls cells slots n0 k0 C hl hW hS hn hk hN hK)
theorem ex_lload_n {q : Fin 4} {x : Int64} (h : ex_d M pc (.lload_n q) 1 pc') (j : Nat) (hj : lv[j]? = some ((q : Nat), .long x)) (kk : ex_W g d M Po pc' lv (.long x :: st) S n k) : ex_W g d M Po pc lv (st) S n k := by
  intro p e R s m args below meth c H locs ls cells slots n0 k0 C hl hW hS hn hk hN hK
  obtain ⟨⟨hx, hb, hml, hrt, hlocks⟩, ⟨hown, hnm, htab⟩, ⟨hKU, hKH, hbs, hst⟩, hfr, hlo, hrc, hrs, hn0, hk0⟩ := id C
  obtain ⟨hdg, rfl⟩ := h
  exact lv_lload_n hx hb hdg rfl (lv_at hl j hj) (kk p e R s m args below meth c H locs ls cells slots n0 k0 C hl hW hS hn hk hN hK)
theorem ex_aload {i : Nat} {x : Nat} (h : ex_d M pc (.aload i) 2 pc') (j : Nat) (hj : lv[j]? = some (i, .ref x)) (kk : ex_W g d M Po pc' lv (.ref x :: st) S n k) : ex_W g d M Po pc lv (st) S n k := by
  intro p e R s m args below meth c H locs ls cells slots n0 k0 C hl hW hS hn hk hN hK
  obtain ⟨⟨hx, hb, hml, hrt, hlocks⟩, ⟨hown, hnm, htab⟩, ⟨hKU, hKH, hbs, hst⟩, hfr, hlo, hrc, hrs, hn0, hk0⟩ := id C
  obtain ⟨hdg, rfl⟩ := h
  exact lv_aload hx hb hdg (lv_at hl j hj) (kk p e R s m args below meth c H locs ls cells slots n0 k0 C hl hW hS hn hk hN hK)
theorem ex_aload_n {q : Fin 4} {x : Nat} (h : ex_d M pc (.aload_n q) 1 pc') (j : Nat) (hj : lv[j]? = some ((q : Nat), .ref x)) (kk : ex_W g d M Po pc' lv (.ref x :: st) S n k) : ex_W g d M Po pc lv (st) S n k := by
  intro p e R s m args below meth c H locs ls cells slots n0 k0 C hl hW hS hn hk hN hK
  obtain ⟨⟨hx, hb, hml, hrt, hlocks⟩, ⟨hown, hnm, htab⟩, ⟨hKU, hKH, hbs, hst⟩, hfr, hlo, hrc, hrs, hn0, hk0⟩ := id C
  obtain ⟨hdg, rfl⟩ := h
  exact lv_aload_n hx hb hdg rfl (lv_at hl j hj) (kk p e R s m args below meth c H locs ls cells slots n0 k0 C hl hW hS hn hk hN hK)
theorem ex_aloadN {i : Nat} (h : ex_d M pc (.aload i) 2 pc') (j : Nat) (hj : lv[j]? = some (i, .null)) (kk : ex_W g d M Po pc' lv (.null :: st) S n k) : ex_W g d M Po pc lv (st) S n k := by
  intro p e R s m args below meth c H locs ls cells slots n0 k0 C hl hW hS hn hk hN hK
  obtain ⟨⟨hx, hb, hml, hrt, hlocks⟩, ⟨hown, hnm, htab⟩, ⟨hKU, hKH, hbs, hst⟩, hfr, hlo, hrc, hrs, hn0, hk0⟩ := id C
  obtain ⟨hdg, rfl⟩ := h
  exact lv_aloadN hx hb hdg (lv_at hl j hj) (kk p e R s m args below meth c H locs ls cells slots n0 k0 C hl hW hS hn hk hN hK)
theorem ex_aload_nN {q : Fin 4} (h : ex_d M pc (.aload_n q) 1 pc') (j : Nat) (hj : lv[j]? = some ((q : Nat), .null)) (kk : ex_W g d M Po pc' lv (.null :: st) S n k) : ex_W g d M Po pc lv (st) S n k := by
  intro p e R s m args below meth c H locs ls cells slots n0 k0 C hl hW hS hn hk hN hK
  obtain ⟨⟨hx, hb, hml, hrt, hlocks⟩, ⟨hown, hnm, htab⟩, ⟨hKU, hKH, hbs, hst⟩, hfr, hlo, hrc, hrs, hn0, hk0⟩ := id C
  obtain ⟨hdg, rfl⟩ := h
  exact lv_aload_nN hx hb hdg rfl (lv_at hl j hj) (kk p e R s m args below meth c H locs ls cells slots n0 k0 C hl hW hS hn hk hN hK)
theorem ex_aloadQ {i : Nat} {v : Option Nat} (h : ex_d M pc (.aload i) 2 pc') (j : Nat) (hj : lv[j]? = some (i, va_rf v)) (kk : ex_W g d M Po pc' lv (va_rf v :: st) S n k) : ex_W g d M Po pc lv st S n k := by
  cases v with
  | none => exact ex_aloadN h j hj kk
  | some x => exact ex_aload h j hj kk
theorem ex_aload_nQ {q : Fin 4} {v : Option Nat} (h : ex_d M pc (.aload_n q) 1 pc') (j : Nat) (hj : lv[j]? = some ((q : Nat), va_rf v)) (kk : ex_W g d M Po pc' lv (va_rf v :: st) S n k) : ex_W g d M Po pc lv st S n k := by
  cases v with
  | none => exact ex_aload_nN h j hj kk
  | some x => exact ex_aload_n h j hj kk
theorem ex_istore {i : Nat} {x : Int32} (lv' : List (Nat × Value)) (h : ex_d M pc (.istore i) 2 pc') (hi : i < M.2.2.1) (hlv : (i, Value.int x) :: lv.filter (fun z => !(z.1 == i) && !(z.1 + 1 == i && z.2.category == 2)) = lv') (kk : ex_W g d M Po pc' lv' st S n k) : ex_W g d M Po pc lv (.int x :: st) S n k := by
  intro p e R s m args below meth c H locs ls cells slots n0 k0 C hl hW hS hn hk hN hK
  obtain ⟨⟨hx, hb, hml, hrt, hlocks⟩, ⟨hown, hnm, htab⟩, ⟨hKU, hKH, hbs, hst⟩, hfr, hlo, hrc, hrs, hn0, hk0⟩ := id C
  obtain ⟨hdg, rfl⟩ := h
  exact lv_istore hx hb hdg  hl hi hlv (fun ls hl => kk p e R s m args below meth c H locs ls cells slots n0 k0 C hl hW hS hn hk hN hK)
theorem ex_istore_n {q : Fin 4} {x : Int32} (lv' : List (Nat × Value)) (h : ex_d M pc (.istore_n q) 1 pc') (hi : (q : Nat) < M.2.2.1) (hlv : ((q : Nat), Value.int x) :: lv.filter (fun z => !(z.1 == (q : Nat)) && !(z.1 + 1 == (q : Nat) && z.2.category == 2)) = lv') (kk : ex_W g d M Po pc' lv' st S n k) : ex_W g d M Po pc lv (.int x :: st) S n k := by
  intro p e R s m args below meth c H locs ls cells slots n0 k0 C hl hW hS hn hk hN hK
  obtain ⟨⟨hx, hb, hml, hrt, hlocks⟩, ⟨hown, hnm, htab⟩, ⟨hKU, hKH, hbs, hst⟩, hfr, hlo, hrc, hrs, hn0, hk0⟩ := id C
  obtain ⟨hdg, rfl⟩ := h
  exact lv_istore_n hx hb hdg rfl hl hi hlv (fun ls hl => kk p e R s m args below meth c H locs ls cells slots n0 k0 C hl hW hS hn hk hN hK)
theorem ex_lstore {i : Nat} {x : Int64} (lv' : List (Nat × Value)) (h : ex_d M pc (.lstore i) 2 pc') (hi : i + 1 < M.2.2.1) (hlv : (i, Value.long x) :: lv.filter (fun z => !(z.1 == i) && (!(z.1 == i + 1) && !(z.1 + 1 == i && z.2.category == 2))) = lv') (kk : ex_W g d M Po pc' lv' st S n k) : ex_W g d M Po pc lv (.long x :: st) S n k := by
  intro p e R s m args below meth c H locs ls cells slots n0 k0 C hl hW hS hn hk hN hK
  obtain ⟨⟨hx, hb, hml, hrt, hlocks⟩, ⟨hown, hnm, htab⟩, ⟨hKU, hKH, hbs, hst⟩, hfr, hlo, hrc, hrs, hn0, hk0⟩ := id C
  obtain ⟨hdg, rfl⟩ := h
  exact lv_lstore hx hb hdg  hl hi hlv (fun ls hl => kk p e R s m args below meth c H locs ls cells slots n0 k0 C hl hW hS hn hk hN hK)
theorem ex_lstore_n {q : Fin 4} {x : Int64} (lv' : List (Nat × Value)) (h : ex_d M pc (.lstore_n q) 1 pc') (hi : (q : Nat) + 1 < M.2.2.1) (hlv : ((q : Nat), Value.long x) :: lv.filter (fun z => !(z.1 == (q : Nat)) && (!(z.1 == (q : Nat) + 1) && !(z.1 + 1 == (q : Nat) && z.2.category == 2))) = lv') (kk : ex_W g d M Po pc' lv' st S n k) : ex_W g d M Po pc lv (.long x :: st) S n k := by
  intro p e R s m args below meth c H locs ls cells slots n0 k0 C hl hW hS hn hk hN hK
  obtain ⟨⟨hx, hb, hml, hrt, hlocks⟩, ⟨hown, hnm, htab⟩, ⟨hKU, hKH, hbs, hst⟩, hfr, hlo, hrc, hrs, hn0, hk0⟩ := id C
  obtain ⟨hdg, rfl⟩ := h
  exact lv_lstore_n hx hb hdg rfl hl hi hlv (fun ls hl => kk p e R s m args below meth c H locs ls cells slots n0 k0 C hl hW hS hn hk hN hK)
theorem ex_astore {i : Nat} {x : Nat} (lv' : List (Nat × Value)) (h : ex_d M pc (.astore i) 2 pc') (hi : i < M.2.2.1) (hlv : (i, Value.ref x) :: lv.filter (fun z => !(z.1 == i) && !(z.1 + 1 == i && z.2.category == 2)) = lv') (kk : ex_W g d M Po pc' lv' st S n k) : ex_W g d M Po pc lv (.ref x :: st) S n k := by
  intro p e R s m args below meth c H locs ls cells slots n0 k0 C hl hW hS hn hk hN hK
  obtain ⟨⟨hx, hb, hml, hrt, hlocks⟩, ⟨hown, hnm, htab⟩, ⟨hKU, hKH, hbs, hst⟩, hfr, hlo, hrc, hrs, hn0, hk0⟩ := id C
  obtain ⟨hdg, rfl⟩ := h
  exact lv_astore hx hb hdg  hl hi hlv (fun ls hl => kk p e R s m args below meth c H locs ls cells slots n0 k0 C hl hW hS hn hk hN hK)
theorem ex_astore_n {q : Fin 4} {x : Nat} (lv' : List (Nat × Value)) (h : ex_d M pc (.astore_n q) 1 pc') (hi : (q : Nat) < M.2.2.1) (hlv : ((q : Nat), Value.ref x) :: lv.filter (fun z => !(z.1 == (q : Nat)) && !(z.1 + 1 == (q : Nat) && z.2.category == 2)) = lv') (kk : ex_W g d M Po pc' lv' st S n k) : ex_W g d M Po pc lv (.ref x :: st) S n k := by
  intro p e R s m args below meth c H locs ls cells slots n0 k0 C hl hW hS hn hk hN hK
  obtain ⟨⟨hx, hb, hml, hrt, hlocks⟩, ⟨hown, hnm, htab⟩, ⟨hKU, hKH, hbs, hst⟩, hfr, hlo, hrc, hrs, hn0, hk0⟩ := id C
  obtain ⟨hdg, rfl⟩ := h
  exact lv_astore_n hx hb hdg rfl hl hi hlv (fun ls hl => kk p e R s m args below meth c H locs ls cells slots n0 k0 C hl hW hS hn hk hN hK)
theorem ex_astoreN {i : Nat} (lv' : List (Nat × Value)) (h : ex_d M pc (.astore i) 2 pc') (hi : i < M.2.2.1) (hlv : (i, Value.null) :: lv.filter (fun z => !(z.1 == i) && !(z.1 + 1 == i && z.2.category == 2)) = lv') (kk : ex_W g d M Po pc' lv' st S n k) : ex_W g d M Po pc lv (.null :: st) S n k := by
  intro p e R s m args below meth c H locs ls cells slots n0 k0 C hl hW hS hn hk hN hK
  obtain ⟨⟨hx, hb, hml, hrt, hlocks⟩, ⟨hown, hnm, htab⟩, ⟨hKU, hKH, hbs, hst⟩, hfr, hlo, hrc, hrs, hn0, hk0⟩ := id C
  obtain ⟨hdg, rfl⟩ := h
  exact lv_astoreN hx hb hdg  hl hi hlv (fun ls hl => kk p e R s m args below meth c H locs ls cells slots n0 k0 C hl hW hS hn hk hN hK)
theorem ex_astoreQ {i : Nat} {v : Option Nat} (lv' : List (Nat × Value)) (h : ex_d M pc (.astore i) 2 pc') (hi : i < M.2.2.1) (hlv : (i, va_rf v) :: lv.filter (fun z => !(z.1 == i) && !(z.1 + 1 == i && z.2.category == 2)) = lv') (kk : ex_W g d M Po pc' lv' st S n k) : ex_W g d M Po pc lv (va_rf v :: st) S n k := by
  cases v with
  | none => exact ex_astoreN lv' h hi hlv kk
  | some x => exact ex_astore lv' h hi hlv kk
theorem ex_astore_nN {q : Fin 4} (lv' : List (Nat × Value)) (h : ex_d M pc (.astore_n q) 1 pc') (hi : (q : Nat) < M.2.2.1) (hlv : ((q : Nat), Value.null) :: lv.filter (fun z => !(z.1 == (q : Nat)) && !(z.1 + 1 == (q : Nat) && z.2.category == 2)) = lv') (kk : ex_W g d M Po pc' lv' st S n k) : ex_W g d M Po pc lv (.null :: st) S n k := by
  intro p e R s m args below meth c H locs ls cells slots n0 k0 C hl hW hS hn hk hN hK
  obtain ⟨⟨hx, hb, hml, hrt, hlocks⟩, ⟨hown, hnm, htab⟩, ⟨hKU, hKH, hbs, hst⟩, hfr, hlo, hrc, hrs, hn0, hk0⟩ := id C
  obtain ⟨hdg, rfl⟩ := h
  exact lv_astore_nN hx hb hdg rfl hl hi hlv (fun ls hl => kk p e R s m args below meth c H locs ls cells slots n0 k0 C hl hW hS hn hk hN hK)
theorem ex_astore_nQ {q : Fin 4} {v : Option Nat} (lv' : List (Nat × Value)) (h : ex_d M pc (.astore_n q) 1 pc') (hi : (q : Nat) < M.2.2.1) (hlv : ((q : Nat), va_rf v) :: lv.filter (fun z => !(z.1 == (q : Nat)) && !(z.1 + 1 == (q : Nat) && z.2.category == 2)) = lv') (kk : ex_W g d M Po pc' lv' st S n k) : ex_W g d M Po pc lv (va_rf v :: st) S n k := by
  cases v with
  | none => exact ex_astore_nN lv' h hi hlv kk
  | some x => exact ex_astore_n lv' h hi hlv kk
theorem ex_iinc {i : Nat} {q : Int} {x v : Int32} (j : Nat) (lv' : List (Nat × Value)) (h : ex_d M pc (.iinc i q) 3 pc') (hj : lv[j]? = some (i, .int x)) (hv : x + Int32.ofInt q = v) (hi : i < M.2.2.1) (hlv : (i, Value.int v) :: lv.filter (fun z => !(z.1 == i) && !(z.1 + 1 == i && z.2.category == 2)) = lv') (kk : ex_W g d M Po pc' lv' st S n k) : ex_W g d M Po pc lv st S n k := by
  intro p e R s m args below meth c H locs ls cells slots n0 k0 C hl hW hS hn hk hN hK
  obtain ⟨⟨hx, hb, hml, hrt, hlocks⟩, ⟨hown, hnm, htab⟩, ⟨hKU, hKH, hbs, hst⟩, hfr, hlo, hrc, hrs, hn0, hk0⟩ := id C
  obtain ⟨hdg, rfl⟩ := h
  exact lv_iinc hx hb hdg hl hj hv hi hlv (fun ls hl => kk p e R s m args below meth c H locs ls cells slots n0 k0 C hl hW hS hn hk hN hK)
theorem ex_if_eq {x : Int32} {off : Int} {tgt : Nat} (h : ex_d M pc (.ifCond .eq off) 3 pc') (ht : (pc : Int) + off = (tgt : Int)) (kt : x = 0 → ex_W g d M Po tgt lv st S n k) (kf : ¬ x = 0 → ex_W g d M Po pc' lv st S n k) : ex_W g d M Po pc lv (.int x :: st) S n k := by
  intro p e R s m args below meth c H locs ls cells slots n0 k0 C hl hW hS hn hk hN hK
  obtain ⟨⟨hx, hb, hml, hrt, hlocks⟩, ⟨hown, hnm, htab⟩, ⟨hKU, hKH, hbs, hst⟩, hfr, hlo, hrc, hrs, hn0, hk0⟩ := id C
  obtain ⟨hdg, rfl⟩ := h
  exact lv_if_eq hx hb hdg ht (fun hc => kt hc p e R s m args below meth c H locs ls cells slots n0 k0 C hl hW hS hn hk hN hK) (fun hc => kf hc p e R s m args below meth c H locs ls cells slots n0 k0 C hl hW hS hn hk hN hK)
theorem ex_icmp_eq {x y : Int32} {off : Int} {tgt : Nat} (h : ex_d M pc (.if_icmp .eq off) 3 pc') (ht : (pc : Int) + off = (tgt : Int)) (kt : x = y → ex_W g d M Po tgt lv st S n k) (kf : ¬ x = y → ex_W g d M Po pc' lv st S n k) : ex_W g d M Po pc lv (.int y :: .int x :: st) S n k := by
  intro p e R s m args below meth c H locs ls cells slots n0 k0 C hl hW hS hn hk hN hK
  obtain ⟨⟨hx, hb, hml, hrt, hlocks⟩, ⟨hown, hnm, htab⟩, ⟨hKU, hKH, hbs, hst⟩, hfr, hlo, hrc, hrs, hn0, hk0⟩ := id C
  obtain ⟨hdg, rfl⟩ := h
  exact lv_icmp_eq hx hb hdg ht (fun hc => kt hc p e R s m args below meth c H locs ls cells slots n0 k0 C hl hW hS hn hk hN hK) (fun hc => kf hc p e R s m args below meth c H locs ls cells slots n0 k0 C hl hW hS hn hk hN hK)
theorem ex_if_ne {x : Int32} {off : Int} {tgt : Nat} (h : ex_d M pc (.ifCond .ne off) 3 pc') (ht : (pc : Int) + off = (tgt : Int)) (kt : ¬ x = 0 → ex_W g d M Po tgt lv st S n k) (kf : x = 0 → ex_W g d M Po pc' lv st S n k) : ex_W g d M Po pc lv (.int x :: st) S n k := by
  intro p e R s m args below meth c H locs ls cells slots n0 k0 C hl hW hS hn hk hN hK
  obtain ⟨⟨hx, hb, hml, hrt, hlocks⟩, ⟨hown, hnm, htab⟩, ⟨hKU, hKH, hbs, hst⟩, hfr, hlo, hrc, hrs, hn0, hk0⟩ := id C
  obtain ⟨hdg, rfl⟩ := h
  exact lv_if_ne hx hb hdg ht (fun hc => kt hc p e R s m args below meth c H locs ls cells slots n0 k0 C hl hW hS hn hk hN hK) (fun hc => kf hc p e R s m args below meth c H locs ls cells slots n0 k0 C hl hW hS hn hk hN hK)
theorem ex_icmp_ne {x y : Int32} {off : Int} {tgt : Nat} (h : ex_d M pc (.if_icmp .ne off) 3 pc') (ht : (pc : Int) + off = (tgt : Int)) (kt : ¬ x = y → ex_W g d M Po tgt lv st S n k) (kf : x = y → ex_W g d M Po pc' lv st S n k) : ex_W g d M Po pc lv (.int y :: .int x :: st) S n k := by
  intro p e R s m args below meth c H locs ls cells slots n0 k0 C hl hW hS hn hk hN hK
  obtain ⟨⟨hx, hb, hml, hrt, hlocks⟩, ⟨hown, hnm, htab⟩, ⟨hKU, hKH, hbs, hst⟩, hfr, hlo, hrc, hrs, hn0, hk0⟩ := id C
  obtain ⟨hdg, rfl⟩ := h
  exact lv_icmp_ne hx hb hdg ht (fun hc => kt hc p e R s m args below meth c H locs ls cells slots n0 k0 C hl hW hS hn hk hN hK) (fun hc => kf hc p e R s m args below meth c H locs ls cells slots n0 k0 C hl hW hS hn hk hN hK)
theorem ex_if_lt {x : Int32} {off : Int} {tgt : Nat} (h : ex_d M pc (.ifCond .lt off) 3 pc') (ht : (pc : Int) + off = (tgt : Int)) (kt : x < 0 → ex_W g d M Po tgt lv st S n k) (kf : ¬ x < 0 → ex_W g d M Po pc' lv st S n k) : ex_W g d M Po pc lv (.int x :: st) S n k := by
  intro p e R s m args below meth c H locs ls cells slots n0 k0 C hl hW hS hn hk hN hK
  obtain ⟨⟨hx, hb, hml, hrt, hlocks⟩, ⟨hown, hnm, htab⟩, ⟨hKU, hKH, hbs, hst⟩, hfr, hlo, hrc, hrs, hn0, hk0⟩ := id C
  obtain ⟨hdg, rfl⟩ := h
  exact lv_if_lt hx hb hdg ht (fun hc => kt hc p e R s m args below meth c H locs ls cells slots n0 k0 C hl hW hS hn hk hN hK) (fun hc => kf hc p e R s m args below meth c H locs ls cells slots n0 k0 C hl hW hS hn hk hN hK)
theorem ex_icmp_lt {x y : Int32} {off : Int} {tgt : Nat} (h : ex_d M pc (.if_icmp .lt off) 3 pc') (ht : (pc : Int) + off = (tgt : Int)) (kt : x < y → ex_W g d M Po tgt lv st S n k) (kf : ¬ x < y → ex_W g d M Po pc' lv st S n k) : ex_W g d M Po pc lv (.int y :: .int x :: st) S n k := by
  intro p e R s m args below meth c H locs ls cells slots n0 k0 C hl hW hS hn hk hN hK
  obtain ⟨⟨hx, hb, hml, hrt, hlocks⟩, ⟨hown, hnm, htab⟩, ⟨hKU, hKH, hbs, hst⟩, hfr, hlo, hrc, hrs, hn0, hk0⟩ := id C
  obtain ⟨hdg, rfl⟩ := h
  exact lv_icmp_lt hx hb hdg ht (fun hc => kt hc p e R s m args below meth c H locs ls cells slots n0 k0 C hl hW hS hn hk hN hK) (fun hc => kf hc p e R s m args below meth c H locs ls cells slots n0 k0 C hl hW hS hn hk hN hK)
theorem ex_if_ge {x : Int32} {off : Int} {tgt : Nat} (h : ex_d M pc (.ifCond .ge off) 3 pc') (ht : (pc : Int) + off = (tgt : Int)) (kt : 0 ≤ x → ex_W g d M Po tgt lv st S n k) (kf : ¬ 0 ≤ x → ex_W g d M Po pc' lv st S n k) : ex_W g d M Po pc lv (.int x :: st) S n k := by
  intro p e R s m args below meth c H locs ls cells slots n0 k0 C hl hW hS hn hk hN hK
  obtain ⟨⟨hx, hb, hml, hrt, hlocks⟩, ⟨hown, hnm, htab⟩, ⟨hKU, hKH, hbs, hst⟩, hfr, hlo, hrc, hrs, hn0, hk0⟩ := id C
  obtain ⟨hdg, rfl⟩ := h
  exact lv_if_ge hx hb hdg ht (fun hc => kt hc p e R s m args below meth c H locs ls cells slots n0 k0 C hl hW hS hn hk hN hK) (fun hc => kf hc p e R s m args below meth c H locs ls cells slots n0 k0 C hl hW hS hn hk hN hK)
theorem ex_icmp_ge {x y : Int32} {off : Int} {tgt : Nat} (h : ex_d M pc (.if_icmp .ge off) 3 pc') (ht : (pc : Int) + off = (tgt : Int)) (kt : y ≤ x → ex_W g d M Po tgt lv st S n k) (kf : ¬ y ≤ x → ex_W g d M Po pc' lv st S n k) : ex_W g d M Po pc lv (.int y :: .int x :: st) S n k := by
  intro p e R s m args below meth c H locs ls cells slots n0 k0 C hl hW hS hn hk hN hK
  obtain ⟨⟨hx, hb, hml, hrt, hlocks⟩, ⟨hown, hnm, htab⟩, ⟨hKU, hKH, hbs, hst⟩, hfr, hlo, hrc, hrs, hn0, hk0⟩ := id C
  obtain ⟨hdg, rfl⟩ := h
  exact lv_icmp_ge hx hb hdg ht (fun hc => kt hc p e R s m args below meth c H locs ls cells slots n0 k0 C hl hW hS hn hk hN hK) (fun hc => kf hc p e R s m args below meth c H locs ls cells slots n0 k0 C hl hW hS hn hk hN hK)
theorem ex_if_gt {x : Int32} {off : Int} {tgt : Nat} (h : ex_d M pc (.ifCond .gt off) 3 pc') (ht : (pc : Int) + off = (tgt : Int)) (kt : 0 < x → ex_W g d M Po tgt lv st S n k) (kf : ¬ 0 < x → ex_W g d M Po pc' lv st S n k) : ex_W g d M Po pc lv (.int x :: st) S n k := by
  intro p e R s m args below meth c H locs ls cells slots n0 k0 C hl hW hS hn hk hN hK
  obtain ⟨⟨hx, hb, hml, hrt, hlocks⟩, ⟨hown, hnm, htab⟩, ⟨hKU, hKH, hbs, hst⟩, hfr, hlo, hrc, hrs, hn0, hk0⟩ := id C
  obtain ⟨hdg, rfl⟩ := h
  exact lv_if_gt hx hb hdg ht (fun hc => kt hc p e R s m args below meth c H locs ls cells slots n0 k0 C hl hW hS hn hk hN hK) (fun hc => kf hc p e R s m args below meth c H locs ls cells slots n0 k0 C hl hW hS hn hk hN hK)
theorem ex_icmp_gt {x y : Int32} {off : Int} {tgt : Nat} (h : ex_d M pc (.if_icmp .gt off) 3 pc') (ht : (pc : Int) + off = (tgt : Int)) (kt : y < x → ex_W g d M Po tgt lv st S n k) (kf : ¬ y < x → ex_W g d M Po pc' lv st S n k) : ex_W g d M Po pc lv (.int y :: .int x :: st) S n k := by
  intro p e R s m args below meth c H locs ls cells slots n0 k0 C hl hW hS hn hk hN hK
  obtain ⟨⟨hx, hb, hml, hrt, hlocks⟩, ⟨hown, hnm, htab⟩, ⟨hKU, hKH, hbs, hst⟩, hfr, hlo, hrc, hrs, hn0, hk0⟩ := id C
  obtain ⟨hdg, rfl⟩ := h
  exact lv_icmp_gt hx hb hdg ht (fun hc => kt hc p e R s m args below meth c H locs ls cells slots n0 k0 C hl hW hS hn hk hN hK) (fun hc => kf hc p e R s m args below meth c H locs ls cells slots n0 k0 C hl hW hS hn hk hN hK)
theorem ex_if_le {x : Int32} {off : Int} {tgt : Nat} (h : ex_d M pc (.ifCond .le off) 3 pc') (ht : (pc : Int) + off = (tgt : Int)) (kt : x ≤ 0 → ex_W g d M Po tgt lv st S n k) (kf : ¬ x ≤ 0 → ex_W g d M Po pc' lv st S n k) : ex_W g d M Po pc lv (.int x :: st) S n k := by
  intro p e R s m args below meth c H locs ls cells slots n0 k0 C hl hW hS hn hk hN hK
  obtain ⟨⟨hx, hb, hml, hrt, hlocks⟩, ⟨hown, hnm, htab⟩, ⟨hKU, hKH, hbs, hst⟩, hfr, hlo, hrc, hrs, hn0, hk0⟩ := id C
  obtain ⟨hdg, rfl⟩ := h
  exact lv_if_le hx hb hdg ht (fun hc => kt hc p e R s m args below meth c H locs ls cells slots n0 k0 C hl hW hS hn hk hN hK) (fun hc => kf hc p e R s m args below meth c H locs ls cells slots n0 k0 C hl hW hS hn hk hN hK)
theorem ex_icmp_le {x y : Int32} {off : Int} {tgt : Nat} (h : ex_d M pc (.if_icmp .le off) 3 pc') (ht : (pc : Int) + off = (tgt : Int)) (kt : x ≤ y → ex_W g d M Po tgt lv st S n k) (kf : ¬ x ≤ y → ex_W g d M Po pc' lv st S n k) : ex_W g d M Po pc lv (.int y :: .int x :: st) S n k := by
  intro p e R s m args below meth c H locs ls cells slots n0 k0 C hl hW hS hn hk hN hK
  obtain ⟨⟨hx, hb, hml, hrt, hlocks⟩, ⟨hown, hnm, htab⟩, ⟨hKU, hKH, hbs, hst⟩, hfr, hlo, hrc, hrs, hn0, hk0⟩ := id C
  obtain ⟨hdg, rfl⟩ := h
  exact lv_icmp_le hx hb hdg ht (fun hc => kt hc p e R s m args below meth c H locs ls cells slots n0 k0 C hl hW hS hn hk hN hK) (fun hc => kf hc p e R s m args below meth c H locs ls cells slots n0 k0 C hl hW hS hn hk hN hK)
theorem ex_acmp_eq {rx ry : Option Nat} {off : Int} {tgt : Nat} (h : ex_d M pc (.if_acmp .eq off) 3 pc') (ht : (pc : Int) + off = (tgt : Int)) (kt : rx = ry → ex_W g d M Po tgt lv st S n k) (kf : ¬ rx = ry → ex_W g d M Po pc' lv st S n k) : ex_W g d M Po pc lv (va_rf ry :: va_rf rx :: st) S n k := by
  intro p e R s m args below meth c H locs ls cells slots n0 k0 C hl hW hS hn hk hN hK
  obtain ⟨⟨hx, hb, hml, hrt, hlocks⟩, ⟨hown, hnm, htab⟩, ⟨hKU, hKH, hbs, hst⟩, hfr, hlo, hrc, hrs, hn0, hk0⟩ := id C
  obtain ⟨hdg, rfl⟩ := h
  exact lv_acmp_eq hx hb hdg ht (fun hc => kt hc p e R s m args below meth c H locs ls cells slots n0 k0 C hl hW hS hn hk hN hK) (fun hc => kf hc p e R s m args below meth c H locs ls cells slots n0 k0 C hl hW hS hn hk hN hK)
theorem ex_acmp_ne {rx ry : Option Nat} {off : Int} {tgt : Nat} (h : ex_d M pc (.if_acmp .ne off) 3 pc') (ht : (pc : Int) + off = (tgt : Int)) (kt : ¬ rx = ry → ex_W g d M Po tgt lv st S n k) (kf : rx = ry → ex_W g d M Po pc' lv st S n k) : ex_W g d M Po pc lv (va_rf ry :: va_rf rx :: st) S n k := by
  intro p e R s m args below meth c H locs ls cells slots n0 k0 C hl hW hS hn hk hN hK
  obtain ⟨⟨hx, hb, hml, hrt, hlocks⟩, ⟨hown, hnm, htab⟩, ⟨hKU, hKH, hbs, hst⟩, hfr, hlo, hrc, hrs, hn0, hk0⟩ := id C
  obtain ⟨hdg, rfl⟩ := h
  exact lv_acmp_ne hx hb hdg ht (fun hc => kt hc p e R s m args below meth c H locs ls cells slots n0 k0 C hl hW hS hn hk hN hK) (fun hc => kf hc p e R s m args below meth c H locs ls cells slots n0 k0 C hl hW hS hn hk hN hK)
theorem ex_goto {off : Int} {tgt : Nat} (h : ex_d M pc (.goto off) 3 pc') (ht : (pc : Int) + off = (tgt : Int)) (kk : ex_W g d M Po tgt lv st S n k) : ex_W g d M Po pc lv st S n k := by
  intro p e R s m args below meth c H locs ls cells slots n0 k0 C hl hW hS hn hk hN hK
  obtain ⟨⟨hx, hb, hml, hrt, hlocks⟩, ⟨hown, hnm, htab⟩, ⟨hKU, hKH, hbs, hst⟩, hfr, hlo, hrc, hrs, hn0, hk0⟩ := id C
  obtain ⟨hdg, rfl⟩ := h
  exact lv_goto hx hb hdg ht (kk p e R s m args below meth c H locs ls cells slots n0 k0 C hl hW hS hn hk hN hK)
theorem ex_ifnull {x : Nat} {off : Int} (h : ex_d M pc (.ifnull off) 3 pc') (kk : ex_W g d M Po pc' lv st S n k) : ex_W g d M Po pc lv (.ref x :: st) S n k := by
  intro p e R s m args below meth c H locs ls cells slots n0 k0 C hl hW hS hn hk hN hK
  obtain ⟨⟨hx, hb, hml, hrt, hlocks⟩, ⟨hown, hnm, htab⟩, ⟨hKU, hKH, hbs, hst⟩, hfr, hlo, hrc, hrs, hn0, hk0⟩ := id C
  obtain ⟨hdg, rfl⟩ := h
  exact lv_ifnull hx hb hdg (kk p e R s m args below meth c H locs ls cells slots n0 k0 C hl hW hS hn hk hN hK)
theorem ex_ifnullN {off : Int} {tgt : Nat} (h : ex_d M pc (.ifnull off) 3 pc') (ht : (pc : Int) + off = (tgt : Int)) (kk : ex_W g d M Po tgt lv st S n k) : ex_W g d M Po pc lv (.null :: st) S n k := by
  intro p e R s m args below meth c H locs ls cells slots n0 k0 C hl hW hS hn hk hN hK
  obtain ⟨⟨hx, hb, hml, hrt, hlocks⟩, ⟨hown, hnm, htab⟩, ⟨hKU, hKH, hbs, hst⟩, hfr, hlo, hrc, hrs, hn0, hk0⟩ := id C
  obtain ⟨hdg, rfl⟩ := h
  exact lv_ifnullN hx hb hdg ht (kk p e R s m args below meth c H locs ls cells slots n0 k0 C hl hW hS hn hk hN hK)
theorem ex_ifnonnull {x : Nat} {off : Int} {tgt : Nat} (h : ex_d M pc (.ifnonnull off) 3 pc') (ht : (pc : Int) + off = (tgt : Int)) (kk : ex_W g d M Po tgt lv st S n k) : ex_W g d M Po pc lv (.ref x :: st) S n k := by
  intro p e R s m args below meth c H locs ls cells slots n0 k0 C hl hW hS hn hk hN hK
  obtain ⟨⟨hx, hb, hml, hrt, hlocks⟩, ⟨hown, hnm, htab⟩, ⟨hKU, hKH, hbs, hst⟩, hfr, hlo, hrc, hrs, hn0, hk0⟩ := id C
  obtain ⟨hdg, rfl⟩ := h
  exact lv_ifnonnull hx hb hdg ht (kk p e R s m args below meth c H locs ls cells slots n0 k0 C hl hW hS hn hk hN hK)
theorem ex_ifnonnullN {off : Int} (h : ex_d M pc (.ifnonnull off) 3 pc') (kk : ex_W g d M Po pc' lv st S n k) : ex_W g d M Po pc lv (.null :: st) S n k := by
  intro p e R s m args below meth c H locs ls cells slots n0 k0 C hl hW hS hn hk hN hK
  obtain ⟨⟨hx, hb, hml, hrt, hlocks⟩, ⟨hown, hnm, htab⟩, ⟨hKU, hKH, hbs, hst⟩, hfr, hlo, hrc, hrs, hn0, hk0⟩ := id C
  obtain ⟨hdg, rfl⟩ := h
  exact lv_ifnonnullN hx hb hdg (kk p e R s m args below meth c H locs ls cells slots n0 k0 C hl hW hS hn hk hN hK)
theorem ex_tableIn {dflt lo hi : Int} {offs : Array Int} {len : Nat} {x : Int32} {off : Int} {tgt : Nat} (h : ex_d M pc (.tableswitch dflt lo hi offs) len pc') (h1 : ¬ x.toInt < lo) (h2 : ¬ hi < x.toInt) (ho : offs[(x.toInt - lo).toNat]? = some off) (ht : (pc : Int) + off = (tgt : Int)) (kk : ex_W g d M Po tgt lv st S n k) : ex_W g d M Po pc lv (.int x :: st) S n k := by
  intro p e R s m args below meth c H locs ls cells slots n0 k0 C hl hW hS hn hk hN hK
  obtain ⟨⟨hx, hb, hml, hrt, hlocks⟩, ⟨hown, hnm, htab⟩, ⟨hKU, hKH, hbs, hst⟩, hfr, hlo, hrc, hrs, hn0, hk0⟩ := id C
  obtain ⟨hdg, rfl⟩ := h
  exact lv_tableIn hx hb hdg h1 h2 ho ht (kk p e R s m args below meth c H locs ls cells slots n0 k0 C hl hW hS hn hk hN hK)
theorem ex_tableOut {dflt lo hi : Int} {offs : Array Int} {len : Nat} {x : Int32} {tgt : Nat} (h : ex_d M pc (.tableswitch dflt lo hi offs) len pc') (h1 : x.toInt < lo ∨ hi < x.toInt) (ht : (pc : Int) + dflt = (tgt : Int)) (kk : ex_W g d M Po tgt lv st S n k) : ex_W g d M Po pc lv (.int x :: st) S n k := by
  intro p e R s m args below meth c H locs ls cells slots n0 k0 C hl hW hS hn hk hN hK
  obtain ⟨⟨hx, hb, hml, hrt, hlocks⟩, ⟨hown, hnm, htab⟩, ⟨hKU, hKH, hbs, hst⟩, hfr, hlo, hrc, hrs, hn0, hk0⟩ := id C
  obtain ⟨hdg, rfl⟩ := h
  exact lv_tableOut hx hb hdg h1 ht (kk p e R s m args below meth c H locs ls cells slots n0 k0 C hl hW hS hn hk hN hK)
theorem ex_ldc {i : Nat} {v : Int32} (h : ex_d M pc (.ldc i) 2 pc') (hw : Cond.constant M.1.cls i v ∈ ex_TB) (kk : ex_W g d M Po pc' lv (.int v :: st) S n k) : ex_W g d M Po pc lv st S n k := by
  intro p e R s m args below meth c H locs ls cells slots n0 k0 C hl hW hS hn hk hN hK
  obtain ⟨⟨hx, hb, hml, hrt, hlocks⟩, ⟨hown, hnm, htab⟩, ⟨hKU, hKH, hbs, hst⟩, hfr, hlo, hrc, hrs, hn0, hk0⟩ := id C
  obtain ⟨hdg, rfl⟩ := h
  exact lv_ldc hx hb hown (ex_w hKU hw args) hdg (kk p e R s m args below meth c H locs ls cells slots n0 k0 C hl hW hS hn hk hN hK)
theorem ex_ldcw {i : Nat} {v : Int32} (h : ex_d M pc (.ldc_w i) 3 pc') (hw : Cond.constant M.1.cls i v ∈ ex_TB) (kk : ex_W g d M Po pc' lv (.int v :: st) S n k) : ex_W g d M Po pc lv st S n k := by
  intro p e R s m args below meth c H locs ls cells slots n0 k0 C hl hW hS hn hk hN hK
  obtain ⟨⟨hx, hb, hml, hrt, hlocks⟩, ⟨hown, hnm, htab⟩, ⟨hKU, hKH, hbs, hst⟩, hfr, hlo, hrc, hrs, hn0, hk0⟩ := id C
  obtain ⟨hdg, rfl⟩ := h
  exact lv_ldcw hx hb hown (ex_w hKU hw args) hdg (kk p e R s m args below meth c H locs ls cells slots n0 k0 C hl hW hS hn hk hN hK)
theorem ex_ldc2 {i : Nat} {v : Int64} (h : ex_d M pc (.ldc2_w i) 3 pc') (hw : Cond.constantLong M.1.cls i v ∈ ex_TB) (kk : ex_W g d M Po pc' lv (.long v :: st) S n k) : ex_W g d M Po pc lv st S n k := by
  intro p e R s m args below meth c H locs ls cells slots n0 k0 C hl hW hS hn hk hN hK
  obtain ⟨⟨hx, hb, hml, hrt, hlocks⟩, ⟨hown, hnm, htab⟩, ⟨hKU, hKH, hbs, hst⟩, hfr, hlo, hrc, hrs, hn0, hk0⟩ := id C
  obtain ⟨hdg, rfl⟩ := h
  exact lv_ldc2 hx hb hown (ex_w hKU hw args) hdg (kk p e R s m args below meth c H locs ls cells slots n0 k0 C hl hW hS hn hk hN hK)
end EXR2
