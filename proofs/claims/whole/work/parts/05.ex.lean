/-! a method from a place on: 'ex_W', over heaps as values; 'ex_M': its contract. What is common to all methods stands in g: launch, class numbers, slots, array classes, the first address that may change, addresses of constants -/
abbrev gl_T : Type := Launch × va_G × (Nat → ClassId) × Nat × (Nat → Nat)
abbrev mt_T : Type := MethodName × ByteArray × Nat × Option FieldType
abbrev ex_R : Type := (Option Value ⊕ String) → hs_T → Nat → Nat → Prop
def ex_NM : Nat := 601024
def ex_KM : Nat := 7293034
def ex_TB : List Cond := lw_tbl.filter goodWord
def ex_nw (w : Cond) : Bool := match w with
  | .fieldLinkNest .. => true
  | .methodLinkNest .. => true
  | .castable .. => true
  | .declares .. => true
  | _ => false
def ex_NB : List Cond := lw_tbl.filter ex_nw
def ex_A (g : gl_T) : Nat → Prop := fun q => g.2.2.2.1 ≤ q
def ex_ws (g : gl_T) (S : hs_T) : va_W := va_pl (hs_L S) (hs_E g.2.2.1 S)
def ex_ty (g : gl_T) : List (ClassId × FieldType) := [(g.2.2.1 0, .byte), (g.2.2.1 1, .int), (g.2.2.1 2, .long), (g.2.2.1 3, .boolean), (g.2.2.1 4, .object "java/lang/Object")]
/-- what holds of the tables at a state -/
def ex_KU (g : gl_T) (U : State) : Prop := (∀ w ∈ ex_TB, w.before #[] U = true) ∧ (∀ w ∈ ex_NB, va_Nw w U) ∧ va_K g.2.1 hs_cl (ex_ty g) U ∧ cs_U g.2.2.2.2 U
/-- what holds of the heap below the first address that may change -/
def ex_KH (g : gl_T) (U : State) (H : Heap) : Prop := cs_H g.2.2.2.2 (ex_A g) U H
def ex_WD (g : gl_T) (S : hs_T) (H : Heap) : Prop := va_P g.2.1 hs_cl (ex_ws g S) H ∧ va_D (ex_A g) (ex_ws g S)
theorem ex_TB_good {w : Cond} (h : w ∈ ex_TB) : goodWord w = true := (List.mem_filter.mp h).2
theorem ex_w {g : gl_T} {s : State} (hK : ex_KU g s) {w : Cond} (h : w ∈ ex_TB) (args : Array Value) : w.before args s = true := word_at (State.WarmedH.refl s) (good_of_word (ex_TB_good h)) (hK.1 w h)
theorem ex_ts {g : gl_T} {s : State} (hK : ex_KU g s) (args : Array Value) : ∀ w ∈ ex_TB, w.before args s = true := fun _ h => ex_w hK h args
theorem ex_KU.warm {g : gl_T} {s U : State} (h : ex_KU g s) (hW : s.WarmedH U.vm) : ex_KU g U := by
  obtain ⟨h1, h2, h3, h4⟩ := h
  refine ⟨fun w hw => word_at hW (good_of_word (ex_TB_good hw)) (h1 w hw), fun w hw => ?_, va_K.moved hW.alike h3, h4.warm hW⟩
  have h4 := h2 w hw
  have h5 := (List.mem_filter.mp hw).2
  unfold ex_nw at h5
  split at h5
  · exact va_Nw.warmF hW h4
  · exact va_Nw.warmM hW h4
  · exact va_Nw.warmC hW h4
  · exact va_Nw.warmD hW h4
  · cases h5
theorem ex_KH.moved {g : gl_T} {s U : State} {H : Heap} (h : ex_KH g s H) (hvm : s.vm.Alike U.vm) : ex_KH g U H := cs_H.moved h hvm
theorem ex_KH.kept {g : gl_T} {s : State} {H H1 : Heap} (h : ex_KH g s H) (hq : ∀ a : Nat, a < H.size → ¬ ex_A g a → H1[a]? = H[a]?) : ex_KH g s H1 := cs_H.kept h hq
/-- a method's start, its end -/
def ex_P (g : gl_T) (S : hs_T) (av : List Value) : Array Value → State → Prop := fun v U => v = av.toArray ∧ ex_KU g U ∧ ex_KH g U U.heap ∧ ex_WD g S U.heap ∧ g.2.2.2.1 ≤ U.heap.size
def ex_Q (g : gl_T) (Po : ex_R) (n k rc rs : Nat) : Array Value → State → Outcome → State → Prop := fun a st o t =>
  ∃ (r : Option Value ⊕ String) (S' : hs_T) (kc ks : Nat), Po r S' (n + kc) (k + ks) ∧ kc ≤ rc ∧ ks ≤ rs ∧ ex_WD g S' t.heap ∧ va_F (ex_A g) st t ∧ vx_Q (fun _ _ o _ => ∃ v, r = .inl v ∧ o = .returned v) (fun E _ _ => r = .inr E) kc ks (ex_A g) a st o t
def ex_cw (M : mt_T) : List Cond := Cond.code M.1 M.2.1 M.2.2.1 M.2.2.2 :: ex_TB
def ex_rm (d n k : Nat) : Room := { frames := d, cells := ex_NM - n, slots := ex_KM - k, locals := 64 * d }
/-- the contract of a method: at most d frames deep, from arguments av, a heap S, n cells and k slots used -/
def ex_M (g : gl_T) (d : Nat) (M : mt_T) (av : List Value) (S : hs_T) (n k : Nat) (Po : ex_R) : Prop :=
  g.1.stackTraces = false → n ≤ ex_NM → k ≤ ex_KM → MetFree g.1 M.1 (headSpec (ex_cw M) (ex_rm d n k)) (ex_P g S av) (fun _ _ _ _ _ => True) (ex_Q g Po n k (ex_NM - n) (ex_KM - k))
def ex_S (g : gl_T) (d : Nat) (M : mt_T) (p : Program) (R : Room) (s : State) (m : MethodId) (meth : Method) (c : Code) (n0 k0 : Nat) : Prop :=
  (p.tables.exec = Jvm.exec ∧ c.code = M.2.1 ∧ c.maxLocals = M.2.2.1 ∧ meth.sig.returnType = M.2.2.2 ∧ meth.locks = false) ∧
  (s.vm.findClass M.1.cls = some m.cls ∧ meth.name = M.1.name ∧ ∀ x ∈ c.exceptionTable.toList, False) ∧
  (ex_KU g s ∧ ex_KH g s s.heap ∧ g.2.2.2.1 ≤ s.heap.size ∧ g.1.stackTraces = false) ∧
  (d ≤ R.frames ∧ 64 * d ≤ R.locals ∧ R.cells = ex_NM - n0 ∧ R.slots = ex_KM - k0 ∧ n0 ≤ ex_NM ∧ k0 ≤ ex_KM)
def ex_Z (g : gl_T) (Po : ex_R) (n0 k0 : Nat) (R : Room) (below : List Frame) (a : Array Value) (s : State) : State → Prop := fun t => ∃ o, t.status = .running ∧ Ended t below o ∧ ex_Q g Po n0 k0 R.cells R.slots a s o t
/-- from this place on, with these locals (those that are known) and this stack, the method comes to an end of which Po holds -/
def ex_W (g : gl_T) (d : Nat) (M : mt_T) (Po : ex_R) (pc : Nat) (lv : List (Nat × Value)) (st : List Value) (S : hs_T) (n k : Nat) : Prop :=
  ∀ (p : Program) (e : Env) (R : Room) (s : State) (m : MethodId) (args : Array Value) (below : List Frame) (meth : Method) (c : Code) (H : Heap) (locs : List Loc) (ls : Array Slot) (cells slots n0 k0 : Nat),
    ex_S g d M p R s m meth c n0 k0 → lv_has ls M.2.2.1 lv → ex_WD g S H → va_S (ex_A g) s.heap H locs → n = n0 + cells → k = k0 + slots → n ≤ ex_NM → k ≤ ex_KM →
    W p g.1 e R s m args below meth c H locs cells slots (ex_Z g Po n0 k0 R below args s) (F0 m pc ls st)
theorem ex_Wmono {p : Program} {l : Launch} {e : Env} {R : Room} {s : State} {m : MethodId} {args : Array Value} {below : List Frame} {meth : Method} {c : Code} {H : Heap} {locs : List Loc} {cells slots : Nat} {Q Q' : State → Prop} {g : JFrame} (h : ∀ t, Q t → Q' t) (k : W p l e R s m args below meth c H locs cells slots Q g) : W p l e R s m args below meth c H locs cells slots Q' g := fun T hT X => by
  obtain ⟨t, a, b⟩ := k T hT X
  exact ⟨t, a, h t b⟩
theorem ex_lw {g : gl_T} {d : Nat} {M : mt_T} {Po Po' : ex_R} {pc : Nat} {lv : List (Nat × Value)} {st : List Value} {S : hs_T} {n k : Nat} (h : ∀ r S' n' k', Po r S' n' k' → Po' r S' n' k') (kk : ex_W g d M Po pc lv st S n k) : ex_W g d M Po' pc lv st S n k := by
  intro p e R s m args below meth c H locs ls cells slots n0 k0 C hl hW hS hn hk hN hK
  refine ex_Wmono ?_ (kk p e R s m args below meth c H locs ls cells slots n0 k0 C hl hW hS hn hk hN hK)
  rintro t ⟨o, h1, h2, r, S', kc, ks, h3, h4⟩
  exact ⟨o, h1, h2, r, S', kc, ks, h _ _ _ _ h3, h4⟩
/-- a method by its body -/
theorem ex_enter {g : gl_T} {d : Nat} {M : mt_T} {Po : ex_R} {av : List Value} {S : hs_T} {n k : Nat} (hy : plainName M.1.cls = true) (hlen : (lg_sl av).length ≤ M.2.2.1) (h : ex_W g d M Po 0 (lv_args 0 av) [] S n k) : ex_M g d M av S n k Po := by
  intro hst hn hk
  obtain ⟨y, cc, maxL, ret⟩ := M
  refine MetFree.of_bodyS (code := cc) (maxLocals := maxL) (ret := ret) hy ?_ ?_
  · intro args s m h hn
    obtain ⟨meth, c, h1, h2, h3, h4, h5, h6, -, -⟩ := Cond.code_spec hn (atoms_spec (ws := ex_cw (y, cc, maxL, ret)) h _ List.mem_cons_self)
    exact ⟨meth, c, h1, h2, h3, h4, h5, h6⟩
  · intro p e s m args below meth c s₁ B hml hP _
    have hh0 : s₁.heap = s.heap := by rw [B.state]; rfl
    have ht : ∀ x ∈ c.exceptionTable.toList, False := by
      obtain ⟨meth9, c9, h1, h2, -, -, -, -, h7, -⟩ := Cond.code_spec B.named (atoms_spec (ws := ex_cw (y, cc, maxL, ret)) B.pre _ List.mem_cons_self)
      cases Option.some.inj (h1.symm.trans B.method)
      cases Option.some.inj (h2.symm.trans (Stand.of_body B).code)
      intro x hx
      rw [Array.isEmpty_iff.mp h7] at hx
      cases hx
    obtain ⟨rfl, hKU, hKH, hWD, hbs⟩ := hP
    have C : ex_S g d (y, cc, maxL, ret) p (ex_rm d n k) s m meth c n k := ⟨⟨B.exec, B.bytes, hml, B.returns, B.notSynchronized⟩, ⟨findClass_of_methodNamed B.named, (name_of_methodNamed B.named B.method).1, ht⟩, ⟨hKU, hKH, hbs, hst⟩, ⟨Nat.le_refl _, Nat.le_refl _, rfl, rfl, hn, hk⟩⟩
    have hl := lv_entry av (n := maxL) hlen
    have K := h p e (ex_rm d n k) s m av.toArray below meth c s.heap [] _ 0 0 n k C hl hWD va_S.rf rfl rfl hn hk
    have K2 : W p g.1 e (ex_rm d n k) s m av.toArray below meth c s.heap [] 0 0 (ex_Z g Po n k (ex_rm d n k) below av.toArray s) (entryFrame m av.toArray maxL) := by
      rw [lg_entry_eq]
      exact K
    obtain ⟨t, a1, o, b1, b2, b3⟩ := K2 s₁ hh0 (Stand.of_body B)
    exact ⟨t, o, a1, b1, b2, b3⟩
/-! ends -/
theorem ex_ends {g : gl_T} {d : Nat} {M : mt_T} {Po : ex_R} {S : hs_T} {n k n0 k0 cells slots : Nat} {p : Program} {R : Room} {s : State} {m : MethodId} {args : Array Value} {below : List Frame} {meth : Method} {c : Code} {H : Heap} {locs : List Loc} {v : Option Value}
    (C : ex_S g d M p R s m meth c n0 k0) (hW : ex_WD g S H) (hS : va_S (ex_A g) s.heap H locs) (hn : n = n0 + cells) (hk : k = k0 + slots) (hN : n ≤ ex_NM) (hK : k ≤ ex_KM) (hpo : Po (.inl v) S n k) :
    ∀ t, MQ below (fun _ _ o t => o = .returned v ∧ t.heap = H) args s cells slots (ex_A g) t → ex_Z g Po n0 k0 R below args s t := by
  rintro t ⟨o, h1, h2, ⟨ho, hth⟩, L, h3, h4⟩
  obtain ⟨-, -, -, -, -, hrc, hrs, -, -⟩ := C
  refine ⟨o, h1, h2, .inl v, S, cells, slots, by rw [← hn, ← hk]; exact hpo, by rw [hrc]; omega, by rw [hrs]; omega, by rw [hth]; exact hW, hS.F hth, Or.inl ⟨⟨v, rfl, ho⟩, L, h3, h4⟩⟩
section EXR
variable {g : gl_T} {d : Nat} {M : mt_T} {Po : ex_R} {pc : Nat} {lv : List (Nat × Value)} {st : List Value} {S : hs_T} {n k : Nat}
theorem ex_iret {v : Int32} (hr : M.2.2.2 = some .int) (hdg : decode M.2.1 pc = .ok (.ireturn, 1)) (hpo : Po (.inl (some (.int v))) S n k) : ex_W g d M Po pc lv [.int v] S n k := by
  intro p e R s m args below meth c H locs ls cells slots n0 k0 C hl hW hS hn hk hN hK
  obtain ⟨⟨hx, hb, hml, hrt, hlocks⟩, -⟩ := id C
  exact ex_Wmono (ex_ends C hW hS hn hk hN hK hpo) (W.iret hx hb (hrt.trans hr) (fun t ht _ => ⟨rfl, ht⟩) hS.2.2 hdg hlocks)
theorem ex_lret {v : Int64} (hr : M.2.2.2 = some .long) (hdg : decode M.2.1 pc = .ok (.lreturn, 1)) (hpo : Po (.inl (some (.long v))) S n k) : ex_W g d M Po pc lv [.long v] S n k := by
  intro p e R s m args below meth c H locs ls cells slots n0 k0 C hl hW hS hn hk hN hK
  obtain ⟨⟨hx, hb, hml, hrt, hlocks⟩, -⟩ := id C
  exact ex_Wmono (ex_ends C hW hS hn hk hN hK hpo) (W.lret hx hb (hrt.trans hr) (fun t ht _ => ⟨rfl, ht⟩) hS.2.2 hdg hlocks)
theorem ex_vret (hr : M.2.2.2 = none) (hdg : decode M.2.1 pc = .ok (.return_, 1)) (hpo : Po (.inl none) S n k) : ex_W g d M Po pc lv [] S n k := by
  intro p e R s m args below meth c H locs ls cells slots n0 k0 C hl hW hS hn hk hN hK
  obtain ⟨⟨hx, hb, hml, hrt, hlocks⟩, -⟩ := id C
  exact ex_Wmono (ex_ends C hW hS hn hk hN hK hpo) (W.vret hx hb (hrt.trans hr) (fun t ht _ => ⟨rfl, ht⟩) hS.2.2 hdg hlocks)
theorem ex_aret {v : Option Nat} {rt : FieldType} (hr : M.2.2.2 = some rt) (hrt2 : (∃ n, rt = .object n) ∨ ∃ t, rt = .array t) (hdg : decode M.2.1 pc = .ok (.areturn, 1)) (hpo : Po (.inl (some (va_rf v))) S n k) : ex_W g d M Po pc lv [va_rf v] S n k := by
  intro p e R s m args below meth c H locs ls cells slots n0 k0 C hl hW hS hn hk hN hK
  obtain ⟨⟨hx, hb, hml, hrt, hlocks⟩, -⟩ := id C
  exact ex_Wmono (ex_ends C hW hS hn hk hN hK hpo) (W.aret hx hb (hrt.trans hr) hrt2 (by cases v <;> simp [va_rf]) (fun t ht _ => ⟨rfl, ht⟩) hS.2.2 hdg hlocks)
end EXR
