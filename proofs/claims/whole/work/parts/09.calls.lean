/-! calls: what a contract gives at a call -/
def ex_PoB (g : gl_T) (Po : ex_R) (n k : Nat) : Pt → Array Value → Option Value → Pt → Prop := fun A _ v B =>
  ∃ (S' : hs_T) (kc ks : Nat) (L : List Loc), Po (.inl v) S' (n + kc) (k + ks) ∧ kc ≤ ex_NM - n ∧ ks ≤ ex_KM - k ∧ ex_WD g S' B.U.heap ∧ (A.U.heap.size ≤ B.U.heap.size ∧ ∀ q : Nat, q < A.U.heap.size → ¬ ex_A g q → B.U.heap[q]? = A.U.heap[q]?) ∧ B.locs = A.locs ++ L ∧ (∀ q ∈ L, ex_A g q.base) ∧ B.cells = A.cells + kc ∧ B.slots = A.slots + ks
def ex_PoX (g : gl_T) (Po : ex_R) (n k : Nat) : Pt → Array Value → Addr → Pt → Prop := fun A _ q B =>
  ∃ (E : String) (ce : Cell) (S' : hs_T) (kc ks : Nat) (L : List Loc), Po (.inr E) S' (n + kc) (k + ks) ∧ kc ≤ ex_NM - n ∧ ks ≤ ex_KM - k ∧ ex_WD g S' B.U.heap ∧ (A.U.heap.size ≤ B.U.heap.size ∧ ∀ q : Nat, q < A.U.heap.size → ¬ ex_A g q → B.U.heap[q]? = A.U.heap[q]?) ∧ B.locs = A.locs ++ L ∧ (∀ q ∈ L, ex_A g q.base) ∧ B.cells = A.cells + kc ∧ B.slots = A.slots + ks ∧ B.U.heap[q]? = some ce ∧ ce.vm = .none ∧ A.U.vm.findClass E = some ce.cls
theorem ex_blind {g : gl_T} {S : hs_T} {av : List Value} : FrameBlind (ex_P g S av) := by
  intro a U f mk h
  obtain ⟨h1, h2, h3, h4, h5⟩ := h
  exact ⟨h1, h2.warm (U := U.calling f mk a) (State.WarmedH.refl U), h3.moved (U := U.calling f mk a) (Vm.Alike.refl U.vm), h4, h5⟩
section EXB
variable {g : gl_T} {R : Room} {p : Program} {e : Env} {below : List Frame} {s : State} {sargs : Array Value} {len W9 : Nat}
theorem ex_back {d n k : Nat} {M : mt_T} {av : List Value} {S : hs_T} {Po : ex_R} (hM0 : ex_M g d M av S n k Po) (hst : g.1.stackTraces = false) (hn : n ≤ ex_NM) (hk : k ≤ ex_KM) (hcw : Cond.code M.1 M.2.1 M.2.2.1 M.2.2.2 ∈ ex_TB) (hiw : Cond.initialized M.1.cls ∈ ex_TB)
    (hframes : d + 1 ≤ R.frames) (hlocals : W9 + (M.2.2.1 + 11) + 64 * d ≤ R.locals) (hKU : ex_KU g s) :
    vx_Back g.1 R p e below s sargs M.1 len W9 (PreOf R (ex_NM - n) (ex_KM - k) (ex_P g S av)) (ex_PoB g Po n k) (ex_PoX g Po n k) := by
  have hM := hM0 hst hn hk
  obtain ⟨y, bytes, maxL, ret⟩ := M
  intro m meth c A f ig mk a X hg hsize hdg hW hnm hp
  have hKA : ex_KU g A.U := hKU.warm X.warmed
  have h1 : (headSpec (ex_cw (y, bytes, maxL, ret)) (ex_rm d n k)).pre.before a A.U = true := atoms_intro fun w hw => by
    rcases List.mem_cons.mp hw with rfl | hw
    · exact ex_w hKA hcw a
    · exact ex_w hKA hw a
  have h2 : (Cond.code y bytes maxL ret).before a A.U = true := ex_w hKA hcw a
  have h3 : (Cond.initialized y.cls).before a A.U = true := ex_w hKA hiw a
  have h4 : A.cells + (headSpec (ex_cw (y, bytes, maxL, ret)) (ex_rm d n k)).room.cells ≤ R.cells := hp.1
  have h5 : A.slots + (headSpec (ex_cw (y, bytes, maxL, ret)) (ex_rm d n k)).room.slots ≤ R.slots := hp.2.1
  have hPc : ex_P g S av a (A.U.calling f mk a) := ex_blind _ _ _ _ hp.2.2
  obtain ⟨U, Ls, c0, s0⟩ := A
  dsimp only [Pt.U, Pt.locs, Pt.cells, Pt.slots] at h1 h2 h3 h4 h5 X hnm hPc ⊢
  obtain ⟨methY, cY, hmY, hcY, -, hlY, -, -, -, -⟩ := Cond.code_spec hnm h2
  obtain ⟨kY, hkY, -⟩ := className_of_methodNamed hnm
  have hinitY : kY.init = .initialized := Cond.initialized_spec (findClass_of_methodNamed hnm) hkY h3
  have h : At U f.method c below := by rw [hg]; exact X.here
  have hlocals9 : W9 + (maxL + 11) + (headSpec (ex_cw (y, bytes, maxL, ret)) (ex_rm d n k)).room.locals ≤ R.locals := hlocals
  have happ : (headSpec (ex_cw (y, bytes, maxL, ret)) (ex_rm d n k)).appliesLoose y e.platform (U.calling f mk a) = true :=
    Spec.appliesLoose_calling (g := f) h hdg hnm hkY hinitY
      (X.room_calling (g := f) (R' := (headSpec (ex_cw (y, bytes, maxL, ret)) (ex_rm d n k)).room) hsize hmY hcY hframes (by rw [hlY]; omega) h4 h5) h1
  obtain ⟨mid, hmid⟩ := h.above
  have hfr : (U.setTop f).frames = (.java f :: mid) ++ below := by rw [State.frames_setTop' f h.top, hmid]; rfl
  obtain ⟨o, s₂, hsteps, -, hend, hq⟩ := Steps.callFree hM p X.admits X.cas X.clock (acts := []) hfr happ hPc trivial
  have hq' : ex_Q g Po n k (ex_NM - n) (ex_KM - k) a (U.calling f mk a) o s₂ := hq
  rw [State.frames_setTop' f h.top] at hend
  obtain ⟨g₀, hg0⟩ := Option.isSome_iff_exists.mp h.top
  obtain ⟨r, hr⟩ := State.topJava?_eq_some.mp hg0
  have hr' : (({ U with heap := s₂.heap, slotsUsed := s₂.slotsUsed } : State).setVm s₂.vm).frames = .java g₀ :: r := hr
  obtain ⟨rr, S', mc, ms, hPo, hmc, hms, hWD, hF, hq'⟩ := hq'
  have hF' : U.heap.size ≤ s₂.heap.size ∧ ∀ q : Nat, q < U.heap.size → ¬ ex_A g q → s₂.heap[q]? = U.heap[q]? := hF
  rcases hq' with ⟨hqc, L, hfe, hL⟩ | ⟨q, rfl, E, ce, L, hx, hce, hcv, hcl, hW₂, hsm, hL⟩
  · obtain ⟨⟨v, rfl⟩, hW₂, e2, q2, q3, q4, q5, q6⟩ := id hfe
    obtain ⟨v', hv1, hv2⟩ := hqc
    cases hv2
    subst hv1
    have e3 : s₂ = ({ (U.calling f mk a).setFrames s₂.frames with heap := s₂.heap, slotsUsed := s₂.slotsUsed } : State).setVm s₂.vm := by
      have : s₂ = ({ s₂ with vm := (U.calling f mk a).vm } : State).setVm s₂.vm := rfl
      rw [e2] at this
      exact this
    obtain ⟨c₂, i₂, len₂, hc₂, hd₂, hf₂⟩ := hend
    have hW' : U.WarmedH s₂.vm := hW₂
    have hcc : c₂ = c := by
      have h1 : s₂.code? f.method = U.code? f.method := by
        rw [State.code?_eq, State.code?_eq, hW'.alike.method?]
      exact Option.some.inj (hc₂.symm.trans (h1.trans h.code))
    subst hcc
    have hlen : len₂ = len := by rw [hdg] at hd₂; cases hd₂; rfl
    subst hlen
    have hs₂ : s₂ = (({ U with heap := s₂.heap, slotsUsed := s₂.slotsUsed } : State).setVm s₂.vm).setTop { f with pc := f.pc + len₂, stack := v.toList ++ f.stack } := by
      refine e3.trans ?_
      rw [hf₂, State.calling_eq h.top, State.setFrames_setFrames, State.setTop_of_frames _ hr', hr]
      rfl
    have hsame : U.sameButNew ({ U with heap := s₂.heap, slotsUsed := s₂.slotsUsed } : State) L mc ms := by
      refine ⟨?_, q2, q3, q4, q5, q6⟩
      obtain ⟨t, ht, -⟩ := State.frames_cons hr
      show ({ U with heap := s₂.heap, slotsUsed := s₂.slotsUsed } : State) = { U.setFrames U.frames with heap := s₂.heap, slotsUsed := s₂.slotsUsed }
      rw [State.setFrames_self ht]
    subst hg
    refine Or.inl ⟨v, ⟨(({ U with heap := s₂.heap, slotsUsed := s₂.slotsUsed } : State).setVm s₂.vm), Ls ++ L, c0 + mc, s0 + ms⟩,
      ⟨X.admits, X.cas, X.clock, X.frames, X.room, X.hears, X.method, X.code, (X.here.setHeapUsed s₂.heap s₂.slotsUsed).setVm hW'.alike, X.tail, State.WarmedH.trans X.warmed hW', X.limits, X.bytes, X.same.trans (hsame.setVm s.vm)⟩,
      ⟨S', mc, ms, L, hPo, hmc, hms, hWD, hF', rfl, hL, rfl, rfl⟩, ?_⟩
    show Steps p.tables e below _ ((({ U with heap := s₂.heap, slotsUsed := s₂.slotsUsed } : State).setVm s₂.vm).setTop { f with pc := f.pc + len₂, stack := v.toList ++ f.stack })
    rw [← hs₂]
    exact hsteps
  · subst hx
    obtain ⟨e2, q2, q3, q4, q5, q6⟩ := id hsm
    have e3 : s₂ = ({ (U.calling f mk a).setFrames s₂.frames with heap := s₂.heap, slotsUsed := s₂.slotsUsed } : State).setVm s₂.vm := by
      have : s₂ = ({ s₂ with vm := (U.calling f mk a).vm } : State).setVm s₂.vm := rfl
      rw [e2] at this
      exact this
    have hf₂ : s₂.frames = .throwing q :: .java f :: U.frames.tail := hend
    have hW' : U.WarmedH s₂.vm := hW₂
    have hs₂ : s₂ = ((({ U with heap := s₂.heap, slotsUsed := s₂.slotsUsed } : State).setVm s₂.vm).setTop f).pushFrame (.throwing q) := by
      refine e3.trans ?_
      rw [hf₂, State.calling_eq h.top, State.setFrames_setFrames, State.pushFrame, State.frames_setTop _ hr', State.setTop_of_frames _ hr', State.setFrames_setFrames, hr]
      rfl
    have hsame : U.sameButNew ({ U with heap := s₂.heap, slotsUsed := s₂.slotsUsed } : State) L mc ms := by
      refine ⟨?_, q2, q3, q4, q5, q6⟩
      obtain ⟨t, ht, -⟩ := State.frames_cons hr
      show ({ U with heap := s₂.heap, slotsUsed := s₂.slotsUsed } : State) = { U.setFrames U.frames with heap := s₂.heap, slotsUsed := s₂.slotsUsed }
      rw [State.setFrames_self ht]
    subst hg
    refine Or.inr ⟨q, ⟨(({ U with heap := s₂.heap, slotsUsed := s₂.slotsUsed } : State).setVm s₂.vm), Ls ++ L, c0 + mc, s0 + ms⟩,
      ⟨X.admits, X.cas, X.clock, X.frames, X.room, X.hears, X.method, X.code, (X.here.setHeapUsed s₂.heap s₂.slotsUsed).setVm hW'.alike, X.tail, State.WarmedH.trans X.warmed hW', X.limits, X.bytes, X.same.trans (hsame.setVm s.vm)⟩,
      ⟨E, ce, S', mc, ms, L, hPo, hmc, hms, hWD, hF', rfl, hL, rfl, rfl, hce, hcv, hcl⟩, ?_⟩
    show Steps p.tables e below _ (((({ U with heap := s₂.heap, slotsUsed := s₂.slotsUsed } : State).setVm s₂.vm).setTop f).pushFrame (.throwing q))
    rw [← hs₂]
    exact hsteps
theorem ex_backN {y : MethodName} {Pre : Pt → Array Value → Prop} {Post : Pt → Array Value → Option Value → Pt → Prop} {PostX : Pt → Array Value → Addr → Pt → Prop} {l : Launch} (h : vx_Back l R p e below s sargs y len W9 Pre Post PostX) (hno : ∀ A a q B, ¬ PostX A a q B) : Back l R p e below s sargs y len W9 Pre Post := by
  intro m meth c A f ig mk a X hg hsize hdg hW hn hp
  rcases h m meth c A f ig mk a X hg hsize hdg hW hn hp with h1 | ⟨q, B, -, h2, -⟩
  · exact h1
  · exact absurd h2 (hno _ _ _ _)
end EXB
/-- what a call needs of the tables: the callee's code, its class; the link; how it is found -/
def ex_cb (M' : mt_T) (nA : Nat) : Prop := Cond.code M'.1 M'.2.1 M'.2.2.1 M'.2.2.2 ∈ ex_TB ∧ Cond.initialized M'.1.cls ∈ ex_TB ∧ (M'.1.cls ≠ "java/lang/invoke/MethodHandle" ∧ M'.1.cls ≠ "java/lang/invoke/VarHandle") ∧ ((parseMethodDescriptor M'.1.desc).map fun q => q.parameters.length) = some nA ∧ M'.2.2.1 ≤ 45
def ex_cV (own : String) (idx : Nat) (M' : mt_T) (nA : Nat) : Prop := ex_cb M' nA ∧ Cond.methodLink own idx M'.1 ∈ ex_TB ∧ Cond.instanceMethod M'.1 ∈ ex_TB ∧ Cond.selects M'.1.cls M'.1 M'.1 ∈ ex_TB
def ex_cS (own : String) (idx : Nat) (M' : mt_T) (nA : Nat) : Prop := ex_cb M' nA ∧ (Cond.methodLink own idx M'.1 ∈ ex_TB ∨ ∃ host, Cond.methodLinkNest own idx M'.1 host ∈ ex_NB) ∧ Cond.static M'.1 ∈ ex_TB
def ex_cI (own : String) (idx : Nat) (M' : mt_T) (nA : Nat) : Prop := ex_cb M' nA ∧ (Cond.methodLink own idx M'.1 ∈ ex_TB ∨ ∃ host, Cond.methodLinkNest own idx M'.1 host ∈ ex_NB) ∧ Cond.instanceMethod M'.1 ∈ ex_TB ∧ M'.1.name = "<init>" ∧ M'.2.2.2 = none
section EXC
variable {g : gl_T} {d : Nat} {M : mt_T} {Po : ex_R} {pc pc' : Nat} {lv : List (Nat × Value)} {st : List Value} {S : hs_T} {n k : Nat}
theorem ex_P_of {s U : State} {H : Heap} {locs : List Loc} {av : List Value} (hKU : ex_KU g s) (hKH : ex_KH g s s.heap) (hbs : g.2.2.2.1 ≤ s.heap.size) (hW : ex_WD g S H) (hS : va_S (ex_A g) s.heap H locs) (hU : U.heap = H) (hWU : s.WarmedH U.vm) : ex_P g S av av.toArray U :=
  ⟨rfl, hKU.warm hWU, (hKH.kept (fun a h1 h2 => by rw [hU]; exact hS.2.1 a h1 h2)).moved hWU.alike, by rw [hU]; exact hW, by rw [hU]; exact Nat.le_trans hbs hS.1⟩
theorem ex_plen {M' : mt_T} {nA : Nat} {As : List Value} (h : ((parseMethodDescriptor M'.1.desc).map fun q => q.parameters.length) = some nA) (hn : As.length = nA) : ∀ sig, parseMethodDescriptor M'.1.desc = some sig → As.length = sig.parameters.length := by
  intro sig hs
  rw [hs] at h
  rw [hn]
  exact (Option.some.inj h).symm
/-- the way on behind a call -/
theorem ex_on {H : Heap} {s : State} {A B : Pt} {locs L : List Loc} (hS : va_S (ex_A g) s.heap H locs) (hA : A.U.heap = H) (hAl : A.locs = locs) (hF : A.U.heap.size ≤ B.U.heap.size ∧ ∀ q : Nat, q < A.U.heap.size → ¬ ex_A g q → B.U.heap[q]? = A.U.heap[q]?) (hBl : B.locs = A.locs ++ L) (hL : ∀ q ∈ L, ex_A g q.base) : va_S (ex_A g) s.heap B.U.heap B.locs := by
  rw [hA] at hF
  refine ⟨Nat.le_trans hS.1 hF.1, fun q h1 h2 => (hF.2 q (Nat.lt_of_lt_of_le h1 hS.1) h2).trans (hS.2.1 q h1 h2), fun q hq => ?_⟩
  rw [hBl, hAl] at hq
  rcases List.mem_append.mp hq with h | h
  · exact hS.2.2 q h
  · exact hL q h
theorem ex_thrown {E : String} {ce : Cell} {q : Addr} {S' : hs_T} {p : Program} {e : Env} {R : Room} {s : State} {m : MethodId} {args : Array Value} {below : List Frame} {meth : Method} {c : Code} {H : Heap} {locs : List Loc} {ls : Array Slot} {cells slots n0 k0 n' k' : Nat} {pc : Nat} {rest : List Value}
    (C : ex_S g d M p R s m meth c n0 k0) (hW : ex_WD g S' H) (hS : va_S (ex_A g) s.heap H locs) (hn : n' = n0 + cells) (hk : k' = k0 + slots) (hN : n' ≤ ex_NM) (hK : k' ≤ ex_KM) (hpo : Po (.inr E) S' n' k') (hcell : H[q]? = some ce) (hv : ce.vm = .none) (hcl : s.vm.findClass E = some ce.cls) :
    vx_W p g.1 e R s m args below meth c H locs cells slots (ex_Z g Po n0 k0 R below args s) (F0 m pc ls rest) q := by
  obtain ⟨⟨hx, hb, hml, hrt, hlocks⟩, ⟨hown, hnm, htab⟩, ⟨hKU, hKH, hbs, hst⟩, hfr, hlo, hrc, hrs, hn0, hk0⟩ := id C
  have K := vx_out (p := p) (l := g.1) (e := e) (R := R) (s := s) (m := m) (args := args) (below := below) (meth := meth) (c := c) (H := H) (locs := locs) (cells := cells) (slots := slots) (free := ex_A g) (ls := ls) (rest := rest) (pc := pc) (Qc := fun _ _ _ _ => False) (XC := fun E' _ t => E' = E ∧ t.heap = H) (mc := cells) (ms := slots) (fun x hx => (htab x hx).elim) hlocks hcell hv hcl (fun t ht _ => ⟨rfl, ht⟩) hS.2.2 (Nat.le_refl _) (Nat.le_refl _)
  intro T hT X
  obtain ⟨t, a1, o, b1, b2, b3⟩ := K T hT X
  refine ⟨t, a1, o, b1, b2, ?_⟩
  rcases b3 with ⟨h, -⟩ | ⟨q', ho, E', ce', L, ⟨hE, hth⟩, h3, h4, h5, h6, h7, h8⟩
  · exact h.elim
  · refine ⟨.inr E, S', cells, slots, by rw [← hn, ← hk]; exact hpo, by rw [hrc]; omega, by rw [hrs]; omega, by rw [hth]; exact hW, hS.F hth, Or.inr ⟨q', ho, E', ce', L, by rw [hE], h3, h4, h5, h6, h7, h8⟩⟩
/-- an instance method of its own class, public or private -/
theorem ex_callV {idx nA d' b : Nat} {M' : mt_T} {Po' : ex_R} {As : List Value} {kd : Nat} {q : vw_C} (h : ex_d M pc (.invokevirtual idx) 3 pc') (hc : ex_cV M.1.cls idx M' nA) (hM' : ex_M g d' M' (.ref b :: As) S n k Po') (hL : b ∈ hs_L S) (hKb : hs_K S b = kd) (hq : hs_cl[kd]? = some q) (hqc : q.1 = M'.1.cls) (hnA : As.length = nA) (hd : d' + 1 ≤ d) (hrest : (st.map fun v => v.category).sum ≤ 8)
    (kk : ∀ v S' n' k', Po' (.inl v) S' n' k' → ex_W g d M Po pc' lv (v.toList ++ st) S' n' k') (kx : ∀ E S' n' k', Po' (.inr E) S' n' k' → Po (.inr E) S' n' k') : ex_W g d M Po pc lv (As.reverse ++ .ref b :: st) S n k := by
  intro p e R s m args below meth c H locs ls cells slots n0 k0 C hl hW hS hn hk hN hK
  obtain ⟨⟨hx, hb, hml, hrt, hlocks⟩, ⟨hown, hnm, htab⟩, ⟨hKU, hKH, hbs, hst⟩, hfr, hlo, hrc, hrs, hn0, hk0⟩ := id C
  obtain ⟨hdg, rfl⟩ := h
  obtain ⟨⟨hcode, hini, hmh, hpar, hmax⟩, hlink, hinst, hsel⟩ := hc
  have hkd : kd < 11 := (List.getElem?_eq_some_iff.mp hq).1
  have hBk := ex_back (g := g) (R := R) (p := p) (e := e) (below := below) (s := s) (sargs := args) (len := 3) (W9 := 8) hM' hst hN hK hcode hini (by omega) (by omega) hKU
  obtain ⟨j, hj⟩ := ex_cell (g := g) hL (hs_E_obj hKb hkd)
  obtain ⟨cellB, hcB, hoB, hclB⟩ := va_recv hKU.2.2.1 hW.1 hq hj
  rw [hqc] at hclB
  intro T hT X
  rcases vx_callV X hx hown (ex_w hKU hlink args) (ex_w hKU hinst args) (ex_w hKU hsel args) (ex_w hKU hcode args) hmh hBk (by rw [hT]; exact hcB) hoB hclB (g := F0 m pc ls (As.reverse ++ .ref b :: st)) rfl (hl.1.trans hml.symm) (argsL := As) (rest := st) (ex_plen hpar hnA) rfl (lv_room hrest) (by rw [hb]; exact hdg)
    (fun vm₁ hW₁ => ⟨by show cells + (ex_NM - n) ≤ R.cells; rw [hrc]; omega, by show slots + (ex_KM - k) ≤ R.slots; rw [hrs]; omega, ex_P_of hKU hKH hbs hW hS (U := T.setVm vm₁) hT hW₁⟩) with ⟨v, vm₁, B, hW₁, X', ⟨S', kc, ks, L, hPo, hkc, hks, hWD, hF, hBl, hL', hBc, hBs⟩, st1⟩ | ⟨q', vm₁, B, hW₁, X', ⟨E, ce, S', kc, ks, L, hPo, hkc, hks, hWD, hF, hBl, hL', hBc, hBs, hce, hcv, hcl⟩, st1⟩
  · have hS' := ex_on hS (A := ⟨T.setVm vm₁, locs, cells, slots⟩) hT rfl hF hBl hL'
    obtain ⟨U', l2, c2, s2⟩ := B
    dsimp only [Pt.U, Pt.locs, Pt.cells, Pt.slots] at X' hWD hS' hBc hBs st1
    subst hBc; subst hBs
    obtain ⟨t, a1, b1⟩ := kk v S' (n + kc) (k + ks) hPo p e R s m args below meth c U'.heap l2 ls (cells + kc) (slots + ks) n0 k0 C hl hWD hS' (by omega) (by omega) (by omega) (by omega) U' rfl X'
    exact ⟨t, st1 t a1, b1⟩
  · have hS' := ex_on hS (A := ⟨T.setVm vm₁, locs, cells, slots⟩) hT rfl hF hBl hL'
    obtain ⟨U', l2, c2, s2⟩ := B
    dsimp only [Pt.U, Pt.locs, Pt.cells, Pt.slots] at X' hWD hS' hBc hBs st1 hce hcl
    subst hBc; subst hBs
    obtain ⟨t, a1, b1⟩ := ex_thrown (g := g) (Po := Po) (pc := pc) (rest := st) (ls := ls) (n' := n + kc) (k' := k + ks) C hWD hS' (by omega) (by omega) (by omega) (by omega) (kx E S' (n + kc) (k + ks) hPo) hce hcv (vx_cls hW₁ hcl) U' rfl X'
    exact ⟨t, st1.trans a1, b1⟩
/-- a static method -/
theorem ex_callS {idx nA d' : Nat} {M' : mt_T} {Po' : ex_R} {As : List Value} (h : ex_d M pc (.invokestatic idx) 3 pc') (hc : ex_cS M.1.cls idx M' nA) (hM' : ex_M g d' M' As S n k Po') (hnA : As.length = nA) (hd : d' + 1 ≤ d) (hrest : (st.map fun v => v.category).sum ≤ 8) (hno : ∀ E S' n' k', ¬ Po' (.inr E) S' n' k')
    (kk : ∀ v S' n' k', Po' (.inl v) S' n' k' → ex_W g d M Po pc' lv (v.toList ++ st) S' n' k') : ex_W g d M Po pc lv (As.reverse ++ st) S n k := by
  intro p e R s m args below meth c H locs ls cells slots n0 k0 C hl hW hS hn hk hN hK
  obtain ⟨⟨hx, hb, hml, hrt, hlocks⟩, ⟨hown, hnm, htab⟩, ⟨hKU, hKH, hbs, hst⟩, hfr, hlo, hrc, hrs, hn0, hk0⟩ := id C
  obtain ⟨hdg, rfl⟩ := h
  obtain ⟨⟨hcode, hini, hmh, hpar, hmax⟩, hlink, hstat⟩ := hc
  have hBk := ex_backN (ex_back (g := g) (R := R) (p := p) (e := e) (below := below) (s := s) (sargs := args) (len := 3) (W9 := 8) hM' hst hN hK hcode hini (by omega) (by omega) hKU) (fun A a q B ⟨E, ce, S', kc, ks, L, h1, _⟩ => hno _ _ _ _ h1)
  intro T hT X
  have hpre : ∀ vm₁, s.WarmedH vm₁ → PreOf R (ex_NM - n) (ex_KM - k) (ex_P g S As) ⟨T.setVm vm₁, locs, cells, slots⟩ As.toArray := fun vm₁ hW₁ => ⟨by show cells + (ex_NM - n) ≤ R.cells; rw [hrc]; omega, by show slots + (ex_KM - k) ≤ R.slots; rw [hrs]; omega, ex_P_of hKU hKH hbs hW hS (U := T.setVm vm₁) hT hW₁⟩
  have K : ∃ (v : Option Value) (vm₁ : Vm) (B : Pt), s.WarmedH vm₁ ∧ Stand p g.1 e R s m args below meth c B.U B.locs B.cells B.slots ∧ ex_PoB g Po' n k ⟨T.setVm vm₁, locs, cells, slots⟩ As.toArray v B ∧
      ∀ target, Steps p.tables e below (B.U.setTop { F0 m pc ls (As.reverse ++ st) with pc := pc + 3, stack := v.toList ++ st }) target → Steps p.tables e below (T.setTop (F0 m pc ls (As.reverse ++ st))) target := by
    rcases hlink with hlink | ⟨host, hlink⟩
    · exact callS X hx hown (ex_w hKU hlink args) (ex_w hKU hstat args) (ex_w hKU hini args) (ex_w hKU hcode args) hmh hBk (g := F0 m pc ls (As.reverse ++ st)) rfl (hl.1.trans hml.symm) (argsL := As) (rest := st) (ex_plen hpar hnA) rfl (lv_room hrest) (by rw [hb]; exact hdg) hpre
    · exact va_callSN X hx hown (va_Nw.use (by rfl) (hKU.2.1 _ hlink)) (ex_w hKU hstat args) (ex_w hKU hini args) (ex_w hKU hcode args) hmh hBk (g := F0 m pc ls (As.reverse ++ st)) rfl (hl.1.trans hml.symm) (argsL := As) (rest := st) (ex_plen hpar hnA) rfl (lv_room hrest) (by rw [hb]; exact hdg) hpre
  obtain ⟨v, vm₁, B, hW₁, X', ⟨S', kc, ks, L, hPo, hkc, hks, hWD, hF, hBl, hL', hBc, hBs⟩, st1⟩ := K
  have hS' := ex_on hS (A := ⟨T.setVm vm₁, locs, cells, slots⟩) hT rfl hF hBl hL'
  obtain ⟨U', l2, c2, s2⟩ := B
  dsimp only [Pt.U, Pt.locs, Pt.cells, Pt.slots] at X' hWD hS' hBc hBs st1
  subst hBc; subst hBs
  obtain ⟨t, a1, b1⟩ := kk v S' (n + kc) (k + ks) hPo p e R s m args below meth c U'.heap l2 ls (cells + kc) (slots + ks) n0 k0 C hl hWD hS' (by omega) (by omega) (by omega) (by omega) U' rfl X'
  exact ⟨t, st1 t a1, b1⟩
/-- a constructor -/
theorem ex_callI {idx nA d' b : Nat} {M' : mt_T} {Po' : ex_R} {As : List Value} (h : ex_d M pc (.invokespecial idx) 3 pc') (hc : ex_cI M.1.cls idx M' nA) (hM' : ex_M g d' M' (.ref b :: As) S n k Po') (hnA : As.length = nA) (hd : d' + 1 ≤ d) (hrest : (st.map fun v => v.category).sum ≤ 8) (hno : ∀ E S' n' k', ¬ Po' (.inr E) S' n' k')
    (kk : ∀ v S' n' k', Po' (.inl v) S' n' k' → ex_W g d M Po pc' lv (v.toList ++ st) S' n' k') : ex_W g d M Po pc lv (As.reverse ++ .ref b :: st) S n k := by
  intro p e R s m args below meth c H locs ls cells slots n0 k0 C hl hW hS hn hk hN hK
  obtain ⟨⟨hx, hb, hml, hrt, hlocks⟩, ⟨hown, hnm, htab⟩, ⟨hKU, hKH, hbs, hst⟩, hfr, hlo, hrc, hrs, hn0, hk0⟩ := id C
  obtain ⟨hdg, rfl⟩ := h
  obtain ⟨⟨hcode, hini, hmh, hpar, hmax⟩, hlink, hinst, hnm2, hret⟩ := hc
  have hBk := ex_backN (ex_back (g := g) (R := R) (p := p) (e := e) (below := below) (s := s) (sargs := args) (len := 3) (W9 := 8) hM' hst hN hK hcode hini (by omega) (by omega) hKU) (fun A a q B ⟨E, ce, S', kc, ks, L, h1, _⟩ => hno _ _ _ _ h1)
  rw [hret] at hcode
  intro T hT X
  have hpre : ∀ vm₁, s.WarmedH vm₁ → PreOf R (ex_NM - n) (ex_KM - k) (ex_P g S (.ref b :: As)) ⟨T.setVm vm₁, locs, cells, slots⟩ (Value.ref b :: As).toArray := fun vm₁ hW₁ => ⟨by show cells + (ex_NM - n) ≤ R.cells; rw [hrc]; omega, by show slots + (ex_KM - k) ≤ R.slots; rw [hrs]; omega, ex_P_of hKU hKH hbs hW hS (U := T.setVm vm₁) hT hW₁⟩
  have K : ∃ (v : Option Value) (vm₁ : Vm) (B : Pt), s.WarmedH vm₁ ∧ Stand p g.1 e R s m args below meth c B.U B.locs B.cells B.slots ∧ ex_PoB g Po' n k ⟨T.setVm vm₁, locs, cells, slots⟩ (Value.ref b :: As).toArray v B ∧
      ∀ target, Steps p.tables e below (B.U.setTop { F0 m pc ls (As.reverse ++ .ref b :: st) with pc := pc + 3, stack := v.toList ++ st }) target → Steps p.tables e below (T.setTop (F0 m pc ls (As.reverse ++ .ref b :: st))) target := by
    rcases hlink with hlink | ⟨host, hlink⟩
    · exact callI X hx hown hnm2 (ex_w hKU hlink args) (ex_w hKU hinst args) (ex_w hKU hcode args) hmh hBk (g := F0 m pc ls (As.reverse ++ .ref b :: st)) rfl (hl.1.trans hml.symm) (argsL := As) (rest := st) (ex_plen hpar hnA) rfl (lv_room hrest) (by rw [hb]; exact hdg) hpre
    · exact va_callIN X hx hown hnm2 (va_Nw.use (by rfl) (hKU.2.1 _ hlink)) (ex_w hKU hinst args) (ex_w hKU hcode args) hmh hBk (g := F0 m pc ls (As.reverse ++ .ref b :: st)) rfl (hl.1.trans hml.symm) (argsL := As) (rest := st) (ex_plen hpar hnA) rfl (lv_room hrest) (by rw [hb]; exact hdg) hpre
  obtain ⟨v, vm₁, B, hW₁, X', ⟨S', kc, ks, L, hPo, hkc, hks, hWD, hF, hBl, hL', hBc, hBs⟩, st1⟩ := K
  have hS' := ex_on hS (A := ⟨T.setVm vm₁, locs, cells, slots⟩) hT rfl hF hBl hL'
  obtain ⟨U', l2, c2, s2⟩ := B
  dsimp only [Pt.U, Pt.locs, Pt.cells, Pt.slots] at X' hWD hS' hBc hBs st1
  subst hBc; subst hBs
  obtain ⟨t, a1, b1⟩ := kk v S' (n + kc) (k + ks) hPo p e R s m args below meth c U'.heap l2 ls (cells + kc) (slots + ks) n0 k0 C hl hWD hS' (by omega) (by omega) (by omega) (by omega) U' rfl X'
  exact ⟨t, st1 t a1, b1⟩
end EXC
