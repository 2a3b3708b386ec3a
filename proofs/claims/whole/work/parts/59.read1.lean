/-! the class' reader: tokens -/
def le (b : Nat → Nat) (N : Nat) (a : Nat) : Nat := if a < N ∧ sml (b a) then le b N (a + 1) else a
termination_by N - a
theorem le_stop {b : Nat → Nat} {N a : Nat} (h : ¬ (a < N ∧ sml (b a))) : le b N a = a := by rw [le, if_neg h]
theorem le_go {b : Nat → Nat} {N a : Nat} (h : a < N ∧ sml (b a)) : le b N a = le b N (a + 1) := by rw [le, if_pos h]
theorem le_all {b : Nat → Nat} {N : Nat} : ∀ t a, N < a + t → a ≤ le b N a ∧ (a ≤ N → le b N a ≤ N) ∧ ¬ (le b N a < N ∧ sml (b (le b N a))) := by
  intro t
  induction t with
  | zero =>
    intro a h
    rw [le_stop (by omega)]
    exact ⟨Nat.le_refl _, fun z => z, by omega⟩
  | succ t ih =>
    intro a h
    by_cases q : a < N ∧ sml (b a)
    · rw [le_go q]
      have := ih (a + 1) (by omega)
      exact ⟨by omega, fun _ => this.2.1 (by omega), this.2.2⟩
    · rw [le_stop q]
      exact ⟨Nat.le_refl _, fun z => z, q⟩
theorem le_ge (b : Nat → Nat) (N a : Nat) : a ≤ le b N a := (le_all (N + 1) a (by omega)).1
theorem le_le (b : Nat → Nat) {N a : Nat} (h : a ≤ N) : le b N a ≤ N := (le_all (N + 1) a (by omega)).2.1 h
theorem le_end (b : Nat → Nat) (N a : Nat) : ¬ (le b N a < N ∧ sml (b (le b N a))) := (le_all (N + 1) a (by omega)).2.2
def tk (b : Nat → Nat) (N a : Nat) : Nat := if le b N a = a ∧ a < N then a + 1 else le b N a
theorem tk_ge (b : Nat → Nat) (N a : Nat) : a ≤ tk b N a := by unfold tk; have := le_ge b N a; split <;> omega
theorem tk_le (b : Nat → Nat) {N a : Nat} (h : a ≤ N) : tk b N a ≤ N := by unfold tk; have := le_le b h; split <;> omega
def mtb (b : Nat → Nat) : Nat → List Nat → Bool
  | _, [] => true
  | a, c :: w => decide (b a = c) && mtb b (a + 1) w
abbrev mt (b : Nat → Nat) (a : Nat) (w : List Nat) : Prop := mtb b a w = true
theorem mt_nil (b : Nat → Nat) (a : Nat) : mt b a [] ↔ True := by simp [mt, mtb]
theorem mt_cons (b : Nat → Nat) (a c : Nat) (w : List Nat) : mt b a (c :: w) ↔ b a = c ∧ mt b (a + 1) w := by simp [mt, mtb]
theorem wd_mt (b : Nat → Nat) : ∀ (w : List Nat) (a : Nat), wd b a w ↔ mt b a w ∧ ¬ sml (b (a + w.length))
  | [], a => by simp only [wd_nil, mt_nil, List.length_nil, Nat.add_zero, true_and]
  | c :: w, a => by
    rw [wd_cons, mt_cons, wd_mt b w (a + 1), show a + (c :: w).length = a + 1 + w.length by simp; omega]
    exact and_assoc.symm
theorem le_mt {b : Nat → Nat} {N : Nat} (hb : ∀ k, N ≤ k → b k = 0) : ∀ (w : List Nat) (a : Nat), (∀ c ∈ w, sml c) → mt b a w → a + w.length ≤ le b N a ∧ (¬ sml (b (a + w.length)) → le b N a = a + w.length)
  | [], a, _, _ => ⟨by have := le_ge b N a; simpa using this, fun h => by simp at h ⊢; exact le_stop (fun z => by have := z.2; have := h this.1; omega)⟩
  | c :: w, a, hc, hm => by
    rw [mt_cons] at hm
    have h1 := hc c List.mem_cons_self
    have h2 : a < N := by
      rcases Nat.lt_or_ge a N with z | z
      · exact z
      · have := hb a z; omega
    have h3 := le_mt hb w (a + 1) (fun d hd => hc d (List.mem_cons_of_mem _ hd)) hm.2
    rw [le_go ⟨h2, by rw [hm.1]; exact h1⟩]
    have e : a + (c :: w).length = a + 1 + w.length := by simp; omega
    rw [e]
    exact h3
theorem tk_wd {b : Nat → Nat} {N a c : Nat} {w : List Nat} (hb : ∀ k, N ≤ k → b k = 0) (hc : ∀ d ∈ c :: w, sml d) : (tk b N a - a = (c :: w).length ∧ mt b a (c :: w)) ↔ wd b a (c :: w) := by
  rw [wd_mt]
  have hpos : (c :: w).length = w.length + 1 := rfl
  constructor
  · rintro ⟨h1, h2⟩
    have h3 := le_mt hb (c :: w) a hc h2
    have h4 : tk b N a = le b N a := by unfold tk; rw [if_neg (by omega)]
    have h5 : le b N a = a + (c :: w).length := by have := le_ge b N a; omega
    refine ⟨h2, fun z => ?_⟩
    rw [← h5] at z
    have h6 := le_end b N a
    have h7 : le b N a < N := by
      rcases Nat.lt_or_ge (le b N a) N with y | y
      · exact y
      · have := hb _ y; omega
    exact h6 ⟨h7, z⟩
  · rintro ⟨h2, h3⟩
    have h4 := (le_mt hb (c :: w) a hc h2).2 h3
    have h5 : tk b N a = le b N a := by unfold tk; rw [if_neg (by omega)]
    exact ⟨by omega, h2⟩
theorem tk_wl {b : Nat → Nat} {N a c : Nat} {w : List Nat} (hb : ∀ k, N ≤ k → b k = 0) (hc : ∀ d ∈ c :: w, sml d) (h : wd b a (c :: w)) : tk b N a = a + (c :: w).length := by
  have := ((tk_wd hb hc).mpr h).1
  have := tk_ge b N a
  omega
theorem tk_sg {b : Nat → Nat} {N a c : Nat} (hb : ∀ k, N ≤ k → b k = 0) (hc : ¬ sml c) (h0 : c ≠ 0) : (tk b N a - a = [c].length ∧ mt b a [c]) ↔ (a < N ∧ b a = c) := by
  rw [mt_cons, mt_nil]
  constructor
  · rintro ⟨_, h2, _⟩
    refine ⟨?_, h2⟩
    rcases Nat.lt_or_ge a N with z | z
    · exact z
    · have := hb a z; omega
  · rintro ⟨h1, h2⟩
    have h3 : le b N a = a := le_stop (fun z => hc (h2 ▸ z.2))
    refine ⟨?_, h2, trivial⟩
    unfold tk
    rw [if_pos ⟨h3, h1⟩]
    show a + 1 - a = 1
    omega
/-- a byte as the class reads it -/
def sg (q : Nat) : Int32 := if q < 128 then nI q else nI q - 256
theorem sg_t {q : Nat} (h : q < 256) : (sg q).toInt = if q < 128 then (q : Int) else (q : Int) - 256 := by
  unfold sg
  split
  · exact nI_toInt (by omega)
  · exact pk_sub_toInt (a := q) (b := 256) (by omega) (by omega)
theorem sg_eq {q c : Nat} (h : q < 256) (hc : c < 128) : sg q = nI c ↔ q = c := by
  rw [i_eq, sg_t h, nI_toInt (by omega)]
  split <;> omega
theorem sg_of {v : Int32} (h1 : -128 ≤ v.toInt) (h2 : v.toInt < 128) : v = sg (v.toBitVec.toNat % 256) := by
  have b1 : v.toInt = (v.toBitVec.toNat : Int) ∨ v.toInt = (v.toBitVec.toNat : Int) - 4294967296 := by
    have : v.toInt = v.toBitVec.toInt := rfl
    rw [this, BitVec.toInt_eq_toNat_cond]; split <;> simp
  have b3 := v.toBitVec.isLt
  rw [i_eq, sg_t (Nat.mod_lt _ (by decide))]
  split <;> omega
/-- the reader r stands at p over the first N bytes T of the tape -/
def RS (S : hs_T) (r tp : Nat) (T : List Int32) (N : Nat) (p : ps_T) : Prop := (r ∈ hs_L S ∧ hs_K S r = 7) ∧ (hs_R S r 0 = some tp ∧ hs_I S r 1 = nI N ∧ hs_I S r 2 = nI p.1 ∧ hs_I S r 3 = nI p.2.1 ∧ hs_I S r 4 = eN p.2.2) ∧ (tp ∈ hs_L S ∧ hs_K S tp = 11 ∧ hs_N S tp = 400) ∧ (∀ j, j < N → hs_I S tp j = T.getD j 0 ∧ -128 ≤ (T.getD j 0).toInt ∧ (T.getD j 0).toInt < 128) ∧ N ≤ 400 ∧ p.1 ≤ N ∧ p.2.1 ≤ 3
theorem RS_at {S : hs_T} {r tp : Nat} {T : List Int32} {N : Nat} {p : ps_T} (h : RS S r tp T N p) {v : Int32} {a : Nat} (hv : v = nI a) (ha : a ≤ N) : RS (hs_sI S r 2 v) r tp T N (a, p.2) := by
  obtain ⟨h1, ⟨h2, h3, h4, h5, h6⟩, h7, h8, h9, h10, h11⟩ := h
  have hne : tp ≠ r := fun z => by have e1 := h1.2; have e2 := h7.2.1; rw [z] at e2; omega
  refine ⟨h1, ⟨h2, ?_, ?_, ?_, ?_⟩, h7, fun j hj => ?_, h9, ha, h11⟩
  · rw [hs_I_sI, if_neg (fun z => absurd z.2 (by decide))]; exact h3
  · rw [hs_I_sI, if_pos ⟨rfl, rfl⟩]; exact hv
  · rw [hs_I_sI, if_neg (fun z => absurd z.2 (by decide))]; exact h5
  · rw [hs_I_sI, if_neg (fun z => absurd z.2 (by decide))]; exact h6
  · rw [hs_I_sI, if_neg (fun z => hne z.1)]; exact h8 j hj
theorem RS_wr {S : hs_T} {r tp : Nat} {T : List Int32} {N : Nat} {p : ps_T} (h : RS S r tp T N p) {v u : Int32} {c w : Nat} (hv : v = nI c) (hc : c ≤ 3) (hu : u = nI w) : RS (hs_sI (hs_sI S r 3 v) r 4 u) r tp T N (p.1, c, some w) := by
  obtain ⟨h1, ⟨h2, h3, h4, h5, h6⟩, h7, h8, h9, h10, h11⟩ := h
  have hne : tp ≠ r := fun z => by have e1 := h1.2; have e2 := h7.2.1; rw [z] at e2; omega
  refine ⟨h1, ⟨h2, ?_, ?_, ?_, ?_⟩, h7, fun j hj => ?_, h9, h10, hc⟩
  · rw [hs_I_sI, if_neg (fun z => absurd z.2 (by decide)), hs_I_sI, if_neg (fun z => absurd z.2 (by decide))]; exact h3
  · rw [hs_I_sI, if_neg (fun z => absurd z.2 (by decide)), hs_I_sI, if_neg (fun z => absurd z.2 (by decide))]; exact h4
  · rw [hs_I_sI, if_neg (fun z => absurd z.2 (by decide)), hs_I_sI, if_pos ⟨rfl, rfl⟩]; exact hv
  · rw [hs_I_sI, if_pos ⟨rfl, rfl⟩]; exact hu
  · rw [hs_I_sI, if_neg (fun z => hne z.1), hs_I_sI, if_neg (fun z => hne z.1)]; exact h8 j hj
theorem RS_fr {S S' : hs_T} {r tp : Nat} {T : List Int32} {N : Nat} {p : ps_T} (h : RS S r tp T N p) {w : List Nat} (hf : hs_fr S S' w) (hr : r ∉ w) (ht : tp ∉ w) : RS S' r tp T N p := by
  obtain ⟨h1, ⟨h2, h3, h4, h5, h6⟩, h7, h8, h9, h10, h11⟩ := h
  obtain ⟨a1, a2, a3⟩ := hf.1 r h1.1
  obtain ⟨b1, b2, b3⟩ := hf.2 r h1.1 hr
  obtain ⟨c1, c2, c3⟩ := hf.1 tp h7.1
  obtain ⟨d1, d2, d3⟩ := hf.2 tp h7.1 ht
  exact ⟨⟨a1, a2.trans h1.2⟩, ⟨by rw [b3]; exact h2, by rw [b1]; exact h3, by rw [b1]; exact h4, by rw [b1]; exact h5, by rw [b1]; exact h6⟩, ⟨c1, c2.trans h7.2.1, c3.trans h7.2.2⟩, fun j hj => by rw [d1]; exact h8 j hj, h9, h10, h11⟩
theorem pb_0 (T : List Int32) (N : Nat) : ∀ k, N ≤ k → pb T N k = 0 := fun k hk => by unfold pb; rw [if_neg (by omega)]
/-- what the reader's methods leave alone -/
def rq (S0 : hs_T) (r tp : Nat) (n k : Nat) (T : List Int32) (N : Nat) (p : ps_T) (v : Option Value) : ex_R := fun o S' n' k' => o = .inl v ∧ RS S' r tp T N p ∧ hs_fr S0 S' [r] ∧ n' = n ∧ k' = k
set_option maxRecDepth 20000 in
set_option maxHeartbeats 4000000 in
theorem r_byteAt (g : gl_T) {S : hs_T} {n k : Nat} {r tp N : Nat} {T : List Int32} {p : ps_T} (hP : RS S r tp T N p) {y : Int32} {j : Nat} (hy : y = nI j) (hj : j < 2 ^ 31) : ex_M g 0 mX7_byteAt [.ref r, .int y] S n k (ex_rt (some (.int (sg (pb T N j)))) S n k) := by
  have hN4 := hP.2.2.2.2.1
  have hpN := hP.2.2.2.2.2.1
  refine ex_enter (by decide +kernel) (Nat.le_of_ble_eq_true rfl) ?_
  show ex_W _ _ _ _ 0 [(0, .ref r), (1, .int y)] [] _ _ _
  refine ex_iload_n dX7_byteAt_0 1 rfl ?_
  refine ex_if_lt (tgt := 30) dX7_byteAt_1 (by decide) (fun c1 => absurd c1 (by rw [hy]; exact nI_pos hj)) (fun c1 => ?_)
  refine ex_iload_n dX7_byteAt_4 1 rfl ?_
  refine ex_aload_n dX7_byteAt_5 0 rfl ?_
  refine ex_getI dX7_byteAt_6 fl_X7_25 hP.1.1 hP.1.2 ?_
  refine ex_icmp_ge (tgt := 30) dX7_byteAt_9 (by decide) (fun c9 => ?_) (fun c9 => ?_)
  · have hjN : ¬ j < N := fun z => by rw [hy, hP.2.1.2.1] at c9; exact absurd ((nI_leI (by omega) (by omega)).mp c9) (by omega)
    refine ex_iconst (v := 0) dX7_byteAt_30 (by decide) ?_
    exact ex_irt rfl dX7_byteAt_31 (ex_rt_e (by first | (unfold pb; rw [if_pos hjN]; obtain ⟨q1, q2, q3⟩ := hP.2.2.2.1 j hjN; rw [q1]; exact congrArg Value.int (sg_of q2 q3)) | (unfold pb; rw [if_neg hjN]; rfl)))
  · have hjN : j < N := Nat.lt_of_not_le (fun z => c9 (by rw [hy, hP.2.1.2.1]; exact nI_le z (by omega)))
    refine ex_iload_n dX7_byteAt_12 1 rfl ?_
    refine ex_aload_n dX7_byteAt_13 0 rfl ?_
    refine ex_getR (b := tp) dX7_byteAt_14 fl_X7_21 hP.1.1 hP.1.2 hP.2.1.1 ?_
    refine ex_alen dX7_byteAt_17 hP.2.2.1.1 (by rw [hP.2.2.1.2.1]; decide) ?_
    refine ex_icmp_ge (tgt := 30) dX7_byteAt_18 (by decide) (fun c18 => absurd c18 (by rw [hy, hP.2.2.1.2.2]; exact fun z => absurd ((nI_leI (by omega) (by omega)).mp z) (by omega))) (fun c18 => ?_)
    refine ex_aload_n dX7_byteAt_21 0 rfl ?_
    refine ex_getR (b := tp) dX7_byteAt_22 fl_X7_21 hP.1.1 hP.1.2 hP.2.1.1 ?_
    refine ex_iload_n dX7_byteAt_25 1 rfl ?_
    refine ex_bald (j := j) dX7_byteAt_26 hP.2.2.1.1 hP.2.2.1.2.1 hy (by rw [hP.2.2.1.2.2]; omega) hj ?_
    refine ex_goto (tgt := 31) dX7_byteAt_27 (by decide) ?_
    exact ex_irt rfl dX7_byteAt_31 (ex_rt_e (by first | (unfold pb; rw [if_pos hjN]; obtain ⟨q1, q2, q3⟩ := hP.2.2.2.1 j hjN; rw [q1]; exact congrArg Value.int (sg_of q2 q3)) | (unfold pb; rw [if_neg hjN]; rfl)))
set_option maxRecDepth 20000 in
theorem r_isLetter (g : gl_T) {S : hs_T} {n k : Nat} {x : Int32} {c : Nat} (hx : x = sg c) (hc : c < 256) : ex_M g 0 mX7_isLetter [.int x] S n k (ex_rt (some (.int (if 97 ≤ c ∧ c ≤ 122 then 1 else 0))) S n k) := by
  have hc9 := hc
  have e0 := sg_t hc
  have e1 : x < 97 ↔ c < 97 ∨ 128 ≤ c := by rw [hx, i_lt, e0]; show _ < (97 : Int) ↔ _; split <;> omega
  have e2 : x ≤ 122 ↔ c ≤ 122 ∨ 128 ≤ c := by rw [hx, i_le, e0]; show _ ≤ (122 : Int) ↔ _; split <;> omega
  have e3 : 122 < x ↔ 122 < c ∧ c < 128 := by rw [hx, i_lt, e0]; show (122 : Int) < _ ↔ _; split <;> omega
  refine ex_enter (by decide +kernel) (Nat.le_of_ble_eq_true rfl) ?_
  show ex_W _ _ _ _ 0 [(0, .int x)] [] _ _ _
  refine ex_iload_n dX7_isLetter_0 0 rfl ?_
  refine ex_bipush (v := 97) dX7_isLetter_1 (by decide) ?_
  refine ex_icmp_lt (tgt := 16) dX7_isLetter_3 (by decide) (fun c3 => ?_) (fun c3 => ?_)
  · refine ex_iconst (v := 0) dX7_isLetter_16 (by decide) ?_
    exact ex_bret rfl (by decide) dX7_isLetter_17 (ex_rt_e (by split <;> first | rfl | (exfalso; simp only [e1, e2, e3] at *; omega)))
  · refine ex_iload_n dX7_isLetter_6 0 rfl ?_
    refine ex_bipush (v := 122) dX7_isLetter_7 (by decide) ?_
    refine ex_icmp_gt (tgt := 16) dX7_isLetter_9 (by decide) (fun c9 => ?_) (fun c9 => ?_)
    · refine ex_iconst (v := 0) dX7_isLetter_16 (by decide) ?_
      exact ex_bret rfl (by decide) dX7_isLetter_17 (ex_rt_e (by split <;> first | rfl | (exfalso; simp only [e1, e2, e3] at *; omega)))
    · refine ex_iconst (v := 1) dX7_isLetter_12 (by decide) ?_
      refine ex_goto (tgt := 17) dX7_isLetter_13 (by decide) ?_
      exact ex_bret rfl (by decide) dX7_isLetter_17 (ex_rt_e (by split <;> first | rfl | (exfalso; simp only [e1, e2, e3] at *; omega)))
set_option maxRecDepth 20000 in
theorem r_isDigit (g : gl_T) {S : hs_T} {n k : Nat} {x : Int32} {c : Nat} (hx : x = sg c) (hc : c < 256) : ex_M g 0 mX7_isDigit [.int x] S n k (ex_rt (some (.int (if 48 ≤ c ∧ c ≤ 57 then 1 else 0))) S n k) := by
  have hc9 := hc
  have e0 := sg_t hc
  have e1 : x < 48 ↔ c < 48 ∨ 128 ≤ c := by rw [hx, i_lt, e0]; show _ < (48 : Int) ↔ _; split <;> omega
  have e2 : x ≤ 57 ↔ c ≤ 57 ∨ 128 ≤ c := by rw [hx, i_le, e0]; show _ ≤ (57 : Int) ↔ _; split <;> omega
  have e3 : 57 < x ↔ 57 < c ∧ c < 128 := by rw [hx, i_lt, e0]; show (57 : Int) < _ ↔ _; split <;> omega
  refine ex_enter (by decide +kernel) (Nat.le_of_ble_eq_true rfl) ?_
  show ex_W _ _ _ _ 0 [(0, .int x)] [] _ _ _
  refine ex_iload_n dX7_isDigit_0 0 rfl ?_
  refine ex_bipush (v := 48) dX7_isDigit_1 (by decide) ?_
  refine ex_icmp_lt (tgt := 16) dX7_isDigit_3 (by decide) (fun c3 => ?_) (fun c3 => ?_)
  · refine ex_iconst (v := 0) dX7_isDigit_16 (by decide) ?_
    exact ex_bret rfl (by decide) dX7_isDigit_17 (ex_rt_e (by split <;> first | rfl | (exfalso; simp only [e1, e2, e3] at *; omega)))
  · refine ex_iload_n dX7_isDigit_6 0 rfl ?_
    refine ex_bipush (v := 57) dX7_isDigit_7 (by decide) ?_
    refine ex_icmp_gt (tgt := 16) dX7_isDigit_9 (by decide) (fun c9 => ?_) (fun c9 => ?_)
    · refine ex_iconst (v := 0) dX7_isDigit_16 (by decide) ?_
      exact ex_bret rfl (by decide) dX7_isDigit_17 (ex_rt_e (by split <;> first | rfl | (exfalso; simp only [e1, e2, e3] at *; omega)))
    · refine ex_iconst (v := 1) dX7_isDigit_12 (by decide) ?_
      refine ex_goto (tgt := 17) dX7_isDigit_13 (by decide) ?_
      exact ex_bret rfl (by decide) dX7_isDigit_17 (ex_rt_e (by split <;> first | rfl | (exfalso; simp only [e1, e2, e3] at *; omega)))
set_option maxRecDepth 20000 in
set_option maxHeartbeats 2000000 in
theorem r_skip_l {g : gl_T} {S0 : hs_T} {n k r tp N : Nat} {T : List Int32} {p0 : ps_T} : ∀ t a S, RS S r tp T N (a, p0.2) → hs_fr S0 S [r] → N < a + t → sk (pb T N) N a = sk (pb T N) N p0.1 →
    ex_W g 1 mX7_skipBlanks (rq S0 r tp n k T N (p_bl (pb T N) N p0) none) 0 [(0, .ref r)] [] S n k := by
  intro t
  induction t with
  | zero => intro a S hP hF h2; exact absurd h2 (by have : a ≤ N := hP.2.2.2.2.2.1; omega)
  | succ t ih =>
    intro a S hP hF h2 hsk
    have hN4 := hP.2.2.2.2.1
    have ha : a ≤ N := hP.2.2.2.2.2.1
    refine ex_aload_n dX7_skipBlanks_0 0 rfl ?_
    refine ex_getI dX7_skipBlanks_1 fl_X7_9 hP.1.1 hP.1.2 ?_
    refine ex_aload_n dX7_skipBlanks_4 0 rfl ?_
    refine ex_getI dX7_skipBlanks_5 fl_X7_25 hP.1.1 hP.1.2 ?_
    refine ex_icmp_ge (tgt := 37) dX7_skipBlanks_8 (by decide) (fun c8 => ?_) (fun c8 => ?_)
    · exact ex_vrt rfl dX7_skipBlanks_37 (by
  have hc : ¬ (a < N ∧ pb T N a = 32) := by
    rintro ⟨z1, z2⟩
    first
      | exact c21 (by rw [z2]; rfl)
      | (have z3 := nI_lt z1 (by omega); rw [← hP.2.1.2.1] at z3; have e : hs_I S r 2 = nI a := hP.2.1.2.2.1; rw [← e] at z3; simp only [i_lt, i_le] at *; omega)
  refine ⟨rfl, ?_, hF, rfl, rfl⟩
  unfold p_bl
  rw [← hsk, sk_stop hc]
  exact hP)
    · have haN : a < N := (nI_ltI (by omega) (by omega)).mp (by rw [← hP.2.1.2.1]; have e : hs_I S r 2 = nI a := hP.2.1.2.2.1; rw [← e]; simp only [i_lt, i_le] at *; omega)
      have hpl := pb_lt T N a
      refine ex_aload_n dX7_skipBlanks_11 0 rfl ?_
      refine ex_aload_n dX7_skipBlanks_12 0 rfl ?_
      refine ex_getI dX7_skipBlanks_13 fl_X7_9 hP.1.1 hP.1.2 ?_
      refine ex_cVr [.int (hs_I S r 2)] [] dX7_skipBlanks_16 cV_X7_116 (r_byteAt g hP hP.2.1.2.2.1 (by show a < _; omega)) hP.1.1 hP.1.2 rfl rfl rfl (by decide) (Nat.le_of_ble_eq_true rfl) rfl ?_
      refine ex_bipush (v := 32) dX7_skipBlanks_19 (by decide) ?_
      refine ex_icmp_ne (tgt := 37) dX7_skipBlanks_21 (by decide) (fun c21 => ?_) (fun c21 => ?_)
      · exact ex_vrt rfl dX7_skipBlanks_37 (by
  have hc : ¬ (a < N ∧ pb T N a = 32) := by
    rintro ⟨z1, z2⟩
    first
      | exact c21 (by rw [z2]; rfl)
      | (have z3 := nI_lt z1 (by omega); rw [← hP.2.1.2.1] at z3; have e : hs_I S r 2 = nI a := hP.2.1.2.2.1; rw [← e] at z3; simp only [i_lt, i_le] at *; omega)
  refine ⟨rfl, ?_, hF, rfl, rfl⟩
  unfold p_bl
  rw [← hsk, sk_stop hc]
  exact hP)
      · refine ex_aload_n dX7_skipBlanks_24 0 rfl ?_
        refine ex_dup dX7_skipBlanks_25 rfl ?_
        refine ex_getI dX7_skipBlanks_26 fl_X7_9 hP.1.1 hP.1.2 ?_
        refine ex_iconst (v := 1) dX7_skipBlanks_29 (by decide) ?_
        refine ex_iadd dX7_skipBlanks_30 ?_
        refine ex_putI dX7_skipBlanks_31 fl_X7_9 (pf_X7_9 _) hP.1.1 hP.1.2 ?_
        refine ex_goto (tgt := 0) dX7_skipBlanks_34 (by decide) ?_
        have hc : a < N ∧ pb T N a = 32 := ⟨haN, (sg_eq hpl (by decide)).mp c21⟩
        refine ih (a + 1) _ (RS_at hP (by have e : hs_I S r 2 = nI a := hP.2.1.2.2.1; rw [e]; exact nI_1 a) (by omega)) (hs_fr_tr hF (hs_fr_sI _ _ _ _)) (by omega) ?_
        rw [← hsk, sk_go hc]
theorem r_skip (g : gl_T) {S : hs_T} {n k : Nat} {r tp N : Nat} {T : List Int32} {p : ps_T} (hP : RS S r tp T N p) : ex_M g 1 mX7_skipBlanks [.ref r] S n k (rq S r tp n k T N (p_bl (pb T N) N p) none) := by
  refine ex_enter (by decide +kernel) (Nat.le_of_ble_eq_true rfl) ?_
  exact r_skip_l (N + 1) p.1 S hP (hs_fr_rf _ _) (by have := hP.2.2.2.2.2.1; omega) rfl
set_option maxRecDepth 20000 in
set_option maxHeartbeats 4000000 in
theorem r_blame (g : gl_T) {S : hs_T} {n k : Nat} {r tp N : Nat} {T : List Int32} {p : ps_T} (hP : RS S r tp T N p) {y z : Int32} {c w : Nat} (hy : y = nI c) (hc : c ≤ 3) (hz : z = nI w) : ex_M g 0 mX7_blame [.ref r, .int y, .int z] S n k (rq S r tp n k T N (p.1, c, some w) none) := by
  have hN4 := hP.2.2.2.2.1
  have hpN := hP.2.2.2.2.2.1
  refine ex_enter (by decide +kernel) (Nat.le_of_ble_eq_true rfl) ?_
  show ex_W _ _ _ _ 0 [(0, .ref r), (1, .int y), (2, .int z)] [] _ _ _
  refine ex_aload_n dX7_blame_0 0 rfl ?_
  refine ex_iload_n dX7_blame_1 1 rfl ?_
  refine ex_putI dX7_blame_2 fl_X7_15 (pf_X7_15 _) hP.1.1 hP.1.2 ?_
  refine ex_aload_n dX7_blame_5 0 rfl ?_
  refine ex_iload_n dX7_blame_6 2 rfl ?_
  refine ex_putI dX7_blame_7 fl_X7_18 (pf_X7_18 _) hP.1.1 hP.1.2 ?_
  exact ex_vrt rfl dX7_blame_10 ⟨rfl, RS_wr hP hy hc hz, hs_fr_tr (hs_fr_sI _ _ _ _) (hs_fr_sI _ _ _ _), rfl, rfl⟩
set_option maxRecDepth 20000 in
set_option maxHeartbeats 2000000 in
theorem r_eot_l {g : gl_T} {S : hs_T} {n k : Nat} {r tp N : Nat} {T : List Int32} {p : ps_T} (hP : RS S r tp T N p) {y : Int32} {a : Nat} (hy : y = nI a) (haN : a ≤ N) : ∀ t e, e ≤ N → N < e + t → a ≤ e → le (pb T N) N e = le (pb T N) N a → ex_W g 1 mX7_endOfToken (ex_rt (some (.int (nI (tk (pb T N) N a)))) S n k) 2 [(2, .int (nI e)), (0, .ref r), (1, .int y)] [] S n k := by
  have hN4 := hP.2.2.2.2.1
  intro t
  induction t with
  | zero => intro e h1 h2; exact absurd h2 (by omega)
  | succ t ih =>
    intro e he1 he2 hae hle
    refine ex_iload_n dX7_endOfToken_2 0 rfl ?_
    refine ex_aload_n dX7_endOfToken_3 1 rfl ?_
    refine ex_getI dX7_endOfToken_4 fl_X7_25 hP.1.1 hP.1.2 ?_
    refine ex_icmp_ge (tgt := 27) dX7_endOfToken_7 (by decide) (fun c7 => ?_) (fun c7 => ?_)
    · have hc : ¬ (e < N ∧ sml (pb T N e)) := by
        rintro ⟨z1, z2⟩
        first
          | (rw [if_pos z2] at c18; exact absurd c18 (by decide))
          | (rw [hP.2.1.2.1] at c7; exact absurd ((nI_leI (by omega) (by omega)).mp c7) (by omega))
      have hla : le (pb T N) N a = e := by rw [← hle]; exact le_stop hc
      refine ex_iload_n dX7_endOfToken_27 0 rfl ?_
      refine ex_iload_n dX7_endOfToken_28 2 rfl ?_
      refine ex_icmp_ne (tgt := 46) dX7_endOfToken_29 (by decide) (fun c29 => ?_) (fun c29 => ?_)
      · refine ex_iload_n dX7_endOfToken_46 0 rfl ?_
        exact ex_irt rfl dX7_endOfToken_47 (ex_rt_e (by
  have z : ¬ (le (pb T N) N a = a ∧ a < N) := by
    rintro ⟨z1, z2⟩
    first
      | exact c29 (by rw [hy, ← z1, hla])
      | (rw [hy, hP.2.1.2.1] at c37; exact absurd ((nI_leI (by omega) (by omega)).mp c37) (by omega))
  unfold tk
  rw [if_neg z, hla]))
      · refine ex_iload_n dX7_endOfToken_32 2 rfl ?_
        refine ex_aload_n dX7_endOfToken_33 1 rfl ?_
        refine ex_getI dX7_endOfToken_34 fl_X7_25 hP.1.1 hP.1.2 ?_
        refine ex_icmp_ge (tgt := 46) dX7_endOfToken_37 (by decide) (fun c37 => ?_) (fun c37 => ?_)
        · refine ex_iload_n dX7_endOfToken_46 0 rfl ?_
          exact ex_irt rfl dX7_endOfToken_47 (ex_rt_e (by
  have z : ¬ (le (pb T N) N a = a ∧ a < N) := by
    rintro ⟨z1, z2⟩
    first
      | exact c29 (by rw [hy, ← z1, hla])
      | (rw [hy, hP.2.1.2.1] at c37; exact absurd ((nI_leI (by omega) (by omega)).mp c37) (by omega))
  unfold tk
  rw [if_neg z, hla]))
        · refine ex_iload_n dX7_endOfToken_40 2 rfl ?_
          refine ex_iconst (v := 1) dX7_endOfToken_41 (by decide) ?_
          refine ex_iadd dX7_endOfToken_42 ?_
          refine ex_goto (tgt := 47) dX7_endOfToken_43 (by decide) ?_
          exact ex_irt rfl dX7_endOfToken_47 (ex_rt_e (by
  have z1 : e = a := (nI_eq (by omega) (by omega)).mp (c29.trans hy)
  have z2 : a < N := Nat.lt_of_not_le (fun z => c37 (by rw [hy, hP.2.1.2.1]; exact nI_le z (by omega)))
  unfold tk
  rw [if_pos ⟨hla.trans z1, z2⟩, hy]
  exact congrArg Value.int (nI_1 a)))
    · have heN : e < N := Nat.lt_of_not_le (fun z => c7 (by rw [hP.2.1.2.1]; exact nI_le z (by omega)))
      refine ex_aload_n dX7_endOfToken_10 1 rfl ?_
      refine ex_iload_n dX7_endOfToken_11 0 rfl ?_
      refine ex_cVr [.int (nI e)] [] dX7_endOfToken_12 cV_X7_116 (r_byteAt g hP rfl (by omega)) hP.1.1 hP.1.2 rfl rfl rfl (by decide) (Nat.le_of_ble_eq_true rfl) rfl ?_
      refine ex_cSr [.int (sg (pb T N e))] [] dX7_endOfToken_15 cS_X7_135 (r_isLetter g (c := pb T N e) rfl (pb_lt _ _ _)) rfl (by decide) (Nat.le_of_ble_eq_true rfl) rfl ?_
      refine ex_if_eq (tgt := 27) dX7_endOfToken_18 (by decide) (fun c18 => ?_) (fun c18 => ?_)
      · have hc : ¬ (e < N ∧ sml (pb T N e)) := by
          rintro ⟨z1, z2⟩
          first
            | (rw [if_pos z2] at c18; exact absurd c18 (by decide))
            | (rw [hP.2.1.2.1] at c7; exact absurd ((nI_leI (by omega) (by omega)).mp c7) (by omega))
        have hla : le (pb T N) N a = e := by rw [← hle]; exact le_stop hc
        refine ex_iload_n dX7_endOfToken_27 0 rfl ?_
        refine ex_iload_n dX7_endOfToken_28 2 rfl ?_
        refine ex_icmp_ne (tgt := 46) dX7_endOfToken_29 (by decide) (fun c29 => ?_) (fun c29 => ?_)
        · refine ex_iload_n dX7_endOfToken_46 0 rfl ?_
          exact ex_irt rfl dX7_endOfToken_47 (ex_rt_e (by
  have z : ¬ (le (pb T N) N a = a ∧ a < N) := by
    rintro ⟨z1, z2⟩
    first
      | exact c29 (by rw [hy, ← z1, hla])
      | (rw [hy, hP.2.1.2.1] at c37; exact absurd ((nI_leI (by omega) (by omega)).mp c37) (by omega))
  unfold tk
  rw [if_neg z, hla]))
        · refine ex_iload_n dX7_endOfToken_32 2 rfl ?_
          refine ex_aload_n dX7_endOfToken_33 1 rfl ?_
          refine ex_getI dX7_endOfToken_34 fl_X7_25 hP.1.1 hP.1.2 ?_
          refine ex_icmp_ge (tgt := 46) dX7_endOfToken_37 (by decide) (fun c37 => ?_) (fun c37 => ?_)
          · refine ex_iload_n dX7_endOfToken_46 0 rfl ?_
            exact ex_irt rfl dX7_endOfToken_47 (ex_rt_e (by
  have z : ¬ (le (pb T N) N a = a ∧ a < N) := by
    rintro ⟨z1, z2⟩
    first
      | exact c29 (by rw [hy, ← z1, hla])
      | (rw [hy, hP.2.1.2.1] at c37; exact absurd ((nI_leI (by omega) (by omega)).mp c37) (by omega))
  unfold tk
  rw [if_neg z, hla]))
          · refine ex_iload_n dX7_endOfToken_40 2 rfl ?_
            refine ex_iconst (v := 1) dX7_endOfToken_41 (by decide) ?_
            refine ex_iadd dX7_endOfToken_42 ?_
            refine ex_goto (tgt := 47) dX7_endOfToken_43 (by decide) ?_
            exact ex_irt rfl dX7_endOfToken_47 (ex_rt_e (by
  have z1 : e = a := (nI_eq (by omega) (by omega)).mp (c29.trans hy)
  have z2 : a < N := Nat.lt_of_not_le (fun z => c37 (by rw [hy, hP.2.1.2.1]; exact nI_le z (by omega)))
  unfold tk
  rw [if_pos ⟨hla.trans z1, z2⟩, hy]
  exact congrArg Value.int (nI_1 a)))
      · refine ex_iinc (v := nI (e + 1)) 0 [(2, .int (nI (e + 1))), (0, .ref r), (1, .int y)] dX7_endOfToken_21 rfl (nI_1 e) (by decide) rfl ?_
        refine ex_goto (tgt := 2) dX7_endOfToken_24 (by decide) ?_
        have hc : e < N ∧ sml (pb T N e) := ⟨heN, by
          by_cases z : sml (pb T N e)
          · exact z
          · rw [if_neg z] at c18; exact absurd rfl c18⟩
        exact ih (e + 1) (by omega) (by omega) (by omega) (by rw [← hle, le_go hc])
set_option maxRecDepth 20000 in
set_option maxHeartbeats 4000000 in
theorem r_eot (g : gl_T) {S : hs_T} {n k : Nat} {r tp N : Nat} {T : List Int32} {p : ps_T} (hP : RS S r tp T N p) {y : Int32} {a : Nat} (hy : y = nI a) (haN : a ≤ N) : ex_M g 1 mX7_endOfToken [.ref r, .int y] S n k (ex_rt (some (.int (nI (tk (pb T N) N a)))) S n k) := by
  have hN4 := hP.2.2.2.2.1
  have hpN := hP.2.2.2.2.2.1
  refine ex_enter (by decide +kernel) (Nat.le_of_ble_eq_true rfl) ?_
  show ex_W _ _ _ _ 0 [(0, .ref r), (1, .int y)] [] _ _ _
  refine ex_iload_n dX7_endOfToken_0 1 rfl ?_
  refine ex_istore_n [(2, .int y), (0, .ref r), (1, .int y)] dX7_endOfToken_1 (by decide) rfl ?_
  rw [hy]
  exact r_eot_l hP rfl haN (N + 1) a haN (by omega) (Nat.le_refl _) rfl
set_option maxRecDepth 20000 in
set_option maxHeartbeats 4000000 in
theorem r_isTok_0 (g : gl_T) {S : hs_T} {n k : Nat} {r tp N : Nat} {T : List Int32} {p : ps_T} (hP : RS S r tp T N p) {y z : Int32} {a e : Nat} (hy : y = nI a) (hz : z = nI e) (hae : a ≤ e) (heN : e ≤ N) : ex_M g 4 mX7_isToken [.ref r, .int y, .int z, .ref (g.2.2.2.2 10)] S n k (ex_rt (some (.int (if e - a = 4 ∧ mt (pb T N) a [102, 117, 110, 100] then 1 else 0))) S n k) := by
  have hN4 := hP.2.2.2.2.1
  have hpN := hP.2.2.2.2.2.1
  refine ex_enter (by decide +kernel) (Nat.le_of_ble_eq_true rfl) ?_
  show ex_W _ _ _ _ 0 [(0, .ref r), (1, .int y), (2, .int z), (3, .ref (g.2.2.2.2 10))] [] _ _ _
  refine ex_iload_n dX7_isToken_0 2 rfl ?_
  refine ex_iload_n dX7_isToken_1 1 rfl ?_
  refine ex_isub dX7_isToken_2 ?_
  refine ex_aload_n dX7_isToken_3 3 rfl ?_
  refine ex_cVC (q := ("java/lang/String", 10)) [] [.int (z - y)] dX7_isToken_4 cV_X7_138 (c_len_0 g) cO_4 rfl rfl (by decide) (Nat.le_of_ble_eq_true rfl) rfl ?_
  refine ex_icmp_eq (tgt := 12) dX7_isToken_7 (by decide) (fun c7 => ?_) (fun c7 => ?_)
  · have hne : e - a = 4 := (nI_eq (b := 4) (by omega) (by decide)).mp (by rw [← pk_sub hae, ← hy, ← hz]; exact c7)
    refine ex_iconst (v := 0) dX7_isToken_12 (by decide) ?_
    refine ex_istore [(4, .int 0), (0, .ref r), (1, .int y), (2, .int z), (3, .ref (g.2.2.2.2 10))] dX7_isToken_13 (by decide) rfl ?_
    refine ex_iload dX7_isToken_15 0 rfl ?_
    refine ex_aload_n dX7_isToken_17 4 rfl ?_
    refine ex_cVC (q := ("java/lang/String", 10)) [] [.int 0] dX7_isToken_18 cV_X7_138 (c_len_0 g) cO_4 rfl rfl (by decide) (Nat.le_of_ble_eq_true rfl) rfl ?_
    refine ex_icmp_ge (tgt := 49) dX7_isToken_21 (by decide) (fun c21 => absurd c21 (by decide)) (fun c21 => ?_)
    refine ex_aload_n dX7_isToken_24 1 rfl ?_
    refine ex_iload_n dX7_isToken_25 2 rfl ?_
    refine ex_iload dX7_isToken_26 0 rfl ?_
    refine ex_iadd dX7_isToken_28 ?_
    refine ex_cVr [.int (y + 0)] [] dX7_isToken_29 cV_X7_116 (r_byteAt g hP (j := a) (by rw [hy]; exact nI_add _ 0) (by omega)) hP.1.1 hP.1.2 rfl rfl rfl (by decide) (Nat.le_of_ble_eq_true rfl) rfl ?_
    refine ex_aload_n dX7_isToken_32 4 rfl ?_
    refine ex_iload dX7_isToken_33 0 rfl ?_
    refine ex_cVC (q := ("java/lang/String", 10)) [.int 0] [.int (sg (pb T N (a)))] dX7_isToken_35 cV_X7_140 (c_char_0_0 g) cO_4 rfl rfl (by decide) (Nat.le_of_ble_eq_true rfl) rfl ?_
    refine ex_icmp_eq (tgt := 43) dX7_isToken_38 (by decide) (fun c38 => ?_) (fun c38 => ?_)
    · have w0 : pb T N (a) = 102 := (sg_eq (c := 102) (pb_lt _ _ _) (by decide)).mp c38
      refine ex_iinc (v := 1) 0 [(4, .int 1), (0, .ref r), (1, .int y), (2, .int z), (3, .ref (g.2.2.2.2 10))] dX7_isToken_43 rfl (by decide) (by decide) rfl ?_
      refine ex_goto (tgt := 15) dX7_isToken_46 (by decide) ?_
      refine ex_iload dX7_isToken_15 0 rfl ?_
      refine ex_aload_n dX7_isToken_17 4 rfl ?_
      refine ex_cVC (q := ("java/lang/String", 10)) [] [.int 1] dX7_isToken_18 cV_X7_138 (c_len_0 g) cO_4 rfl rfl (by decide) (Nat.le_of_ble_eq_true rfl) rfl ?_
      refine ex_icmp_ge (tgt := 49) dX7_isToken_21 (by decide) (fun c21 => absurd c21 (by decide)) (fun c21 => ?_)
      refine ex_aload_n dX7_isToken_24 1 rfl ?_
      refine ex_iload_n dX7_isToken_25 2 rfl ?_
      refine ex_iload dX7_isToken_26 0 rfl ?_
      refine ex_iadd dX7_isToken_28 ?_
      refine ex_cVr [.int (y + 1)] [] dX7_isToken_29 cV_X7_116 (r_byteAt g hP (j := a + 1) (by rw [hy]; exact nI_add _ 1) (by omega)) hP.1.1 hP.1.2 rfl rfl rfl (by decide) (Nat.le_of_ble_eq_true rfl) rfl ?_
      refine ex_aload_n dX7_isToken_32 4 rfl ?_
      refine ex_iload dX7_isToken_33 0 rfl ?_
      refine ex_cVC (q := ("java/lang/String", 10)) [.int 1] [.int (sg (pb T N (a + 1)))] dX7_isToken_35 cV_X7_140 (c_char_0_1 g) cO_4 rfl rfl (by decide) (Nat.le_of_ble_eq_true rfl) rfl ?_
      refine ex_icmp_eq (tgt := 43) dX7_isToken_38 (by decide) (fun c38 => ?_) (fun c38 => ?_)
      · have w1 : pb T N (a + 1) = 117 := (sg_eq (c := 117) (pb_lt _ _ _) (by decide)).mp c38
        refine ex_iinc (v := 2) 0 [(4, .int 2), (0, .ref r), (1, .int y), (2, .int z), (3, .ref (g.2.2.2.2 10))] dX7_isToken_43 rfl (by decide) (by decide) rfl ?_
        refine ex_goto (tgt := 15) dX7_isToken_46 (by decide) ?_
        refine ex_iload dX7_isToken_15 0 rfl ?_
        refine ex_aload_n dX7_isToken_17 4 rfl ?_
        refine ex_cVC (q := ("java/lang/String", 10)) [] [.int 2] dX7_isToken_18 cV_X7_138 (c_len_0 g) cO_4 rfl rfl (by decide) (Nat.le_of_ble_eq_true rfl) rfl ?_
        refine ex_icmp_ge (tgt := 49) dX7_isToken_21 (by decide) (fun c21 => absurd c21 (by decide)) (fun c21 => ?_)
        refine ex_aload_n dX7_isToken_24 1 rfl ?_
        refine ex_iload_n dX7_isToken_25 2 rfl ?_
        refine ex_iload dX7_isToken_26 0 rfl ?_
        refine ex_iadd dX7_isToken_28 ?_
        refine ex_cVr [.int (y + 2)] [] dX7_isToken_29 cV_X7_116 (r_byteAt g hP (j := a + 1 + 1) (by rw [hy]; exact nI_add _ 2) (by omega)) hP.1.1 hP.1.2 rfl rfl rfl (by decide) (Nat.le_of_ble_eq_true rfl) rfl ?_
        refine ex_aload_n dX7_isToken_32 4 rfl ?_
        refine ex_iload dX7_isToken_33 0 rfl ?_
        refine ex_cVC (q := ("java/lang/String", 10)) [.int 2] [.int (sg (pb T N (a + 1 + 1)))] dX7_isToken_35 cV_X7_140 (c_char_0_2 g) cO_4 rfl rfl (by decide) (Nat.le_of_ble_eq_true rfl) rfl ?_
        refine ex_icmp_eq (tgt := 43) dX7_isToken_38 (by decide) (fun c38 => ?_) (fun c38 => ?_)
        · have w2 : pb T N (a + 1 + 1) = 110 := (sg_eq (c := 110) (pb_lt _ _ _) (by decide)).mp c38
          refine ex_iinc (v := 3) 0 [(4, .int 3), (0, .ref r), (1, .int y), (2, .int z), (3, .ref (g.2.2.2.2 10))] dX7_isToken_43 rfl (by decide) (by decide) rfl ?_
          refine ex_goto (tgt := 15) dX7_isToken_46 (by decide) ?_
          refine ex_iload dX7_isToken_15 0 rfl ?_
          refine ex_aload_n dX7_isToken_17 4 rfl ?_
          refine ex_cVC (q := ("java/lang/String", 10)) [] [.int 3] dX7_isToken_18 cV_X7_138 (c_len_0 g) cO_4 rfl rfl (by decide) (Nat.le_of_ble_eq_true rfl) rfl ?_
          refine ex_icmp_ge (tgt := 49) dX7_isToken_21 (by decide) (fun c21 => absurd c21 (by decide)) (fun c21 => ?_)
          refine ex_aload_n dX7_isToken_24 1 rfl ?_
          refine ex_iload_n dX7_isToken_25 2 rfl ?_
          refine ex_iload dX7_isToken_26 0 rfl ?_
          refine ex_iadd dX7_isToken_28 ?_
          refine ex_cVr [.int (y + 3)] [] dX7_isToken_29 cV_X7_116 (r_byteAt g hP (j := a + 1 + 1 + 1) (by rw [hy]; exact nI_add _ 3) (by omega)) hP.1.1 hP.1.2 rfl rfl rfl (by decide) (Nat.le_of_ble_eq_true rfl) rfl ?_
          refine ex_aload_n dX7_isToken_32 4 rfl ?_
          refine ex_iload dX7_isToken_33 0 rfl ?_
          refine ex_cVC (q := ("java/lang/String", 10)) [.int 3] [.int (sg (pb T N (a + 1 + 1 + 1)))] dX7_isToken_35 cV_X7_140 (c_char_0_3 g) cO_4 rfl rfl (by decide) (Nat.le_of_ble_eq_true rfl) rfl ?_
          refine ex_icmp_eq (tgt := 43) dX7_isToken_38 (by decide) (fun c38 => ?_) (fun c38 => ?_)
          · have w3 : pb T N (a + 1 + 1 + 1) = 100 := (sg_eq (c := 100) (pb_lt _ _ _) (by decide)).mp c38
            refine ex_iinc (v := 4) 0 [(4, .int 4), (0, .ref r), (1, .int y), (2, .int z), (3, .ref (g.2.2.2.2 10))] dX7_isToken_43 rfl (by decide) (by decide) rfl ?_
            refine ex_goto (tgt := 15) dX7_isToken_46 (by decide) ?_
            refine ex_iload dX7_isToken_15 0 rfl ?_
            refine ex_aload_n dX7_isToken_17 4 rfl ?_
            refine ex_cVC (q := ("java/lang/String", 10)) [] [.int 4] dX7_isToken_18 cV_X7_138 (c_len_0 g) cO_4 rfl rfl (by decide) (Nat.le_of_ble_eq_true rfl) rfl ?_
            refine ex_icmp_ge (tgt := 49) dX7_isToken_21 (by decide) (fun c21 => ?_) (fun c21 => absurd (by decide) c21)
            refine ex_iconst (v := 1) dX7_isToken_49 (by decide) ?_
            exact ex_bret rfl (by decide) dX7_isToken_50 (ex_rt_e (by rw [if_pos ⟨hne, by simp only [mt_cons, mt_nil]; exact ⟨w0, w1, w2, w3, trivial⟩⟩]))
          · refine ex_iconst (v := 0) dX7_isToken_41 (by decide) ?_
            exact ex_bret rfl (by decide) dX7_isToken_42 (ex_rt_e (by rw [if_neg (fun z => by have z := z.2; simp only [mt_cons] at z; exact c38 (by rw [z.2.2.2.1]; rfl))]))
        · refine ex_iconst (v := 0) dX7_isToken_41 (by decide) ?_
          exact ex_bret rfl (by decide) dX7_isToken_42 (ex_rt_e (by rw [if_neg (fun z => by have z := z.2; simp only [mt_cons] at z; exact c38 (by rw [z.2.2.1]; rfl))]))
      · refine ex_iconst (v := 0) dX7_isToken_41 (by decide) ?_
        exact ex_bret rfl (by decide) dX7_isToken_42 (ex_rt_e (by rw [if_neg (fun z => by have z := z.2; simp only [mt_cons] at z; exact c38 (by rw [z.2.1]; rfl))]))
    · refine ex_iconst (v := 0) dX7_isToken_41 (by decide) ?_
      exact ex_bret rfl (by decide) dX7_isToken_42 (ex_rt_e (by rw [if_neg (fun z => by have z := z.2; simp only [mt_cons] at z; exact c38 (by rw [z.1]; rfl))]))
  · have hne : ¬ e - a = 4 := fun q => c7 (by rw [hy, hz, pk_sub hae, q]; rfl)
    refine ex_iconst (v := 0) dX7_isToken_10 (by decide) ?_
    exact ex_bret rfl (by decide) dX7_isToken_11 (ex_rt_e (by rw [if_neg (fun q => hne q.1)]))
set_option maxRecDepth 20000 in
set_option maxHeartbeats 4000000 in
theorem r_isTok_1 (g : gl_T) {S : hs_T} {n k : Nat} {r tp N : Nat} {T : List Int32} {p : ps_T} (hP : RS S r tp T N p) {y z : Int32} {a e : Nat} (hy : y = nI a) (hz : z = nI e) (hae : a ≤ e) (heN : e ≤ N) : ex_M g 4 mX7_isToken [.ref r, .int y, .int z, .ref (g.2.2.2.2 11)] S n k (ex_rt (some (.int (if e - a = 4 ∧ mt (pb T N) a [100, 97, 121, 115] then 1 else 0))) S n k) := by
  have hN4 := hP.2.2.2.2.1
  have hpN := hP.2.2.2.2.2.1
  refine ex_enter (by decide +kernel) (Nat.le_of_ble_eq_true rfl) ?_
  show ex_W _ _ _ _ 0 [(0, .ref r), (1, .int y), (2, .int z), (3, .ref (g.2.2.2.2 11))] [] _ _ _
  refine ex_iload_n dX7_isToken_0 2 rfl ?_
  refine ex_iload_n dX7_isToken_1 1 rfl ?_
  refine ex_isub dX7_isToken_2 ?_
  refine ex_aload_n dX7_isToken_3 3 rfl ?_
  refine ex_cVC (q := ("java/lang/String", 11)) [] [.int (z - y)] dX7_isToken_4 cV_X7_138 (c_len_1 g) cO_5 rfl rfl (by decide) (Nat.le_of_ble_eq_true rfl) rfl ?_
  refine ex_icmp_eq (tgt := 12) dX7_isToken_7 (by decide) (fun c7 => ?_) (fun c7 => ?_)
  · have hne : e - a = 4 := (nI_eq (b := 4) (by omega) (by decide)).mp (by rw [← pk_sub hae, ← hy, ← hz]; exact c7)
    refine ex_iconst (v := 0) dX7_isToken_12 (by decide) ?_
    refine ex_istore [(4, .int 0), (0, .ref r), (1, .int y), (2, .int z), (3, .ref (g.2.2.2.2 11))] dX7_isToken_13 (by decide) rfl ?_
    refine ex_iload dX7_isToken_15 0 rfl ?_
    refine ex_aload_n dX7_isToken_17 4 rfl ?_
    refine ex_cVC (q := ("java/lang/String", 11)) [] [.int 0] dX7_isToken_18 cV_X7_138 (c_len_1 g) cO_5 rfl rfl (by decide) (Nat.le_of_ble_eq_true rfl) rfl ?_
    refine ex_icmp_ge (tgt := 49) dX7_isToken_21 (by decide) (fun c21 => absurd c21 (by decide)) (fun c21 => ?_)
    refine ex_aload_n dX7_isToken_24 1 rfl ?_
    refine ex_iload_n dX7_isToken_25 2 rfl ?_
    refine ex_iload dX7_isToken_26 0 rfl ?_
    refine ex_iadd dX7_isToken_28 ?_
    refine ex_cVr [.int (y + 0)] [] dX7_isToken_29 cV_X7_116 (r_byteAt g hP (j := a) (by rw [hy]; exact nI_add _ 0) (by omega)) hP.1.1 hP.1.2 rfl rfl rfl (by decide) (Nat.le_of_ble_eq_true rfl) rfl ?_
    refine ex_aload_n dX7_isToken_32 4 rfl ?_
    refine ex_iload dX7_isToken_33 0 rfl ?_
    refine ex_cVC (q := ("java/lang/String", 11)) [.int 0] [.int (sg (pb T N (a)))] dX7_isToken_35 cV_X7_140 (c_char_1_0 g) cO_5 rfl rfl (by decide) (Nat.le_of_ble_eq_true rfl) rfl ?_
    refine ex_icmp_eq (tgt := 43) dX7_isToken_38 (by decide) (fun c38 => ?_) (fun c38 => ?_)
    · have w0 : pb T N (a) = 100 := (sg_eq (c := 100) (pb_lt _ _ _) (by decide)).mp c38
      refine ex_iinc (v := 1) 0 [(4, .int 1), (0, .ref r), (1, .int y), (2, .int z), (3, .ref (g.2.2.2.2 11))] dX7_isToken_43 rfl (by decide) (by decide) rfl ?_
      refine ex_goto (tgt := 15) dX7_isToken_46 (by decide) ?_
      refine ex_iload dX7_isToken_15 0 rfl ?_
      refine ex_aload_n dX7_isToken_17 4 rfl ?_
      refine ex_cVC (q := ("java/lang/String", 11)) [] [.int 1] dX7_isToken_18 cV_X7_138 (c_len_1 g) cO_5 rfl rfl (by decide) (Nat.le_of_ble_eq_true rfl) rfl ?_
      refine ex_icmp_ge (tgt := 49) dX7_isToken_21 (by decide) (fun c21 => absurd c21 (by decide)) (fun c21 => ?_)
      refine ex_aload_n dX7_isToken_24 1 rfl ?_
      refine ex_iload_n dX7_isToken_25 2 rfl ?_
      refine ex_iload dX7_isToken_26 0 rfl ?_
      refine ex_iadd dX7_isToken_28 ?_
      refine ex_cVr [.int (y + 1)] [] dX7_isToken_29 cV_X7_116 (r_byteAt g hP (j := a + 1) (by rw [hy]; exact nI_add _ 1) (by omega)) hP.1.1 hP.1.2 rfl rfl rfl (by decide) (Nat.le_of_ble_eq_true rfl) rfl ?_
      refine ex_aload_n dX7_isToken_32 4 rfl ?_
      refine ex_iload dX7_isToken_33 0 rfl ?_
      refine ex_cVC (q := ("java/lang/String", 11)) [.int 1] [.int (sg (pb T N (a + 1)))] dX7_isToken_35 cV_X7_140 (c_char_1_1 g) cO_5 rfl rfl (by decide) (Nat.le_of_ble_eq_true rfl) rfl ?_
      refine ex_icmp_eq (tgt := 43) dX7_isToken_38 (by decide) (fun c38 => ?_) (fun c38 => ?_)
      · have w1 : pb T N (a + 1) = 97 := (sg_eq (c := 97) (pb_lt _ _ _) (by decide)).mp c38
        refine ex_iinc (v := 2) 0 [(4, .int 2), (0, .ref r), (1, .int y), (2, .int z), (3, .ref (g.2.2.2.2 11))] dX7_isToken_43 rfl (by decide) (by decide) rfl ?_
        refine ex_goto (tgt := 15) dX7_isToken_46 (by decide) ?_
        refine ex_iload dX7_isToken_15 0 rfl ?_
        refine ex_aload_n dX7_isToken_17 4 rfl ?_
        refine ex_cVC (q := ("java/lang/String", 11)) [] [.int 2] dX7_isToken_18 cV_X7_138 (c_len_1 g) cO_5 rfl rfl (by decide) (Nat.le_of_ble_eq_true rfl) rfl ?_
        refine ex_icmp_ge (tgt := 49) dX7_isToken_21 (by decide) (fun c21 => absurd c21 (by decide)) (fun c21 => ?_)
        refine ex_aload_n dX7_isToken_24 1 rfl ?_
        refine ex_iload_n dX7_isToken_25 2 rfl ?_
        refine ex_iload dX7_isToken_26 0 rfl ?_
        refine ex_iadd dX7_isToken_28 ?_
        refine ex_cVr [.int (y + 2)] [] dX7_isToken_29 cV_X7_116 (r_byteAt g hP (j := a + 1 + 1) (by rw [hy]; exact nI_add _ 2) (by omega)) hP.1.1 hP.1.2 rfl rfl rfl (by decide) (Nat.le_of_ble_eq_true rfl) rfl ?_
        refine ex_aload_n dX7_isToken_32 4 rfl ?_
        refine ex_iload dX7_isToken_33 0 rfl ?_
        refine ex_cVC (q := ("java/lang/String", 11)) [.int 2] [.int (sg (pb T N (a + 1 + 1)))] dX7_isToken_35 cV_X7_140 (c_char_1_2 g) cO_5 rfl rfl (by decide) (Nat.le_of_ble_eq_true rfl) rfl ?_
        refine ex_icmp_eq (tgt := 43) dX7_isToken_38 (by decide) (fun c38 => ?_) (fun c38 => ?_)
        · have w2 : pb T N (a + 1 + 1) = 121 := (sg_eq (c := 121) (pb_lt _ _ _) (by decide)).mp c38
          refine ex_iinc (v := 3) 0 [(4, .int 3), (0, .ref r), (1, .int y), (2, .int z), (3, .ref (g.2.2.2.2 11))] dX7_isToken_43 rfl (by decide) (by decide) rfl ?_
          refine ex_goto (tgt := 15) dX7_isToken_46 (by decide) ?_
          refine ex_iload dX7_isToken_15 0 rfl ?_
          refine ex_aload_n dX7_isToken_17 4 rfl ?_
          refine ex_cVC (q := ("java/lang/String", 11)) [] [.int 3] dX7_isToken_18 cV_X7_138 (c_len_1 g) cO_5 rfl rfl (by decide) (Nat.le_of_ble_eq_true rfl) rfl ?_
          refine ex_icmp_ge (tgt := 49) dX7_isToken_21 (by decide) (fun c21 => absurd c21 (by decide)) (fun c21 => ?_)
          refine ex_aload_n dX7_isToken_24 1 rfl ?_
          refine ex_iload_n dX7_isToken_25 2 rfl ?_
          refine ex_iload dX7_isToken_26 0 rfl ?_
          refine ex_iadd dX7_isToken_28 ?_
          refine ex_cVr [.int (y + 3)] [] dX7_isToken_29 cV_X7_116 (r_byteAt g hP (j := a + 1 + 1 + 1) (by rw [hy]; exact nI_add _ 3) (by omega)) hP.1.1 hP.1.2 rfl rfl rfl (by decide) (Nat.le_of_ble_eq_true rfl) rfl ?_
          refine ex_aload_n dX7_isToken_32 4 rfl ?_
          refine ex_iload dX7_isToken_33 0 rfl ?_
          refine ex_cVC (q := ("java/lang/String", 11)) [.int 3] [.int (sg (pb T N (a + 1 + 1 + 1)))] dX7_isToken_35 cV_X7_140 (c_char_1_3 g) cO_5 rfl rfl (by decide) (Nat.le_of_ble_eq_true rfl) rfl ?_
          refine ex_icmp_eq (tgt := 43) dX7_isToken_38 (by decide) (fun c38 => ?_) (fun c38 => ?_)
          · have w3 : pb T N (a + 1 + 1 + 1) = 115 := (sg_eq (c := 115) (pb_lt _ _ _) (by decide)).mp c38
            refine ex_iinc (v := 4) 0 [(4, .int 4), (0, .ref r), (1, .int y), (2, .int z), (3, .ref (g.2.2.2.2 11))] dX7_isToken_43 rfl (by decide) (by decide) rfl ?_
            refine ex_goto (tgt := 15) dX7_isToken_46 (by decide) ?_
            refine ex_iload dX7_isToken_15 0 rfl ?_
            refine ex_aload_n dX7_isToken_17 4 rfl ?_
            refine ex_cVC (q := ("java/lang/String", 11)) [] [.int 4] dX7_isToken_18 cV_X7_138 (c_len_1 g) cO_5 rfl rfl (by decide) (Nat.le_of_ble_eq_true rfl) rfl ?_
            refine ex_icmp_ge (tgt := 49) dX7_isToken_21 (by decide) (fun c21 => ?_) (fun c21 => absurd (by decide) c21)
            refine ex_iconst (v := 1) dX7_isToken_49 (by decide) ?_
            exact ex_bret rfl (by decide) dX7_isToken_50 (ex_rt_e (by rw [if_pos ⟨hne, by simp only [mt_cons, mt_nil]; exact ⟨w0, w1, w2, w3, trivial⟩⟩]))
          · refine ex_iconst (v := 0) dX7_isToken_41 (by decide) ?_
            exact ex_bret rfl (by decide) dX7_isToken_42 (ex_rt_e (by rw [if_neg (fun z => by have z := z.2; simp only [mt_cons] at z; exact c38 (by rw [z.2.2.2.1]; rfl))]))
        · refine ex_iconst (v := 0) dX7_isToken_41 (by decide) ?_
          exact ex_bret rfl (by decide) dX7_isToken_42 (ex_rt_e (by rw [if_neg (fun z => by have z := z.2; simp only [mt_cons] at z; exact c38 (by rw [z.2.2.1]; rfl))]))
      · refine ex_iconst (v := 0) dX7_isToken_41 (by decide) ?_
        exact ex_bret rfl (by decide) dX7_isToken_42 (ex_rt_e (by rw [if_neg (fun z => by have z := z.2; simp only [mt_cons] at z; exact c38 (by rw [z.2.1]; rfl))]))
    · refine ex_iconst (v := 0) dX7_isToken_41 (by decide) ?_
      exact ex_bret rfl (by decide) dX7_isToken_42 (ex_rt_e (by rw [if_neg (fun z => by have z := z.2; simp only [mt_cons] at z; exact c38 (by rw [z.1]; rfl))]))
  · have hne : ¬ e - a = 4 := fun q => c7 (by rw [hy, hz, pk_sub hae, q]; rfl)
    refine ex_iconst (v := 0) dX7_isToken_10 (by decide) ?_
    exact ex_bret rfl (by decide) dX7_isToken_11 (ex_rt_e (by rw [if_neg (fun q => hne q.1)]))
set_option maxRecDepth 20000 in
set_option maxHeartbeats 4000000 in
theorem r_isTok_2 (g : gl_T) {S : hs_T} {n k : Nat} {r tp N : Nat} {T : List Int32} {p : ps_T} (hP : RS S r tp T N p) {y z : Int32} {a e : Nat} (hy : y = nI a) (hz : z = nI e) (hae : a ≤ e) (heN : e ≤ N) : ex_M g 4 mX7_isToken [.ref r, .int y, .int z, .ref (g.2.2.2.2 12)] S n k (ex_rt (some (.int (if e - a = 4 ∧ mt (pb T N) a [116, 105, 101, 114] then 1 else 0))) S n k) := by
  have hN4 := hP.2.2.2.2.1
  have hpN := hP.2.2.2.2.2.1
  refine ex_enter (by decide +kernel) (Nat.le_of_ble_eq_true rfl) ?_
  show ex_W _ _ _ _ 0 [(0, .ref r), (1, .int y), (2, .int z), (3, .ref (g.2.2.2.2 12))] [] _ _ _
  refine ex_iload_n dX7_isToken_0 2 rfl ?_
  refine ex_iload_n dX7_isToken_1 1 rfl ?_
  refine ex_isub dX7_isToken_2 ?_
  refine ex_aload_n dX7_isToken_3 3 rfl ?_
  refine ex_cVC (q := ("java/lang/String", 12)) [] [.int (z - y)] dX7_isToken_4 cV_X7_138 (c_len_2 g) cO_6 rfl rfl (by decide) (Nat.le_of_ble_eq_true rfl) rfl ?_
  refine ex_icmp_eq (tgt := 12) dX7_isToken_7 (by decide) (fun c7 => ?_) (fun c7 => ?_)
  · have hne : e - a = 4 := (nI_eq (b := 4) (by omega) (by decide)).mp (by rw [← pk_sub hae, ← hy, ← hz]; exact c7)
    refine ex_iconst (v := 0) dX7_isToken_12 (by decide) ?_
    refine ex_istore [(4, .int 0), (0, .ref r), (1, .int y), (2, .int z), (3, .ref (g.2.2.2.2 12))] dX7_isToken_13 (by decide) rfl ?_
    refine ex_iload dX7_isToken_15 0 rfl ?_
    refine ex_aload_n dX7_isToken_17 4 rfl ?_
    refine ex_cVC (q := ("java/lang/String", 12)) [] [.int 0] dX7_isToken_18 cV_X7_138 (c_len_2 g) cO_6 rfl rfl (by decide) (Nat.le_of_ble_eq_true rfl) rfl ?_
    refine ex_icmp_ge (tgt := 49) dX7_isToken_21 (by decide) (fun c21 => absurd c21 (by decide)) (fun c21 => ?_)
    refine ex_aload_n dX7_isToken_24 1 rfl ?_
    refine ex_iload_n dX7_isToken_25 2 rfl ?_
    refine ex_iload dX7_isToken_26 0 rfl ?_
    refine ex_iadd dX7_isToken_28 ?_
    refine ex_cVr [.int (y + 0)] [] dX7_isToken_29 cV_X7_116 (r_byteAt g hP (j := a) (by rw [hy]; exact nI_add _ 0) (by omega)) hP.1.1 hP.1.2 rfl rfl rfl (by decide) (Nat.le_of_ble_eq_true rfl) rfl ?_
    refine ex_aload_n dX7_isToken_32 4 rfl ?_
    refine ex_iload dX7_isToken_33 0 rfl ?_
    refine ex_cVC (q := ("java/lang/String", 12)) [.int 0] [.int (sg (pb T N (a)))] dX7_isToken_35 cV_X7_140 (c_char_2_0 g) cO_6 rfl rfl (by decide) (Nat.le_of_ble_eq_true rfl) rfl ?_
    refine ex_icmp_eq (tgt := 43) dX7_isToken_38 (by decide) (fun c38 => ?_) (fun c38 => ?_)
    · have w0 : pb T N (a) = 116 := (sg_eq (c := 116) (pb_lt _ _ _) (by decide)).mp c38
      refine ex_iinc (v := 1) 0 [(4, .int 1), (0, .ref r), (1, .int y), (2, .int z), (3, .ref (g.2.2.2.2 12))] dX7_isToken_43 rfl (by decide) (by decide) rfl ?_
      refine ex_goto (tgt := 15) dX7_isToken_46 (by decide) ?_
      refine ex_iload dX7_isToken_15 0 rfl ?_
      refine ex_aload_n dX7_isToken_17 4 rfl ?_
      refine ex_cVC (q := ("java/lang/String", 12)) [] [.int 1] dX7_isToken_18 cV_X7_138 (c_len_2 g) cO_6 rfl rfl (by decide) (Nat.le_of_ble_eq_true rfl) rfl ?_
      refine ex_icmp_ge (tgt := 49) dX7_isToken_21 (by decide) (fun c21 => absurd c21 (by decide)) (fun c21 => ?_)
      refine ex_aload_n dX7_isToken_24 1 rfl ?_
      refine ex_iload_n dX7_isToken_25 2 rfl ?_
      refine ex_iload dX7_isToken_26 0 rfl ?_
      refine ex_iadd dX7_isToken_28 ?_
      refine ex_cVr [.int (y + 1)] [] dX7_isToken_29 cV_X7_116 (r_byteAt g hP (j := a + 1) (by rw [hy]; exact nI_add _ 1) (by omega)) hP.1.1 hP.1.2 rfl rfl rfl (by decide) (Nat.le_of_ble_eq_true rfl) rfl ?_
      refine ex_aload_n dX7_isToken_32 4 rfl ?_
      refine ex_iload dX7_isToken_33 0 rfl ?_
      refine ex_cVC (q := ("java/lang/String", 12)) [.int 1] [.int (sg (pb T N (a + 1)))] dX7_isToken_35 cV_X7_140 (c_char_2_1 g) cO_6 rfl rfl (by decide) (Nat.le_of_ble_eq_true rfl) rfl ?_
      refine ex_icmp_eq (tgt := 43) dX7_isToken_38 (by decide) (fun c38 => ?_) (fun c38 => ?_)
      · have w1 : pb T N (a + 1) = 105 := (sg_eq (c := 105) (pb_lt _ _ _) (by decide)).mp c38
        refine ex_iinc (v := 2) 0 [(4, .int 2), (0, .ref r), (1, .int y), (2, .int z), (3, .ref (g.2.2.2.2 12))] dX7_isToken_43 rfl (by decide) (by decide) rfl ?_
        refine ex_goto (tgt := 15) dX7_isToken_46 (by decide) ?_
        refine ex_iload dX7_isToken_15 0 rfl ?_
        refine ex_aload_n dX7_isToken_17 4 rfl ?_
        refine ex_cVC (q := ("java/lang/String", 12)) [] [.int 2] dX7_isToken_18 cV_X7_138 (c_len_2 g) cO_6 rfl rfl (by decide) (Nat.le_of_ble_eq_true rfl) rfl ?_
        refine ex_icmp_ge (tgt := 49) dX7_isToken_21 (by decide) (fun c21 => absurd c21 (by decide)) (fun c21 => ?_)
        refine ex_aload_n dX7_isToken_24 1 rfl ?_
        refine ex_iload_n dX7_isToken_25 2 rfl ?_
        refine ex_iload dX7_isToken_26 0 rfl ?_
        refine ex_iadd dX7_isToken_28 ?_
        refine ex_cVr [.int (y + 2)] [] dX7_isToken_29 cV_X7_116 (r_byteAt g hP (j := a + 1 + 1) (by rw [hy]; exact nI_add _ 2) (by omega)) hP.1.1 hP.1.2 rfl rfl rfl (by decide) (Nat.le_of_ble_eq_true rfl) rfl ?_
        refine ex_aload_n dX7_isToken_32 4 rfl ?_
        refine ex_iload dX7_isToken_33 0 rfl ?_
        refine ex_cVC (q := ("java/lang/String", 12)) [.int 2] [.int (sg (pb T N (a + 1 + 1)))] dX7_isToken_35 cV_X7_140 (c_char_2_2 g) cO_6 rfl rfl (by decide) (Nat.le_of_ble_eq_true rfl) rfl ?_
        refine ex_icmp_eq (tgt := 43) dX7_isToken_38 (by decide) (fun c38 => ?_) (fun c38 => ?_)
        · have w2 : pb T N (a + 1 + 1) = 101 := (sg_eq (c := 101) (pb_lt _ _ _) (by decide)).mp c38
          refine ex_iinc (v := 3) 0 [(4, .int 3), (0, .ref r), (1, .int y), (2, .int z), (3, .ref (g.2.2.2.2 12))] dX7_isToken_43 rfl (by decide) (by decide) rfl ?_
          refine ex_goto (tgt := 15) dX7_isToken_46 (by decide) ?_
          refine ex_iload dX7_isToken_15 0 rfl ?_
          refine ex_aload_n dX7_isToken_17 4 rfl ?_
          refine ex_cVC (q := ("java/lang/String", 12)) [] [.int 3] dX7_isToken_18 cV_X7_138 (c_len_2 g) cO_6 rfl rfl (by decide) (Nat.le_of_ble_eq_true rfl) rfl ?_
          refine ex_icmp_ge (tgt := 49) dX7_isToken_21 (by decide) (fun c21 => absurd c21 (by decide)) (fun c21 => ?_)
          refine ex_aload_n dX7_isToken_24 1 rfl ?_
          refine ex_iload_n dX7_isToken_25 2 rfl ?_
          refine ex_iload dX7_isToken_26 0 rfl ?_
          refine ex_iadd dX7_isToken_28 ?_
          refine ex_cVr [.int (y + 3)] [] dX7_isToken_29 cV_X7_116 (r_byteAt g hP (j := a + 1 + 1 + 1) (by rw [hy]; exact nI_add _ 3) (by omega)) hP.1.1 hP.1.2 rfl rfl rfl (by decide) (Nat.le_of_ble_eq_true rfl) rfl ?_
          refine ex_aload_n dX7_isToken_32 4 rfl ?_
          refine ex_iload dX7_isToken_33 0 rfl ?_
          refine ex_cVC (q := ("java/lang/String", 12)) [.int 3] [.int (sg (pb T N (a + 1 + 1 + 1)))] dX7_isToken_35 cV_X7_140 (c_char_2_3 g) cO_6 rfl rfl (by decide) (Nat.le_of_ble_eq_true rfl) rfl ?_
          refine ex_icmp_eq (tgt := 43) dX7_isToken_38 (by decide) (fun c38 => ?_) (fun c38 => ?_)
          · have w3 : pb T N (a + 1 + 1 + 1) = 114 := (sg_eq (c := 114) (pb_lt _ _ _) (by decide)).mp c38
            refine ex_iinc (v := 4) 0 [(4, .int 4), (0, .ref r), (1, .int y), (2, .int z), (3, .ref (g.2.2.2.2 12))] dX7_isToken_43 rfl (by decide) (by decide) rfl ?_
            refine ex_goto (tgt := 15) dX7_isToken_46 (by decide) ?_
            refine ex_iload dX7_isToken_15 0 rfl ?_
            refine ex_aload_n dX7_isToken_17 4 rfl ?_
            refine ex_cVC (q := ("java/lang/String", 12)) [] [.int 4] dX7_isToken_18 cV_X7_138 (c_len_2 g) cO_6 rfl rfl (by decide) (Nat.le_of_ble_eq_true rfl) rfl ?_
            refine ex_icmp_ge (tgt := 49) dX7_isToken_21 (by decide) (fun c21 => ?_) (fun c21 => absurd (by decide) c21)
            refine ex_iconst (v := 1) dX7_isToken_49 (by decide) ?_
            exact ex_bret rfl (by decide) dX7_isToken_50 (ex_rt_e (by rw [if_pos ⟨hne, by simp only [mt_cons, mt_nil]; exact ⟨w0, w1, w2, w3, trivial⟩⟩]))
          · refine ex_iconst (v := 0) dX7_isToken_41 (by decide) ?_
            exact ex_bret rfl (by decide) dX7_isToken_42 (ex_rt_e (by rw [if_neg (fun z => by have z := z.2; simp only [mt_cons] at z; exact c38 (by rw [z.2.2.2.1]; rfl))]))
        · refine ex_iconst (v := 0) dX7_isToken_41 (by decide) ?_
          exact ex_bret rfl (by decide) dX7_isToken_42 (ex_rt_e (by rw [if_neg (fun z => by have z := z.2; simp only [mt_cons] at z; exact c38 (by rw [z.2.2.1]; rfl))]))
      · refine ex_iconst (v := 0) dX7_isToken_41 (by decide) ?_
        exact ex_bret rfl (by decide) dX7_isToken_42 (ex_rt_e (by rw [if_neg (fun z => by have z := z.2; simp only [mt_cons] at z; exact c38 (by rw [z.2.1]; rfl))]))
    · refine ex_iconst (v := 0) dX7_isToken_41 (by decide) ?_
      exact ex_bret rfl (by decide) dX7_isToken_42 (ex_rt_e (by rw [if_neg (fun z => by have z := z.2; simp only [mt_cons] at z; exact c38 (by rw [z.1]; rfl))]))
  · have hne : ¬ e - a = 4 := fun q => c7 (by rw [hy, hz, pk_sub hae, q]; rfl)
    refine ex_iconst (v := 0) dX7_isToken_10 (by decide) ?_
    exact ex_bret rfl (by decide) dX7_isToken_11 (ex_rt_e (by rw [if_neg (fun q => hne q.1)]))
set_option maxRecDepth 20000 in
set_option maxHeartbeats 4000000 in
theorem r_isTok_3 (g : gl_T) {S : hs_T} {n k : Nat} {r tp N : Nat} {T : List Int32} {p : ps_T} (hP : RS S r tp T N p) {y z : Int32} {a e : Nat} (hy : y = nI a) (hz : z = nI e) (hae : a ≤ e) (heN : e ≤ N) : ex_M g 4 mX7_isToken [.ref r, .int y, .int z, .ref (g.2.2.2.2 13)] S n k (ex_rt (some (.int (if e - a = 5 ∧ mt (pb T N) a [115, 104, 97, 114, 101] then 1 else 0))) S n k) := by
  have hN4 := hP.2.2.2.2.1
  have hpN := hP.2.2.2.2.2.1
  refine ex_enter (by decide +kernel) (Nat.le_of_ble_eq_true rfl) ?_
  show ex_W _ _ _ _ 0 [(0, .ref r), (1, .int y), (2, .int z), (3, .ref (g.2.2.2.2 13))] [] _ _ _
  refine ex_iload_n dX7_isToken_0 2 rfl ?_
  refine ex_iload_n dX7_isToken_1 1 rfl ?_
  refine ex_isub dX7_isToken_2 ?_
  refine ex_aload_n dX7_isToken_3 3 rfl ?_
  refine ex_cVC (q := ("java/lang/String", 13)) [] [.int (z - y)] dX7_isToken_4 cV_X7_138 (c_len_3 g) cO_7 rfl rfl (by decide) (Nat.le_of_ble_eq_true rfl) rfl ?_
  refine ex_icmp_eq (tgt := 12) dX7_isToken_7 (by decide) (fun c7 => ?_) (fun c7 => ?_)
  · have hne : e - a = 5 := (nI_eq (b := 5) (by omega) (by decide)).mp (by rw [← pk_sub hae, ← hy, ← hz]; exact c7)
    refine ex_iconst (v := 0) dX7_isToken_12 (by decide) ?_
    refine ex_istore [(4, .int 0), (0, .ref r), (1, .int y), (2, .int z), (3, .ref (g.2.2.2.2 13))] dX7_isToken_13 (by decide) rfl ?_
    refine ex_iload dX7_isToken_15 0 rfl ?_
    refine ex_aload_n dX7_isToken_17 4 rfl ?_
    refine ex_cVC (q := ("java/lang/String", 13)) [] [.int 0] dX7_isToken_18 cV_X7_138 (c_len_3 g) cO_7 rfl rfl (by decide) (Nat.le_of_ble_eq_true rfl) rfl ?_
    refine ex_icmp_ge (tgt := 49) dX7_isToken_21 (by decide) (fun c21 => absurd c21 (by decide)) (fun c21 => ?_)
    refine ex_aload_n dX7_isToken_24 1 rfl ?_
    refine ex_iload_n dX7_isToken_25 2 rfl ?_
    refine ex_iload dX7_isToken_26 0 rfl ?_
    refine ex_iadd dX7_isToken_28 ?_
    refine ex_cVr [.int (y + 0)] [] dX7_isToken_29 cV_X7_116 (r_byteAt g hP (j := a) (by rw [hy]; exact nI_add _ 0) (by omega)) hP.1.1 hP.1.2 rfl rfl rfl (by decide) (Nat.le_of_ble_eq_true rfl) rfl ?_
    refine ex_aload_n dX7_isToken_32 4 rfl ?_
    refine ex_iload dX7_isToken_33 0 rfl ?_
    refine ex_cVC (q := ("java/lang/String", 13)) [.int 0] [.int (sg (pb T N (a)))] dX7_isToken_35 cV_X7_140 (c_char_3_0 g) cO_7 rfl rfl (by decide) (Nat.le_of_ble_eq_true rfl) rfl ?_
    refine ex_icmp_eq (tgt := 43) dX7_isToken_38 (by decide) (fun c38 => ?_) (fun c38 => ?_)
    · have w0 : pb T N (a) = 115 := (sg_eq (c := 115) (pb_lt _ _ _) (by decide)).mp c38
      refine ex_iinc (v := 1) 0 [(4, .int 1), (0, .ref r), (1, .int y), (2, .int z), (3, .ref (g.2.2.2.2 13))] dX7_isToken_43 rfl (by decide) (by decide) rfl ?_
      refine ex_goto (tgt := 15) dX7_isToken_46 (by decide) ?_
      refine ex_iload dX7_isToken_15 0 rfl ?_
      refine ex_aload_n dX7_isToken_17 4 rfl ?_
      refine ex_cVC (q := ("java/lang/String", 13)) [] [.int 1] dX7_isToken_18 cV_X7_138 (c_len_3 g) cO_7 rfl rfl (by decide) (Nat.le_of_ble_eq_true rfl) rfl ?_
      refine ex_icmp_ge (tgt := 49) dX7_isToken_21 (by decide) (fun c21 => absurd c21 (by decide)) (fun c21 => ?_)
      refine ex_aload_n dX7_isToken_24 1 rfl ?_
      refine ex_iload_n dX7_isToken_25 2 rfl ?_
      refine ex_iload dX7_isToken_26 0 rfl ?_
      refine ex_iadd dX7_isToken_28 ?_
      refine ex_cVr [.int (y + 1)] [] dX7_isToken_29 cV_X7_116 (r_byteAt g hP (j := a + 1) (by rw [hy]; exact nI_add _ 1) (by omega)) hP.1.1 hP.1.2 rfl rfl rfl (by decide) (Nat.le_of_ble_eq_true rfl) rfl ?_
      refine ex_aload_n dX7_isToken_32 4 rfl ?_
      refine ex_iload dX7_isToken_33 0 rfl ?_
      refine ex_cVC (q := ("java/lang/String", 13)) [.int 1] [.int (sg (pb T N (a + 1)))] dX7_isToken_35 cV_X7_140 (c_char_3_1 g) cO_7 rfl rfl (by decide) (Nat.le_of_ble_eq_true rfl) rfl ?_
      refine ex_icmp_eq (tgt := 43) dX7_isToken_38 (by decide) (fun c38 => ?_) (fun c38 => ?_)
      · have w1 : pb T N (a + 1) = 104 := (sg_eq (c := 104) (pb_lt _ _ _) (by decide)).mp c38
        refine ex_iinc (v := 2) 0 [(4, .int 2), (0, .ref r), (1, .int y), (2, .int z), (3, .ref (g.2.2.2.2 13))] dX7_isToken_43 rfl (by decide) (by decide) rfl ?_
        refine ex_goto (tgt := 15) dX7_isToken_46 (by decide) ?_
        refine ex_iload dX7_isToken_15 0 rfl ?_
        refine ex_aload_n dX7_isToken_17 4 rfl ?_
        refine ex_cVC (q := ("java/lang/String", 13)) [] [.int 2] dX7_isToken_18 cV_X7_138 (c_len_3 g) cO_7 rfl rfl (by decide) (Nat.le_of_ble_eq_true rfl) rfl ?_
        refine ex_icmp_ge (tgt := 49) dX7_isToken_21 (by decide) (fun c21 => absurd c21 (by decide)) (fun c21 => ?_)
        refine ex_aload_n dX7_isToken_24 1 rfl ?_
        refine ex_iload_n dX7_isToken_25 2 rfl ?_
        refine ex_iload dX7_isToken_26 0 rfl ?_
        refine ex_iadd dX7_isToken_28 ?_
        refine ex_cVr [.int (y + 2)] [] dX7_isToken_29 cV_X7_116 (r_byteAt g hP (j := a + 1 + 1) (by rw [hy]; exact nI_add _ 2) (by omega)) hP.1.1 hP.1.2 rfl rfl rfl (by decide) (Nat.le_of_ble_eq_true rfl) rfl ?_
        refine ex_aload_n dX7_isToken_32 4 rfl ?_
        refine ex_iload dX7_isToken_33 0 rfl ?_
        refine ex_cVC (q := ("java/lang/String", 13)) [.int 2] [.int (sg (pb T N (a + 1 + 1)))] dX7_isToken_35 cV_X7_140 (c_char_3_2 g) cO_7 rfl rfl (by decide) (Nat.le_of_ble_eq_true rfl) rfl ?_
        refine ex_icmp_eq (tgt := 43) dX7_isToken_38 (by decide) (fun c38 => ?_) (fun c38 => ?_)
        · have w2 : pb T N (a + 1 + 1) = 97 := (sg_eq (c := 97) (pb_lt _ _ _) (by decide)).mp c38
          refine ex_iinc (v := 3) 0 [(4, .int 3), (0, .ref r), (1, .int y), (2, .int z), (3, .ref (g.2.2.2.2 13))] dX7_isToken_43 rfl (by decide) (by decide) rfl ?_
          refine ex_goto (tgt := 15) dX7_isToken_46 (by decide) ?_
          refine ex_iload dX7_isToken_15 0 rfl ?_
          refine ex_aload_n dX7_isToken_17 4 rfl ?_
          refine ex_cVC (q := ("java/lang/String", 13)) [] [.int 3] dX7_isToken_18 cV_X7_138 (c_len_3 g) cO_7 rfl rfl (by decide) (Nat.le_of_ble_eq_true rfl) rfl ?_
          refine ex_icmp_ge (tgt := 49) dX7_isToken_21 (by decide) (fun c21 => absurd c21 (by decide)) (fun c21 => ?_)
          refine ex_aload_n dX7_isToken_24 1 rfl ?_
          refine ex_iload_n dX7_isToken_25 2 rfl ?_
          refine ex_iload dX7_isToken_26 0 rfl ?_
          refine ex_iadd dX7_isToken_28 ?_
          refine ex_cVr [.int (y + 3)] [] dX7_isToken_29 cV_X7_116 (r_byteAt g hP (j := a + 1 + 1 + 1) (by rw [hy]; exact nI_add _ 3) (by omega)) hP.1.1 hP.1.2 rfl rfl rfl (by decide) (Nat.le_of_ble_eq_true rfl) rfl ?_
          refine ex_aload_n dX7_isToken_32 4 rfl ?_
          refine ex_iload dX7_isToken_33 0 rfl ?_
          refine ex_cVC (q := ("java/lang/String", 13)) [.int 3] [.int (sg (pb T N (a + 1 + 1 + 1)))] dX7_isToken_35 cV_X7_140 (c_char_3_3 g) cO_7 rfl rfl (by decide) (Nat.le_of_ble_eq_true rfl) rfl ?_
          refine ex_icmp_eq (tgt := 43) dX7_isToken_38 (by decide) (fun c38 => ?_) (fun c38 => ?_)
          · have w3 : pb T N (a + 1 + 1 + 1) = 114 := (sg_eq (c := 114) (pb_lt _ _ _) (by decide)).mp c38
            refine ex_iinc (v := 4) 0 [(4, .int 4), (0, .ref r), (1, .int y), (2, .int z), (3, .ref (g.2.2.2.2 13))] dX7_isToken_43 rfl (by decide) (by decide) rfl ?_
            refine ex_goto (tgt := 15) dX7_isToken_46 (by decide) ?_
            refine ex_iload dX7_isToken_15 0 rfl ?_
            refine ex_aload_n dX7_isToken_17 4 rfl ?_
            refine ex_cVC (q := ("java/lang/String", 13)) [] [.int 4] dX7_isToken_18 cV_X7_138 (c_len_3 g) cO_7 rfl rfl (by decide) (Nat.le_of_ble_eq_true rfl) rfl ?_
            refine ex_icmp_ge (tgt := 49) dX7_isToken_21 (by decide) (fun c21 => absurd c21 (by decide)) (fun c21 => ?_)
            refine ex_aload_n dX7_isToken_24 1 rfl ?_
            refine ex_iload_n dX7_isToken_25 2 rfl ?_
            refine ex_iload dX7_isToken_26 0 rfl ?_
            refine ex_iadd dX7_isToken_28 ?_
            refine ex_cVr [.int (y + 4)] [] dX7_isToken_29 cV_X7_116 (r_byteAt g hP (j := a + 1 + 1 + 1 + 1) (by rw [hy]; exact nI_add _ 4) (by omega)) hP.1.1 hP.1.2 rfl rfl rfl (by decide) (Nat.le_of_ble_eq_true rfl) rfl ?_
            refine ex_aload_n dX7_isToken_32 4 rfl ?_
            refine ex_iload dX7_isToken_33 0 rfl ?_
            refine ex_cVC (q := ("java/lang/String", 13)) [.int 4] [.int (sg (pb T N (a + 1 + 1 + 1 + 1)))] dX7_isToken_35 cV_X7_140 (c_char_3_4 g) cO_7 rfl rfl (by decide) (Nat.le_of_ble_eq_true rfl) rfl ?_
            refine ex_icmp_eq (tgt := 43) dX7_isToken_38 (by decide) (fun c38 => ?_) (fun c38 => ?_)
            · have w4 : pb T N (a + 1 + 1 + 1 + 1) = 101 := (sg_eq (c := 101) (pb_lt _ _ _) (by decide)).mp c38
              refine ex_iinc (v := 5) 0 [(4, .int 5), (0, .ref r), (1, .int y), (2, .int z), (3, .ref (g.2.2.2.2 13))] dX7_isToken_43 rfl (by decide) (by decide) rfl ?_
              refine ex_goto (tgt := 15) dX7_isToken_46 (by decide) ?_
              refine ex_iload dX7_isToken_15 0 rfl ?_
              refine ex_aload_n dX7_isToken_17 4 rfl ?_
              refine ex_cVC (q := ("java/lang/String", 13)) [] [.int 5] dX7_isToken_18 cV_X7_138 (c_len_3 g) cO_7 rfl rfl (by decide) (Nat.le_of_ble_eq_true rfl) rfl ?_
              refine ex_icmp_ge (tgt := 49) dX7_isToken_21 (by decide) (fun c21 => ?_) (fun c21 => absurd (by decide) c21)
              refine ex_iconst (v := 1) dX7_isToken_49 (by decide) ?_
              exact ex_bret rfl (by decide) dX7_isToken_50 (ex_rt_e (by rw [if_pos ⟨hne, by simp only [mt_cons, mt_nil]; exact ⟨w0, w1, w2, w3, w4, trivial⟩⟩]))
            · refine ex_iconst (v := 0) dX7_isToken_41 (by decide) ?_
              exact ex_bret rfl (by decide) dX7_isToken_42 (ex_rt_e (by rw [if_neg (fun z => by have z := z.2; simp only [mt_cons] at z; exact c38 (by rw [z.2.2.2.2.1]; rfl))]))
          · refine ex_iconst (v := 0) dX7_isToken_41 (by decide) ?_
            exact ex_bret rfl (by decide) dX7_isToken_42 (ex_rt_e (by rw [if_neg (fun z => by have z := z.2; simp only [mt_cons] at z; exact c38 (by rw [z.2.2.2.1]; rfl))]))
        · refine ex_iconst (v := 0) dX7_isToken_41 (by decide) ?_
          exact ex_bret rfl (by decide) dX7_isToken_42 (ex_rt_e (by rw [if_neg (fun z => by have z := z.2; simp only [mt_cons] at z; exact c38 (by rw [z.2.2.1]; rfl))]))
      · refine ex_iconst (v := 0) dX7_isToken_41 (by decide) ?_
        exact ex_bret rfl (by decide) dX7_isToken_42 (ex_rt_e (by rw [if_neg (fun z => by have z := z.2; simp only [mt_cons] at z; exact c38 (by rw [z.2.1]; rfl))]))
    · refine ex_iconst (v := 0) dX7_isToken_41 (by decide) ?_
      exact ex_bret rfl (by decide) dX7_isToken_42 (ex_rt_e (by rw [if_neg (fun z => by have z := z.2; simp only [mt_cons] at z; exact c38 (by rw [z.1]; rfl))]))
  · have hne : ¬ e - a = 5 := fun q => c7 (by rw [hy, hz, pk_sub hae, q]; rfl)
    refine ex_iconst (v := 0) dX7_isToken_10 (by decide) ?_
    exact ex_bret rfl (by decide) dX7_isToken_11 (ex_rt_e (by rw [if_neg (fun q => hne q.1)]))
set_option maxRecDepth 20000 in
set_option maxHeartbeats 4000000 in
theorem r_isTok_5 (g : gl_T) {S : hs_T} {n k : Nat} {r tp N : Nat} {T : List Int32} {p : ps_T} (hP : RS S r tp T N p) {y z : Int32} {a e : Nat} (hy : y = nI a) (hz : z = nI e) (hae : a ≤ e) (heN : e ≤ N) : ex_M g 4 mX7_isToken [.ref r, .int y, .int z, .ref (g.2.2.2.2 15)] S n k (ex_rt (some (.int (if e - a = 1 ∧ mt (pb T N) a [47] then 1 else 0))) S n k) := by
  have hN4 := hP.2.2.2.2.1
  have hpN := hP.2.2.2.2.2.1
  refine ex_enter (by decide +kernel) (Nat.le_of_ble_eq_true rfl) ?_
  show ex_W _ _ _ _ 0 [(0, .ref r), (1, .int y), (2, .int z), (3, .ref (g.2.2.2.2 15))] [] _ _ _
  refine ex_iload_n dX7_isToken_0 2 rfl ?_
  refine ex_iload_n dX7_isToken_1 1 rfl ?_
  refine ex_isub dX7_isToken_2 ?_
  refine ex_aload_n dX7_isToken_3 3 rfl ?_
  refine ex_cVC (q := ("java/lang/String", 15)) [] [.int (z - y)] dX7_isToken_4 cV_X7_138 (c_len_5 g) cO_9 rfl rfl (by decide) (Nat.le_of_ble_eq_true rfl) rfl ?_
  refine ex_icmp_eq (tgt := 12) dX7_isToken_7 (by decide) (fun c7 => ?_) (fun c7 => ?_)
  · have hne : e - a = 1 := (nI_eq (b := 1) (by omega) (by decide)).mp (by rw [← pk_sub hae, ← hy, ← hz]; exact c7)
    refine ex_iconst (v := 0) dX7_isToken_12 (by decide) ?_
    refine ex_istore [(4, .int 0), (0, .ref r), (1, .int y), (2, .int z), (3, .ref (g.2.2.2.2 15))] dX7_isToken_13 (by decide) rfl ?_
    refine ex_iload dX7_isToken_15 0 rfl ?_
    refine ex_aload_n dX7_isToken_17 4 rfl ?_
    refine ex_cVC (q := ("java/lang/String", 15)) [] [.int 0] dX7_isToken_18 cV_X7_138 (c_len_5 g) cO_9 rfl rfl (by decide) (Nat.le_of_ble_eq_true rfl) rfl ?_
    refine ex_icmp_ge (tgt := 49) dX7_isToken_21 (by decide) (fun c21 => absurd c21 (by decide)) (fun c21 => ?_)
    refine ex_aload_n dX7_isToken_24 1 rfl ?_
    refine ex_iload_n dX7_isToken_25 2 rfl ?_
    refine ex_iload dX7_isToken_26 0 rfl ?_
    refine ex_iadd dX7_isToken_28 ?_
    refine ex_cVr [.int (y + 0)] [] dX7_isToken_29 cV_X7_116 (r_byteAt g hP (j := a) (by rw [hy]; exact nI_add _ 0) (by omega)) hP.1.1 hP.1.2 rfl rfl rfl (by decide) (Nat.le_of_ble_eq_true rfl) rfl ?_
    refine ex_aload_n dX7_isToken_32 4 rfl ?_
    refine ex_iload dX7_isToken_33 0 rfl ?_
    refine ex_cVC (q := ("java/lang/String", 15)) [.int 0] [.int (sg (pb T N (a)))] dX7_isToken_35 cV_X7_140 (c_char_5_0 g) cO_9 rfl rfl (by decide) (Nat.le_of_ble_eq_true rfl) rfl ?_
    refine ex_icmp_eq (tgt := 43) dX7_isToken_38 (by decide) (fun c38 => ?_) (fun c38 => ?_)
    · have w0 : pb T N (a) = 47 := (sg_eq (c := 47) (pb_lt _ _ _) (by decide)).mp c38
      refine ex_iinc (v := 1) 0 [(4, .int 1), (0, .ref r), (1, .int y), (2, .int z), (3, .ref (g.2.2.2.2 15))] dX7_isToken_43 rfl (by decide) (by decide) rfl ?_
      refine ex_goto (tgt := 15) dX7_isToken_46 (by decide) ?_
      refine ex_iload dX7_isToken_15 0 rfl ?_
      refine ex_aload_n dX7_isToken_17 4 rfl ?_
      refine ex_cVC (q := ("java/lang/String", 15)) [] [.int 1] dX7_isToken_18 cV_X7_138 (c_len_5 g) cO_9 rfl rfl (by decide) (Nat.le_of_ble_eq_true rfl) rfl ?_
      refine ex_icmp_ge (tgt := 49) dX7_isToken_21 (by decide) (fun c21 => ?_) (fun c21 => absurd (by decide) c21)
      refine ex_iconst (v := 1) dX7_isToken_49 (by decide) ?_
      exact ex_bret rfl (by decide) dX7_isToken_50 (ex_rt_e (by rw [if_pos ⟨hne, by simp only [mt_cons, mt_nil]; exact ⟨w0, trivial⟩⟩]))
    · refine ex_iconst (v := 0) dX7_isToken_41 (by decide) ?_
      exact ex_bret rfl (by decide) dX7_isToken_42 (ex_rt_e (by rw [if_neg (fun z => by have z := z.2; simp only [mt_cons] at z; exact c38 (by rw [z.1]; rfl))]))
  · have hne : ¬ e - a = 1 := fun q => c7 (by rw [hy, hz, pk_sub hae, q]; rfl)
    refine ex_iconst (v := 0) dX7_isToken_10 (by decide) ?_
    exact ex_bret rfl (by decide) dX7_isToken_11 (ex_rt_e (by rw [if_neg (fun q => hne q.1)]))
set_option maxRecDepth 20000 in
set_option maxHeartbeats 4000000 in
theorem r_isTok_6 (g : gl_T) {S : hs_T} {n k : Nat} {r tp N : Nat} {T : List Int32} {p : ps_T} (hP : RS S r tp T N p) {y z : Int32} {a e : Nat} (hy : y = nI a) (hz : z = nI e) (hae : a ≤ e) (heN : e ≤ N) : ex_M g 4 mX7_isToken [.ref r, .int y, .int z, .ref (g.2.2.2.2 16)] S n k (ex_rt (some (.int (if e - a = 1 ∧ mt (pb T N) a [120] then 1 else 0))) S n k) := by
  have hN4 := hP.2.2.2.2.1
  have hpN := hP.2.2.2.2.2.1
  refine ex_enter (by decide +kernel) (Nat.le_of_ble_eq_true rfl) ?_
  show ex_W _ _ _ _ 0 [(0, .ref r), (1, .int y), (2, .int z), (3, .ref (g.2.2.2.2 16))] [] _ _ _
  refine ex_iload_n dX7_isToken_0 2 rfl ?_
  refine ex_iload_n dX7_isToken_1 1 rfl ?_
  refine ex_isub dX7_isToken_2 ?_
  refine ex_aload_n dX7_isToken_3 3 rfl ?_
  refine ex_cVC (q := ("java/lang/String", 16)) [] [.int (z - y)] dX7_isToken_4 cV_X7_138 (c_len_6 g) cO_10 rfl rfl (by decide) (Nat.le_of_ble_eq_true rfl) rfl ?_
  refine ex_icmp_eq (tgt := 12) dX7_isToken_7 (by decide) (fun c7 => ?_) (fun c7 => ?_)
  · have hne : e - a = 1 := (nI_eq (b := 1) (by omega) (by decide)).mp (by rw [← pk_sub hae, ← hy, ← hz]; exact c7)
    refine ex_iconst (v := 0) dX7_isToken_12 (by decide) ?_
    refine ex_istore [(4, .int 0), (0, .ref r), (1, .int y), (2, .int z), (3, .ref (g.2.2.2.2 16))] dX7_isToken_13 (by decide) rfl ?_
    refine ex_iload dX7_isToken_15 0 rfl ?_
    refine ex_aload_n dX7_isToken_17 4 rfl ?_
    refine ex_cVC (q := ("java/lang/String", 16)) [] [.int 0] dX7_isToken_18 cV_X7_138 (c_len_6 g) cO_10 rfl rfl (by decide) (Nat.le_of_ble_eq_true rfl) rfl ?_
    refine ex_icmp_ge (tgt := 49) dX7_isToken_21 (by decide) (fun c21 => absurd c21 (by decide)) (fun c21 => ?_)
    refine ex_aload_n dX7_isToken_24 1 rfl ?_
    refine ex_iload_n dX7_isToken_25 2 rfl ?_
    refine ex_iload dX7_isToken_26 0 rfl ?_
    refine ex_iadd dX7_isToken_28 ?_
    refine ex_cVr [.int (y + 0)] [] dX7_isToken_29 cV_X7_116 (r_byteAt g hP (j := a) (by rw [hy]; exact nI_add _ 0) (by omega)) hP.1.1 hP.1.2 rfl rfl rfl (by decide) (Nat.le_of_ble_eq_true rfl) rfl ?_
    refine ex_aload_n dX7_isToken_32 4 rfl ?_
    refine ex_iload dX7_isToken_33 0 rfl ?_
    refine ex_cVC (q := ("java/lang/String", 16)) [.int 0] [.int (sg (pb T N (a)))] dX7_isToken_35 cV_X7_140 (c_char_6_0 g) cO_10 rfl rfl (by decide) (Nat.le_of_ble_eq_true rfl) rfl ?_
    refine ex_icmp_eq (tgt := 43) dX7_isToken_38 (by decide) (fun c38 => ?_) (fun c38 => ?_)
    · have w0 : pb T N (a) = 120 := (sg_eq (c := 120) (pb_lt _ _ _) (by decide)).mp c38
      refine ex_iinc (v := 1) 0 [(4, .int 1), (0, .ref r), (1, .int y), (2, .int z), (3, .ref (g.2.2.2.2 16))] dX7_isToken_43 rfl (by decide) (by decide) rfl ?_
      refine ex_goto (tgt := 15) dX7_isToken_46 (by decide) ?_
      refine ex_iload dX7_isToken_15 0 rfl ?_
      refine ex_aload_n dX7_isToken_17 4 rfl ?_
      refine ex_cVC (q := ("java/lang/String", 16)) [] [.int 1] dX7_isToken_18 cV_X7_138 (c_len_6 g) cO_10 rfl rfl (by decide) (Nat.le_of_ble_eq_true rfl) rfl ?_
      refine ex_icmp_ge (tgt := 49) dX7_isToken_21 (by decide) (fun c21 => ?_) (fun c21 => absurd (by decide) c21)
      refine ex_iconst (v := 1) dX7_isToken_49 (by decide) ?_
      exact ex_bret rfl (by decide) dX7_isToken_50 (ex_rt_e (by rw [if_pos ⟨hne, by simp only [mt_cons, mt_nil]; exact ⟨w0, trivial⟩⟩]))
    · refine ex_iconst (v := 0) dX7_isToken_41 (by decide) ?_
      exact ex_bret rfl (by decide) dX7_isToken_42 (ex_rt_e (by rw [if_neg (fun z => by have z := z.2; simp only [mt_cons] at z; exact c38 (by rw [z.1]; rfl))]))
  · have hne : ¬ e - a = 1 := fun q => c7 (by rw [hy, hz, pk_sub hae, q]; rfl)
    refine ex_iconst (v := 0) dX7_isToken_10 (by decide) ?_
    exact ex_bret rfl (by decide) dX7_isToken_11 (ex_rt_e (by rw [if_neg (fun q => hne q.1)]))
set_option maxRecDepth 20000 in
set_option maxHeartbeats 4000000 in
theorem r_isTok_7 (g : gl_T) {S : hs_T} {n k : Nat} {r tp N : Nat} {T : List Int32} {p : ps_T} (hP : RS S r tp T N p) {y z : Int32} {a e : Nat} (hy : y = nI a) (hz : z = nI e) (hae : a ≤ e) (heN : e ≤ N) : ex_M g 4 mX7_isToken [.ref r, .int y, .int z, .ref (g.2.2.2.2 17)] S n k (ex_rt (some (.int (if e - a = 1 ∧ mt (pb T N) a [59] then 1 else 0))) S n k) := by
  have hN4 := hP.2.2.2.2.1
  have hpN := hP.2.2.2.2.2.1
  refine ex_enter (by decide +kernel) (Nat.le_of_ble_eq_true rfl) ?_
  show ex_W _ _ _ _ 0 [(0, .ref r), (1, .int y), (2, .int z), (3, .ref (g.2.2.2.2 17))] [] _ _ _
  refine ex_iload_n dX7_isToken_0 2 rfl ?_
  refine ex_iload_n dX7_isToken_1 1 rfl ?_
  refine ex_isub dX7_isToken_2 ?_
  refine ex_aload_n dX7_isToken_3 3 rfl ?_
  refine ex_cVC (q := ("java/lang/String", 17)) [] [.int (z - y)] dX7_isToken_4 cV_X7_138 (c_len_7 g) cO_11 rfl rfl (by decide) (Nat.le_of_ble_eq_true rfl) rfl ?_
  refine ex_icmp_eq (tgt := 12) dX7_isToken_7 (by decide) (fun c7 => ?_) (fun c7 => ?_)
  · have hne : e - a = 1 := (nI_eq (b := 1) (by omega) (by decide)).mp (by rw [← pk_sub hae, ← hy, ← hz]; exact c7)
    refine ex_iconst (v := 0) dX7_isToken_12 (by decide) ?_
    refine ex_istore [(4, .int 0), (0, .ref r), (1, .int y), (2, .int z), (3, .ref (g.2.2.2.2 17))] dX7_isToken_13 (by decide) rfl ?_
    refine ex_iload dX7_isToken_15 0 rfl ?_
    refine ex_aload_n dX7_isToken_17 4 rfl ?_
    refine ex_cVC (q := ("java/lang/String", 17)) [] [.int 0] dX7_isToken_18 cV_X7_138 (c_len_7 g) cO_11 rfl rfl (by decide) (Nat.le_of_ble_eq_true rfl) rfl ?_
    refine ex_icmp_ge (tgt := 49) dX7_isToken_21 (by decide) (fun c21 => absurd c21 (by decide)) (fun c21 => ?_)
    refine ex_aload_n dX7_isToken_24 1 rfl ?_
    refine ex_iload_n dX7_isToken_25 2 rfl ?_
    refine ex_iload dX7_isToken_26 0 rfl ?_
    refine ex_iadd dX7_isToken_28 ?_
    refine ex_cVr [.int (y + 0)] [] dX7_isToken_29 cV_X7_116 (r_byteAt g hP (j := a) (by rw [hy]; exact nI_add _ 0) (by omega)) hP.1.1 hP.1.2 rfl rfl rfl (by decide) (Nat.le_of_ble_eq_true rfl) rfl ?_
    refine ex_aload_n dX7_isToken_32 4 rfl ?_
    refine ex_iload dX7_isToken_33 0 rfl ?_
    refine ex_cVC (q := ("java/lang/String", 17)) [.int 0] [.int (sg (pb T N (a)))] dX7_isToken_35 cV_X7_140 (c_char_7_0 g) cO_11 rfl rfl (by decide) (Nat.le_of_ble_eq_true rfl) rfl ?_
    refine ex_icmp_eq (tgt := 43) dX7_isToken_38 (by decide) (fun c38 => ?_) (fun c38 => ?_)
    · have w0 : pb T N (a) = 59 := (sg_eq (c := 59) (pb_lt _ _ _) (by decide)).mp c38
      refine ex_iinc (v := 1) 0 [(4, .int 1), (0, .ref r), (1, .int y), (2, .int z), (3, .ref (g.2.2.2.2 17))] dX7_isToken_43 rfl (by decide) (by decide) rfl ?_
      refine ex_goto (tgt := 15) dX7_isToken_46 (by decide) ?_
      refine ex_iload dX7_isToken_15 0 rfl ?_
      refine ex_aload_n dX7_isToken_17 4 rfl ?_
      refine ex_cVC (q := ("java/lang/String", 17)) [] [.int 1] dX7_isToken_18 cV_X7_138 (c_len_7 g) cO_11 rfl rfl (by decide) (Nat.le_of_ble_eq_true rfl) rfl ?_
      refine ex_icmp_ge (tgt := 49) dX7_isToken_21 (by decide) (fun c21 => ?_) (fun c21 => absurd (by decide) c21)
      refine ex_iconst (v := 1) dX7_isToken_49 (by decide) ?_
      exact ex_bret rfl (by decide) dX7_isToken_50 (ex_rt_e (by rw [if_pos ⟨hne, by simp only [mt_cons, mt_nil]; exact ⟨w0, trivial⟩⟩]))
    · refine ex_iconst (v := 0) dX7_isToken_41 (by decide) ?_
      exact ex_bret rfl (by decide) dX7_isToken_42 (ex_rt_e (by rw [if_neg (fun z => by have z := z.2; simp only [mt_cons] at z; exact c38 (by rw [z.1]; rfl))]))
  · have hne : ¬ e - a = 1 := fun q => c7 (by rw [hy, hz, pk_sub hae, q]; rfl)
    refine ex_iconst (v := 0) dX7_isToken_10 (by decide) ?_
    exact ex_bret rfl (by decide) dX7_isToken_11 (ex_rt_e (by rw [if_neg (fun q => hne q.1)]))
