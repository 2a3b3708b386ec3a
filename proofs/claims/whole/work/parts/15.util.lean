/-! contracts that answer a value in a heap -/
def ex_rt (v : Option Value) (S : hs_T) (n k : Nat) : ex_R := fun r S' n' k' => r = .inl v ∧ S' = S ∧ n' = n ∧ k' = k
theorem ex_rt_i {v : Option Value} {S : hs_T} {n k : Nat} : ex_rt v S n k (.inl v) S n k := ⟨rfl, rfl, rfl, rfl⟩
theorem ex_rt_e {v w : Value} {S : hs_T} {n k : Nat} (h : w = v) : ex_rt (some v) S n k (.inl (some w)) S n k := ⟨by rw [h], rfl, rfl, rfl⟩
section EXU
variable {g : gl_T} {d : Nat} {M : mt_T} {Po : ex_R} {pc pc' : Nat} {lv : List (Nat × Value)} {stk : List Value} {S S1 : hs_T} {n k n1 k1 : Nat}
theorem ex_zret {v : Int32} {ty : FieldType} (hr : M.2.2.2 = some ty) (hnw : narrow ty (.int v) = .int v) (hdg : ex_d M pc (.ireturn) 1 pc') (hpo : Po (.inl (some (.int v))) S n k) : ex_W g d M Po pc lv [.int v] S n k := by
  intro p e R s m args below meth c H locs ls cells slots n0 k0 C hl hW hS hn hk hN hK
  obtain ⟨⟨hx, hb, hml, hrt, hlocks⟩, -⟩ := id C
  exact ex_Wmono (ex_ends C hW hS hn hk hN hK hpo) (W.zret hx hb (hrt.trans hr) hnw (fun t ht _ => ⟨rfl, ht⟩) hS.2.2 hdg.1 hlocks)
theorem ex_bret {v : Int32} (hr : M.2.2.2 = some .boolean) (hv : v = 0 ∨ v = 1) (hdg : ex_d M pc (.ireturn) 1 pc') (hpo : Po (.inl (some (.int v))) S n k) : ex_W g d M Po pc lv [.int v] S n k := ex_zret hr (by rcases hv with rfl | rfl <;> decide +kernel) hdg hpo
theorem ex_irt {v : Int32} (hr : M.2.2.2 = some .int) (hdg : ex_d M pc (.ireturn) 1 pc') (hpo : Po (.inl (some (.int v))) S n k) : ex_W g d M Po pc lv [.int v] S n k := ex_iret hr hdg.1 hpo
theorem ex_lrt {v : Int64} (hr : M.2.2.2 = some .long) (hdg : ex_d M pc (.lreturn) 1 pc') (hpo : Po (.inl (some (.long v))) S n k) : ex_W g d M Po pc lv [.long v] S n k := ex_lret hr hdg.1 hpo
theorem ex_vrt (hr : M.2.2.2 = none) (hdg : ex_d M pc (.return_) 1 pc') (hpo : Po (.inl none) S n k) : ex_W g d M Po pc lv [] S n k := ex_vret hr hdg.1 hpo
theorem ex_art {b : Nat} {rt : FieldType} (hr : M.2.2.2 = some rt) (hrt2 : (∃ n, rt = .object n) ∨ ∃ t, rt = .array t) (hdg : ex_d M pc (.areturn) 1 pc') (hpo : Po (.inl (some (.ref b))) S n k) : ex_W g d M Po pc lv [.ref b] S n k := ex_aret (v := some b) hr hrt2 hdg.1 hpo
theorem ex_artN {rt : FieldType} (hr : M.2.2.2 = some rt) (hrt2 : (∃ n, rt = .object n) ∨ ∃ t, rt = .array t) (hdg : ex_d M pc (.areturn) 1 pc') (hpo : Po (.inl (some .null)) S n k) : ex_W g d M Po pc lv [.null] S n k := ex_aret (v := none) hr hrt2 hdg.1 hpo
theorem ex_artQ {v : Option Nat} {rt : FieldType} (hr : M.2.2.2 = some rt) (hrt2 : (∃ n, rt = .object n) ∨ ∃ t, rt = .array t) (hdg : ex_d M pc (.areturn) 1 pc') (hpo : Po (.inl (some (va_rf v))) S n k) : ex_W g d M Po pc lv [va_rf v] S n k := ex_aret hr hrt2 hdg.1 hpo
/-- calls with the rest of the stack named -/
theorem ex_cVg {idx nA d' b kd : Nat} {M' : mt_T} {Po' : ex_R} {q : vw_C} (As st : List Value) (h : ex_d M pc (.invokevirtual idx) 3 pc') (hc : ex_cV M.1.cls idx M' nA) (hM' : ex_M g d' M' (.ref b :: As) S n k Po') (hL : b ∈ hs_L S) (hKb : hs_K S b = kd) (hq : hs_cl[kd]? = some q) (hqc : q.1 = M'.1.cls) (hnA : As.length = nA) (hd : d' + 1 ≤ d) (hrest : (st.map fun v => v.category).sum ≤ 8) (hstk : stk = As.reverse ++ .ref b :: st)
    (kk : ∀ v S' n' k', Po' (.inl v) S' n' k' → ex_W g d M Po pc' lv (v.toList ++ st) S' n' k') (kx : ∀ E S' n' k', Po' (.inr E) S' n' k' → Po (.inr E) S' n' k') : ex_W g d M Po pc lv stk S n k := by
  subst hstk
  exact ex_callV h hc hM' hL hKb hq hqc hnA hd hrest kk kx
theorem ex_cVr {idx nA d' b kd : Nat} {M' : mt_T} {v : Value} {q : vw_C} (As st : List Value) (h : ex_d M pc (.invokevirtual idx) 3 pc') (hc : ex_cV M.1.cls idx M' nA) (hM' : ex_M g d' M' (.ref b :: As) S n k (ex_rt (some v) S1 n1 k1)) (hL : b ∈ hs_L S) (hKb : hs_K S b = kd) (hq : hs_cl[kd]? = some q) (hqc : q.1 = M'.1.cls) (hnA : As.length = nA) (hd : d' + 1 ≤ d) (hrest : (st.map fun v => v.category).sum ≤ 8) (hstk : stk = As.reverse ++ .ref b :: st)
    (kk : ex_W g d M Po pc' lv (v :: st) S1 n1 k1) : ex_W g d M Po pc lv stk S n k := by
  refine ex_cVg As st h hc hM' hL hKb hq hqc hnA hd hrest hstk ?_ ?_
  · rintro v' S' n' k' ⟨h1, rfl, rfl, rfl⟩; cases h1; exact kk
  · rintro E S' n' k' ⟨h1, -⟩; cases h1
theorem ex_cVv {idx nA d' b kd : Nat} {M' : mt_T} {q : vw_C} (As st : List Value) (h : ex_d M pc (.invokevirtual idx) 3 pc') (hc : ex_cV M.1.cls idx M' nA) (hM' : ex_M g d' M' (.ref b :: As) S n k (ex_rt none S1 n1 k1)) (hL : b ∈ hs_L S) (hKb : hs_K S b = kd) (hq : hs_cl[kd]? = some q) (hqc : q.1 = M'.1.cls) (hnA : As.length = nA) (hd : d' + 1 ≤ d) (hrest : (st.map fun v => v.category).sum ≤ 8) (hstk : stk = As.reverse ++ .ref b :: st)
    (kk : ex_W g d M Po pc' lv st S1 n1 k1) : ex_W g d M Po pc lv stk S n k := by
  refine ex_cVg As st h hc hM' hL hKb hq hqc hnA hd hrest hstk ?_ ?_
  · rintro v' S' n' k' ⟨h1, rfl, rfl, rfl⟩; cases h1; exact kk
  · rintro E S' n' k' ⟨h1, -⟩; cases h1
theorem ex_cSg {idx nA d' : Nat} {M' : mt_T} {Po' : ex_R} (As st : List Value) (h : ex_d M pc (.invokestatic idx) 3 pc') (hc : ex_cS M.1.cls idx M' nA) (hM' : ex_M g d' M' As S n k Po') (hnA : As.length = nA) (hd : d' + 1 ≤ d) (hrest : (st.map fun v => v.category).sum ≤ 8) (hstk : stk = As.reverse ++ st) (hno : ∀ E S' n' k', ¬ Po' (.inr E) S' n' k')
    (kk : ∀ v S' n' k', Po' (.inl v) S' n' k' → ex_W g d M Po pc' lv (v.toList ++ st) S' n' k') : ex_W g d M Po pc lv stk S n k := by
  subst hstk
  exact ex_callS h hc hM' hnA hd hrest hno kk
theorem ex_cSr {idx nA d' : Nat} {M' : mt_T} {v : Value} (As st : List Value) (h : ex_d M pc (.invokestatic idx) 3 pc') (hc : ex_cS M.1.cls idx M' nA) (hM' : ex_M g d' M' As S n k (ex_rt (some v) S1 n1 k1)) (hnA : As.length = nA) (hd : d' + 1 ≤ d) (hrest : (st.map fun v => v.category).sum ≤ 8) (hstk : stk = As.reverse ++ st)
    (kk : ex_W g d M Po pc' lv (v :: st) S1 n1 k1) : ex_W g d M Po pc lv stk S n k := by
  refine ex_cSg As st h hc hM' hnA hd hrest hstk ?_ ?_
  · rintro E S' n' k' ⟨h1, -⟩; cases h1
  · rintro v' S' n' k' ⟨h1, rfl, rfl, rfl⟩; cases h1; exact kk
theorem ex_cIg {idx nA d' b : Nat} {M' : mt_T} {Po' : ex_R} (As st : List Value) (h : ex_d M pc (.invokespecial idx) 3 pc') (hc : ex_cI M.1.cls idx M' nA) (hM' : ex_M g d' M' (.ref b :: As) S n k Po') (hnA : As.length = nA) (hd : d' + 1 ≤ d) (hrest : (st.map fun v => v.category).sum ≤ 8) (hstk : stk = As.reverse ++ .ref b :: st) (hno : ∀ E S' n' k', ¬ Po' (.inr E) S' n' k')
    (kk : ∀ v S' n' k', Po' (.inl v) S' n' k' → ex_W g d M Po pc' lv (v.toList ++ st) S' n' k') : ex_W g d M Po pc lv stk S n k := by
  subst hstk
  exact ex_callI h hc hM' hnA hd hrest hno kk
theorem ex_cIv {idx nA d' b : Nat} {M' : mt_T} (As st : List Value) (h : ex_d M pc (.invokespecial idx) 3 pc') (hc : ex_cI M.1.cls idx M' nA) (hM' : ex_M g d' M' (.ref b :: As) S n k (ex_rt none S1 n1 k1)) (hnA : As.length = nA) (hd : d' + 1 ≤ d) (hrest : (st.map fun v => v.category).sum ≤ 8) (hstk : stk = As.reverse ++ .ref b :: st)
    (kk : ex_W g d M Po pc' lv st S1 n1 k1) : ex_W g d M Po pc lv stk S n k := by
  refine ex_cIg As st h hc hM' hnA hd hrest hstk ?_ ?_
  · rintro E S' n' k' ⟨h1, -⟩; cases h1
  · rintro v' S' n' k' ⟨h1, rfl, rfl, rfl⟩; cases h1; exact kk
end EXU
theorem ob_I : (∃ n, (FieldType.object "x" : FieldType) = .object n) := ⟨_, rfl⟩
