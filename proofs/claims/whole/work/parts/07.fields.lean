/-! fields -/
/-- of every kind: its words are in the tables, its fields' types, their names apart -/
def ex_ck (q : vw_C) : Prop := (∀ w ∈ u_ws q.1 q.2.1 q.2.2, w ∈ ex_TB) ∧ (∃ ty0 : Nat → FieldType, ∀ k, k < q.2.2 → parseFieldDescriptor (q.2.1 k).2.2.1 = some (ty0 k)) ∧ (∀ a, a < q.2.2 → ∀ b, b < q.2.2 → a ≠ b → (q.2.1 a).2.1 ≠ (q.2.1 b).2.1)
/-- own's entry idx is field i of kind kd, of type t: by its own class, inherited, or by a sister of the nest -/
def ex_fl (own : String) (idx kd i t : Nat) : Prop :=
  ∃ q : vw_C, hs_cl[kd]? = some q ∧ kd < 11 ∧ i < q.2.2 ∧ (hs_ft kd)[i]? = some t ∧ ex_ck q ∧
   ((∃ ref, Cond.fieldLink own idx ref (q.2.1 i).2.1 (q.2.1 i).2.2.1 ∈ ex_TB ∧ (ref = (q.2.1 i).1 ∨ Cond.sameField ref (q.2.1 i).1 (q.2.1 i).2.1 (q.2.1 i).2.2.1 ∈ ex_TB)) ∨
    ∃ host, Cond.fieldLinkNest own idx (q.2.1 i).1 (q.2.1 i).2.1 (q.2.1 i).2.2.1 host ∈ ex_NB)
/-- it may be written there, a value of type ty -/
def ex_pf (M : mt_T) (idx kd i : Nat) (ty : FieldType) : Prop :=
  ∃ q : vw_C, hs_cl[kd]? = some q ∧ parseFieldDescriptor (q.2.1 i).2.2.1 = some ty ∧ ((q.2.1 i).2.2.2 = false ∨ ((q.2.1 i).2.2.2 = true ∧ M.1.name = "<init>" ∧ (q.2.1 i).1 = M.1.cls ∧ Cond.fieldLink M.1.cls idx (q.2.1 i).1 (q.2.1 i).2.1 (q.2.1 i).2.2.1 ∈ ex_TB))
section EXF
variable {g : gl_T} {d : Nat} {M : mt_T} {Po : ex_R} {pc pc' : Nat} {lv : List (Nat × Value)} {st : List Value} {S : hs_T} {n k : Nat}
theorem ex_cell {a : Nat} {e : va_E} (hL : a ∈ hs_L S) (he : hs_E g.2.2.1 S a = e) : ∃ j : Nat, (ex_ws g S)[j]? = some (a, e) := by
  obtain ⟨j, hj⟩ := va_pl_get (X := []) (f := hs_E g.2.2.1 S) hL
  rw [he] at hj
  exact ⟨j, hj⟩
theorem ex_same {s : State} {args : Array Value} {ref own n d : String} (hKU : ex_KU g s) (h : ref = own ∨ Cond.sameField ref own n d ∈ ex_TB) : ∀ x, s.fieldFound? own n d = some x → s.fieldFound? ref n d = some x := by
  rcases h with rfl | h
  · exact fun _ h => h
  · exact fun x hx => u_same (ex_w hKU h args) x hx
theorem ex_get {kd i t idx a : Nat} (h : ex_d M pc (.getfield idx) 3 pc') (hf : ex_fl M.1.cls idx kd i t) (hL : a ∈ hs_L S) (hKd : hs_K S a = kd) (kk : ex_W g d M Po pc' lv (hs_V S a i t :: st) S n k) : ex_W g d M Po pc lv (.ref a :: st) S n k := by
  intro p e R s m args below meth c H locs ls cells slots n0 k0 C hl hW hS hn hk hN hK
  obtain ⟨⟨hx, hb, hml, hrt, hlocks⟩, ⟨hown, hnm, htab⟩, ⟨hKU, hKH, hbs, hst⟩, hfr, hlo, hrc, hrs, hn0, hk0⟩ := id C
  obtain ⟨hdg, rfl⟩ := h
  obtain ⟨⟨Cn, T, N⟩, hq, hlt, hi, hft, hck, hlk⟩ := hf
  obtain ⟨j, hj⟩ := ex_cell (g := g) hL (hs_E_obj hKd hlt)
  have hv : (hs_fs S a 0 (hs_ft kd))[i]? = some (hs_V S a i t) := by
    have := hs_fs_at S a (hs_ft kd) 0 i t hft
    rwa [Nat.zero_add] at this
  rcases hlk with ⟨ref, h1, h2⟩ | ⟨host, h1⟩
  · exact va_get hx hb (ex_ts hKU args) hck.1 hown hKU.2.2.1 hW.1 j hj hq i hi (ex_w hKU h1 args) (ex_same (args := args) hKU h2) hv hdg (kk p e R s m args below meth c H locs ls cells slots n0 k0 C hl hW hS hn hk hN hK)
  · exact va_getN hx hb (ex_ts hKU args) hck.1 hown hKU.2.2.1 hW.1 j hj hq i hi (va_Nw.use (by rfl) (hKU.2.1 _ h1)) (fun _ h => h) hv hdg (kk p e R s m args below meth c H locs ls cells slots n0 k0 C hl hW hS hn hk hN hK)
theorem ex_getI {kd i idx a : Nat} (h : ex_d M pc (.getfield idx) 3 pc') (hf : ex_fl M.1.cls idx kd i 0) (hL : a ∈ hs_L S) (hKd : hs_K S a = kd) (kk : ex_W g d M Po pc' lv (.int (hs_I S a i) :: st) S n k) : ex_W g d M Po pc lv (.ref a :: st) S n k := ex_get h hf hL hKd kk
theorem ex_getJ {kd i idx a : Nat} (h : ex_d M pc (.getfield idx) 3 pc') (hf : ex_fl M.1.cls idx kd i 1) (hL : a ∈ hs_L S) (hKd : hs_K S a = kd) (kk : ex_W g d M Po pc' lv (.long (hs_J S a i) :: st) S n k) : ex_W g d M Po pc lv (.ref a :: st) S n k := ex_get h hf hL hKd kk
theorem ex_getQ {kd i idx a : Nat} (h : ex_d M pc (.getfield idx) 3 pc') (hf : ex_fl M.1.cls idx kd i 2) (hL : a ∈ hs_L S) (hKd : hs_K S a = kd) (kk : ex_W g d M Po pc' lv (va_rf (hs_R S a i) :: st) S n k) : ex_W g d M Po pc lv (.ref a :: st) S n k := ex_get h hf hL hKd kk
theorem ex_getR {kd i idx a b : Nat} (h : ex_d M pc (.getfield idx) 3 pc') (hf : ex_fl M.1.cls idx kd i 2) (hL : a ∈ hs_L S) (hKd : hs_K S a = kd) (hv : hs_R S a i = some b) (kk : ex_W g d M Po pc' lv (.ref b :: st) S n k) : ex_W g d M Po pc lv (.ref a :: st) S n k := ex_getQ h hf hL hKd (by rw [hv]; exact kk)
/-- a cell of the world is written -/
theorem ex_set {S' : hs_T} {a j : Nat} {e e' : va_E} {H1 : Heap} (hL : a ∈ hs_L S) (hj : (ex_ws g S)[j]? = some (a, e)) (hee : hs_E g.2.2.1 S a = e) (hL' : hs_L S' = hs_L S) (he' : hs_E g.2.2.1 S' a = e') (hoff : ∀ b, b ≠ a → hs_E g.2.2.1 S b = hs_E g.2.2.1 S' b) (hD0 : va_D (ex_A g) (ex_ws g S))
    (hP : va_P g.2.1 hs_cl ((ex_ws g S).set j (a, e')) H1) (hD : va_D (ex_A g) ((ex_ws g S).set j (a, e'))) : ex_WD g S' H1 := by
  have h1 : (ex_ws g S).set j (a, e') = ex_ws g S' := by
    have hj2 : ([] ++ va_pl (hs_L S) (hs_E g.2.2.1 S))[j]? = some (a, hs_E g.2.2.1 S a) := by rw [hee]; exact hj
    have := va_pl_set (X := []) (L := hs_L S) (f := hs_E g.2.2.1 S) (e := e') hD0 hL hj2
    unfold ex_ws
    rw [hL']
    exact this.trans (va_pl_congr (hs_up he' hoff))
  rw [h1] at hP hD
  exact ⟨hP, hD⟩
theorem ex_put {S' : hs_T} {kd i t idx a : Nat} {v : Value} {ty : FieldType} (h : ex_d M pc (.putfield idx) 3 pc') (hf : ex_fl M.1.cls idx kd i t) (hp : ex_pf M idx kd i ty) (hL : a ∈ hs_L S) (hKd : hs_K S a = kd) (hL' : hs_L S' = hs_L S) (hK' : hs_K S' a = kd) (hset : (hs_fs S a 0 (hs_ft kd)).set i v = hs_fs S' a 0 (hs_ft kd)) (hoff : ∀ b, b ≠ a → hs_E g.2.2.1 S b = hs_E g.2.2.1 S' b)
    (hna : narrow ty v = v) (hfit : fits ty v = true) (kk : ex_W g d M Po pc' lv st S' n k) : ex_W g d M Po pc lv (v :: .ref a :: st) S n k := by
  intro p e R s m args below meth c H locs ls cells slots n0 k0 C hl hW hS hn hk hN hK
  obtain ⟨⟨hx, hb, hml, hrt, hlocks⟩, ⟨hown, hnm, htab⟩, ⟨hKU, hKH, hbs, hst⟩, hfr, hlo, hrc, hrs, hn0, hk0⟩ := id C
  obtain ⟨hdg, rfl⟩ := h
  obtain ⟨⟨Cn, T, N⟩, hq, hlt, hi, hft, ⟨hin, ⟨ty0, hty0⟩, hap⟩, hlk⟩ := hf
  obtain ⟨q2, hq2, hd2, hfin⟩ := hp
  cases Option.some.inj (hq2.symm.trans hq)
  have hee := hs_E_obj (cy := g.2.2.1) hKd hlt
  obtain ⟨j, hj⟩ := ex_cell (g := g) hL hee
  have hlen : i < (hs_fs S a 0 (hs_ft kd)).length := by
    rw [hs_fs_len]; exact (List.getElem?_eq_some_iff.mp hft).1
  have he' : hs_E g.2.2.1 S' a = .inr (kd, (hs_fs S a 0 (hs_ft kd)).set i v) := by rw [hs_E_obj hK' hlt, hset]
  have goal : ∀ (H1 : Heap) (locs1 : List Loc), va_P g.2.1 hs_cl ((ex_ws g S).set j (a, .inr (kd, (hs_fs S a 0 (hs_ft kd)).set i v))) H1 → va_D (ex_A g) ((ex_ws g S).set j (a, .inr (kd, (hs_fs S a 0 (hs_ft kd)).set i v))) → va_S (ex_A g) s.heap H1 locs1 → W p g.1 e R s m args below meth c H1 locs1 cells slots (ex_Z g Po n0 k0 R below args s) (F0 m (pc + 3) ls st) :=
    fun H1 locs1 hP1 hD1 hS1 => kk p e R s m args below meth c H1 locs1 ls cells slots n0 k0 C hl (ex_set hL hj hee hL' he' hoff hW.2 hP1 hD1) hS1 hn hk hN hK
  rcases hfin with hfin | ⟨hfin, hinit, hdecl, hlk2⟩
  · rcases hlk with ⟨ref, h1, h2⟩ | ⟨host, h1⟩
    · exact va_put hx hb (ex_ts hKU args) hin ty0 hty0 hap hown hKU.2.2.1 hW.1 hW.2 hS j hj hq i hi (ex_w hKU h1 args) (ex_same (args := args) hKU h2) hfin hd2 hna hfit hlen hdg goal
    · exact va_putN hx hb (ex_ts hKU args) hin ty0 hty0 hap hown hKU.2.2.1 hW.1 hW.2 hS j hj hq i hi (va_Nw.use (by rfl) (hKU.2.1 _ h1)) (fun _ h => h) hfin hd2 hna hfit hlen hdg goal
  · exact va_putF hx hb (ex_ts hKU args) hin ty0 hty0 hap hown hKU.2.2.1 hW.1 hW.2 hS j hj hq i hi (ex_w hKU hlk2 args) (fun _ h => h) hfin (hnm.trans hinit) hdecl hd2 hna hfit hlen hdg goal
theorem ex_V_sI (S : hs_T) (a i : Nat) (v : Int32) (b j t : Nat) (h : j ≠ i) : hs_V S b j t = hs_V (hs_sI S a i v) b j t := by
  unfold hs_V; split
  · rw [hs_I_sI, if_neg (fun z => h z.2)]
  · rfl
  · rfl
theorem ex_V_sJ (S : hs_T) (a i : Nat) (v : Int64) (b j t : Nat) (h : j ≠ i) : hs_V S b j t = hs_V (hs_sJ S a i v) b j t := by
  unfold hs_V; split
  · rfl
  · rw [hs_J_sJ, if_neg (fun z => h z.2)]
  · rfl
theorem ex_V_sR (S : hs_T) (a i : Nat) (v : Option Nat) (b j t : Nat) (h : j ≠ i) : hs_V S b j t = hs_V (hs_sR S a i v) b j t := by
  unfold hs_V; split
  · rfl
  · rfl
  · rw [hs_R_sR, if_neg (fun z => h z.2)]
theorem ex_putI {kd i idx a : Nat} {v : Int32} (h : ex_d M pc (.putfield idx) 3 pc') (hf : ex_fl M.1.cls idx kd i 0) (hp : ex_pf M idx kd i .int) (hL : a ∈ hs_L S) (hKd : hs_K S a = kd) (kk : ex_W g d M Po pc' lv st (hs_sI S a i v) n k) : ex_W g d M Po pc lv (.int v :: .ref a :: st) S n k := by
  have hft := hf.choose_spec.2.2.2.1
  refine ex_put (S' := hs_sI S a i v) h hf hp hL hKd rfl hKd (hs_fs_set (.int v) _ 0 i 0 hft ?_ (fun j t' hj _ => ex_V_sI S a i v a (0 + j) t' (by omega))) (hs_off_sI _ S a i v) rfl rfl kk
  simp [hs_V, hs_I_sI]
theorem ex_putZ {kd i idx a : Nat} {v : Int32} (h : ex_d M pc (.putfield idx) 3 pc') (hf : ex_fl M.1.cls idx kd i 0) (hp : ex_pf M idx kd i .boolean) (hL : a ∈ hs_L S) (hKd : hs_K S a = kd) (hv : v = 0 ∨ v = 1) (kk : ex_W g d M Po pc' lv st (hs_sI S a i v) n k) : ex_W g d M Po pc lv (.int v :: .ref a :: st) S n k := by
  have hft := hf.choose_spec.2.2.2.1
  refine ex_put (S' := hs_sI S a i v) h hf hp hL hKd rfl hKd (hs_fs_set (.int v) _ 0 i 0 hft ?_ (fun j t' hj _ => ex_V_sI S a i v a (0 + j) t' (by omega))) (hs_off_sI _ S a i v) ?_ ?_ kk
  · simp [hs_V, hs_I_sI]
  · rcases hv with rfl | rfl <;> decide +kernel
  · rcases hv with rfl | rfl <;> decide +kernel
theorem ex_putJ {kd i idx a : Nat} {v : Int64} (h : ex_d M pc (.putfield idx) 3 pc') (hf : ex_fl M.1.cls idx kd i 1) (hp : ex_pf M idx kd i .long) (hL : a ∈ hs_L S) (hKd : hs_K S a = kd) (kk : ex_W g d M Po pc' lv st (hs_sJ S a i v) n k) : ex_W g d M Po pc lv (.long v :: .ref a :: st) S n k := by
  have hft := hf.choose_spec.2.2.2.1
  refine ex_put (S' := hs_sJ S a i v) h hf hp hL hKd rfl hKd (hs_fs_set (.long v) _ 0 i 1 hft ?_ (fun j t' hj _ => ex_V_sJ S a i v a (0 + j) t' (by omega))) (hs_off_sJ _ S a i v) rfl rfl kk
  simp [hs_V, hs_J_sJ]
theorem ex_putQ {kd i idx a : Nat} {v : Option Nat} {ty : FieldType} (h : ex_d M pc (.putfield idx) 3 pc') (hf : ex_fl M.1.cls idx kd i 2) (hp : ex_pf M idx kd i ty) (hty : (∃ n, ty = .object n) ∨ ∃ t, ty = .array t) (hL : a ∈ hs_L S) (hKd : hs_K S a = kd) (kk : ex_W g d M Po pc' lv st (hs_sR S a i v) n k) : ex_W g d M Po pc lv (va_rf v :: .ref a :: st) S n k := by
  have hft := hf.choose_spec.2.2.2.1
  refine ex_put (S' := hs_sR S a i v) h hf hp hL hKd rfl hKd (hs_fs_set (va_rf v) _ 0 i 2 hft ?_ (fun j t' hj _ => ex_V_sR S a i v a (0 + j) t' (by omega))) (hs_off_sR _ S a i v) ?_ ?_ kk
  · simp [hs_V, hs_R_sR]
  · rcases hty with ⟨_, rfl⟩ | ⟨_, rfl⟩ <;> cases v <;> rfl
  · rcases hty with ⟨_, rfl⟩ | ⟨_, rfl⟩ <;> cases v <;> rfl
theorem ex_putR {kd i idx a b : Nat} {ty : FieldType} (h : ex_d M pc (.putfield idx) 3 pc') (hf : ex_fl M.1.cls idx kd i 2) (hp : ex_pf M idx kd i ty) (hty : (∃ n, ty = .object n) ∨ ∃ t, ty = .array t) (hL : a ∈ hs_L S) (hKd : hs_K S a = kd) (kk : ex_W g d M Po pc' lv st (hs_sR S a i (some b)) n k) : ex_W g d M Po pc lv (.ref b :: .ref a :: st) S n k := ex_putQ (v := some b) h hf hp hty hL hKd kk
end EXF
