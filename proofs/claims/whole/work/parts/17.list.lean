/-! java.util.ArrayList -/
theorem hs_inN {j N : Nat} (h : j < N) (hN : N < 2 ^ 31) : nI j < nI N := nI_lt h hN
/-- the old addresses are there still, of their kinds and lengths; outside of w they hold what they held -/
def hs_fr (S S' : hs_T) (w : List Nat) : Prop := (∀ x, x ∈ hs_L S → x ∈ hs_L S' ∧ hs_K S' x = hs_K S x ∧ hs_N S' x = hs_N S x) ∧ ∀ x, x ∈ hs_L S → x ∉ w → hs_I S' x = hs_I S x ∧ hs_J S' x = hs_J S x ∧ hs_R S' x = hs_R S x
/-- a list at a: its row e of length c, its elements xs, of kind kd -/
def al_at (g : gl_T) (S : hs_T) (a e c kd : Nat) (xs : List Nat) : Prop := (a ∈ hs_L S ∧ hs_K S a = 0 ∧ hs_R S a 1 = some e ∧ hs_I S a 2 = nI xs.length) ∧ (xs.length ≤ c ∧ c ≤ 5000) ∧ ((e ∈ hs_L S ∧ hs_K S e = 15 ∧ hs_N S e = c ∧ 2 ≤ c) ∨ (e = g.2.2.2.2 1 ∧ c = 0)) ∧ (∀ i, i < xs.length → hs_R S e i = xs[i]?) ∧ ∀ x ∈ xs, x ∈ hs_L S ∧ hs_K S x = kd ∧ kd < 11
set_option maxRecDepth 20000 in
set_option maxHeartbeats 2000000 in
theorem c_chk3R (g : gl_T) {S : hs_T} {n k : Nat} {x y : Int32} {j N : Nat} (hx : x = nI j) (hy : y = nI N) (hj : j < N) (hN : N < 2 ^ 31) {v : Nat} : ex_M g 0 mJ3_checkIndex_8e157 [.int x, .int y, .ref v] S n k (ex_rt (some (.int x)) S n k) := by
  refine ex_enter (by decide +kernel) (Nat.le_of_ble_eq_true rfl) ?_
  show ex_W _ _ _ _ 0 [(0, .int x), (1, .int y), (2, .ref v)] [] _ _ _
  refine ex_iload_n dJ3_checkIndex_8e157_0 0 rfl ?_
  refine ex_if_lt (tgt := 9) dJ3_checkIndex_8e157_1 (by decide) (fun c1 => absurd c1 (by rw [hx]; exact nI_pos (by omega))) (fun c1 => ?_)
  refine ex_iload_n dJ3_checkIndex_8e157_4 0 rfl ?_
  refine ex_iload_n dJ3_checkIndex_8e157_5 1 rfl ?_
  refine ex_icmp_lt (tgt := 16) dJ3_checkIndex_8e157_6 (by decide) (fun c6 => ?_) (fun c6 => absurd (by rw [hx, hy]; exact nI_lt hj hN) c6)
  refine ex_iload_n dJ3_checkIndex_8e157_16 0 rfl ?_
  exact ex_irt rfl dJ3_checkIndex_8e157_17 ex_rt_i
set_option maxRecDepth 20000 in
set_option maxHeartbeats 2000000 in
theorem c_chk3N (g : gl_T) {S : hs_T} {n k : Nat} {x y : Int32} {j N : Nat} (hx : x = nI j) (hy : y = nI N) (hj : j < N) (hN : N < 2 ^ 31) : ex_M g 0 mJ3_checkIndex_8e157 [.int x, .int y, .null] S n k (ex_rt (some (.int x)) S n k) := by
  refine ex_enter (by decide +kernel) (Nat.le_of_ble_eq_true rfl) ?_
  show ex_W _ _ _ _ 0 [(0, .int x), (1, .int y), (2, .null)] [] _ _ _
  refine ex_iload_n dJ3_checkIndex_8e157_0 0 rfl ?_
  refine ex_if_lt (tgt := 9) dJ3_checkIndex_8e157_1 (by decide) (fun c1 => absurd c1 (by rw [hx]; exact nI_pos (by omega))) (fun c1 => ?_)
  refine ex_iload_n dJ3_checkIndex_8e157_4 0 rfl ?_
  refine ex_iload_n dJ3_checkIndex_8e157_5 1 rfl ?_
  refine ex_icmp_lt (tgt := 16) dJ3_checkIndex_8e157_6 (by decide) (fun c6 => ?_) (fun c6 => absurd (by rw [hx, hy]; exact nI_lt hj hN) c6)
  refine ex_iload_n dJ3_checkIndex_8e157_16 0 rfl ?_
  exact ex_irt rfl dJ3_checkIndex_8e157_17 ex_rt_i
theorem c_chk3 (g : gl_T) {S : hs_T} {n k : Nat} {x y : Int32} {j N : Nat} (hx : x = nI j) (hy : y = nI N) (hj : j < N) (hN : N < 2 ^ 31) {v : Option Nat} : ex_M g 0 mJ3_checkIndex_8e157 [.int x, .int y, va_rf v] S n k (ex_rt (some (.int x)) S n k) := by
  cases v with
  | none => exact c_chk3N g hx hy hj hN
  | some w => exact c_chk3R g hx hy hj hN
set_option maxRecDepth 20000 in
set_option maxHeartbeats 2000000 in
theorem c_chk (g : gl_T) {S : hs_T} {n k : Nat} {x y : Int32} {j N : Nat} (hx : x = nI j) (hy : y = nI N) (hj : j < N) (hN : N < 2 ^ 31) : ex_M g 1 mJ15_checkIndex_7cf53 [.int x, .int y] S n k (ex_rt (some (.int x)) S n k) := by
  refine ex_enter (by decide +kernel) (Nat.le_of_ble_eq_true rfl) ?_
  show ex_W _ _ _ _ 0 [(0, .int x), (1, .int y)] [] _ _ _
  refine ex_iload_n dJ15_checkIndex_7cf53_0 0 rfl ?_
  refine ex_iload_n dJ15_checkIndex_7cf53_1 1 rfl ?_
  refine ex_null dJ15_checkIndex_7cf53_2 ?_
  refine ex_cSr [.int x, .int y, .null] [] dJ15_checkIndex_7cf53_3 cS_J15_105 (c_chk3N g hx hy hj hN) rfl (by decide) (Nat.le_of_ble_eq_true rfl) rfl ?_
  exact ex_irt rfl dJ15_checkIndex_7cf53_6 ex_rt_i
set_option maxRecDepth 20000 in
set_option maxHeartbeats 2000000 in
theorem c_AL_size (g : gl_T) {S : hs_T} {n k : Nat} {a : Nat} (hL : a ∈ hs_L S) (hK : hs_K S a = 0) : ex_M g 0 mJx4a65c_size_8abf5 [.ref a] S n k (ex_rt (some (.int (hs_I S a 2))) S n k) := by
  refine ex_enter (by decide +kernel) (Nat.le_of_ble_eq_true rfl) ?_
  show ex_W _ _ _ _ 0 [(0, .ref a)] [] _ _ _
  refine ex_aload_n dJx4a65c_size_8abf5_0 0 rfl ?_
  refine ex_getI dJx4a65c_size_8abf5_1 fl_Jx4a65c_48 (by assumption) (by assumption) ?_
  exact ex_irt rfl dJx4a65c_size_8abf5_4 ex_rt_i
set_option maxRecDepth 20000 in
set_option maxHeartbeats 2000000 in
theorem c_AL_elementData (g : gl_T) {S : hs_T} {n k : Nat} {a e c kd : Nat} {xs : List Nat} (h : al_at g S a e c kd xs) {x : Int32} {j b : Nat} (hx : x = nI j) (hj : xs[j]? = some b) : ex_M g 0 mJx4a65c_elementData_915e3 [.ref a, .int x] S n k (ex_rt (some (.ref b)) S n k) := by
  obtain ⟨⟨hL, hK, hR, hI⟩, ⟨hlc, hc5⟩, hE, hel, hxs⟩ := h
  have hjl : j < xs.length := (List.getElem?_eq_some_iff.mp hj).1
  obtain ⟨hLe, hKe, hNe, hc2⟩ : e ∈ hs_L S ∧ hs_K S e = 15 ∧ hs_N S e = c ∧ 2 ≤ c := by
    rcases hE with hE | ⟨-, hE⟩
    · exact hE
    · omega
  have hjb : j < hs_N S e := by omega
  have hRj : hs_R S e j = some b := (hel j hjl).trans hj
  have hj31 : j < 2 ^ 31 := by omega
  refine ex_enter (by decide +kernel) (Nat.le_of_ble_eq_true rfl) ?_
  show ex_W _ _ _ _ 0 [(0, .ref a), (1, .int x)] [] _ _ _
  refine ex_aload_n dJx4a65c_elementData_915e3_0 0 rfl ?_
  refine ex_getR (b := e) dJx4a65c_elementData_915e3_1 fl_Jx4a65c_9 (by assumption) (by assumption) hR ?_
  refine ex_iload_n dJx4a65c_elementData_915e3_4 1 rfl ?_
  refine ex_aaldR (b := b) dJx4a65c_elementData_915e3_5 hLe hKe hx hjb hj31 hRj ?_
  exact ex_art rfl (Or.inl ⟨_, rfl⟩) dJx4a65c_elementData_915e3_6 ex_rt_i
set_option maxRecDepth 20000 in
set_option maxHeartbeats 2000000 in
theorem c_AL_get (g : gl_T) {S : hs_T} {n k : Nat} {a e c kd : Nat} {xs : List Nat} (h : al_at g S a e c kd xs) {x : Int32} {j b : Nat} (hx : x = nI j) (hj : xs[j]? = some b) : ex_M g 2 mJx4a65c_get_915e3 [.ref a, .int x] S n k (ex_rt (some (.ref b)) S n k) := by
  obtain ⟨⟨hL, hK, hR, hI⟩, ⟨hlc, hc5⟩, hE, hel, hxs⟩ := id h
  have hjl : j < xs.length := (List.getElem?_eq_some_iff.mp hj).1
  obtain ⟨hLe, hKe, hNe, hc2⟩ : e ∈ hs_L S ∧ hs_K S e = 15 ∧ hs_N S e = c ∧ 2 ≤ c := by
    rcases hE with hE | ⟨-, hE⟩
    · exact hE
    · omega
  have hjb : j < hs_N S e := by omega
  have hRj : hs_R S e j = some b := (hel j hjl).trans hj
  have hj31 : j < 2 ^ 31 := by omega
  refine ex_enter (by decide +kernel) (Nat.le_of_ble_eq_true rfl) ?_
  show ex_W _ _ _ _ 0 [(0, .ref a), (1, .int x)] [] _ _ _
  refine ex_iload_n dJx4a65c_get_915e3_0 1 rfl ?_
  refine ex_aload_n dJx4a65c_get_915e3_1 0 rfl ?_
  refine ex_getI dJx4a65c_get_915e3_2 fl_Jx4a65c_48 (by assumption) (by assumption) ?_
  refine ex_cSr [.int x, .int (hs_I S a 2)] [] dJx4a65c_get_915e3_5 cS_Jx4a65c_118 (c_chk g hx hI hjl (by omega)) rfl (by decide) (Nat.le_of_ble_eq_true rfl) rfl ?_
  refine ex_pop dJx4a65c_get_915e3_8 rfl ?_
  refine ex_aload_n dJx4a65c_get_915e3_9 0 rfl ?_
  refine ex_iload_n dJx4a65c_get_915e3_10 1 rfl ?_
  refine ex_cVr [.int x] [] dJx4a65c_get_915e3_11 cV_Jx4a65c_123 (c_AL_elementData g h hx hj) (by assumption) (by assumption) rfl rfl rfl (by decide) (Nat.le_of_ble_eq_true rfl) rfl ?_
  exact ex_art rfl (Or.inl ⟨_, rfl⟩) dJx4a65c_get_915e3_14 ex_rt_i
/-! rules that the lists want -/
section AL
variable {g : gl_T} {d : Nat} {M : mt_T} {Po : ex_R} {pc pc' : Nat} {lv : List (Nat × Value)} {st : List Value} {S : hs_T} {n k : Nat}
theorem ex_acmp_eqR {x y : Nat} {off : Int} {tgt : Nat} (h : ex_d M pc (.if_acmp .eq off) 3 pc') (ht : (pc : Int) + off = (tgt : Int)) (kt : x = y → ex_W g d M Po tgt lv st S n k) (kf : ¬ x = y → ex_W g d M Po pc' lv st S n k) : ex_W g d M Po pc lv (.ref y :: .ref x :: st) S n k := ex_acmp_eq (rx := some x) (ry := some y) h ht (fun z => kt (Option.some.inj z)) (fun z => kf (fun e => z (congrArg some e)))
theorem ex_acmp_neR {x y : Nat} {off : Int} {tgt : Nat} (h : ex_d M pc (.if_acmp .ne off) 3 pc') (ht : (pc : Int) + off = (tgt : Int)) (kt : ¬ x = y → ex_W g d M Po tgt lv st S n k) (kf : x = y → ex_W g d M Po pc' lv st S n k) : ex_W g d M Po pc lv (.ref y :: .ref x :: st) S n k := ex_acmp_ne (rx := some x) (ry := some y) h ht (fun z => kt (fun e => z (congrArg some e))) (fun z => kf (Option.some.inj z))
theorem ex_ldcM {idx : Nat} (h : ex_d M pc (.ldc idx) 2 pc') (hw : Cond.classLink M.1.cls idx "[Ljava/lang/Object;" ∈ ex_TB) (kk : ex_W g d M Po pc' lv (.ref (g.2.2.2.2 0) :: st) S n k) : ex_W g d M Po pc lv st S n k := by
  intro p e R s m args below meth c H locs ls cells slots n0 k0 C hl hW hS hn hk hN hK
  obtain ⟨⟨hx, hb, hml, hrt, hlocks⟩, ⟨hown, hnm, htab⟩, ⟨hKU, hKH, hbs, hst⟩, hfr, hlo, hrc, hrs, hn0, hk0⟩ := id C
  obtain ⟨hdg, rfl⟩ := h
  exact va_ldcM hx hb hown (ex_w hKU hw args) hKU.2.2.2.2.2.2 hdg (kk p e R s m args below meth c H locs ls cells slots n0 k0 C hl hW hS hn hk hN hK)
def gC_y : MethodName := ⟨"java/lang/Object", "getClass", "()Ljava/lang/Class;"⟩
theorem ex_getClass {idx a : Nat} (h : ex_d M pc (.invokevirtual idx) 3 pc') (hw : Cond.methodLink M.1.cls idx gC_y ∈ ex_TB ∧ Cond.declares gC_y ∈ ex_NB ∧ Cond.selects "[Ljava/lang/Object;" gC_y gC_y ∈ ex_TB ∧ Cond.instanceMethod gC_y ∈ ex_TB ∧ Cond.native gC_y ∈ ex_TB) (hL : a ∈ hs_L S) (hK1 : hs_K S a = 15) (hd : 1 ≤ d) (hrest : (st.map fun v => v.category).sum ≤ 8) (kk : ex_W g d M Po pc' lv (.ref (g.2.2.2.2 0) :: st) S n k) : ex_W g d M Po pc lv (.ref a :: st) S n k := by
  intro p e R s m args below meth c H locs ls cells slots n0 k0 C hl hW hS hn hk hN hK
  obtain ⟨⟨hx, hb, hml, hrt, hlocks⟩, ⟨hown, hnm, htab⟩, ⟨hKU, hKH, hbs, hst⟩, hfr, hlo, hrc, hrs, hn0, hk0⟩ := id C
  obtain ⟨hdg, rfl⟩ := h
  obtain ⟨q, hq⟩ := ex_cell (g := g) hL (hs_E_R hK1)
  have hr : ∃ cell : Cell, H[a]? = some cell ∧ cell.vm.isStatics = false ∧ s.vm.findClass "[Ljava/lang/Object;" = some cell.cls := by
    have h1 := hW.1 q _ hq
    obtain ⟨_, _, -, -, -, h2⟩ := (hKU.2.2.1.2 4 _ rfl).2
    exact ⟨_, h1, rfl, h2⟩
  exact va_getC hx hb (hml.trans hl.1.symm) hown (ex_w hKU hw.1 args) (ex_nbw hKU hw.2.1 args) (ex_w hKU hw.2.2.1 args) (ex_w hKU hw.2.2.2.1 args) (ex_w hKU hw.2.2.2.2 args) hKU.2.2.2.2.2.2 hr (by omega) (by omega) hdg (kk p e R s m args below meth c H locs ls cells slots n0 k0 C hl hW hS hn hk hN hK)
end AL
theorem hs_new_q (S : hs_T) (q kd N : Nat) : q ∈ hs_L (hs_new S q kd N) ∧ hs_K (hs_new S q kd N) q = kd ∧ hs_N (hs_new S q kd N) q = N := ⟨by rw [hs_L_new]; simp, by rw [hs_K_new]; simp, by rw [hs_N_new]; simp⟩
theorem hs_new_o {S : hs_T} {q a : Nat} (kd N : Nat) (hq : q ∉ hs_L S) (ha : a ∈ hs_L S) : a ∈ hs_L (hs_new S q kd N) ∧ hs_K (hs_new S q kd N) a = hs_K S a ∧ hs_N (hs_new S q kd N) a = hs_N S a ∧ hs_I (hs_new S q kd N) a = hs_I S a ∧ hs_J (hs_new S q kd N) a = hs_J S a ∧ hs_R (hs_new S q kd N) a = hs_R S a := by
  have hne : a ≠ q := fun h => hq (h ▸ ha)
  exact ⟨by rw [hs_L_new]; simp [ha], by rw [hs_K_new, if_neg hne], by rw [hs_N_new, if_neg hne], funext fun j => by rw [hs_I_new, if_neg hne], funext fun j => by rw [hs_J_new, if_neg hne], funext fun j => by rw [hs_R_new, if_neg hne]⟩
theorem hs_fr_new {S : hs_T} {q kd N : Nat} (hq : q ∉ hs_L S) (w : List Nat) : hs_fr S (hs_new S q kd N) w := ⟨fun x hx => ⟨(hs_new_o kd N hq hx).1, (hs_new_o kd N hq hx).2.1, (hs_new_o kd N hq hx).2.2.1⟩, fun x hx _ => (hs_new_o kd N hq hx).2.2.2⟩
theorem hs_fr_rf (S : hs_T) (w : List Nat) : hs_fr S S w := ⟨fun x hx => ⟨hx, rfl, rfl⟩, fun x hx _ => ⟨rfl, rfl, rfl⟩⟩
theorem hs_fr_tr {S S1 S2 : hs_T} {w : List Nat} (h1 : hs_fr S S1 w) (h2 : hs_fr S1 S2 w) : hs_fr S S2 w := ⟨fun x hx => ⟨(h2.1 x (h1.1 x hx).1).1, (h2.1 x (h1.1 x hx).1).2.1.trans (h1.1 x hx).2.1, (h2.1 x (h1.1 x hx).1).2.2.trans (h1.1 x hx).2.2⟩, fun x hx hw => ⟨(h2.2 x (h1.1 x hx).1 hw).1.trans (h1.2 x hx hw).1, (h2.2 x (h1.1 x hx).1 hw).2.1.trans (h1.2 x hx hw).2.1, (h2.2 x (h1.1 x hx).1 hw).2.2.trans (h1.2 x hx hw).2.2⟩⟩
theorem hs_fr_mono {S S' : hs_T} {w w' : List Nat} (h : hs_fr S S' w) (hw : ∀ x, x ∈ w → x ∈ w') : hs_fr S S' w' := ⟨h.1, fun x hx hn => h.2 x hx (fun z => hn (hw x z))⟩
theorem hs_fr_sI (S : hs_T) (a i : Nat) (v : Int32) : hs_fr S (hs_sI S a i v) [a] := ⟨fun x hx => ⟨hx, rfl, rfl⟩, fun x hx hw => ⟨by show hs_u (hs_I S) a i v x = _; rw [hs_u_off _ _ _ (by simpa using hw)], rfl, rfl⟩⟩
theorem hs_fr_sJ (S : hs_T) (a i : Nat) (v : Int64) : hs_fr S (hs_sJ S a i v) [a] := ⟨fun x hx => ⟨hx, rfl, rfl⟩, fun x hx hw => ⟨rfl, by show hs_u (hs_J S) a i v x = _; rw [hs_u_off _ _ _ (by simpa using hw)], rfl⟩⟩
theorem hs_fr_sR (S : hs_T) (a i : Nat) (v : Option Nat) : hs_fr S (hs_sR S a i v) [a] := ⟨fun x hx => ⟨hx, rfl, rfl⟩, fun x hx hw => ⟨rfl, rfl, by show hs_u (hs_R S) a i v x = _; rw [hs_u_off _ _ _ (by simpa using hw)]⟩⟩
theorem hs_fr_rR (S : hs_T) (a : Nat) (f : Nat → Option Nat) : hs_fr S (hs_rR S a f) [a] := ⟨fun x hx => ⟨hx, rfl, rfl⟩, fun x hx hw => ⟨rfl, rfl, by show va_up (hs_R S) a f x = _; rw [va_up_ne _ _ (by simpa using hw)]⟩⟩
theorem gC_w : Cond.methodLink RJ7 86 gC_y ∈ ex_TB ∧ Cond.declares gC_y ∈ ex_NB ∧ Cond.selects "[Ljava/lang/Object;" gC_y gC_y ∈ ex_TB ∧ Cond.instanceMethod gC_y ∈ ex_TB ∧ Cond.native gC_y ∈ ex_TB := by decide +kernel
set_option maxRecDepth 20000 in
set_option maxHeartbeats 2000000 in
theorem c_newLen (g : gl_T) {S : hs_T} {n k : Nat} {x y z : Int32} {c : Nat} (hx : x = nI c) (hy : y = nI 1) (hz : z = nI (c / 2)) (h2 : 2 ≤ c) (h5 : c ≤ 3000) : ex_M g 1 mJ8_newLength_cabcc [.int x, .int y, .int z] S n k (ex_rt (some (.int (nI (c + c / 2)))) S n k) := by
  refine ex_enter (by decide +kernel) (Nat.le_of_ble_eq_true rfl) ?_
  show ex_W _ _ _ _ 0 [(0, .int x), (1, .int y), (2, .int z)] [] _ _ _
  refine ex_iload_n dJ8_newLength_cabcc_0 0 rfl ?_
  refine ex_iload_n dJ8_newLength_cabcc_1 1 rfl ?_
  refine ex_iload_n dJ8_newLength_cabcc_2 2 rfl ?_
  refine ex_mmax dJ8_newLength_cabcc_3 ml_J8_194 mw_max (by decide) (Nat.le_of_ble_eq_true rfl) ?_
  refine ex_iadd dJ8_newLength_cabcc_6 ?_
  refine ex_istore_n [(3, .int (x + (if y < z then z else y))), (0, .int x), (1, .int y), (2, .int z)] dJ8_newLength_cabcc_7 (by decide) rfl ?_
  have hv : x + (if y < z then z else y) = nI (c + c / 2) := by
    rw [hx, hy, hz]
    split
    · exact nI_add _ _
    · rename_i hq
      have h9 : c / 2 = 1 := by
        rcases Nat.lt_or_ge 1 (c / 2) with q | q
        · exact absurd (nI_lt q (by omega)) hq
        · omega
      rw [h9]
      exact nI_add _ _
  refine ex_iconst (v := 0) dJ8_newLength_cabcc_8 (by decide) ?_
  refine ex_iload_n dJ8_newLength_cabcc_9 0 rfl ?_
  refine ex_icmp_ge (tgt := 21) dJ8_newLength_cabcc_10 (by decide) (fun c10 => absurd c10 (by rw [hv]; exact fun h => absurd h (nI_nle (by omega) (by omega)))) (fun c10 => ?_)
  refine ex_iload_n dJ8_newLength_cabcc_13 0 rfl ?_
  refine ex_ldc dJ8_newLength_cabcc_14 lc_J8_200 ?_
  refine ex_icmp_gt (tgt := 21) dJ8_newLength_cabcc_16 (by decide) (fun c16 => absurd c16 (by rw [hv]; exact nI_nlt (a := 2147483639) (b := c + c / 2) (by omega) (by omega))) (fun c16 => ?_)
  refine ex_iload_n dJ8_newLength_cabcc_19 0 rfl ?_
  exact ex_irt rfl dJ8_newLength_cabcc_20 (ex_rt_e (by rw [hv]))
set_option maxRecDepth 20000 in
set_option maxHeartbeats 2000000 in
theorem c_copy3 (g : gl_T) {S : hs_T} {n k : Nat} {e c N : Nat} {x : Int32} (hLe : e ∈ hs_L S) (hKe : hs_K S e = 15) (hNe : hs_N S e = c) (hx : x = nI N) (hcN : c ≤ N) (hN5 : N ≤ 5000) (hn1 : n + 1 ≤ ex_NM) (hk1 : k + N ≤ ex_KM) (hel : ∀ i, i < c → ∀ y, hs_R S e i = some y → y ∈ hs_L S ∧ hs_K S y < 11) : ex_M g 1 mJ7_copyOf_6403c [.ref e, .int x, .ref (g.2.2.2.2 0)] S n k (fun r S2 n2 k2 => ∃ q, q ∉ hs_L S ∧ r = .inl (some (.ref q)) ∧ S2 = hs_rR (hs_new S q 15 N) q (va_cpy (hs_R S e) (fun _ => none) 0 0 c) ∧ n2 = n + 1 ∧ k2 = k + N) := by
  refine ex_enter (by decide +kernel) (Nat.le_of_ble_eq_true rfl) ?_
  show ex_W _ _ _ _ 0 [(0, .ref e), (1, .int x), (2, .ref (g.2.2.2.2 0))] [] _ _ _
  refine ex_aload_n dJ7_copyOf_6403c_0 2 rfl ?_
  refine ex_ldcM dJ7_copyOf_6403c_1 kl_J7_110 ?_
  refine ex_acmp_neR (tgt := 13) dJ7_copyOf_6403c_3 (by decide) (fun c3 => absurd rfl c3) (fun _ => ?_)
  refine ex_iload_n dJ7_copyOf_6403c_6 1 rfl ?_
  refine ex_newQ dJ7_copyOf_6403c_7 kl_J7_2 hx (by omega) hn1 hk1 (fun q hq => ?_)
  obtain ⟨hLq, hKq, hNq⟩ := hs_new_q S q 15 N
  obtain ⟨hLe1, hKe1, hNe1, -, -, hRe1⟩ := hs_new_o (S := S) 15 N hq hLe
  rw [hKe] at hKe1
  rw [hNe] at hNe1
  refine ex_goto (tgt := 24) dJ7_copyOf_6403c_10 (by decide) ?_
  refine ex_astore_n [(3, .ref q), (0, .ref e), (1, .int x), (2, .ref (g.2.2.2.2 0))] dJ7_copyOf_6403c_24 (by decide) rfl ?_
  refine ex_aload_n dJ7_copyOf_6403c_25 1 rfl ?_
  refine ex_iconst (v := 0) dJ7_copyOf_6403c_26 (by decide) ?_
  refine ex_aload_n dJ7_copyOf_6403c_27 0 rfl ?_
  refine ex_iconst (v := 0) dJ7_copyOf_6403c_28 (by decide) ?_
  refine ex_aload_n dJ7_copyOf_6403c_29 1 rfl ?_
  refine ex_alen dJ7_copyOf_6403c_30 hLe1 (by rw [hKe1]; decide) ?_
  refine ex_iload_n dJ7_copyOf_6403c_31 2 rfl ?_
  refine ex_mmin dJ7_copyOf_6403c_32 ml_J7_304 mw_min (by decide) (Nat.le_of_ble_eq_true rfl) ?_
  have hmin : (if x < nI (hs_N (hs_new S q 15 N) e) then x else nI (hs_N (hs_new S q 15 N) e)) = nI c := by
    rw [hNe1, hx, if_neg (nI_nlt hcN (by omega))]
  refine ex_copy (sp := 0) (dp := 0) (N := c) dJ7_copyOf_6403c_35 ml_J7_150 mw_copy hLe1 hKe1 hLq hKq rfl rfl hmin (by omega) (by omega) (by omega) (fun i hi y hy => ?_) (by decide) (Nat.le_of_ble_eq_true rfl) ?_
  · rw [hRe1, Nat.zero_add] at hy
    exact ⟨(hs_new_o 15 N hq (hel i hi y hy).1).1, by rw [(hs_new_o 15 N hq (hel i hi y hy).1).2.1]; exact (hel i hi y hy).2⟩
  refine ex_aload_n dJ7_copyOf_6403c_38 0 rfl ?_
  exact ex_art rfl (Or.inr ⟨_, rfl⟩) dJ7_copyOf_6403c_39 ⟨q, hq, rfl, by rw [hRe1, show hs_R (hs_new S q 15 N) q = (fun _ => none) from funext fun j => by rw [hs_R_new, if_pos rfl]], rfl, rfl⟩
set_option maxRecDepth 20000 in
set_option maxHeartbeats 2000000 in
theorem c_copy (g : gl_T) {S : hs_T} {n k : Nat} {e c N : Nat} {x : Int32} (hLe : e ∈ hs_L S) (hKe : hs_K S e = 15) (hNe : hs_N S e = c) (hx : x = nI N) (hcN : c ≤ N) (hN5 : N ≤ 5000) (hn1 : n + 1 ≤ ex_NM) (hk1 : k + N ≤ ex_KM) (hel : ∀ i, i < c → ∀ y, hs_R S e i = some y → y ∈ hs_L S ∧ hs_K S y < 11) : ex_M g 2 mJ7_copyOf_1904c [.ref e, .int x] S n k (fun r S2 n2 k2 => ∃ q, q ∉ hs_L S ∧ r = .inl (some (.ref q)) ∧ S2 = hs_rR (hs_new S q 15 N) q (va_cpy (hs_R S e) (fun _ => none) 0 0 c) ∧ n2 = n + 1 ∧ k2 = k + N) := by
  refine ex_enter (by decide +kernel) (Nat.le_of_ble_eq_true rfl) ?_
  show ex_W _ _ _ _ 0 [(0, .ref e), (1, .int x)] [] _ _ _
  refine ex_aload_n dJ7_copyOf_1904c_0 0 rfl ?_
  refine ex_iload_n dJ7_copyOf_1904c_1 1 rfl ?_
  refine ex_aload_n dJ7_copyOf_1904c_2 0 rfl ?_
  refine ex_getClass dJ7_copyOf_1904c_3 gC_w hLe hKe (by decide) (Nat.le_of_ble_eq_true rfl) ?_
  refine ex_cSg [.ref e, .int x, .ref (g.2.2.2.2 0)] [] dJ7_copyOf_1904c_6 cS_J7_300 (c_copy3 g hLe hKe hNe hx hcN hN5 hn1 hk1 hel) rfl (by decide) (Nat.le_of_ble_eq_true rfl) rfl (fun E S2 n2 k2 ⟨q, _, h, _⟩ => by cases h) ?_
  rintro v S2 n2 k2 ⟨q, hq, hv, hS2, rfl, rfl⟩
  cases hv
  show ex_W _ _ _ _ 9 [(0, .ref e), (1, .int x)] [.ref q] _ _ _
  exact ex_art rfl (Or.inr ⟨_, rfl⟩) dJ7_copyOf_1904c_9 ⟨q, hq, rfl, hS2, rfl, rfl⟩
/-- behind grow: a new row q of length N, with the c elements of before -/
def al_gr (S : hs_T) (a e c N q : Nat) (S2 : hs_T) : Prop := q ∉ hs_L S ∧ S2 = hs_sR (hs_rR (hs_new S q 15 N) q (va_cpy (hs_R S e) (fun _ => none) 0 0 c)) a 1 (some q)
def al_cap (c : Nat) : Nat := if c = 0 then 10 else c + c / 2
set_option maxRecDepth 20000 in
set_option maxHeartbeats 2000000 in
theorem c_AL_grow1 (g : gl_T) {S : hs_T} {n k : Nat} {a e c : Nat} {x : Int32} (hL : a ∈ hs_L S) (hK : hs_K S a = 0) (hR : hs_R S a 1 = some e) (hE : (e ∈ hs_L S ∧ hs_K S e = 15 ∧ hs_N S e = c ∧ 2 ≤ c) ∨ (e = g.2.2.2.2 1 ∧ c = 0)) (hc : c ≤ 3000) (hx : x = nI (c + 1)) (hel : ∀ i, i < c → ∀ y, hs_R S e i = some y → y ∈ hs_L S ∧ hs_K S y < 11) (hn1 : n + 1 ≤ ex_NM) (hk1 : k + al_cap c ≤ ex_KM) : ex_M g 4 mJx4a65c_grow_92f84 [.ref a, .int x] S n k (fun r S2 n2 k2 => ∃ q, r = .inl (some (.ref q)) ∧ al_gr S a e c (al_cap c) q S2 ∧ n2 = n + 1 ∧ k2 = k + al_cap c) := by
  refine ex_enter (by decide +kernel) (Nat.le_of_ble_eq_true rfl) ?_
  show ex_W _ _ _ _ 0 [(0, .ref a), (1, .int x)] [] _ _ _
  rcases hE with ⟨hLe, hKe, hNe, hc2⟩ | ⟨he, hc0⟩
  · have hcp : al_cap c = c + c / 2 := by unfold al_cap; rw [if_neg (by omega)]
    have hk2 : k + (c + c / 2) ≤ ex_KM := by rw [← hcp]; exact hk1
    refine ex_aload_n dJx4a65c_grow_92f84_0 0 rfl ?_
    refine ex_getR (b := e) dJx4a65c_grow_92f84_1 fl_Jx4a65c_9 (by assumption) (by assumption) hR ?_
    refine ex_alen dJx4a65c_grow_92f84_4 (by assumption) (by rw [hKe]; decide) ?_
    refine ex_istore_n [(2, .int (nI (hs_N S e))), (0, .ref a), (1, .int x)] dJx4a65c_grow_92f84_5 (by decide) rfl ?_
    refine ex_iload_n dJx4a65c_grow_92f84_6 0 rfl ?_
    refine ex_if_gt (tgt := 20) dJx4a65c_grow_92f84_7 (by decide) (fun c7 => ?_) (fun c7 => absurd (by rw [hNe]; exact nI_lt (a := 0) (by omega) (by omega)) c7)
    refine ex_iload_n dJx4a65c_grow_92f84_20 0 rfl ?_
    refine ex_iload_n dJx4a65c_grow_92f84_21 2 rfl ?_
    refine ex_iload_n dJx4a65c_grow_92f84_22 0 rfl ?_
    refine ex_isub dJx4a65c_grow_92f84_23 ?_
    refine ex_iload_n dJx4a65c_grow_92f84_24 0 rfl ?_
    refine ex_iconst (v := 1) dJx4a65c_grow_92f84_25 (by decide) ?_
    refine ex_ishr dJx4a65c_grow_92f84_26 ?_
    refine ex_cSr [.int (nI (hs_N S e)), .int (x - (nI (hs_N S e))), .int ((nI (hs_N S e)) >>> (1 &&& 31))] [] dJx4a65c_grow_92f84_27 cS_Jx4a65c_73 (c_newLen g (c := c) (by rw [hNe]) (by rw [hx, hNe]; exact (pk_sub (by omega)).trans (congrArg nI (by omega))) (by rw [hNe]; exact pk_shrN (by omega) _ 1 (by decide +kernel)) hc2 hc) rfl (by decide) (Nat.le_of_ble_eq_true rfl) rfl ?_
    refine ex_istore_n [(3, .int (nI (c + c / 2))), (2, .int (nI (hs_N S e))), (0, .ref a), (1, .int x)] dJx4a65c_grow_92f84_30 (by decide) rfl ?_
    refine ex_aload_n dJx4a65c_grow_92f84_31 2 rfl ?_
    refine ex_aload_n dJx4a65c_grow_92f84_32 2 rfl ?_
    refine ex_getR (b := e) dJx4a65c_grow_92f84_33 fl_Jx4a65c_9 (by assumption) (by assumption) hR ?_
    refine ex_iload_n dJx4a65c_grow_92f84_36 0 rfl ?_
    refine ex_cSg [.ref e, .int (nI (c + c / 2))] [.ref a] dJx4a65c_grow_92f84_37 cS_Jx4a65c_66 (c_copy g hLe hKe hNe rfl (by omega) (by omega) hn1 hk2 hel) rfl (by decide) (Nat.le_of_ble_eq_true rfl) rfl (fun E S2 n2 k2 ⟨q, _, h, _⟩ => by cases h) ?_
    rintro v S2 n2 k2 ⟨q, hq, hv, hS2, rfl, rfl⟩
    cases hv
    show ex_W _ _ _ _ 40 [(3, .int (nI (c + c / 2))), (2, .int (nI (hs_N S e))), (0, .ref a), (1, .int x)] [.ref q, .ref a] _ _ _
    have hL2 : a ∈ hs_L S2 := by rw [hS2]; exact (hs_new_o 15 (c + c / 2) hq hL).1
    have hK2 : hs_K S2 a = 0 := by rw [hS2]; exact (hs_new_o 15 (c + c / 2) hq hL).2.1.trans hK
    refine ex_dup_x1 dJx4a65c_grow_92f84_40 rfl rfl ?_
    refine ex_putR dJx4a65c_grow_92f84_41 fl_Jx4a65c_9 (pf_Jx4a65c_9 _) (Or.inr ⟨_, rfl⟩) (by assumption) (by assumption) ?_
    exact ex_art rfl (Or.inr ⟨_, rfl⟩) dJx4a65c_grow_92f84_44 ⟨q, rfl, ⟨hq, by rw [hS2, hcp]⟩, rfl, by rw [hcp]⟩
  · subst he; subst hc0
    refine ex_aload_n dJx4a65c_grow_92f84_0 0 rfl ?_
    refine ex_getR (b := g.2.2.2.2 1) dJx4a65c_grow_92f84_1 fl_Jx4a65c_9 (by assumption) (by assumption) hR ?_
    refine ex_alenC (q := (.object "java/lang/Object", 1, 0, fun _ _ => .null)) dJx4a65c_grow_92f84_4 List.mem_cons_self ?_
    refine ex_istore_n [(2, .int (nI 0)), (0, .ref a), (1, .int x)] dJx4a65c_grow_92f84_5 (by decide) rfl ?_
    refine ex_iload_n dJx4a65c_grow_92f84_6 0 rfl ?_
    refine ex_if_gt (tgt := 20) dJx4a65c_grow_92f84_7 (by decide) (fun c7 => absurd c7 (by decide)) (fun c7 => ?_)
    refine ex_aload_n dJx4a65c_grow_92f84_10 1 rfl ?_
    refine ex_getR (b := g.2.2.2.2 1) dJx4a65c_grow_92f84_11 fl_Jx4a65c_9 (by assumption) (by assumption) hR ?_
    refine ex_gets (q := ("java/util/ArrayList", "DEFAULTCAPACITY_EMPTY_ELEMENTDATA", "[Ljava/lang/Object;", fun ad => .ref (ad 1))) dJx4a65c_grow_92f84_14 List.mem_cons_self gs_Jx4a65c_39 ?_
    refine ex_acmp_eqR (tgt := 45) dJx4a65c_grow_92f84_17 (by decide) (fun c17 => ?_) (fun c17 => absurd rfl c17)
    refine ex_aload_n dJx4a65c_grow_92f84_45 1 rfl ?_
    refine ex_bipush (v := 10) dJx4a65c_grow_92f84_46 (by decide) ?_
    refine ex_iload_n dJx4a65c_grow_92f84_48 2 rfl ?_
    refine ex_mmax dJx4a65c_grow_92f84_49 ml_Jx4a65c_79 mw_max (by decide) (Nat.le_of_ble_eq_true rfl) ?_
    refine ex_newQ (N := 10) dJx4a65c_grow_92f84_52 kl_Jx4a65c_7 (by rw [hx]; decide) (by omega) hn1 hk1 (fun q hq => ?_)
    refine ex_dup_x1 dJx4a65c_grow_92f84_55 rfl rfl ?_
    refine ex_putR dJx4a65c_grow_92f84_56 fl_Jx4a65c_9 (pf_Jx4a65c_9 _) (Or.inr ⟨_, rfl⟩) (hs_new_o 15 10 hq hL).1 ((hs_new_o 15 10 hq hL).2.1.trans hK) ?_
    refine ex_art rfl (Or.inr ⟨_, rfl⟩) dJx4a65c_grow_92f84_59 ⟨q, rfl, ⟨hq, ?_⟩, rfl, rfl⟩
    show hs_sR (hs_new S q 15 10) a 1 (some q) = hs_sR (hs_rR (hs_new S q 15 10) q (va_cpy (hs_R S (g.2.2.2.2 1)) (fun _ => none) 0 0 0)) a 1 (some q)
    have h0 : hs_rR (hs_new S q 15 10) q (va_cpy (hs_R S (g.2.2.2.2 1)) (fun _ => none) 0 0 0) = hs_new S q 15 10 := by
      have h1 : va_cpy (hs_R S (g.2.2.2.2 1)) (fun _ => none) 0 0 0 = fun _ => (none : Option Nat) := funext fun j => by unfold va_cpy; simp
      rw [h1]
      show (_, _, _, _, _, va_up (va_up (hs_R S) q (fun _ => none)) q (fun _ => none)) = _
      rw [bx_uu]; rfl
    rw [h0]
set_option maxRecDepth 20000 in
set_option maxHeartbeats 2000000 in
theorem c_AL_grow0 (g : gl_T) {S : hs_T} {n k : Nat} {a e c : Nat} (hL : a ∈ hs_L S) (hK : hs_K S a = 0) (hR : hs_R S a 1 = some e) (hE : (e ∈ hs_L S ∧ hs_K S e = 15 ∧ hs_N S e = c ∧ 2 ≤ c) ∨ (e = g.2.2.2.2 1 ∧ c = 0)) (hc : c ≤ 3000) (hx : hs_I S a 2 = nI c) (hel : ∀ i, i < c → ∀ y, hs_R S e i = some y → y ∈ hs_L S ∧ hs_K S y < 11) (hn1 : n + 1 ≤ ex_NM) (hk1 : k + al_cap c ≤ ex_KM) : ex_M g 5 mJx4a65c_grow_d5877 [.ref a] S n k (fun r S2 n2 k2 => ∃ q, r = .inl (some (.ref q)) ∧ al_gr S a e c (al_cap c) q S2 ∧ n2 = n + 1 ∧ k2 = k + al_cap c) := by
  refine ex_enter (by decide +kernel) (Nat.le_of_ble_eq_true rfl) ?_
  show ex_W _ _ _ _ 0 [(0, .ref a)] [] _ _ _
  refine ex_aload_n dJx4a65c_grow_d5877_0 0 rfl ?_
  refine ex_aload_n dJx4a65c_grow_d5877_1 0 rfl ?_
  refine ex_getI dJx4a65c_grow_d5877_2 fl_Jx4a65c_48 (by assumption) (by assumption) ?_
  refine ex_iconst (v := 1) dJx4a65c_grow_d5877_5 (by decide) ?_
  refine ex_iadd dJx4a65c_grow_d5877_6 ?_
  refine ex_cVg [.int ((hs_I S a 2) + 1)] [] dJx4a65c_grow_d5877_7 cV_Jx4a65c_69 (c_AL_grow1 g hL hK hR hE hc (by rw [hx]; exact nI_1 c) hel hn1 hk1) (by assumption) (by assumption) rfl rfl rfl (by decide) (Nat.le_of_ble_eq_true rfl) rfl ?_ (fun E S2 n2 k2 hh => by first | (obtain ⟨_, h, _⟩ := hh; cases h) | (obtain ⟨h, _⟩ := hh; cases h))
  rintro v S2 n2 k2 ⟨q, hv, hgr, rfl, rfl⟩
  cases hv
  show ex_W _ _ _ _ 10 [(0, .ref a)] [.ref q] _ _ _
  exact ex_art rfl (Or.inr ⟨_, rfl⟩) dJx4a65c_grow_d5877_10 ⟨q, rfl, hgr, rfl, rfl⟩
/-- behind a writing of the list -/
def al_po (g : gl_T) (S S' : hs_T) (a e c kd : Nat) (xs' : List Nat) (n n' k k' : Nat) : Prop := ∃ e' c', al_at g S' a e' c' kd xs' ∧ hs_fr S S' [a, e] ∧ (e' = e ∨ e' ∉ hs_L S) ∧ c ≤ c' ∧ n' + c ≤ n + c' ∧ k' + 4 * c ≤ k + 4 * c' ∧ hs_J S' a = hs_J S a
theorem al_el {g : gl_T} {S : hs_T} {a e c kd : Nat} {xs : List Nat} (h : al_at g S a e c kd xs) (hc : c = xs.length) : ∀ i, i < c → ∀ y, hs_R S e i = some y → y ∈ hs_L S ∧ hs_K S y < 11 := by
  intro i hi y hy
  rw [h.2.2.2.1 i (by omega)] at hy
  have := h.2.2.2.2 y (List.mem_of_getElem? hy)
  exact ⟨this.1, by omega⟩
theorem al_fin1 {g : gl_T} {S : hs_T} {a e c kd x n k : Nat} {xs : List Nat} (h : al_at g S a e c kd xs) (hlt : xs.length < c) (hx : x ∈ hs_L S ∧ hs_K S x = kd ∧ kd < 11) : al_po g S (hs_sI (hs_sR S e xs.length (some x)) a 2 (nI xs.length + 1)) a e c kd (xs ++ [x]) n n k k := by
  obtain ⟨⟨hL, hK, hR, hI⟩, ⟨hlc, hc5⟩, hE, hel, hxs⟩ := h
  obtain ⟨hLe, hKe, hNe, hc2⟩ : e ∈ hs_L S ∧ hs_K S e = 15 ∧ hs_N S e = c ∧ 2 ≤ c := by
    rcases hE with hE | ⟨-, hE⟩
    · exact hE
    · omega
  have hne : a ≠ e := fun q => by rw [q] at hK; omega
  refine ⟨e, c, ⟨⟨hL, hK, ?_, ?_⟩, ⟨by simp; omega, hc5⟩, Or.inl ⟨hLe, hKe, hNe, hc2⟩, fun i hi => ?_, fun y hy => ?_⟩, ?_, Or.inl rfl, Nat.le_refl _, Nat.le_refl _, Nat.le_refl _, rfl⟩
  · rw [hs_R_sI, hs_R_sR, if_neg (fun q => hne q.1)]; exact hR
  · rw [hs_I_sI, if_pos ⟨rfl, rfl⟩]; simp; exact nI_1 _
  · rw [hs_R_sI, hs_R_sR]
    simp at hi
    by_cases hil : i = xs.length
    · subst hil; simp
    · rw [if_neg (fun q => hil q.2), hel i (by omega), List.getElem?_append_left (by omega)]
  · rcases List.mem_append.mp hy with hy | hy
    · exact hxs y hy
    · rw [List.mem_singleton.mp hy]; exact hx
  · exact hs_fr_tr (hs_fr_mono (hs_fr_sR S e _ _) (by simp)) (hs_fr_mono (hs_fr_sI _ a _ _) (by simp))
theorem sb_cpy0' {f g : Nat → Option Nat} {n j : Nat} (h : j < n) : va_cpy f g 0 0 n j = f j := by unfold va_cpy; simp [h]
theorem al_cap_b (c : Nat) (h : c = 0 ∨ 2 ≤ c) (hc : c ≤ 3000) : c + 1 ≤ al_cap c ∧ al_cap c ≤ 5000 ∧ al_cap c + 4 * c ≤ 4 * al_cap c ∧ 2 ≤ al_cap c := by
  unfold al_cap
  split <;> omega
theorem al_fin2 {g : gl_T} {S S2 : hs_T} {a e c kd x n k q : Nat} {xs : List Nat} (h : al_at g S a e c kd xs) (hlt : xs.length = c) (hc3 : c ≤ 3000) (hx : x ∈ hs_L S ∧ hs_K S x = kd ∧ kd < 11) (hq : al_gr S a e c (al_cap c) q S2) : al_po g S (hs_sI (hs_sR S2 q xs.length (some x)) a 2 (nI xs.length + 1)) a e c kd (xs ++ [x]) n (n + 1) k (k + al_cap c) := by
  obtain ⟨⟨hL, hK, hR, hI⟩, ⟨hlc, hc5⟩, hE, hel, hxs⟩ := h
  obtain ⟨hqn, rfl⟩ := hq
  obtain ⟨hb1, hb2, hb3, hb4⟩ := al_cap_b c (by rcases hE with ⟨_, _, _, h⟩ | ⟨_, h⟩ <;> omega) hc3
  obtain ⟨hLq, hKq, hNq⟩ := hs_new_q S q 15 (al_cap c)
  obtain ⟨hLa, hKa, hNa, hIa, hJa, hRa⟩ := hs_new_o (S := S) 15 (al_cap c) hqn hL
  have hne : a ≠ q := fun z => hqn (z ▸ hL)
  refine ⟨q, al_cap c, ⟨⟨hLa, hKa.trans hK, ?_, ?_⟩, ⟨by simp; omega, hb2⟩, Or.inl ⟨hLq, hKq, hNq, hb4⟩, fun i hi => ?_, fun y hy => ?_⟩, ?_, Or.inr hqn, by omega, by omega, by omega, ?_⟩
  · rw [hs_R_sI, hs_R_sR, if_neg (fun z => hne z.1), hs_R_sR, if_pos ⟨rfl, rfl⟩]
  · rw [hs_I_sI, if_pos ⟨rfl, rfl⟩]; simp; exact nI_1 _
  · simp at hi
    rw [hs_R_sI, hs_R_sR]
    by_cases hil : i = xs.length
    · subst hil; simp
    · rw [if_neg (fun z => hil z.2), hs_R_sR, if_neg (fun z => hne z.1.symm), hs_R_rR, if_pos rfl, sb_cpy0' (by omega), hel i (by omega), List.getElem?_append_left (by omega)]
  · have hy2 : y ∈ hs_L S ∧ hs_K S y = kd ∧ kd < 11 := by
      rcases List.mem_append.mp hy with hy | hy
      · exact hxs y hy
      · rw [List.mem_singleton.mp hy]; exact hx
    exact ⟨(hs_new_o 15 (al_cap c) hqn hy2.1).1, (hs_new_o 15 (al_cap c) hqn hy2.1).2.1.trans hy2.2.1, hy2.2.2⟩
  · refine ⟨fun x hx => (hs_fr_new hqn [a, e]).1 x hx, fun x hx hw => ?_⟩
    simp at hw
    have hxq : x ≠ q := fun z => hqn (z ▸ hx)
    obtain ⟨-, -, -, h4, h5, h6⟩ := hs_new_o (S := S) 15 (al_cap c) hqn hx
    exact ⟨funext fun j => by rw [hs_I_sI, if_neg (fun z => hw.1 z.1)]; exact congrFun h4 j, h5, funext fun j => by rw [hs_R_sI, hs_R_sR, if_neg (fun z => hxq z.1), hs_R_sR, if_neg (fun z => hw.1 z.1), hs_R_rR, if_neg hxq]; exact congrFun h6 j⟩
  · exact hJa
