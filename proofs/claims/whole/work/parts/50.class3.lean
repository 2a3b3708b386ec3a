/-! the ledger, read -/
def LG (g : gl_T) (S : hs_T) (ow : Nat → Nat) (l c4 c5 : Nat) (ls : List li_T) (ys : List Nat) : Prop := (l ∈ hs_L S ∧ hs_K S l = 4) ∧ CG g S ow l c4 c5 ls ys ∧ ls.length ≤ 1500 ∧ ∀ j, j < ls.length → ln_ok (ln_at ls j)
theorem RC_LG {g : gl_T} {S : hs_T} {ow : Nat → Nat} {x l tp nz : Nat} {s : st_T} {ys : List Nat} {c : Nat → Nat} (h : RC g S ow x l tp nz s ys c) (hb : BD s) : LG g S ow l (c 4) (c 5) (s_ls s) ys := ⟨⟨h.1.2.1.2.1, h.1.2.1.2.2⟩, h.2.2.2.1, hb.2.2.2.1.1, hb.2.2.2.1.2⟩
theorem gz_at {la ys : List Nat} {i : Nat} (hi : i < ys.length) : (ys.map (fun i => la.getD i 0)).getD i 0 = la.getD (ys.getD i 0) 0 := by
  rw [List.getD_eq_getElem?_getD, List.getElem?_map, List.getD_eq_getElem?_getD (l := ys), List.getElem?_eq_getElem hi]; rfl
theorem gd_mem {xs : List Nat} {j : Nat} (hj : j < xs.length) : xs.getD j 0 ∈ xs := by rw [List.getD_eq_getElem?_getD, List.getElem?_eq_getElem hj]; exact List.getElem_mem hj
theorem GO_at {ls : List li_T} {ys : List Nat} (hG : GO ls ys) {i : Nat} (hi : i < ys.length) : ys.getD i 0 < ls.length ∧ (ln_at ls (ys.getD i 0)).2.2.2.2 = none := (hG.2 _).mp (gd_mem hi)
theorem c_getz (g : gl_T) {S : hs_T} {n k a e c kd : Nat} {la ys : List Nat} (h : al_at g S a e c kd (ys.map (fun i => la.getD i 0))) {y : Int32} {i : Nat} (hy : y = nI i) (hi : i < ys.length) : ex_M g 2 mJx4a65c_get_915e3 [.ref a, .int y] S n k (ex_rt (some (.ref (la.getD (ys.getD i 0) 0))) S n k) := by
  have := c_getj g (n := n) (k := k) h hy (j := i) (by rw [List.length_map]; exact hi)
  rwa [gz_at hi] at this
theorem sm_app (f : Nat → Nat) : ∀ (xs ys : List Nat), sm f (xs ++ ys) = sm f xs + sm f ys
  | [], ys => by simp [sm]
  | x :: xs, ys => by simp only [List.cons_append, sm]; rw [sm_app f xs ys]; omega
theorem sm_take (f : Nat → Nat) {ys : List Nat} {i : Nat} (hi : i < ys.length) : sm f (ys.take (i + 1)) = sm f (ys.take i) + f (ys.getD i 0) := by
  rw [List.take_succ, List.getElem?_eq_getElem hi, sm_app, List.getD_eq_getElem?_getD, List.getElem?_eq_getElem hi]; simp [sm]
theorem sm_filter (f : Nat → Nat) (pf : Nat → Bool) : ∀ ys : List Nat, sm f (ys.filter pf) = sm (fun j => if pf j = true then f j else 0) ys
  | [] => rfl
  | y :: ys => by
    rw [List.filter_cons]
    by_cases h : pf y = true
    · rw [if_pos h]; simp only [sm]; rw [sm_filter f pf ys, if_pos h]
    · rw [if_neg h]; simp only [sm]; rw [sm_filter f pf ys, if_neg h]; omega
set_option maxRecDepth 20000 in
set_option maxHeartbeats 2000000 in
theorem c_bondsOf_l {g : gl_T} {S : hs_T} {n k l c4 c5 : Nat} {ow : Nat → Nat} {ls : List li_T} {ys : List Nat} {y : Int32} {h0 : Nat} (h : LG g S ow l c4 c5 ls ys) (hy : y = nI h0) (hh : h0 < 2 ^ 31) : ∀ t i acc, i ≤ ys.length → ys.length < i + t → acc = nI (sm (fun j => if (ln_at ls j).2.2.1 = h0 then ln_sz (ln_at ls j) else 0) (ys.take i)) → ex_W g 3 mX4_bondsOf (ex_rt (some (.int (nI (sm (fun j => if (ln_at ls j).2.2.1 = h0 then ln_sz (ln_at ls j) else 0) ys)))) S n k) 4 [(3, .int (nI i)), (2, .int acc), (0, .ref l), (1, .int y)] [] S n k := by
  obtain ⟨hl, hCG, hl15, hlok⟩ := id h
  obtain ⟨la, ⟨a4, e4, r4, l4, o4, p4⟩, ⟨a5, e5, r5, l5, o5, p5⟩, nd4, len4, f4, hG⟩ := id hCG
  have hgl : (ys.map (fun i => la.getD i 0)).length = ys.length := List.length_map _
  have hfl : ∀ i, (ln_at ls i).1 ≤ (ln_at ls i).2.1 := fun i => by
    by_cases z : i < ls.length
    · exact (hlok i z).1
    · unfold ln_at; rw [List.getD_eq_getElem?_getD, List.getElem?_eq_none (by omega)]; exact Nat.le_refl _
  have hys : ys.length ≤ 1500 := Nat.le_trans (nd_len (GO_nd hfl hG) (fun i hi => ((hG.2 i).mp hi).1)) hl15
  intro t
  induction t with
  | zero => intro i acc h1 h2; exact absurd h2 (by omega)
  | succ t ih =>
    intro i acc hi1 hi2 hacc
    refine ex_iload_n dX4_bondsOf_4 0 rfl ?_
    refine ex_aload_n dX4_bondsOf_5 2 rfl ?_
    refine ex_getR (b := a5) dX4_bondsOf_6 fl_X4_18 hl.1 hl.2 r5 ?_
    refine ex_cVr [] [.int (nI i)] dX4_bondsOf_9 cV_X4_26 (c_szn g l5 hgl) l5.1.1 l5.1.2.1 rfl rfl rfl (by decide) (Nat.le_of_ble_eq_true rfl) rfl ?_
    refine ex_icmp_ge (tgt := 51) dX4_bondsOf_12 (by decide) (fun c12 => ?_) (fun c12 => ?_)
    · have hil : i = ys.length := by have := (nI_leI (by omega) (by omega)).mp c12; omega
      refine ex_iload_n dX4_bondsOf_51 1 rfl ?_
      exact ex_irt rfl dX4_bondsOf_52 (ex_rt_e (by rw [hacc, hil, List.take_length]))
    · have hil : i < ys.length := by
        rcases Nat.lt_or_ge i ys.length with q | q
        · exact q
        · exact absurd (nI_le q (by omega)) c12
      obtain ⟨hz1, hz2⟩ := GO_at hG hil
      have mj := al_mem l4 (j := ys.getD i 0) (by omega)
      obtain ⟨g0, g1, g2, g3, g4⟩ := f4 _ hz1
      have hok := hlok _ hz1
      refine ex_aload_n dX4_bondsOf_15 2 rfl ?_
      refine ex_getR (b := a5) dX4_bondsOf_16 fl_X4_18 hl.1 hl.2 r5 ?_
      refine ex_iload_n dX4_bondsOf_19 0 rfl ?_
      refine ex_cVr [.int (nI i)] [] dX4_bondsOf_20 cV_X4_46 (c_getz g l5 rfl hil) l5.1.1 l5.1.2.1 rfl rfl rfl (by decide) (Nat.le_of_ble_eq_true rfl) rfl ?_
      refine ex_cast dX4_bondsOf_23 mj.1 mj.2 rfl kl_X4_50 ?_
      refine ex_astore [(4, .ref (la.getD (ys.getD i 0) 0)), (3, .int (nI i)), (2, .int acc), (0, .ref l), (1, .int y)] dX4_bondsOf_26 (by decide) rfl ?_
      refine ex_aload dX4_bondsOf_28 0 rfl ?_
      refine ex_getI dX4_bondsOf_30 fl_X4_64 mj.1 mj.2 ?_
      refine ex_iload_n dX4_bondsOf_33 4 rfl ?_
      refine ex_icmp_ne (tgt := 45) dX4_bondsOf_34 (by decide) (fun c34 => ?_) (fun c34 => ?_)
      · refine ex_iinc (v := nI (i + 1)) 1 [(3, .int (nI (i + 1))), (4, .ref (la.getD (ys.getD i 0) 0)), (2, .int acc), (0, .ref l), (1, .int y)] dX4_bondsOf_45 rfl (nI_1 i) (by decide) rfl ?_
        refine ex_goto (tgt := 4) dX4_bondsOf_48 (by decide) ?_
        refine ex_lv [0, 2, 3, 4] rfl ?_
        refine ih (i + 1) _ (by omega) (by omega) ?_
        rw [sm_take _ hil]
        rw [hacc]
        congr 1
        show _ = _ + if _ then _ else _
        rw [if_neg (fun z => c34 (by rw [g2, z, hy]))]
        rfl
      · refine ex_iload_n dX4_bondsOf_37 2 rfl ?_
        refine ex_aload dX4_bondsOf_38 0 rfl ?_
        refine ex_cVr [] [.int acc] dX4_bondsOf_40 cV_X4_84 (c_Line_size g mj.1 mj.2) mj.1 mj.2 rfl rfl rfl (by decide) (Nat.le_of_ble_eq_true rfl) rfl ?_
        refine ex_iadd dX4_bondsOf_43 ?_
        refine ex_istore_n [(2, .int (acc + (hs_I S (la.getD (ys.getD i 0) 0) 1 - hs_I S (la.getD (ys.getD i 0) 0) 0 + 1))), (4, .ref (la.getD (ys.getD i 0) 0)), (3, .int (nI i)), (0, .ref l), (1, .int y)] dX4_bondsOf_44 (by decide) rfl ?_
        refine ex_iinc (v := nI (i + 1)) 2 [(3, .int (nI (i + 1))), (2, .int (acc + (hs_I S (la.getD (ys.getD i 0) 0) 1 - hs_I S (la.getD (ys.getD i 0) 0) 0 + 1))), (4, .ref (la.getD (ys.getD i 0) 0)), (0, .ref l), (1, .int y)] dX4_bondsOf_45 rfl (nI_1 i) (by decide) rfl ?_
        refine ex_goto (tgt := 4) dX4_bondsOf_48 (by decide) ?_
        refine ex_lv [0, 1, 3, 4] rfl ?_
        refine ih (i + 1) _ (by omega) (by omega) ?_
        rw [sm_take _ hil]
        have e1 : hs_I S (la.getD (ys.getD i 0) 0) 1 - hs_I S (la.getD (ys.getD i 0) 0) 0 + 1 = nI (ln_sz (ln_at ls (ys.getD i 0))) := by
          rw [g0, g1, pk_sub hok.1]; exact nI_1 _
        rw [e1, hacc, nI_add]
        congr 2
        show _ = if _ then _ else _
        rw [if_pos ((nI_eq (by have := hok.2.2.1; omega) hh).mp (g2.symm.trans (c34.trans hy)))]
set_option maxRecDepth 20000 in
set_option maxHeartbeats 2000000 in
theorem c_bondsOf (g : gl_T) {S : hs_T} {n k l c4 c5 : Nat} {ow : Nat → Nat} {ls : List li_T} {ys : List Nat} {y : Int32} {h0 : Nat} (h : LG g S ow l c4 c5 ls ys) (hy : y = nI h0) (hh : h0 < 2 ^ 31) : ex_M g 3 mX4_bondsOf [.ref l, .int y] S n k (ex_rt (some (.int (nI (sm (fun j => if (ln_at ls j).2.2.1 = h0 then ln_sz (ln_at ls j) else 0) ys)))) S n k) := by
  refine ex_enter (by decide +kernel) (Nat.le_of_ble_eq_true rfl) ?_
  show ex_W _ _ _ _ 0 [(0, .ref l), (1, .int y)] [] _ _ _
  refine ex_iconst (v := 0) dX4_bondsOf_0 (by decide) ?_
  refine ex_istore_n [(2, .int 0), (0, .ref l), (1, .int y)] dX4_bondsOf_1 (by decide) rfl ?_
  refine ex_iconst (v := 0) dX4_bondsOf_2 (by decide) ?_
  refine ex_istore_n [(3, .int 0), (2, .int 0), (0, .ref l), (1, .int y)] dX4_bondsOf_3 (by decide) rfl ?_
  exact c_bondsOf_l h hy hh (ys.length + 1) 0 _ (by omega) (by omega) rfl
set_option maxRecDepth 20000 in
set_option maxHeartbeats 2000000 in
theorem c_since_l {g : gl_T} {S : hs_T} {n k l c4 c5 : Nat} {ow : Nat → Nat} {ls : List li_T} {ys : List Nat} {y : Int32} {pf : Nat → Bool} (h : LG g S ow l c4 c5 ls ys) (hpf : ∀ j, j < ls.length → (nI (ln_at ls j).2.2.2.1 ≤ y ↔ pf j = true)) : ∀ t i acc, i ≤ ys.length → ys.length < i + t → acc = nI (sm (fun j => if pf j = true then ln_sz (ln_at ls j) else 0) (ys.take i)) → ex_W g 3 mX4_bondsSince (ex_rt (some (.int (nI (sm (fun j => if pf j = true then ln_sz (ln_at ls j) else 0) ys)))) S n k) 4 [(3, .int (nI i)), (2, .int acc), (0, .ref l), (1, .int y)] [] S n k := by
  obtain ⟨hl, hCG, hl15, hlok⟩ := id h
  obtain ⟨la, ⟨a4, e4, r4, l4, o4, p4⟩, ⟨a5, e5, r5, l5, o5, p5⟩, nd4, len4, f4, hG⟩ := id hCG
  have hgl : (ys.map (fun i => la.getD i 0)).length = ys.length := List.length_map _
  have hfl : ∀ i, (ln_at ls i).1 ≤ (ln_at ls i).2.1 := fun i => by
    by_cases z : i < ls.length
    · exact (hlok i z).1
    · unfold ln_at; rw [List.getD_eq_getElem?_getD, List.getElem?_eq_none (by omega)]; exact Nat.le_refl _
  have hys : ys.length ≤ 1500 := Nat.le_trans (nd_len (GO_nd hfl hG) (fun i hi => ((hG.2 i).mp hi).1)) hl15
  intro t
  induction t with
  | zero => intro i acc h1 h2; exact absurd h2 (by omega)
  | succ t ih =>
    intro i acc hi1 hi2 hacc
    refine ex_iload_n dX4_bondsSince_4 0 rfl ?_
    refine ex_aload_n dX4_bondsSince_5 2 rfl ?_
    refine ex_getR (b := a5) dX4_bondsSince_6 fl_X4_18 hl.1 hl.2 r5 ?_
    refine ex_cVr [] [.int (nI i)] dX4_bondsSince_9 cV_X4_26 (c_szn g l5 hgl) l5.1.1 l5.1.2.1 rfl rfl rfl (by decide) (Nat.le_of_ble_eq_true rfl) rfl ?_
    refine ex_icmp_ge (tgt := 51) dX4_bondsSince_12 (by decide) (fun c12 => ?_) (fun c12 => ?_)
    · have hil : i = ys.length := by have := (nI_leI (by omega) (by omega)).mp c12; omega
      refine ex_iload_n dX4_bondsSince_51 1 rfl ?_
      exact ex_irt rfl dX4_bondsSince_52 (ex_rt_e (by rw [hacc, hil, List.take_length]))
    · have hil : i < ys.length := by
        rcases Nat.lt_or_ge i ys.length with q | q
        · exact q
        · exact absurd (nI_le q (by omega)) c12
      obtain ⟨hz1, hz2⟩ := GO_at hG hil
      have mj := al_mem l4 (j := ys.getD i 0) (by omega)
      obtain ⟨g0, g1, g2, g3, g4⟩ := f4 _ hz1
      have hok := hlok _ hz1
      refine ex_aload_n dX4_bondsSince_15 2 rfl ?_
      refine ex_getR (b := a5) dX4_bondsSince_16 fl_X4_18 hl.1 hl.2 r5 ?_
      refine ex_iload_n dX4_bondsSince_19 0 rfl ?_
      refine ex_cVr [.int (nI i)] [] dX4_bondsSince_20 cV_X4_46 (c_getz g l5 rfl hil) l5.1.1 l5.1.2.1 rfl rfl rfl (by decide) (Nat.le_of_ble_eq_true rfl) rfl ?_
      refine ex_cast dX4_bondsSince_23 mj.1 mj.2 rfl kl_X4_50 ?_
      refine ex_astore [(4, .ref (la.getD (ys.getD i 0) 0)), (3, .int (nI i)), (2, .int acc), (0, .ref l), (1, .int y)] dX4_bondsSince_26 (by decide) rfl ?_
      refine ex_aload dX4_bondsSince_28 0 rfl ?_
      refine ex_getI dX4_bondsSince_30 fl_X4_89 mj.1 mj.2 ?_
      refine ex_iload_n dX4_bondsSince_33 4 rfl ?_
      refine ex_icmp_gt (tgt := 45) dX4_bondsSince_34 (by decide) (fun c34 => ?_) (fun c34 => ?_)
      · refine ex_iinc (v := nI (i + 1)) 1 [(3, .int (nI (i + 1))), (4, .ref (la.getD (ys.getD i 0) 0)), (2, .int acc), (0, .ref l), (1, .int y)] dX4_bondsSince_45 rfl (nI_1 i) (by decide) rfl ?_
        refine ex_goto (tgt := 4) dX4_bondsSince_48 (by decide) ?_
        refine ex_lv [0, 2, 3, 4] rfl ?_
        refine ih (i + 1) _ (by omega) (by omega) ?_
        rw [sm_take _ hil]
        rw [hacc]
        congr 1
        show _ = _ + if _ then _ else _
        rw [if_neg (fun z => by have z := (hpf _ hz1).mpr z; rw [← g3] at z; simp only [i_le, i_lt, Int32.reduceToInt] at *; omega)]
        rfl
      · refine ex_iload_n dX4_bondsSince_37 2 rfl ?_
        refine ex_aload dX4_bondsSince_38 0 rfl ?_
        refine ex_cVr [] [.int acc] dX4_bondsSince_40 cV_X4_84 (c_Line_size g mj.1 mj.2) mj.1 mj.2 rfl rfl rfl (by decide) (Nat.le_of_ble_eq_true rfl) rfl ?_
        refine ex_iadd dX4_bondsSince_43 ?_
        refine ex_istore_n [(2, .int (acc + (hs_I S (la.getD (ys.getD i 0) 0) 1 - hs_I S (la.getD (ys.getD i 0) 0) 0 + 1))), (4, .ref (la.getD (ys.getD i 0) 0)), (3, .int (nI i)), (0, .ref l), (1, .int y)] dX4_bondsSince_44 (by decide) rfl ?_
        refine ex_iinc (v := nI (i + 1)) 2 [(3, .int (nI (i + 1))), (2, .int (acc + (hs_I S (la.getD (ys.getD i 0) 0) 1 - hs_I S (la.getD (ys.getD i 0) 0) 0 + 1))), (4, .ref (la.getD (ys.getD i 0) 0)), (0, .ref l), (1, .int y)] dX4_bondsSince_45 rfl (nI_1 i) (by decide) rfl ?_
        refine ex_goto (tgt := 4) dX4_bondsSince_48 (by decide) ?_
        refine ex_lv [0, 1, 3, 4] rfl ?_
        refine ih (i + 1) _ (by omega) (by omega) ?_
        rw [sm_take _ hil]
        have e1 : hs_I S (la.getD (ys.getD i 0) 0) 1 - hs_I S (la.getD (ys.getD i 0) 0) 0 + 1 = nI (ln_sz (ln_at ls (ys.getD i 0))) := by
          rw [g0, g1, pk_sub hok.1]; exact nI_1 _
        rw [e1, hacc, nI_add]
        congr 2
        show _ = if _ then _ else _
        rw [if_pos ((hpf _ hz1).mp (by rw [← g3]; simp only [i_le, i_lt, Int32.reduceToInt] at *; omega))]
set_option maxRecDepth 20000 in
set_option maxHeartbeats 2000000 in
theorem c_since (g : gl_T) {S : hs_T} {n k l c4 c5 : Nat} {ow : Nat → Nat} {ls : List li_T} {ys : List Nat} {y : Int32} {pf : Nat → Bool} (h : LG g S ow l c4 c5 ls ys) (hpf : ∀ j, j < ls.length → (nI (ln_at ls j).2.2.2.1 ≤ y ↔ pf j = true)) : ex_M g 3 mX4_bondsSince [.ref l, .int y] S n k (ex_rt (some (.int (nI (sm (fun j => if pf j = true then ln_sz (ln_at ls j) else 0) ys)))) S n k) := by
  refine ex_enter (by decide +kernel) (Nat.le_of_ble_eq_true rfl) ?_
  show ex_W _ _ _ _ 0 [(0, .ref l), (1, .int y)] [] _ _ _
  refine ex_iconst (v := 0) dX4_bondsSince_0 (by decide) ?_
  refine ex_istore_n [(2, .int 0), (0, .ref l), (1, .int y)] dX4_bondsSince_1 (by decide) rfl ?_
  refine ex_iconst (v := 0) dX4_bondsSince_2 (by decide) ?_
  refine ex_istore_n [(3, .int 0), (2, .int 0), (0, .ref l), (1, .int y)] dX4_bondsSince_3 (by decide) rfl ?_
  exact c_since_l h hpf (ys.length + 1) 0 _ (by omega) (by omega) rfl
theorem c_held (g : gl_T) {S : hs_T} {n k l c4 c5 : Nat} {ow : Nat → Nat} {ls : List li_T} {ys : List Nat} (h : LG g S ow l c4 c5 ls ys) : ex_M g 4 mX4_bondsHeld [.ref l] S n k (ex_rt (some (.int (nI (sz ls ys)))) S n k) := by
  refine ex_enter (by decide +kernel) (Nat.le_of_ble_eq_true rfl) ?_
  show ex_W _ _ _ _ 0 [(0, .ref l)] [] _ _ _
  refine ex_aload_n dX4_bondsHeld_0 0 rfl ?_
  refine ex_ldc dX4_bondsHeld_1 lc_X4_85 ?_
  have hc := c_since g (n := n) (k := k) (y := 100000) (pf := fun _ => true) h (fun j hj => ⟨fun _ => rfl, fun _ => nI_le (b := 100000) (h.2.2.2 j hj).2.2.2.1 (by decide)⟩)
  refine ex_cVr [.int 100000] [] dX4_bondsHeld_3 cV_X4_86 hc h.1.1 h.1.2 rfl rfl rfl (by decide) (Nat.le_of_ble_eq_true rfl) rfl ?_
  exact ex_irt rfl dX4_bondsHeld_6 (ex_rt_e (by rw [sz_sm]; congr 2))
set_option maxRecDepth 20000 in
set_option maxHeartbeats 2000000 in
theorem c_hon_l {g : gl_T} {S : hs_T} {n k l c4 c5 : Nat} {ow : Nat → Nat} {ls : List li_T} {ys : List Nat} {y z : Int32} (h : LG g S ow l c4 c5 ls ys) : ∀ t i, i ≤ ls.length → ls.length < i + t → (∀ j, j < i → ln_on y z (ln_at ls j) = false) → ex_W g 3 mX4_holderOn (ex_rt (some (.int (ln_wh (ls.find? (ln_on y z))))) S n k) 2 [(3, .int (nI i)), (0, .ref l), (1, .int y), (2, .int z)] [] S n k := by
  obtain ⟨hl, hCG, hl15, hlok⟩ := id h
  obtain ⟨la, ⟨a4, e4, r4, l4, o4, p4⟩, ⟨a5, e5, r5, l5, o5, p5⟩, nd4, len4, f4, hG⟩ := id hCG
  have hgl : (ys.map (fun i => la.getD i 0)).length = ys.length := List.length_map _
  intro t
  induction t with
  | zero => intro i h1 h2; exact absurd h2 (by omega)
  | succ t ih =>
    intro i hi1 hi2 hbf
    refine ex_iload_n dX4_holderOn_2 0 rfl ?_
    refine ex_aload_n dX4_holderOn_3 1 rfl ?_
    refine ex_getR (b := a4) dX4_holderOn_4 fl_X4_12 hl.1 hl.2 r4 ?_
    refine ex_cVr [] [.int (nI i)] dX4_holderOn_7 cV_X4_26 (c_szn g l4 len4) l4.1.1 l4.1.2.1 rfl rfl rfl (by decide) (Nat.le_of_ble_eq_true rfl) rfl ?_
    refine ex_icmp_ge (tgt := 56) dX4_holderOn_10 (by decide) (fun c10 => ?_) (fun c10 => ?_)
    · have hil : i = ls.length := by have := (nI_leI (by omega) (by omega)).mp c10; omega
      refine ex_iconst (v := (-1)) dX4_holderOn_56 (by decide) ?_
      exact ex_irt rfl dX4_holderOn_57 (ex_rt_e (by rw [fd_none (ln_on y z) (0, 0, 0, 0, none) ls (fun j hj => hbf j (by omega))]; rfl))
    · have hil : i < ls.length := by
        rcases Nat.lt_or_ge i ls.length with q | q
        · exact q
        · exact absurd (nI_le q (by omega)) c10
      have mj := al_mem l4 (j := i) (by omega)
      obtain ⟨g0, g1, g2, g3, g4⟩ := f4 i hil
      have hok := hlok i hil
      refine ex_aload_n dX4_holderOn_13 1 rfl ?_
      refine ex_getR (b := a4) dX4_holderOn_14 fl_X4_12 hl.1 hl.2 r4 ?_
      refine ex_iload_n dX4_holderOn_17 0 rfl ?_
      refine ex_cVr [.int (nI i)] [] dX4_holderOn_18 cV_X4_46 (c_getj g l4 rfl (by omega)) l4.1.1 l4.1.2.1 rfl rfl rfl (by decide) (Nat.le_of_ble_eq_true rfl) rfl ?_
      refine ex_cast dX4_holderOn_21 mj.1 mj.2 rfl kl_X4_50 ?_
      refine ex_astore [(4, .ref (la.getD i 0)), (3, .int (nI i)), (0, .ref l), (1, .int y), (2, .int z)] dX4_holderOn_24 (by decide) rfl ?_
      refine ex_aload dX4_holderOn_26 0 rfl ?_
      refine ex_iload_n dX4_holderOn_28 3 rfl ?_
      refine ex_cVr [.int y] [] dX4_holderOn_29 cV_X4_73 (c_Line_contains g mj.1 mj.2) mj.1 mj.2 rfl rfl rfl (by decide) (Nat.le_of_ble_eq_true rfl) rfl ?_
      refine ex_if_eq (tgt := 50) dX4_holderOn_32 (by decide) (fun c32 => ?_) (fun c32 => ?_)
      · refine ex_iinc (v := nI (i + 1)) 1 [(3, .int (nI (i + 1))), (4, .ref (la.getD i 0)), (0, .ref l), (1, .int y), (2, .int z)] dX4_holderOn_50 rfl (nI_1 i) (by decide) rfl ?_
        refine ex_goto (tgt := 2) dX4_holderOn_53 (by decide) ?_
        have hoff : ln_on y z (ln_at ls i) = false := by
          unfold ln_on
          refine decide_eq_false (fun q => ?_)
          obtain ⟨q1, q2, q3, q4⟩ := q
          first
            | (rw [if_pos ⟨by rw [g0]; exact q1, by rw [g1]; exact q2⟩] at c32; exact absurd c32 (by decide))
            | (rw [if_pos ⟨by rw [g3]; exact q3, by rw [g4]; exact q4.imp (fun q => (eN_m1 hok.2.2.2.2).mpr q) id⟩] at c41; exact absurd c41 (by decide))
        refine ex_lv [0, 2, 3, 4] rfl ?_
        exact ih (i + 1) (by omega) (by omega) (bf_1 hbf hoff)
      · refine ex_aload dX4_holderOn_35 0 rfl ?_
        refine ex_iload_n dX4_holderOn_37 4 rfl ?_
        refine ex_cVr [.int z] [] dX4_holderOn_38 cV_X4_77 (c_Line_isInForceOn g mj.1 mj.2) mj.1 mj.2 rfl rfl rfl (by decide) (Nat.le_of_ble_eq_true rfl) rfl ?_
        refine ex_if_eq (tgt := 50) dX4_holderOn_41 (by decide) (fun c41 => ?_) (fun c41 => ?_)
        · refine ex_iinc (v := nI (i + 1)) 1 [(3, .int (nI (i + 1))), (4, .ref (la.getD i 0)), (0, .ref l), (1, .int y), (2, .int z)] dX4_holderOn_50 rfl (nI_1 i) (by decide) rfl ?_
          refine ex_goto (tgt := 2) dX4_holderOn_53 (by decide) ?_
          have hoff : ln_on y z (ln_at ls i) = false := by
            unfold ln_on
            refine decide_eq_false (fun q => ?_)
            obtain ⟨q1, q2, q3, q4⟩ := q
            first
              | (rw [if_pos ⟨by rw [g0]; exact q1, by rw [g1]; exact q2⟩] at c32; exact absurd c32 (by decide))
              | (rw [if_pos ⟨by rw [g3]; exact q3, by rw [g4]; exact q4.imp (fun q => (eN_m1 hok.2.2.2.2).mpr q) id⟩] at c41; exact absurd c41 (by decide))
          refine ex_lv [0, 2, 3, 4] rfl ?_
          exact ih (i + 1) (by omega) (by omega) (bf_1 hbf hoff)
        · refine ex_aload dX4_holderOn_44 0 rfl ?_
          refine ex_getI dX4_holderOn_46 fl_X4_64 mj.1 mj.2 ?_
          exact ex_irt rfl dX4_holderOn_49 (ex_rt_e (by
  have hon : ln_on y z (ln_at ls i) = true := by
    have q1 : hs_I S (la.getD i 0) 0 ≤ y ∧ y ≤ hs_I S (la.getD i 0) 1 := by
      by_cases q : hs_I S (la.getD i 0) 0 ≤ y ∧ y ≤ hs_I S (la.getD i 0) 1
      · exact q
      · rw [if_neg q] at c32; exact absurd rfl c32
    have q2 : hs_I S (la.getD i 0) 3 ≤ z ∧ (hs_I S (la.getD i 0) 4 = -1 ∨ z < hs_I S (la.getD i 0) 4) := by
      by_cases q : hs_I S (la.getD i 0) 3 ≤ z ∧ (hs_I S (la.getD i 0) 4 = -1 ∨ z < hs_I S (la.getD i 0) 4)
      · exact q
      · rw [if_neg q] at c41; exact absurd rfl c41
    rw [g0, g1] at q1
    rw [g3, g4] at q2
    exact decide_eq_true ⟨q1.1, q1.2, q2.1, q2.2.imp (fun q => (eN_m1 hok.2.2.2.2).mp q) id⟩
  rw [fd_some (ln_on y z) (0, 0, 0, 0, none) ls i hil hon hbf, g2]
  rfl))
set_option maxRecDepth 20000 in
set_option maxHeartbeats 2000000 in
theorem c_hon (g : gl_T) {S : hs_T} {n k l c4 c5 : Nat} {ow : Nat → Nat} {ls : List li_T} {ys : List Nat} {y z : Int32} (h : LG g S ow l c4 c5 ls ys) : ex_M g 3 mX4_holderOn [.ref l, .int y, .int z] S n k (ex_rt (some (.int (ln_wh (ls.find? (ln_on y z))))) S n k) := by
  refine ex_enter (by decide +kernel) (Nat.le_of_ble_eq_true rfl) ?_
  show ex_W _ _ _ _ 0 [(0, .ref l), (1, .int y), (2, .int z)] [] _ _ _
  refine ex_iconst (v := 0) dX4_holderOn_0 (by decide) ?_
  refine ex_istore_n [(3, .int 0), (0, .ref l), (1, .int y), (2, .int z)] dX4_holderOn_1 (by decide) rfl ?_
  exact c_hon_l h (ls.length + 1) 0 (by omega) (by omega) (fun j hj => absurd hj (by omega))
set_option maxRecDepth 20000 in
set_option maxHeartbeats 4000000 in
theorem c_heldop (g : gl_T) {S : hs_T} {n k x l tp nz : Nat} {ow : Nat → Nat} {s : st_T} {ys : List Nat} {c : Nat → Nat} (h : RC g S ow x l tp nz s ys c) (hb : BD s) (hO : OK s) (hn : n + 40000 ≤ ex_NM) (hk : k + 200000 ≤ ex_KM) {y z : Int32} : ex_M g 6 mX9_held [.ref x, .int y, .int z] S n k (cp g S ow x l tp nz c n k (exN exS) s (sp_held s y z)) := by
  refine ex_enter (by decide +kernel) (Nat.le_of_ble_eq_true rfl) ?_
  show ex_W _ _ _ _ 0 [(0, .ref x), (1, .int y), (2, .int z)] [] _ _ _
  obtain ⟨hB, hCS, hCH, hCG, hCT, hCR, hCN, hCD, hCW⟩ := id h
  obtain ⟨bd1, bd2, bd3, ⟨bd4, bd5⟩, bd6, ⟨bd7, bd8⟩, bd9, bd10, bd11, bd12⟩ := id hb
  refine ex_aload_n dX9_held_0 0 rfl ?_
  refine ex_getR (b := l) dX9_held_1 fl_X9_19 hB.1.1 hB.1.2 hB.2.1.1 ?_
  refine ex_iload_n dX9_held_4 1 rfl ?_
  refine ex_iload_n dX9_held_5 2 rfl ?_
  refine ex_cVr [.int y, .int z] [] dX9_held_6 cV_X9_119 (c_hon g (RC_LG h hb)) hB.2.1.2.1 hB.2.1.2.2 rfl rfl rfl (by decide) (Nat.le_of_ble_eq_true rfl) rfl ?_
  exact ex_irt rfl dX9_held_9 (cp_s rfl h)
set_option maxRecDepth 20000 in
set_option maxHeartbeats 4000000 in
theorem c_has (g : gl_T) {S : hs_T} {n k x l tp nz : Nat} {ow : Nat → Nat} {s : st_T} {ys : List Nat} {c : Nat → Nat} (h : RC g S ow x l tp nz s ys c) (hb : BD s) (hO : OK s) (hn : n + 40000 ≤ ex_NM) (hk : k + 200000 ≤ ex_KM) {y : Int32} : ex_M g 7 mX9_has [.ref x, .int y] S n k (cp g S ow x l tp nz c n k (exN exI) s (sp_has s y)) := by
  refine ex_enter (by decide +kernel) (Nat.le_of_ble_eq_true rfl) ?_
  show ex_W _ _ _ _ 0 [(0, .ref x), (1, .int y)] [] _ _ _
  obtain ⟨hB, hCS, hCH, hCG, hCT, hCR, hCN, hCD, hCW⟩ := id h
  obtain ⟨bd1, bd2, bd3, ⟨bd4, bd5⟩, bd6, ⟨bd7, bd8⟩, bd9, bd10, bd11, bd12⟩ := id hb
  obtain ⟨as, ⟨a0, e0, r0, l0, o0, p0⟩, nd0, len0, f0⟩ := id hCH
  obtain ⟨la, ⟨a4, e4, r4, l4, o4, p4⟩, ⟨a5, e5, r5, l5, o5, p5⟩, nd4, len4, f4, hG⟩ := id hCG
  by_cases hq : hd_ok s y
  · obtain ⟨j, hj, hyj⟩ := hd_of hq bd3
    have hcl : y.toNatClampNeg = j := by rw [hyj]; exact nI_clamp (by omega)
    have hsum : su (fun i => ln_ov j 0 1000000000 (ln_at (s_ls s) i)) (s_ls s).length = sm (fun i => if (ln_at (s_ls s) i).2.2.1 = j then ln_sz (ln_at (s_ls s) i) else 0) ys := by
      have hfl : ∀ i, (ln_at (s_ls s) i).1 ≤ (ln_at (s_ls s) i).2.1 := fun i => by
        by_cases z : i < (s_ls s).length
        · exact (bd5 i z).1
        · unfold ln_at; rw [List.getD_eq_getElem?_getD, List.getElem?_eq_none (by omega)]; exact Nat.le_refl _
      rw [GO_su hfl hG (ln_ov j 0 1000000000) (fun q hq => by unfold ln_ov; rw [if_neg (fun z => hq z.1)])]
      refine sm_congr (fun i hi => ?_)
      obtain ⟨z1, z2⟩ := (hG.2 i).mp hi
      have h5 := bd5 i z1
      have h6 := h5.1
      have h7 := h5.2.1
      unfold ln_ov ln_sz
      by_cases q : (ln_at (s_ls s) i).2.2.1 = j
      · rw [if_pos ⟨z2, q⟩, if_pos q, if_pos (by omega)]; omega
      · rw [if_neg (fun z => q z.2), if_neg q]
    refine ex_aload_n dX9_has_0 0 rfl ?_
    refine ex_iload_n dX9_has_1 1 rfl ?_
    refine ex_cVv [.int y] [] dX9_has_2 cV_X9_75 (c_chkH1 g h hb (by omega) (by omega) hq) hB.1.1 hB.1.2 rfl rfl rfl (by decide) (Nat.le_of_ble_eq_true rfl) rfl ?_
    refine ex_aload_n dX9_has_5 0 rfl ?_
    refine ex_getR (b := l) dX9_has_6 fl_X9_19 hB.1.1 hB.1.2 hB.2.1.1 ?_
    refine ex_iload_n dX9_has_9 1 rfl ?_
    refine ex_cVr [.int y] [] dX9_has_10 cV_X9_123 (c_bondsOf g (RC_LG h hb) hyj (by omega)) hB.2.1.2.1 hB.2.1.2.2 rfl rfl rfl (by decide) (Nat.le_of_ble_eq_true rfl) rfl ?_
    exact ex_irt rfl dX9_has_13 (cp_s (by unfold sp_has; rw [if_pos hq, hcl, hsum]) h)
  · refine ex_aload_n dX9_has_0 0 rfl ?_
    refine ex_iload_n dX9_has_1 1 rfl ?_
    exact ex_cVg [.int y] [] dX9_has_2 cV_X9_75 (c_chkH0 g h hb (by omega) (by omega) hq) hB.1.1 hB.1.2 rfl rfl rfl (by decide) (Nat.le_of_ble_eq_true rfl) rfl (fun v S9 n9 k9 h9 => by obtain ⟨h9, -⟩ := h9; cases h9) (fun E S9 n9 k9 h9 => by obtain ⟨h91, h92, h93, h94⟩ := h9; cases h91; subst h92 h93 h94; exact (cp_x (code := 1) (by unfold sp_has; rw [if_neg hq]) (by decide) rfl h))
