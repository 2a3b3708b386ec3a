def pg (g : gl_T) (S : hs_T) (ow : Nat → Nat) (l c4 c5 : Nat) (ls : List li_T) (n k : Nat) (L' : List li_T) : ex_R := fun r S' n' k' => r = .inl none ∧ ∃ ow' c4' c5' ys', CK ow ow' [5] [4, 5] S S' ∧ LG g S' ow' l c4' c5' L' ys' ∧ c4 ≤ c4' ∧ c5 ≤ c5' ∧ n' + c4 + c5 + ls.length ≤ n + c4' + c5' + L'.length ∧ k' + 4 * (c4 + c5) + 5 * ls.length ≤ k + 4 * (c4' + c5') + 5 * L'.length
theorem ln_set {ls : List li_T} {i : Nat} (hi : i < ls.length) (t : li_T) (j : Nat) : ln_at (ls.set i t) j = if j = i then t else ln_at ls j := gd_set _ _ _ _ _ hi
set_option maxRecDepth 20000 in
set_option maxHeartbeats 4000000 in
theorem c_pass_000 (g : gl_T) {S : hs_T} {n k l c4 c5 i a b td : Nat} {ow : Nat → Nat} {ls : List li_T} {la y1 y2 : List Nat} {xa xb xd : Int32} (hl : l ∈ hs_L S ∧ hs_K S l = 4) (hN : LN1 g S ow l c4 ls la) (hZ : CL g S ow 5 l 1 5 c5 ((y1 ++ i :: y2).map (fun i => la.getD i 0))) (hG : GO ls (y1 ++ i :: y2)) (hlok : ∀ j, j < ls.length → ln_ok (ln_at ls j)) (hxa : xa = nI a) (hxb : xb = nI b) (hxd : xd = nI td) (hab : a ≤ b) (ha : a < 2 ^ 31) (hb9 : b < 2 ^ 31) (hb1 : (ln_at ls i).1 ≤ b) (ha1 : a ≤ (ln_at ls i).2.1) (htd : td ≤ 100000) (hn : n + 15000 ≤ ex_NM) (hk : k + 60000 ≤ ex_KM) (hB1 : ¬ (ln_at ls i).1 < a) (hB2 : ¬ b < (ln_at ls i).2.1) {xt : Int32} (hxt : xt = -1) (hlen : ls.length + 0 ≤ 1500) : ex_M g 9 mX4_passOne [.ref l, .ref (la.getD i 0), .int xa, .int xb, .int xt, .int xd] S n k (pg g S ow l c4 c5 ls n k (ls.set i (ln_end (ln_at ls i) td))) := by
  obtain ⟨hL4, nd4, len4, f4⟩ := id hN
  have hi : i < ls.length := ((hG.2 i).mp (by simp)).1
  have mo := CL_el hL4 (j := i) (by omega)
  obtain ⟨g0, g1, g2, g3, g4⟩ := f4 i hi
  have hok := hlok i hi
  have hok1 := hok.1
  have hok2 := hok.2.1
  have hc4b : c4 ≤ 5000 := by obtain ⟨_, _, _, w4, _⟩ := id hL4; exact w4.2.1.2
  have hfl : ∀ i, (ln_at ls i).1 ≤ (ln_at ls i).2.1 := fun i => by
    by_cases z : i < ls.length
    · exact (hlok i z).1
    · unfold ln_at; rw [List.getD_eq_getElem?_getD, List.getElem?_eq_none (by omega)]; exact Nat.le_refl _
  have hys : (y1 ++ i :: y2).length ≤ 1500 := Nat.le_trans (nd_len (GO_nd hfl hG) (fun i hi => ((hG.2 i).mp hi).1)) (by omega)
  have hplace : ∀ q, q < (y1 ++ i :: y2).length → (nI (ln_at ls ((y1 ++ i :: y2).getD q 0)).1 ≤ nI (ln_at ls i).1 ↔ q ≤ y1.length) := fun q hq => by
    have hq1 := GO_at hG hq
    have hb := (hlok _ hq1.1)
    have hb1 := hb.1
    have hb2 := hb.2.1
    rw [nI_leI (by omega) (by omega)]
    have hgi : (y1 ++ i :: y2).getD y1.length 0 = i := by rw [List.getD_eq_getElem?_getD, rp_at]; rfl
    have hpw : ∀ u v, u < v → v < (y1 ++ i :: y2).length → (ln_at ls ((y1 ++ i :: y2).getD u 0)).2.1 < (ln_at ls ((y1 ++ i :: y2).getD v 0)).1 := fun u v huv hv => by
      have w := List.pairwise_iff_getElem.mp hG.1 u v (by omega) hv huv
      rw [List.getD_eq_getElem?_getD, List.getElem?_eq_getElem (by omega), List.getD_eq_getElem?_getD, List.getElem?_eq_getElem hv]
      exact w
    have hy1 : y1.length < (y1 ++ i :: y2).length := by simp
    rcases Nat.lt_trichotomy q y1.length with z | z | z
    · have := hpw q y1.length z hy1
      rw [hgi] at this
      exact ⟨fun _ => by omega, fun _ => by omega⟩
    · rw [z, hgi]; exact ⟨fun _ => Nat.le_refl _, fun _ => Nat.le_refl _⟩
    · have := hpw y1.length q z hq
      rw [hgi] at this
      exact ⟨fun y => by omega, fun y => by omega⟩
  refine ex_enter (by decide +kernel) (Nat.le_of_ble_eq_true rfl) ?_
  show ex_W _ _ _ _ 0 [(0, .ref l), (1, .ref (la.getD i 0)), (2, .int xa), (3, .int xb), (4, .int xt), (5, .int xd)] [] _ _ _
  refine ex_aload_n dX4_passOne_0 1 rfl ?_
  refine ex_iload dX4_passOne_1 5 rfl ?_
  refine ex_putI dX4_passOne_3 fl_X4_95 (pf_X4_95 _) mo.1 mo.2 ?_
  obtain ⟨hN1, hC1⟩ := LN1_end hl hN hi hxd
  have hZ1 := CL_ck hZ ⟨hl.1, Or.inr (Or.inl hl.2)⟩ hC1 (by decide) (by decide) (by decide)
  have hl1 : l ∈ hs_L (hs_sI S (la.getD i 0) 4 xd) ∧ hs_K (hs_sI S (la.getD i 0) 4 xd) l = 4 := hl
  have mo1 : la.getD i 0 ∈ hs_L (hs_sI S (la.getD i 0) 4 xd) ∧ hs_K (hs_sI S (la.getD i 0) 4 xd) (la.getD i 0) = 5 := mo
  have e0 : hs_I (hs_sI S (la.getD i 0) 4 xd) (la.getD i 0) 0 = nI (ln_at ls i).1 := by rw [hs_I_sI, if_neg (fun z => absurd z.2 (by decide))]; exact g0
  have e1 : hs_I (hs_sI S (la.getD i 0) 4 xd) (la.getD i 0) 1 = nI (ln_at ls i).2.1 := by rw [hs_I_sI, if_neg (fun z => absurd z.2 (by decide))]; exact g1
  have e2 : hs_I (hs_sI S (la.getD i 0) 4 xd) (la.getD i 0) 2 = nI (ln_at ls i).2.2.1 := by rw [hs_I_sI, if_neg (fun z => absurd z.2 (by decide))]; exact g2
  have e3 : hs_I (hs_sI S (la.getD i 0) 4 xd) (la.getD i 0) 3 = nI (ln_at ls i).2.2.2.1 := by rw [hs_I_sI, if_neg (fun z => absurd z.2 (by decide))]; exact g3
  have hF1 : ∀ q, q < (y1 ++ i :: y2).length → hs_I (hs_sI S (la.getD i 0) 4 xd) (la.getD ((y1 ++ i :: y2).getD q 0) 0) 0 = nI (ln_at ls ((y1 ++ i :: y2).getD q 0)).1 := fun q hq => by
    rw [hs_I_sI, if_neg (fun z => absurd z.2 (by decide))]; exact (f4 _ (GO_at hG hq).1).1
  have hM1 : ∀ q, q < (y1 ++ i :: y2).length → la.getD ((y1 ++ i :: y2).getD q 0) 0 ∈ hs_L (hs_sI S (la.getD i 0) 4 xd) ∧ hs_K (hs_sI S (la.getD i 0) 4 xd) (la.getD ((y1 ++ i :: y2).getD q 0) 0) = 5 := fun q hq => CL_el hN.1 (by have := (GO_at hG hq).1; omega)
  generalize hs_sI S (la.getD i 0) 4 xd = S1 at hN1 hC1 hZ1 hl1 mo1 e0 e1 e2 e3 hF1 hM1 ⊢
  have hD1 := CK_rf ow [] [4] S1
  have ej1 : hs_I S1 (la.getD i 0) = hs_I S1 (la.getD i 0) := rfl
  refine ex_aload_n dX4_passOne_6 1 rfl ?_
  refine ex_getI dX4_passOne_7 fl_X4_67 mo1.1 mo1.2 ?_
  refine ex_iload_n dX4_passOne_10 2 rfl ?_
  refine ex_icmp_ge (tgt := 36) dX4_passOne_11 (by decide) (fun c11 => ?_) (fun c11 => absurd (by rw [e0, hxa]; exact nI_le (by omega) (by omega)) c11)
  refine ex_null dX4_passOne_36 ?_
  refine ex_astoreN [(6, .null), (0, .ref l), (1, .ref (la.getD i 0)), (2, .int xa), (3, .int xb), (4, .int xt), (5, .int xd)] dX4_passOne_37 (by decide) rfl ?_
  refine ex_aload_n dX4_passOne_39 2 rfl ?_
  refine ex_getI dX4_passOne_40 fl_X4_70 mo1.1 mo1.2 ?_
  refine ex_iload_n dX4_passOne_43 4 rfl ?_
  have ejj := ej1
  refine ex_icmp_le (tgt := 69) dX4_passOne_44 (by decide) (fun c44 => ?_) (fun c44 => absurd (by rw [ejj, e1, hxb]; exact nI_le (by omega) hb9) c44)
  refine ex_null dX4_passOne_69 ?_
  refine ex_astoreN [(7, .null), (6, .null), (0, .ref l), (1, .ref (la.getD i 0)), (2, .int xa), (3, .int xb), (4, .int xt), (5, .int xd)] dX4_passOne_70 (by decide) rfl ?_
  refine ex_iload dX4_passOne_72 6 rfl ?_
  refine ex_iconst (v := (-1)) dX4_passOne_74 (by decide) ?_
  refine ex_icmp_ne (tgt := 82) dX4_passOne_75 (by decide) (fun c75 => absurd hxt c75) (fun c75 => ?_)
  refine ex_null dX4_passOne_78 ?_
  refine ex_goto (tgt := 106) dX4_passOne_79 (by decide) ?_
  refine ex_astoreN [(8, .null), (7, .null), (6, .null), (0, .ref l), (1, .ref (la.getD i 0)), (2, .int xa), (3, .int xb), (4, .int xt), (5, .int xd)] dX4_passOne_106 (by decide) rfl ?_
  refine ex_aload_n dX4_passOne_108 3 rfl ?_
  refine ex_aload_n dX4_passOne_109 3 rfl ?_
  refine ex_aload_n dX4_passOne_110 4 rfl ?_
  refine ex_getI dX4_passOne_111 fl_X4_67 mo1.1 mo1.2 ?_
  refine ex_cVr [.int (hs_I S1 (la.getD i 0) 0)] [.ref l] dX4_passOne_114 cV_X4_80 (c_pag g (p := y1.length) ⟨hl1, hZ1⟩ (by rw [List.length_map]; exact hys) (by simp) (fun q hq => by
    rw [List.length_map] at hq
    rw [gz_at hq, (ck_at hD1 (hM1 q hq).1 (hM1 q hq).2 (by decide) (by decide)).1, ej1, hF1 q hq, e0]
    exact hplace q hq)) hl1.1 hl1.2 rfl rfl rfl (by decide) (Nat.le_of_ble_eq_true rfl) rfl ?_
  refine ex_aloadN dX4_passOne_117 2 rfl ?_
  refine ex_aloadN dX4_passOne_119 0 rfl ?_
  refine ex_aloadN dX4_passOne_121 1 rfl ?_
  have hZm1 : CL g S1 ow 5 l 1 5 c5 (y1.map (fun i => la.getD i 0) ++ la.getD i 0 :: y2.map (fun i => la.getD i 0)) := by have z := hZ1; rw [List.map_append, List.map_cons] at z; exact z
  have hc5b : c5 ≤ 5000 := by obtain ⟨_, _, _, w5, _⟩ := id hZ; exact w5.2.1.2
  refine ex_cVg [.int (nI y1.length), .null, .null, .null] [] dX4_passOne_123 cV_X4_106 (c_repl_000 g (l1 := y1.map (fun i => la.getD i 0)) (z := la.getD i 0) (l2 := y2.map (fun i => la.getD i 0)) ⟨hl1, hZm1⟩ (by rw [List.length_map]) (by simp at hys ⊢; omega) (by omega) (by omega) ) hl1.1 hl1.2 rfl rfl rfl (by decide) (Nat.le_of_ble_eq_true rfl) rfl ?_ (fun E S' n' k' h => by obtain ⟨h1, -⟩ := h; cases h1)
  rintro v' S9 n9 k9 ⟨hr9, ow9, c9, hC9, hL9, hc9, hnn9, hkk9⟩
  cases hr9
  show ex_W _ _ _ _ 126 [(8, .null), (7, .null), (6, .null), (0, .ref l), (1, .ref (la.getD i 0)), (2, .int xa), (3, .int xb), (4, .int xt), (5, .int xd)] [] S9 n9 k9
  exact ex_vrt rfl dX4_passOne_126 (by
  have hold : ∀ j, j < ls.length → j ≠ i → ln_at (ls.set i (ln_end (ln_at ls i) td)) j = ln_at ls j := fun j hj hne => by rw [ln_set hi, if_neg hne]
  have hend : ln_at (ls.set i (ln_end (ln_at ls i) td)) i = ln_end (ln_at ls i) td := by rw [ln_set hi, if_pos rfl]
  have hG9 : GO (ls.set i (ln_end (ln_at ls i) td)) (y1 ++ [] ++ y2) := GO_rep hG hfl (by simp; try omega) hold (by rw [hend]; simp [ln_end]) (List.Pairwise.nil) (fun j hj => absurd hj (by simp)) (fun j => ⟨fun z => absurd z (by simp), fun z => absurd z.2.1 (by simp; omega)⟩)
  have hqold : ∀ j, j < ls.length → (la).getD j 0 = la.getD j 0 := fun j hj => rfl
  have hmap : (y1 ++ [] ++ y2).map (fun i => (la).getD i 0) = y1.map (fun i => la.getD i 0) ++ y2.map (fun i => la.getD i 0) := by
    have hm1 : y1.map (fun i => (la).getD i 0) = y1.map (fun i => la.getD i 0) := List.map_congr_left (fun a ha => hqold a ((hG.2 a).mp (by simp [ha])).1)
    have hm2 : y2.map (fun i => (la).getD i 0) = y2.map (fun i => la.getD i 0) := List.map_congr_left (fun a ha => hqold a ((hG.2 a).mp (by simp [ha])).1)
    rw [List.map_append, List.map_append, hm1, hm2, List.append_assoc]
    rfl
  have hN9 := LN1_ck hl1 hN1 hC9 (by decide) (by decide) (by decide) (by decide)
  refine ⟨rfl, ow9, c4, c9, y1 ++ [] ++ y2, CK_tr (CK_tr (CK_mono hC1 (by decide) (by decide)) (CK_mono hD1 (by decide) (by decide))) (CK_mono hC9 (by decide) (by decide)), ⟨⟨(hC9.1 l hl1.1).1, (hC9.1 l hl1.1).2.1.trans hl1.2⟩, ⟨la, hN9.1, by rw [hmap]; exact hL9, hN9.2.1, hN9.2.2.1, hN9.2.2.2, hG9⟩, by first | omega | (simp; omega), fun j hj => ?_⟩, by omega, hc9, by first | omega | (simp; omega), by first | omega | (simp; omega)⟩
  by_cases z : j < ls.length
  · by_cases y : j = i
    · rw [y, hend]
      exact ⟨hok.1, hok.2.1, hok.2.2.1, hok.2.2.2.1, fun d hd => by cases hd; exact htd⟩
    · rw [hold j z y]; exact hlok j z
  · simp at hj
    omega)
set_option maxRecDepth 20000 in
set_option maxHeartbeats 4000000 in
theorem c_pass_001 (g : gl_T) {S : hs_T} {n k l c4 c5 i a b td : Nat} {ow : Nat → Nat} {ls : List li_T} {la y1 y2 : List Nat} {xa xb xd : Int32} (hl : l ∈ hs_L S ∧ hs_K S l = 4) (hN : LN1 g S ow l c4 ls la) (hZ : CL g S ow 5 l 1 5 c5 ((y1 ++ i :: y2).map (fun i => la.getD i 0))) (hG : GO ls (y1 ++ i :: y2)) (hlok : ∀ j, j < ls.length → ln_ok (ln_at ls j)) (hxa : xa = nI a) (hxb : xb = nI b) (hxd : xd = nI td) (hab : a ≤ b) (ha : a < 2 ^ 31) (hb9 : b < 2 ^ 31) (hb1 : (ln_at ls i).1 ≤ b) (ha1 : a ≤ (ln_at ls i).2.1) (htd : td ≤ 100000) (hn : n + 15000 ≤ ex_NM) (hk : k + 60000 ≤ ex_KM) (hB1 : ¬ (ln_at ls i).1 < a) (hB2 : ¬ b < (ln_at ls i).2.1) {t0 : Nat} (ht0 : t0 < 60) {xt : Int32} (hxt : xt = nI t0) (hlen : ls.length + 1 ≤ 1500) : ex_M g 9 mX4_passOne [.ref l, .ref (la.getD i 0), .int xa, .int xb, .int xt, .int xd] S n k (pg g S ow l c4 c5 ls n k ((ls.set i (ln_end (ln_at ls i) td) ++ [(max (ln_at ls i).1 a, min (ln_at ls i).2.1 b, t0, td, none)]))) := by
  obtain ⟨hL4, nd4, len4, f4⟩ := id hN
  have hi : i < ls.length := ((hG.2 i).mp (by simp)).1
  have mo := CL_el hL4 (j := i) (by omega)
  obtain ⟨g0, g1, g2, g3, g4⟩ := f4 i hi
  have hok := hlok i hi
  have hok1 := hok.1
  have hok2 := hok.2.1
  have hc4b : c4 ≤ 5000 := by obtain ⟨_, _, _, w4, _⟩ := id hL4; exact w4.2.1.2
  have hfl : ∀ i, (ln_at ls i).1 ≤ (ln_at ls i).2.1 := fun i => by
    by_cases z : i < ls.length
    · exact (hlok i z).1
    · unfold ln_at; rw [List.getD_eq_getElem?_getD, List.getElem?_eq_none (by omega)]; exact Nat.le_refl _
  have hys : (y1 ++ i :: y2).length ≤ 1500 := Nat.le_trans (nd_len (GO_nd hfl hG) (fun i hi => ((hG.2 i).mp hi).1)) (by omega)
  have hplace : ∀ q, q < (y1 ++ i :: y2).length → (nI (ln_at ls ((y1 ++ i :: y2).getD q 0)).1 ≤ nI (ln_at ls i).1 ↔ q ≤ y1.length) := fun q hq => by
    have hq1 := GO_at hG hq
    have hb := (hlok _ hq1.1)
    have hb1 := hb.1
    have hb2 := hb.2.1
    rw [nI_leI (by omega) (by omega)]
    have hgi : (y1 ++ i :: y2).getD y1.length 0 = i := by rw [List.getD_eq_getElem?_getD, rp_at]; rfl
    have hpw : ∀ u v, u < v → v < (y1 ++ i :: y2).length → (ln_at ls ((y1 ++ i :: y2).getD u 0)).2.1 < (ln_at ls ((y1 ++ i :: y2).getD v 0)).1 := fun u v huv hv => by
      have w := List.pairwise_iff_getElem.mp hG.1 u v (by omega) hv huv
      rw [List.getD_eq_getElem?_getD, List.getElem?_eq_getElem (by omega), List.getD_eq_getElem?_getD, List.getElem?_eq_getElem hv]
      exact w
    have hy1 : y1.length < (y1 ++ i :: y2).length := by simp
    rcases Nat.lt_trichotomy q y1.length with z | z | z
    · have := hpw q y1.length z hy1
      rw [hgi] at this
      exact ⟨fun _ => by omega, fun _ => by omega⟩
    · rw [z, hgi]; exact ⟨fun _ => Nat.le_refl _, fun _ => Nat.le_refl _⟩
    · have := hpw y1.length q z hq
      rw [hgi] at this
      exact ⟨fun y => by omega, fun y => by omega⟩
  refine ex_enter (by decide +kernel) (Nat.le_of_ble_eq_true rfl) ?_
  show ex_W _ _ _ _ 0 [(0, .ref l), (1, .ref (la.getD i 0)), (2, .int xa), (3, .int xb), (4, .int xt), (5, .int xd)] [] _ _ _
  refine ex_aload_n dX4_passOne_0 1 rfl ?_
  refine ex_iload dX4_passOne_1 5 rfl ?_
  refine ex_putI dX4_passOne_3 fl_X4_95 (pf_X4_95 _) mo.1 mo.2 ?_
  obtain ⟨hN1, hC1⟩ := LN1_end hl hN hi hxd
  have hZ1 := CL_ck hZ ⟨hl.1, Or.inr (Or.inl hl.2)⟩ hC1 (by decide) (by decide) (by decide)
  have hl1 : l ∈ hs_L (hs_sI S (la.getD i 0) 4 xd) ∧ hs_K (hs_sI S (la.getD i 0) 4 xd) l = 4 := hl
  have mo1 : la.getD i 0 ∈ hs_L (hs_sI S (la.getD i 0) 4 xd) ∧ hs_K (hs_sI S (la.getD i 0) 4 xd) (la.getD i 0) = 5 := mo
  have e0 : hs_I (hs_sI S (la.getD i 0) 4 xd) (la.getD i 0) 0 = nI (ln_at ls i).1 := by rw [hs_I_sI, if_neg (fun z => absurd z.2 (by decide))]; exact g0
  have e1 : hs_I (hs_sI S (la.getD i 0) 4 xd) (la.getD i 0) 1 = nI (ln_at ls i).2.1 := by rw [hs_I_sI, if_neg (fun z => absurd z.2 (by decide))]; exact g1
  have e2 : hs_I (hs_sI S (la.getD i 0) 4 xd) (la.getD i 0) 2 = nI (ln_at ls i).2.2.1 := by rw [hs_I_sI, if_neg (fun z => absurd z.2 (by decide))]; exact g2
  have e3 : hs_I (hs_sI S (la.getD i 0) 4 xd) (la.getD i 0) 3 = nI (ln_at ls i).2.2.2.1 := by rw [hs_I_sI, if_neg (fun z => absurd z.2 (by decide))]; exact g3
  have hF1 : ∀ q, q < (y1 ++ i :: y2).length → hs_I (hs_sI S (la.getD i 0) 4 xd) (la.getD ((y1 ++ i :: y2).getD q 0) 0) 0 = nI (ln_at ls ((y1 ++ i :: y2).getD q 0)).1 := fun q hq => by
    rw [hs_I_sI, if_neg (fun z => absurd z.2 (by decide))]; exact (f4 _ (GO_at hG hq).1).1
  have hM1 : ∀ q, q < (y1 ++ i :: y2).length → la.getD ((y1 ++ i :: y2).getD q 0) 0 ∈ hs_L (hs_sI S (la.getD i 0) 4 xd) ∧ hs_K (hs_sI S (la.getD i 0) 4 xd) (la.getD ((y1 ++ i :: y2).getD q 0) 0) = 5 := fun q hq => CL_el hN.1 (by have := (GO_at hG hq).1; omega)
  generalize hs_sI S (la.getD i 0) 4 xd = S1 at hN1 hC1 hZ1 hl1 mo1 e0 e1 e2 e3 hF1 hM1 ⊢
  have hD1 := CK_rf ow [] [4] S1
  have ej1 : hs_I S1 (la.getD i 0) = hs_I S1 (la.getD i 0) := rfl
  refine ex_aload_n dX4_passOne_6 1 rfl ?_
  refine ex_getI dX4_passOne_7 fl_X4_67 mo1.1 mo1.2 ?_
  refine ex_iload_n dX4_passOne_10 2 rfl ?_
  refine ex_icmp_ge (tgt := 36) dX4_passOne_11 (by decide) (fun c11 => ?_) (fun c11 => absurd (by rw [e0, hxa]; exact nI_le (by omega) (by omega)) c11)
  refine ex_null dX4_passOne_36 ?_
  refine ex_astoreN [(6, .null), (0, .ref l), (1, .ref (la.getD i 0)), (2, .int xa), (3, .int xb), (4, .int xt), (5, .int xd)] dX4_passOne_37 (by decide) rfl ?_
  refine ex_aload_n dX4_passOne_39 2 rfl ?_
  refine ex_getI dX4_passOne_40 fl_X4_70 mo1.1 mo1.2 ?_
  refine ex_iload_n dX4_passOne_43 4 rfl ?_
  have ejj := ej1
  refine ex_icmp_le (tgt := 69) dX4_passOne_44 (by decide) (fun c44 => ?_) (fun c44 => absurd (by rw [ejj, e1, hxb]; exact nI_le (by omega) hb9) c44)
  refine ex_null dX4_passOne_69 ?_
  refine ex_astoreN [(7, .null), (6, .null), (0, .ref l), (1, .ref (la.getD i 0)), (2, .int xa), (3, .int xb), (4, .int xt), (5, .int xd)] dX4_passOne_70 (by decide) rfl ?_
  refine ex_iload dX4_passOne_72 6 rfl ?_
  refine ex_iconst (v := (-1)) dX4_passOne_74 (by decide) ?_
  refine ex_icmp_ne (tgt := 82) dX4_passOne_75 (by decide) (fun c75 => ?_) (fun c75 => absurd c75 (by rw [hxt]; exact fun z => absurd (congrArg Int32.toInt z) (by rw [nI_toInt (by omega), i_m1]; omega)))
  refine ex_aload_n dX4_passOne_82 2 rfl ?_
  refine ex_aload_n dX4_passOne_83 3 rfl ?_
  refine ex_getI dX4_passOne_84 fl_X4_67 mo1.1 mo1.2 ?_
  refine ex_iload_n dX4_passOne_87 4 rfl ?_
  refine ex_mmax dX4_passOne_88 ml_X4_98 mw_max (by decide) (Nat.le_of_ble_eq_true rfl) ?_
  refine ex_aload_n dX4_passOne_91 3 rfl ?_
  refine ex_getI dX4_passOne_92 fl_X4_70 mo1.1 mo1.2 ?_
  refine ex_iload_n dX4_passOne_95 5 rfl ?_
  refine ex_mmin dX4_passOne_96 ml_X4_103 mw_min (by decide) (Nat.le_of_ble_eq_true rfl) ?_
  refine ex_iload dX4_passOne_99 6 rfl ?_
  refine ex_iload dX4_passOne_101 7 rfl ?_
  refine ex_cVg [.int ((if (hs_I S1 (la.getD i 0) 0) < xa then xa else hs_I S1 (la.getD i 0) 0)), .int ((if xb < (hs_I S1 (la.getD i 0) 1) then xb else hs_I S1 (la.getD i 0) 1)), .int xt, .int xd] [] dX4_passOne_103 cV_X4_30 (c_begin g hl1 hN1 (t := (max (ln_at ls i).1 a, min (ln_at ls i).2.1 b, t0, td, none)) (by simp at hlen ⊢; omega) (by omega) (by omega) (by
    rw [ej1, e0, hxa]
    show _ = nI (max (ln_at ls i).1 a)
    split
    · next z => have := (nI_ltI (by omega) (by omega)).mp z; congr 1; omega
    · next z => have : ¬ (ln_at ls i).1 < a := fun y => z (nI_lt y (by omega)); congr 1; omega) (by
    rw [ej1, e1, hxb]
    show _ = nI (min (ln_at ls i).2.1 b)
    split
    · next z => have := (nI_ltI (by omega) (by omega)).mp z; congr 1; omega
    · next z => have : ¬ b < (ln_at ls i).2.1 := fun y => z (nI_lt y (by omega)); congr 1; omega) hxt hxd rfl) hl1.1 hl1.2 rfl rfl rfl (by decide) (Nat.le_of_ble_eq_true rfl) rfl ?_ (fun E S' n' k' h => by obtain ⟨_, _, _, h1, -⟩ := h; cases h1)
  rintro v' S2 n2 k2 ⟨q3, ow2, d2, hr2, hq3, hq3_2, hC2, hN2, hc2, hnn2, hkk2⟩
  cases hr2
  have hZ2 := CL_ck hZ1 ⟨hl1.1, Or.inr (Or.inl hl1.2)⟩ hC2 (by decide) (by decide) (by decide)
  have hl2 : l ∈ hs_L S2 ∧ hs_K S2 l = 4 := ⟨(hC2.1 l hl1.1).1, (hC2.1 l hl1.1).2.1.trans hl1.2⟩
  have hD2 := CK_tr hD1 hC2
  have ej2 : hs_I S2 (la.getD i 0) = hs_I S1 (la.getD i 0) := (ck_at hD2 mo1.1 mo1.2 (by decide) (by decide)).1
  have mo2 : la.getD i 0 ∈ hs_L S2 ∧ hs_K S2 (la.getD i 0) = 5 := ⟨(hD2.1 _ mo1.1).1, (hD2.1 _ mo1.1).2.1.trans mo1.2⟩
  have hdb2 : d2 ≤ 5000 := by obtain ⟨_, _, _, w4, _⟩ := id hN2.1; exact w4.2.1.2
  show ex_W _ _ _ _ 106 [(7, .null), (6, .null), (0, .ref l), (1, .ref (la.getD i 0)), (2, .int xa), (3, .int xb), (4, .int xt), (5, .int xd)] [.ref q3] S2 n2 k2
  refine ex_astore [(8, .ref q3), (7, .null), (6, .null), (0, .ref l), (1, .ref (la.getD i 0)), (2, .int xa), (3, .int xb), (4, .int xt), (5, .int xd)] dX4_passOne_106 (by decide) rfl ?_
  refine ex_aload_n dX4_passOne_108 3 rfl ?_
  refine ex_aload_n dX4_passOne_109 3 rfl ?_
  refine ex_aload_n dX4_passOne_110 4 rfl ?_
  refine ex_getI dX4_passOne_111 fl_X4_67 mo2.1 mo2.2 ?_
  refine ex_cVr [.int (hs_I S2 (la.getD i 0) 0)] [.ref l] dX4_passOne_114 cV_X4_80 (c_pag g (p := y1.length) ⟨hl2, hZ2⟩ (by rw [List.length_map]; exact hys) (by simp) (fun q hq => by
    rw [List.length_map] at hq
    rw [gz_at hq, (ck_at hD2 (hM1 q hq).1 (hM1 q hq).2 (by decide) (by decide)).1, ej2, hF1 q hq, e0]
    exact hplace q hq)) hl2.1 hl2.2 rfl rfl rfl (by decide) (Nat.le_of_ble_eq_true rfl) rfl ?_
  refine ex_aloadN dX4_passOne_117 2 rfl ?_
  refine ex_aload dX4_passOne_119 0 rfl ?_
  refine ex_aloadN dX4_passOne_121 1 rfl ?_
  have hZm2 : CL g S2 ow2 5 l 1 5 c5 (y1.map (fun i => la.getD i 0) ++ la.getD i 0 :: y2.map (fun i => la.getD i 0)) := by have z := hZ2; rw [List.map_append, List.map_cons] at z; exact z
  have hc5b : c5 ≤ 5000 := by obtain ⟨_, _, _, w5, _⟩ := id hZ; exact w5.2.1.2
  refine ex_cVg [.int (nI y1.length), .null, .ref q3, .null] [] dX4_passOne_123 cV_X4_106 (c_repl_010 g (l1 := y1.map (fun i => la.getD i 0)) (z := la.getD i 0) (l2 := y2.map (fun i => la.getD i 0)) ⟨hl2, hZm2⟩ (by rw [List.length_map]) (by simp at hys ⊢; omega) (by omega) (by omega) hq3_2) hl2.1 hl2.2 rfl rfl rfl (by decide) (Nat.le_of_ble_eq_true rfl) rfl ?_ (fun E S' n' k' h => by obtain ⟨h1, -⟩ := h; cases h1)
  rintro v' S9 n9 k9 ⟨hr9, ow9, c9, hC9, hL9, hc9, hnn9, hkk9⟩
  cases hr9
  show ex_W _ _ _ _ 126 [(8, .ref q3), (7, .null), (6, .null), (0, .ref l), (1, .ref (la.getD i 0)), (2, .int xa), (3, .int xb), (4, .int xt), (5, .int xd)] [] S9 n9 k9
  exact ex_vrt rfl dX4_passOne_126 (by
  have hT3 : ln_at ((ls.set i (ln_end (ln_at ls i) td) ++ [(max (ln_at ls i).1 a, min (ln_at ls i).2.1 b, t0, td, none)])) (ls.length) = (max (ln_at ls i).1 a, min (ln_at ls i).2.1 b, t0, td, none) := by rw [ln_app, if_pos (by first | omega | (simp; done) | (simp; omega))]
  have hold : ∀ j, j < ls.length → j ≠ i → ln_at ((ls.set i (ln_end (ln_at ls i) td) ++ [(max (ln_at ls i).1 a, min (ln_at ls i).2.1 b, t0, td, none)])) j = ln_at ls j := fun j hj hne => by rw [ln_app, if_neg (by first | omega | (simp; done) | (simp; omega))]; rw [ln_set hi, if_neg hne]
  have hend : ln_at ((ls.set i (ln_end (ln_at ls i) td) ++ [(max (ln_at ls i).1 a, min (ln_at ls i).2.1 b, t0, td, none)])) i = ln_end (ln_at ls i) td := by rw [ln_app, if_neg (by first | omega | (simp; done) | (simp; omega))]; rw [ln_set hi, if_pos rfl]
  have hG9 : GO ((ls.set i (ln_end (ln_at ls i) td) ++ [(max (ln_at ls i).1 a, min (ln_at ls i).2.1 b, t0, td, none)])) (y1 ++ [ls.length] ++ y2) := GO_rep hG hfl (by simp; try omega) hold (by rw [hend]; simp [ln_end]) (by simp) (fun j hj => by
    simp only [List.mem_cons, List.mem_singleton, List.not_mem_nil, or_false] at hj
    rcases hj with rfl
    · rw [hT3]; simp only []; omega) (fun j => by
    simp only [List.mem_cons, List.mem_singleton, List.not_mem_nil, or_false]
    constructor
    · intro z
      rcases z with rfl
      · exact ⟨by omega, by simp; try omega, by rw [hT3]⟩
    · intro z
      have z2 := z.2.1
      simp at z2
      omega)
  have hQ3 : ((la ++ [q3])).getD (ls.length) 0 = q3 := by rw [gd_app, if_pos (by first | omega | (simp; done) | (simp; omega))]
  have hqold : ∀ j, j < ls.length → ((la ++ [q3])).getD j 0 = la.getD j 0 := fun j hj => by rw [gd_app, if_neg (by first | omega | (simp; done) | (simp; omega))]
  have hmap : (y1 ++ [ls.length] ++ y2).map (fun i => ((la ++ [q3])).getD i 0) = y1.map (fun i => la.getD i 0) ++ q3 :: y2.map (fun i => la.getD i 0) := by
    have hm1 : y1.map (fun i => ((la ++ [q3])).getD i 0) = y1.map (fun i => la.getD i 0) := List.map_congr_left (fun a ha => hqold a ((hG.2 a).mp (by simp [ha])).1)
    have hm2 : y2.map (fun i => ((la ++ [q3])).getD i 0) = y2.map (fun i => la.getD i 0) := List.map_congr_left (fun a ha => hqold a ((hG.2 a).mp (by simp [ha])).1)
    rw [List.map_append, List.map_append, hm1, hm2, List.append_assoc]
    congr 1
    simp only [List.map_cons, List.map_nil, List.cons_append, List.nil_append, hQ3]
  have hN9 := LN1_ck hl2 hN2 hC9 (by decide) (by decide) (by decide) (by decide)
  refine ⟨rfl, ow9, d2, c9, y1 ++ [ls.length] ++ y2, CK_tr (CK_tr (CK_mono hC1 (by decide) (by decide)) (CK_mono hD2 (by decide) (by decide))) (CK_mono hC9 (by decide) (by decide)), ⟨⟨(hC9.1 l hl2.1).1, (hC9.1 l hl2.1).2.1.trans hl2.2⟩, ⟨(la ++ [q3]), hN9.1, by rw [hmap]; exact hL9, hN9.2.1, hN9.2.2.1, hN9.2.2.2, hG9⟩, by first | omega | (simp; omega), fun j hj => ?_⟩, by omega, hc9, by first | omega | (simp; omega), by first | omega | (simp; omega)⟩
  by_cases z : j < ls.length
  · by_cases y : j = i
    · rw [y, hend]
      exact ⟨hok.1, hok.2.1, hok.2.2.1, hok.2.2.2.1, fun d hd => by cases hd; exact htd⟩
    · rw [hold j z y]; exact hlok j z
  · simp at hj
    rcases (show j = ls.length by omega) with rfl
    · rw [hT3]; exact ⟨by show max (ln_at ls i).1 a ≤ min (ln_at ls i).2.1 b; omega, by show min (ln_at ls i).2.1 b < _; omega, ht0, htd, fun d hd => by cases hd⟩)
set_option maxRecDepth 20000 in
set_option maxHeartbeats 4000000 in
theorem c_pass_010 (g : gl_T) {S : hs_T} {n k l c4 c5 i a b td : Nat} {ow : Nat → Nat} {ls : List li_T} {la y1 y2 : List Nat} {xa xb xd : Int32} (hl : l ∈ hs_L S ∧ hs_K S l = 4) (hN : LN1 g S ow l c4 ls la) (hZ : CL g S ow 5 l 1 5 c5 ((y1 ++ i :: y2).map (fun i => la.getD i 0))) (hG : GO ls (y1 ++ i :: y2)) (hlok : ∀ j, j < ls.length → ln_ok (ln_at ls j)) (hxa : xa = nI a) (hxb : xb = nI b) (hxd : xd = nI td) (hab : a ≤ b) (ha : a < 2 ^ 31) (hb9 : b < 2 ^ 31) (hb1 : (ln_at ls i).1 ≤ b) (ha1 : a ≤ (ln_at ls i).2.1) (htd : td ≤ 100000) (hn : n + 15000 ≤ ex_NM) (hk : k + 60000 ≤ ex_KM) (hB1 : ¬ (ln_at ls i).1 < a) (hB2 : b < (ln_at ls i).2.1) {xt : Int32} (hxt : xt = -1) (hlen : ls.length + 1 ≤ 1500) : ex_M g 9 mX4_passOne [.ref l, .ref (la.getD i 0), .int xa, .int xb, .int xt, .int xd] S n k (pg g S ow l c4 c5 ls n k ((ls.set i (ln_end (ln_at ls i) td) ++ [(b + 1, (ln_at ls i).2.1, (ln_at ls i).2.2.1, (ln_at ls i).2.2.2.1, none)]))) := by
  obtain ⟨hL4, nd4, len4, f4⟩ := id hN
  have hi : i < ls.length := ((hG.2 i).mp (by simp)).1
  have mo := CL_el hL4 (j := i) (by omega)
  obtain ⟨g0, g1, g2, g3, g4⟩ := f4 i hi
  have hok := hlok i hi
  have hok1 := hok.1
  have hok2 := hok.2.1
  have hc4b : c4 ≤ 5000 := by obtain ⟨_, _, _, w4, _⟩ := id hL4; exact w4.2.1.2
  have hfl : ∀ i, (ln_at ls i).1 ≤ (ln_at ls i).2.1 := fun i => by
    by_cases z : i < ls.length
    · exact (hlok i z).1
    · unfold ln_at; rw [List.getD_eq_getElem?_getD, List.getElem?_eq_none (by omega)]; exact Nat.le_refl _
  have hys : (y1 ++ i :: y2).length ≤ 1500 := Nat.le_trans (nd_len (GO_nd hfl hG) (fun i hi => ((hG.2 i).mp hi).1)) (by omega)
  have hplace : ∀ q, q < (y1 ++ i :: y2).length → (nI (ln_at ls ((y1 ++ i :: y2).getD q 0)).1 ≤ nI (ln_at ls i).1 ↔ q ≤ y1.length) := fun q hq => by
    have hq1 := GO_at hG hq
    have hb := (hlok _ hq1.1)
    have hb1 := hb.1
    have hb2 := hb.2.1
    rw [nI_leI (by omega) (by omega)]
    have hgi : (y1 ++ i :: y2).getD y1.length 0 = i := by rw [List.getD_eq_getElem?_getD, rp_at]; rfl
    have hpw : ∀ u v, u < v → v < (y1 ++ i :: y2).length → (ln_at ls ((y1 ++ i :: y2).getD u 0)).2.1 < (ln_at ls ((y1 ++ i :: y2).getD v 0)).1 := fun u v huv hv => by
      have w := List.pairwise_iff_getElem.mp hG.1 u v (by omega) hv huv
      rw [List.getD_eq_getElem?_getD, List.getElem?_eq_getElem (by omega), List.getD_eq_getElem?_getD, List.getElem?_eq_getElem hv]
      exact w
    have hy1 : y1.length < (y1 ++ i :: y2).length := by simp
    rcases Nat.lt_trichotomy q y1.length with z | z | z
    · have := hpw q y1.length z hy1
      rw [hgi] at this
      exact ⟨fun _ => by omega, fun _ => by omega⟩
    · rw [z, hgi]; exact ⟨fun _ => Nat.le_refl _, fun _ => Nat.le_refl _⟩
    · have := hpw y1.length q z hq
      rw [hgi] at this
      exact ⟨fun y => by omega, fun y => by omega⟩
  refine ex_enter (by decide +kernel) (Nat.le_of_ble_eq_true rfl) ?_
  show ex_W _ _ _ _ 0 [(0, .ref l), (1, .ref (la.getD i 0)), (2, .int xa), (3, .int xb), (4, .int xt), (5, .int xd)] [] _ _ _
  refine ex_aload_n dX4_passOne_0 1 rfl ?_
  refine ex_iload dX4_passOne_1 5 rfl ?_
  refine ex_putI dX4_passOne_3 fl_X4_95 (pf_X4_95 _) mo.1 mo.2 ?_
  obtain ⟨hN1, hC1⟩ := LN1_end hl hN hi hxd
  have hZ1 := CL_ck hZ ⟨hl.1, Or.inr (Or.inl hl.2)⟩ hC1 (by decide) (by decide) (by decide)
  have hl1 : l ∈ hs_L (hs_sI S (la.getD i 0) 4 xd) ∧ hs_K (hs_sI S (la.getD i 0) 4 xd) l = 4 := hl
  have mo1 : la.getD i 0 ∈ hs_L (hs_sI S (la.getD i 0) 4 xd) ∧ hs_K (hs_sI S (la.getD i 0) 4 xd) (la.getD i 0) = 5 := mo
  have e0 : hs_I (hs_sI S (la.getD i 0) 4 xd) (la.getD i 0) 0 = nI (ln_at ls i).1 := by rw [hs_I_sI, if_neg (fun z => absurd z.2 (by decide))]; exact g0
  have e1 : hs_I (hs_sI S (la.getD i 0) 4 xd) (la.getD i 0) 1 = nI (ln_at ls i).2.1 := by rw [hs_I_sI, if_neg (fun z => absurd z.2 (by decide))]; exact g1
  have e2 : hs_I (hs_sI S (la.getD i 0) 4 xd) (la.getD i 0) 2 = nI (ln_at ls i).2.2.1 := by rw [hs_I_sI, if_neg (fun z => absurd z.2 (by decide))]; exact g2
  have e3 : hs_I (hs_sI S (la.getD i 0) 4 xd) (la.getD i 0) 3 = nI (ln_at ls i).2.2.2.1 := by rw [hs_I_sI, if_neg (fun z => absurd z.2 (by decide))]; exact g3
  have hF1 : ∀ q, q < (y1 ++ i :: y2).length → hs_I (hs_sI S (la.getD i 0) 4 xd) (la.getD ((y1 ++ i :: y2).getD q 0) 0) 0 = nI (ln_at ls ((y1 ++ i :: y2).getD q 0)).1 := fun q hq => by
    rw [hs_I_sI, if_neg (fun z => absurd z.2 (by decide))]; exact (f4 _ (GO_at hG hq).1).1
  have hM1 : ∀ q, q < (y1 ++ i :: y2).length → la.getD ((y1 ++ i :: y2).getD q 0) 0 ∈ hs_L (hs_sI S (la.getD i 0) 4 xd) ∧ hs_K (hs_sI S (la.getD i 0) 4 xd) (la.getD ((y1 ++ i :: y2).getD q 0) 0) = 5 := fun q hq => CL_el hN.1 (by have := (GO_at hG hq).1; omega)
  generalize hs_sI S (la.getD i 0) 4 xd = S1 at hN1 hC1 hZ1 hl1 mo1 e0 e1 e2 e3 hF1 hM1 ⊢
  have hD1 := CK_rf ow [] [4] S1
  have ej1 : hs_I S1 (la.getD i 0) = hs_I S1 (la.getD i 0) := rfl
  refine ex_aload_n dX4_passOne_6 1 rfl ?_
  refine ex_getI dX4_passOne_7 fl_X4_67 mo1.1 mo1.2 ?_
  refine ex_iload_n dX4_passOne_10 2 rfl ?_
  refine ex_icmp_ge (tgt := 36) dX4_passOne_11 (by decide) (fun c11 => ?_) (fun c11 => absurd (by rw [e0, hxa]; exact nI_le (by omega) (by omega)) c11)
  refine ex_null dX4_passOne_36 ?_
  refine ex_astoreN [(6, .null), (0, .ref l), (1, .ref (la.getD i 0)), (2, .int xa), (3, .int xb), (4, .int xt), (5, .int xd)] dX4_passOne_37 (by decide) rfl ?_
  refine ex_aload_n dX4_passOne_39 2 rfl ?_
  refine ex_getI dX4_passOne_40 fl_X4_70 mo1.1 mo1.2 ?_
  refine ex_iload_n dX4_passOne_43 4 rfl ?_
  have ejj := ej1
  refine ex_icmp_le (tgt := 69) dX4_passOne_44 (by decide) (fun c44 => absurd c44 (fun z => by rw [ejj, e1, hxb] at z; have := (nI_leI (by omega) hb9).mp z; omega)) (fun c44 => ?_)
  refine ex_aload_n dX4_passOne_47 1 rfl ?_
  refine ex_iload_n dX4_passOne_48 4 rfl ?_
  refine ex_iconst (v := 1) dX4_passOne_49 (by decide) ?_
  refine ex_iadd dX4_passOne_50 ?_
  refine ex_aload_n dX4_passOne_51 2 rfl ?_
  refine ex_getI dX4_passOne_52 fl_X4_70 mo1.1 mo1.2 ?_
  refine ex_aload_n dX4_passOne_55 2 rfl ?_
  refine ex_getI dX4_passOne_56 fl_X4_64 mo1.1 mo1.2 ?_
  refine ex_aload_n dX4_passOne_59 2 rfl ?_
  refine ex_getI dX4_passOne_60 fl_X4_89 mo1.1 mo1.2 ?_
  refine ex_cVg [.int (xb + 1), .int (hs_I S1 (la.getD i 0) 1), .int (hs_I S1 (la.getD i 0) 2), .int (hs_I S1 (la.getD i 0) 3)] [] dX4_passOne_63 cV_X4_30 (c_begin g hl1 hN1 (t := (b + 1, (ln_at ls i).2.1, (ln_at ls i).2.2.1, (ln_at ls i).2.2.2.1, none)) (by simp at hlen ⊢; omega) (by omega) (by omega) (by rw [hxb]; exact nI_1 _) (by rw [ej1]; exact e1) (by rw [ej1]; exact e2) (by rw [ej1]; exact e3) rfl) hl1.1 hl1.2 rfl rfl rfl (by decide) (Nat.le_of_ble_eq_true rfl) rfl ?_ (fun E S' n' k' h => by obtain ⟨_, _, _, h1, -⟩ := h; cases h1)
  rintro v' S2 n2 k2 ⟨q2, ow2, d2, hr2, hq2, hq2_2, hC2, hN2, hc2, hnn2, hkk2⟩
  cases hr2
  have hZ2 := CL_ck hZ1 ⟨hl1.1, Or.inr (Or.inl hl1.2)⟩ hC2 (by decide) (by decide) (by decide)
  have hl2 : l ∈ hs_L S2 ∧ hs_K S2 l = 4 := ⟨(hC2.1 l hl1.1).1, (hC2.1 l hl1.1).2.1.trans hl1.2⟩
  have hD2 := CK_tr hD1 hC2
  have ej2 : hs_I S2 (la.getD i 0) = hs_I S1 (la.getD i 0) := (ck_at hD2 mo1.1 mo1.2 (by decide) (by decide)).1
  have mo2 : la.getD i 0 ∈ hs_L S2 ∧ hs_K S2 (la.getD i 0) = 5 := ⟨(hD2.1 _ mo1.1).1, (hD2.1 _ mo1.1).2.1.trans mo1.2⟩
  have hdb2 : d2 ≤ 5000 := by obtain ⟨_, _, _, w4, _⟩ := id hN2.1; exact w4.2.1.2
  show ex_W _ _ _ _ 66 [(6, .null), (0, .ref l), (1, .ref (la.getD i 0)), (2, .int xa), (3, .int xb), (4, .int xt), (5, .int xd)] [.ref q2] S2 n2 k2
  refine ex_goto (tgt := 70) dX4_passOne_66 (by decide) ?_
  refine ex_astore [(7, .ref q2), (6, .null), (0, .ref l), (1, .ref (la.getD i 0)), (2, .int xa), (3, .int xb), (4, .int xt), (5, .int xd)] dX4_passOne_70 (by decide) rfl ?_
  refine ex_iload dX4_passOne_72 6 rfl ?_
  refine ex_iconst (v := (-1)) dX4_passOne_74 (by decide) ?_
  refine ex_icmp_ne (tgt := 82) dX4_passOne_75 (by decide) (fun c75 => absurd hxt c75) (fun c75 => ?_)
  refine ex_null dX4_passOne_78 ?_
  refine ex_goto (tgt := 106) dX4_passOne_79 (by decide) ?_
  refine ex_astoreN [(8, .null), (7, .ref q2), (6, .null), (0, .ref l), (1, .ref (la.getD i 0)), (2, .int xa), (3, .int xb), (4, .int xt), (5, .int xd)] dX4_passOne_106 (by decide) rfl ?_
  refine ex_aload_n dX4_passOne_108 3 rfl ?_
  refine ex_aload_n dX4_passOne_109 3 rfl ?_
  refine ex_aload_n dX4_passOne_110 4 rfl ?_
  refine ex_getI dX4_passOne_111 fl_X4_67 mo2.1 mo2.2 ?_
  refine ex_cVr [.int (hs_I S2 (la.getD i 0) 0)] [.ref l] dX4_passOne_114 cV_X4_80 (c_pag g (p := y1.length) ⟨hl2, hZ2⟩ (by rw [List.length_map]; exact hys) (by simp) (fun q hq => by
    rw [List.length_map] at hq
    rw [gz_at hq, (ck_at hD2 (hM1 q hq).1 (hM1 q hq).2 (by decide) (by decide)).1, ej2, hF1 q hq, e0]
    exact hplace q hq)) hl2.1 hl2.2 rfl rfl rfl (by decide) (Nat.le_of_ble_eq_true rfl) rfl ?_
  refine ex_aloadN dX4_passOne_117 2 rfl ?_
  refine ex_aloadN dX4_passOne_119 0 rfl ?_
  refine ex_aload dX4_passOne_121 1 rfl ?_
  have hZm2 : CL g S2 ow2 5 l 1 5 c5 (y1.map (fun i => la.getD i 0) ++ la.getD i 0 :: y2.map (fun i => la.getD i 0)) := by have z := hZ2; rw [List.map_append, List.map_cons] at z; exact z
  have hc5b : c5 ≤ 5000 := by obtain ⟨_, _, _, w5, _⟩ := id hZ; exact w5.2.1.2
  refine ex_cVg [.int (nI y1.length), .null, .null, .ref q2] [] dX4_passOne_123 cV_X4_106 (c_repl_001 g (l1 := y1.map (fun i => la.getD i 0)) (z := la.getD i 0) (l2 := y2.map (fun i => la.getD i 0)) ⟨hl2, hZm2⟩ (by rw [List.length_map]) (by simp at hys ⊢; omega) (by omega) (by omega) hq2_2) hl2.1 hl2.2 rfl rfl rfl (by decide) (Nat.le_of_ble_eq_true rfl) rfl ?_ (fun E S' n' k' h => by obtain ⟨h1, -⟩ := h; cases h1)
  rintro v' S9 n9 k9 ⟨hr9, ow9, c9, hC9, hL9, hc9, hnn9, hkk9⟩
  cases hr9
  show ex_W _ _ _ _ 126 [(8, .null), (7, .ref q2), (6, .null), (0, .ref l), (1, .ref (la.getD i 0)), (2, .int xa), (3, .int xb), (4, .int xt), (5, .int xd)] [] S9 n9 k9
  exact ex_vrt rfl dX4_passOne_126 (by
  have hT2 : ln_at ((ls.set i (ln_end (ln_at ls i) td) ++ [(b + 1, (ln_at ls i).2.1, (ln_at ls i).2.2.1, (ln_at ls i).2.2.2.1, none)])) (ls.length) = (b + 1, (ln_at ls i).2.1, (ln_at ls i).2.2.1, (ln_at ls i).2.2.2.1, none) := by rw [ln_app, if_pos (by first | omega | (simp; done) | (simp; omega))]
  have hold : ∀ j, j < ls.length → j ≠ i → ln_at ((ls.set i (ln_end (ln_at ls i) td) ++ [(b + 1, (ln_at ls i).2.1, (ln_at ls i).2.2.1, (ln_at ls i).2.2.2.1, none)])) j = ln_at ls j := fun j hj hne => by rw [ln_app, if_neg (by first | omega | (simp; done) | (simp; omega))]; rw [ln_set hi, if_neg hne]
  have hend : ln_at ((ls.set i (ln_end (ln_at ls i) td) ++ [(b + 1, (ln_at ls i).2.1, (ln_at ls i).2.2.1, (ln_at ls i).2.2.2.1, none)])) i = ln_end (ln_at ls i) td := by rw [ln_app, if_neg (by first | omega | (simp; done) | (simp; omega))]; rw [ln_set hi, if_pos rfl]
  have hG9 : GO ((ls.set i (ln_end (ln_at ls i) td) ++ [(b + 1, (ln_at ls i).2.1, (ln_at ls i).2.2.1, (ln_at ls i).2.2.2.1, none)])) (y1 ++ [ls.length] ++ y2) := GO_rep hG hfl (by simp; try omega) hold (by rw [hend]; simp [ln_end]) (by simp) (fun j hj => by
    simp only [List.mem_cons, List.mem_singleton, List.not_mem_nil, or_false] at hj
    rcases hj with rfl
    · rw [hT2]; simp only []; omega) (fun j => by
    simp only [List.mem_cons, List.mem_singleton, List.not_mem_nil, or_false]
    constructor
    · intro z
      rcases z with rfl
      · exact ⟨by omega, by simp; try omega, by rw [hT2]⟩
    · intro z
      have z2 := z.2.1
      simp at z2
      omega)
  have hQ2 : ((la ++ [q2])).getD (ls.length) 0 = q2 := by rw [gd_app, if_pos (by first | omega | (simp; done) | (simp; omega))]
  have hqold : ∀ j, j < ls.length → ((la ++ [q2])).getD j 0 = la.getD j 0 := fun j hj => by rw [gd_app, if_neg (by first | omega | (simp; done) | (simp; omega))]
  have hmap : (y1 ++ [ls.length] ++ y2).map (fun i => ((la ++ [q2])).getD i 0) = y1.map (fun i => la.getD i 0) ++ q2 :: y2.map (fun i => la.getD i 0) := by
    have hm1 : y1.map (fun i => ((la ++ [q2])).getD i 0) = y1.map (fun i => la.getD i 0) := List.map_congr_left (fun a ha => hqold a ((hG.2 a).mp (by simp [ha])).1)
    have hm2 : y2.map (fun i => ((la ++ [q2])).getD i 0) = y2.map (fun i => la.getD i 0) := List.map_congr_left (fun a ha => hqold a ((hG.2 a).mp (by simp [ha])).1)
    rw [List.map_append, List.map_append, hm1, hm2, List.append_assoc]
    congr 1
    simp only [List.map_cons, List.map_nil, List.cons_append, List.nil_append, hQ2]
  have hN9 := LN1_ck hl2 hN2 hC9 (by decide) (by decide) (by decide) (by decide)
  refine ⟨rfl, ow9, d2, c9, y1 ++ [ls.length] ++ y2, CK_tr (CK_tr (CK_mono hC1 (by decide) (by decide)) (CK_mono hD2 (by decide) (by decide))) (CK_mono hC9 (by decide) (by decide)), ⟨⟨(hC9.1 l hl2.1).1, (hC9.1 l hl2.1).2.1.trans hl2.2⟩, ⟨(la ++ [q2]), hN9.1, by rw [hmap]; exact hL9, hN9.2.1, hN9.2.2.1, hN9.2.2.2, hG9⟩, by first | omega | (simp; omega), fun j hj => ?_⟩, by omega, hc9, by first | omega | (simp; omega), by first | omega | (simp; omega)⟩
  by_cases z : j < ls.length
  · by_cases y : j = i
    · rw [y, hend]
      exact ⟨hok.1, hok.2.1, hok.2.2.1, hok.2.2.2.1, fun d hd => by cases hd; exact htd⟩
    · rw [hold j z y]; exact hlok j z
  · simp at hj
    rcases (show j = ls.length by omega) with rfl
    · rw [hT2]; exact ⟨by show b + 1 ≤ (ln_at ls i).2.1; omega, by show (ln_at ls i).2.1 < _; omega, hok.2.2.1, hok.2.2.2.1, fun d hd => by cases hd⟩)
set_option maxRecDepth 20000 in
set_option maxHeartbeats 4000000 in
theorem c_pass_011 (g : gl_T) {S : hs_T} {n k l c4 c5 i a b td : Nat} {ow : Nat → Nat} {ls : List li_T} {la y1 y2 : List Nat} {xa xb xd : Int32} (hl : l ∈ hs_L S ∧ hs_K S l = 4) (hN : LN1 g S ow l c4 ls la) (hZ : CL g S ow 5 l 1 5 c5 ((y1 ++ i :: y2).map (fun i => la.getD i 0))) (hG : GO ls (y1 ++ i :: y2)) (hlok : ∀ j, j < ls.length → ln_ok (ln_at ls j)) (hxa : xa = nI a) (hxb : xb = nI b) (hxd : xd = nI td) (hab : a ≤ b) (ha : a < 2 ^ 31) (hb9 : b < 2 ^ 31) (hb1 : (ln_at ls i).1 ≤ b) (ha1 : a ≤ (ln_at ls i).2.1) (htd : td ≤ 100000) (hn : n + 15000 ≤ ex_NM) (hk : k + 60000 ≤ ex_KM) (hB1 : ¬ (ln_at ls i).1 < a) (hB2 : b < (ln_at ls i).2.1) {t0 : Nat} (ht0 : t0 < 60) {xt : Int32} (hxt : xt = nI t0) (hlen : ls.length + 2 ≤ 1500) : ex_M g 9 mX4_passOne [.ref l, .ref (la.getD i 0), .int xa, .int xb, .int xt, .int xd] S n k (pg g S ow l c4 c5 ls n k (((ls.set i (ln_end (ln_at ls i) td) ++ [(b + 1, (ln_at ls i).2.1, (ln_at ls i).2.2.1, (ln_at ls i).2.2.2.1, none)]) ++ [(max (ln_at ls i).1 a, min (ln_at ls i).2.1 b, t0, td, none)]))) := by
  obtain ⟨hL4, nd4, len4, f4⟩ := id hN
  have hi : i < ls.length := ((hG.2 i).mp (by simp)).1
  have mo := CL_el hL4 (j := i) (by omega)
  obtain ⟨g0, g1, g2, g3, g4⟩ := f4 i hi
  have hok := hlok i hi
  have hok1 := hok.1
  have hok2 := hok.2.1
  have hc4b : c4 ≤ 5000 := by obtain ⟨_, _, _, w4, _⟩ := id hL4; exact w4.2.1.2
  have hfl : ∀ i, (ln_at ls i).1 ≤ (ln_at ls i).2.1 := fun i => by
    by_cases z : i < ls.length
    · exact (hlok i z).1
    · unfold ln_at; rw [List.getD_eq_getElem?_getD, List.getElem?_eq_none (by omega)]; exact Nat.le_refl _
  have hys : (y1 ++ i :: y2).length ≤ 1500 := Nat.le_trans (nd_len (GO_nd hfl hG) (fun i hi => ((hG.2 i).mp hi).1)) (by omega)
  have hplace : ∀ q, q < (y1 ++ i :: y2).length → (nI (ln_at ls ((y1 ++ i :: y2).getD q 0)).1 ≤ nI (ln_at ls i).1 ↔ q ≤ y1.length) := fun q hq => by
    have hq1 := GO_at hG hq
    have hb := (hlok _ hq1.1)
    have hb1 := hb.1
    have hb2 := hb.2.1
    rw [nI_leI (by omega) (by omega)]
    have hgi : (y1 ++ i :: y2).getD y1.length 0 = i := by rw [List.getD_eq_getElem?_getD, rp_at]; rfl
    have hpw : ∀ u v, u < v → v < (y1 ++ i :: y2).length → (ln_at ls ((y1 ++ i :: y2).getD u 0)).2.1 < (ln_at ls ((y1 ++ i :: y2).getD v 0)).1 := fun u v huv hv => by
      have w := List.pairwise_iff_getElem.mp hG.1 u v (by omega) hv huv
      rw [List.getD_eq_getElem?_getD, List.getElem?_eq_getElem (by omega), List.getD_eq_getElem?_getD, List.getElem?_eq_getElem hv]
      exact w
    have hy1 : y1.length < (y1 ++ i :: y2).length := by simp
    rcases Nat.lt_trichotomy q y1.length with z | z | z
    · have := hpw q y1.length z hy1
      rw [hgi] at this
      exact ⟨fun _ => by omega, fun _ => by omega⟩
    · rw [z, hgi]; exact ⟨fun _ => Nat.le_refl _, fun _ => Nat.le_refl _⟩
    · have := hpw y1.length q z hq
      rw [hgi] at this
      exact ⟨fun y => by omega, fun y => by omega⟩
  refine ex_enter (by decide +kernel) (Nat.le_of_ble_eq_true rfl) ?_
  show ex_W _ _ _ _ 0 [(0, .ref l), (1, .ref (la.getD i 0)), (2, .int xa), (3, .int xb), (4, .int xt), (5, .int xd)] [] _ _ _
  refine ex_aload_n dX4_passOne_0 1 rfl ?_
  refine ex_iload dX4_passOne_1 5 rfl ?_
  refine ex_putI dX4_passOne_3 fl_X4_95 (pf_X4_95 _) mo.1 mo.2 ?_
  obtain ⟨hN1, hC1⟩ := LN1_end hl hN hi hxd
  have hZ1 := CL_ck hZ ⟨hl.1, Or.inr (Or.inl hl.2)⟩ hC1 (by decide) (by decide) (by decide)
  have hl1 : l ∈ hs_L (hs_sI S (la.getD i 0) 4 xd) ∧ hs_K (hs_sI S (la.getD i 0) 4 xd) l = 4 := hl
  have mo1 : la.getD i 0 ∈ hs_L (hs_sI S (la.getD i 0) 4 xd) ∧ hs_K (hs_sI S (la.getD i 0) 4 xd) (la.getD i 0) = 5 := mo
  have e0 : hs_I (hs_sI S (la.getD i 0) 4 xd) (la.getD i 0) 0 = nI (ln_at ls i).1 := by rw [hs_I_sI, if_neg (fun z => absurd z.2 (by decide))]; exact g0
  have e1 : hs_I (hs_sI S (la.getD i 0) 4 xd) (la.getD i 0) 1 = nI (ln_at ls i).2.1 := by rw [hs_I_sI, if_neg (fun z => absurd z.2 (by decide))]; exact g1
  have e2 : hs_I (hs_sI S (la.getD i 0) 4 xd) (la.getD i 0) 2 = nI (ln_at ls i).2.2.1 := by rw [hs_I_sI, if_neg (fun z => absurd z.2 (by decide))]; exact g2
  have e3 : hs_I (hs_sI S (la.getD i 0) 4 xd) (la.getD i 0) 3 = nI (ln_at ls i).2.2.2.1 := by rw [hs_I_sI, if_neg (fun z => absurd z.2 (by decide))]; exact g3
  have hF1 : ∀ q, q < (y1 ++ i :: y2).length → hs_I (hs_sI S (la.getD i 0) 4 xd) (la.getD ((y1 ++ i :: y2).getD q 0) 0) 0 = nI (ln_at ls ((y1 ++ i :: y2).getD q 0)).1 := fun q hq => by
    rw [hs_I_sI, if_neg (fun z => absurd z.2 (by decide))]; exact (f4 _ (GO_at hG hq).1).1
  have hM1 : ∀ q, q < (y1 ++ i :: y2).length → la.getD ((y1 ++ i :: y2).getD q 0) 0 ∈ hs_L (hs_sI S (la.getD i 0) 4 xd) ∧ hs_K (hs_sI S (la.getD i 0) 4 xd) (la.getD ((y1 ++ i :: y2).getD q 0) 0) = 5 := fun q hq => CL_el hN.1 (by have := (GO_at hG hq).1; omega)
  generalize hs_sI S (la.getD i 0) 4 xd = S1 at hN1 hC1 hZ1 hl1 mo1 e0 e1 e2 e3 hF1 hM1 ⊢
  have hD1 := CK_rf ow [] [4] S1
  have ej1 : hs_I S1 (la.getD i 0) = hs_I S1 (la.getD i 0) := rfl
  refine ex_aload_n dX4_passOne_6 1 rfl ?_
  refine ex_getI dX4_passOne_7 fl_X4_67 mo1.1 mo1.2 ?_
  refine ex_iload_n dX4_passOne_10 2 rfl ?_
  refine ex_icmp_ge (tgt := 36) dX4_passOne_11 (by decide) (fun c11 => ?_) (fun c11 => absurd (by rw [e0, hxa]; exact nI_le (by omega) (by omega)) c11)
  refine ex_null dX4_passOne_36 ?_
  refine ex_astoreN [(6, .null), (0, .ref l), (1, .ref (la.getD i 0)), (2, .int xa), (3, .int xb), (4, .int xt), (5, .int xd)] dX4_passOne_37 (by decide) rfl ?_
  refine ex_aload_n dX4_passOne_39 2 rfl ?_
  refine ex_getI dX4_passOne_40 fl_X4_70 mo1.1 mo1.2 ?_
  refine ex_iload_n dX4_passOne_43 4 rfl ?_
  have ejj := ej1
  refine ex_icmp_le (tgt := 69) dX4_passOne_44 (by decide) (fun c44 => absurd c44 (fun z => by rw [ejj, e1, hxb] at z; have := (nI_leI (by omega) hb9).mp z; omega)) (fun c44 => ?_)
  refine ex_aload_n dX4_passOne_47 1 rfl ?_
  refine ex_iload_n dX4_passOne_48 4 rfl ?_
  refine ex_iconst (v := 1) dX4_passOne_49 (by decide) ?_
  refine ex_iadd dX4_passOne_50 ?_
  refine ex_aload_n dX4_passOne_51 2 rfl ?_
  refine ex_getI dX4_passOne_52 fl_X4_70 mo1.1 mo1.2 ?_
  refine ex_aload_n dX4_passOne_55 2 rfl ?_
  refine ex_getI dX4_passOne_56 fl_X4_64 mo1.1 mo1.2 ?_
  refine ex_aload_n dX4_passOne_59 2 rfl ?_
  refine ex_getI dX4_passOne_60 fl_X4_89 mo1.1 mo1.2 ?_
  refine ex_cVg [.int (xb + 1), .int (hs_I S1 (la.getD i 0) 1), .int (hs_I S1 (la.getD i 0) 2), .int (hs_I S1 (la.getD i 0) 3)] [] dX4_passOne_63 cV_X4_30 (c_begin g hl1 hN1 (t := (b + 1, (ln_at ls i).2.1, (ln_at ls i).2.2.1, (ln_at ls i).2.2.2.1, none)) (by simp at hlen ⊢; omega) (by omega) (by omega) (by rw [hxb]; exact nI_1 _) (by rw [ej1]; exact e1) (by rw [ej1]; exact e2) (by rw [ej1]; exact e3) rfl) hl1.1 hl1.2 rfl rfl rfl (by decide) (Nat.le_of_ble_eq_true rfl) rfl ?_ (fun E S' n' k' h => by obtain ⟨_, _, _, h1, -⟩ := h; cases h1)
  rintro v' S2 n2 k2 ⟨q2, ow2, d2, hr2, hq2, hq2_2, hC2, hN2, hc2, hnn2, hkk2⟩
  cases hr2
  have hZ2 := CL_ck hZ1 ⟨hl1.1, Or.inr (Or.inl hl1.2)⟩ hC2 (by decide) (by decide) (by decide)
  have hl2 : l ∈ hs_L S2 ∧ hs_K S2 l = 4 := ⟨(hC2.1 l hl1.1).1, (hC2.1 l hl1.1).2.1.trans hl1.2⟩
  have hD2 := CK_tr hD1 hC2
  have ej2 : hs_I S2 (la.getD i 0) = hs_I S1 (la.getD i 0) := (ck_at hD2 mo1.1 mo1.2 (by decide) (by decide)).1
  have mo2 : la.getD i 0 ∈ hs_L S2 ∧ hs_K S2 (la.getD i 0) = 5 := ⟨(hD2.1 _ mo1.1).1, (hD2.1 _ mo1.1).2.1.trans mo1.2⟩
  have hdb2 : d2 ≤ 5000 := by obtain ⟨_, _, _, w4, _⟩ := id hN2.1; exact w4.2.1.2
  show ex_W _ _ _ _ 66 [(6, .null), (0, .ref l), (1, .ref (la.getD i 0)), (2, .int xa), (3, .int xb), (4, .int xt), (5, .int xd)] [.ref q2] S2 n2 k2
  refine ex_goto (tgt := 70) dX4_passOne_66 (by decide) ?_
  refine ex_astore [(7, .ref q2), (6, .null), (0, .ref l), (1, .ref (la.getD i 0)), (2, .int xa), (3, .int xb), (4, .int xt), (5, .int xd)] dX4_passOne_70 (by decide) rfl ?_
  refine ex_iload dX4_passOne_72 6 rfl ?_
  refine ex_iconst (v := (-1)) dX4_passOne_74 (by decide) ?_
  refine ex_icmp_ne (tgt := 82) dX4_passOne_75 (by decide) (fun c75 => ?_) (fun c75 => absurd c75 (by rw [hxt]; exact fun z => absurd (congrArg Int32.toInt z) (by rw [nI_toInt (by omega), i_m1]; omega)))
  refine ex_aload_n dX4_passOne_82 2 rfl ?_
  refine ex_aload_n dX4_passOne_83 3 rfl ?_
  refine ex_getI dX4_passOne_84 fl_X4_67 mo2.1 mo2.2 ?_
  refine ex_iload_n dX4_passOne_87 4 rfl ?_
  refine ex_mmax dX4_passOne_88 ml_X4_98 mw_max (by decide) (Nat.le_of_ble_eq_true rfl) ?_
  refine ex_aload_n dX4_passOne_91 3 rfl ?_
  refine ex_getI dX4_passOne_92 fl_X4_70 mo2.1 mo2.2 ?_
  refine ex_iload_n dX4_passOne_95 5 rfl ?_
  refine ex_mmin dX4_passOne_96 ml_X4_103 mw_min (by decide) (Nat.le_of_ble_eq_true rfl) ?_
  refine ex_iload dX4_passOne_99 6 rfl ?_
  refine ex_iload dX4_passOne_101 7 rfl ?_
  refine ex_cVg [.int ((if (hs_I S2 (la.getD i 0) 0) < xa then xa else hs_I S2 (la.getD i 0) 0)), .int ((if xb < (hs_I S2 (la.getD i 0) 1) then xb else hs_I S2 (la.getD i 0) 1)), .int xt, .int xd] [] dX4_passOne_103 cV_X4_30 (c_begin g hl2 hN2 (t := (max (ln_at ls i).1 a, min (ln_at ls i).2.1 b, t0, td, none)) (by simp at hlen ⊢; omega) (by omega) (by omega) (by
    rw [ej2, e0, hxa]
    show _ = nI (max (ln_at ls i).1 a)
    split
    · next z => have := (nI_ltI (by omega) (by omega)).mp z; congr 1; omega
    · next z => have : ¬ (ln_at ls i).1 < a := fun y => z (nI_lt y (by omega)); congr 1; omega) (by
    rw [ej2, e1, hxb]
    show _ = nI (min (ln_at ls i).2.1 b)
    split
    · next z => have := (nI_ltI (by omega) (by omega)).mp z; congr 1; omega
    · next z => have : ¬ b < (ln_at ls i).2.1 := fun y => z (nI_lt y (by omega)); congr 1; omega) hxt hxd rfl) hl2.1 hl2.2 rfl rfl rfl (by decide) (Nat.le_of_ble_eq_true rfl) rfl ?_ (fun E S' n' k' h => by obtain ⟨_, _, _, h1, -⟩ := h; cases h1)
  rintro v' S3 n3 k3 ⟨q3, ow3, d3, hr3, hq3, hq3_3, hC3, hN3, hc3, hnn3, hkk3⟩
  cases hr3
  have hZ3 := CL_ck hZ2 ⟨hl2.1, Or.inr (Or.inl hl2.2)⟩ hC3 (by decide) (by decide) (by decide)
  have hl3 : l ∈ hs_L S3 ∧ hs_K S3 l = 4 := ⟨(hC3.1 l hl2.1).1, (hC3.1 l hl2.1).2.1.trans hl2.2⟩
  have hD3 := CK_tr hD2 hC3
  have ej3 : hs_I S3 (la.getD i 0) = hs_I S1 (la.getD i 0) := (ck_at hD3 mo1.1 mo1.2 (by decide) (by decide)).1
  have mo3 : la.getD i 0 ∈ hs_L S3 ∧ hs_K S3 (la.getD i 0) = 5 := ⟨(hD3.1 _ mo1.1).1, (hD3.1 _ mo1.1).2.1.trans mo1.2⟩
  have hdb3 : d3 ≤ 5000 := by obtain ⟨_, _, _, w4, _⟩ := id hN3.1; exact w4.2.1.2
  have hq2_3 : q2 ∈ hs_L S3 ∧ hs_K S3 q2 = 5 := ⟨(hC3.1 _ hq2_2.1).1, (hC3.1 _ hq2_2.1).2.1.trans hq2_2.2⟩
  show ex_W _ _ _ _ 106 [(7, .ref q2), (6, .null), (0, .ref l), (1, .ref (la.getD i 0)), (2, .int xa), (3, .int xb), (4, .int xt), (5, .int xd)] [.ref q3] S3 n3 k3
  refine ex_astore [(8, .ref q3), (7, .ref q2), (6, .null), (0, .ref l), (1, .ref (la.getD i 0)), (2, .int xa), (3, .int xb), (4, .int xt), (5, .int xd)] dX4_passOne_106 (by decide) rfl ?_
  refine ex_aload_n dX4_passOne_108 3 rfl ?_
  refine ex_aload_n dX4_passOne_109 3 rfl ?_
  refine ex_aload_n dX4_passOne_110 4 rfl ?_
  refine ex_getI dX4_passOne_111 fl_X4_67 mo3.1 mo3.2 ?_
  refine ex_cVr [.int (hs_I S3 (la.getD i 0) 0)] [.ref l] dX4_passOne_114 cV_X4_80 (c_pag g (p := y1.length) ⟨hl3, hZ3⟩ (by rw [List.length_map]; exact hys) (by simp) (fun q hq => by
    rw [List.length_map] at hq
    rw [gz_at hq, (ck_at hD3 (hM1 q hq).1 (hM1 q hq).2 (by decide) (by decide)).1, ej3, hF1 q hq, e0]
    exact hplace q hq)) hl3.1 hl3.2 rfl rfl rfl (by decide) (Nat.le_of_ble_eq_true rfl) rfl ?_
  refine ex_aloadN dX4_passOne_117 2 rfl ?_
  refine ex_aload dX4_passOne_119 0 rfl ?_
  refine ex_aload dX4_passOne_121 1 rfl ?_
  have hZm3 : CL g S3 ow3 5 l 1 5 c5 (y1.map (fun i => la.getD i 0) ++ la.getD i 0 :: y2.map (fun i => la.getD i 0)) := by have z := hZ3; rw [List.map_append, List.map_cons] at z; exact z
  have hc5b : c5 ≤ 5000 := by obtain ⟨_, _, _, w5, _⟩ := id hZ; exact w5.2.1.2
  refine ex_cVg [.int (nI y1.length), .null, .ref q3, .ref q2] [] dX4_passOne_123 cV_X4_106 (c_repl_011 g (l1 := y1.map (fun i => la.getD i 0)) (z := la.getD i 0) (l2 := y2.map (fun i => la.getD i 0)) ⟨hl3, hZm3⟩ (by rw [List.length_map]) (by simp at hys ⊢; omega) (by omega) (by omega) hq3_3 hq2_3) hl3.1 hl3.2 rfl rfl rfl (by decide) (Nat.le_of_ble_eq_true rfl) rfl ?_ (fun E S' n' k' h => by obtain ⟨h1, -⟩ := h; cases h1)
  rintro v' S9 n9 k9 ⟨hr9, ow9, c9, hC9, hL9, hc9, hnn9, hkk9⟩
  cases hr9
  show ex_W _ _ _ _ 126 [(8, .ref q3), (7, .ref q2), (6, .null), (0, .ref l), (1, .ref (la.getD i 0)), (2, .int xa), (3, .int xb), (4, .int xt), (5, .int xd)] [] S9 n9 k9
  exact ex_vrt rfl dX4_passOne_126 (by
  have hT2 : ln_at (((ls.set i (ln_end (ln_at ls i) td) ++ [(b + 1, (ln_at ls i).2.1, (ln_at ls i).2.2.1, (ln_at ls i).2.2.2.1, none)]) ++ [(max (ln_at ls i).1 a, min (ln_at ls i).2.1 b, t0, td, none)])) (ls.length) = (b + 1, (ln_at ls i).2.1, (ln_at ls i).2.2.1, (ln_at ls i).2.2.2.1, none) := by rw [ln_app, if_neg (by first | omega | (simp; done) | (simp; omega))]; rw [ln_app, if_pos (by first | omega | (simp; done) | (simp; omega))]
  have hT3 : ln_at (((ls.set i (ln_end (ln_at ls i) td) ++ [(b + 1, (ln_at ls i).2.1, (ln_at ls i).2.2.1, (ln_at ls i).2.2.2.1, none)]) ++ [(max (ln_at ls i).1 a, min (ln_at ls i).2.1 b, t0, td, none)])) (ls.length + 1) = (max (ln_at ls i).1 a, min (ln_at ls i).2.1 b, t0, td, none) := by rw [ln_app, if_pos (by first | omega | (simp; done) | (simp; omega))]
  have hold : ∀ j, j < ls.length → j ≠ i → ln_at (((ls.set i (ln_end (ln_at ls i) td) ++ [(b + 1, (ln_at ls i).2.1, (ln_at ls i).2.2.1, (ln_at ls i).2.2.2.1, none)]) ++ [(max (ln_at ls i).1 a, min (ln_at ls i).2.1 b, t0, td, none)])) j = ln_at ls j := fun j hj hne => by rw [ln_app, if_neg (by first | omega | (simp; done) | (simp; omega))]; rw [ln_app, if_neg (by first | omega | (simp; done) | (simp; omega))]; rw [ln_set hi, if_neg hne]
  have hend : ln_at (((ls.set i (ln_end (ln_at ls i) td) ++ [(b + 1, (ln_at ls i).2.1, (ln_at ls i).2.2.1, (ln_at ls i).2.2.2.1, none)]) ++ [(max (ln_at ls i).1 a, min (ln_at ls i).2.1 b, t0, td, none)])) i = ln_end (ln_at ls i) td := by rw [ln_app, if_neg (by first | omega | (simp; done) | (simp; omega))]; rw [ln_app, if_neg (by first | omega | (simp; done) | (simp; omega))]; rw [ln_set hi, if_pos rfl]
  have hG9 : GO (((ls.set i (ln_end (ln_at ls i) td) ++ [(b + 1, (ln_at ls i).2.1, (ln_at ls i).2.2.1, (ln_at ls i).2.2.2.1, none)]) ++ [(max (ln_at ls i).1 a, min (ln_at ls i).2.1 b, t0, td, none)])) (y1 ++ [ls.length + 1, ls.length] ++ y2) := GO_rep hG hfl (by simp; try omega) hold (by rw [hend]; simp [ln_end]) (by simp only [bf, List.pairwise_cons, List.mem_singleton, forall_eq, List.not_mem_nil, false_implies, implies_true, List.Pairwise.nil, and_true]; rw [hT3, hT2]; simp only []; omega) (fun j hj => by
    simp only [List.mem_cons, List.mem_singleton, List.not_mem_nil, or_false] at hj
    rcases hj with rfl | rfl
    · rw [hT3]; simp only []; omega
    · rw [hT2]; simp only []; omega) (fun j => by
    simp only [List.mem_cons, List.mem_singleton, List.not_mem_nil, or_false]
    constructor
    · intro z
      rcases z with rfl | rfl
      · exact ⟨by omega, by simp; try omega, by rw [hT3]⟩
      · exact ⟨by omega, by simp; try omega, by rw [hT2]⟩
    · intro z
      have z2 := z.2.1
      simp at z2
      omega)
  have hQ2 : (((la ++ [q2]) ++ [q3])).getD (ls.length) 0 = q2 := by rw [gd_app, if_neg (by first | omega | (simp; done) | (simp; omega))]; rw [gd_app, if_pos (by first | omega | (simp; done) | (simp; omega))]
  have hQ3 : (((la ++ [q2]) ++ [q3])).getD (ls.length + 1) 0 = q3 := by rw [gd_app, if_pos (by first | omega | (simp; done) | (simp; omega))]
  have hqold : ∀ j, j < ls.length → (((la ++ [q2]) ++ [q3])).getD j 0 = la.getD j 0 := fun j hj => by rw [gd_app, if_neg (by first | omega | (simp; done) | (simp; omega))]; rw [gd_app, if_neg (by first | omega | (simp; done) | (simp; omega))]
  have hmap : (y1 ++ [ls.length + 1, ls.length] ++ y2).map (fun i => (((la ++ [q2]) ++ [q3])).getD i 0) = y1.map (fun i => la.getD i 0) ++ q3 :: q2 :: y2.map (fun i => la.getD i 0) := by
    have hm1 : y1.map (fun i => (((la ++ [q2]) ++ [q3])).getD i 0) = y1.map (fun i => la.getD i 0) := List.map_congr_left (fun a ha => hqold a ((hG.2 a).mp (by simp [ha])).1)
    have hm2 : y2.map (fun i => (((la ++ [q2]) ++ [q3])).getD i 0) = y2.map (fun i => la.getD i 0) := List.map_congr_left (fun a ha => hqold a ((hG.2 a).mp (by simp [ha])).1)
    rw [List.map_append, List.map_append, hm1, hm2, List.append_assoc]
    congr 1
    simp only [List.map_cons, List.map_nil, List.cons_append, List.nil_append, hQ2, hQ3]
  have hN9 := LN1_ck hl3 hN3 hC9 (by decide) (by decide) (by decide) (by decide)
  refine ⟨rfl, ow9, d3, c9, y1 ++ [ls.length + 1, ls.length] ++ y2, CK_tr (CK_tr (CK_mono hC1 (by decide) (by decide)) (CK_mono hD3 (by decide) (by decide))) (CK_mono hC9 (by decide) (by decide)), ⟨⟨(hC9.1 l hl3.1).1, (hC9.1 l hl3.1).2.1.trans hl3.2⟩, ⟨((la ++ [q2]) ++ [q3]), hN9.1, by rw [hmap]; exact hL9, hN9.2.1, hN9.2.2.1, hN9.2.2.2, hG9⟩, by first | omega | (simp; omega), fun j hj => ?_⟩, by omega, hc9, by first | omega | (simp; omega), by first | omega | (simp; omega)⟩
  by_cases z : j < ls.length
  · by_cases y : j = i
    · rw [y, hend]
      exact ⟨hok.1, hok.2.1, hok.2.2.1, hok.2.2.2.1, fun d hd => by cases hd; exact htd⟩
    · rw [hold j z y]; exact hlok j z
  · simp at hj
    rcases (show j = ls.length ∨ j = ls.length + 1 by omega) with rfl | rfl
    · rw [hT2]; exact ⟨by show b + 1 ≤ (ln_at ls i).2.1; omega, by show (ln_at ls i).2.1 < _; omega, hok.2.2.1, hok.2.2.2.1, fun d hd => by cases hd⟩
    · rw [hT3]; exact ⟨by show max (ln_at ls i).1 a ≤ min (ln_at ls i).2.1 b; omega, by show min (ln_at ls i).2.1 b < _; omega, ht0, htd, fun d hd => by cases hd⟩)
set_option maxRecDepth 20000 in
set_option maxHeartbeats 4000000 in
theorem c_pass_100 (g : gl_T) {S : hs_T} {n k l c4 c5 i a b td : Nat} {ow : Nat → Nat} {ls : List li_T} {la y1 y2 : List Nat} {xa xb xd : Int32} (hl : l ∈ hs_L S ∧ hs_K S l = 4) (hN : LN1 g S ow l c4 ls la) (hZ : CL g S ow 5 l 1 5 c5 ((y1 ++ i :: y2).map (fun i => la.getD i 0))) (hG : GO ls (y1 ++ i :: y2)) (hlok : ∀ j, j < ls.length → ln_ok (ln_at ls j)) (hxa : xa = nI a) (hxb : xb = nI b) (hxd : xd = nI td) (hab : a ≤ b) (ha : a < 2 ^ 31) (hb9 : b < 2 ^ 31) (hb1 : (ln_at ls i).1 ≤ b) (ha1 : a ≤ (ln_at ls i).2.1) (htd : td ≤ 100000) (hn : n + 15000 ≤ ex_NM) (hk : k + 60000 ≤ ex_KM) (hB1 : (ln_at ls i).1 < a) (hB2 : ¬ b < (ln_at ls i).2.1) {xt : Int32} (hxt : xt = -1) (hlen : ls.length + 1 ≤ 1500) : ex_M g 9 mX4_passOne [.ref l, .ref (la.getD i 0), .int xa, .int xb, .int xt, .int xd] S n k (pg g S ow l c4 c5 ls n k ((ls.set i (ln_end (ln_at ls i) td) ++ [((ln_at ls i).1, a - 1, (ln_at ls i).2.2.1, (ln_at ls i).2.2.2.1, none)]))) := by
  obtain ⟨hL4, nd4, len4, f4⟩ := id hN
  have hi : i < ls.length := ((hG.2 i).mp (by simp)).1
  have mo := CL_el hL4 (j := i) (by omega)
  obtain ⟨g0, g1, g2, g3, g4⟩ := f4 i hi
  have hok := hlok i hi
  have hok1 := hok.1
  have hok2 := hok.2.1
  have hc4b : c4 ≤ 5000 := by obtain ⟨_, _, _, w4, _⟩ := id hL4; exact w4.2.1.2
  have hfl : ∀ i, (ln_at ls i).1 ≤ (ln_at ls i).2.1 := fun i => by
    by_cases z : i < ls.length
    · exact (hlok i z).1
    · unfold ln_at; rw [List.getD_eq_getElem?_getD, List.getElem?_eq_none (by omega)]; exact Nat.le_refl _
  have hys : (y1 ++ i :: y2).length ≤ 1500 := Nat.le_trans (nd_len (GO_nd hfl hG) (fun i hi => ((hG.2 i).mp hi).1)) (by omega)
  have hplace : ∀ q, q < (y1 ++ i :: y2).length → (nI (ln_at ls ((y1 ++ i :: y2).getD q 0)).1 ≤ nI (ln_at ls i).1 ↔ q ≤ y1.length) := fun q hq => by
    have hq1 := GO_at hG hq
    have hb := (hlok _ hq1.1)
    have hb1 := hb.1
    have hb2 := hb.2.1
    rw [nI_leI (by omega) (by omega)]
    have hgi : (y1 ++ i :: y2).getD y1.length 0 = i := by rw [List.getD_eq_getElem?_getD, rp_at]; rfl
    have hpw : ∀ u v, u < v → v < (y1 ++ i :: y2).length → (ln_at ls ((y1 ++ i :: y2).getD u 0)).2.1 < (ln_at ls ((y1 ++ i :: y2).getD v 0)).1 := fun u v huv hv => by
      have w := List.pairwise_iff_getElem.mp hG.1 u v (by omega) hv huv
      rw [List.getD_eq_getElem?_getD, List.getElem?_eq_getElem (by omega), List.getD_eq_getElem?_getD, List.getElem?_eq_getElem hv]
      exact w
    have hy1 : y1.length < (y1 ++ i :: y2).length := by simp
    rcases Nat.lt_trichotomy q y1.length with z | z | z
    · have := hpw q y1.length z hy1
      rw [hgi] at this
      exact ⟨fun _ => by omega, fun _ => by omega⟩
    · rw [z, hgi]; exact ⟨fun _ => Nat.le_refl _, fun _ => Nat.le_refl _⟩
    · have := hpw y1.length q z hq
      rw [hgi] at this
      exact ⟨fun y => by omega, fun y => by omega⟩
  refine ex_enter (by decide +kernel) (Nat.le_of_ble_eq_true rfl) ?_
  show ex_W _ _ _ _ 0 [(0, .ref l), (1, .ref (la.getD i 0)), (2, .int xa), (3, .int xb), (4, .int xt), (5, .int xd)] [] _ _ _
  refine ex_aload_n dX4_passOne_0 1 rfl ?_
  refine ex_iload dX4_passOne_1 5 rfl ?_
  refine ex_putI dX4_passOne_3 fl_X4_95 (pf_X4_95 _) mo.1 mo.2 ?_
  obtain ⟨hN1, hC1⟩ := LN1_end hl hN hi hxd
  have hZ1 := CL_ck hZ ⟨hl.1, Or.inr (Or.inl hl.2)⟩ hC1 (by decide) (by decide) (by decide)
  have hl1 : l ∈ hs_L (hs_sI S (la.getD i 0) 4 xd) ∧ hs_K (hs_sI S (la.getD i 0) 4 xd) l = 4 := hl
  have mo1 : la.getD i 0 ∈ hs_L (hs_sI S (la.getD i 0) 4 xd) ∧ hs_K (hs_sI S (la.getD i 0) 4 xd) (la.getD i 0) = 5 := mo
  have e0 : hs_I (hs_sI S (la.getD i 0) 4 xd) (la.getD i 0) 0 = nI (ln_at ls i).1 := by rw [hs_I_sI, if_neg (fun z => absurd z.2 (by decide))]; exact g0
  have e1 : hs_I (hs_sI S (la.getD i 0) 4 xd) (la.getD i 0) 1 = nI (ln_at ls i).2.1 := by rw [hs_I_sI, if_neg (fun z => absurd z.2 (by decide))]; exact g1
  have e2 : hs_I (hs_sI S (la.getD i 0) 4 xd) (la.getD i 0) 2 = nI (ln_at ls i).2.2.1 := by rw [hs_I_sI, if_neg (fun z => absurd z.2 (by decide))]; exact g2
  have e3 : hs_I (hs_sI S (la.getD i 0) 4 xd) (la.getD i 0) 3 = nI (ln_at ls i).2.2.2.1 := by rw [hs_I_sI, if_neg (fun z => absurd z.2 (by decide))]; exact g3
  have hF1 : ∀ q, q < (y1 ++ i :: y2).length → hs_I (hs_sI S (la.getD i 0) 4 xd) (la.getD ((y1 ++ i :: y2).getD q 0) 0) 0 = nI (ln_at ls ((y1 ++ i :: y2).getD q 0)).1 := fun q hq => by
    rw [hs_I_sI, if_neg (fun z => absurd z.2 (by decide))]; exact (f4 _ (GO_at hG hq).1).1
  have hM1 : ∀ q, q < (y1 ++ i :: y2).length → la.getD ((y1 ++ i :: y2).getD q 0) 0 ∈ hs_L (hs_sI S (la.getD i 0) 4 xd) ∧ hs_K (hs_sI S (la.getD i 0) 4 xd) (la.getD ((y1 ++ i :: y2).getD q 0) 0) = 5 := fun q hq => CL_el hN.1 (by have := (GO_at hG hq).1; omega)
  generalize hs_sI S (la.getD i 0) 4 xd = S1 at hN1 hC1 hZ1 hl1 mo1 e0 e1 e2 e3 hF1 hM1 ⊢
  have hD1 := CK_rf ow [] [4] S1
  have ej1 : hs_I S1 (la.getD i 0) = hs_I S1 (la.getD i 0) := rfl
  refine ex_aload_n dX4_passOne_6 1 rfl ?_
  refine ex_getI dX4_passOne_7 fl_X4_67 mo1.1 mo1.2 ?_
  refine ex_iload_n dX4_passOne_10 2 rfl ?_
  refine ex_icmp_ge (tgt := 36) dX4_passOne_11 (by decide) (fun c11 => absurd c11 (fun z => by rw [e0, hxa] at z; have := (nI_leI ha (by omega)).mp z; omega)) (fun c11 => ?_)
  refine ex_aload_n dX4_passOne_14 0 rfl ?_
  refine ex_aload_n dX4_passOne_15 1 rfl ?_
  refine ex_getI dX4_passOne_16 fl_X4_67 mo1.1 mo1.2 ?_
  refine ex_iload_n dX4_passOne_19 2 rfl ?_
  refine ex_iconst (v := 1) dX4_passOne_20 (by decide) ?_
  refine ex_isub dX4_passOne_21 ?_
  refine ex_aload_n dX4_passOne_22 1 rfl ?_
  refine ex_getI dX4_passOne_23 fl_X4_64 mo1.1 mo1.2 ?_
  refine ex_aload_n dX4_passOne_26 1 rfl ?_
  refine ex_getI dX4_passOne_27 fl_X4_89 mo1.1 mo1.2 ?_
  refine ex_cVg [.int (hs_I S1 (la.getD i 0) 0), .int (xa - 1), .int (hs_I S1 (la.getD i 0) 2), .int (hs_I S1 (la.getD i 0) 3)] [] dX4_passOne_30 cV_X4_30 (c_begin g hl1 hN1 (t := ((ln_at ls i).1, a - 1, (ln_at ls i).2.2.1, (ln_at ls i).2.2.2.1, none)) (by simp at hlen ⊢; omega) (by omega) (by omega) (by rw [ej1]; exact e0) (by rw [hxa]; exact pk_sub (b := 1) (by omega)) (by rw [ej1]; exact e2) (by rw [ej1]; exact e3) rfl) hl1.1 hl1.2 rfl rfl rfl (by decide) (Nat.le_of_ble_eq_true rfl) rfl ?_ (fun E S' n' k' h => by obtain ⟨_, _, _, h1, -⟩ := h; cases h1)
  rintro v' S2 n2 k2 ⟨q1, ow2, d2, hr2, hq1, hq1_2, hC2, hN2, hc2, hnn2, hkk2⟩
  cases hr2
  have hZ2 := CL_ck hZ1 ⟨hl1.1, Or.inr (Or.inl hl1.2)⟩ hC2 (by decide) (by decide) (by decide)
  have hl2 : l ∈ hs_L S2 ∧ hs_K S2 l = 4 := ⟨(hC2.1 l hl1.1).1, (hC2.1 l hl1.1).2.1.trans hl1.2⟩
  have hD2 := CK_tr hD1 hC2
  have ej2 : hs_I S2 (la.getD i 0) = hs_I S1 (la.getD i 0) := (ck_at hD2 mo1.1 mo1.2 (by decide) (by decide)).1
  have mo2 : la.getD i 0 ∈ hs_L S2 ∧ hs_K S2 (la.getD i 0) = 5 := ⟨(hD2.1 _ mo1.1).1, (hD2.1 _ mo1.1).2.1.trans mo1.2⟩
  have hdb2 : d2 ≤ 5000 := by obtain ⟨_, _, _, w4, _⟩ := id hN2.1; exact w4.2.1.2
  show ex_W _ _ _ _ 33 [(0, .ref l), (1, .ref (la.getD i 0)), (2, .int xa), (3, .int xb), (4, .int xt), (5, .int xd)] [.ref q1] S2 n2 k2
  refine ex_goto (tgt := 37) dX4_passOne_33 (by decide) ?_
  refine ex_astore [(6, .ref q1), (0, .ref l), (1, .ref (la.getD i 0)), (2, .int xa), (3, .int xb), (4, .int xt), (5, .int xd)] dX4_passOne_37 (by decide) rfl ?_
  refine ex_aload_n dX4_passOne_39 2 rfl ?_
  refine ex_getI dX4_passOne_40 fl_X4_70 mo2.1 mo2.2 ?_
  refine ex_iload_n dX4_passOne_43 4 rfl ?_
  have ejj := ej2
  refine ex_icmp_le (tgt := 69) dX4_passOne_44 (by decide) (fun c44 => ?_) (fun c44 => absurd (by rw [ejj, e1, hxb]; exact nI_le (by omega) hb9) c44)
  refine ex_null dX4_passOne_69 ?_
  refine ex_astoreN [(7, .null), (6, .ref q1), (0, .ref l), (1, .ref (la.getD i 0)), (2, .int xa), (3, .int xb), (4, .int xt), (5, .int xd)] dX4_passOne_70 (by decide) rfl ?_
  refine ex_iload dX4_passOne_72 6 rfl ?_
  refine ex_iconst (v := (-1)) dX4_passOne_74 (by decide) ?_
  refine ex_icmp_ne (tgt := 82) dX4_passOne_75 (by decide) (fun c75 => absurd hxt c75) (fun c75 => ?_)
  refine ex_null dX4_passOne_78 ?_
  refine ex_goto (tgt := 106) dX4_passOne_79 (by decide) ?_
  refine ex_astoreN [(8, .null), (7, .null), (6, .ref q1), (0, .ref l), (1, .ref (la.getD i 0)), (2, .int xa), (3, .int xb), (4, .int xt), (5, .int xd)] dX4_passOne_106 (by decide) rfl ?_
  refine ex_aload_n dX4_passOne_108 3 rfl ?_
  refine ex_aload_n dX4_passOne_109 3 rfl ?_
  refine ex_aload_n dX4_passOne_110 4 rfl ?_
  refine ex_getI dX4_passOne_111 fl_X4_67 mo2.1 mo2.2 ?_
  refine ex_cVr [.int (hs_I S2 (la.getD i 0) 0)] [.ref l] dX4_passOne_114 cV_X4_80 (c_pag g (p := y1.length) ⟨hl2, hZ2⟩ (by rw [List.length_map]; exact hys) (by simp) (fun q hq => by
    rw [List.length_map] at hq
    rw [gz_at hq, (ck_at hD2 (hM1 q hq).1 (hM1 q hq).2 (by decide) (by decide)).1, ej2, hF1 q hq, e0]
    exact hplace q hq)) hl2.1 hl2.2 rfl rfl rfl (by decide) (Nat.le_of_ble_eq_true rfl) rfl ?_
  refine ex_aload dX4_passOne_117 2 rfl ?_
  refine ex_aloadN dX4_passOne_119 0 rfl ?_
  refine ex_aloadN dX4_passOne_121 1 rfl ?_
  have hZm2 : CL g S2 ow2 5 l 1 5 c5 (y1.map (fun i => la.getD i 0) ++ la.getD i 0 :: y2.map (fun i => la.getD i 0)) := by have z := hZ2; rw [List.map_append, List.map_cons] at z; exact z
  have hc5b : c5 ≤ 5000 := by obtain ⟨_, _, _, w5, _⟩ := id hZ; exact w5.2.1.2
  refine ex_cVg [.int (nI y1.length), .ref q1, .null, .null] [] dX4_passOne_123 cV_X4_106 (c_repl_100 g (l1 := y1.map (fun i => la.getD i 0)) (z := la.getD i 0) (l2 := y2.map (fun i => la.getD i 0)) ⟨hl2, hZm2⟩ (by rw [List.length_map]) (by simp at hys ⊢; omega) (by omega) (by omega) hq1_2) hl2.1 hl2.2 rfl rfl rfl (by decide) (Nat.le_of_ble_eq_true rfl) rfl ?_ (fun E S' n' k' h => by obtain ⟨h1, -⟩ := h; cases h1)
  rintro v' S9 n9 k9 ⟨hr9, ow9, c9, hC9, hL9, hc9, hnn9, hkk9⟩
  cases hr9
  show ex_W _ _ _ _ 126 [(8, .null), (7, .null), (6, .ref q1), (0, .ref l), (1, .ref (la.getD i 0)), (2, .int xa), (3, .int xb), (4, .int xt), (5, .int xd)] [] S9 n9 k9
  exact ex_vrt rfl dX4_passOne_126 (by
  have hT1 : ln_at ((ls.set i (ln_end (ln_at ls i) td) ++ [((ln_at ls i).1, a - 1, (ln_at ls i).2.2.1, (ln_at ls i).2.2.2.1, none)])) (ls.length) = ((ln_at ls i).1, a - 1, (ln_at ls i).2.2.1, (ln_at ls i).2.2.2.1, none) := by rw [ln_app, if_pos (by first | omega | (simp; done) | (simp; omega))]
  have hold : ∀ j, j < ls.length → j ≠ i → ln_at ((ls.set i (ln_end (ln_at ls i) td) ++ [((ln_at ls i).1, a - 1, (ln_at ls i).2.2.1, (ln_at ls i).2.2.2.1, none)])) j = ln_at ls j := fun j hj hne => by rw [ln_app, if_neg (by first | omega | (simp; done) | (simp; omega))]; rw [ln_set hi, if_neg hne]
  have hend : ln_at ((ls.set i (ln_end (ln_at ls i) td) ++ [((ln_at ls i).1, a - 1, (ln_at ls i).2.2.1, (ln_at ls i).2.2.2.1, none)])) i = ln_end (ln_at ls i) td := by rw [ln_app, if_neg (by first | omega | (simp; done) | (simp; omega))]; rw [ln_set hi, if_pos rfl]
  have hG9 : GO ((ls.set i (ln_end (ln_at ls i) td) ++ [((ln_at ls i).1, a - 1, (ln_at ls i).2.2.1, (ln_at ls i).2.2.2.1, none)])) (y1 ++ [ls.length] ++ y2) := GO_rep hG hfl (by simp; try omega) hold (by rw [hend]; simp [ln_end]) (by simp) (fun j hj => by
    simp only [List.mem_cons, List.mem_singleton, List.not_mem_nil, or_false] at hj
    rcases hj with rfl
    · rw [hT1]; simp only []; omega) (fun j => by
    simp only [List.mem_cons, List.mem_singleton, List.not_mem_nil, or_false]
    constructor
    · intro z
      rcases z with rfl
      · exact ⟨by omega, by simp; try omega, by rw [hT1]⟩
    · intro z
      have z2 := z.2.1
      simp at z2
      omega)
  have hQ1 : ((la ++ [q1])).getD (ls.length) 0 = q1 := by rw [gd_app, if_pos (by first | omega | (simp; done) | (simp; omega))]
  have hqold : ∀ j, j < ls.length → ((la ++ [q1])).getD j 0 = la.getD j 0 := fun j hj => by rw [gd_app, if_neg (by first | omega | (simp; done) | (simp; omega))]
  have hmap : (y1 ++ [ls.length] ++ y2).map (fun i => ((la ++ [q1])).getD i 0) = y1.map (fun i => la.getD i 0) ++ q1 :: y2.map (fun i => la.getD i 0) := by
    have hm1 : y1.map (fun i => ((la ++ [q1])).getD i 0) = y1.map (fun i => la.getD i 0) := List.map_congr_left (fun a ha => hqold a ((hG.2 a).mp (by simp [ha])).1)
    have hm2 : y2.map (fun i => ((la ++ [q1])).getD i 0) = y2.map (fun i => la.getD i 0) := List.map_congr_left (fun a ha => hqold a ((hG.2 a).mp (by simp [ha])).1)
    rw [List.map_append, List.map_append, hm1, hm2, List.append_assoc]
    congr 1
    simp only [List.map_cons, List.map_nil, List.cons_append, List.nil_append, hQ1]
  have hN9 := LN1_ck hl2 hN2 hC9 (by decide) (by decide) (by decide) (by decide)
  refine ⟨rfl, ow9, d2, c9, y1 ++ [ls.length] ++ y2, CK_tr (CK_tr (CK_mono hC1 (by decide) (by decide)) (CK_mono hD2 (by decide) (by decide))) (CK_mono hC9 (by decide) (by decide)), ⟨⟨(hC9.1 l hl2.1).1, (hC9.1 l hl2.1).2.1.trans hl2.2⟩, ⟨(la ++ [q1]), hN9.1, by rw [hmap]; exact hL9, hN9.2.1, hN9.2.2.1, hN9.2.2.2, hG9⟩, by first | omega | (simp; omega), fun j hj => ?_⟩, by omega, hc9, by first | omega | (simp; omega), by first | omega | (simp; omega)⟩
  by_cases z : j < ls.length
  · by_cases y : j = i
    · rw [y, hend]
      exact ⟨hok.1, hok.2.1, hok.2.2.1, hok.2.2.2.1, fun d hd => by cases hd; exact htd⟩
    · rw [hold j z y]; exact hlok j z
  · simp at hj
    rcases (show j = ls.length by omega) with rfl
    · rw [hT1]; exact ⟨by show (ln_at ls i).1 ≤ a - 1; omega, by show a - 1 < _; omega, hok.2.2.1, hok.2.2.2.1, fun d hd => by cases hd⟩)
set_option maxRecDepth 20000 in
set_option maxHeartbeats 4000000 in
theorem c_pass_101 (g : gl_T) {S : hs_T} {n k l c4 c5 i a b td : Nat} {ow : Nat → Nat} {ls : List li_T} {la y1 y2 : List Nat} {xa xb xd : Int32} (hl : l ∈ hs_L S ∧ hs_K S l = 4) (hN : LN1 g S ow l c4 ls la) (hZ : CL g S ow 5 l 1 5 c5 ((y1 ++ i :: y2).map (fun i => la.getD i 0))) (hG : GO ls (y1 ++ i :: y2)) (hlok : ∀ j, j < ls.length → ln_ok (ln_at ls j)) (hxa : xa = nI a) (hxb : xb = nI b) (hxd : xd = nI td) (hab : a ≤ b) (ha : a < 2 ^ 31) (hb9 : b < 2 ^ 31) (hb1 : (ln_at ls i).1 ≤ b) (ha1 : a ≤ (ln_at ls i).2.1) (htd : td ≤ 100000) (hn : n + 15000 ≤ ex_NM) (hk : k + 60000 ≤ ex_KM) (hB1 : (ln_at ls i).1 < a) (hB2 : ¬ b < (ln_at ls i).2.1) {t0 : Nat} (ht0 : t0 < 60) {xt : Int32} (hxt : xt = nI t0) (hlen : ls.length + 2 ≤ 1500) : ex_M g 9 mX4_passOne [.ref l, .ref (la.getD i 0), .int xa, .int xb, .int xt, .int xd] S n k (pg g S ow l c4 c5 ls n k (((ls.set i (ln_end (ln_at ls i) td) ++ [((ln_at ls i).1, a - 1, (ln_at ls i).2.2.1, (ln_at ls i).2.2.2.1, none)]) ++ [(max (ln_at ls i).1 a, min (ln_at ls i).2.1 b, t0, td, none)]))) := by
  obtain ⟨hL4, nd4, len4, f4⟩ := id hN
  have hi : i < ls.length := ((hG.2 i).mp (by simp)).1
  have mo := CL_el hL4 (j := i) (by omega)
  obtain ⟨g0, g1, g2, g3, g4⟩ := f4 i hi
  have hok := hlok i hi
  have hok1 := hok.1
  have hok2 := hok.2.1
  have hc4b : c4 ≤ 5000 := by obtain ⟨_, _, _, w4, _⟩ := id hL4; exact w4.2.1.2
  have hfl : ∀ i, (ln_at ls i).1 ≤ (ln_at ls i).2.1 := fun i => by
    by_cases z : i < ls.length
    · exact (hlok i z).1
    · unfold ln_at; rw [List.getD_eq_getElem?_getD, List.getElem?_eq_none (by omega)]; exact Nat.le_refl _
  have hys : (y1 ++ i :: y2).length ≤ 1500 := Nat.le_trans (nd_len (GO_nd hfl hG) (fun i hi => ((hG.2 i).mp hi).1)) (by omega)
  have hplace : ∀ q, q < (y1 ++ i :: y2).length → (nI (ln_at ls ((y1 ++ i :: y2).getD q 0)).1 ≤ nI (ln_at ls i).1 ↔ q ≤ y1.length) := fun q hq => by
    have hq1 := GO_at hG hq
    have hb := (hlok _ hq1.1)
    have hb1 := hb.1
    have hb2 := hb.2.1
    rw [nI_leI (by omega) (by omega)]
    have hgi : (y1 ++ i :: y2).getD y1.length 0 = i := by rw [List.getD_eq_getElem?_getD, rp_at]; rfl
    have hpw : ∀ u v, u < v → v < (y1 ++ i :: y2).length → (ln_at ls ((y1 ++ i :: y2).getD u 0)).2.1 < (ln_at ls ((y1 ++ i :: y2).getD v 0)).1 := fun u v huv hv => by
      have w := List.pairwise_iff_getElem.mp hG.1 u v (by omega) hv huv
      rw [List.getD_eq_getElem?_getD, List.getElem?_eq_getElem (by omega), List.getD_eq_getElem?_getD, List.getElem?_eq_getElem hv]
      exact w
    have hy1 : y1.length < (y1 ++ i :: y2).length := by simp
    rcases Nat.lt_trichotomy q y1.length with z | z | z
    · have := hpw q y1.length z hy1
      rw [hgi] at this
      exact ⟨fun _ => by omega, fun _ => by omega⟩
    · rw [z, hgi]; exact ⟨fun _ => Nat.le_refl _, fun _ => Nat.le_refl _⟩
    · have := hpw y1.length q z hq
      rw [hgi] at this
      exact ⟨fun y => by omega, fun y => by omega⟩
  refine ex_enter (by decide +kernel) (Nat.le_of_ble_eq_true rfl) ?_
  show ex_W _ _ _ _ 0 [(0, .ref l), (1, .ref (la.getD i 0)), (2, .int xa), (3, .int xb), (4, .int xt), (5, .int xd)] [] _ _ _
  refine ex_aload_n dX4_passOne_0 1 rfl ?_
  refine ex_iload dX4_passOne_1 5 rfl ?_
  refine ex_putI dX4_passOne_3 fl_X4_95 (pf_X4_95 _) mo.1 mo.2 ?_
  obtain ⟨hN1, hC1⟩ := LN1_end hl hN hi hxd
  have hZ1 := CL_ck hZ ⟨hl.1, Or.inr (Or.inl hl.2)⟩ hC1 (by decide) (by decide) (by decide)
  have hl1 : l ∈ hs_L (hs_sI S (la.getD i 0) 4 xd) ∧ hs_K (hs_sI S (la.getD i 0) 4 xd) l = 4 := hl
  have mo1 : la.getD i 0 ∈ hs_L (hs_sI S (la.getD i 0) 4 xd) ∧ hs_K (hs_sI S (la.getD i 0) 4 xd) (la.getD i 0) = 5 := mo
  have e0 : hs_I (hs_sI S (la.getD i 0) 4 xd) (la.getD i 0) 0 = nI (ln_at ls i).1 := by rw [hs_I_sI, if_neg (fun z => absurd z.2 (by decide))]; exact g0
  have e1 : hs_I (hs_sI S (la.getD i 0) 4 xd) (la.getD i 0) 1 = nI (ln_at ls i).2.1 := by rw [hs_I_sI, if_neg (fun z => absurd z.2 (by decide))]; exact g1
  have e2 : hs_I (hs_sI S (la.getD i 0) 4 xd) (la.getD i 0) 2 = nI (ln_at ls i).2.2.1 := by rw [hs_I_sI, if_neg (fun z => absurd z.2 (by decide))]; exact g2
  have e3 : hs_I (hs_sI S (la.getD i 0) 4 xd) (la.getD i 0) 3 = nI (ln_at ls i).2.2.2.1 := by rw [hs_I_sI, if_neg (fun z => absurd z.2 (by decide))]; exact g3
  have hF1 : ∀ q, q < (y1 ++ i :: y2).length → hs_I (hs_sI S (la.getD i 0) 4 xd) (la.getD ((y1 ++ i :: y2).getD q 0) 0) 0 = nI (ln_at ls ((y1 ++ i :: y2).getD q 0)).1 := fun q hq => by
    rw [hs_I_sI, if_neg (fun z => absurd z.2 (by decide))]; exact (f4 _ (GO_at hG hq).1).1
  have hM1 : ∀ q, q < (y1 ++ i :: y2).length → la.getD ((y1 ++ i :: y2).getD q 0) 0 ∈ hs_L (hs_sI S (la.getD i 0) 4 xd) ∧ hs_K (hs_sI S (la.getD i 0) 4 xd) (la.getD ((y1 ++ i :: y2).getD q 0) 0) = 5 := fun q hq => CL_el hN.1 (by have := (GO_at hG hq).1; omega)
  generalize hs_sI S (la.getD i 0) 4 xd = S1 at hN1 hC1 hZ1 hl1 mo1 e0 e1 e2 e3 hF1 hM1 ⊢
  have hD1 := CK_rf ow [] [4] S1
  have ej1 : hs_I S1 (la.getD i 0) = hs_I S1 (la.getD i 0) := rfl
  refine ex_aload_n dX4_passOne_6 1 rfl ?_
  refine ex_getI dX4_passOne_7 fl_X4_67 mo1.1 mo1.2 ?_
  refine ex_iload_n dX4_passOne_10 2 rfl ?_
  refine ex_icmp_ge (tgt := 36) dX4_passOne_11 (by decide) (fun c11 => absurd c11 (fun z => by rw [e0, hxa] at z; have := (nI_leI ha (by omega)).mp z; omega)) (fun c11 => ?_)
  refine ex_aload_n dX4_passOne_14 0 rfl ?_
  refine ex_aload_n dX4_passOne_15 1 rfl ?_
  refine ex_getI dX4_passOne_16 fl_X4_67 mo1.1 mo1.2 ?_
  refine ex_iload_n dX4_passOne_19 2 rfl ?_
  refine ex_iconst (v := 1) dX4_passOne_20 (by decide) ?_
  refine ex_isub dX4_passOne_21 ?_
  refine ex_aload_n dX4_passOne_22 1 rfl ?_
  refine ex_getI dX4_passOne_23 fl_X4_64 mo1.1 mo1.2 ?_
  refine ex_aload_n dX4_passOne_26 1 rfl ?_
  refine ex_getI dX4_passOne_27 fl_X4_89 mo1.1 mo1.2 ?_
  refine ex_cVg [.int (hs_I S1 (la.getD i 0) 0), .int (xa - 1), .int (hs_I S1 (la.getD i 0) 2), .int (hs_I S1 (la.getD i 0) 3)] [] dX4_passOne_30 cV_X4_30 (c_begin g hl1 hN1 (t := ((ln_at ls i).1, a - 1, (ln_at ls i).2.2.1, (ln_at ls i).2.2.2.1, none)) (by simp at hlen ⊢; omega) (by omega) (by omega) (by rw [ej1]; exact e0) (by rw [hxa]; exact pk_sub (b := 1) (by omega)) (by rw [ej1]; exact e2) (by rw [ej1]; exact e3) rfl) hl1.1 hl1.2 rfl rfl rfl (by decide) (Nat.le_of_ble_eq_true rfl) rfl ?_ (fun E S' n' k' h => by obtain ⟨_, _, _, h1, -⟩ := h; cases h1)
  rintro v' S2 n2 k2 ⟨q1, ow2, d2, hr2, hq1, hq1_2, hC2, hN2, hc2, hnn2, hkk2⟩
  cases hr2
  have hZ2 := CL_ck hZ1 ⟨hl1.1, Or.inr (Or.inl hl1.2)⟩ hC2 (by decide) (by decide) (by decide)
  have hl2 : l ∈ hs_L S2 ∧ hs_K S2 l = 4 := ⟨(hC2.1 l hl1.1).1, (hC2.1 l hl1.1).2.1.trans hl1.2⟩
  have hD2 := CK_tr hD1 hC2
  have ej2 : hs_I S2 (la.getD i 0) = hs_I S1 (la.getD i 0) := (ck_at hD2 mo1.1 mo1.2 (by decide) (by decide)).1
  have mo2 : la.getD i 0 ∈ hs_L S2 ∧ hs_K S2 (la.getD i 0) = 5 := ⟨(hD2.1 _ mo1.1).1, (hD2.1 _ mo1.1).2.1.trans mo1.2⟩
  have hdb2 : d2 ≤ 5000 := by obtain ⟨_, _, _, w4, _⟩ := id hN2.1; exact w4.2.1.2
  show ex_W _ _ _ _ 33 [(0, .ref l), (1, .ref (la.getD i 0)), (2, .int xa), (3, .int xb), (4, .int xt), (5, .int xd)] [.ref q1] S2 n2 k2
  refine ex_goto (tgt := 37) dX4_passOne_33 (by decide) ?_
  refine ex_astore [(6, .ref q1), (0, .ref l), (1, .ref (la.getD i 0)), (2, .int xa), (3, .int xb), (4, .int xt), (5, .int xd)] dX4_passOne_37 (by decide) rfl ?_
  refine ex_aload_n dX4_passOne_39 2 rfl ?_
  refine ex_getI dX4_passOne_40 fl_X4_70 mo2.1 mo2.2 ?_
  refine ex_iload_n dX4_passOne_43 4 rfl ?_
  have ejj := ej2
  refine ex_icmp_le (tgt := 69) dX4_passOne_44 (by decide) (fun c44 => ?_) (fun c44 => absurd (by rw [ejj, e1, hxb]; exact nI_le (by omega) hb9) c44)
  refine ex_null dX4_passOne_69 ?_
  refine ex_astoreN [(7, .null), (6, .ref q1), (0, .ref l), (1, .ref (la.getD i 0)), (2, .int xa), (3, .int xb), (4, .int xt), (5, .int xd)] dX4_passOne_70 (by decide) rfl ?_
  refine ex_iload dX4_passOne_72 6 rfl ?_
  refine ex_iconst (v := (-1)) dX4_passOne_74 (by decide) ?_
  refine ex_icmp_ne (tgt := 82) dX4_passOne_75 (by decide) (fun c75 => ?_) (fun c75 => absurd c75 (by rw [hxt]; exact fun z => absurd (congrArg Int32.toInt z) (by rw [nI_toInt (by omega), i_m1]; omega)))
  refine ex_aload_n dX4_passOne_82 2 rfl ?_
  refine ex_aload_n dX4_passOne_83 3 rfl ?_
  refine ex_getI dX4_passOne_84 fl_X4_67 mo2.1 mo2.2 ?_
  refine ex_iload_n dX4_passOne_87 4 rfl ?_
  refine ex_mmax dX4_passOne_88 ml_X4_98 mw_max (by decide) (Nat.le_of_ble_eq_true rfl) ?_
  refine ex_aload_n dX4_passOne_91 3 rfl ?_
  refine ex_getI dX4_passOne_92 fl_X4_70 mo2.1 mo2.2 ?_
  refine ex_iload_n dX4_passOne_95 5 rfl ?_
  refine ex_mmin dX4_passOne_96 ml_X4_103 mw_min (by decide) (Nat.le_of_ble_eq_true rfl) ?_
  refine ex_iload dX4_passOne_99 6 rfl ?_
  refine ex_iload dX4_passOne_101 7 rfl ?_
  refine ex_cVg [.int ((if (hs_I S2 (la.getD i 0) 0) < xa then xa else hs_I S2 (la.getD i 0) 0)), .int ((if xb < (hs_I S2 (la.getD i 0) 1) then xb else hs_I S2 (la.getD i 0) 1)), .int xt, .int xd] [] dX4_passOne_103 cV_X4_30 (c_begin g hl2 hN2 (t := (max (ln_at ls i).1 a, min (ln_at ls i).2.1 b, t0, td, none)) (by simp at hlen ⊢; omega) (by omega) (by omega) (by
    rw [ej2, e0, hxa]
    show _ = nI (max (ln_at ls i).1 a)
    split
    · next z => have := (nI_ltI (by omega) (by omega)).mp z; congr 1; omega
    · next z => have : ¬ (ln_at ls i).1 < a := fun y => z (nI_lt y (by omega)); congr 1; omega) (by
    rw [ej2, e1, hxb]
    show _ = nI (min (ln_at ls i).2.1 b)
    split
    · next z => have := (nI_ltI (by omega) (by omega)).mp z; congr 1; omega
    · next z => have : ¬ b < (ln_at ls i).2.1 := fun y => z (nI_lt y (by omega)); congr 1; omega) hxt hxd rfl) hl2.1 hl2.2 rfl rfl rfl (by decide) (Nat.le_of_ble_eq_true rfl) rfl ?_ (fun E S' n' k' h => by obtain ⟨_, _, _, h1, -⟩ := h; cases h1)
  rintro v' S3 n3 k3 ⟨q3, ow3, d3, hr3, hq3, hq3_3, hC3, hN3, hc3, hnn3, hkk3⟩
  cases hr3
  have hZ3 := CL_ck hZ2 ⟨hl2.1, Or.inr (Or.inl hl2.2)⟩ hC3 (by decide) (by decide) (by decide)
  have hl3 : l ∈ hs_L S3 ∧ hs_K S3 l = 4 := ⟨(hC3.1 l hl2.1).1, (hC3.1 l hl2.1).2.1.trans hl2.2⟩
  have hD3 := CK_tr hD2 hC3
  have ej3 : hs_I S3 (la.getD i 0) = hs_I S1 (la.getD i 0) := (ck_at hD3 mo1.1 mo1.2 (by decide) (by decide)).1
  have mo3 : la.getD i 0 ∈ hs_L S3 ∧ hs_K S3 (la.getD i 0) = 5 := ⟨(hD3.1 _ mo1.1).1, (hD3.1 _ mo1.1).2.1.trans mo1.2⟩
  have hdb3 : d3 ≤ 5000 := by obtain ⟨_, _, _, w4, _⟩ := id hN3.1; exact w4.2.1.2
  have hq1_3 : q1 ∈ hs_L S3 ∧ hs_K S3 q1 = 5 := ⟨(hC3.1 _ hq1_2.1).1, (hC3.1 _ hq1_2.1).2.1.trans hq1_2.2⟩
  show ex_W _ _ _ _ 106 [(7, .null), (6, .ref q1), (0, .ref l), (1, .ref (la.getD i 0)), (2, .int xa), (3, .int xb), (4, .int xt), (5, .int xd)] [.ref q3] S3 n3 k3
  refine ex_astore [(8, .ref q3), (7, .null), (6, .ref q1), (0, .ref l), (1, .ref (la.getD i 0)), (2, .int xa), (3, .int xb), (4, .int xt), (5, .int xd)] dX4_passOne_106 (by decide) rfl ?_
  refine ex_aload_n dX4_passOne_108 3 rfl ?_
  refine ex_aload_n dX4_passOne_109 3 rfl ?_
  refine ex_aload_n dX4_passOne_110 4 rfl ?_
  refine ex_getI dX4_passOne_111 fl_X4_67 mo3.1 mo3.2 ?_
  refine ex_cVr [.int (hs_I S3 (la.getD i 0) 0)] [.ref l] dX4_passOne_114 cV_X4_80 (c_pag g (p := y1.length) ⟨hl3, hZ3⟩ (by rw [List.length_map]; exact hys) (by simp) (fun q hq => by
    rw [List.length_map] at hq
    rw [gz_at hq, (ck_at hD3 (hM1 q hq).1 (hM1 q hq).2 (by decide) (by decide)).1, ej3, hF1 q hq, e0]
    exact hplace q hq)) hl3.1 hl3.2 rfl rfl rfl (by decide) (Nat.le_of_ble_eq_true rfl) rfl ?_
  refine ex_aload dX4_passOne_117 2 rfl ?_
  refine ex_aload dX4_passOne_119 0 rfl ?_
  refine ex_aloadN dX4_passOne_121 1 rfl ?_
  have hZm3 : CL g S3 ow3 5 l 1 5 c5 (y1.map (fun i => la.getD i 0) ++ la.getD i 0 :: y2.map (fun i => la.getD i 0)) := by have z := hZ3; rw [List.map_append, List.map_cons] at z; exact z
  have hc5b : c5 ≤ 5000 := by obtain ⟨_, _, _, w5, _⟩ := id hZ; exact w5.2.1.2
  refine ex_cVg [.int (nI y1.length), .ref q1, .ref q3, .null] [] dX4_passOne_123 cV_X4_106 (c_repl_110 g (l1 := y1.map (fun i => la.getD i 0)) (z := la.getD i 0) (l2 := y2.map (fun i => la.getD i 0)) ⟨hl3, hZm3⟩ (by rw [List.length_map]) (by simp at hys ⊢; omega) (by omega) (by omega) hq1_3 hq3_3) hl3.1 hl3.2 rfl rfl rfl (by decide) (Nat.le_of_ble_eq_true rfl) rfl ?_ (fun E S' n' k' h => by obtain ⟨h1, -⟩ := h; cases h1)
  rintro v' S9 n9 k9 ⟨hr9, ow9, c9, hC9, hL9, hc9, hnn9, hkk9⟩
  cases hr9
  show ex_W _ _ _ _ 126 [(8, .ref q3), (7, .null), (6, .ref q1), (0, .ref l), (1, .ref (la.getD i 0)), (2, .int xa), (3, .int xb), (4, .int xt), (5, .int xd)] [] S9 n9 k9
  exact ex_vrt rfl dX4_passOne_126 (by
  have hT1 : ln_at (((ls.set i (ln_end (ln_at ls i) td) ++ [((ln_at ls i).1, a - 1, (ln_at ls i).2.2.1, (ln_at ls i).2.2.2.1, none)]) ++ [(max (ln_at ls i).1 a, min (ln_at ls i).2.1 b, t0, td, none)])) (ls.length) = ((ln_at ls i).1, a - 1, (ln_at ls i).2.2.1, (ln_at ls i).2.2.2.1, none) := by rw [ln_app, if_neg (by first | omega | (simp; done) | (simp; omega))]; rw [ln_app, if_pos (by first | omega | (simp; done) | (simp; omega))]
  have hT3 : ln_at (((ls.set i (ln_end (ln_at ls i) td) ++ [((ln_at ls i).1, a - 1, (ln_at ls i).2.2.1, (ln_at ls i).2.2.2.1, none)]) ++ [(max (ln_at ls i).1 a, min (ln_at ls i).2.1 b, t0, td, none)])) (ls.length + 1) = (max (ln_at ls i).1 a, min (ln_at ls i).2.1 b, t0, td, none) := by rw [ln_app, if_pos (by first | omega | (simp; done) | (simp; omega))]
  have hold : ∀ j, j < ls.length → j ≠ i → ln_at (((ls.set i (ln_end (ln_at ls i) td) ++ [((ln_at ls i).1, a - 1, (ln_at ls i).2.2.1, (ln_at ls i).2.2.2.1, none)]) ++ [(max (ln_at ls i).1 a, min (ln_at ls i).2.1 b, t0, td, none)])) j = ln_at ls j := fun j hj hne => by rw [ln_app, if_neg (by first | omega | (simp; done) | (simp; omega))]; rw [ln_app, if_neg (by first | omega | (simp; done) | (simp; omega))]; rw [ln_set hi, if_neg hne]
  have hend : ln_at (((ls.set i (ln_end (ln_at ls i) td) ++ [((ln_at ls i).1, a - 1, (ln_at ls i).2.2.1, (ln_at ls i).2.2.2.1, none)]) ++ [(max (ln_at ls i).1 a, min (ln_at ls i).2.1 b, t0, td, none)])) i = ln_end (ln_at ls i) td := by rw [ln_app, if_neg (by first | omega | (simp; done) | (simp; omega))]; rw [ln_app, if_neg (by first | omega | (simp; done) | (simp; omega))]; rw [ln_set hi, if_pos rfl]
  have hG9 : GO (((ls.set i (ln_end (ln_at ls i) td) ++ [((ln_at ls i).1, a - 1, (ln_at ls i).2.2.1, (ln_at ls i).2.2.2.1, none)]) ++ [(max (ln_at ls i).1 a, min (ln_at ls i).2.1 b, t0, td, none)])) (y1 ++ [ls.length, ls.length + 1] ++ y2) := GO_rep hG hfl (by simp; try omega) hold (by rw [hend]; simp [ln_end]) (by simp only [bf, List.pairwise_cons, List.mem_singleton, forall_eq, List.not_mem_nil, false_implies, implies_true, List.Pairwise.nil, and_true]; rw [hT1, hT3]; simp only []; omega) (fun j hj => by
    simp only [List.mem_cons, List.mem_singleton, List.not_mem_nil, or_false] at hj
    rcases hj with rfl | rfl
    · rw [hT1]; simp only []; omega
    · rw [hT3]; simp only []; omega) (fun j => by
    simp only [List.mem_cons, List.mem_singleton, List.not_mem_nil, or_false]
    constructor
    · intro z
      rcases z with rfl | rfl
      · exact ⟨by omega, by simp; try omega, by rw [hT1]⟩
      · exact ⟨by omega, by simp; try omega, by rw [hT3]⟩
    · intro z
      have z2 := z.2.1
      simp at z2
      omega)
  have hQ1 : (((la ++ [q1]) ++ [q3])).getD (ls.length) 0 = q1 := by rw [gd_app, if_neg (by first | omega | (simp; done) | (simp; omega))]; rw [gd_app, if_pos (by first | omega | (simp; done) | (simp; omega))]
  have hQ3 : (((la ++ [q1]) ++ [q3])).getD (ls.length + 1) 0 = q3 := by rw [gd_app, if_pos (by first | omega | (simp; done) | (simp; omega))]
  have hqold : ∀ j, j < ls.length → (((la ++ [q1]) ++ [q3])).getD j 0 = la.getD j 0 := fun j hj => by rw [gd_app, if_neg (by first | omega | (simp; done) | (simp; omega))]; rw [gd_app, if_neg (by first | omega | (simp; done) | (simp; omega))]
  have hmap : (y1 ++ [ls.length, ls.length + 1] ++ y2).map (fun i => (((la ++ [q1]) ++ [q3])).getD i 0) = y1.map (fun i => la.getD i 0) ++ q1 :: q3 :: y2.map (fun i => la.getD i 0) := by
    have hm1 : y1.map (fun i => (((la ++ [q1]) ++ [q3])).getD i 0) = y1.map (fun i => la.getD i 0) := List.map_congr_left (fun a ha => hqold a ((hG.2 a).mp (by simp [ha])).1)
    have hm2 : y2.map (fun i => (((la ++ [q1]) ++ [q3])).getD i 0) = y2.map (fun i => la.getD i 0) := List.map_congr_left (fun a ha => hqold a ((hG.2 a).mp (by simp [ha])).1)
    rw [List.map_append, List.map_append, hm1, hm2, List.append_assoc]
    congr 1
    simp only [List.map_cons, List.map_nil, List.cons_append, List.nil_append, hQ1, hQ3]
  have hN9 := LN1_ck hl3 hN3 hC9 (by decide) (by decide) (by decide) (by decide)
  refine ⟨rfl, ow9, d3, c9, y1 ++ [ls.length, ls.length + 1] ++ y2, CK_tr (CK_tr (CK_mono hC1 (by decide) (by decide)) (CK_mono hD3 (by decide) (by decide))) (CK_mono hC9 (by decide) (by decide)), ⟨⟨(hC9.1 l hl3.1).1, (hC9.1 l hl3.1).2.1.trans hl3.2⟩, ⟨((la ++ [q1]) ++ [q3]), hN9.1, by rw [hmap]; exact hL9, hN9.2.1, hN9.2.2.1, hN9.2.2.2, hG9⟩, by first | omega | (simp; omega), fun j hj => ?_⟩, by omega, hc9, by first | omega | (simp; omega), by first | omega | (simp; omega)⟩
  by_cases z : j < ls.length
  · by_cases y : j = i
    · rw [y, hend]
      exact ⟨hok.1, hok.2.1, hok.2.2.1, hok.2.2.2.1, fun d hd => by cases hd; exact htd⟩
    · rw [hold j z y]; exact hlok j z
  · simp at hj
    rcases (show j = ls.length ∨ j = ls.length + 1 by omega) with rfl | rfl
    · rw [hT1]; exact ⟨by show (ln_at ls i).1 ≤ a - 1; omega, by show a - 1 < _; omega, hok.2.2.1, hok.2.2.2.1, fun d hd => by cases hd⟩
    · rw [hT3]; exact ⟨by show max (ln_at ls i).1 a ≤ min (ln_at ls i).2.1 b; omega, by show min (ln_at ls i).2.1 b < _; omega, ht0, htd, fun d hd => by cases hd⟩)
set_option maxRecDepth 20000 in
set_option maxHeartbeats 4000000 in
theorem c_pass_110 (g : gl_T) {S : hs_T} {n k l c4 c5 i a b td : Nat} {ow : Nat → Nat} {ls : List li_T} {la y1 y2 : List Nat} {xa xb xd : Int32} (hl : l ∈ hs_L S ∧ hs_K S l = 4) (hN : LN1 g S ow l c4 ls la) (hZ : CL g S ow 5 l 1 5 c5 ((y1 ++ i :: y2).map (fun i => la.getD i 0))) (hG : GO ls (y1 ++ i :: y2)) (hlok : ∀ j, j < ls.length → ln_ok (ln_at ls j)) (hxa : xa = nI a) (hxb : xb = nI b) (hxd : xd = nI td) (hab : a ≤ b) (ha : a < 2 ^ 31) (hb9 : b < 2 ^ 31) (hb1 : (ln_at ls i).1 ≤ b) (ha1 : a ≤ (ln_at ls i).2.1) (htd : td ≤ 100000) (hn : n + 15000 ≤ ex_NM) (hk : k + 60000 ≤ ex_KM) (hB1 : (ln_at ls i).1 < a) (hB2 : b < (ln_at ls i).2.1) {xt : Int32} (hxt : xt = -1) (hlen : ls.length + 2 ≤ 1500) : ex_M g 9 mX4_passOne [.ref l, .ref (la.getD i 0), .int xa, .int xb, .int xt, .int xd] S n k (pg g S ow l c4 c5 ls n k (((ls.set i (ln_end (ln_at ls i) td) ++ [((ln_at ls i).1, a - 1, (ln_at ls i).2.2.1, (ln_at ls i).2.2.2.1, none)]) ++ [(b + 1, (ln_at ls i).2.1, (ln_at ls i).2.2.1, (ln_at ls i).2.2.2.1, none)]))) := by
  obtain ⟨hL4, nd4, len4, f4⟩ := id hN
  have hi : i < ls.length := ((hG.2 i).mp (by simp)).1
  have mo := CL_el hL4 (j := i) (by omega)
  obtain ⟨g0, g1, g2, g3, g4⟩ := f4 i hi
  have hok := hlok i hi
  have hok1 := hok.1
  have hok2 := hok.2.1
  have hc4b : c4 ≤ 5000 := by obtain ⟨_, _, _, w4, _⟩ := id hL4; exact w4.2.1.2
  have hfl : ∀ i, (ln_at ls i).1 ≤ (ln_at ls i).2.1 := fun i => by
    by_cases z : i < ls.length
    · exact (hlok i z).1
    · unfold ln_at; rw [List.getD_eq_getElem?_getD, List.getElem?_eq_none (by omega)]; exact Nat.le_refl _
  have hys : (y1 ++ i :: y2).length ≤ 1500 := Nat.le_trans (nd_len (GO_nd hfl hG) (fun i hi => ((hG.2 i).mp hi).1)) (by omega)
  have hplace : ∀ q, q < (y1 ++ i :: y2).length → (nI (ln_at ls ((y1 ++ i :: y2).getD q 0)).1 ≤ nI (ln_at ls i).1 ↔ q ≤ y1.length) := fun q hq => by
    have hq1 := GO_at hG hq
    have hb := (hlok _ hq1.1)
    have hb1 := hb.1
    have hb2 := hb.2.1
    rw [nI_leI (by omega) (by omega)]
    have hgi : (y1 ++ i :: y2).getD y1.length 0 = i := by rw [List.getD_eq_getElem?_getD, rp_at]; rfl
    have hpw : ∀ u v, u < v → v < (y1 ++ i :: y2).length → (ln_at ls ((y1 ++ i :: y2).getD u 0)).2.1 < (ln_at ls ((y1 ++ i :: y2).getD v 0)).1 := fun u v huv hv => by
      have w := List.pairwise_iff_getElem.mp hG.1 u v (by omega) hv huv
      rw [List.getD_eq_getElem?_getD, List.getElem?_eq_getElem (by omega), List.getD_eq_getElem?_getD, List.getElem?_eq_getElem hv]
      exact w
    have hy1 : y1.length < (y1 ++ i :: y2).length := by simp
    rcases Nat.lt_trichotomy q y1.length with z | z | z
    · have := hpw q y1.length z hy1
      rw [hgi] at this
      exact ⟨fun _ => by omega, fun _ => by omega⟩
    · rw [z, hgi]; exact ⟨fun _ => Nat.le_refl _, fun _ => Nat.le_refl _⟩
    · have := hpw y1.length q z hq
      rw [hgi] at this
      exact ⟨fun y => by omega, fun y => by omega⟩
  refine ex_enter (by decide +kernel) (Nat.le_of_ble_eq_true rfl) ?_
  show ex_W _ _ _ _ 0 [(0, .ref l), (1, .ref (la.getD i 0)), (2, .int xa), (3, .int xb), (4, .int xt), (5, .int xd)] [] _ _ _
  refine ex_aload_n dX4_passOne_0 1 rfl ?_
  refine ex_iload dX4_passOne_1 5 rfl ?_
  refine ex_putI dX4_passOne_3 fl_X4_95 (pf_X4_95 _) mo.1 mo.2 ?_
  obtain ⟨hN1, hC1⟩ := LN1_end hl hN hi hxd
  have hZ1 := CL_ck hZ ⟨hl.1, Or.inr (Or.inl hl.2)⟩ hC1 (by decide) (by decide) (by decide)
  have hl1 : l ∈ hs_L (hs_sI S (la.getD i 0) 4 xd) ∧ hs_K (hs_sI S (la.getD i 0) 4 xd) l = 4 := hl
  have mo1 : la.getD i 0 ∈ hs_L (hs_sI S (la.getD i 0) 4 xd) ∧ hs_K (hs_sI S (la.getD i 0) 4 xd) (la.getD i 0) = 5 := mo
  have e0 : hs_I (hs_sI S (la.getD i 0) 4 xd) (la.getD i 0) 0 = nI (ln_at ls i).1 := by rw [hs_I_sI, if_neg (fun z => absurd z.2 (by decide))]; exact g0
  have e1 : hs_I (hs_sI S (la.getD i 0) 4 xd) (la.getD i 0) 1 = nI (ln_at ls i).2.1 := by rw [hs_I_sI, if_neg (fun z => absurd z.2 (by decide))]; exact g1
  have e2 : hs_I (hs_sI S (la.getD i 0) 4 xd) (la.getD i 0) 2 = nI (ln_at ls i).2.2.1 := by rw [hs_I_sI, if_neg (fun z => absurd z.2 (by decide))]; exact g2
  have e3 : hs_I (hs_sI S (la.getD i 0) 4 xd) (la.getD i 0) 3 = nI (ln_at ls i).2.2.2.1 := by rw [hs_I_sI, if_neg (fun z => absurd z.2 (by decide))]; exact g3
  have hF1 : ∀ q, q < (y1 ++ i :: y2).length → hs_I (hs_sI S (la.getD i 0) 4 xd) (la.getD ((y1 ++ i :: y2).getD q 0) 0) 0 = nI (ln_at ls ((y1 ++ i :: y2).getD q 0)).1 := fun q hq => by
    rw [hs_I_sI, if_neg (fun z => absurd z.2 (by decide))]; exact (f4 _ (GO_at hG hq).1).1
  have hM1 : ∀ q, q < (y1 ++ i :: y2).length → la.getD ((y1 ++ i :: y2).getD q 0) 0 ∈ hs_L (hs_sI S (la.getD i 0) 4 xd) ∧ hs_K (hs_sI S (la.getD i 0) 4 xd) (la.getD ((y1 ++ i :: y2).getD q 0) 0) = 5 := fun q hq => CL_el hN.1 (by have := (GO_at hG hq).1; omega)
  generalize hs_sI S (la.getD i 0) 4 xd = S1 at hN1 hC1 hZ1 hl1 mo1 e0 e1 e2 e3 hF1 hM1 ⊢
  have hD1 := CK_rf ow [] [4] S1
  have ej1 : hs_I S1 (la.getD i 0) = hs_I S1 (la.getD i 0) := rfl
  refine ex_aload_n dX4_passOne_6 1 rfl ?_
  refine ex_getI dX4_passOne_7 fl_X4_67 mo1.1 mo1.2 ?_
  refine ex_iload_n dX4_passOne_10 2 rfl ?_
  refine ex_icmp_ge (tgt := 36) dX4_passOne_11 (by decide) (fun c11 => absurd c11 (fun z => by rw [e0, hxa] at z; have := (nI_leI ha (by omega)).mp z; omega)) (fun c11 => ?_)
  refine ex_aload_n dX4_passOne_14 0 rfl ?_
  refine ex_aload_n dX4_passOne_15 1 rfl ?_
  refine ex_getI dX4_passOne_16 fl_X4_67 mo1.1 mo1.2 ?_
  refine ex_iload_n dX4_passOne_19 2 rfl ?_
  refine ex_iconst (v := 1) dX4_passOne_20 (by decide) ?_
  refine ex_isub dX4_passOne_21 ?_
  refine ex_aload_n dX4_passOne_22 1 rfl ?_
  refine ex_getI dX4_passOne_23 fl_X4_64 mo1.1 mo1.2 ?_
  refine ex_aload_n dX4_passOne_26 1 rfl ?_
  refine ex_getI dX4_passOne_27 fl_X4_89 mo1.1 mo1.2 ?_
  refine ex_cVg [.int (hs_I S1 (la.getD i 0) 0), .int (xa - 1), .int (hs_I S1 (la.getD i 0) 2), .int (hs_I S1 (la.getD i 0) 3)] [] dX4_passOne_30 cV_X4_30 (c_begin g hl1 hN1 (t := ((ln_at ls i).1, a - 1, (ln_at ls i).2.2.1, (ln_at ls i).2.2.2.1, none)) (by simp at hlen ⊢; omega) (by omega) (by omega) (by rw [ej1]; exact e0) (by rw [hxa]; exact pk_sub (b := 1) (by omega)) (by rw [ej1]; exact e2) (by rw [ej1]; exact e3) rfl) hl1.1 hl1.2 rfl rfl rfl (by decide) (Nat.le_of_ble_eq_true rfl) rfl ?_ (fun E S' n' k' h => by obtain ⟨_, _, _, h1, -⟩ := h; cases h1)
  rintro v' S2 n2 k2 ⟨q1, ow2, d2, hr2, hq1, hq1_2, hC2, hN2, hc2, hnn2, hkk2⟩
  cases hr2
  have hZ2 := CL_ck hZ1 ⟨hl1.1, Or.inr (Or.inl hl1.2)⟩ hC2 (by decide) (by decide) (by decide)
  have hl2 : l ∈ hs_L S2 ∧ hs_K S2 l = 4 := ⟨(hC2.1 l hl1.1).1, (hC2.1 l hl1.1).2.1.trans hl1.2⟩
  have hD2 := CK_tr hD1 hC2
  have ej2 : hs_I S2 (la.getD i 0) = hs_I S1 (la.getD i 0) := (ck_at hD2 mo1.1 mo1.2 (by decide) (by decide)).1
  have mo2 : la.getD i 0 ∈ hs_L S2 ∧ hs_K S2 (la.getD i 0) = 5 := ⟨(hD2.1 _ mo1.1).1, (hD2.1 _ mo1.1).2.1.trans mo1.2⟩
  have hdb2 : d2 ≤ 5000 := by obtain ⟨_, _, _, w4, _⟩ := id hN2.1; exact w4.2.1.2
  show ex_W _ _ _ _ 33 [(0, .ref l), (1, .ref (la.getD i 0)), (2, .int xa), (3, .int xb), (4, .int xt), (5, .int xd)] [.ref q1] S2 n2 k2
  refine ex_goto (tgt := 37) dX4_passOne_33 (by decide) ?_
  refine ex_astore [(6, .ref q1), (0, .ref l), (1, .ref (la.getD i 0)), (2, .int xa), (3, .int xb), (4, .int xt), (5, .int xd)] dX4_passOne_37 (by decide) rfl ?_
  refine ex_aload_n dX4_passOne_39 2 rfl ?_
  refine ex_getI dX4_passOne_40 fl_X4_70 mo2.1 mo2.2 ?_
  refine ex_iload_n dX4_passOne_43 4 rfl ?_
  have ejj := ej2
  refine ex_icmp_le (tgt := 69) dX4_passOne_44 (by decide) (fun c44 => absurd c44 (fun z => by rw [ejj, e1, hxb] at z; have := (nI_leI (by omega) hb9).mp z; omega)) (fun c44 => ?_)
  refine ex_aload_n dX4_passOne_47 1 rfl ?_
  refine ex_iload_n dX4_passOne_48 4 rfl ?_
  refine ex_iconst (v := 1) dX4_passOne_49 (by decide) ?_
  refine ex_iadd dX4_passOne_50 ?_
  refine ex_aload_n dX4_passOne_51 2 rfl ?_
  refine ex_getI dX4_passOne_52 fl_X4_70 mo2.1 mo2.2 ?_
  refine ex_aload_n dX4_passOne_55 2 rfl ?_
  refine ex_getI dX4_passOne_56 fl_X4_64 mo2.1 mo2.2 ?_
  refine ex_aload_n dX4_passOne_59 2 rfl ?_
  refine ex_getI dX4_passOne_60 fl_X4_89 mo2.1 mo2.2 ?_
  refine ex_cVg [.int (xb + 1), .int (hs_I S2 (la.getD i 0) 1), .int (hs_I S2 (la.getD i 0) 2), .int (hs_I S2 (la.getD i 0) 3)] [] dX4_passOne_63 cV_X4_30 (c_begin g hl2 hN2 (t := (b + 1, (ln_at ls i).2.1, (ln_at ls i).2.2.1, (ln_at ls i).2.2.2.1, none)) (by simp at hlen ⊢; omega) (by omega) (by omega) (by rw [hxb]; exact nI_1 _) (by rw [ej2]; exact e1) (by rw [ej2]; exact e2) (by rw [ej2]; exact e3) rfl) hl2.1 hl2.2 rfl rfl rfl (by decide) (Nat.le_of_ble_eq_true rfl) rfl ?_ (fun E S' n' k' h => by obtain ⟨_, _, _, h1, -⟩ := h; cases h1)
  rintro v' S3 n3 k3 ⟨q2, ow3, d3, hr3, hq2, hq2_3, hC3, hN3, hc3, hnn3, hkk3⟩
  cases hr3
  have hZ3 := CL_ck hZ2 ⟨hl2.1, Or.inr (Or.inl hl2.2)⟩ hC3 (by decide) (by decide) (by decide)
  have hl3 : l ∈ hs_L S3 ∧ hs_K S3 l = 4 := ⟨(hC3.1 l hl2.1).1, (hC3.1 l hl2.1).2.1.trans hl2.2⟩
  have hD3 := CK_tr hD2 hC3
  have ej3 : hs_I S3 (la.getD i 0) = hs_I S1 (la.getD i 0) := (ck_at hD3 mo1.1 mo1.2 (by decide) (by decide)).1
  have mo3 : la.getD i 0 ∈ hs_L S3 ∧ hs_K S3 (la.getD i 0) = 5 := ⟨(hD3.1 _ mo1.1).1, (hD3.1 _ mo1.1).2.1.trans mo1.2⟩
  have hdb3 : d3 ≤ 5000 := by obtain ⟨_, _, _, w4, _⟩ := id hN3.1; exact w4.2.1.2
  have hq1_3 : q1 ∈ hs_L S3 ∧ hs_K S3 q1 = 5 := ⟨(hC3.1 _ hq1_2.1).1, (hC3.1 _ hq1_2.1).2.1.trans hq1_2.2⟩
  show ex_W _ _ _ _ 66 [(6, .ref q1), (0, .ref l), (1, .ref (la.getD i 0)), (2, .int xa), (3, .int xb), (4, .int xt), (5, .int xd)] [.ref q2] S3 n3 k3
  refine ex_goto (tgt := 70) dX4_passOne_66 (by decide) ?_
  refine ex_astore [(7, .ref q2), (6, .ref q1), (0, .ref l), (1, .ref (la.getD i 0)), (2, .int xa), (3, .int xb), (4, .int xt), (5, .int xd)] dX4_passOne_70 (by decide) rfl ?_
  refine ex_iload dX4_passOne_72 6 rfl ?_
  refine ex_iconst (v := (-1)) dX4_passOne_74 (by decide) ?_
  refine ex_icmp_ne (tgt := 82) dX4_passOne_75 (by decide) (fun c75 => absurd hxt c75) (fun c75 => ?_)
  refine ex_null dX4_passOne_78 ?_
  refine ex_goto (tgt := 106) dX4_passOne_79 (by decide) ?_
  refine ex_astoreN [(8, .null), (7, .ref q2), (6, .ref q1), (0, .ref l), (1, .ref (la.getD i 0)), (2, .int xa), (3, .int xb), (4, .int xt), (5, .int xd)] dX4_passOne_106 (by decide) rfl ?_
  refine ex_aload_n dX4_passOne_108 3 rfl ?_
  refine ex_aload_n dX4_passOne_109 3 rfl ?_
  refine ex_aload_n dX4_passOne_110 4 rfl ?_
  refine ex_getI dX4_passOne_111 fl_X4_67 mo3.1 mo3.2 ?_
  refine ex_cVr [.int (hs_I S3 (la.getD i 0) 0)] [.ref l] dX4_passOne_114 cV_X4_80 (c_pag g (p := y1.length) ⟨hl3, hZ3⟩ (by rw [List.length_map]; exact hys) (by simp) (fun q hq => by
    rw [List.length_map] at hq
    rw [gz_at hq, (ck_at hD3 (hM1 q hq).1 (hM1 q hq).2 (by decide) (by decide)).1, ej3, hF1 q hq, e0]
    exact hplace q hq)) hl3.1 hl3.2 rfl rfl rfl (by decide) (Nat.le_of_ble_eq_true rfl) rfl ?_
  refine ex_aload dX4_passOne_117 2 rfl ?_
  refine ex_aloadN dX4_passOne_119 0 rfl ?_
  refine ex_aload dX4_passOne_121 1 rfl ?_
  have hZm3 : CL g S3 ow3 5 l 1 5 c5 (y1.map (fun i => la.getD i 0) ++ la.getD i 0 :: y2.map (fun i => la.getD i 0)) := by have z := hZ3; rw [List.map_append, List.map_cons] at z; exact z
  have hc5b : c5 ≤ 5000 := by obtain ⟨_, _, _, w5, _⟩ := id hZ; exact w5.2.1.2
  refine ex_cVg [.int (nI y1.length), .ref q1, .null, .ref q2] [] dX4_passOne_123 cV_X4_106 (c_repl_101 g (l1 := y1.map (fun i => la.getD i 0)) (z := la.getD i 0) (l2 := y2.map (fun i => la.getD i 0)) ⟨hl3, hZm3⟩ (by rw [List.length_map]) (by simp at hys ⊢; omega) (by omega) (by omega) hq1_3 hq2_3) hl3.1 hl3.2 rfl rfl rfl (by decide) (Nat.le_of_ble_eq_true rfl) rfl ?_ (fun E S' n' k' h => by obtain ⟨h1, -⟩ := h; cases h1)
  rintro v' S9 n9 k9 ⟨hr9, ow9, c9, hC9, hL9, hc9, hnn9, hkk9⟩
  cases hr9
  show ex_W _ _ _ _ 126 [(8, .null), (7, .ref q2), (6, .ref q1), (0, .ref l), (1, .ref (la.getD i 0)), (2, .int xa), (3, .int xb), (4, .int xt), (5, .int xd)] [] S9 n9 k9
  exact ex_vrt rfl dX4_passOne_126 (by
  have hT1 : ln_at (((ls.set i (ln_end (ln_at ls i) td) ++ [((ln_at ls i).1, a - 1, (ln_at ls i).2.2.1, (ln_at ls i).2.2.2.1, none)]) ++ [(b + 1, (ln_at ls i).2.1, (ln_at ls i).2.2.1, (ln_at ls i).2.2.2.1, none)])) (ls.length) = ((ln_at ls i).1, a - 1, (ln_at ls i).2.2.1, (ln_at ls i).2.2.2.1, none) := by rw [ln_app, if_neg (by first | omega | (simp; done) | (simp; omega))]; rw [ln_app, if_pos (by first | omega | (simp; done) | (simp; omega))]
  have hT2 : ln_at (((ls.set i (ln_end (ln_at ls i) td) ++ [((ln_at ls i).1, a - 1, (ln_at ls i).2.2.1, (ln_at ls i).2.2.2.1, none)]) ++ [(b + 1, (ln_at ls i).2.1, (ln_at ls i).2.2.1, (ln_at ls i).2.2.2.1, none)])) (ls.length + 1) = (b + 1, (ln_at ls i).2.1, (ln_at ls i).2.2.1, (ln_at ls i).2.2.2.1, none) := by rw [ln_app, if_pos (by first | omega | (simp; done) | (simp; omega))]
  have hold : ∀ j, j < ls.length → j ≠ i → ln_at (((ls.set i (ln_end (ln_at ls i) td) ++ [((ln_at ls i).1, a - 1, (ln_at ls i).2.2.1, (ln_at ls i).2.2.2.1, none)]) ++ [(b + 1, (ln_at ls i).2.1, (ln_at ls i).2.2.1, (ln_at ls i).2.2.2.1, none)])) j = ln_at ls j := fun j hj hne => by rw [ln_app, if_neg (by first | omega | (simp; done) | (simp; omega))]; rw [ln_app, if_neg (by first | omega | (simp; done) | (simp; omega))]; rw [ln_set hi, if_neg hne]
  have hend : ln_at (((ls.set i (ln_end (ln_at ls i) td) ++ [((ln_at ls i).1, a - 1, (ln_at ls i).2.2.1, (ln_at ls i).2.2.2.1, none)]) ++ [(b + 1, (ln_at ls i).2.1, (ln_at ls i).2.2.1, (ln_at ls i).2.2.2.1, none)])) i = ln_end (ln_at ls i) td := by rw [ln_app, if_neg (by first | omega | (simp; done) | (simp; omega))]; rw [ln_app, if_neg (by first | omega | (simp; done) | (simp; omega))]; rw [ln_set hi, if_pos rfl]
  have hG9 : GO (((ls.set i (ln_end (ln_at ls i) td) ++ [((ln_at ls i).1, a - 1, (ln_at ls i).2.2.1, (ln_at ls i).2.2.2.1, none)]) ++ [(b + 1, (ln_at ls i).2.1, (ln_at ls i).2.2.1, (ln_at ls i).2.2.2.1, none)])) (y1 ++ [ls.length, ls.length + 1] ++ y2) := GO_rep hG hfl (by simp; try omega) hold (by rw [hend]; simp [ln_end]) (by simp only [bf, List.pairwise_cons, List.mem_singleton, forall_eq, List.not_mem_nil, false_implies, implies_true, List.Pairwise.nil, and_true]; rw [hT1, hT2]; simp only []; omega) (fun j hj => by
    simp only [List.mem_cons, List.mem_singleton, List.not_mem_nil, or_false] at hj
    rcases hj with rfl | rfl
    · rw [hT1]; simp only []; omega
    · rw [hT2]; simp only []; omega) (fun j => by
    simp only [List.mem_cons, List.mem_singleton, List.not_mem_nil, or_false]
    constructor
    · intro z
      rcases z with rfl | rfl
      · exact ⟨by omega, by simp; try omega, by rw [hT1]⟩
      · exact ⟨by omega, by simp; try omega, by rw [hT2]⟩
    · intro z
      have z2 := z.2.1
      simp at z2
      omega)
  have hQ1 : (((la ++ [q1]) ++ [q2])).getD (ls.length) 0 = q1 := by rw [gd_app, if_neg (by first | omega | (simp; done) | (simp; omega))]; rw [gd_app, if_pos (by first | omega | (simp; done) | (simp; omega))]
  have hQ2 : (((la ++ [q1]) ++ [q2])).getD (ls.length + 1) 0 = q2 := by rw [gd_app, if_pos (by first | omega | (simp; done) | (simp; omega))]
  have hqold : ∀ j, j < ls.length → (((la ++ [q1]) ++ [q2])).getD j 0 = la.getD j 0 := fun j hj => by rw [gd_app, if_neg (by first | omega | (simp; done) | (simp; omega))]; rw [gd_app, if_neg (by first | omega | (simp; done) | (simp; omega))]
  have hmap : (y1 ++ [ls.length, ls.length + 1] ++ y2).map (fun i => (((la ++ [q1]) ++ [q2])).getD i 0) = y1.map (fun i => la.getD i 0) ++ q1 :: q2 :: y2.map (fun i => la.getD i 0) := by
    have hm1 : y1.map (fun i => (((la ++ [q1]) ++ [q2])).getD i 0) = y1.map (fun i => la.getD i 0) := List.map_congr_left (fun a ha => hqold a ((hG.2 a).mp (by simp [ha])).1)
    have hm2 : y2.map (fun i => (((la ++ [q1]) ++ [q2])).getD i 0) = y2.map (fun i => la.getD i 0) := List.map_congr_left (fun a ha => hqold a ((hG.2 a).mp (by simp [ha])).1)
    rw [List.map_append, List.map_append, hm1, hm2, List.append_assoc]
    congr 1
    simp only [List.map_cons, List.map_nil, List.cons_append, List.nil_append, hQ1, hQ2]
  have hN9 := LN1_ck hl3 hN3 hC9 (by decide) (by decide) (by decide) (by decide)
  refine ⟨rfl, ow9, d3, c9, y1 ++ [ls.length, ls.length + 1] ++ y2, CK_tr (CK_tr (CK_mono hC1 (by decide) (by decide)) (CK_mono hD3 (by decide) (by decide))) (CK_mono hC9 (by decide) (by decide)), ⟨⟨(hC9.1 l hl3.1).1, (hC9.1 l hl3.1).2.1.trans hl3.2⟩, ⟨((la ++ [q1]) ++ [q2]), hN9.1, by rw [hmap]; exact hL9, hN9.2.1, hN9.2.2.1, hN9.2.2.2, hG9⟩, by first | omega | (simp; omega), fun j hj => ?_⟩, by omega, hc9, by first | omega | (simp; omega), by first | omega | (simp; omega)⟩
  by_cases z : j < ls.length
  · by_cases y : j = i
    · rw [y, hend]
      exact ⟨hok.1, hok.2.1, hok.2.2.1, hok.2.2.2.1, fun d hd => by cases hd; exact htd⟩
    · rw [hold j z y]; exact hlok j z
  · simp at hj
    rcases (show j = ls.length ∨ j = ls.length + 1 by omega) with rfl | rfl
    · rw [hT1]; exact ⟨by show (ln_at ls i).1 ≤ a - 1; omega, by show a - 1 < _; omega, hok.2.2.1, hok.2.2.2.1, fun d hd => by cases hd⟩
    · rw [hT2]; exact ⟨by show b + 1 ≤ (ln_at ls i).2.1; omega, by show (ln_at ls i).2.1 < _; omega, hok.2.2.1, hok.2.2.2.1, fun d hd => by cases hd⟩)
set_option maxRecDepth 20000 in
set_option maxHeartbeats 4000000 in
theorem c_pass_111 (g : gl_T) {S : hs_T} {n k l c4 c5 i a b td : Nat} {ow : Nat → Nat} {ls : List li_T} {la y1 y2 : List Nat} {xa xb xd : Int32} (hl : l ∈ hs_L S ∧ hs_K S l = 4) (hN : LN1 g S ow l c4 ls la) (hZ : CL g S ow 5 l 1 5 c5 ((y1 ++ i :: y2).map (fun i => la.getD i 0))) (hG : GO ls (y1 ++ i :: y2)) (hlok : ∀ j, j < ls.length → ln_ok (ln_at ls j)) (hxa : xa = nI a) (hxb : xb = nI b) (hxd : xd = nI td) (hab : a ≤ b) (ha : a < 2 ^ 31) (hb9 : b < 2 ^ 31) (hb1 : (ln_at ls i).1 ≤ b) (ha1 : a ≤ (ln_at ls i).2.1) (htd : td ≤ 100000) (hn : n + 15000 ≤ ex_NM) (hk : k + 60000 ≤ ex_KM) (hB1 : (ln_at ls i).1 < a) (hB2 : b < (ln_at ls i).2.1) {t0 : Nat} (ht0 : t0 < 60) {xt : Int32} (hxt : xt = nI t0) (hlen : ls.length + 3 ≤ 1500) : ex_M g 9 mX4_passOne [.ref l, .ref (la.getD i 0), .int xa, .int xb, .int xt, .int xd] S n k (pg g S ow l c4 c5 ls n k ((((ls.set i (ln_end (ln_at ls i) td) ++ [((ln_at ls i).1, a - 1, (ln_at ls i).2.2.1, (ln_at ls i).2.2.2.1, none)]) ++ [(b + 1, (ln_at ls i).2.1, (ln_at ls i).2.2.1, (ln_at ls i).2.2.2.1, none)]) ++ [(max (ln_at ls i).1 a, min (ln_at ls i).2.1 b, t0, td, none)]))) := by
  obtain ⟨hL4, nd4, len4, f4⟩ := id hN
  have hi : i < ls.length := ((hG.2 i).mp (by simp)).1
  have mo := CL_el hL4 (j := i) (by omega)
  obtain ⟨g0, g1, g2, g3, g4⟩ := f4 i hi
  have hok := hlok i hi
  have hok1 := hok.1
  have hok2 := hok.2.1
  have hc4b : c4 ≤ 5000 := by obtain ⟨_, _, _, w4, _⟩ := id hL4; exact w4.2.1.2
  have hfl : ∀ i, (ln_at ls i).1 ≤ (ln_at ls i).2.1 := fun i => by
    by_cases z : i < ls.length
    · exact (hlok i z).1
    · unfold ln_at; rw [List.getD_eq_getElem?_getD, List.getElem?_eq_none (by omega)]; exact Nat.le_refl _
  have hys : (y1 ++ i :: y2).length ≤ 1500 := Nat.le_trans (nd_len (GO_nd hfl hG) (fun i hi => ((hG.2 i).mp hi).1)) (by omega)
  have hplace : ∀ q, q < (y1 ++ i :: y2).length → (nI (ln_at ls ((y1 ++ i :: y2).getD q 0)).1 ≤ nI (ln_at ls i).1 ↔ q ≤ y1.length) := fun q hq => by
    have hq1 := GO_at hG hq
    have hb := (hlok _ hq1.1)
    have hb1 := hb.1
    have hb2 := hb.2.1
    rw [nI_leI (by omega) (by omega)]
    have hgi : (y1 ++ i :: y2).getD y1.length 0 = i := by rw [List.getD_eq_getElem?_getD, rp_at]; rfl
    have hpw : ∀ u v, u < v → v < (y1 ++ i :: y2).length → (ln_at ls ((y1 ++ i :: y2).getD u 0)).2.1 < (ln_at ls ((y1 ++ i :: y2).getD v 0)).1 := fun u v huv hv => by
      have w := List.pairwise_iff_getElem.mp hG.1 u v (by omega) hv huv
      rw [List.getD_eq_getElem?_getD, List.getElem?_eq_getElem (by omega), List.getD_eq_getElem?_getD, List.getElem?_eq_getElem hv]
      exact w
    have hy1 : y1.length < (y1 ++ i :: y2).length := by simp
    rcases Nat.lt_trichotomy q y1.length with z | z | z
    · have := hpw q y1.length z hy1
      rw [hgi] at this
      exact ⟨fun _ => by omega, fun _ => by omega⟩
    · rw [z, hgi]; exact ⟨fun _ => Nat.le_refl _, fun _ => Nat.le_refl _⟩
    · have := hpw y1.length q z hq
      rw [hgi] at this
      exact ⟨fun y => by omega, fun y => by omega⟩
  refine ex_enter (by decide +kernel) (Nat.le_of_ble_eq_true rfl) ?_
  show ex_W _ _ _ _ 0 [(0, .ref l), (1, .ref (la.getD i 0)), (2, .int xa), (3, .int xb), (4, .int xt), (5, .int xd)] [] _ _ _
  refine ex_aload_n dX4_passOne_0 1 rfl ?_
  refine ex_iload dX4_passOne_1 5 rfl ?_
  refine ex_putI dX4_passOne_3 fl_X4_95 (pf_X4_95 _) mo.1 mo.2 ?_
  obtain ⟨hN1, hC1⟩ := LN1_end hl hN hi hxd
  have hZ1 := CL_ck hZ ⟨hl.1, Or.inr (Or.inl hl.2)⟩ hC1 (by decide) (by decide) (by decide)
  have hl1 : l ∈ hs_L (hs_sI S (la.getD i 0) 4 xd) ∧ hs_K (hs_sI S (la.getD i 0) 4 xd) l = 4 := hl
  have mo1 : la.getD i 0 ∈ hs_L (hs_sI S (la.getD i 0) 4 xd) ∧ hs_K (hs_sI S (la.getD i 0) 4 xd) (la.getD i 0) = 5 := mo
  have e0 : hs_I (hs_sI S (la.getD i 0) 4 xd) (la.getD i 0) 0 = nI (ln_at ls i).1 := by rw [hs_I_sI, if_neg (fun z => absurd z.2 (by decide))]; exact g0
  have e1 : hs_I (hs_sI S (la.getD i 0) 4 xd) (la.getD i 0) 1 = nI (ln_at ls i).2.1 := by rw [hs_I_sI, if_neg (fun z => absurd z.2 (by decide))]; exact g1
  have e2 : hs_I (hs_sI S (la.getD i 0) 4 xd) (la.getD i 0) 2 = nI (ln_at ls i).2.2.1 := by rw [hs_I_sI, if_neg (fun z => absurd z.2 (by decide))]; exact g2
  have e3 : hs_I (hs_sI S (la.getD i 0) 4 xd) (la.getD i 0) 3 = nI (ln_at ls i).2.2.2.1 := by rw [hs_I_sI, if_neg (fun z => absurd z.2 (by decide))]; exact g3
  have hF1 : ∀ q, q < (y1 ++ i :: y2).length → hs_I (hs_sI S (la.getD i 0) 4 xd) (la.getD ((y1 ++ i :: y2).getD q 0) 0) 0 = nI (ln_at ls ((y1 ++ i :: y2).getD q 0)).1 := fun q hq => by
    rw [hs_I_sI, if_neg (fun z => absurd z.2 (by decide))]; exact (f4 _ (GO_at hG hq).1).1
  have hM1 : ∀ q, q < (y1 ++ i :: y2).length → la.getD ((y1 ++ i :: y2).getD q 0) 0 ∈ hs_L (hs_sI S (la.getD i 0) 4 xd) ∧ hs_K (hs_sI S (la.getD i 0) 4 xd) (la.getD ((y1 ++ i :: y2).getD q 0) 0) = 5 := fun q hq => CL_el hN.1 (by have := (GO_at hG hq).1; omega)
  generalize hs_sI S (la.getD i 0) 4 xd = S1 at hN1 hC1 hZ1 hl1 mo1 e0 e1 e2 e3 hF1 hM1 ⊢
  have hD1 := CK_rf ow [] [4] S1
  have ej1 : hs_I S1 (la.getD i 0) = hs_I S1 (la.getD i 0) := rfl
  refine ex_aload_n dX4_passOne_6 1 rfl ?_
  refine ex_getI dX4_passOne_7 fl_X4_67 mo1.1 mo1.2 ?_
  refine ex_iload_n dX4_passOne_10 2 rfl ?_
  refine ex_icmp_ge (tgt := 36) dX4_passOne_11 (by decide) (fun c11 => absurd c11 (fun z => by rw [e0, hxa] at z; have := (nI_leI ha (by omega)).mp z; omega)) (fun c11 => ?_)
  refine ex_aload_n dX4_passOne_14 0 rfl ?_
  refine ex_aload_n dX4_passOne_15 1 rfl ?_
  refine ex_getI dX4_passOne_16 fl_X4_67 mo1.1 mo1.2 ?_
  refine ex_iload_n dX4_passOne_19 2 rfl ?_
  refine ex_iconst (v := 1) dX4_passOne_20 (by decide) ?_
  refine ex_isub dX4_passOne_21 ?_
  refine ex_aload_n dX4_passOne_22 1 rfl ?_
  refine ex_getI dX4_passOne_23 fl_X4_64 mo1.1 mo1.2 ?_
  refine ex_aload_n dX4_passOne_26 1 rfl ?_
  refine ex_getI dX4_passOne_27 fl_X4_89 mo1.1 mo1.2 ?_
  refine ex_cVg [.int (hs_I S1 (la.getD i 0) 0), .int (xa - 1), .int (hs_I S1 (la.getD i 0) 2), .int (hs_I S1 (la.getD i 0) 3)] [] dX4_passOne_30 cV_X4_30 (c_begin g hl1 hN1 (t := ((ln_at ls i).1, a - 1, (ln_at ls i).2.2.1, (ln_at ls i).2.2.2.1, none)) (by simp at hlen ⊢; omega) (by omega) (by omega) (by rw [ej1]; exact e0) (by rw [hxa]; exact pk_sub (b := 1) (by omega)) (by rw [ej1]; exact e2) (by rw [ej1]; exact e3) rfl) hl1.1 hl1.2 rfl rfl rfl (by decide) (Nat.le_of_ble_eq_true rfl) rfl ?_ (fun E S' n' k' h => by obtain ⟨_, _, _, h1, -⟩ := h; cases h1)
  rintro v' S2 n2 k2 ⟨q1, ow2, d2, hr2, hq1, hq1_2, hC2, hN2, hc2, hnn2, hkk2⟩
  cases hr2
  have hZ2 := CL_ck hZ1 ⟨hl1.1, Or.inr (Or.inl hl1.2)⟩ hC2 (by decide) (by decide) (by decide)
  have hl2 : l ∈ hs_L S2 ∧ hs_K S2 l = 4 := ⟨(hC2.1 l hl1.1).1, (hC2.1 l hl1.1).2.1.trans hl1.2⟩
  have hD2 := CK_tr hD1 hC2
  have ej2 : hs_I S2 (la.getD i 0) = hs_I S1 (la.getD i 0) := (ck_at hD2 mo1.1 mo1.2 (by decide) (by decide)).1
  have mo2 : la.getD i 0 ∈ hs_L S2 ∧ hs_K S2 (la.getD i 0) = 5 := ⟨(hD2.1 _ mo1.1).1, (hD2.1 _ mo1.1).2.1.trans mo1.2⟩
  have hdb2 : d2 ≤ 5000 := by obtain ⟨_, _, _, w4, _⟩ := id hN2.1; exact w4.2.1.2
  show ex_W _ _ _ _ 33 [(0, .ref l), (1, .ref (la.getD i 0)), (2, .int xa), (3, .int xb), (4, .int xt), (5, .int xd)] [.ref q1] S2 n2 k2
  refine ex_goto (tgt := 37) dX4_passOne_33 (by decide) ?_
  refine ex_astore [(6, .ref q1), (0, .ref l), (1, .ref (la.getD i 0)), (2, .int xa), (3, .int xb), (4, .int xt), (5, .int xd)] dX4_passOne_37 (by decide) rfl ?_
  refine ex_aload_n dX4_passOne_39 2 rfl ?_
  refine ex_getI dX4_passOne_40 fl_X4_70 mo2.1 mo2.2 ?_
  refine ex_iload_n dX4_passOne_43 4 rfl ?_
  have ejj := ej2
  refine ex_icmp_le (tgt := 69) dX4_passOne_44 (by decide) (fun c44 => absurd c44 (fun z => by rw [ejj, e1, hxb] at z; have := (nI_leI (by omega) hb9).mp z; omega)) (fun c44 => ?_)
  refine ex_aload_n dX4_passOne_47 1 rfl ?_
  refine ex_iload_n dX4_passOne_48 4 rfl ?_
  refine ex_iconst (v := 1) dX4_passOne_49 (by decide) ?_
  refine ex_iadd dX4_passOne_50 ?_
  refine ex_aload_n dX4_passOne_51 2 rfl ?_
  refine ex_getI dX4_passOne_52 fl_X4_70 mo2.1 mo2.2 ?_
  refine ex_aload_n dX4_passOne_55 2 rfl ?_
  refine ex_getI dX4_passOne_56 fl_X4_64 mo2.1 mo2.2 ?_
  refine ex_aload_n dX4_passOne_59 2 rfl ?_
  refine ex_getI dX4_passOne_60 fl_X4_89 mo2.1 mo2.2 ?_
  refine ex_cVg [.int (xb + 1), .int (hs_I S2 (la.getD i 0) 1), .int (hs_I S2 (la.getD i 0) 2), .int (hs_I S2 (la.getD i 0) 3)] [] dX4_passOne_63 cV_X4_30 (c_begin g hl2 hN2 (t := (b + 1, (ln_at ls i).2.1, (ln_at ls i).2.2.1, (ln_at ls i).2.2.2.1, none)) (by simp at hlen ⊢; omega) (by omega) (by omega) (by rw [hxb]; exact nI_1 _) (by rw [ej2]; exact e1) (by rw [ej2]; exact e2) (by rw [ej2]; exact e3) rfl) hl2.1 hl2.2 rfl rfl rfl (by decide) (Nat.le_of_ble_eq_true rfl) rfl ?_ (fun E S' n' k' h => by obtain ⟨_, _, _, h1, -⟩ := h; cases h1)
  rintro v' S3 n3 k3 ⟨q2, ow3, d3, hr3, hq2, hq2_3, hC3, hN3, hc3, hnn3, hkk3⟩
  cases hr3
  have hZ3 := CL_ck hZ2 ⟨hl2.1, Or.inr (Or.inl hl2.2)⟩ hC3 (by decide) (by decide) (by decide)
  have hl3 : l ∈ hs_L S3 ∧ hs_K S3 l = 4 := ⟨(hC3.1 l hl2.1).1, (hC3.1 l hl2.1).2.1.trans hl2.2⟩
  have hD3 := CK_tr hD2 hC3
  have ej3 : hs_I S3 (la.getD i 0) = hs_I S1 (la.getD i 0) := (ck_at hD3 mo1.1 mo1.2 (by decide) (by decide)).1
  have mo3 : la.getD i 0 ∈ hs_L S3 ∧ hs_K S3 (la.getD i 0) = 5 := ⟨(hD3.1 _ mo1.1).1, (hD3.1 _ mo1.1).2.1.trans mo1.2⟩
  have hdb3 : d3 ≤ 5000 := by obtain ⟨_, _, _, w4, _⟩ := id hN3.1; exact w4.2.1.2
  have hq1_3 : q1 ∈ hs_L S3 ∧ hs_K S3 q1 = 5 := ⟨(hC3.1 _ hq1_2.1).1, (hC3.1 _ hq1_2.1).2.1.trans hq1_2.2⟩
  show ex_W _ _ _ _ 66 [(6, .ref q1), (0, .ref l), (1, .ref (la.getD i 0)), (2, .int xa), (3, .int xb), (4, .int xt), (5, .int xd)] [.ref q2] S3 n3 k3
  refine ex_goto (tgt := 70) dX4_passOne_66 (by decide) ?_
  refine ex_astore [(7, .ref q2), (6, .ref q1), (0, .ref l), (1, .ref (la.getD i 0)), (2, .int xa), (3, .int xb), (4, .int xt), (5, .int xd)] dX4_passOne_70 (by decide) rfl ?_
  refine ex_iload dX4_passOne_72 6 rfl ?_
  refine ex_iconst (v := (-1)) dX4_passOne_74 (by decide) ?_
  refine ex_icmp_ne (tgt := 82) dX4_passOne_75 (by decide) (fun c75 => ?_) (fun c75 => absurd c75 (by rw [hxt]; exact fun z => absurd (congrArg Int32.toInt z) (by rw [nI_toInt (by omega), i_m1]; omega)))
  refine ex_aload_n dX4_passOne_82 2 rfl ?_
  refine ex_aload_n dX4_passOne_83 3 rfl ?_
  refine ex_getI dX4_passOne_84 fl_X4_67 mo3.1 mo3.2 ?_
  refine ex_iload_n dX4_passOne_87 4 rfl ?_
  refine ex_mmax dX4_passOne_88 ml_X4_98 mw_max (by decide) (Nat.le_of_ble_eq_true rfl) ?_
  refine ex_aload_n dX4_passOne_91 3 rfl ?_
  refine ex_getI dX4_passOne_92 fl_X4_70 mo3.1 mo3.2 ?_
  refine ex_iload_n dX4_passOne_95 5 rfl ?_
  refine ex_mmin dX4_passOne_96 ml_X4_103 mw_min (by decide) (Nat.le_of_ble_eq_true rfl) ?_
  refine ex_iload dX4_passOne_99 6 rfl ?_
  refine ex_iload dX4_passOne_101 7 rfl ?_
  refine ex_cVg [.int ((if (hs_I S3 (la.getD i 0) 0) < xa then xa else hs_I S3 (la.getD i 0) 0)), .int ((if xb < (hs_I S3 (la.getD i 0) 1) then xb else hs_I S3 (la.getD i 0) 1)), .int xt, .int xd] [] dX4_passOne_103 cV_X4_30 (c_begin g hl3 hN3 (t := (max (ln_at ls i).1 a, min (ln_at ls i).2.1 b, t0, td, none)) (by simp at hlen ⊢; omega) (by omega) (by omega) (by
    rw [ej3, e0, hxa]
    show _ = nI (max (ln_at ls i).1 a)
    split
    · next z => have := (nI_ltI (by omega) (by omega)).mp z; congr 1; omega
    · next z => have : ¬ (ln_at ls i).1 < a := fun y => z (nI_lt y (by omega)); congr 1; omega) (by
    rw [ej3, e1, hxb]
    show _ = nI (min (ln_at ls i).2.1 b)
    split
    · next z => have := (nI_ltI (by omega) (by omega)).mp z; congr 1; omega
    · next z => have : ¬ b < (ln_at ls i).2.1 := fun y => z (nI_lt y (by omega)); congr 1; omega) hxt hxd rfl) hl3.1 hl3.2 rfl rfl rfl (by decide) (Nat.le_of_ble_eq_true rfl) rfl ?_ (fun E S' n' k' h => by obtain ⟨_, _, _, h1, -⟩ := h; cases h1)
  rintro v' S4 n4 k4 ⟨q3, ow4, d4, hr4, hq3, hq3_4, hC4, hN4, hc4, hnn4, hkk4⟩
  cases hr4
  have hZ4 := CL_ck hZ3 ⟨hl3.1, Or.inr (Or.inl hl3.2)⟩ hC4 (by decide) (by decide) (by decide)
  have hl4 : l ∈ hs_L S4 ∧ hs_K S4 l = 4 := ⟨(hC4.1 l hl3.1).1, (hC4.1 l hl3.1).2.1.trans hl3.2⟩
  have hD4 := CK_tr hD3 hC4
  have ej4 : hs_I S4 (la.getD i 0) = hs_I S1 (la.getD i 0) := (ck_at hD4 mo1.1 mo1.2 (by decide) (by decide)).1
  have mo4 : la.getD i 0 ∈ hs_L S4 ∧ hs_K S4 (la.getD i 0) = 5 := ⟨(hD4.1 _ mo1.1).1, (hD4.1 _ mo1.1).2.1.trans mo1.2⟩
  have hdb4 : d4 ≤ 5000 := by obtain ⟨_, _, _, w4, _⟩ := id hN4.1; exact w4.2.1.2
  have hq1_4 : q1 ∈ hs_L S4 ∧ hs_K S4 q1 = 5 := ⟨(hC4.1 _ hq1_3.1).1, (hC4.1 _ hq1_3.1).2.1.trans hq1_3.2⟩
  have hq2_4 : q2 ∈ hs_L S4 ∧ hs_K S4 q2 = 5 := ⟨(hC4.1 _ hq2_3.1).1, (hC4.1 _ hq2_3.1).2.1.trans hq2_3.2⟩
  show ex_W _ _ _ _ 106 [(7, .ref q2), (6, .ref q1), (0, .ref l), (1, .ref (la.getD i 0)), (2, .int xa), (3, .int xb), (4, .int xt), (5, .int xd)] [.ref q3] S4 n4 k4
  refine ex_astore [(8, .ref q3), (7, .ref q2), (6, .ref q1), (0, .ref l), (1, .ref (la.getD i 0)), (2, .int xa), (3, .int xb), (4, .int xt), (5, .int xd)] dX4_passOne_106 (by decide) rfl ?_
  refine ex_aload_n dX4_passOne_108 3 rfl ?_
  refine ex_aload_n dX4_passOne_109 3 rfl ?_
  refine ex_aload_n dX4_passOne_110 4 rfl ?_
  refine ex_getI dX4_passOne_111 fl_X4_67 mo4.1 mo4.2 ?_
  refine ex_cVr [.int (hs_I S4 (la.getD i 0) 0)] [.ref l] dX4_passOne_114 cV_X4_80 (c_pag g (p := y1.length) ⟨hl4, hZ4⟩ (by rw [List.length_map]; exact hys) (by simp) (fun q hq => by
    rw [List.length_map] at hq
    rw [gz_at hq, (ck_at hD4 (hM1 q hq).1 (hM1 q hq).2 (by decide) (by decide)).1, ej4, hF1 q hq, e0]
    exact hplace q hq)) hl4.1 hl4.2 rfl rfl rfl (by decide) (Nat.le_of_ble_eq_true rfl) rfl ?_
  refine ex_aload dX4_passOne_117 2 rfl ?_
  refine ex_aload dX4_passOne_119 0 rfl ?_
  refine ex_aload dX4_passOne_121 1 rfl ?_
  have hZm4 : CL g S4 ow4 5 l 1 5 c5 (y1.map (fun i => la.getD i 0) ++ la.getD i 0 :: y2.map (fun i => la.getD i 0)) := by have z := hZ4; rw [List.map_append, List.map_cons] at z; exact z
  have hc5b : c5 ≤ 5000 := by obtain ⟨_, _, _, w5, _⟩ := id hZ; exact w5.2.1.2
  refine ex_cVg [.int (nI y1.length), .ref q1, .ref q3, .ref q2] [] dX4_passOne_123 cV_X4_106 (c_repl_111 g (l1 := y1.map (fun i => la.getD i 0)) (z := la.getD i 0) (l2 := y2.map (fun i => la.getD i 0)) ⟨hl4, hZm4⟩ (by rw [List.length_map]) (by simp at hys ⊢; omega) (by omega) (by omega) hq1_4 hq3_4 hq2_4) hl4.1 hl4.2 rfl rfl rfl (by decide) (Nat.le_of_ble_eq_true rfl) rfl ?_ (fun E S' n' k' h => by obtain ⟨h1, -⟩ := h; cases h1)
  rintro v' S9 n9 k9 ⟨hr9, ow9, c9, hC9, hL9, hc9, hnn9, hkk9⟩
  cases hr9
  show ex_W _ _ _ _ 126 [(8, .ref q3), (7, .ref q2), (6, .ref q1), (0, .ref l), (1, .ref (la.getD i 0)), (2, .int xa), (3, .int xb), (4, .int xt), (5, .int xd)] [] S9 n9 k9
  exact ex_vrt rfl dX4_passOne_126 (by
  have hT1 : ln_at ((((ls.set i (ln_end (ln_at ls i) td) ++ [((ln_at ls i).1, a - 1, (ln_at ls i).2.2.1, (ln_at ls i).2.2.2.1, none)]) ++ [(b + 1, (ln_at ls i).2.1, (ln_at ls i).2.2.1, (ln_at ls i).2.2.2.1, none)]) ++ [(max (ln_at ls i).1 a, min (ln_at ls i).2.1 b, t0, td, none)])) (ls.length) = ((ln_at ls i).1, a - 1, (ln_at ls i).2.2.1, (ln_at ls i).2.2.2.1, none) := by rw [ln_app, if_neg (by first | omega | (simp; done) | (simp; omega))]; rw [ln_app, if_neg (by first | omega | (simp; done) | (simp; omega))]; rw [ln_app, if_pos (by first | omega | (simp; done) | (simp; omega))]
  have hT2 : ln_at ((((ls.set i (ln_end (ln_at ls i) td) ++ [((ln_at ls i).1, a - 1, (ln_at ls i).2.2.1, (ln_at ls i).2.2.2.1, none)]) ++ [(b + 1, (ln_at ls i).2.1, (ln_at ls i).2.2.1, (ln_at ls i).2.2.2.1, none)]) ++ [(max (ln_at ls i).1 a, min (ln_at ls i).2.1 b, t0, td, none)])) (ls.length + 1) = (b + 1, (ln_at ls i).2.1, (ln_at ls i).2.2.1, (ln_at ls i).2.2.2.1, none) := by rw [ln_app, if_neg (by first | omega | (simp; done) | (simp; omega))]; rw [ln_app, if_pos (by first | omega | (simp; done) | (simp; omega))]
  have hT3 : ln_at ((((ls.set i (ln_end (ln_at ls i) td) ++ [((ln_at ls i).1, a - 1, (ln_at ls i).2.2.1, (ln_at ls i).2.2.2.1, none)]) ++ [(b + 1, (ln_at ls i).2.1, (ln_at ls i).2.2.1, (ln_at ls i).2.2.2.1, none)]) ++ [(max (ln_at ls i).1 a, min (ln_at ls i).2.1 b, t0, td, none)])) (ls.length + 2) = (max (ln_at ls i).1 a, min (ln_at ls i).2.1 b, t0, td, none) := by rw [ln_app, if_pos (by first | omega | (simp; done) | (simp; omega))]
  have hold : ∀ j, j < ls.length → j ≠ i → ln_at ((((ls.set i (ln_end (ln_at ls i) td) ++ [((ln_at ls i).1, a - 1, (ln_at ls i).2.2.1, (ln_at ls i).2.2.2.1, none)]) ++ [(b + 1, (ln_at ls i).2.1, (ln_at ls i).2.2.1, (ln_at ls i).2.2.2.1, none)]) ++ [(max (ln_at ls i).1 a, min (ln_at ls i).2.1 b, t0, td, none)])) j = ln_at ls j := fun j hj hne => by rw [ln_app, if_neg (by first | omega | (simp; done) | (simp; omega))]; rw [ln_app, if_neg (by first | omega | (simp; done) | (simp; omega))]; rw [ln_app, if_neg (by first | omega | (simp; done) | (simp; omega))]; rw [ln_set hi, if_neg hne]
  have hend : ln_at ((((ls.set i (ln_end (ln_at ls i) td) ++ [((ln_at ls i).1, a - 1, (ln_at ls i).2.2.1, (ln_at ls i).2.2.2.1, none)]) ++ [(b + 1, (ln_at ls i).2.1, (ln_at ls i).2.2.1, (ln_at ls i).2.2.2.1, none)]) ++ [(max (ln_at ls i).1 a, min (ln_at ls i).2.1 b, t0, td, none)])) i = ln_end (ln_at ls i) td := by rw [ln_app, if_neg (by first | omega | (simp; done) | (simp; omega))]; rw [ln_app, if_neg (by first | omega | (simp; done) | (simp; omega))]; rw [ln_app, if_neg (by first | omega | (simp; done) | (simp; omega))]; rw [ln_set hi, if_pos rfl]
  have hG9 : GO ((((ls.set i (ln_end (ln_at ls i) td) ++ [((ln_at ls i).1, a - 1, (ln_at ls i).2.2.1, (ln_at ls i).2.2.2.1, none)]) ++ [(b + 1, (ln_at ls i).2.1, (ln_at ls i).2.2.1, (ln_at ls i).2.2.2.1, none)]) ++ [(max (ln_at ls i).1 a, min (ln_at ls i).2.1 b, t0, td, none)])) (y1 ++ [ls.length, ls.length + 2, ls.length + 1] ++ y2) := GO_rep hG hfl (by simp; try omega) hold (by rw [hend]; simp [ln_end]) (by simp only [bf, List.pairwise_cons, List.mem_cons, List.mem_singleton, forall_eq_or_imp, forall_eq, List.not_mem_nil, false_implies, implies_true, List.Pairwise.nil, and_true, or_false]; rw [hT1, hT3, hT2]; simp only []; omega) (fun j hj => by
    simp only [List.mem_cons, List.mem_singleton, List.not_mem_nil, or_false] at hj
    rcases hj with rfl | rfl | rfl
    · rw [hT1]; simp only []; omega
    · rw [hT3]; simp only []; omega
    · rw [hT2]; simp only []; omega) (fun j => by
    simp only [List.mem_cons, List.mem_singleton, List.not_mem_nil, or_false]
    constructor
    · intro z
      rcases z with rfl | rfl | rfl
      · exact ⟨by omega, by simp; try omega, by rw [hT1]⟩
      · exact ⟨by omega, by simp; try omega, by rw [hT3]⟩
      · exact ⟨by omega, by simp; try omega, by rw [hT2]⟩
    · intro z
      have z2 := z.2.1
      simp at z2
      omega)
  have hQ1 : ((((la ++ [q1]) ++ [q2]) ++ [q3])).getD (ls.length) 0 = q1 := by rw [gd_app, if_neg (by first | omega | (simp; done) | (simp; omega))]; rw [gd_app, if_neg (by first | omega | (simp; done) | (simp; omega))]; rw [gd_app, if_pos (by first | omega | (simp; done) | (simp; omega))]
  have hQ2 : ((((la ++ [q1]) ++ [q2]) ++ [q3])).getD (ls.length + 1) 0 = q2 := by rw [gd_app, if_neg (by first | omega | (simp; done) | (simp; omega))]; rw [gd_app, if_pos (by first | omega | (simp; done) | (simp; omega))]
  have hQ3 : ((((la ++ [q1]) ++ [q2]) ++ [q3])).getD (ls.length + 2) 0 = q3 := by rw [gd_app, if_pos (by first | omega | (simp; done) | (simp; omega))]
  have hqold : ∀ j, j < ls.length → ((((la ++ [q1]) ++ [q2]) ++ [q3])).getD j 0 = la.getD j 0 := fun j hj => by rw [gd_app, if_neg (by first | omega | (simp; done) | (simp; omega))]; rw [gd_app, if_neg (by first | omega | (simp; done) | (simp; omega))]; rw [gd_app, if_neg (by first | omega | (simp; done) | (simp; omega))]
  have hmap : (y1 ++ [ls.length, ls.length + 2, ls.length + 1] ++ y2).map (fun i => ((((la ++ [q1]) ++ [q2]) ++ [q3])).getD i 0) = y1.map (fun i => la.getD i 0) ++ q1 :: q3 :: q2 :: y2.map (fun i => la.getD i 0) := by
    have hm1 : y1.map (fun i => ((((la ++ [q1]) ++ [q2]) ++ [q3])).getD i 0) = y1.map (fun i => la.getD i 0) := List.map_congr_left (fun a ha => hqold a ((hG.2 a).mp (by simp [ha])).1)
    have hm2 : y2.map (fun i => ((((la ++ [q1]) ++ [q2]) ++ [q3])).getD i 0) = y2.map (fun i => la.getD i 0) := List.map_congr_left (fun a ha => hqold a ((hG.2 a).mp (by simp [ha])).1)
    rw [List.map_append, List.map_append, hm1, hm2, List.append_assoc]
    congr 1
    simp only [List.map_cons, List.map_nil, List.cons_append, List.nil_append, hQ1, hQ2, hQ3]
  have hN9 := LN1_ck hl4 hN4 hC9 (by decide) (by decide) (by decide) (by decide)
  refine ⟨rfl, ow9, d4, c9, y1 ++ [ls.length, ls.length + 2, ls.length + 1] ++ y2, CK_tr (CK_tr (CK_mono hC1 (by decide) (by decide)) (CK_mono hD4 (by decide) (by decide))) (CK_mono hC9 (by decide) (by decide)), ⟨⟨(hC9.1 l hl4.1).1, (hC9.1 l hl4.1).2.1.trans hl4.2⟩, ⟨(((la ++ [q1]) ++ [q2]) ++ [q3]), hN9.1, by rw [hmap]; exact hL9, hN9.2.1, hN9.2.2.1, hN9.2.2.2, hG9⟩, by first | omega | (simp; omega), fun j hj => ?_⟩, by omega, hc9, by first | omega | (simp; omega), by first | omega | (simp; omega)⟩
  by_cases z : j < ls.length
  · by_cases y : j = i
    · rw [y, hend]
      exact ⟨hok.1, hok.2.1, hok.2.2.1, hok.2.2.2.1, fun d hd => by cases hd; exact htd⟩
    · rw [hold j z y]; exact hlok j z
  · simp at hj
    rcases (show j = ls.length ∨ j = ls.length + 1 ∨ j = ls.length + 2 by omega) with rfl | rfl | rfl
    · rw [hT1]; exact ⟨by show (ln_at ls i).1 ≤ a - 1; omega, by show a - 1 < _; omega, hok.2.2.1, hok.2.2.2.1, fun d hd => by cases hd⟩
    · rw [hT2]; exact ⟨by show b + 1 ≤ (ln_at ls i).2.1; omega, by show (ln_at ls i).2.1 < _; omega, hok.2.2.1, hok.2.2.2.1, fun d hd => by cases hd⟩
    · rw [hT3]; exact ⟨by show max (ln_at ls i).1 a ≤ min (ln_at ls i).2.1 b; omega, by show min (ln_at ls i).2.1 b < _; omega, ht0, htd, fun d hd => by cases hd⟩)
theorem c_passOne (g : gl_T) {S : hs_T} {n k l c4 c5 i a b td : Nat} {ow : Nat → Nat} {ls : List li_T} {la y1 y2 : List Nat} {xa xb xd : Int32} (hl : l ∈ hs_L S ∧ hs_K S l = 4) (hN : LN1 g S ow l c4 ls la) (hZ : CL g S ow 5 l 1 5 c5 ((y1 ++ i :: y2).map (fun i => la.getD i 0))) (hG : GO ls (y1 ++ i :: y2)) (hlok : ∀ j, j < ls.length → ln_ok (ln_at ls j)) (hxa : xa = nI a) (hxb : xb = nI b) (hxd : xd = nI td) (hab : a ≤ b) (ha : a < 2 ^ 31) (hb9 : b < 2 ^ 31) (hb1 : (ln_at ls i).1 ≤ b) (ha1 : a ≤ (ln_at ls i).2.1) (htd : td ≤ 100000) (hn : n + 15000 ≤ ex_NM) (hk : k + 60000 ≤ ex_KM) {to : Option Nat} {xt : Int32} (hxt : xt = eN to) (hto : ∀ t, to = some t → t < 60) (hlen : ls.length + (lc a b td to (ln_at ls i)).length ≤ 1500) : ex_M g 9 mX4_passOne [.ref l, .ref (la.getD i 0), .int xa, .int xb, .int xt, .int xd] S n k (pg g S ow l c4 c5 ls n k (ls.set i (ln_end (ln_at ls i) td) ++ lc a b td to (ln_at ls i))) := by
  have hl9 : ∀ to', (lc a b td to' (ln_at ls i)).length = (if (ln_at ls i).1 < a then 1 else 0) + (if b < (ln_at ls i).2.1 then 1 else 0) + (if to' = none then 0 else 1) := fun to' => lc_len a b td to' (ln_at ls i)
  cases to with
  | none =>
    by_cases hB1 : (ln_at ls i).1 < a
    · by_cases hB2 : b < (ln_at ls i).2.1
      · have hL : ls.set i (ln_end (ln_at ls i) td) ++ lc a b td none (ln_at ls i) = ((ls.set i (ln_end (ln_at ls i) td) ++ [((ln_at ls i).1, a - 1, (ln_at ls i).2.2.1, (ln_at ls i).2.2.2.1, none)]) ++ [(b + 1, (ln_at ls i).2.1, (ln_at ls i).2.2.1, (ln_at ls i).2.2.2.1, none)]) := by
          unfold lc lc1 lc2 lc3
          rw [if_pos hB1, if_pos hB2]
          simp
        rw [hL]
        refine c_pass_110 g hl hN hZ hG hlok hxa hxb hxd hab ha hb9 hb1 ha1 htd hn hk hB1 hB2 hxt ?_
        have z := hl9 none
        rw [if_pos hB1, if_pos hB2, if_pos rfl] at z
        omega
      · have hL : ls.set i (ln_end (ln_at ls i) td) ++ lc a b td none (ln_at ls i) = (ls.set i (ln_end (ln_at ls i) td) ++ [((ln_at ls i).1, a - 1, (ln_at ls i).2.2.1, (ln_at ls i).2.2.2.1, none)]) := by
          unfold lc lc1 lc2 lc3
          rw [if_pos hB1, if_neg hB2]
          simp
        rw [hL]
        refine c_pass_100 g hl hN hZ hG hlok hxa hxb hxd hab ha hb9 hb1 ha1 htd hn hk hB1 hB2 hxt ?_
        have z := hl9 none
        rw [if_pos hB1, if_neg hB2, if_pos rfl] at z
        omega
    · by_cases hB2 : b < (ln_at ls i).2.1
      · have hL : ls.set i (ln_end (ln_at ls i) td) ++ lc a b td none (ln_at ls i) = (ls.set i (ln_end (ln_at ls i) td) ++ [(b + 1, (ln_at ls i).2.1, (ln_at ls i).2.2.1, (ln_at ls i).2.2.2.1, none)]) := by
          unfold lc lc1 lc2 lc3
          rw [if_neg hB1, if_pos hB2]
          simp
        rw [hL]
        refine c_pass_010 g hl hN hZ hG hlok hxa hxb hxd hab ha hb9 hb1 ha1 htd hn hk hB1 hB2 hxt ?_
        have z := hl9 none
        rw [if_neg hB1, if_pos hB2, if_pos rfl] at z
        omega
      · have hL : ls.set i (ln_end (ln_at ls i) td) ++ lc a b td none (ln_at ls i) = ls.set i (ln_end (ln_at ls i) td) := by
          unfold lc lc1 lc2 lc3
          rw [if_neg hB1, if_neg hB2]
          simp
        rw [hL]
        refine c_pass_000 g hl hN hZ hG hlok hxa hxb hxd hab ha hb9 hb1 ha1 htd hn hk hB1 hB2 hxt ?_
        have z := hl9 none
        rw [if_neg hB1, if_neg hB2, if_pos rfl] at z
        omega
  | some t0 =>
    by_cases hB1 : (ln_at ls i).1 < a
    · by_cases hB2 : b < (ln_at ls i).2.1
      · have hL : ls.set i (ln_end (ln_at ls i) td) ++ lc a b td (some t0) (ln_at ls i) = (((ls.set i (ln_end (ln_at ls i) td) ++ [((ln_at ls i).1, a - 1, (ln_at ls i).2.2.1, (ln_at ls i).2.2.2.1, none)]) ++ [(b + 1, (ln_at ls i).2.1, (ln_at ls i).2.2.1, (ln_at ls i).2.2.2.1, none)]) ++ [(max (ln_at ls i).1 a, min (ln_at ls i).2.1 b, t0, td, none)]) := by
          unfold lc lc1 lc2 lc3
          rw [if_pos hB1, if_pos hB2]
          simp
        rw [hL]
        refine c_pass_111 g hl hN hZ hG hlok hxa hxb hxd hab ha hb9 hb1 ha1 htd hn hk hB1 hB2 (hto t0 rfl) hxt ?_
        have z := hl9 (some t0)
        rw [if_pos hB1, if_pos hB2, if_neg (by simp)] at z
        omega
      · have hL : ls.set i (ln_end (ln_at ls i) td) ++ lc a b td (some t0) (ln_at ls i) = ((ls.set i (ln_end (ln_at ls i) td) ++ [((ln_at ls i).1, a - 1, (ln_at ls i).2.2.1, (ln_at ls i).2.2.2.1, none)]) ++ [(max (ln_at ls i).1 a, min (ln_at ls i).2.1 b, t0, td, none)]) := by
          unfold lc lc1 lc2 lc3
          rw [if_pos hB1, if_neg hB2]
          simp
        rw [hL]
        refine c_pass_101 g hl hN hZ hG hlok hxa hxb hxd hab ha hb9 hb1 ha1 htd hn hk hB1 hB2 (hto t0 rfl) hxt ?_
        have z := hl9 (some t0)
        rw [if_pos hB1, if_neg hB2, if_neg (by simp)] at z
        omega
    · by_cases hB2 : b < (ln_at ls i).2.1
      · have hL : ls.set i (ln_end (ln_at ls i) td) ++ lc a b td (some t0) (ln_at ls i) = ((ls.set i (ln_end (ln_at ls i) td) ++ [(b + 1, (ln_at ls i).2.1, (ln_at ls i).2.2.1, (ln_at ls i).2.2.2.1, none)]) ++ [(max (ln_at ls i).1 a, min (ln_at ls i).2.1 b, t0, td, none)]) := by
          unfold lc lc1 lc2 lc3
          rw [if_neg hB1, if_pos hB2]
          simp
        rw [hL]
        refine c_pass_011 g hl hN hZ hG hlok hxa hxb hxd hab ha hb9 hb1 ha1 htd hn hk hB1 hB2 (hto t0 rfl) hxt ?_
        have z := hl9 (some t0)
        rw [if_neg hB1, if_pos hB2, if_neg (by simp)] at z
        omega
      · have hL : ls.set i (ln_end (ln_at ls i) td) ++ lc a b td (some t0) (ln_at ls i) = (ls.set i (ln_end (ln_at ls i) td) ++ [(max (ln_at ls i).1 a, min (ln_at ls i).2.1 b, t0, td, none)]) := by
          unfold lc lc1 lc2 lc3
          rw [if_neg hB1, if_neg hB2]
          simp
        rw [hL]
        refine c_pass_001 g hl hN hZ hG hlok hxa hxb hxd hab ha hb9 hb1 ha1 htd hn hk hB1 hB2 (hto t0 rfl) hxt ?_
        have z := hl9 (some t0)
        rw [if_neg hB1, if_neg hB2, if_neg (by simp)] at z
        omega
