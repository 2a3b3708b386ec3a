/-! lists taken apart at a place -/
theorem rp_ins (b : Nat) (l2 : List Nat) : ∀ l1 : List Nat, (l1 ++ l2).insertIdx l1.length b = l1 ++ b :: l2
  | [] => by simp
  | x :: l1 => by simp [rp_ins b l2 l1]
theorem rp_ins1 (z b : Nat) (l2 l1 : List Nat) : (l1 ++ z :: l2).insertIdx (l1.length + 1) b = l1 ++ z :: b :: l2 := by
  have := rp_ins b l2 (l1 ++ [z])
  simpa using this
theorem rp_set (z b : Nat) (l2 : List Nat) : ∀ l1 : List Nat, (l1 ++ z :: l2).set l1.length b = l1 ++ b :: l2
  | [] => by simp
  | x :: l1 => by simp [rp_set z b l2 l1]
theorem rp_del (z : Nat) (l2 : List Nat) : ∀ l1 : List Nat, (l1 ++ z :: l2).eraseIdx l1.length = l1 ++ l2
  | [] => by simp
  | x :: l1 => by simp [rp_del z l2 l1]
theorem rp_at (z : Nat) (l1 l2 : List Nat) : (l1 ++ z :: l2)[l1.length]? = some z := by simp
set_option maxRecDepth 20000 in
set_option maxHeartbeats 4000000 in
theorem c_repl_000 (g : gl_T) {S : hs_T} {n k l c0 z : Nat}  {ow : Nat → Nat} {l1 l2 : List Nat} {xp : Int32} (h : GZ g S ow l c0 (l1 ++ z :: l2)) (hxp : xp = nI l1.length) (hlen : (l1 ++ z :: l2).length ≤ 1500) (hn : n + 6000 ≤ ex_NM) (hk : k + 30000 ≤ ex_KM)  : ex_M g 8 mX4_replaceAmongGoing [.ref l, .int xp, .null, .null, .null] S n k (fun r S' n' k' => r = .inl none ∧ ∃ ow' c', CK ow ow' [] [5] S S' ∧ CL g S' ow' 5 l 1 5 c' (l1 ++ l2) ∧ c0 ≤ c' ∧ n' + c0 ≤ n + c' ∧ k' + 4 * c0 ≤ k + 4 * c') := by
  obtain ⟨hl0, a5_0, e0, r0, m0, o0, u0⟩ := id h
  have hcb0 : c0 ≤ 5000 := m0.2.1.2
  have hln0 : (l1 ++ z :: l2).length ≤ 1510 := by omega
  refine ex_enter (by decide +kernel) (Nat.le_of_ble_eq_true rfl) ?_
  show ex_W _ _ _ _ 0 [(0, .ref l), (1, .int xp), (2, .null), (3, .null), (4, .null)] [] _ _ _
  refine ex_iload_n dX4_replaceAmongGoing_0 1 rfl ?_
  refine ex_if_lt (tgt := 15) dX4_replaceAmongGoing_1 (by decide) (fun c1 => absurd c1 (by rw [hxp]; exact nI_pos (by simp at hlen; omega))) (fun c1 => ?_)
  refine ex_iload_n dX4_replaceAmongGoing_4 1 rfl ?_
  refine ex_aload_n dX4_replaceAmongGoing_5 0 rfl ?_
  refine ex_getR (b := a5_0) dX4_replaceAmongGoing_6 fl_X4_18 hl0.1 hl0.2 r0 ?_
  refine ex_cVr [] [.int xp] dX4_replaceAmongGoing_9 cV_X4_26 (c_szn g m0 rfl) m0.1.1 m0.1.2.1 rfl rfl rfl (by decide) (Nat.le_of_ble_eq_true rfl) rfl ?_
  refine ex_icmp_lt (tgt := 16) dX4_replaceAmongGoing_12 (by decide) (fun c12 => ?_) (fun c12 => absurd (by rw [hxp]; exact nI_lt (by simp) (by omega)) c12)
  refine ex_aloadN dX4_replaceAmongGoing_16 4 rfl ?_
  refine ex_ifnullN (tgt := 33) dX4_replaceAmongGoing_18 (by decide) ?_
  refine ex_aload_nN dX4_replaceAmongGoing_33 3 rfl ?_
  refine ex_ifnullN (tgt := 50) dX4_replaceAmongGoing_34 (by decide) ?_
  refine ex_aload_n dX4_replaceAmongGoing_50 0 rfl ?_
  refine ex_getR (b := a5_0) dX4_replaceAmongGoing_51 fl_X4_18 hl0.1 hl0.2 r0 ?_
  refine ex_iload_n dX4_replaceAmongGoing_54 1 rfl ?_
  refine ex_c1 (fun hE0 => ?_)
  refine ex_cVg [.int xp] [] dX4_replaceAmongGoing_55 cV_X4_117 (c_AL_remove g m0 (by omega) (b := z) hxp (rp_at _ _ _)) m0.1.1 m0.1.2.1 rfl rfl rfl (by decide) (Nat.le_of_ble_eq_true rfl) rfl ?_ (fun E S' n' k' h => by obtain ⟨h1, -⟩ := h; cases h1)
  rintro v' S1 n1 k1 ⟨hr0, hpo0⟩
  cases hr0
  obtain ⟨ow1, c1, hC1, hL1, hc1, hnn1, hkk1⟩ := CL_po ⟨hl0.1, Or.inr (Or.inl hl0.2)⟩ r0 m0 o0 u0 hE0 hpo0 (Or.inr (by have := m0.2.1.1; simp at this; omega))
  rw [rp_del] at hL1
  have hl1 : l ∈ hs_L S1 ∧ hs_K S1 l = 4 := ⟨(hC1.1 l hl0.1).1, (hC1.1 l hl0.1).2.1.trans hl0.2⟩
  obtain ⟨a5_1, e1, r1, m1, o1, u1⟩ := id hL1
  have hcb1 : c1 ≤ 5000 := m1.2.1.2
  have hln1 : (l1 ++ l2).length ≤ 1510 := by simp at hlen ⊢; omega
  show ex_W _ _ _ _ 58 [(0, .ref l), (1, .int xp), (2, .null), (3, .null), (4, .null)] [.ref z] S1 n1 k1
  refine ex_pop dX4_replaceAmongGoing_58 rfl ?_
  refine ex_aload_nN dX4_replaceAmongGoing_59 2 rfl ?_
  refine ex_ifnullN (tgt := 72) dX4_replaceAmongGoing_60 (by decide) ?_
  exact ex_vrt rfl dX4_replaceAmongGoing_72 ⟨rfl, ow1, c1, hC1, hL1, by omega, by omega, by omega⟩
set_option maxRecDepth 20000 in
set_option maxHeartbeats 4000000 in
theorem c_repl_001 (g : gl_T) {S : hs_T} {n k l c0 z : Nat} {q3 : Nat} {ow : Nat → Nat} {l1 l2 : List Nat} {xp : Int32} (h : GZ g S ow l c0 (l1 ++ z :: l2)) (hxp : xp = nI l1.length) (hlen : (l1 ++ z :: l2).length ≤ 1500) (hn : n + 6000 ≤ ex_NM) (hk : k + 30000 ≤ ex_KM) (hq3_0 : q3 ∈ hs_L S ∧ hs_K S q3 = 5) : ex_M g 8 mX4_replaceAmongGoing [.ref l, .int xp, .null, .null, .ref q3] S n k (fun r S' n' k' => r = .inl none ∧ ∃ ow' c', CK ow ow' [] [5] S S' ∧ CL g S' ow' 5 l 1 5 c' (l1 ++ q3 :: l2) ∧ c0 ≤ c' ∧ n' + c0 ≤ n + c' ∧ k' + 4 * c0 ≤ k + 4 * c') := by
  obtain ⟨hl0, a5_0, e0, r0, m0, o0, u0⟩ := id h
  have hcb0 : c0 ≤ 5000 := m0.2.1.2
  have hln0 : (l1 ++ z :: l2).length ≤ 1510 := by omega
  refine ex_enter (by decide +kernel) (Nat.le_of_ble_eq_true rfl) ?_
  show ex_W _ _ _ _ 0 [(0, .ref l), (1, .int xp), (2, .null), (3, .null), (4, .ref q3)] [] _ _ _
  refine ex_iload_n dX4_replaceAmongGoing_0 1 rfl ?_
  refine ex_if_lt (tgt := 15) dX4_replaceAmongGoing_1 (by decide) (fun c1 => absurd c1 (by rw [hxp]; exact nI_pos (by simp at hlen; omega))) (fun c1 => ?_)
  refine ex_iload_n dX4_replaceAmongGoing_4 1 rfl ?_
  refine ex_aload_n dX4_replaceAmongGoing_5 0 rfl ?_
  refine ex_getR (b := a5_0) dX4_replaceAmongGoing_6 fl_X4_18 hl0.1 hl0.2 r0 ?_
  refine ex_cVr [] [.int xp] dX4_replaceAmongGoing_9 cV_X4_26 (c_szn g m0 rfl) m0.1.1 m0.1.2.1 rfl rfl rfl (by decide) (Nat.le_of_ble_eq_true rfl) rfl ?_
  refine ex_icmp_lt (tgt := 16) dX4_replaceAmongGoing_12 (by decide) (fun c12 => ?_) (fun c12 => absurd (by rw [hxp]; exact nI_lt (by simp) (by omega)) c12)
  refine ex_aload dX4_replaceAmongGoing_16 4 rfl ?_
  refine ex_ifnull dX4_replaceAmongGoing_18 ?_
  refine ex_aload_n dX4_replaceAmongGoing_21 0 rfl ?_
  refine ex_getR (b := a5_0) dX4_replaceAmongGoing_22 fl_X4_18 hl0.1 hl0.2 r0 ?_
  refine ex_iload_n dX4_replaceAmongGoing_25 1 rfl ?_
  refine ex_iconst (v := 1) dX4_replaceAmongGoing_26 (by decide) ?_
  refine ex_iadd dX4_replaceAmongGoing_27 ?_
  refine ex_aload dX4_replaceAmongGoing_28 4 rfl ?_
  refine ex_c1 (fun hE0 => ?_)
  refine ex_cVg [.int (xp + 1), .ref q3] [] dX4_replaceAmongGoing_30 cV_X4_110 (c_AL_ins g m0 ⟨hq3_0.1, hq3_0.2, by decide⟩ (by omega) (j := l1.length + 1) (by rw [hxp]; exact nI_1 _) (by simp) (by omega) (by omega)) m0.1.1 m0.1.2.1 rfl rfl rfl (by decide) (Nat.le_of_ble_eq_true rfl) rfl ?_ (fun E S' n' k' h => by obtain ⟨h1, -⟩ := h; cases h1)
  rintro v' S1 n1 k1 ⟨hr0, hpo0⟩
  cases hr0
  obtain ⟨ow1, c1, hC1, hL1, hc1, hnn1, hkk1⟩ := CL_po ⟨hl0.1, Or.inr (Or.inl hl0.2)⟩ r0 m0 o0 u0 hE0 hpo0 (Or.inl (by rw [List.length_insertIdx_of_le_length (by simp)]; omega))
  rw [rp_ins1] at hL1
  have hl1 : l ∈ hs_L S1 ∧ hs_K S1 l = 4 := ⟨(hC1.1 l hl0.1).1, (hC1.1 l hl0.1).2.1.trans hl0.2⟩
  obtain ⟨a5_1, e1, r1, m1, o1, u1⟩ := id hL1
  have hcb1 : c1 ≤ 5000 := m1.2.1.2
  have hln1 : (l1 ++ z :: q3 :: l2).length ≤ 1510 := by simp at hlen ⊢; omega
  have hq3_1 : q3 ∈ hs_L S1 ∧ hs_K S1 q3 = 5 := ⟨(hC1.1 _ hq3_0.1).1, (hC1.1 _ hq3_0.1).2.1.trans hq3_0.2⟩
  show ex_W _ _ _ _ 33 [(0, .ref l), (1, .int xp), (2, .null), (3, .null), (4, .ref q3)] [] S1 n1 k1
  refine ex_aload_nN dX4_replaceAmongGoing_33 3 rfl ?_
  refine ex_ifnullN (tgt := 50) dX4_replaceAmongGoing_34 (by decide) ?_
  refine ex_aload_n dX4_replaceAmongGoing_50 0 rfl ?_
  refine ex_getR (b := a5_1) dX4_replaceAmongGoing_51 fl_X4_18 hl1.1 hl1.2 r1 ?_
  refine ex_iload_n dX4_replaceAmongGoing_54 1 rfl ?_
  refine ex_c1 (fun hE1 => ?_)
  refine ex_cVg [.int xp] [] dX4_replaceAmongGoing_55 cV_X4_117 (c_AL_remove g m1 (by omega) (b := z) hxp (rp_at _ _ _)) m1.1.1 m1.1.2.1 rfl rfl rfl (by decide) (Nat.le_of_ble_eq_true rfl) rfl ?_ (fun E S' n' k' h => by obtain ⟨h1, -⟩ := h; cases h1)
  rintro v' S2 n2 k2 ⟨hr1, hpo1⟩
  cases hr1
  obtain ⟨ow2, c2, hC2, hL2, hc2, hnn2, hkk2⟩ := CL_po ⟨hl1.1, Or.inr (Or.inl hl1.2)⟩ r1 m1 o1 u1 hE1 hpo1 (Or.inr (by have := m1.2.1.1; simp at this; omega))
  rw [rp_del] at hL2
  have hl2 : l ∈ hs_L S2 ∧ hs_K S2 l = 4 := ⟨(hC2.1 l hl1.1).1, (hC2.1 l hl1.1).2.1.trans hl1.2⟩
  obtain ⟨a5_2, e2, r2, m2, o2, u2⟩ := id hL2
  have hcb2 : c2 ≤ 5000 := m2.2.1.2
  have hln2 : (l1 ++ q3 :: l2).length ≤ 1510 := by simp at hlen ⊢; omega
  have hq3_2 : q3 ∈ hs_L S2 ∧ hs_K S2 q3 = 5 := ⟨(hC2.1 _ hq3_1.1).1, (hC2.1 _ hq3_1.1).2.1.trans hq3_1.2⟩
  show ex_W _ _ _ _ 58 [(0, .ref l), (1, .int xp), (2, .null), (3, .null), (4, .ref q3)] [.ref z] S2 n2 k2
  refine ex_pop dX4_replaceAmongGoing_58 rfl ?_
  refine ex_aload_nN dX4_replaceAmongGoing_59 2 rfl ?_
  refine ex_ifnullN (tgt := 72) dX4_replaceAmongGoing_60 (by decide) ?_
  exact ex_vrt rfl dX4_replaceAmongGoing_72 ⟨rfl, ow2, c2, CK_tr (hC1) hC2, hL2, by omega, by omega, by omega⟩
set_option maxRecDepth 20000 in
set_option maxHeartbeats 4000000 in
theorem c_repl_010 (g : gl_T) {S : hs_T} {n k l c0 z : Nat} {q2 : Nat} {ow : Nat → Nat} {l1 l2 : List Nat} {xp : Int32} (h : GZ g S ow l c0 (l1 ++ z :: l2)) (hxp : xp = nI l1.length) (hlen : (l1 ++ z :: l2).length ≤ 1500) (hn : n + 6000 ≤ ex_NM) (hk : k + 30000 ≤ ex_KM) (hq2_0 : q2 ∈ hs_L S ∧ hs_K S q2 = 5) : ex_M g 8 mX4_replaceAmongGoing [.ref l, .int xp, .null, .ref q2, .null] S n k (fun r S' n' k' => r = .inl none ∧ ∃ ow' c', CK ow ow' [] [5] S S' ∧ CL g S' ow' 5 l 1 5 c' (l1 ++ q2 :: l2) ∧ c0 ≤ c' ∧ n' + c0 ≤ n + c' ∧ k' + 4 * c0 ≤ k + 4 * c') := by
  obtain ⟨hl0, a5_0, e0, r0, m0, o0, u0⟩ := id h
  have hcb0 : c0 ≤ 5000 := m0.2.1.2
  have hln0 : (l1 ++ z :: l2).length ≤ 1510 := by omega
  refine ex_enter (by decide +kernel) (Nat.le_of_ble_eq_true rfl) ?_
  show ex_W _ _ _ _ 0 [(0, .ref l), (1, .int xp), (2, .null), (3, .ref q2), (4, .null)] [] _ _ _
  refine ex_iload_n dX4_replaceAmongGoing_0 1 rfl ?_
  refine ex_if_lt (tgt := 15) dX4_replaceAmongGoing_1 (by decide) (fun c1 => absurd c1 (by rw [hxp]; exact nI_pos (by simp at hlen; omega))) (fun c1 => ?_)
  refine ex_iload_n dX4_replaceAmongGoing_4 1 rfl ?_
  refine ex_aload_n dX4_replaceAmongGoing_5 0 rfl ?_
  refine ex_getR (b := a5_0) dX4_replaceAmongGoing_6 fl_X4_18 hl0.1 hl0.2 r0 ?_
  refine ex_cVr [] [.int xp] dX4_replaceAmongGoing_9 cV_X4_26 (c_szn g m0 rfl) m0.1.1 m0.1.2.1 rfl rfl rfl (by decide) (Nat.le_of_ble_eq_true rfl) rfl ?_
  refine ex_icmp_lt (tgt := 16) dX4_replaceAmongGoing_12 (by decide) (fun c12 => ?_) (fun c12 => absurd (by rw [hxp]; exact nI_lt (by simp) (by omega)) c12)
  refine ex_aloadN dX4_replaceAmongGoing_16 4 rfl ?_
  refine ex_ifnullN (tgt := 33) dX4_replaceAmongGoing_18 (by decide) ?_
  refine ex_aload_n dX4_replaceAmongGoing_33 3 rfl ?_
  refine ex_ifnull dX4_replaceAmongGoing_34 ?_
  refine ex_aload_n dX4_replaceAmongGoing_37 0 rfl ?_
  refine ex_getR (b := a5_0) dX4_replaceAmongGoing_38 fl_X4_18 hl0.1 hl0.2 r0 ?_
  refine ex_iload_n dX4_replaceAmongGoing_41 1 rfl ?_
  refine ex_aload_n dX4_replaceAmongGoing_42 3 rfl ?_
  refine ex_c1 (fun hE0 => ?_)
  refine ex_cVg [.int xp, .ref q2] [] dX4_replaceAmongGoing_43 cV_X4_113 (c_AL_set g m0 ⟨hq2_0.1, hq2_0.2, by decide⟩ (b := z) hxp (rp_at _ _ _)) m0.1.1 m0.1.2.1 rfl rfl rfl (by decide) (Nat.le_of_ble_eq_true rfl) rfl ?_ (fun E S' n' k' h => by obtain ⟨h1, -⟩ := h; cases h1)
  rintro v' S1 n1 k1 ⟨hr0, hpo0⟩
  cases hr0
  obtain ⟨ow1, c1, hC1, hL1, hc1, hnn1, hkk1⟩ := CL_po ⟨hl0.1, Or.inr (Or.inl hl0.2)⟩ r0 m0 o0 u0 hE0 hpo0 (Or.inl (by rw [List.length_set]; exact Nat.le_refl _))
  rw [rp_set] at hL1
  have hl1 : l ∈ hs_L S1 ∧ hs_K S1 l = 4 := ⟨(hC1.1 l hl0.1).1, (hC1.1 l hl0.1).2.1.trans hl0.2⟩
  obtain ⟨a5_1, e1, r1, m1, o1, u1⟩ := id hL1
  have hcb1 : c1 ≤ 5000 := m1.2.1.2
  have hln1 : (l1 ++ q2 :: l2).length ≤ 1510 := by simp at hlen ⊢; omega
  have hq2_1 : q2 ∈ hs_L S1 ∧ hs_K S1 q2 = 5 := ⟨(hC1.1 _ hq2_0.1).1, (hC1.1 _ hq2_0.1).2.1.trans hq2_0.2⟩
  show ex_W _ _ _ _ 46 [(0, .ref l), (1, .int xp), (2, .null), (3, .ref q2), (4, .null)] [.ref z] S1 n1 k1
  refine ex_pop dX4_replaceAmongGoing_46 rfl ?_
  refine ex_goto (tgt := 59) dX4_replaceAmongGoing_47 (by decide) ?_
  refine ex_aload_nN dX4_replaceAmongGoing_59 2 rfl ?_
  refine ex_ifnullN (tgt := 72) dX4_replaceAmongGoing_60 (by decide) ?_
  exact ex_vrt rfl dX4_replaceAmongGoing_72 ⟨rfl, ow1, c1, hC1, hL1, by omega, by omega, by omega⟩
set_option maxRecDepth 20000 in
set_option maxHeartbeats 4000000 in
theorem c_repl_011 (g : gl_T) {S : hs_T} {n k l c0 z : Nat} {q2 q3 : Nat} {ow : Nat → Nat} {l1 l2 : List Nat} {xp : Int32} (h : GZ g S ow l c0 (l1 ++ z :: l2)) (hxp : xp = nI l1.length) (hlen : (l1 ++ z :: l2).length ≤ 1500) (hn : n + 6000 ≤ ex_NM) (hk : k + 30000 ≤ ex_KM) (hq2_0 : q2 ∈ hs_L S ∧ hs_K S q2 = 5) (hq3_0 : q3 ∈ hs_L S ∧ hs_K S q3 = 5) : ex_M g 8 mX4_replaceAmongGoing [.ref l, .int xp, .null, .ref q2, .ref q3] S n k (fun r S' n' k' => r = .inl none ∧ ∃ ow' c', CK ow ow' [] [5] S S' ∧ CL g S' ow' 5 l 1 5 c' (l1 ++ q2 :: q3 :: l2) ∧ c0 ≤ c' ∧ n' + c0 ≤ n + c' ∧ k' + 4 * c0 ≤ k + 4 * c') := by
  obtain ⟨hl0, a5_0, e0, r0, m0, o0, u0⟩ := id h
  have hcb0 : c0 ≤ 5000 := m0.2.1.2
  have hln0 : (l1 ++ z :: l2).length ≤ 1510 := by omega
  refine ex_enter (by decide +kernel) (Nat.le_of_ble_eq_true rfl) ?_
  show ex_W _ _ _ _ 0 [(0, .ref l), (1, .int xp), (2, .null), (3, .ref q2), (4, .ref q3)] [] _ _ _
  refine ex_iload_n dX4_replaceAmongGoing_0 1 rfl ?_
  refine ex_if_lt (tgt := 15) dX4_replaceAmongGoing_1 (by decide) (fun c1 => absurd c1 (by rw [hxp]; exact nI_pos (by simp at hlen; omega))) (fun c1 => ?_)
  refine ex_iload_n dX4_replaceAmongGoing_4 1 rfl ?_
  refine ex_aload_n dX4_replaceAmongGoing_5 0 rfl ?_
  refine ex_getR (b := a5_0) dX4_replaceAmongGoing_6 fl_X4_18 hl0.1 hl0.2 r0 ?_
  refine ex_cVr [] [.int xp] dX4_replaceAmongGoing_9 cV_X4_26 (c_szn g m0 rfl) m0.1.1 m0.1.2.1 rfl rfl rfl (by decide) (Nat.le_of_ble_eq_true rfl) rfl ?_
  refine ex_icmp_lt (tgt := 16) dX4_replaceAmongGoing_12 (by decide) (fun c12 => ?_) (fun c12 => absurd (by rw [hxp]; exact nI_lt (by simp) (by omega)) c12)
  refine ex_aload dX4_replaceAmongGoing_16 4 rfl ?_
  refine ex_ifnull dX4_replaceAmongGoing_18 ?_
  refine ex_aload_n dX4_replaceAmongGoing_21 0 rfl ?_
  refine ex_getR (b := a5_0) dX4_replaceAmongGoing_22 fl_X4_18 hl0.1 hl0.2 r0 ?_
  refine ex_iload_n dX4_replaceAmongGoing_25 1 rfl ?_
  refine ex_iconst (v := 1) dX4_replaceAmongGoing_26 (by decide) ?_
  refine ex_iadd dX4_replaceAmongGoing_27 ?_
  refine ex_aload dX4_replaceAmongGoing_28 4 rfl ?_
  refine ex_c1 (fun hE0 => ?_)
  refine ex_cVg [.int (xp + 1), .ref q3] [] dX4_replaceAmongGoing_30 cV_X4_110 (c_AL_ins g m0 ⟨hq3_0.1, hq3_0.2, by decide⟩ (by omega) (j := l1.length + 1) (by rw [hxp]; exact nI_1 _) (by simp) (by omega) (by omega)) m0.1.1 m0.1.2.1 rfl rfl rfl (by decide) (Nat.le_of_ble_eq_true rfl) rfl ?_ (fun E S' n' k' h => by obtain ⟨h1, -⟩ := h; cases h1)
  rintro v' S1 n1 k1 ⟨hr0, hpo0⟩
  cases hr0
  obtain ⟨ow1, c1, hC1, hL1, hc1, hnn1, hkk1⟩ := CL_po ⟨hl0.1, Or.inr (Or.inl hl0.2)⟩ r0 m0 o0 u0 hE0 hpo0 (Or.inl (by rw [List.length_insertIdx_of_le_length (by simp)]; omega))
  rw [rp_ins1] at hL1
  have hl1 : l ∈ hs_L S1 ∧ hs_K S1 l = 4 := ⟨(hC1.1 l hl0.1).1, (hC1.1 l hl0.1).2.1.trans hl0.2⟩
  obtain ⟨a5_1, e1, r1, m1, o1, u1⟩ := id hL1
  have hcb1 : c1 ≤ 5000 := m1.2.1.2
  have hln1 : (l1 ++ z :: q3 :: l2).length ≤ 1510 := by simp at hlen ⊢; omega
  have hq2_1 : q2 ∈ hs_L S1 ∧ hs_K S1 q2 = 5 := ⟨(hC1.1 _ hq2_0.1).1, (hC1.1 _ hq2_0.1).2.1.trans hq2_0.2⟩
  have hq3_1 : q3 ∈ hs_L S1 ∧ hs_K S1 q3 = 5 := ⟨(hC1.1 _ hq3_0.1).1, (hC1.1 _ hq3_0.1).2.1.trans hq3_0.2⟩
  show ex_W _ _ _ _ 33 [(0, .ref l), (1, .int xp), (2, .null), (3, .ref q2), (4, .ref q3)] [] S1 n1 k1
  refine ex_aload_n dX4_replaceAmongGoing_33 3 rfl ?_
  refine ex_ifnull dX4_replaceAmongGoing_34 ?_
  refine ex_aload_n dX4_replaceAmongGoing_37 0 rfl ?_
  refine ex_getR (b := a5_1) dX4_replaceAmongGoing_38 fl_X4_18 hl1.1 hl1.2 r1 ?_
  refine ex_iload_n dX4_replaceAmongGoing_41 1 rfl ?_
  refine ex_aload_n dX4_replaceAmongGoing_42 3 rfl ?_
  refine ex_c1 (fun hE1 => ?_)
  refine ex_cVg [.int xp, .ref q2] [] dX4_replaceAmongGoing_43 cV_X4_113 (c_AL_set g m1 ⟨hq2_1.1, hq2_1.2, by decide⟩ (b := z) hxp (rp_at _ _ _)) m1.1.1 m1.1.2.1 rfl rfl rfl (by decide) (Nat.le_of_ble_eq_true rfl) rfl ?_ (fun E S' n' k' h => by obtain ⟨h1, -⟩ := h; cases h1)
  rintro v' S2 n2 k2 ⟨hr1, hpo1⟩
  cases hr1
  obtain ⟨ow2, c2, hC2, hL2, hc2, hnn2, hkk2⟩ := CL_po ⟨hl1.1, Or.inr (Or.inl hl1.2)⟩ r1 m1 o1 u1 hE1 hpo1 (Or.inl (by rw [List.length_set]; exact Nat.le_refl _))
  rw [rp_set] at hL2
  have hl2 : l ∈ hs_L S2 ∧ hs_K S2 l = 4 := ⟨(hC2.1 l hl1.1).1, (hC2.1 l hl1.1).2.1.trans hl1.2⟩
  obtain ⟨a5_2, e2, r2, m2, o2, u2⟩ := id hL2
  have hcb2 : c2 ≤ 5000 := m2.2.1.2
  have hln2 : (l1 ++ q2 :: q3 :: l2).length ≤ 1510 := by simp at hlen ⊢; omega
  have hq2_2 : q2 ∈ hs_L S2 ∧ hs_K S2 q2 = 5 := ⟨(hC2.1 _ hq2_1.1).1, (hC2.1 _ hq2_1.1).2.1.trans hq2_1.2⟩
  have hq3_2 : q3 ∈ hs_L S2 ∧ hs_K S2 q3 = 5 := ⟨(hC2.1 _ hq3_1.1).1, (hC2.1 _ hq3_1.1).2.1.trans hq3_1.2⟩
  show ex_W _ _ _ _ 46 [(0, .ref l), (1, .int xp), (2, .null), (3, .ref q2), (4, .ref q3)] [.ref z] S2 n2 k2
  refine ex_pop dX4_replaceAmongGoing_46 rfl ?_
  refine ex_goto (tgt := 59) dX4_replaceAmongGoing_47 (by decide) ?_
  refine ex_aload_nN dX4_replaceAmongGoing_59 2 rfl ?_
  refine ex_ifnullN (tgt := 72) dX4_replaceAmongGoing_60 (by decide) ?_
  exact ex_vrt rfl dX4_replaceAmongGoing_72 ⟨rfl, ow2, c2, CK_tr (hC1) hC2, hL2, by omega, by omega, by omega⟩
set_option maxRecDepth 20000 in
set_option maxHeartbeats 4000000 in
theorem c_repl_100 (g : gl_T) {S : hs_T} {n k l c0 z : Nat} {q1 : Nat} {ow : Nat → Nat} {l1 l2 : List Nat} {xp : Int32} (h : GZ g S ow l c0 (l1 ++ z :: l2)) (hxp : xp = nI l1.length) (hlen : (l1 ++ z :: l2).length ≤ 1500) (hn : n + 6000 ≤ ex_NM) (hk : k + 30000 ≤ ex_KM) (hq1_0 : q1 ∈ hs_L S ∧ hs_K S q1 = 5) : ex_M g 8 mX4_replaceAmongGoing [.ref l, .int xp, .ref q1, .null, .null] S n k (fun r S' n' k' => r = .inl none ∧ ∃ ow' c', CK ow ow' [] [5] S S' ∧ CL g S' ow' 5 l 1 5 c' (l1 ++ q1 :: l2) ∧ c0 ≤ c' ∧ n' + c0 ≤ n + c' ∧ k' + 4 * c0 ≤ k + 4 * c') := by
  obtain ⟨hl0, a5_0, e0, r0, m0, o0, u0⟩ := id h
  have hcb0 : c0 ≤ 5000 := m0.2.1.2
  have hln0 : (l1 ++ z :: l2).length ≤ 1510 := by omega
  refine ex_enter (by decide +kernel) (Nat.le_of_ble_eq_true rfl) ?_
  show ex_W _ _ _ _ 0 [(0, .ref l), (1, .int xp), (2, .ref q1), (3, .null), (4, .null)] [] _ _ _
  refine ex_iload_n dX4_replaceAmongGoing_0 1 rfl ?_
  refine ex_if_lt (tgt := 15) dX4_replaceAmongGoing_1 (by decide) (fun c1 => absurd c1 (by rw [hxp]; exact nI_pos (by simp at hlen; omega))) (fun c1 => ?_)
  refine ex_iload_n dX4_replaceAmongGoing_4 1 rfl ?_
  refine ex_aload_n dX4_replaceAmongGoing_5 0 rfl ?_
  refine ex_getR (b := a5_0) dX4_replaceAmongGoing_6 fl_X4_18 hl0.1 hl0.2 r0 ?_
  refine ex_cVr [] [.int xp] dX4_replaceAmongGoing_9 cV_X4_26 (c_szn g m0 rfl) m0.1.1 m0.1.2.1 rfl rfl rfl (by decide) (Nat.le_of_ble_eq_true rfl) rfl ?_
  refine ex_icmp_lt (tgt := 16) dX4_replaceAmongGoing_12 (by decide) (fun c12 => ?_) (fun c12 => absurd (by rw [hxp]; exact nI_lt (by simp) (by omega)) c12)
  refine ex_aloadN dX4_replaceAmongGoing_16 4 rfl ?_
  refine ex_ifnullN (tgt := 33) dX4_replaceAmongGoing_18 (by decide) ?_
  refine ex_aload_nN dX4_replaceAmongGoing_33 3 rfl ?_
  refine ex_ifnullN (tgt := 50) dX4_replaceAmongGoing_34 (by decide) ?_
  refine ex_aload_n dX4_replaceAmongGoing_50 0 rfl ?_
  refine ex_getR (b := a5_0) dX4_replaceAmongGoing_51 fl_X4_18 hl0.1 hl0.2 r0 ?_
  refine ex_iload_n dX4_replaceAmongGoing_54 1 rfl ?_
  refine ex_c1 (fun hE0 => ?_)
  refine ex_cVg [.int xp] [] dX4_replaceAmongGoing_55 cV_X4_117 (c_AL_remove g m0 (by omega) (b := z) hxp (rp_at _ _ _)) m0.1.1 m0.1.2.1 rfl rfl rfl (by decide) (Nat.le_of_ble_eq_true rfl) rfl ?_ (fun E S' n' k' h => by obtain ⟨h1, -⟩ := h; cases h1)
  rintro v' S1 n1 k1 ⟨hr0, hpo0⟩
  cases hr0
  obtain ⟨ow1, c1, hC1, hL1, hc1, hnn1, hkk1⟩ := CL_po ⟨hl0.1, Or.inr (Or.inl hl0.2)⟩ r0 m0 o0 u0 hE0 hpo0 (Or.inr (by have := m0.2.1.1; simp at this; omega))
  rw [rp_del] at hL1
  have hl1 : l ∈ hs_L S1 ∧ hs_K S1 l = 4 := ⟨(hC1.1 l hl0.1).1, (hC1.1 l hl0.1).2.1.trans hl0.2⟩
  obtain ⟨a5_1, e1, r1, m1, o1, u1⟩ := id hL1
  have hcb1 : c1 ≤ 5000 := m1.2.1.2
  have hln1 : (l1 ++ l2).length ≤ 1510 := by simp at hlen ⊢; omega
  have hq1_1 : q1 ∈ hs_L S1 ∧ hs_K S1 q1 = 5 := ⟨(hC1.1 _ hq1_0.1).1, (hC1.1 _ hq1_0.1).2.1.trans hq1_0.2⟩
  show ex_W _ _ _ _ 58 [(0, .ref l), (1, .int xp), (2, .ref q1), (3, .null), (4, .null)] [.ref z] S1 n1 k1
  refine ex_pop dX4_replaceAmongGoing_58 rfl ?_
  refine ex_aload_n dX4_replaceAmongGoing_59 2 rfl ?_
  refine ex_ifnull dX4_replaceAmongGoing_60 ?_
  refine ex_aload_n dX4_replaceAmongGoing_63 0 rfl ?_
  refine ex_getR (b := a5_1) dX4_replaceAmongGoing_64 fl_X4_18 hl1.1 hl1.2 r1 ?_
  refine ex_iload_n dX4_replaceAmongGoing_67 1 rfl ?_
  refine ex_aload_n dX4_replaceAmongGoing_68 2 rfl ?_
  refine ex_c1 (fun hE1 => ?_)
  refine ex_cVg [.int xp, .ref q1] [] dX4_replaceAmongGoing_69 cV_X4_110 (c_AL_ins g m1 ⟨hq1_1.1, hq1_1.2, by decide⟩ (by omega) (j := l1.length) hxp (by simp) (by omega) (by omega)) m1.1.1 m1.1.2.1 rfl rfl rfl (by decide) (Nat.le_of_ble_eq_true rfl) rfl ?_ (fun E S' n' k' h => by obtain ⟨h1, -⟩ := h; cases h1)
  rintro v' S2 n2 k2 ⟨hr1, hpo1⟩
  cases hr1
  obtain ⟨ow2, c2, hC2, hL2, hc2, hnn2, hkk2⟩ := CL_po ⟨hl1.1, Or.inr (Or.inl hl1.2)⟩ r1 m1 o1 u1 hE1 hpo1 (Or.inl (by rw [List.length_insertIdx_of_le_length (by simp)]; omega))
  rw [rp_ins] at hL2
  have hl2 : l ∈ hs_L S2 ∧ hs_K S2 l = 4 := ⟨(hC2.1 l hl1.1).1, (hC2.1 l hl1.1).2.1.trans hl1.2⟩
  obtain ⟨a5_2, e2, r2, m2, o2, u2⟩ := id hL2
  have hcb2 : c2 ≤ 5000 := m2.2.1.2
  have hln2 : (l1 ++ q1 :: l2).length ≤ 1510 := by simp at hlen ⊢; omega
  have hq1_2 : q1 ∈ hs_L S2 ∧ hs_K S2 q1 = 5 := ⟨(hC2.1 _ hq1_1.1).1, (hC2.1 _ hq1_1.1).2.1.trans hq1_1.2⟩
  show ex_W _ _ _ _ 72 [(0, .ref l), (1, .int xp), (2, .ref q1), (3, .null), (4, .null)] [] S2 n2 k2
  exact ex_vrt rfl dX4_replaceAmongGoing_72 ⟨rfl, ow2, c2, CK_tr (hC1) hC2, hL2, by omega, by omega, by omega⟩
set_option maxRecDepth 20000 in
set_option maxHeartbeats 4000000 in
theorem c_repl_101 (g : gl_T) {S : hs_T} {n k l c0 z : Nat} {q1 q3 : Nat} {ow : Nat → Nat} {l1 l2 : List Nat} {xp : Int32} (h : GZ g S ow l c0 (l1 ++ z :: l2)) (hxp : xp = nI l1.length) (hlen : (l1 ++ z :: l2).length ≤ 1500) (hn : n + 6000 ≤ ex_NM) (hk : k + 30000 ≤ ex_KM) (hq1_0 : q1 ∈ hs_L S ∧ hs_K S q1 = 5) (hq3_0 : q3 ∈ hs_L S ∧ hs_K S q3 = 5) : ex_M g 8 mX4_replaceAmongGoing [.ref l, .int xp, .ref q1, .null, .ref q3] S n k (fun r S' n' k' => r = .inl none ∧ ∃ ow' c', CK ow ow' [] [5] S S' ∧ CL g S' ow' 5 l 1 5 c' (l1 ++ q1 :: q3 :: l2) ∧ c0 ≤ c' ∧ n' + c0 ≤ n + c' ∧ k' + 4 * c0 ≤ k + 4 * c') := by
  obtain ⟨hl0, a5_0, e0, r0, m0, o0, u0⟩ := id h
  have hcb0 : c0 ≤ 5000 := m0.2.1.2
  have hln0 : (l1 ++ z :: l2).length ≤ 1510 := by omega
  refine ex_enter (by decide +kernel) (Nat.le_of_ble_eq_true rfl) ?_
  show ex_W _ _ _ _ 0 [(0, .ref l), (1, .int xp), (2, .ref q1), (3, .null), (4, .ref q3)] [] _ _ _
  refine ex_iload_n dX4_replaceAmongGoing_0 1 rfl ?_
  refine ex_if_lt (tgt := 15) dX4_replaceAmongGoing_1 (by decide) (fun c1 => absurd c1 (by rw [hxp]; exact nI_pos (by simp at hlen; omega))) (fun c1 => ?_)
  refine ex_iload_n dX4_replaceAmongGoing_4 1 rfl ?_
  refine ex_aload_n dX4_replaceAmongGoing_5 0 rfl ?_
  refine ex_getR (b := a5_0) dX4_replaceAmongGoing_6 fl_X4_18 hl0.1 hl0.2 r0 ?_
  refine ex_cVr [] [.int xp] dX4_replaceAmongGoing_9 cV_X4_26 (c_szn g m0 rfl) m0.1.1 m0.1.2.1 rfl rfl rfl (by decide) (Nat.le_of_ble_eq_true rfl) rfl ?_
  refine ex_icmp_lt (tgt := 16) dX4_replaceAmongGoing_12 (by decide) (fun c12 => ?_) (fun c12 => absurd (by rw [hxp]; exact nI_lt (by simp) (by omega)) c12)
  refine ex_aload dX4_replaceAmongGoing_16 4 rfl ?_
  refine ex_ifnull dX4_replaceAmongGoing_18 ?_
  refine ex_aload_n dX4_replaceAmongGoing_21 0 rfl ?_
  refine ex_getR (b := a5_0) dX4_replaceAmongGoing_22 fl_X4_18 hl0.1 hl0.2 r0 ?_
  refine ex_iload_n dX4_replaceAmongGoing_25 1 rfl ?_
  refine ex_iconst (v := 1) dX4_replaceAmongGoing_26 (by decide) ?_
  refine ex_iadd dX4_replaceAmongGoing_27 ?_
  refine ex_aload dX4_replaceAmongGoing_28 4 rfl ?_
  refine ex_c1 (fun hE0 => ?_)
  refine ex_cVg [.int (xp + 1), .ref q3] [] dX4_replaceAmongGoing_30 cV_X4_110 (c_AL_ins g m0 ⟨hq3_0.1, hq3_0.2, by decide⟩ (by omega) (j := l1.length + 1) (by rw [hxp]; exact nI_1 _) (by simp) (by omega) (by omega)) m0.1.1 m0.1.2.1 rfl rfl rfl (by decide) (Nat.le_of_ble_eq_true rfl) rfl ?_ (fun E S' n' k' h => by obtain ⟨h1, -⟩ := h; cases h1)
  rintro v' S1 n1 k1 ⟨hr0, hpo0⟩
  cases hr0
  obtain ⟨ow1, c1, hC1, hL1, hc1, hnn1, hkk1⟩ := CL_po ⟨hl0.1, Or.inr (Or.inl hl0.2)⟩ r0 m0 o0 u0 hE0 hpo0 (Or.inl (by rw [List.length_insertIdx_of_le_length (by simp)]; omega))
  rw [rp_ins1] at hL1
  have hl1 : l ∈ hs_L S1 ∧ hs_K S1 l = 4 := ⟨(hC1.1 l hl0.1).1, (hC1.1 l hl0.1).2.1.trans hl0.2⟩
  obtain ⟨a5_1, e1, r1, m1, o1, u1⟩ := id hL1
  have hcb1 : c1 ≤ 5000 := m1.2.1.2
  have hln1 : (l1 ++ z :: q3 :: l2).length ≤ 1510 := by simp at hlen ⊢; omega
  have hq1_1 : q1 ∈ hs_L S1 ∧ hs_K S1 q1 = 5 := ⟨(hC1.1 _ hq1_0.1).1, (hC1.1 _ hq1_0.1).2.1.trans hq1_0.2⟩
  have hq3_1 : q3 ∈ hs_L S1 ∧ hs_K S1 q3 = 5 := ⟨(hC1.1 _ hq3_0.1).1, (hC1.1 _ hq3_0.1).2.1.trans hq3_0.2⟩
  show ex_W _ _ _ _ 33 [(0, .ref l), (1, .int xp), (2, .ref q1), (3, .null), (4, .ref q3)] [] S1 n1 k1
  refine ex_aload_nN dX4_replaceAmongGoing_33 3 rfl ?_
  refine ex_ifnullN (tgt := 50) dX4_replaceAmongGoing_34 (by decide) ?_
  refine ex_aload_n dX4_replaceAmongGoing_50 0 rfl ?_
  refine ex_getR (b := a5_1) dX4_replaceAmongGoing_51 fl_X4_18 hl1.1 hl1.2 r1 ?_
  refine ex_iload_n dX4_replaceAmongGoing_54 1 rfl ?_
  refine ex_c1 (fun hE1 => ?_)
  refine ex_cVg [.int xp] [] dX4_replaceAmongGoing_55 cV_X4_117 (c_AL_remove g m1 (by omega) (b := z) hxp (rp_at _ _ _)) m1.1.1 m1.1.2.1 rfl rfl rfl (by decide) (Nat.le_of_ble_eq_true rfl) rfl ?_ (fun E S' n' k' h => by obtain ⟨h1, -⟩ := h; cases h1)
  rintro v' S2 n2 k2 ⟨hr1, hpo1⟩
  cases hr1
  obtain ⟨ow2, c2, hC2, hL2, hc2, hnn2, hkk2⟩ := CL_po ⟨hl1.1, Or.inr (Or.inl hl1.2)⟩ r1 m1 o1 u1 hE1 hpo1 (Or.inr (by have := m1.2.1.1; simp at this; omega))
  rw [rp_del] at hL2
  have hl2 : l ∈ hs_L S2 ∧ hs_K S2 l = 4 := ⟨(hC2.1 l hl1.1).1, (hC2.1 l hl1.1).2.1.trans hl1.2⟩
  obtain ⟨a5_2, e2, r2, m2, o2, u2⟩ := id hL2
  have hcb2 : c2 ≤ 5000 := m2.2.1.2
  have hln2 : (l1 ++ q3 :: l2).length ≤ 1510 := by simp at hlen ⊢; omega
  have hq1_2 : q1 ∈ hs_L S2 ∧ hs_K S2 q1 = 5 := ⟨(hC2.1 _ hq1_1.1).1, (hC2.1 _ hq1_1.1).2.1.trans hq1_1.2⟩
  have hq3_2 : q3 ∈ hs_L S2 ∧ hs_K S2 q3 = 5 := ⟨(hC2.1 _ hq3_1.1).1, (hC2.1 _ hq3_1.1).2.1.trans hq3_1.2⟩
  show ex_W _ _ _ _ 58 [(0, .ref l), (1, .int xp), (2, .ref q1), (3, .null), (4, .ref q3)] [.ref z] S2 n2 k2
  refine ex_pop dX4_replaceAmongGoing_58 rfl ?_
  refine ex_aload_n dX4_replaceAmongGoing_59 2 rfl ?_
  refine ex_ifnull dX4_replaceAmongGoing_60 ?_
  refine ex_aload_n dX4_replaceAmongGoing_63 0 rfl ?_
  refine ex_getR (b := a5_2) dX4_replaceAmongGoing_64 fl_X4_18 hl2.1 hl2.2 r2 ?_
  refine ex_iload_n dX4_replaceAmongGoing_67 1 rfl ?_
  refine ex_aload_n dX4_replaceAmongGoing_68 2 rfl ?_
  refine ex_c1 (fun hE2 => ?_)
  refine ex_cVg [.int xp, .ref q1] [] dX4_replaceAmongGoing_69 cV_X4_110 (c_AL_ins g m2 ⟨hq1_2.1, hq1_2.2, by decide⟩ (by omega) (j := l1.length) hxp (by simp) (by omega) (by omega)) m2.1.1 m2.1.2.1 rfl rfl rfl (by decide) (Nat.le_of_ble_eq_true rfl) rfl ?_ (fun E S' n' k' h => by obtain ⟨h1, -⟩ := h; cases h1)
  rintro v' S3 n3 k3 ⟨hr2, hpo2⟩
  cases hr2
  obtain ⟨ow3, c3, hC3, hL3, hc3, hnn3, hkk3⟩ := CL_po ⟨hl2.1, Or.inr (Or.inl hl2.2)⟩ r2 m2 o2 u2 hE2 hpo2 (Or.inl (by rw [List.length_insertIdx_of_le_length (by simp)]; omega))
  rw [rp_ins] at hL3
  have hl3 : l ∈ hs_L S3 ∧ hs_K S3 l = 4 := ⟨(hC3.1 l hl2.1).1, (hC3.1 l hl2.1).2.1.trans hl2.2⟩
  obtain ⟨a5_3, e3, r3, m3, o3, u3⟩ := id hL3
  have hcb3 : c3 ≤ 5000 := m3.2.1.2
  have hln3 : (l1 ++ q1 :: q3 :: l2).length ≤ 1510 := by simp at hlen ⊢; omega
  have hq1_3 : q1 ∈ hs_L S3 ∧ hs_K S3 q1 = 5 := ⟨(hC3.1 _ hq1_2.1).1, (hC3.1 _ hq1_2.1).2.1.trans hq1_2.2⟩
  have hq3_3 : q3 ∈ hs_L S3 ∧ hs_K S3 q3 = 5 := ⟨(hC3.1 _ hq3_2.1).1, (hC3.1 _ hq3_2.1).2.1.trans hq3_2.2⟩
  show ex_W _ _ _ _ 72 [(0, .ref l), (1, .int xp), (2, .ref q1), (3, .null), (4, .ref q3)] [] S3 n3 k3
  exact ex_vrt rfl dX4_replaceAmongGoing_72 ⟨rfl, ow3, c3, CK_tr (CK_tr (hC1) hC2) hC3, hL3, by omega, by omega, by omega⟩
set_option maxRecDepth 20000 in
set_option maxHeartbeats 4000000 in
theorem c_repl_110 (g : gl_T) {S : hs_T} {n k l c0 z : Nat} {q1 q2 : Nat} {ow : Nat → Nat} {l1 l2 : List Nat} {xp : Int32} (h : GZ g S ow l c0 (l1 ++ z :: l2)) (hxp : xp = nI l1.length) (hlen : (l1 ++ z :: l2).length ≤ 1500) (hn : n + 6000 ≤ ex_NM) (hk : k + 30000 ≤ ex_KM) (hq1_0 : q1 ∈ hs_L S ∧ hs_K S q1 = 5) (hq2_0 : q2 ∈ hs_L S ∧ hs_K S q2 = 5) : ex_M g 8 mX4_replaceAmongGoing [.ref l, .int xp, .ref q1, .ref q2, .null] S n k (fun r S' n' k' => r = .inl none ∧ ∃ ow' c', CK ow ow' [] [5] S S' ∧ CL g S' ow' 5 l 1 5 c' (l1 ++ q1 :: q2 :: l2) ∧ c0 ≤ c' ∧ n' + c0 ≤ n + c' ∧ k' + 4 * c0 ≤ k + 4 * c') := by
  obtain ⟨hl0, a5_0, e0, r0, m0, o0, u0⟩ := id h
  have hcb0 : c0 ≤ 5000 := m0.2.1.2
  have hln0 : (l1 ++ z :: l2).length ≤ 1510 := by omega
  refine ex_enter (by decide +kernel) (Nat.le_of_ble_eq_true rfl) ?_
  show ex_W _ _ _ _ 0 [(0, .ref l), (1, .int xp), (2, .ref q1), (3, .ref q2), (4, .null)] [] _ _ _
  refine ex_iload_n dX4_replaceAmongGoing_0 1 rfl ?_
  refine ex_if_lt (tgt := 15) dX4_replaceAmongGoing_1 (by decide) (fun c1 => absurd c1 (by rw [hxp]; exact nI_pos (by simp at hlen; omega))) (fun c1 => ?_)
  refine ex_iload_n dX4_replaceAmongGoing_4 1 rfl ?_
  refine ex_aload_n dX4_replaceAmongGoing_5 0 rfl ?_
  refine ex_getR (b := a5_0) dX4_replaceAmongGoing_6 fl_X4_18 hl0.1 hl0.2 r0 ?_
  refine ex_cVr [] [.int xp] dX4_replaceAmongGoing_9 cV_X4_26 (c_szn g m0 rfl) m0.1.1 m0.1.2.1 rfl rfl rfl (by decide) (Nat.le_of_ble_eq_true rfl) rfl ?_
  refine ex_icmp_lt (tgt := 16) dX4_replaceAmongGoing_12 (by decide) (fun c12 => ?_) (fun c12 => absurd (by rw [hxp]; exact nI_lt (by simp) (by omega)) c12)
  refine ex_aloadN dX4_replaceAmongGoing_16 4 rfl ?_
  refine ex_ifnullN (tgt := 33) dX4_replaceAmongGoing_18 (by decide) ?_
  refine ex_aload_n dX4_replaceAmongGoing_33 3 rfl ?_
  refine ex_ifnull dX4_replaceAmongGoing_34 ?_
  refine ex_aload_n dX4_replaceAmongGoing_37 0 rfl ?_
  refine ex_getR (b := a5_0) dX4_replaceAmongGoing_38 fl_X4_18 hl0.1 hl0.2 r0 ?_
  refine ex_iload_n dX4_replaceAmongGoing_41 1 rfl ?_
  refine ex_aload_n dX4_replaceAmongGoing_42 3 rfl ?_
  refine ex_c1 (fun hE0 => ?_)
  refine ex_cVg [.int xp, .ref q2] [] dX4_replaceAmongGoing_43 cV_X4_113 (c_AL_set g m0 ⟨hq2_0.1, hq2_0.2, by decide⟩ (b := z) hxp (rp_at _ _ _)) m0.1.1 m0.1.2.1 rfl rfl rfl (by decide) (Nat.le_of_ble_eq_true rfl) rfl ?_ (fun E S' n' k' h => by obtain ⟨h1, -⟩ := h; cases h1)
  rintro v' S1 n1 k1 ⟨hr0, hpo0⟩
  cases hr0
  obtain ⟨ow1, c1, hC1, hL1, hc1, hnn1, hkk1⟩ := CL_po ⟨hl0.1, Or.inr (Or.inl hl0.2)⟩ r0 m0 o0 u0 hE0 hpo0 (Or.inl (by rw [List.length_set]; exact Nat.le_refl _))
  rw [rp_set] at hL1
  have hl1 : l ∈ hs_L S1 ∧ hs_K S1 l = 4 := ⟨(hC1.1 l hl0.1).1, (hC1.1 l hl0.1).2.1.trans hl0.2⟩
  obtain ⟨a5_1, e1, r1, m1, o1, u1⟩ := id hL1
  have hcb1 : c1 ≤ 5000 := m1.2.1.2
  have hln1 : (l1 ++ q2 :: l2).length ≤ 1510 := by simp at hlen ⊢; omega
  have hq1_1 : q1 ∈ hs_L S1 ∧ hs_K S1 q1 = 5 := ⟨(hC1.1 _ hq1_0.1).1, (hC1.1 _ hq1_0.1).2.1.trans hq1_0.2⟩
  have hq2_1 : q2 ∈ hs_L S1 ∧ hs_K S1 q2 = 5 := ⟨(hC1.1 _ hq2_0.1).1, (hC1.1 _ hq2_0.1).2.1.trans hq2_0.2⟩
  show ex_W _ _ _ _ 46 [(0, .ref l), (1, .int xp), (2, .ref q1), (3, .ref q2), (4, .null)] [.ref z] S1 n1 k1
  refine ex_pop dX4_replaceAmongGoing_46 rfl ?_
  refine ex_goto (tgt := 59) dX4_replaceAmongGoing_47 (by decide) ?_
  refine ex_aload_n dX4_replaceAmongGoing_59 2 rfl ?_
  refine ex_ifnull dX4_replaceAmongGoing_60 ?_
  refine ex_aload_n dX4_replaceAmongGoing_63 0 rfl ?_
  refine ex_getR (b := a5_1) dX4_replaceAmongGoing_64 fl_X4_18 hl1.1 hl1.2 r1 ?_
  refine ex_iload_n dX4_replaceAmongGoing_67 1 rfl ?_
  refine ex_aload_n dX4_replaceAmongGoing_68 2 rfl ?_
  refine ex_c1 (fun hE1 => ?_)
  refine ex_cVg [.int xp, .ref q1] [] dX4_replaceAmongGoing_69 cV_X4_110 (c_AL_ins g m1 ⟨hq1_1.1, hq1_1.2, by decide⟩ (by omega) (j := l1.length) hxp (by simp) (by omega) (by omega)) m1.1.1 m1.1.2.1 rfl rfl rfl (by decide) (Nat.le_of_ble_eq_true rfl) rfl ?_ (fun E S' n' k' h => by obtain ⟨h1, -⟩ := h; cases h1)
  rintro v' S2 n2 k2 ⟨hr1, hpo1⟩
  cases hr1
  obtain ⟨ow2, c2, hC2, hL2, hc2, hnn2, hkk2⟩ := CL_po ⟨hl1.1, Or.inr (Or.inl hl1.2)⟩ r1 m1 o1 u1 hE1 hpo1 (Or.inl (by rw [List.length_insertIdx_of_le_length (by simp)]; omega))
  rw [rp_ins] at hL2
  have hl2 : l ∈ hs_L S2 ∧ hs_K S2 l = 4 := ⟨(hC2.1 l hl1.1).1, (hC2.1 l hl1.1).2.1.trans hl1.2⟩
  obtain ⟨a5_2, e2, r2, m2, o2, u2⟩ := id hL2
  have hcb2 : c2 ≤ 5000 := m2.2.1.2
  have hln2 : (l1 ++ q1 :: q2 :: l2).length ≤ 1510 := by simp at hlen ⊢; omega
  have hq1_2 : q1 ∈ hs_L S2 ∧ hs_K S2 q1 = 5 := ⟨(hC2.1 _ hq1_1.1).1, (hC2.1 _ hq1_1.1).2.1.trans hq1_1.2⟩
  have hq2_2 : q2 ∈ hs_L S2 ∧ hs_K S2 q2 = 5 := ⟨(hC2.1 _ hq2_1.1).1, (hC2.1 _ hq2_1.1).2.1.trans hq2_1.2⟩
  show ex_W _ _ _ _ 72 [(0, .ref l), (1, .int xp), (2, .ref q1), (3, .ref q2), (4, .null)] [] S2 n2 k2
  exact ex_vrt rfl dX4_replaceAmongGoing_72 ⟨rfl, ow2, c2, CK_tr (hC1) hC2, hL2, by omega, by omega, by omega⟩
set_option maxRecDepth 20000 in
set_option maxHeartbeats 4000000 in
theorem c_repl_111 (g : gl_T) {S : hs_T} {n k l c0 z : Nat} {q1 q2 q3 : Nat} {ow : Nat → Nat} {l1 l2 : List Nat} {xp : Int32} (h : GZ g S ow l c0 (l1 ++ z :: l2)) (hxp : xp = nI l1.length) (hlen : (l1 ++ z :: l2).length ≤ 1500) (hn : n + 6000 ≤ ex_NM) (hk : k + 30000 ≤ ex_KM) (hq1_0 : q1 ∈ hs_L S ∧ hs_K S q1 = 5) (hq2_0 : q2 ∈ hs_L S ∧ hs_K S q2 = 5) (hq3_0 : q3 ∈ hs_L S ∧ hs_K S q3 = 5) : ex_M g 8 mX4_replaceAmongGoing [.ref l, .int xp, .ref q1, .ref q2, .ref q3] S n k (fun r S' n' k' => r = .inl none ∧ ∃ ow' c', CK ow ow' [] [5] S S' ∧ CL g S' ow' 5 l 1 5 c' (l1 ++ q1 :: q2 :: q3 :: l2) ∧ c0 ≤ c' ∧ n' + c0 ≤ n + c' ∧ k' + 4 * c0 ≤ k + 4 * c') := by
  obtain ⟨hl0, a5_0, e0, r0, m0, o0, u0⟩ := id h
  have hcb0 : c0 ≤ 5000 := m0.2.1.2
  have hln0 : (l1 ++ z :: l2).length ≤ 1510 := by omega
  refine ex_enter (by decide +kernel) (Nat.le_of_ble_eq_true rfl) ?_
  show ex_W _ _ _ _ 0 [(0, .ref l), (1, .int xp), (2, .ref q1), (3, .ref q2), (4, .ref q3)] [] _ _ _
  refine ex_iload_n dX4_replaceAmongGoing_0 1 rfl ?_
  refine ex_if_lt (tgt := 15) dX4_replaceAmongGoing_1 (by decide) (fun c1 => absurd c1 (by rw [hxp]; exact nI_pos (by simp at hlen; omega))) (fun c1 => ?_)
  refine ex_iload_n dX4_replaceAmongGoing_4 1 rfl ?_
  refine ex_aload_n dX4_replaceAmongGoing_5 0 rfl ?_
  refine ex_getR (b := a5_0) dX4_replaceAmongGoing_6 fl_X4_18 hl0.1 hl0.2 r0 ?_
  refine ex_cVr [] [.int xp] dX4_replaceAmongGoing_9 cV_X4_26 (c_szn g m0 rfl) m0.1.1 m0.1.2.1 rfl rfl rfl (by decide) (Nat.le_of_ble_eq_true rfl) rfl ?_
  refine ex_icmp_lt (tgt := 16) dX4_replaceAmongGoing_12 (by decide) (fun c12 => ?_) (fun c12 => absurd (by rw [hxp]; exact nI_lt (by simp) (by omega)) c12)
  refine ex_aload dX4_replaceAmongGoing_16 4 rfl ?_
  refine ex_ifnull dX4_replaceAmongGoing_18 ?_
  refine ex_aload_n dX4_replaceAmongGoing_21 0 rfl ?_
  refine ex_getR (b := a5_0) dX4_replaceAmongGoing_22 fl_X4_18 hl0.1 hl0.2 r0 ?_
  refine ex_iload_n dX4_replaceAmongGoing_25 1 rfl ?_
  refine ex_iconst (v := 1) dX4_replaceAmongGoing_26 (by decide) ?_
  refine ex_iadd dX4_replaceAmongGoing_27 ?_
  refine ex_aload dX4_replaceAmongGoing_28 4 rfl ?_
  refine ex_c1 (fun hE0 => ?_)
  refine ex_cVg [.int (xp + 1), .ref q3] [] dX4_replaceAmongGoing_30 cV_X4_110 (c_AL_ins g m0 ⟨hq3_0.1, hq3_0.2, by decide⟩ (by omega) (j := l1.length + 1) (by rw [hxp]; exact nI_1 _) (by simp) (by omega) (by omega)) m0.1.1 m0.1.2.1 rfl rfl rfl (by decide) (Nat.le_of_ble_eq_true rfl) rfl ?_ (fun E S' n' k' h => by obtain ⟨h1, -⟩ := h; cases h1)
  rintro v' S1 n1 k1 ⟨hr0, hpo0⟩
  cases hr0
  obtain ⟨ow1, c1, hC1, hL1, hc1, hnn1, hkk1⟩ := CL_po ⟨hl0.1, Or.inr (Or.inl hl0.2)⟩ r0 m0 o0 u0 hE0 hpo0 (Or.inl (by rw [List.length_insertIdx_of_le_length (by simp)]; omega))
  rw [rp_ins1] at hL1
  have hl1 : l ∈ hs_L S1 ∧ hs_K S1 l = 4 := ⟨(hC1.1 l hl0.1).1, (hC1.1 l hl0.1).2.1.trans hl0.2⟩
  obtain ⟨a5_1, e1, r1, m1, o1, u1⟩ := id hL1
  have hcb1 : c1 ≤ 5000 := m1.2.1.2
  have hln1 : (l1 ++ z :: q3 :: l2).length ≤ 1510 := by simp at hlen ⊢; omega
  have hq1_1 : q1 ∈ hs_L S1 ∧ hs_K S1 q1 = 5 := ⟨(hC1.1 _ hq1_0.1).1, (hC1.1 _ hq1_0.1).2.1.trans hq1_0.2⟩
  have hq2_1 : q2 ∈ hs_L S1 ∧ hs_K S1 q2 = 5 := ⟨(hC1.1 _ hq2_0.1).1, (hC1.1 _ hq2_0.1).2.1.trans hq2_0.2⟩
  have hq3_1 : q3 ∈ hs_L S1 ∧ hs_K S1 q3 = 5 := ⟨(hC1.1 _ hq3_0.1).1, (hC1.1 _ hq3_0.1).2.1.trans hq3_0.2⟩
  show ex_W _ _ _ _ 33 [(0, .ref l), (1, .int xp), (2, .ref q1), (3, .ref q2), (4, .ref q3)] [] S1 n1 k1
  refine ex_aload_n dX4_replaceAmongGoing_33 3 rfl ?_
  refine ex_ifnull dX4_replaceAmongGoing_34 ?_
  refine ex_aload_n dX4_replaceAmongGoing_37 0 rfl ?_
  refine ex_getR (b := a5_1) dX4_replaceAmongGoing_38 fl_X4_18 hl1.1 hl1.2 r1 ?_
  refine ex_iload_n dX4_replaceAmongGoing_41 1 rfl ?_
  refine ex_aload_n dX4_replaceAmongGoing_42 3 rfl ?_
  refine ex_c1 (fun hE1 => ?_)
  refine ex_cVg [.int xp, .ref q2] [] dX4_replaceAmongGoing_43 cV_X4_113 (c_AL_set g m1 ⟨hq2_1.1, hq2_1.2, by decide⟩ (b := z) hxp (rp_at _ _ _)) m1.1.1 m1.1.2.1 rfl rfl rfl (by decide) (Nat.le_of_ble_eq_true rfl) rfl ?_ (fun E S' n' k' h => by obtain ⟨h1, -⟩ := h; cases h1)
  rintro v' S2 n2 k2 ⟨hr1, hpo1⟩
  cases hr1
  obtain ⟨ow2, c2, hC2, hL2, hc2, hnn2, hkk2⟩ := CL_po ⟨hl1.1, Or.inr (Or.inl hl1.2)⟩ r1 m1 o1 u1 hE1 hpo1 (Or.inl (by rw [List.length_set]; exact Nat.le_refl _))
  rw [rp_set] at hL2
  have hl2 : l ∈ hs_L S2 ∧ hs_K S2 l = 4 := ⟨(hC2.1 l hl1.1).1, (hC2.1 l hl1.1).2.1.trans hl1.2⟩
  obtain ⟨a5_2, e2, r2, m2, o2, u2⟩ := id hL2
  have hcb2 : c2 ≤ 5000 := m2.2.1.2
  have hln2 : (l1 ++ q2 :: q3 :: l2).length ≤ 1510 := by simp at hlen ⊢; omega
  have hq1_2 : q1 ∈ hs_L S2 ∧ hs_K S2 q1 = 5 := ⟨(hC2.1 _ hq1_1.1).1, (hC2.1 _ hq1_1.1).2.1.trans hq1_1.2⟩
  have hq2_2 : q2 ∈ hs_L S2 ∧ hs_K S2 q2 = 5 := ⟨(hC2.1 _ hq2_1.1).1, (hC2.1 _ hq2_1.1).2.1.trans hq2_1.2⟩
  have hq3_2 : q3 ∈ hs_L S2 ∧ hs_K S2 q3 = 5 := ⟨(hC2.1 _ hq3_1.1).1, (hC2.1 _ hq3_1.1).2.1.trans hq3_1.2⟩
  show ex_W _ _ _ _ 46 [(0, .ref l), (1, .int xp), (2, .ref q1), (3, .ref q2), (4, .ref q3)] [.ref z] S2 n2 k2
  refine ex_pop dX4_replaceAmongGoing_46 rfl ?_
  refine ex_goto (tgt := 59) dX4_replaceAmongGoing_47 (by decide) ?_
  refine ex_aload_n dX4_replaceAmongGoing_59 2 rfl ?_
  refine ex_ifnull dX4_replaceAmongGoing_60 ?_
  refine ex_aload_n dX4_replaceAmongGoing_63 0 rfl ?_
  refine ex_getR (b := a5_2) dX4_replaceAmongGoing_64 fl_X4_18 hl2.1 hl2.2 r2 ?_
  refine ex_iload_n dX4_replaceAmongGoing_67 1 rfl ?_
  refine ex_aload_n dX4_replaceAmongGoing_68 2 rfl ?_
  refine ex_c1 (fun hE2 => ?_)
  refine ex_cVg [.int xp, .ref q1] [] dX4_replaceAmongGoing_69 cV_X4_110 (c_AL_ins g m2 ⟨hq1_2.1, hq1_2.2, by decide⟩ (by omega) (j := l1.length) hxp (by simp) (by omega) (by omega)) m2.1.1 m2.1.2.1 rfl rfl rfl (by decide) (Nat.le_of_ble_eq_true rfl) rfl ?_ (fun E S' n' k' h => by obtain ⟨h1, -⟩ := h; cases h1)
  rintro v' S3 n3 k3 ⟨hr2, hpo2⟩
  cases hr2
  obtain ⟨ow3, c3, hC3, hL3, hc3, hnn3, hkk3⟩ := CL_po ⟨hl2.1, Or.inr (Or.inl hl2.2)⟩ r2 m2 o2 u2 hE2 hpo2 (Or.inl (by rw [List.length_insertIdx_of_le_length (by simp)]; omega))
  rw [rp_ins] at hL3
  have hl3 : l ∈ hs_L S3 ∧ hs_K S3 l = 4 := ⟨(hC3.1 l hl2.1).1, (hC3.1 l hl2.1).2.1.trans hl2.2⟩
  obtain ⟨a5_3, e3, r3, m3, o3, u3⟩ := id hL3
  have hcb3 : c3 ≤ 5000 := m3.2.1.2
  have hln3 : (l1 ++ q1 :: q2 :: q3 :: l2).length ≤ 1510 := by simp at hlen ⊢; omega
  have hq1_3 : q1 ∈ hs_L S3 ∧ hs_K S3 q1 = 5 := ⟨(hC3.1 _ hq1_2.1).1, (hC3.1 _ hq1_2.1).2.1.trans hq1_2.2⟩
  have hq2_3 : q2 ∈ hs_L S3 ∧ hs_K S3 q2 = 5 := ⟨(hC3.1 _ hq2_2.1).1, (hC3.1 _ hq2_2.1).2.1.trans hq2_2.2⟩
  have hq3_3 : q3 ∈ hs_L S3 ∧ hs_K S3 q3 = 5 := ⟨(hC3.1 _ hq3_2.1).1, (hC3.1 _ hq3_2.1).2.1.trans hq3_2.2⟩
  show ex_W _ _ _ _ 72 [(0, .ref l), (1, .int xp), (2, .ref q1), (3, .ref q2), (4, .ref q3)] [] S3 n3 k3
  exact ex_vrt rfl dX4_replaceAmongGoing_72 ⟨rfl, ow3, c3, CK_tr (CK_tr (hC1) hC2) hC3, hL3, by omega, by omega, by omega⟩
/-- a line that goes on gives way to others in its place -/
theorem GO_rep {ls L' : List li_T} {y1 y2 ns : List Nat} {i : Nat} (hG : GO ls (y1 ++ i :: y2)) (hf : ∀ j, (ln_at ls j).1 ≤ (ln_at ls j).2.1) (hN : ls.length ≤ L'.length) (hold : ∀ j, j < ls.length → j ≠ i → ln_at L' j = ln_at ls j) (hi : (ln_at L' i).2.2.2.2 ≠ none) (hns : ns.Pairwise (bf L')) (hin : ∀ j ∈ ns, (ln_at ls i).1 ≤ (ln_at L' j).1 ∧ (ln_at L' j).2.1 ≤ (ln_at ls i).2.1) (hm : ∀ j, j ∈ ns ↔ (ls.length ≤ j ∧ j < L'.length ∧ (ln_at L' j).2.2.2.2 = none)) : GO L' (y1 ++ ns ++ y2) := by
  obtain ⟨g1, g2⟩ := hG
  rw [List.pairwise_append] at g1
  obtain ⟨p1, p2, p3⟩ := g1
  rw [List.pairwise_cons] at p2
  have ir : ∀ j, ¬ (ln_at ls j).2.1 < (ln_at ls j).1 := fun j => by have := hf j; omega
  have m1 : ∀ a ∈ y1, a < ls.length ∧ a ≠ i := fun a ha => ⟨((g2 a).mp (List.mem_append.mpr (Or.inl ha))).1, fun z => ir i (by have := p3 a ha i List.mem_cons_self; rw [z] at this; exact this)⟩
  have m2 : ∀ a ∈ y2, a < ls.length ∧ a ≠ i := fun a ha => ⟨((g2 a).mp (List.mem_append.mpr (Or.inr (List.mem_cons_of_mem _ ha)))).1, fun z => ir i (by have := p2.1 a ha; rw [z] at this; exact this)⟩
  have e1 : ∀ a ∈ y1, ln_at L' a = ln_at ls a := fun a ha => hold a (m1 a ha).1 (m1 a ha).2
  have e2 : ∀ a ∈ y2, ln_at L' a = ln_at ls a := fun a ha => hold a (m2 a ha).1 (m2 a ha).2
  have im : i < ls.length := ((g2 i).mp (List.mem_append.mpr (Or.inr List.mem_cons_self))).1
  refine ⟨?_, fun j => ?_⟩
  · rw [List.pairwise_append, List.pairwise_append]
    refine ⟨⟨?_, hns, fun a ha b hb => ?_⟩, ?_, fun a ha b hb => ?_⟩
    · refine List.Pairwise.imp_of_mem (fun {a b} ha hb hab => ?_) p1
      rw [e1 a ha, e1 b hb]; exact hab
    · rw [e1 a ha]
      have z1 : (ln_at ls a).2.1 < (ln_at ls i).1 := p3 a ha i List.mem_cons_self
      have z2 := (hin b hb).1
      omega
    · refine List.Pairwise.imp_of_mem (fun {a b} ha hb hab => ?_) p2.2
      rw [e2 a ha, e2 b hb]; exact hab
    · rcases List.mem_append.mp ha with ha | ha
      · rw [e1 a ha, e2 b hb]; exact p3 a ha b (List.mem_cons_of_mem _ hb)
      · rw [e2 b hb]
        have z1 : (ln_at ls i).2.1 < (ln_at ls b).1 := p2.1 b hb
        have z2 := (hin a ha).2
        omega
  · rw [List.mem_append, List.mem_append]
    have g3 := g2 j
    rw [List.mem_append, List.mem_cons] at g3
    rcases Nat.lt_or_ge j ls.length with z | z
    · have nn : j ∉ ns := fun y => by have := (hm j).mp y; omega
      by_cases w : j = i
      · subst w
        exact ⟨fun y => by rcases y with (y | y) | y; exact absurd rfl (m1 j y).2; exact absurd y nn; exact absurd rfl (m2 j y).2, fun y => absurd y.2 hi⟩
      · rw [hold j z w]
        constructor
        · intro y
          have y2' : j < ls.length ∧ (ln_at ls j).2.2.2.2 = none := g3.mp (by rcases y with (y | y) | y; exact Or.inl y; exact absurd y nn; exact Or.inr (Or.inr y))
          exact ⟨by omega, y2'.2⟩
        · intro y
          rcases g3.mpr ⟨z, y.2⟩ with y | y | y
          · exact Or.inl (Or.inl y)
          · exact absurd y w
          · exact Or.inr y
    · constructor
      · intro y
        rcases y with (y | y) | y
        · have := (m1 j y).1; omega
        · exact ((hm j).mp y).2
        · have := (m2 j y).1; omega
      · intro y
        exact Or.inl (Or.inr ((hm j).mpr ⟨z, y⟩))
theorem LN1_end {g : gl_T} {S : hs_T} {ow : Nat → Nat} {l c4 : Nat} {ls : List li_T} {la : List Nat} (hl : l ∈ hs_L S ∧ hs_K S l = 4) (h : LN1 g S ow l c4 ls la) {i : Nat} (hi : i < ls.length) {v : Int32} {td : Nat} (hv : v = nI td) : LN1 g (hs_sI S (la.getD i 0) 4 v) ow l c4 (ls.set i (ln_end (ln_at ls i) td)) la ∧ CK ow ow [5] [] S (hs_sI S (la.getD i 0) 4 v) := by
  obtain ⟨h1, h2, h3, h4⟩ := h
  have hC := CK_sI ow S (la.getD i 0) 4 v
  rw [(CL_el h1 (j := i) (by omega)).2] at hC
  refine ⟨⟨CL_ck h1 ⟨hl.1, Or.inr (Or.inl hl.2)⟩ hC (by decide) (by decide) (by decide), h2, by simpa using h3, fun j hj => ?_⟩, hC⟩
  simp at hj
  have h5 := h4 j hj
  unfold CLn at h5 ⊢
  simp only [hs_I_sI]
  unfold ln_at at h5 ⊢
  rw [gd_set _ _ _ _ _ hi]
  by_cases z : j = i
  · subst z
    simp only [if_pos, ln_end]
    simpa [hv, eN] using ⟨h5.1, h5.2.1, h5.2.2.1, h5.2.2.2.1⟩
  · have z2 : la.getD j 0 ≠ la.getD i 0 := fun y => z (nd_inj h2 (by omega) (by omega) y)
    rw [List.getD_eq_getElem?_getD, List.getD_eq_getElem?_getD] at z2
    simpa [z, z2] using h5
