def PX (S0 S : hs_T) (m : Nat) (ad : Nat → Nat) (s : st_T) (T : List Int32) (N : Nat) (p : ps_T) : Prop := PS S m ad s T N p ∧ MF S0 S m ad ∧ hs_I S m 0 = hs_I S0 m 0 ∧ SQ ad S0 S
def pq (S0 : hs_T) (m : Nat) (ad : Nat → Nat) (n k : Nat) (s : st_T) (T : List Int32) (N : Nat) (p : ps_T) (v : Option Value) : ex_R := fun r S' n' k' => r = .inl v ∧ PX S0 S' m ad s T N p ∧ n' = n ∧ k' = k
theorem PX_rf {S : hs_T} {m : Nat} {ad : Nat → Nat} {s : st_T} {T : List Int32} {N : Nat} {p : ps_T} (h : PS S m ad s T N p) : PX S S m ad s T N p := ⟨h, MF_rf _ _ _, rfl, SQ_rf _ _⟩
theorem PX_tr {S0 S1 S2 : hs_T} {m : Nat} {ad : Nat → Nat} {s : st_T} {T : List Int32} {N : Nat} {p q : ps_T} (h1 : PX S0 S1 m ad s T N p) (h2 : PX S1 S2 m ad s T N q) : PX S0 S2 m ad s T N q := ⟨h2.1, MF_tr h1.2.1 h2.2.1, h2.2.2.1.trans h1.2.2.1, SQ_tr h1.2.2.2 h2.2.2.2⟩
theorem PX_at {S0 S : hs_T} {m : Nat} {ad : Nat → Nat} {s : st_T} {T : List Int32} {N : Nat} {p : ps_T} (h : PX S0 S m ad s T N p) {v : Int32} {a : Nat} (hv : v = nI a) (ha : a ≤ N) : PX S0 (hs_sI S m 15 v) m ad s T N (a, p.2) := ⟨PS_at h.1 hv ha, MF_mI h.2.1 _ _, by rw [mI_mm, if_neg (by decide)]; exact h.2.2.1, SQ_mI h.1.1.1.2.2 h.2.2.2 _ _⟩
theorem PX_wr {S0 S : hs_T} {m : Nat} {ad : Nat → Nat} {s : st_T} {T : List Int32} {N : Nat} {p : ps_T} (h : PX S0 S m ad s T N p) {v u : Int32} {c w : Nat} (hv : v = nI c) (hc : c ≤ 3) (hu : u = nI w) (hw : w ≤ N) : PX S0 (hs_sI (hs_sI S m 16 v) m 17 u) m ad s T N (p.1, c, some w) := ⟨PS_wr h.1 hv hc hu hw, MF_mI (MF_mI h.2.1 _ _) _ _, by rw [mI_mm, if_neg (by decide), mI_mm, if_neg (by decide)]; exact h.2.2.1, SQ_mI h.1.1.1.2.2 (SQ_mI h.1.1.1.2.2 h.2.2.2 _ _) _ _⟩
theorem pq_i {S0 S : hs_T} {m : Nat} {ad : Nat → Nat} {n k : Nat} {s : st_T} {T : List Int32} {N : Nat} {p p' : ps_T} {v v' : Value} (hp : p' = p) (hv : v' = v) (h : PX S0 S m ad s T N p) : pq S0 m ad n k s T N p' (some v') (.inl (some v)) S n k := by subst hp hv; exact ⟨rfl, h, rfl, rfl⟩
theorem pq_n {S0 S : hs_T} {m : Nat} {ad : Nat → Nat} {n k : Nat} {s : st_T} {T : List Int32} {N : Nat} {p p' : ps_T} (hp : p' = p) (h : PX S0 S m ad s T N p) : pq S0 m ad n k s T N p' none (.inl none) S n k := by subst hp; exact ⟨rfl, h, rfl, rfl⟩
set_option maxRecDepth 20000 in
set_option maxHeartbeats 2000000 in
theorem m_blanks_l {g : gl_T} {S0 : hs_T} {n k m N : Nat} {ad : Nat → Nat} {s : st_T} {T : List Int32} {p0 : ps_T} : ∀ t a S, PX S0 S m ad s T N (a, p0.2) → N < a + t → sk (pb T N) N a = sk (pb T N) N p0.1 →
    ex_W g 1 mX10_blanks (pq S0 m ad n k s T N (p_bl (pb T N) N p0) none) 0 [(0, .ref m)] [] S n k := by
  intro t
  induction t with
  | zero => intro a S hX h2; exact absurd h2 (by have := hX.1.2.2.2.2.1; simp only at this; omega)
  | succ t ih =>
    intro a S hX h2 hsk
    have hP := hX.1
    have hB := hP.1.1
    have hN4 := hP.2.2.2.1
    have ha : a ≤ N := hP.2.2.2.2.1
    refine ex_aload_n dX10_blanks_0 0 rfl ?_
    refine ex_getI dX10_blanks_1 fl_X10_131 hB.1.1 hB.1.2 ?_
    refine ex_aload_n dX10_blanks_4 0 rfl ?_
    refine ex_getI dX10_blanks_5 fl_X10_128 hB.1.1 hB.1.2 ?_
    refine ex_icmp_ge (tgt := 37) dX10_blanks_8 (by decide) (fun c8 => ?_) (fun c8 => ?_)
    · exact ex_vrt rfl dX10_blanks_37 (pq_n (by
    have hc : ¬ (a < N ∧ pb T N a = 32) := by
      rintro ⟨z1, z2⟩
      first
        | exact c21 (by rw [z2]; rfl)
        | (have z3 := nI_lt z1 (by omega); rw [← hP.2.1.1] at z3; have e : hs_I S m 15 = nI a := hP.2.1.2.1; rw [← e] at z3; simp only [i_lt, i_le] at *; omega)
    unfold p_bl
    rw [← hsk, sk_stop hc]) hX)
    · have haN : a < N := (nI_ltI (by omega) (by omega)).mp (by rw [← hP.2.1.1]; have e : hs_I S m 15 = nI a := hP.2.1.2.1; rw [← e]; simp only [i_lt, i_le] at *; omega)
      have hpl := pb_lt T N a
      refine ex_aload_n dX10_blanks_11 0 rfl ?_
      refine ex_aload_n dX10_blanks_12 0 rfl ?_
      refine ex_getI dX10_blanks_13 fl_X10_131 hB.1.1 hB.1.2 ?_
      refine ex_cVr [.int (hs_I S m 15)] [] dX10_blanks_16 cV_X10_134 (m_byteAt g hP hP.2.1.2.1 (by show a < _; omega)) hB.1.1 hB.1.2 rfl rfl rfl (by decide) (Nat.le_of_ble_eq_true rfl) rfl ?_
      refine ex_bipush (v := 32) dX10_blanks_19 (by decide) ?_
      refine ex_icmp_ne (tgt := 37) dX10_blanks_21 (by decide) (fun c21 => ?_) (fun c21 => ?_)
      · exact ex_vrt rfl dX10_blanks_37 (pq_n (by
    have hc : ¬ (a < N ∧ pb T N a = 32) := by
      rintro ⟨z1, z2⟩
      first
        | exact c21 (by rw [z2]; rfl)
        | (have z3 := nI_lt z1 (by omega); rw [← hP.2.1.1] at z3; have e : hs_I S m 15 = nI a := hP.2.1.2.1; rw [← e] at z3; simp only [i_lt, i_le] at *; omega)
    unfold p_bl
    rw [← hsk, sk_stop hc]) hX)
      · refine ex_aload_n dX10_blanks_24 0 rfl ?_
        refine ex_dup dX10_blanks_25 rfl ?_
        refine ex_getI dX10_blanks_26 fl_X10_131 hB.1.1 hB.1.2 ?_
        refine ex_iconst (v := 1) dX10_blanks_29 (by decide) ?_
        refine ex_iadd dX10_blanks_30 ?_
        refine ex_putI dX10_blanks_31 fl_X10_131 (pf_X10_131 _) hB.1.1 hB.1.2 ?_
        refine ex_goto (tgt := 0) dX10_blanks_34 (by decide) ?_
        have hc : a < N ∧ pb T N a = 32 := ⟨haN, (nI_eq (b := 32) (by omega) (by decide)).mp c21⟩
        refine ih (a + 1) _ (PX_at hX (by have e : hs_I S m 15 = nI a := hP.2.1.2.1; rw [e]; exact nI_1 a) (by omega)) (by omega) ?_
        rw [← hsk, sk_go hc]
theorem m_blanks (g : gl_T) {S : hs_T} {n k : Nat} {m N : Nat} {ad : Nat → Nat} {s : st_T} {T : List Int32} {p : ps_T} (hP : PS S m ad s T N p) : ex_M g 1 mX10_blanks [.ref m] S n k (pq S m ad n k s T N (p_bl (pb T N) N p) none) := by
  refine ex_enter (by decide +kernel) (Nat.le_of_ble_eq_true rfl) ?_
  exact m_blanks_l (N + 1) p.1 S (PX_rf hP) (by omega) rfl
set_option maxRecDepth 20000 in
set_option maxHeartbeats 2000000 in
theorem m_wrong (g : gl_T) {S : hs_T} {n k : Nat} {m N : Nat} {ad : Nat → Nat} {s : st_T} {T : List Int32} {p : ps_T} (hP : PS S m ad s T N p) {x y : Int32} {c w : Nat} (hx : x = nI c) (hc : c ≤ 3) (hy : y = nI w) (hw : w ≤ N) : ex_M g 0 mX10_wrong [.ref m, .int x, .int y] S n k (pq S m ad n k s T N (p_wr c w p) none) := by
  have hB := hP.1.1
  refine ex_enter (by decide +kernel) (Nat.le_of_ble_eq_true rfl) ?_
  show ex_W _ _ _ _ 0 [(0, .ref m), (1, .int x), (2, .int y)] [] _ _ _
  refine ex_aload_n dX10_wrong_0 0 rfl ?_
  refine ex_getI dX10_wrong_1 fl_X10_138 hB.1.1 hB.1.2 ?_
  refine ex_if_le (tgt := 8) dX10_wrong_4 (by decide) (fun c4 => ?_) (fun c4 => ?_)
  · refine ex_aload_n dX10_wrong_8 0 rfl ?_
    refine ex_iload_n dX10_wrong_9 1 rfl ?_
    refine ex_putI dX10_wrong_10 fl_X10_138 (pf_X10_138 _) hB.1.1 hB.1.2 ?_
    refine ex_aload_n dX10_wrong_13 0 rfl ?_
    refine ex_iload_n dX10_wrong_14 2 rfl ?_
    refine ex_putI dX10_wrong_15 fl_X10_37 (pf_X10_37 _) hB.1.1 hB.1.2 ?_
    exact ex_vrt rfl dX10_wrong_18 (pq_n (by unfold p_wr; rw [if_neg (fun z => by rw [hP.2.1.2.2] at c4; exact nI_nle z (by have := hP.2.2.2.2.2; omega) c4)]) (PX_wr (PX_rf hP) hx hc hy hw))
  · exact ex_vrt rfl dX10_wrong_7 (pq_n (by unfold p_wr; rw [if_pos (Nat.pos_of_ne_zero (fun z => c4 (by rw [hP.2.1.2.2, z]; decide)))]) (PX_rf hP))
set_option maxRecDepth 20000 in
set_option maxHeartbeats 4000000 in
theorem m_isWord_0 (g : gl_T) {S : hs_T} {n k : Nat} {m N : Nat} {ad : Nat → Nat} {s : st_T} {T : List Int32} {p : ps_T} (hP : PS S m ad s T N p) : ex_M g 4 mX10_isWord [.ref m, .ref (g.2.2.2.2 10)] S n k (pq S m ad n k s T N (p_bl (pb T N) N p) (some (.int (if wd (pb T N) (sk (pb T N) N p.1) [102, 117, 110, 100] then 1 else 0)))) := by
  have hX1 := PX_rf hP
  have hB := hP.1.1
  refine ex_enter (by decide +kernel) (Nat.le_of_ble_eq_true rfl) ?_
  show ex_W _ _ _ _ 0 [(0, .ref m), (1, .ref (g.2.2.2.2 10))] [] _ _ _
  refine ex_aload_n dX10_isWord_0 0 rfl ?_
  refine ex_cVg [] [] dX10_isWord_1 cV_X10_141 (m_blanks g hX1.1) hB.1.1 hB.1.2 rfl rfl rfl (by decide) (Nat.le_of_ble_eq_true rfl) rfl ?_ (fun E S' n' k' h => by obtain ⟨h1, -⟩ := h; cases h1)
  rintro v' S2 n' k' ⟨hr, hq2, hn, hk⟩
  cases hr
  have hn := hn.symm
  have hk := hk.symm
  subst hn hk
  have hX2 := PX_tr hX1 hq2
  have hB := hX2.1.1.1
  show ex_W _ _ _ _ 4 [(0, .ref m), (1, .ref (g.2.2.2.2 10))] [] S2 n k
  have hN4 := hP.2.2.2.1
  have hskN := sk_le (b := pb T N) (N := N) hP.2.2.2.2.1
  refine ex_iconst (v := 0) dX10_isWord_4 (by decide) ?_
  refine ex_istore_n [(2, .int 0), (0, .ref m), (1, .ref (g.2.2.2.2 10))] dX10_isWord_5 (by decide) rfl ?_
  refine ex_iload_n dX10_isWord_6 0 rfl ?_
  refine ex_aload_n dX10_isWord_7 2 rfl ?_
  refine ex_cVC (q := ("java/lang/String", 10)) [] [.int 0] dX10_isWord_8 cV_X10_144 (c_len_0 g) cO_4 rfl rfl (by decide) (Nat.le_of_ble_eq_true rfl) rfl ?_
  refine ex_icmp_ge (tgt := 40) dX10_isWord_11 (by decide) (fun c11 => absurd c11 (by decide)) (fun c11 => ?_)
  refine ex_aload_n dX10_isWord_14 1 rfl ?_
  refine ex_aload_n dX10_isWord_15 1 rfl ?_
  refine ex_getI dX10_isWord_16 fl_X10_131 hB.1.1 hB.1.2 ?_
  refine ex_iload_n dX10_isWord_19 0 rfl ?_
  refine ex_iadd dX10_isWord_20 ?_
  refine ex_cVr [.int ((hs_I S2 m 15) + 0)] [] dX10_isWord_21 cV_X10_134 (m_byteAt g hX2.1 (j := sk (pb T N) N p.1) (by rw [hX2.1.2.1.2.1]; exact nI_add _ 0) (by omega)) hB.1.1 hB.1.2 rfl rfl rfl (by decide) (Nat.le_of_ble_eq_true rfl) rfl ?_
  refine ex_aload_n dX10_isWord_24 2 rfl ?_
  refine ex_iload_n dX10_isWord_25 0 rfl ?_
  refine ex_cVC (q := ("java/lang/String", 10)) [.int 0] [.int (nI (pb T N (sk (pb T N) N p.1)))] dX10_isWord_26 cV_X10_150 (c_char_0_0 g) cO_4 rfl rfl (by decide) (Nat.le_of_ble_eq_true rfl) rfl ?_
  refine ex_icmp_eq (tgt := 34) dX10_isWord_29 (by decide) (fun c29 => ?_) (fun c29 => ?_)
  · have w0 : pb T N (sk (pb T N) N p.1) = 102 := (nI_eq (b := 102) (Nat.lt_trans (pb_lt _ _ _) (by decide)) (by decide)).mp c29
    refine ex_iinc (v := 1) 0 [(2, .int 1), (0, .ref m), (1, .ref (g.2.2.2.2 10))] dX10_isWord_34 rfl (by decide) (by decide) rfl ?_
    refine ex_goto (tgt := 6) dX10_isWord_37 (by decide) ?_
    refine ex_iload_n dX10_isWord_6 0 rfl ?_
    refine ex_aload_n dX10_isWord_7 2 rfl ?_
    refine ex_cVC (q := ("java/lang/String", 10)) [] [.int 1] dX10_isWord_8 cV_X10_144 (c_len_0 g) cO_4 rfl rfl (by decide) (Nat.le_of_ble_eq_true rfl) rfl ?_
    refine ex_icmp_ge (tgt := 40) dX10_isWord_11 (by decide) (fun c11 => absurd c11 (by decide)) (fun c11 => ?_)
    refine ex_aload_n dX10_isWord_14 1 rfl ?_
    refine ex_aload_n dX10_isWord_15 1 rfl ?_
    refine ex_getI dX10_isWord_16 fl_X10_131 hB.1.1 hB.1.2 ?_
    refine ex_iload_n dX10_isWord_19 0 rfl ?_
    refine ex_iadd dX10_isWord_20 ?_
    refine ex_cVr [.int ((hs_I S2 m 15) + 1)] [] dX10_isWord_21 cV_X10_134 (m_byteAt g hX2.1 (j := sk (pb T N) N p.1 + 1) (by rw [hX2.1.2.1.2.1]; exact nI_add _ 1) (by omega)) hB.1.1 hB.1.2 rfl rfl rfl (by decide) (Nat.le_of_ble_eq_true rfl) rfl ?_
    refine ex_aload_n dX10_isWord_24 2 rfl ?_
    refine ex_iload_n dX10_isWord_25 0 rfl ?_
    refine ex_cVC (q := ("java/lang/String", 10)) [.int 1] [.int (nI (pb T N (sk (pb T N) N p.1 + 1)))] dX10_isWord_26 cV_X10_150 (c_char_0_1 g) cO_4 rfl rfl (by decide) (Nat.le_of_ble_eq_true rfl) rfl ?_
    refine ex_icmp_eq (tgt := 34) dX10_isWord_29 (by decide) (fun c29 => ?_) (fun c29 => ?_)
    · have w1 : pb T N (sk (pb T N) N p.1 + 1) = 117 := (nI_eq (b := 117) (Nat.lt_trans (pb_lt _ _ _) (by decide)) (by decide)).mp c29
      refine ex_iinc (v := 2) 0 [(2, .int 2), (0, .ref m), (1, .ref (g.2.2.2.2 10))] dX10_isWord_34 rfl (by decide) (by decide) rfl ?_
      refine ex_goto (tgt := 6) dX10_isWord_37 (by decide) ?_
      refine ex_iload_n dX10_isWord_6 0 rfl ?_
      refine ex_aload_n dX10_isWord_7 2 rfl ?_
      refine ex_cVC (q := ("java/lang/String", 10)) [] [.int 2] dX10_isWord_8 cV_X10_144 (c_len_0 g) cO_4 rfl rfl (by decide) (Nat.le_of_ble_eq_true rfl) rfl ?_
      refine ex_icmp_ge (tgt := 40) dX10_isWord_11 (by decide) (fun c11 => absurd c11 (by decide)) (fun c11 => ?_)
      refine ex_aload_n dX10_isWord_14 1 rfl ?_
      refine ex_aload_n dX10_isWord_15 1 rfl ?_
      refine ex_getI dX10_isWord_16 fl_X10_131 hB.1.1 hB.1.2 ?_
      refine ex_iload_n dX10_isWord_19 0 rfl ?_
      refine ex_iadd dX10_isWord_20 ?_
      refine ex_cVr [.int ((hs_I S2 m 15) + 2)] [] dX10_isWord_21 cV_X10_134 (m_byteAt g hX2.1 (j := sk (pb T N) N p.1 + 1 + 1) (by rw [hX2.1.2.1.2.1]; exact nI_add _ 2) (by omega)) hB.1.1 hB.1.2 rfl rfl rfl (by decide) (Nat.le_of_ble_eq_true rfl) rfl ?_
      refine ex_aload_n dX10_isWord_24 2 rfl ?_
      refine ex_iload_n dX10_isWord_25 0 rfl ?_
      refine ex_cVC (q := ("java/lang/String", 10)) [.int 2] [.int (nI (pb T N (sk (pb T N) N p.1 + 1 + 1)))] dX10_isWord_26 cV_X10_150 (c_char_0_2 g) cO_4 rfl rfl (by decide) (Nat.le_of_ble_eq_true rfl) rfl ?_
      refine ex_icmp_eq (tgt := 34) dX10_isWord_29 (by decide) (fun c29 => ?_) (fun c29 => ?_)
      · have w2 : pb T N (sk (pb T N) N p.1 + 1 + 1) = 110 := (nI_eq (b := 110) (Nat.lt_trans (pb_lt _ _ _) (by decide)) (by decide)).mp c29
        refine ex_iinc (v := 3) 0 [(2, .int 3), (0, .ref m), (1, .ref (g.2.2.2.2 10))] dX10_isWord_34 rfl (by decide) (by decide) rfl ?_
        refine ex_goto (tgt := 6) dX10_isWord_37 (by decide) ?_
        refine ex_iload_n dX10_isWord_6 0 rfl ?_
        refine ex_aload_n dX10_isWord_7 2 rfl ?_
        refine ex_cVC (q := ("java/lang/String", 10)) [] [.int 3] dX10_isWord_8 cV_X10_144 (c_len_0 g) cO_4 rfl rfl (by decide) (Nat.le_of_ble_eq_true rfl) rfl ?_
        refine ex_icmp_ge (tgt := 40) dX10_isWord_11 (by decide) (fun c11 => absurd c11 (by decide)) (fun c11 => ?_)
        refine ex_aload_n dX10_isWord_14 1 rfl ?_
        refine ex_aload_n dX10_isWord_15 1 rfl ?_
        refine ex_getI dX10_isWord_16 fl_X10_131 hB.1.1 hB.1.2 ?_
        refine ex_iload_n dX10_isWord_19 0 rfl ?_
        refine ex_iadd dX10_isWord_20 ?_
        refine ex_cVr [.int ((hs_I S2 m 15) + 3)] [] dX10_isWord_21 cV_X10_134 (m_byteAt g hX2.1 (j := sk (pb T N) N p.1 + 1 + 1 + 1) (by rw [hX2.1.2.1.2.1]; exact nI_add _ 3) (by omega)) hB.1.1 hB.1.2 rfl rfl rfl (by decide) (Nat.le_of_ble_eq_true rfl) rfl ?_
        refine ex_aload_n dX10_isWord_24 2 rfl ?_
        refine ex_iload_n dX10_isWord_25 0 rfl ?_
        refine ex_cVC (q := ("java/lang/String", 10)) [.int 3] [.int (nI (pb T N (sk (pb T N) N p.1 + 1 + 1 + 1)))] dX10_isWord_26 cV_X10_150 (c_char_0_3 g) cO_4 rfl rfl (by decide) (Nat.le_of_ble_eq_true rfl) rfl ?_
        refine ex_icmp_eq (tgt := 34) dX10_isWord_29 (by decide) (fun c29 => ?_) (fun c29 => ?_)
        · have w3 : pb T N (sk (pb T N) N p.1 + 1 + 1 + 1) = 100 := (nI_eq (b := 100) (Nat.lt_trans (pb_lt _ _ _) (by decide)) (by decide)).mp c29
          refine ex_iinc (v := 4) 0 [(2, .int 4), (0, .ref m), (1, .ref (g.2.2.2.2 10))] dX10_isWord_34 rfl (by decide) (by decide) rfl ?_
          refine ex_goto (tgt := 6) dX10_isWord_37 (by decide) ?_
          refine ex_iload_n dX10_isWord_6 0 rfl ?_
          refine ex_aload_n dX10_isWord_7 2 rfl ?_
          refine ex_cVC (q := ("java/lang/String", 10)) [] [.int 4] dX10_isWord_8 cV_X10_144 (c_len_0 g) cO_4 rfl rfl (by decide) (Nat.le_of_ble_eq_true rfl) rfl ?_
          refine ex_icmp_ge (tgt := 40) dX10_isWord_11 (by decide) (fun c11 => ?_) (fun c11 => absurd (by decide) c11)
          refine ex_aload_n dX10_isWord_40 1 rfl ?_
          refine ex_aload_n dX10_isWord_41 1 rfl ?_
          refine ex_getI dX10_isWord_42 fl_X10_131 hB.1.1 hB.1.2 ?_
          refine ex_aload_n dX10_isWord_45 2 rfl ?_
          refine ex_cVC (q := ("java/lang/String", 10)) [] [.int (hs_I S2 m 15), .ref m] dX10_isWord_46 cV_X10_144 (c_len_0 g) cO_4 rfl rfl (by decide) (Nat.le_of_ble_eq_true rfl) rfl ?_
          refine ex_iadd dX10_isWord_49 ?_
          refine ex_cVr [.int ((hs_I S2 m 15) + 4)] [] dX10_isWord_50 cV_X10_134 (m_byteAt g hX2.1 (j := sk (pb T N) N p.1 + 1 + 1 + 1 + 1) (by rw [hX2.1.2.1.2.1]; exact nI_add _ 4) (by omega)) hB.1.1 hB.1.2 rfl rfl rfl (by decide) (Nat.le_of_ble_eq_true rfl) rfl ?_
          refine ex_cSr [.int (nI (pb T N (sk (pb T N) N p.1 + 1 + 1 + 1 + 1)))] [] dX10_isWord_53 cS_X10_154 (m_isSmall g (c := pb T N (sk (pb T N) N p.1 + 1 + 1 + 1 + 1)) rfl (Nat.lt_trans (pb_lt _ _ _) (by decide))) rfl (by decide) (Nat.le_of_ble_eq_true rfl) rfl ?_
          refine ex_if_ne (tgt := 63) dX10_isWord_56 (by decide) (fun c56 => ?_) (fun c56 => ?_)
          · refine ex_iconst (v := 0) dX10_isWord_63 (by decide) ?_
            exact ex_bret rfl (by decide) dX10_isWord_64 (pq_i rfl (by rw [if_neg (fun z => by simp only [wd_cons, wd_nil] at z; exact c56 (if_neg z.2.2.2.2))]) hX2)
          · refine ex_iconst (v := 1) dX10_isWord_59 (by decide) ?_
            refine ex_goto (tgt := 64) dX10_isWord_60 (by decide) ?_
            exact ex_bret rfl (by decide) dX10_isWord_64 (pq_i rfl (by rw [if_pos (by simp only [wd_cons, wd_nil]; exact ⟨w0, w1, w2, w3, fun z => by rw [if_pos z] at c56; exact absurd c56 (by decide)⟩)]) hX2)
        · refine ex_iconst (v := 0) dX10_isWord_32 (by decide) ?_
          exact ex_bret rfl (by decide) dX10_isWord_33 (pq_i rfl (by rw [if_neg (fun z => by simp only [wd_cons] at z; exact c29 (by rw [z.2.2.2.1]; rfl))]) hX2)
      · refine ex_iconst (v := 0) dX10_isWord_32 (by decide) ?_
        exact ex_bret rfl (by decide) dX10_isWord_33 (pq_i rfl (by rw [if_neg (fun z => by simp only [wd_cons] at z; exact c29 (by rw [z.2.2.1]; rfl))]) hX2)
    · refine ex_iconst (v := 0) dX10_isWord_32 (by decide) ?_
      exact ex_bret rfl (by decide) dX10_isWord_33 (pq_i rfl (by rw [if_neg (fun z => by simp only [wd_cons] at z; exact c29 (by rw [z.2.1]; rfl))]) hX2)
  · refine ex_iconst (v := 0) dX10_isWord_32 (by decide) ?_
    exact ex_bret rfl (by decide) dX10_isWord_33 (pq_i rfl (by rw [if_neg (fun z => by simp only [wd_cons] at z; exact c29 (by rw [z.1]; rfl))]) hX2)
set_option maxRecDepth 20000 in
set_option maxHeartbeats 4000000 in
theorem m_isWord_1 (g : gl_T) {S : hs_T} {n k : Nat} {m N : Nat} {ad : Nat → Nat} {s : st_T} {T : List Int32} {p : ps_T} (hP : PS S m ad s T N p) : ex_M g 4 mX10_isWord [.ref m, .ref (g.2.2.2.2 11)] S n k (pq S m ad n k s T N (p_bl (pb T N) N p) (some (.int (if wd (pb T N) (sk (pb T N) N p.1) [100, 97, 121, 115] then 1 else 0)))) := by
  have hX1 := PX_rf hP
  have hB := hP.1.1
  refine ex_enter (by decide +kernel) (Nat.le_of_ble_eq_true rfl) ?_
  show ex_W _ _ _ _ 0 [(0, .ref m), (1, .ref (g.2.2.2.2 11))] [] _ _ _
  refine ex_aload_n dX10_isWord_0 0 rfl ?_
  refine ex_cVg [] [] dX10_isWord_1 cV_X10_141 (m_blanks g hX1.1) hB.1.1 hB.1.2 rfl rfl rfl (by decide) (Nat.le_of_ble_eq_true rfl) rfl ?_ (fun E S' n' k' h => by obtain ⟨h1, -⟩ := h; cases h1)
  rintro v' S2 n' k' ⟨hr, hq2, hn, hk⟩
  cases hr
  have hn := hn.symm
  have hk := hk.symm
  subst hn hk
  have hX2 := PX_tr hX1 hq2
  have hB := hX2.1.1.1
  show ex_W _ _ _ _ 4 [(0, .ref m), (1, .ref (g.2.2.2.2 11))] [] S2 n k
  have hN4 := hP.2.2.2.1
  have hskN := sk_le (b := pb T N) (N := N) hP.2.2.2.2.1
  refine ex_iconst (v := 0) dX10_isWord_4 (by decide) ?_
  refine ex_istore_n [(2, .int 0), (0, .ref m), (1, .ref (g.2.2.2.2 11))] dX10_isWord_5 (by decide) rfl ?_
  refine ex_iload_n dX10_isWord_6 0 rfl ?_
  refine ex_aload_n dX10_isWord_7 2 rfl ?_
  refine ex_cVC (q := ("java/lang/String", 11)) [] [.int 0] dX10_isWord_8 cV_X10_144 (c_len_1 g) cO_5 rfl rfl (by decide) (Nat.le_of_ble_eq_true rfl) rfl ?_
  refine ex_icmp_ge (tgt := 40) dX10_isWord_11 (by decide) (fun c11 => absurd c11 (by decide)) (fun c11 => ?_)
  refine ex_aload_n dX10_isWord_14 1 rfl ?_
  refine ex_aload_n dX10_isWord_15 1 rfl ?_
  refine ex_getI dX10_isWord_16 fl_X10_131 hB.1.1 hB.1.2 ?_
  refine ex_iload_n dX10_isWord_19 0 rfl ?_
  refine ex_iadd dX10_isWord_20 ?_
  refine ex_cVr [.int ((hs_I S2 m 15) + 0)] [] dX10_isWord_21 cV_X10_134 (m_byteAt g hX2.1 (j := sk (pb T N) N p.1) (by rw [hX2.1.2.1.2.1]; exact nI_add _ 0) (by omega)) hB.1.1 hB.1.2 rfl rfl rfl (by decide) (Nat.le_of_ble_eq_true rfl) rfl ?_
  refine ex_aload_n dX10_isWord_24 2 rfl ?_
  refine ex_iload_n dX10_isWord_25 0 rfl ?_
  refine ex_cVC (q := ("java/lang/String", 11)) [.int 0] [.int (nI (pb T N (sk (pb T N) N p.1)))] dX10_isWord_26 cV_X10_150 (c_char_1_0 g) cO_5 rfl rfl (by decide) (Nat.le_of_ble_eq_true rfl) rfl ?_
  refine ex_icmp_eq (tgt := 34) dX10_isWord_29 (by decide) (fun c29 => ?_) (fun c29 => ?_)
  · have w0 : pb T N (sk (pb T N) N p.1) = 100 := (nI_eq (b := 100) (Nat.lt_trans (pb_lt _ _ _) (by decide)) (by decide)).mp c29
    refine ex_iinc (v := 1) 0 [(2, .int 1), (0, .ref m), (1, .ref (g.2.2.2.2 11))] dX10_isWord_34 rfl (by decide) (by decide) rfl ?_
    refine ex_goto (tgt := 6) dX10_isWord_37 (by decide) ?_
    refine ex_iload_n dX10_isWord_6 0 rfl ?_
    refine ex_aload_n dX10_isWord_7 2 rfl ?_
    refine ex_cVC (q := ("java/lang/String", 11)) [] [.int 1] dX10_isWord_8 cV_X10_144 (c_len_1 g) cO_5 rfl rfl (by decide) (Nat.le_of_ble_eq_true rfl) rfl ?_
    refine ex_icmp_ge (tgt := 40) dX10_isWord_11 (by decide) (fun c11 => absurd c11 (by decide)) (fun c11 => ?_)
    refine ex_aload_n dX10_isWord_14 1 rfl ?_
    refine ex_aload_n dX10_isWord_15 1 rfl ?_
    refine ex_getI dX10_isWord_16 fl_X10_131 hB.1.1 hB.1.2 ?_
    refine ex_iload_n dX10_isWord_19 0 rfl ?_
    refine ex_iadd dX10_isWord_20 ?_
    refine ex_cVr [.int ((hs_I S2 m 15) + 1)] [] dX10_isWord_21 cV_X10_134 (m_byteAt g hX2.1 (j := sk (pb T N) N p.1 + 1) (by rw [hX2.1.2.1.2.1]; exact nI_add _ 1) (by omega)) hB.1.1 hB.1.2 rfl rfl rfl (by decide) (Nat.le_of_ble_eq_true rfl) rfl ?_
    refine ex_aload_n dX10_isWord_24 2 rfl ?_
    refine ex_iload_n dX10_isWord_25 0 rfl ?_
    refine ex_cVC (q := ("java/lang/String", 11)) [.int 1] [.int (nI (pb T N (sk (pb T N) N p.1 + 1)))] dX10_isWord_26 cV_X10_150 (c_char_1_1 g) cO_5 rfl rfl (by decide) (Nat.le_of_ble_eq_true rfl) rfl ?_
    refine ex_icmp_eq (tgt := 34) dX10_isWord_29 (by decide) (fun c29 => ?_) (fun c29 => ?_)
    · have w1 : pb T N (sk (pb T N) N p.1 + 1) = 97 := (nI_eq (b := 97) (Nat.lt_trans (pb_lt _ _ _) (by decide)) (by decide)).mp c29
      refine ex_iinc (v := 2) 0 [(2, .int 2), (0, .ref m), (1, .ref (g.2.2.2.2 11))] dX10_isWord_34 rfl (by decide) (by decide) rfl ?_
      refine ex_goto (tgt := 6) dX10_isWord_37 (by decide) ?_
      refine ex_iload_n dX10_isWord_6 0 rfl ?_
      refine ex_aload_n dX10_isWord_7 2 rfl ?_
      refine ex_cVC (q := ("java/lang/String", 11)) [] [.int 2] dX10_isWord_8 cV_X10_144 (c_len_1 g) cO_5 rfl rfl (by decide) (Nat.le_of_ble_eq_true rfl) rfl ?_
      refine ex_icmp_ge (tgt := 40) dX10_isWord_11 (by decide) (fun c11 => absurd c11 (by decide)) (fun c11 => ?_)
      refine ex_aload_n dX10_isWord_14 1 rfl ?_
      refine ex_aload_n dX10_isWord_15 1 rfl ?_
      refine ex_getI dX10_isWord_16 fl_X10_131 hB.1.1 hB.1.2 ?_
      refine ex_iload_n dX10_isWord_19 0 rfl ?_
      refine ex_iadd dX10_isWord_20 ?_
      refine ex_cVr [.int ((hs_I S2 m 15) + 2)] [] dX10_isWord_21 cV_X10_134 (m_byteAt g hX2.1 (j := sk (pb T N) N p.1 + 1 + 1) (by rw [hX2.1.2.1.2.1]; exact nI_add _ 2) (by omega)) hB.1.1 hB.1.2 rfl rfl rfl (by decide) (Nat.le_of_ble_eq_true rfl) rfl ?_
      refine ex_aload_n dX10_isWord_24 2 rfl ?_
      refine ex_iload_n dX10_isWord_25 0 rfl ?_
      refine ex_cVC (q := ("java/lang/String", 11)) [.int 2] [.int (nI (pb T N (sk (pb T N) N p.1 + 1 + 1)))] dX10_isWord_26 cV_X10_150 (c_char_1_2 g) cO_5 rfl rfl (by decide) (Nat.le_of_ble_eq_true rfl) rfl ?_
      refine ex_icmp_eq (tgt := 34) dX10_isWord_29 (by decide) (fun c29 => ?_) (fun c29 => ?_)
      · have w2 : pb T N (sk (pb T N) N p.1 + 1 + 1) = 121 := (nI_eq (b := 121) (Nat.lt_trans (pb_lt _ _ _) (by decide)) (by decide)).mp c29
        refine ex_iinc (v := 3) 0 [(2, .int 3), (0, .ref m), (1, .ref (g.2.2.2.2 11))] dX10_isWord_34 rfl (by decide) (by decide) rfl ?_
        refine ex_goto (tgt := 6) dX10_isWord_37 (by decide) ?_
        refine ex_iload_n dX10_isWord_6 0 rfl ?_
        refine ex_aload_n dX10_isWord_7 2 rfl ?_
        refine ex_cVC (q := ("java/lang/String", 11)) [] [.int 3] dX10_isWord_8 cV_X10_144 (c_len_1 g) cO_5 rfl rfl (by decide) (Nat.le_of_ble_eq_true rfl) rfl ?_
        refine ex_icmp_ge (tgt := 40) dX10_isWord_11 (by decide) (fun c11 => absurd c11 (by decide)) (fun c11 => ?_)
        refine ex_aload_n dX10_isWord_14 1 rfl ?_
        refine ex_aload_n dX10_isWord_15 1 rfl ?_
        refine ex_getI dX10_isWord_16 fl_X10_131 hB.1.1 hB.1.2 ?_
        refine ex_iload_n dX10_isWord_19 0 rfl ?_
        refine ex_iadd dX10_isWord_20 ?_
        refine ex_cVr [.int ((hs_I S2 m 15) + 3)] [] dX10_isWord_21 cV_X10_134 (m_byteAt g hX2.1 (j := sk (pb T N) N p.1 + 1 + 1 + 1) (by rw [hX2.1.2.1.2.1]; exact nI_add _ 3) (by omega)) hB.1.1 hB.1.2 rfl rfl rfl (by decide) (Nat.le_of_ble_eq_true rfl) rfl ?_
        refine ex_aload_n dX10_isWord_24 2 rfl ?_
        refine ex_iload_n dX10_isWord_25 0 rfl ?_
        refine ex_cVC (q := ("java/lang/String", 11)) [.int 3] [.int (nI (pb T N (sk (pb T N) N p.1 + 1 + 1 + 1)))] dX10_isWord_26 cV_X10_150 (c_char_1_3 g) cO_5 rfl rfl (by decide) (Nat.le_of_ble_eq_true rfl) rfl ?_
        refine ex_icmp_eq (tgt := 34) dX10_isWord_29 (by decide) (fun c29 => ?_) (fun c29 => ?_)
        · have w3 : pb T N (sk (pb T N) N p.1 + 1 + 1 + 1) = 115 := (nI_eq (b := 115) (Nat.lt_trans (pb_lt _ _ _) (by decide)) (by decide)).mp c29
          refine ex_iinc (v := 4) 0 [(2, .int 4), (0, .ref m), (1, .ref (g.2.2.2.2 11))] dX10_isWord_34 rfl (by decide) (by decide) rfl ?_
          refine ex_goto (tgt := 6) dX10_isWord_37 (by decide) ?_
          refine ex_iload_n dX10_isWord_6 0 rfl ?_
          refine ex_aload_n dX10_isWord_7 2 rfl ?_
          refine ex_cVC (q := ("java/lang/String", 11)) [] [.int 4] dX10_isWord_8 cV_X10_144 (c_len_1 g) cO_5 rfl rfl (by decide) (Nat.le_of_ble_eq_true rfl) rfl ?_
          refine ex_icmp_ge (tgt := 40) dX10_isWord_11 (by decide) (fun c11 => ?_) (fun c11 => absurd (by decide) c11)
          refine ex_aload_n dX10_isWord_40 1 rfl ?_
          refine ex_aload_n dX10_isWord_41 1 rfl ?_
          refine ex_getI dX10_isWord_42 fl_X10_131 hB.1.1 hB.1.2 ?_
          refine ex_aload_n dX10_isWord_45 2 rfl ?_
          refine ex_cVC (q := ("java/lang/String", 11)) [] [.int (hs_I S2 m 15), .ref m] dX10_isWord_46 cV_X10_144 (c_len_1 g) cO_5 rfl rfl (by decide) (Nat.le_of_ble_eq_true rfl) rfl ?_
          refine ex_iadd dX10_isWord_49 ?_
          refine ex_cVr [.int ((hs_I S2 m 15) + 4)] [] dX10_isWord_50 cV_X10_134 (m_byteAt g hX2.1 (j := sk (pb T N) N p.1 + 1 + 1 + 1 + 1) (by rw [hX2.1.2.1.2.1]; exact nI_add _ 4) (by omega)) hB.1.1 hB.1.2 rfl rfl rfl (by decide) (Nat.le_of_ble_eq_true rfl) rfl ?_
          refine ex_cSr [.int (nI (pb T N (sk (pb T N) N p.1 + 1 + 1 + 1 + 1)))] [] dX10_isWord_53 cS_X10_154 (m_isSmall g (c := pb T N (sk (pb T N) N p.1 + 1 + 1 + 1 + 1)) rfl (Nat.lt_trans (pb_lt _ _ _) (by decide))) rfl (by decide) (Nat.le_of_ble_eq_true rfl) rfl ?_
          refine ex_if_ne (tgt := 63) dX10_isWord_56 (by decide) (fun c56 => ?_) (fun c56 => ?_)
          · refine ex_iconst (v := 0) dX10_isWord_63 (by decide) ?_
            exact ex_bret rfl (by decide) dX10_isWord_64 (pq_i rfl (by rw [if_neg (fun z => by simp only [wd_cons, wd_nil] at z; exact c56 (if_neg z.2.2.2.2))]) hX2)
          · refine ex_iconst (v := 1) dX10_isWord_59 (by decide) ?_
            refine ex_goto (tgt := 64) dX10_isWord_60 (by decide) ?_
            exact ex_bret rfl (by decide) dX10_isWord_64 (pq_i rfl (by rw [if_pos (by simp only [wd_cons, wd_nil]; exact ⟨w0, w1, w2, w3, fun z => by rw [if_pos z] at c56; exact absurd c56 (by decide)⟩)]) hX2)
        · refine ex_iconst (v := 0) dX10_isWord_32 (by decide) ?_
          exact ex_bret rfl (by decide) dX10_isWord_33 (pq_i rfl (by rw [if_neg (fun z => by simp only [wd_cons] at z; exact c29 (by rw [z.2.2.2.1]; rfl))]) hX2)
      · refine ex_iconst (v := 0) dX10_isWord_32 (by decide) ?_
        exact ex_bret rfl (by decide) dX10_isWord_33 (pq_i rfl (by rw [if_neg (fun z => by simp only [wd_cons] at z; exact c29 (by rw [z.2.2.1]; rfl))]) hX2)
    · refine ex_iconst (v := 0) dX10_isWord_32 (by decide) ?_
      exact ex_bret rfl (by decide) dX10_isWord_33 (pq_i rfl (by rw [if_neg (fun z => by simp only [wd_cons] at z; exact c29 (by rw [z.2.1]; rfl))]) hX2)
  · refine ex_iconst (v := 0) dX10_isWord_32 (by decide) ?_
    exact ex_bret rfl (by decide) dX10_isWord_33 (pq_i rfl (by rw [if_neg (fun z => by simp only [wd_cons] at z; exact c29 (by rw [z.1]; rfl))]) hX2)
set_option maxRecDepth 20000 in
set_option maxHeartbeats 4000000 in
theorem m_isWord_2 (g : gl_T) {S : hs_T} {n k : Nat} {m N : Nat} {ad : Nat → Nat} {s : st_T} {T : List Int32} {p : ps_T} (hP : PS S m ad s T N p) : ex_M g 4 mX10_isWord [.ref m, .ref (g.2.2.2.2 12)] S n k (pq S m ad n k s T N (p_bl (pb T N) N p) (some (.int (if wd (pb T N) (sk (pb T N) N p.1) [116, 105, 101, 114] then 1 else 0)))) := by
  have hX1 := PX_rf hP
  have hB := hP.1.1
  refine ex_enter (by decide +kernel) (Nat.le_of_ble_eq_true rfl) ?_
  show ex_W _ _ _ _ 0 [(0, .ref m), (1, .ref (g.2.2.2.2 12))] [] _ _ _
  refine ex_aload_n dX10_isWord_0 0 rfl ?_
  refine ex_cVg [] [] dX10_isWord_1 cV_X10_141 (m_blanks g hX1.1) hB.1.1 hB.1.2 rfl rfl rfl (by decide) (Nat.le_of_ble_eq_true rfl) rfl ?_ (fun E S' n' k' h => by obtain ⟨h1, -⟩ := h; cases h1)
  rintro v' S2 n' k' ⟨hr, hq2, hn, hk⟩
  cases hr
  have hn := hn.symm
  have hk := hk.symm
  subst hn hk
  have hX2 := PX_tr hX1 hq2
  have hB := hX2.1.1.1
  show ex_W _ _ _ _ 4 [(0, .ref m), (1, .ref (g.2.2.2.2 12))] [] S2 n k
  have hN4 := hP.2.2.2.1
  have hskN := sk_le (b := pb T N) (N := N) hP.2.2.2.2.1
  refine ex_iconst (v := 0) dX10_isWord_4 (by decide) ?_
  refine ex_istore_n [(2, .int 0), (0, .ref m), (1, .ref (g.2.2.2.2 12))] dX10_isWord_5 (by decide) rfl ?_
  refine ex_iload_n dX10_isWord_6 0 rfl ?_
  refine ex_aload_n dX10_isWord_7 2 rfl ?_
  refine ex_cVC (q := ("java/lang/String", 12)) [] [.int 0] dX10_isWord_8 cV_X10_144 (c_len_2 g) cO_6 rfl rfl (by decide) (Nat.le_of_ble_eq_true rfl) rfl ?_
  refine ex_icmp_ge (tgt := 40) dX10_isWord_11 (by decide) (fun c11 => absurd c11 (by decide)) (fun c11 => ?_)
  refine ex_aload_n dX10_isWord_14 1 rfl ?_
  refine ex_aload_n dX10_isWord_15 1 rfl ?_
  refine ex_getI dX10_isWord_16 fl_X10_131 hB.1.1 hB.1.2 ?_
  refine ex_iload_n dX10_isWord_19 0 rfl ?_
  refine ex_iadd dX10_isWord_20 ?_
  refine ex_cVr [.int ((hs_I S2 m 15) + 0)] [] dX10_isWord_21 cV_X10_134 (m_byteAt g hX2.1 (j := sk (pb T N) N p.1) (by rw [hX2.1.2.1.2.1]; exact nI_add _ 0) (by omega)) hB.1.1 hB.1.2 rfl rfl rfl (by decide) (Nat.le_of_ble_eq_true rfl) rfl ?_
  refine ex_aload_n dX10_isWord_24 2 rfl ?_
  refine ex_iload_n dX10_isWord_25 0 rfl ?_
  refine ex_cVC (q := ("java/lang/String", 12)) [.int 0] [.int (nI (pb T N (sk (pb T N) N p.1)))] dX10_isWord_26 cV_X10_150 (c_char_2_0 g) cO_6 rfl rfl (by decide) (Nat.le_of_ble_eq_true rfl) rfl ?_
  refine ex_icmp_eq (tgt := 34) dX10_isWord_29 (by decide) (fun c29 => ?_) (fun c29 => ?_)
  · have w0 : pb T N (sk (pb T N) N p.1) = 116 := (nI_eq (b := 116) (Nat.lt_trans (pb_lt _ _ _) (by decide)) (by decide)).mp c29
    refine ex_iinc (v := 1) 0 [(2, .int 1), (0, .ref m), (1, .ref (g.2.2.2.2 12))] dX10_isWord_34 rfl (by decide) (by decide) rfl ?_
    refine ex_goto (tgt := 6) dX10_isWord_37 (by decide) ?_
    refine ex_iload_n dX10_isWord_6 0 rfl ?_
    refine ex_aload_n dX10_isWord_7 2 rfl ?_
    refine ex_cVC (q := ("java/lang/String", 12)) [] [.int 1] dX10_isWord_8 cV_X10_144 (c_len_2 g) cO_6 rfl rfl (by decide) (Nat.le_of_ble_eq_true rfl) rfl ?_
    refine ex_icmp_ge (tgt := 40) dX10_isWord_11 (by decide) (fun c11 => absurd c11 (by decide)) (fun c11 => ?_)
    refine ex_aload_n dX10_isWord_14 1 rfl ?_
    refine ex_aload_n dX10_isWord_15 1 rfl ?_
    refine ex_getI dX10_isWord_16 fl_X10_131 hB.1.1 hB.1.2 ?_
    refine ex_iload_n dX10_isWord_19 0 rfl ?_
    refine ex_iadd dX10_isWord_20 ?_
    refine ex_cVr [.int ((hs_I S2 m 15) + 1)] [] dX10_isWord_21 cV_X10_134 (m_byteAt g hX2.1 (j := sk (pb T N) N p.1 + 1) (by rw [hX2.1.2.1.2.1]; exact nI_add _ 1) (by omega)) hB.1.1 hB.1.2 rfl rfl rfl (by decide) (Nat.le_of_ble_eq_true rfl) rfl ?_
    refine ex_aload_n dX10_isWord_24 2 rfl ?_
    refine ex_iload_n dX10_isWord_25 0 rfl ?_
    refine ex_cVC (q := ("java/lang/String", 12)) [.int 1] [.int (nI (pb T N (sk (pb T N) N p.1 + 1)))] dX10_isWord_26 cV_X10_150 (c_char_2_1 g) cO_6 rfl rfl (by decide) (Nat.le_of_ble_eq_true rfl) rfl ?_
    refine ex_icmp_eq (tgt := 34) dX10_isWord_29 (by decide) (fun c29 => ?_) (fun c29 => ?_)
    · have w1 : pb T N (sk (pb T N) N p.1 + 1) = 105 := (nI_eq (b := 105) (Nat.lt_trans (pb_lt _ _ _) (by decide)) (by decide)).mp c29
      refine ex_iinc (v := 2) 0 [(2, .int 2), (0, .ref m), (1, .ref (g.2.2.2.2 12))] dX10_isWord_34 rfl (by decide) (by decide) rfl ?_
      refine ex_goto (tgt := 6) dX10_isWord_37 (by decide) ?_
      refine ex_iload_n dX10_isWord_6 0 rfl ?_
      refine ex_aload_n dX10_isWord_7 2 rfl ?_
      refine ex_cVC (q := ("java/lang/String", 12)) [] [.int 2] dX10_isWord_8 cV_X10_144 (c_len_2 g) cO_6 rfl rfl (by decide) (Nat.le_of_ble_eq_true rfl) rfl ?_
      refine ex_icmp_ge (tgt := 40) dX10_isWord_11 (by decide) (fun c11 => absurd c11 (by decide)) (fun c11 => ?_)
      refine ex_aload_n dX10_isWord_14 1 rfl ?_
      refine ex_aload_n dX10_isWord_15 1 rfl ?_
      refine ex_getI dX10_isWord_16 fl_X10_131 hB.1.1 hB.1.2 ?_
      refine ex_iload_n dX10_isWord_19 0 rfl ?_
      refine ex_iadd dX10_isWord_20 ?_
      refine ex_cVr [.int ((hs_I S2 m 15) + 2)] [] dX10_isWord_21 cV_X10_134 (m_byteAt g hX2.1 (j := sk (pb T N) N p.1 + 1 + 1) (by rw [hX2.1.2.1.2.1]; exact nI_add _ 2) (by omega)) hB.1.1 hB.1.2 rfl rfl rfl (by decide) (Nat.le_of_ble_eq_true rfl) rfl ?_
      refine ex_aload_n dX10_isWord_24 2 rfl ?_
      refine ex_iload_n dX10_isWord_25 0 rfl ?_
      refine ex_cVC (q := ("java/lang/String", 12)) [.int 2] [.int (nI (pb T N (sk (pb T N) N p.1 + 1 + 1)))] dX10_isWord_26 cV_X10_150 (c_char_2_2 g) cO_6 rfl rfl (by decide) (Nat.le_of_ble_eq_true rfl) rfl ?_
      refine ex_icmp_eq (tgt := 34) dX10_isWord_29 (by decide) (fun c29 => ?_) (fun c29 => ?_)
      · have w2 : pb T N (sk (pb T N) N p.1 + 1 + 1) = 101 := (nI_eq (b := 101) (Nat.lt_trans (pb_lt _ _ _) (by decide)) (by decide)).mp c29
        refine ex_iinc (v := 3) 0 [(2, .int 3), (0, .ref m), (1, .ref (g.2.2.2.2 12))] dX10_isWord_34 rfl (by decide) (by decide) rfl ?_
        refine ex_goto (tgt := 6) dX10_isWord_37 (by decide) ?_
        refine ex_iload_n dX10_isWord_6 0 rfl ?_
        refine ex_aload_n dX10_isWord_7 2 rfl ?_
        refine ex_cVC (q := ("java/lang/String", 12)) [] [.int 3] dX10_isWord_8 cV_X10_144 (c_len_2 g) cO_6 rfl rfl (by decide) (Nat.le_of_ble_eq_true rfl) rfl ?_
        refine ex_icmp_ge (tgt := 40) dX10_isWord_11 (by decide) (fun c11 => absurd c11 (by decide)) (fun c11 => ?_)
        refine ex_aload_n dX10_isWord_14 1 rfl ?_
        refine ex_aload_n dX10_isWord_15 1 rfl ?_
        refine ex_getI dX10_isWord_16 fl_X10_131 hB.1.1 hB.1.2 ?_
        refine ex_iload_n dX10_isWord_19 0 rfl ?_
        refine ex_iadd dX10_isWord_20 ?_
        refine ex_cVr [.int ((hs_I S2 m 15) + 3)] [] dX10_isWord_21 cV_X10_134 (m_byteAt g hX2.1 (j := sk (pb T N) N p.1 + 1 + 1 + 1) (by rw [hX2.1.2.1.2.1]; exact nI_add _ 3) (by omega)) hB.1.1 hB.1.2 rfl rfl rfl (by decide) (Nat.le_of_ble_eq_true rfl) rfl ?_
        refine ex_aload_n dX10_isWord_24 2 rfl ?_
        refine ex_iload_n dX10_isWord_25 0 rfl ?_
        refine ex_cVC (q := ("java/lang/String", 12)) [.int 3] [.int (nI (pb T N (sk (pb T N) N p.1 + 1 + 1 + 1)))] dX10_isWord_26 cV_X10_150 (c_char_2_3 g) cO_6 rfl rfl (by decide) (Nat.le_of_ble_eq_true rfl) rfl ?_
        refine ex_icmp_eq (tgt := 34) dX10_isWord_29 (by decide) (fun c29 => ?_) (fun c29 => ?_)
        · have w3 : pb T N (sk (pb T N) N p.1 + 1 + 1 + 1) = 114 := (nI_eq (b := 114) (Nat.lt_trans (pb_lt _ _ _) (by decide)) (by decide)).mp c29
          refine ex_iinc (v := 4) 0 [(2, .int 4), (0, .ref m), (1, .ref (g.2.2.2.2 12))] dX10_isWord_34 rfl (by decide) (by decide) rfl ?_
          refine ex_goto (tgt := 6) dX10_isWord_37 (by decide) ?_
          refine ex_iload_n dX10_isWord_6 0 rfl ?_
          refine ex_aload_n dX10_isWord_7 2 rfl ?_
          refine ex_cVC (q := ("java/lang/String", 12)) [] [.int 4] dX10_isWord_8 cV_X10_144 (c_len_2 g) cO_6 rfl rfl (by decide) (Nat.le_of_ble_eq_true rfl) rfl ?_
          refine ex_icmp_ge (tgt := 40) dX10_isWord_11 (by decide) (fun c11 => ?_) (fun c11 => absurd (by decide) c11)
          refine ex_aload_n dX10_isWord_40 1 rfl ?_
          refine ex_aload_n dX10_isWord_41 1 rfl ?_
          refine ex_getI dX10_isWord_42 fl_X10_131 hB.1.1 hB.1.2 ?_
          refine ex_aload_n dX10_isWord_45 2 rfl ?_
          refine ex_cVC (q := ("java/lang/String", 12)) [] [.int (hs_I S2 m 15), .ref m] dX10_isWord_46 cV_X10_144 (c_len_2 g) cO_6 rfl rfl (by decide) (Nat.le_of_ble_eq_true rfl) rfl ?_
          refine ex_iadd dX10_isWord_49 ?_
          refine ex_cVr [.int ((hs_I S2 m 15) + 4)] [] dX10_isWord_50 cV_X10_134 (m_byteAt g hX2.1 (j := sk (pb T N) N p.1 + 1 + 1 + 1 + 1) (by rw [hX2.1.2.1.2.1]; exact nI_add _ 4) (by omega)) hB.1.1 hB.1.2 rfl rfl rfl (by decide) (Nat.le_of_ble_eq_true rfl) rfl ?_
          refine ex_cSr [.int (nI (pb T N (sk (pb T N) N p.1 + 1 + 1 + 1 + 1)))] [] dX10_isWord_53 cS_X10_154 (m_isSmall g (c := pb T N (sk (pb T N) N p.1 + 1 + 1 + 1 + 1)) rfl (Nat.lt_trans (pb_lt _ _ _) (by decide))) rfl (by decide) (Nat.le_of_ble_eq_true rfl) rfl ?_
          refine ex_if_ne (tgt := 63) dX10_isWord_56 (by decide) (fun c56 => ?_) (fun c56 => ?_)
          · refine ex_iconst (v := 0) dX10_isWord_63 (by decide) ?_
            exact ex_bret rfl (by decide) dX10_isWord_64 (pq_i rfl (by rw [if_neg (fun z => by simp only [wd_cons, wd_nil] at z; exact c56 (if_neg z.2.2.2.2))]) hX2)
          · refine ex_iconst (v := 1) dX10_isWord_59 (by decide) ?_
            refine ex_goto (tgt := 64) dX10_isWord_60 (by decide) ?_
            exact ex_bret rfl (by decide) dX10_isWord_64 (pq_i rfl (by rw [if_pos (by simp only [wd_cons, wd_nil]; exact ⟨w0, w1, w2, w3, fun z => by rw [if_pos z] at c56; exact absurd c56 (by decide)⟩)]) hX2)
        · refine ex_iconst (v := 0) dX10_isWord_32 (by decide) ?_
          exact ex_bret rfl (by decide) dX10_isWord_33 (pq_i rfl (by rw [if_neg (fun z => by simp only [wd_cons] at z; exact c29 (by rw [z.2.2.2.1]; rfl))]) hX2)
      · refine ex_iconst (v := 0) dX10_isWord_32 (by decide) ?_
        exact ex_bret rfl (by decide) dX10_isWord_33 (pq_i rfl (by rw [if_neg (fun z => by simp only [wd_cons] at z; exact c29 (by rw [z.2.2.1]; rfl))]) hX2)
    · refine ex_iconst (v := 0) dX10_isWord_32 (by decide) ?_
      exact ex_bret rfl (by decide) dX10_isWord_33 (pq_i rfl (by rw [if_neg (fun z => by simp only [wd_cons] at z; exact c29 (by rw [z.2.1]; rfl))]) hX2)
  · refine ex_iconst (v := 0) dX10_isWord_32 (by decide) ?_
    exact ex_bret rfl (by decide) dX10_isWord_33 (pq_i rfl (by rw [if_neg (fun z => by simp only [wd_cons] at z; exact c29 (by rw [z.1]; rfl))]) hX2)
set_option maxRecDepth 20000 in
set_option maxHeartbeats 4000000 in
theorem m_isWord_3 (g : gl_T) {S : hs_T} {n k : Nat} {m N : Nat} {ad : Nat → Nat} {s : st_T} {T : List Int32} {p : ps_T} (hP : PS S m ad s T N p) : ex_M g 4 mX10_isWord [.ref m, .ref (g.2.2.2.2 13)] S n k (pq S m ad n k s T N (p_bl (pb T N) N p) (some (.int (if wd (pb T N) (sk (pb T N) N p.1) [115, 104, 97, 114, 101] then 1 else 0)))) := by
  have hX1 := PX_rf hP
  have hB := hP.1.1
  refine ex_enter (by decide +kernel) (Nat.le_of_ble_eq_true rfl) ?_
  show ex_W _ _ _ _ 0 [(0, .ref m), (1, .ref (g.2.2.2.2 13))] [] _ _ _
  refine ex_aload_n dX10_isWord_0 0 rfl ?_
  refine ex_cVg [] [] dX10_isWord_1 cV_X10_141 (m_blanks g hX1.1) hB.1.1 hB.1.2 rfl rfl rfl (by decide) (Nat.le_of_ble_eq_true rfl) rfl ?_ (fun E S' n' k' h => by obtain ⟨h1, -⟩ := h; cases h1)
  rintro v' S2 n' k' ⟨hr, hq2, hn, hk⟩
  cases hr
  have hn := hn.symm
  have hk := hk.symm
  subst hn hk
  have hX2 := PX_tr hX1 hq2
  have hB := hX2.1.1.1
  show ex_W _ _ _ _ 4 [(0, .ref m), (1, .ref (g.2.2.2.2 13))] [] S2 n k
  have hN4 := hP.2.2.2.1
  have hskN := sk_le (b := pb T N) (N := N) hP.2.2.2.2.1
  refine ex_iconst (v := 0) dX10_isWord_4 (by decide) ?_
  refine ex_istore_n [(2, .int 0), (0, .ref m), (1, .ref (g.2.2.2.2 13))] dX10_isWord_5 (by decide) rfl ?_
  refine ex_iload_n dX10_isWord_6 0 rfl ?_
  refine ex_aload_n dX10_isWord_7 2 rfl ?_
  refine ex_cVC (q := ("java/lang/String", 13)) [] [.int 0] dX10_isWord_8 cV_X10_144 (c_len_3 g) cO_7 rfl rfl (by decide) (Nat.le_of_ble_eq_true rfl) rfl ?_
  refine ex_icmp_ge (tgt := 40) dX10_isWord_11 (by decide) (fun c11 => absurd c11 (by decide)) (fun c11 => ?_)
  refine ex_aload_n dX10_isWord_14 1 rfl ?_
  refine ex_aload_n dX10_isWord_15 1 rfl ?_
  refine ex_getI dX10_isWord_16 fl_X10_131 hB.1.1 hB.1.2 ?_
  refine ex_iload_n dX10_isWord_19 0 rfl ?_
  refine ex_iadd dX10_isWord_20 ?_
  refine ex_cVr [.int ((hs_I S2 m 15) + 0)] [] dX10_isWord_21 cV_X10_134 (m_byteAt g hX2.1 (j := sk (pb T N) N p.1) (by rw [hX2.1.2.1.2.1]; exact nI_add _ 0) (by omega)) hB.1.1 hB.1.2 rfl rfl rfl (by decide) (Nat.le_of_ble_eq_true rfl) rfl ?_
  refine ex_aload_n dX10_isWord_24 2 rfl ?_
  refine ex_iload_n dX10_isWord_25 0 rfl ?_
  refine ex_cVC (q := ("java/lang/String", 13)) [.int 0] [.int (nI (pb T N (sk (pb T N) N p.1)))] dX10_isWord_26 cV_X10_150 (c_char_3_0 g) cO_7 rfl rfl (by decide) (Nat.le_of_ble_eq_true rfl) rfl ?_
  refine ex_icmp_eq (tgt := 34) dX10_isWord_29 (by decide) (fun c29 => ?_) (fun c29 => ?_)
  · have w0 : pb T N (sk (pb T N) N p.1) = 115 := (nI_eq (b := 115) (Nat.lt_trans (pb_lt _ _ _) (by decide)) (by decide)).mp c29
    refine ex_iinc (v := 1) 0 [(2, .int 1), (0, .ref m), (1, .ref (g.2.2.2.2 13))] dX10_isWord_34 rfl (by decide) (by decide) rfl ?_
    refine ex_goto (tgt := 6) dX10_isWord_37 (by decide) ?_
    refine ex_iload_n dX10_isWord_6 0 rfl ?_
    refine ex_aload_n dX10_isWord_7 2 rfl ?_
    refine ex_cVC (q := ("java/lang/String", 13)) [] [.int 1] dX10_isWord_8 cV_X10_144 (c_len_3 g) cO_7 rfl rfl (by decide) (Nat.le_of_ble_eq_true rfl) rfl ?_
    refine ex_icmp_ge (tgt := 40) dX10_isWord_11 (by decide) (fun c11 => absurd c11 (by decide)) (fun c11 => ?_)
    refine ex_aload_n dX10_isWord_14 1 rfl ?_
    refine ex_aload_n dX10_isWord_15 1 rfl ?_
    refine ex_getI dX10_isWord_16 fl_X10_131 hB.1.1 hB.1.2 ?_
    refine ex_iload_n dX10_isWord_19 0 rfl ?_
    refine ex_iadd dX10_isWord_20 ?_
    refine ex_cVr [.int ((hs_I S2 m 15) + 1)] [] dX10_isWord_21 cV_X10_134 (m_byteAt g hX2.1 (j := sk (pb T N) N p.1 + 1) (by rw [hX2.1.2.1.2.1]; exact nI_add _ 1) (by omega)) hB.1.1 hB.1.2 rfl rfl rfl (by decide) (Nat.le_of_ble_eq_true rfl) rfl ?_
    refine ex_aload_n dX10_isWord_24 2 rfl ?_
    refine ex_iload_n dX10_isWord_25 0 rfl ?_
    refine ex_cVC (q := ("java/lang/String", 13)) [.int 1] [.int (nI (pb T N (sk (pb T N) N p.1 + 1)))] dX10_isWord_26 cV_X10_150 (c_char_3_1 g) cO_7 rfl rfl (by decide) (Nat.le_of_ble_eq_true rfl) rfl ?_
    refine ex_icmp_eq (tgt := 34) dX10_isWord_29 (by decide) (fun c29 => ?_) (fun c29 => ?_)
    · have w1 : pb T N (sk (pb T N) N p.1 + 1) = 104 := (nI_eq (b := 104) (Nat.lt_trans (pb_lt _ _ _) (by decide)) (by decide)).mp c29
      refine ex_iinc (v := 2) 0 [(2, .int 2), (0, .ref m), (1, .ref (g.2.2.2.2 13))] dX10_isWord_34 rfl (by decide) (by decide) rfl ?_
      refine ex_goto (tgt := 6) dX10_isWord_37 (by decide) ?_
      refine ex_iload_n dX10_isWord_6 0 rfl ?_
      refine ex_aload_n dX10_isWord_7 2 rfl ?_
      refine ex_cVC (q := ("java/lang/String", 13)) [] [.int 2] dX10_isWord_8 cV_X10_144 (c_len_3 g) cO_7 rfl rfl (by decide) (Nat.le_of_ble_eq_true rfl) rfl ?_
      refine ex_icmp_ge (tgt := 40) dX10_isWord_11 (by decide) (fun c11 => absurd c11 (by decide)) (fun c11 => ?_)
      refine ex_aload_n dX10_isWord_14 1 rfl ?_
      refine ex_aload_n dX10_isWord_15 1 rfl ?_
      refine ex_getI dX10_isWord_16 fl_X10_131 hB.1.1 hB.1.2 ?_
      refine ex_iload_n dX10_isWord_19 0 rfl ?_
      refine ex_iadd dX10_isWord_20 ?_
      refine ex_cVr [.int ((hs_I S2 m 15) + 2)] [] dX10_isWord_21 cV_X10_134 (m_byteAt g hX2.1 (j := sk (pb T N) N p.1 + 1 + 1) (by rw [hX2.1.2.1.2.1]; exact nI_add _ 2) (by omega)) hB.1.1 hB.1.2 rfl rfl rfl (by decide) (Nat.le_of_ble_eq_true rfl) rfl ?_
      refine ex_aload_n dX10_isWord_24 2 rfl ?_
      refine ex_iload_n dX10_isWord_25 0 rfl ?_
      refine ex_cVC (q := ("java/lang/String", 13)) [.int 2] [.int (nI (pb T N (sk (pb T N) N p.1 + 1 + 1)))] dX10_isWord_26 cV_X10_150 (c_char_3_2 g) cO_7 rfl rfl (by decide) (Nat.le_of_ble_eq_true rfl) rfl ?_
      refine ex_icmp_eq (tgt := 34) dX10_isWord_29 (by decide) (fun c29 => ?_) (fun c29 => ?_)
      · have w2 : pb T N (sk (pb T N) N p.1 + 1 + 1) = 97 := (nI_eq (b := 97) (Nat.lt_trans (pb_lt _ _ _) (by decide)) (by decide)).mp c29
        refine ex_iinc (v := 3) 0 [(2, .int 3), (0, .ref m), (1, .ref (g.2.2.2.2 13))] dX10_isWord_34 rfl (by decide) (by decide) rfl ?_
        refine ex_goto (tgt := 6) dX10_isWord_37 (by decide) ?_
        refine ex_iload_n dX10_isWord_6 0 rfl ?_
        refine ex_aload_n dX10_isWord_7 2 rfl ?_
        refine ex_cVC (q := ("java/lang/String", 13)) [] [.int 3] dX10_isWord_8 cV_X10_144 (c_len_3 g) cO_7 rfl rfl (by decide) (Nat.le_of_ble_eq_true rfl) rfl ?_
        refine ex_icmp_ge (tgt := 40) dX10_isWord_11 (by decide) (fun c11 => absurd c11 (by decide)) (fun c11 => ?_)
        refine ex_aload_n dX10_isWord_14 1 rfl ?_
        refine ex_aload_n dX10_isWord_15 1 rfl ?_
        refine ex_getI dX10_isWord_16 fl_X10_131 hB.1.1 hB.1.2 ?_
        refine ex_iload_n dX10_isWord_19 0 rfl ?_
        refine ex_iadd dX10_isWord_20 ?_
        refine ex_cVr [.int ((hs_I S2 m 15) + 3)] [] dX10_isWord_21 cV_X10_134 (m_byteAt g hX2.1 (j := sk (pb T N) N p.1 + 1 + 1 + 1) (by rw [hX2.1.2.1.2.1]; exact nI_add _ 3) (by omega)) hB.1.1 hB.1.2 rfl rfl rfl (by decide) (Nat.le_of_ble_eq_true rfl) rfl ?_
        refine ex_aload_n dX10_isWord_24 2 rfl ?_
        refine ex_iload_n dX10_isWord_25 0 rfl ?_
        refine ex_cVC (q := ("java/lang/String", 13)) [.int 3] [.int (nI (pb T N (sk (pb T N) N p.1 + 1 + 1 + 1)))] dX10_isWord_26 cV_X10_150 (c_char_3_3 g) cO_7 rfl rfl (by decide) (Nat.le_of_ble_eq_true rfl) rfl ?_
        refine ex_icmp_eq (tgt := 34) dX10_isWord_29 (by decide) (fun c29 => ?_) (fun c29 => ?_)
        · have w3 : pb T N (sk (pb T N) N p.1 + 1 + 1 + 1) = 114 := (nI_eq (b := 114) (Nat.lt_trans (pb_lt _ _ _) (by decide)) (by decide)).mp c29
          refine ex_iinc (v := 4) 0 [(2, .int 4), (0, .ref m), (1, .ref (g.2.2.2.2 13))] dX10_isWord_34 rfl (by decide) (by decide) rfl ?_
          refine ex_goto (tgt := 6) dX10_isWord_37 (by decide) ?_
          refine ex_iload_n dX10_isWord_6 0 rfl ?_
          refine ex_aload_n dX10_isWord_7 2 rfl ?_
          refine ex_cVC (q := ("java/lang/String", 13)) [] [.int 4] dX10_isWord_8 cV_X10_144 (c_len_3 g) cO_7 rfl rfl (by decide) (Nat.le_of_ble_eq_true rfl) rfl ?_
          refine ex_icmp_ge (tgt := 40) dX10_isWord_11 (by decide) (fun c11 => absurd c11 (by decide)) (fun c11 => ?_)
          refine ex_aload_n dX10_isWord_14 1 rfl ?_
          refine ex_aload_n dX10_isWord_15 1 rfl ?_
          refine ex_getI dX10_isWord_16 fl_X10_131 hB.1.1 hB.1.2 ?_
          refine ex_iload_n dX10_isWord_19 0 rfl ?_
          refine ex_iadd dX10_isWord_20 ?_
          refine ex_cVr [.int ((hs_I S2 m 15) + 4)] [] dX10_isWord_21 cV_X10_134 (m_byteAt g hX2.1 (j := sk (pb T N) N p.1 + 1 + 1 + 1 + 1) (by rw [hX2.1.2.1.2.1]; exact nI_add _ 4) (by omega)) hB.1.1 hB.1.2 rfl rfl rfl (by decide) (Nat.le_of_ble_eq_true rfl) rfl ?_
          refine ex_aload_n dX10_isWord_24 2 rfl ?_
          refine ex_iload_n dX10_isWord_25 0 rfl ?_
          refine ex_cVC (q := ("java/lang/String", 13)) [.int 4] [.int (nI (pb T N (sk (pb T N) N p.1 + 1 + 1 + 1 + 1)))] dX10_isWord_26 cV_X10_150 (c_char_3_4 g) cO_7 rfl rfl (by decide) (Nat.le_of_ble_eq_true rfl) rfl ?_
          refine ex_icmp_eq (tgt := 34) dX10_isWord_29 (by decide) (fun c29 => ?_) (fun c29 => ?_)
          · have w4 : pb T N (sk (pb T N) N p.1 + 1 + 1 + 1 + 1) = 101 := (nI_eq (b := 101) (Nat.lt_trans (pb_lt _ _ _) (by decide)) (by decide)).mp c29
            refine ex_iinc (v := 5) 0 [(2, .int 5), (0, .ref m), (1, .ref (g.2.2.2.2 13))] dX10_isWord_34 rfl (by decide) (by decide) rfl ?_
            refine ex_goto (tgt := 6) dX10_isWord_37 (by decide) ?_
            refine ex_iload_n dX10_isWord_6 0 rfl ?_
            refine ex_aload_n dX10_isWord_7 2 rfl ?_
            refine ex_cVC (q := ("java/lang/String", 13)) [] [.int 5] dX10_isWord_8 cV_X10_144 (c_len_3 g) cO_7 rfl rfl (by decide) (Nat.le_of_ble_eq_true rfl) rfl ?_
            refine ex_icmp_ge (tgt := 40) dX10_isWord_11 (by decide) (fun c11 => ?_) (fun c11 => absurd (by decide) c11)
            refine ex_aload_n dX10_isWord_40 1 rfl ?_
            refine ex_aload_n dX10_isWord_41 1 rfl ?_
            refine ex_getI dX10_isWord_42 fl_X10_131 hB.1.1 hB.1.2 ?_
            refine ex_aload_n dX10_isWord_45 2 rfl ?_
            refine ex_cVC (q := ("java/lang/String", 13)) [] [.int (hs_I S2 m 15), .ref m] dX10_isWord_46 cV_X10_144 (c_len_3 g) cO_7 rfl rfl (by decide) (Nat.le_of_ble_eq_true rfl) rfl ?_
            refine ex_iadd dX10_isWord_49 ?_
            refine ex_cVr [.int ((hs_I S2 m 15) + 5)] [] dX10_isWord_50 cV_X10_134 (m_byteAt g hX2.1 (j := sk (pb T N) N p.1 + 1 + 1 + 1 + 1 + 1) (by rw [hX2.1.2.1.2.1]; exact nI_add _ 5) (by omega)) hB.1.1 hB.1.2 rfl rfl rfl (by decide) (Nat.le_of_ble_eq_true rfl) rfl ?_
            refine ex_cSr [.int (nI (pb T N (sk (pb T N) N p.1 + 1 + 1 + 1 + 1 + 1)))] [] dX10_isWord_53 cS_X10_154 (m_isSmall g (c := pb T N (sk (pb T N) N p.1 + 1 + 1 + 1 + 1 + 1)) rfl (Nat.lt_trans (pb_lt _ _ _) (by decide))) rfl (by decide) (Nat.le_of_ble_eq_true rfl) rfl ?_
            refine ex_if_ne (tgt := 63) dX10_isWord_56 (by decide) (fun c56 => ?_) (fun c56 => ?_)
            · refine ex_iconst (v := 0) dX10_isWord_63 (by decide) ?_
              exact ex_bret rfl (by decide) dX10_isWord_64 (pq_i rfl (by rw [if_neg (fun z => by simp only [wd_cons, wd_nil] at z; exact c56 (if_neg z.2.2.2.2.2))]) hX2)
            · refine ex_iconst (v := 1) dX10_isWord_59 (by decide) ?_
              refine ex_goto (tgt := 64) dX10_isWord_60 (by decide) ?_
              exact ex_bret rfl (by decide) dX10_isWord_64 (pq_i rfl (by rw [if_pos (by simp only [wd_cons, wd_nil]; exact ⟨w0, w1, w2, w3, w4, fun z => by rw [if_pos z] at c56; exact absurd c56 (by decide)⟩)]) hX2)
          · refine ex_iconst (v := 0) dX10_isWord_32 (by decide) ?_
            exact ex_bret rfl (by decide) dX10_isWord_33 (pq_i rfl (by rw [if_neg (fun z => by simp only [wd_cons] at z; exact c29 (by rw [z.2.2.2.2.1]; rfl))]) hX2)
        · refine ex_iconst (v := 0) dX10_isWord_32 (by decide) ?_
          exact ex_bret rfl (by decide) dX10_isWord_33 (pq_i rfl (by rw [if_neg (fun z => by simp only [wd_cons] at z; exact c29 (by rw [z.2.2.2.1]; rfl))]) hX2)
      · refine ex_iconst (v := 0) dX10_isWord_32 (by decide) ?_
        exact ex_bret rfl (by decide) dX10_isWord_33 (pq_i rfl (by rw [if_neg (fun z => by simp only [wd_cons] at z; exact c29 (by rw [z.2.2.1]; rfl))]) hX2)
    · refine ex_iconst (v := 0) dX10_isWord_32 (by decide) ?_
      exact ex_bret rfl (by decide) dX10_isWord_33 (pq_i rfl (by rw [if_neg (fun z => by simp only [wd_cons] at z; exact c29 (by rw [z.2.1]; rfl))]) hX2)
  · refine ex_iconst (v := 0) dX10_isWord_32 (by decide) ?_
    exact ex_bret rfl (by decide) dX10_isWord_33 (pq_i rfl (by rw [if_neg (fun z => by simp only [wd_cons] at z; exact c29 (by rw [z.1]; rfl))]) hX2)
set_option maxRecDepth 20000 in
set_option maxHeartbeats 4000000 in
theorem m_isWord_6 (g : gl_T) {S : hs_T} {n k : Nat} {m N : Nat} {ad : Nat → Nat} {s : st_T} {T : List Int32} {p : ps_T} (hP : PS S m ad s T N p) : ex_M g 4 mX10_isWord [.ref m, .ref (g.2.2.2.2 16)] S n k (pq S m ad n k s T N (p_bl (pb T N) N p) (some (.int (if wd (pb T N) (sk (pb T N) N p.1) [120] then 1 else 0)))) := by
  have hX1 := PX_rf hP
  have hB := hP.1.1
  refine ex_enter (by decide +kernel) (Nat.le_of_ble_eq_true rfl) ?_
  show ex_W _ _ _ _ 0 [(0, .ref m), (1, .ref (g.2.2.2.2 16))] [] _ _ _
  refine ex_aload_n dX10_isWord_0 0 rfl ?_
  refine ex_cVg [] [] dX10_isWord_1 cV_X10_141 (m_blanks g hX1.1) hB.1.1 hB.1.2 rfl rfl rfl (by decide) (Nat.le_of_ble_eq_true rfl) rfl ?_ (fun E S' n' k' h => by obtain ⟨h1, -⟩ := h; cases h1)
  rintro v' S2 n' k' ⟨hr, hq2, hn, hk⟩
  cases hr
  have hn := hn.symm
  have hk := hk.symm
  subst hn hk
  have hX2 := PX_tr hX1 hq2
  have hB := hX2.1.1.1
  show ex_W _ _ _ _ 4 [(0, .ref m), (1, .ref (g.2.2.2.2 16))] [] S2 n k
  have hN4 := hP.2.2.2.1
  have hskN := sk_le (b := pb T N) (N := N) hP.2.2.2.2.1
  refine ex_iconst (v := 0) dX10_isWord_4 (by decide) ?_
  refine ex_istore_n [(2, .int 0), (0, .ref m), (1, .ref (g.2.2.2.2 16))] dX10_isWord_5 (by decide) rfl ?_
  refine ex_iload_n dX10_isWord_6 0 rfl ?_
  refine ex_aload_n dX10_isWord_7 2 rfl ?_
  refine ex_cVC (q := ("java/lang/String", 16)) [] [.int 0] dX10_isWord_8 cV_X10_144 (c_len_6 g) cO_10 rfl rfl (by decide) (Nat.le_of_ble_eq_true rfl) rfl ?_
  refine ex_icmp_ge (tgt := 40) dX10_isWord_11 (by decide) (fun c11 => absurd c11 (by decide)) (fun c11 => ?_)
  refine ex_aload_n dX10_isWord_14 1 rfl ?_
  refine ex_aload_n dX10_isWord_15 1 rfl ?_
  refine ex_getI dX10_isWord_16 fl_X10_131 hB.1.1 hB.1.2 ?_
  refine ex_iload_n dX10_isWord_19 0 rfl ?_
  refine ex_iadd dX10_isWord_20 ?_
  refine ex_cVr [.int ((hs_I S2 m 15) + 0)] [] dX10_isWord_21 cV_X10_134 (m_byteAt g hX2.1 (j := sk (pb T N) N p.1) (by rw [hX2.1.2.1.2.1]; exact nI_add _ 0) (by omega)) hB.1.1 hB.1.2 rfl rfl rfl (by decide) (Nat.le_of_ble_eq_true rfl) rfl ?_
  refine ex_aload_n dX10_isWord_24 2 rfl ?_
  refine ex_iload_n dX10_isWord_25 0 rfl ?_
  refine ex_cVC (q := ("java/lang/String", 16)) [.int 0] [.int (nI (pb T N (sk (pb T N) N p.1)))] dX10_isWord_26 cV_X10_150 (c_char_6_0 g) cO_10 rfl rfl (by decide) (Nat.le_of_ble_eq_true rfl) rfl ?_
  refine ex_icmp_eq (tgt := 34) dX10_isWord_29 (by decide) (fun c29 => ?_) (fun c29 => ?_)
  · have w0 : pb T N (sk (pb T N) N p.1) = 120 := (nI_eq (b := 120) (Nat.lt_trans (pb_lt _ _ _) (by decide)) (by decide)).mp c29
    refine ex_iinc (v := 1) 0 [(2, .int 1), (0, .ref m), (1, .ref (g.2.2.2.2 16))] dX10_isWord_34 rfl (by decide) (by decide) rfl ?_
    refine ex_goto (tgt := 6) dX10_isWord_37 (by decide) ?_
    refine ex_iload_n dX10_isWord_6 0 rfl ?_
    refine ex_aload_n dX10_isWord_7 2 rfl ?_
    refine ex_cVC (q := ("java/lang/String", 16)) [] [.int 1] dX10_isWord_8 cV_X10_144 (c_len_6 g) cO_10 rfl rfl (by decide) (Nat.le_of_ble_eq_true rfl) rfl ?_
    refine ex_icmp_ge (tgt := 40) dX10_isWord_11 (by decide) (fun c11 => ?_) (fun c11 => absurd (by decide) c11)
    refine ex_aload_n dX10_isWord_40 1 rfl ?_
    refine ex_aload_n dX10_isWord_41 1 rfl ?_
    refine ex_getI dX10_isWord_42 fl_X10_131 hB.1.1 hB.1.2 ?_
    refine ex_aload_n dX10_isWord_45 2 rfl ?_
    refine ex_cVC (q := ("java/lang/String", 16)) [] [.int (hs_I S2 m 15), .ref m] dX10_isWord_46 cV_X10_144 (c_len_6 g) cO_10 rfl rfl (by decide) (Nat.le_of_ble_eq_true rfl) rfl ?_
    refine ex_iadd dX10_isWord_49 ?_
    refine ex_cVr [.int ((hs_I S2 m 15) + 1)] [] dX10_isWord_50 cV_X10_134 (m_byteAt g hX2.1 (j := sk (pb T N) N p.1 + 1) (by rw [hX2.1.2.1.2.1]; exact nI_add _ 1) (by omega)) hB.1.1 hB.1.2 rfl rfl rfl (by decide) (Nat.le_of_ble_eq_true rfl) rfl ?_
    refine ex_cSr [.int (nI (pb T N (sk (pb T N) N p.1 + 1)))] [] dX10_isWord_53 cS_X10_154 (m_isSmall g (c := pb T N (sk (pb T N) N p.1 + 1)) rfl (Nat.lt_trans (pb_lt _ _ _) (by decide))) rfl (by decide) (Nat.le_of_ble_eq_true rfl) rfl ?_
    refine ex_if_ne (tgt := 63) dX10_isWord_56 (by decide) (fun c56 => ?_) (fun c56 => ?_)
    · refine ex_iconst (v := 0) dX10_isWord_63 (by decide) ?_
      exact ex_bret rfl (by decide) dX10_isWord_64 (pq_i rfl (by rw [if_neg (fun z => by simp only [wd_cons, wd_nil] at z; exact c56 (if_neg z.2))]) hX2)
    · refine ex_iconst (v := 1) dX10_isWord_59 (by decide) ?_
      refine ex_goto (tgt := 64) dX10_isWord_60 (by decide) ?_
      exact ex_bret rfl (by decide) dX10_isWord_64 (pq_i rfl (by rw [if_pos (by simp only [wd_cons, wd_nil]; exact ⟨w0, fun z => by rw [if_pos z] at c56; exact absurd c56 (by decide)⟩)]) hX2)
  · refine ex_iconst (v := 0) dX10_isWord_32 (by decide) ?_
    exact ex_bret rfl (by decide) dX10_isWord_33 (pq_i rfl (by rw [if_neg (fun z => by simp only [wd_cons] at z; exact c29 (by rw [z.1]; rfl))]) hX2)
set_option maxRecDepth 20000 in
set_option maxHeartbeats 4000000 in
theorem m_need_0 (g : gl_T) {S : hs_T} {n k : Nat} {m N : Nat} {ad : Nat → Nat} {s : st_T} {T : List Int32} {p : ps_T} (hP : PS S m ad s T N p) : ex_M g 5 mX10_need [.ref m, .ref (g.2.2.2.2 10)] S n k (pq S m ad n k s T N (p_need (pb T N) N [102, 117, 110, 100] p) none) := by
  have hX1 := PX_rf hP
  have hB := hP.1.1
  refine ex_enter (by decide +kernel) (Nat.le_of_ble_eq_true rfl) ?_
  show ex_W _ _ _ _ 0 [(0, .ref m), (1, .ref (g.2.2.2.2 10))] [] _ _ _
  refine ex_aload_n dX10_need_0 0 rfl ?_
  refine ex_getI dX10_need_1 fl_X10_138 hB.1.1 hB.1.2 ?_
  refine ex_if_le (tgt := 8) dX10_need_4 (by decide) (fun c4 => ?_) (fun c4 => ?_)
  · refine ex_aload_n dX10_need_8 0 rfl ?_
    refine ex_aload_n dX10_need_9 1 rfl ?_
    refine ex_cVg [.ref (g.2.2.2.2 10)] [] dX10_need_10 cV_X10_157 (m_isWord_0 g hX1.1) hB.1.1 hB.1.2 rfl rfl rfl (by decide) (Nat.le_of_ble_eq_true rfl) rfl ?_ (fun E S' n' k' h => by obtain ⟨h1, -⟩ := h; cases h1)
    rintro v' S2 n' k' ⟨hr, hq2, hn, hk⟩
    cases hr
    have hn := hn.symm
    have hk := hk.symm
    subst hn hk
    have hX2 := PX_tr hX1 hq2
    have hB := hX2.1.1.1
    show ex_W _ _ _ _ 13 [(0, .ref m), (1, .ref (g.2.2.2.2 10))] [.int (if wd (pb T N) (sk (pb T N) N p.1) [102, 117, 110, 100] then 1 else 0)] S2 n k
    refine ex_if_eq (tgt := 32) dX10_need_13 (by decide) (fun c13 => ?_) (fun c13 => ?_)
    · have hwd : ¬ wd (pb T N) (sk (pb T N) N p.1) [102, 117, 110, 100] := fun z => by rw [if_pos z] at c13; exact absurd c13 (by decide)
      refine ex_aload_n dX10_need_32 0 rfl ?_
      refine ex_iconst (v := 1) dX10_need_33 (by decide) ?_
      refine ex_aload_n dX10_need_34 0 rfl ?_
      refine ex_getI dX10_need_35 fl_X10_131 hB.1.1 hB.1.2 ?_
      refine ex_cVg [.int 1, .int (hs_I S2 m 15)] [] dX10_need_38 cV_X10_161 (m_wrong g hX2.1 (c := 1) rfl (by decide) hX2.1.2.1.2.1 hX2.1.2.2.2.2.1) hB.1.1 hB.1.2 rfl rfl rfl (by decide) (Nat.le_of_ble_eq_true rfl) rfl ?_ (fun E S' n' k' h => by obtain ⟨h1, -⟩ := h; cases h1)
      rintro v' S3 n' k' ⟨hr, hq3, hn, hk⟩
      cases hr
      have hn := hn.symm
      have hk := hk.symm
      subst hn hk
      have hX3 := PX_tr hX2 hq3
      have hB := hX3.1.1.1
      show ex_W _ _ _ _ 41 [(0, .ref m), (1, .ref (g.2.2.2.2 10))] [] S3 n k
      exact ex_vrt rfl dX10_need_41 (pq_n (by unfold p_need; rw [if_neg (fun z => by rw [hP.2.1.2.2] at c4; exact nI_nle z (by have := hP.2.2.2.2.2; omega) c4), if_neg hwd]; rfl) hX3)
    · have hwd : wd (pb T N) (sk (pb T N) N p.1) [102, 117, 110, 100] := by
        by_cases z : wd (pb T N) (sk (pb T N) N p.1) [102, 117, 110, 100]
        · exact z
        · rw [if_neg z] at c13; exact absurd rfl c13
      have hin : sk (pb T N) N p.1 + 4 ≤ N := by
        have z := hwd
        simp only [wd_cons] at z
        have := pb_in (T := T) (N := N) (k := sk (pb T N) N p.1 + 1 + 1 + 1) (by rw [z.2.2.2.1]; decide)
        omega
      refine ex_aload_n dX10_need_16 0 rfl ?_
      refine ex_dup dX10_need_17 rfl ?_
      refine ex_getI dX10_need_18 fl_X10_131 hB.1.1 hB.1.2 ?_
      refine ex_aload_n dX10_need_21 1 rfl ?_
      refine ex_cVC (q := ("java/lang/String", 10)) [] [.int (hs_I S2 m 15), .ref m] dX10_need_22 cV_X10_144 (c_len_0 g) cO_4 rfl rfl (by decide) (Nat.le_of_ble_eq_true rfl) rfl ?_
      refine ex_iadd dX10_need_25 ?_
      refine ex_putI dX10_need_26 fl_X10_131 (pf_X10_131 _) hB.1.1 hB.1.2 ?_
      refine ex_goto (tgt := 41) dX10_need_29 (by decide) ?_
      exact ex_vrt rfl dX10_need_41 (pq_n (by unfold p_need; rw [if_neg (fun z => by rw [hP.2.1.2.2] at c4; exact nI_nle z (by have := hP.2.2.2.2.2; omega) c4), if_pos hwd]; rfl) (PX_at hX2 (a := sk (pb T N) N p.1 + 4) (by rw [hX2.1.2.1.2.1]; exact nI_add _ 4) hin))
  · exact ex_vrt rfl dX10_need_7 (pq_n (by unfold p_need; rw [if_pos (Nat.pos_of_ne_zero (fun z => c4 (by rw [hP.2.1.2.2, z]; decide)))]) (PX_rf hP))
set_option maxRecDepth 20000 in
set_option maxHeartbeats 4000000 in
theorem m_need_1 (g : gl_T) {S : hs_T} {n k : Nat} {m N : Nat} {ad : Nat → Nat} {s : st_T} {T : List Int32} {p : ps_T} (hP : PS S m ad s T N p) : ex_M g 5 mX10_need [.ref m, .ref (g.2.2.2.2 11)] S n k (pq S m ad n k s T N (p_need (pb T N) N [100, 97, 121, 115] p) none) := by
  have hX1 := PX_rf hP
  have hB := hP.1.1
  refine ex_enter (by decide +kernel) (Nat.le_of_ble_eq_true rfl) ?_
  show ex_W _ _ _ _ 0 [(0, .ref m), (1, .ref (g.2.2.2.2 11))] [] _ _ _
  refine ex_aload_n dX10_need_0 0 rfl ?_
  refine ex_getI dX10_need_1 fl_X10_138 hB.1.1 hB.1.2 ?_
  refine ex_if_le (tgt := 8) dX10_need_4 (by decide) (fun c4 => ?_) (fun c4 => ?_)
  · refine ex_aload_n dX10_need_8 0 rfl ?_
    refine ex_aload_n dX10_need_9 1 rfl ?_
    refine ex_cVg [.ref (g.2.2.2.2 11)] [] dX10_need_10 cV_X10_157 (m_isWord_1 g hX1.1) hB.1.1 hB.1.2 rfl rfl rfl (by decide) (Nat.le_of_ble_eq_true rfl) rfl ?_ (fun E S' n' k' h => by obtain ⟨h1, -⟩ := h; cases h1)
    rintro v' S2 n' k' ⟨hr, hq2, hn, hk⟩
    cases hr
    have hn := hn.symm
    have hk := hk.symm
    subst hn hk
    have hX2 := PX_tr hX1 hq2
    have hB := hX2.1.1.1
    show ex_W _ _ _ _ 13 [(0, .ref m), (1, .ref (g.2.2.2.2 11))] [.int (if wd (pb T N) (sk (pb T N) N p.1) [100, 97, 121, 115] then 1 else 0)] S2 n k
    refine ex_if_eq (tgt := 32) dX10_need_13 (by decide) (fun c13 => ?_) (fun c13 => ?_)
    · have hwd : ¬ wd (pb T N) (sk (pb T N) N p.1) [100, 97, 121, 115] := fun z => by rw [if_pos z] at c13; exact absurd c13 (by decide)
      refine ex_aload_n dX10_need_32 0 rfl ?_
      refine ex_iconst (v := 1) dX10_need_33 (by decide) ?_
      refine ex_aload_n dX10_need_34 0 rfl ?_
      refine ex_getI dX10_need_35 fl_X10_131 hB.1.1 hB.1.2 ?_
      refine ex_cVg [.int 1, .int (hs_I S2 m 15)] [] dX10_need_38 cV_X10_161 (m_wrong g hX2.1 (c := 1) rfl (by decide) hX2.1.2.1.2.1 hX2.1.2.2.2.2.1) hB.1.1 hB.1.2 rfl rfl rfl (by decide) (Nat.le_of_ble_eq_true rfl) rfl ?_ (fun E S' n' k' h => by obtain ⟨h1, -⟩ := h; cases h1)
      rintro v' S3 n' k' ⟨hr, hq3, hn, hk⟩
      cases hr
      have hn := hn.symm
      have hk := hk.symm
      subst hn hk
      have hX3 := PX_tr hX2 hq3
      have hB := hX3.1.1.1
      show ex_W _ _ _ _ 41 [(0, .ref m), (1, .ref (g.2.2.2.2 11))] [] S3 n k
      exact ex_vrt rfl dX10_need_41 (pq_n (by unfold p_need; rw [if_neg (fun z => by rw [hP.2.1.2.2] at c4; exact nI_nle z (by have := hP.2.2.2.2.2; omega) c4), if_neg hwd]; rfl) hX3)
    · have hwd : wd (pb T N) (sk (pb T N) N p.1) [100, 97, 121, 115] := by
        by_cases z : wd (pb T N) (sk (pb T N) N p.1) [100, 97, 121, 115]
        · exact z
        · rw [if_neg z] at c13; exact absurd rfl c13
      have hin : sk (pb T N) N p.1 + 4 ≤ N := by
        have z := hwd
        simp only [wd_cons] at z
        have := pb_in (T := T) (N := N) (k := sk (pb T N) N p.1 + 1 + 1 + 1) (by rw [z.2.2.2.1]; decide)
        omega
      refine ex_aload_n dX10_need_16 0 rfl ?_
      refine ex_dup dX10_need_17 rfl ?_
      refine ex_getI dX10_need_18 fl_X10_131 hB.1.1 hB.1.2 ?_
      refine ex_aload_n dX10_need_21 1 rfl ?_
      refine ex_cVC (q := ("java/lang/String", 11)) [] [.int (hs_I S2 m 15), .ref m] dX10_need_22 cV_X10_144 (c_len_1 g) cO_5 rfl rfl (by decide) (Nat.le_of_ble_eq_true rfl) rfl ?_
      refine ex_iadd dX10_need_25 ?_
      refine ex_putI dX10_need_26 fl_X10_131 (pf_X10_131 _) hB.1.1 hB.1.2 ?_
      refine ex_goto (tgt := 41) dX10_need_29 (by decide) ?_
      exact ex_vrt rfl dX10_need_41 (pq_n (by unfold p_need; rw [if_neg (fun z => by rw [hP.2.1.2.2] at c4; exact nI_nle z (by have := hP.2.2.2.2.2; omega) c4), if_pos hwd]; rfl) (PX_at hX2 (a := sk (pb T N) N p.1 + 4) (by rw [hX2.1.2.1.2.1]; exact nI_add _ 4) hin))
  · exact ex_vrt rfl dX10_need_7 (pq_n (by unfold p_need; rw [if_pos (Nat.pos_of_ne_zero (fun z => c4 (by rw [hP.2.1.2.2, z]; decide)))]) (PX_rf hP))
set_option maxRecDepth 20000 in
set_option maxHeartbeats 4000000 in
theorem m_need_2 (g : gl_T) {S : hs_T} {n k : Nat} {m N : Nat} {ad : Nat → Nat} {s : st_T} {T : List Int32} {p : ps_T} (hP : PS S m ad s T N p) : ex_M g 5 mX10_need [.ref m, .ref (g.2.2.2.2 12)] S n k (pq S m ad n k s T N (p_need (pb T N) N [116, 105, 101, 114] p) none) := by
  have hX1 := PX_rf hP
  have hB := hP.1.1
  refine ex_enter (by decide +kernel) (Nat.le_of_ble_eq_true rfl) ?_
  show ex_W _ _ _ _ 0 [(0, .ref m), (1, .ref (g.2.2.2.2 12))] [] _ _ _
  refine ex_aload_n dX10_need_0 0 rfl ?_
  refine ex_getI dX10_need_1 fl_X10_138 hB.1.1 hB.1.2 ?_
  refine ex_if_le (tgt := 8) dX10_need_4 (by decide) (fun c4 => ?_) (fun c4 => ?_)
  · refine ex_aload_n dX10_need_8 0 rfl ?_
    refine ex_aload_n dX10_need_9 1 rfl ?_
    refine ex_cVg [.ref (g.2.2.2.2 12)] [] dX10_need_10 cV_X10_157 (m_isWord_2 g hX1.1) hB.1.1 hB.1.2 rfl rfl rfl (by decide) (Nat.le_of_ble_eq_true rfl) rfl ?_ (fun E S' n' k' h => by obtain ⟨h1, -⟩ := h; cases h1)
    rintro v' S2 n' k' ⟨hr, hq2, hn, hk⟩
    cases hr
    have hn := hn.symm
    have hk := hk.symm
    subst hn hk
    have hX2 := PX_tr hX1 hq2
    have hB := hX2.1.1.1
    show ex_W _ _ _ _ 13 [(0, .ref m), (1, .ref (g.2.2.2.2 12))] [.int (if wd (pb T N) (sk (pb T N) N p.1) [116, 105, 101, 114] then 1 else 0)] S2 n k
    refine ex_if_eq (tgt := 32) dX10_need_13 (by decide) (fun c13 => ?_) (fun c13 => ?_)
    · have hwd : ¬ wd (pb T N) (sk (pb T N) N p.1) [116, 105, 101, 114] := fun z => by rw [if_pos z] at c13; exact absurd c13 (by decide)
      refine ex_aload_n dX10_need_32 0 rfl ?_
      refine ex_iconst (v := 1) dX10_need_33 (by decide) ?_
      refine ex_aload_n dX10_need_34 0 rfl ?_
      refine ex_getI dX10_need_35 fl_X10_131 hB.1.1 hB.1.2 ?_
      refine ex_cVg [.int 1, .int (hs_I S2 m 15)] [] dX10_need_38 cV_X10_161 (m_wrong g hX2.1 (c := 1) rfl (by decide) hX2.1.2.1.2.1 hX2.1.2.2.2.2.1) hB.1.1 hB.1.2 rfl rfl rfl (by decide) (Nat.le_of_ble_eq_true rfl) rfl ?_ (fun E S' n' k' h => by obtain ⟨h1, -⟩ := h; cases h1)
      rintro v' S3 n' k' ⟨hr, hq3, hn, hk⟩
      cases hr
      have hn := hn.symm
      have hk := hk.symm
      subst hn hk
      have hX3 := PX_tr hX2 hq3
      have hB := hX3.1.1.1
      show ex_W _ _ _ _ 41 [(0, .ref m), (1, .ref (g.2.2.2.2 12))] [] S3 n k
      exact ex_vrt rfl dX10_need_41 (pq_n (by unfold p_need; rw [if_neg (fun z => by rw [hP.2.1.2.2] at c4; exact nI_nle z (by have := hP.2.2.2.2.2; omega) c4), if_neg hwd]; rfl) hX3)
    · have hwd : wd (pb T N) (sk (pb T N) N p.1) [116, 105, 101, 114] := by
        by_cases z : wd (pb T N) (sk (pb T N) N p.1) [116, 105, 101, 114]
        · exact z
        · rw [if_neg z] at c13; exact absurd rfl c13
      have hin : sk (pb T N) N p.1 + 4 ≤ N := by
        have z := hwd
        simp only [wd_cons] at z
        have := pb_in (T := T) (N := N) (k := sk (pb T N) N p.1 + 1 + 1 + 1) (by rw [z.2.2.2.1]; decide)
        omega
      refine ex_aload_n dX10_need_16 0 rfl ?_
      refine ex_dup dX10_need_17 rfl ?_
      refine ex_getI dX10_need_18 fl_X10_131 hB.1.1 hB.1.2 ?_
      refine ex_aload_n dX10_need_21 1 rfl ?_
      refine ex_cVC (q := ("java/lang/String", 12)) [] [.int (hs_I S2 m 15), .ref m] dX10_need_22 cV_X10_144 (c_len_2 g) cO_6 rfl rfl (by decide) (Nat.le_of_ble_eq_true rfl) rfl ?_
      refine ex_iadd dX10_need_25 ?_
      refine ex_putI dX10_need_26 fl_X10_131 (pf_X10_131 _) hB.1.1 hB.1.2 ?_
      refine ex_goto (tgt := 41) dX10_need_29 (by decide) ?_
      exact ex_vrt rfl dX10_need_41 (pq_n (by unfold p_need; rw [if_neg (fun z => by rw [hP.2.1.2.2] at c4; exact nI_nle z (by have := hP.2.2.2.2.2; omega) c4), if_pos hwd]; rfl) (PX_at hX2 (a := sk (pb T N) N p.1 + 4) (by rw [hX2.1.2.1.2.1]; exact nI_add _ 4) hin))
  · exact ex_vrt rfl dX10_need_7 (pq_n (by unfold p_need; rw [if_pos (Nat.pos_of_ne_zero (fun z => c4 (by rw [hP.2.1.2.2, z]; decide)))]) (PX_rf hP))
set_option maxRecDepth 20000 in
set_option maxHeartbeats 4000000 in
theorem m_need_3 (g : gl_T) {S : hs_T} {n k : Nat} {m N : Nat} {ad : Nat → Nat} {s : st_T} {T : List Int32} {p : ps_T} (hP : PS S m ad s T N p) : ex_M g 5 mX10_need [.ref m, .ref (g.2.2.2.2 13)] S n k (pq S m ad n k s T N (p_need (pb T N) N [115, 104, 97, 114, 101] p) none) := by
  have hX1 := PX_rf hP
  have hB := hP.1.1
  refine ex_enter (by decide +kernel) (Nat.le_of_ble_eq_true rfl) ?_
  show ex_W _ _ _ _ 0 [(0, .ref m), (1, .ref (g.2.2.2.2 13))] [] _ _ _
  refine ex_aload_n dX10_need_0 0 rfl ?_
  refine ex_getI dX10_need_1 fl_X10_138 hB.1.1 hB.1.2 ?_
  refine ex_if_le (tgt := 8) dX10_need_4 (by decide) (fun c4 => ?_) (fun c4 => ?_)
  · refine ex_aload_n dX10_need_8 0 rfl ?_
    refine ex_aload_n dX10_need_9 1 rfl ?_
    refine ex_cVg [.ref (g.2.2.2.2 13)] [] dX10_need_10 cV_X10_157 (m_isWord_3 g hX1.1) hB.1.1 hB.1.2 rfl rfl rfl (by decide) (Nat.le_of_ble_eq_true rfl) rfl ?_ (fun E S' n' k' h => by obtain ⟨h1, -⟩ := h; cases h1)
    rintro v' S2 n' k' ⟨hr, hq2, hn, hk⟩
    cases hr
    have hn := hn.symm
    have hk := hk.symm
    subst hn hk
    have hX2 := PX_tr hX1 hq2
    have hB := hX2.1.1.1
    show ex_W _ _ _ _ 13 [(0, .ref m), (1, .ref (g.2.2.2.2 13))] [.int (if wd (pb T N) (sk (pb T N) N p.1) [115, 104, 97, 114, 101] then 1 else 0)] S2 n k
    refine ex_if_eq (tgt := 32) dX10_need_13 (by decide) (fun c13 => ?_) (fun c13 => ?_)
    · have hwd : ¬ wd (pb T N) (sk (pb T N) N p.1) [115, 104, 97, 114, 101] := fun z => by rw [if_pos z] at c13; exact absurd c13 (by decide)
      refine ex_aload_n dX10_need_32 0 rfl ?_
      refine ex_iconst (v := 1) dX10_need_33 (by decide) ?_
      refine ex_aload_n dX10_need_34 0 rfl ?_
      refine ex_getI dX10_need_35 fl_X10_131 hB.1.1 hB.1.2 ?_
      refine ex_cVg [.int 1, .int (hs_I S2 m 15)] [] dX10_need_38 cV_X10_161 (m_wrong g hX2.1 (c := 1) rfl (by decide) hX2.1.2.1.2.1 hX2.1.2.2.2.2.1) hB.1.1 hB.1.2 rfl rfl rfl (by decide) (Nat.le_of_ble_eq_true rfl) rfl ?_ (fun E S' n' k' h => by obtain ⟨h1, -⟩ := h; cases h1)
      rintro v' S3 n' k' ⟨hr, hq3, hn, hk⟩
      cases hr
      have hn := hn.symm
      have hk := hk.symm
      subst hn hk
      have hX3 := PX_tr hX2 hq3
      have hB := hX3.1.1.1
      show ex_W _ _ _ _ 41 [(0, .ref m), (1, .ref (g.2.2.2.2 13))] [] S3 n k
      exact ex_vrt rfl dX10_need_41 (pq_n (by unfold p_need; rw [if_neg (fun z => by rw [hP.2.1.2.2] at c4; exact nI_nle z (by have := hP.2.2.2.2.2; omega) c4), if_neg hwd]; rfl) hX3)
    · have hwd : wd (pb T N) (sk (pb T N) N p.1) [115, 104, 97, 114, 101] := by
        by_cases z : wd (pb T N) (sk (pb T N) N p.1) [115, 104, 97, 114, 101]
        · exact z
        · rw [if_neg z] at c13; exact absurd rfl c13
      have hin : sk (pb T N) N p.1 + 5 ≤ N := by
        have z := hwd
        simp only [wd_cons] at z
        have := pb_in (T := T) (N := N) (k := sk (pb T N) N p.1 + 1 + 1 + 1 + 1) (by rw [z.2.2.2.2.1]; decide)
        omega
      refine ex_aload_n dX10_need_16 0 rfl ?_
      refine ex_dup dX10_need_17 rfl ?_
      refine ex_getI dX10_need_18 fl_X10_131 hB.1.1 hB.1.2 ?_
      refine ex_aload_n dX10_need_21 1 rfl ?_
      refine ex_cVC (q := ("java/lang/String", 13)) [] [.int (hs_I S2 m 15), .ref m] dX10_need_22 cV_X10_144 (c_len_3 g) cO_7 rfl rfl (by decide) (Nat.le_of_ble_eq_true rfl) rfl ?_
      refine ex_iadd dX10_need_25 ?_
      refine ex_putI dX10_need_26 fl_X10_131 (pf_X10_131 _) hB.1.1 hB.1.2 ?_
      refine ex_goto (tgt := 41) dX10_need_29 (by decide) ?_
      exact ex_vrt rfl dX10_need_41 (pq_n (by unfold p_need; rw [if_neg (fun z => by rw [hP.2.1.2.2] at c4; exact nI_nle z (by have := hP.2.2.2.2.2; omega) c4), if_pos hwd]; rfl) (PX_at hX2 (a := sk (pb T N) N p.1 + 5) (by rw [hX2.1.2.1.2.1]; exact nI_add _ 5) hin))
  · exact ex_vrt rfl dX10_need_7 (pq_n (by unfold p_need; rw [if_pos (Nat.pos_of_ne_zero (fun z => c4 (by rw [hP.2.1.2.2, z]; decide)))]) (PX_rf hP))
set_option maxRecDepth 20000 in
set_option maxHeartbeats 4000000 in
theorem m_need_6 (g : gl_T) {S : hs_T} {n k : Nat} {m N : Nat} {ad : Nat → Nat} {s : st_T} {T : List Int32} {p : ps_T} (hP : PS S m ad s T N p) : ex_M g 5 mX10_need [.ref m, .ref (g.2.2.2.2 16)] S n k (pq S m ad n k s T N (p_need (pb T N) N [120] p) none) := by
  have hX1 := PX_rf hP
  have hB := hP.1.1
  refine ex_enter (by decide +kernel) (Nat.le_of_ble_eq_true rfl) ?_
  show ex_W _ _ _ _ 0 [(0, .ref m), (1, .ref (g.2.2.2.2 16))] [] _ _ _
  refine ex_aload_n dX10_need_0 0 rfl ?_
  refine ex_getI dX10_need_1 fl_X10_138 hB.1.1 hB.1.2 ?_
  refine ex_if_le (tgt := 8) dX10_need_4 (by decide) (fun c4 => ?_) (fun c4 => ?_)
  · refine ex_aload_n dX10_need_8 0 rfl ?_
    refine ex_aload_n dX10_need_9 1 rfl ?_
    refine ex_cVg [.ref (g.2.2.2.2 16)] [] dX10_need_10 cV_X10_157 (m_isWord_6 g hX1.1) hB.1.1 hB.1.2 rfl rfl rfl (by decide) (Nat.le_of_ble_eq_true rfl) rfl ?_ (fun E S' n' k' h => by obtain ⟨h1, -⟩ := h; cases h1)
    rintro v' S2 n' k' ⟨hr, hq2, hn, hk⟩
    cases hr
    have hn := hn.symm
    have hk := hk.symm
    subst hn hk
    have hX2 := PX_tr hX1 hq2
    have hB := hX2.1.1.1
    show ex_W _ _ _ _ 13 [(0, .ref m), (1, .ref (g.2.2.2.2 16))] [.int (if wd (pb T N) (sk (pb T N) N p.1) [120] then 1 else 0)] S2 n k
    refine ex_if_eq (tgt := 32) dX10_need_13 (by decide) (fun c13 => ?_) (fun c13 => ?_)
    · have hwd : ¬ wd (pb T N) (sk (pb T N) N p.1) [120] := fun z => by rw [if_pos z] at c13; exact absurd c13 (by decide)
      refine ex_aload_n dX10_need_32 0 rfl ?_
      refine ex_iconst (v := 1) dX10_need_33 (by decide) ?_
      refine ex_aload_n dX10_need_34 0 rfl ?_
      refine ex_getI dX10_need_35 fl_X10_131 hB.1.1 hB.1.2 ?_
      refine ex_cVg [.int 1, .int (hs_I S2 m 15)] [] dX10_need_38 cV_X10_161 (m_wrong g hX2.1 (c := 1) rfl (by decide) hX2.1.2.1.2.1 hX2.1.2.2.2.2.1) hB.1.1 hB.1.2 rfl rfl rfl (by decide) (Nat.le_of_ble_eq_true rfl) rfl ?_ (fun E S' n' k' h => by obtain ⟨h1, -⟩ := h; cases h1)
      rintro v' S3 n' k' ⟨hr, hq3, hn, hk⟩
      cases hr
      have hn := hn.symm
      have hk := hk.symm
      subst hn hk
      have hX3 := PX_tr hX2 hq3
      have hB := hX3.1.1.1
      show ex_W _ _ _ _ 41 [(0, .ref m), (1, .ref (g.2.2.2.2 16))] [] S3 n k
      exact ex_vrt rfl dX10_need_41 (pq_n (by unfold p_need; rw [if_neg (fun z => by rw [hP.2.1.2.2] at c4; exact nI_nle z (by have := hP.2.2.2.2.2; omega) c4), if_neg hwd]; rfl) hX3)
    · have hwd : wd (pb T N) (sk (pb T N) N p.1) [120] := by
        by_cases z : wd (pb T N) (sk (pb T N) N p.1) [120]
        · exact z
        · rw [if_neg z] at c13; exact absurd rfl c13
      have hin : sk (pb T N) N p.1 + 1 ≤ N := by
        have z := hwd
        simp only [wd_cons] at z
        have := pb_in (T := T) (N := N) (k := sk (pb T N) N p.1) (by rw [z.1]; decide)
        omega
      refine ex_aload_n dX10_need_16 0 rfl ?_
      refine ex_dup dX10_need_17 rfl ?_
      refine ex_getI dX10_need_18 fl_X10_131 hB.1.1 hB.1.2 ?_
      refine ex_aload_n dX10_need_21 1 rfl ?_
      refine ex_cVC (q := ("java/lang/String", 16)) [] [.int (hs_I S2 m 15), .ref m] dX10_need_22 cV_X10_144 (c_len_6 g) cO_10 rfl rfl (by decide) (Nat.le_of_ble_eq_true rfl) rfl ?_
      refine ex_iadd dX10_need_25 ?_
      refine ex_putI dX10_need_26 fl_X10_131 (pf_X10_131 _) hB.1.1 hB.1.2 ?_
      refine ex_goto (tgt := 41) dX10_need_29 (by decide) ?_
      exact ex_vrt rfl dX10_need_41 (pq_n (by unfold p_need; rw [if_neg (fun z => by rw [hP.2.1.2.2] at c4; exact nI_nle z (by have := hP.2.2.2.2.2; omega) c4), if_pos hwd]; rfl) (PX_at hX2 (a := sk (pb T N) N p.1 + 1) (by rw [hX2.1.2.1.2.1]; exact nI_add _ 1) hin))
  · exact ex_vrt rfl dX10_need_7 (pq_n (by unfold p_need; rw [if_pos (Nat.pos_of_ne_zero (fun z => c4 (by rw [hP.2.1.2.2, z]; decide)))]) (PX_rf hP))
