set_option maxRecDepth 20000 in
set_option maxHeartbeats 2000000 in
theorem m_num_l {g : gl_T} {S0 : hs_T} {n k m N : Nat} {ad : Nat → Nat} {s : st_T} {T : List Int32} {xf xl xm : Int32} {a l mm : Nat} {q : Nat × Option Nat} (hxf : xf = nI a) (haN : a ≤ N) (hxl : xl = nI l) (hxm : xm = nI mm) (hl : l ≤ 1) (hm : mm ≤ 1000000000) : ∀ t e v V S, PX S0 S m ad s T N (e, q) → N < e + t → vr v V → dg (pb T N) N e = dg (pb T N) N a → dv (pb T N) N e V = dv (pb T N) N a 0 →
    ex_W g 2 mX10_number (pq S0 m ad n k s T N (p_nu2 (pb T N) N l mm (dg (pb T N) N a, q) a (dv (pb T N) N a 0)) (some (.int (nI (if 0 < (p_nu2 (pb T N) N l mm (dg (pb T N) N a, q) a (dv (pb T N) N a 0)).2.1 then 0 else dv (pb T N) N a 0))))) 44 [(4, .long (lN v)), (3, .int xf), (0, .ref m), (1, .int xl), (2, .int xm)] [] S n k := by
  intro t
  induction t with
  | zero => intro e v V S hX1 h2; exact absurd h2 (by have : e ≤ N := hX1.1.2.2.2.2.1; omega)
  | succ t ih =>
    intro e v V S hX1 h2 hvr hdg hdv
    have hP := hX1.1
    have hB := hP.1.1
    have hN4 := hP.2.2.2.1
    have heN : e ≤ N := hP.2.2.2.2.1
    have hv1 := hvr.1
    have hv2 := hvr.2
    refine ex_aload_n dX10_number_44 2 rfl ?_
    refine ex_aload_n dX10_number_45 2 rfl ?_
    refine ex_getI dX10_number_46 fl_X10_131 hB.1.1 hB.1.2 ?_
    refine ex_cVr [.int (hs_I S m 15)] [] dX10_number_49 cV_X10_134 (m_byteAt g hP hP.2.1.2.1 (by show e < _; omega)) hB.1.1 hB.1.2 rfl rfl rfl (by decide) (Nat.le_of_ble_eq_true rfl) rfl ?_
    refine ex_cSr [.int (nI (pb T N e))] [] dX10_number_52 cS_X10_165 (m_isDigit g (c := pb T N e) rfl (Nat.lt_trans (pb_lt _ _ _) (by decide))) rfl (by decide) (Nat.le_of_ble_eq_true rfl) rfl ?_
    refine ex_if_eq (tgt := 107) dX10_number_55 (by decide) (fun c55 => ?_) (fun c55 => ?_)
    · have hd : ¬ (e < N ∧ dgt (pb T N e)) := fun z => by rw [if_pos z.2] at c55; exact absurd c55 (by decide)
      rw [dg_stop hd] at hdg
      rw [dv_stop hd] at hdv
      rw [← hdg, ← hdv]
      exact m_num_e hX1 hvr hxf haN hxl hxm hl hm
    · refine ex_lload dX10_number_58 0 rfl ?_
      refine ex_ldc2 dX10_number_60 lc_X10_168 ?_
      refine ex_lcmp dX10_number_63 ?_
      refine ex_if_le (tgt := 72) dX10_number_64 (by decide) (fun c64 => ?_) (fun c64 => ?_)
      · refine ex_ldc2 dX10_number_72 lc_X10_170 ?_
        refine ex_lload dX10_number_75 0 rfl ?_
        refine ex_lmul dX10_number_77 ?_
        refine ex_aload_n dX10_number_78 2 rfl ?_
        refine ex_aload_n dX10_number_79 2 rfl ?_
        refine ex_getI dX10_number_80 fl_X10_131 hB.1.1 hB.1.2 ?_
        refine ex_cVr [.int (hs_I S m 15)] [.long (10 * (lN v))] dX10_number_83 cV_X10_134 (m_byteAt g hP hP.2.1.2.1 (by show e < _; omega)) hB.1.1 hB.1.2 rfl rfl rfl (by decide) (Nat.le_of_ble_eq_true rfl) rfl ?_
        refine ex_i2l dX10_number_86 ?_
        refine ex_ladd dX10_number_87 ?_
        refine ex_ldc2 dX10_number_88 lc_X10_172 ?_
        refine ex_lsub dX10_number_91 ?_
        refine ex_lstore [(4, .long (((10 * (lN v)) + ((nI (pb T N e)).toInt64)) - 48)), (3, .int xf), (0, .ref m), (1, .int xl), (2, .int xm)] dX10_number_92 (by decide) rfl ?_
        refine ex_aload_n dX10_number_94 2 rfl ?_
        refine ex_dup dX10_number_95 rfl ?_
        refine ex_getI dX10_number_96 fl_X10_131 hB.1.1 hB.1.2 ?_
        refine ex_iconst (v := 1) dX10_number_99 (by decide) ?_
        refine ex_iadd dX10_number_100 ?_
        refine ex_putI dX10_number_101 fl_X10_131 (pf_X10_131 _) hB.1.1 hB.1.2 ?_
        refine ex_goto (tgt := 44) dX10_number_104 (by decide) ?_
        have hd : e < N ∧ dgt (pb T N e) := by
          have z : 48 ≤ pb T N e ∧ pb T N e ≤ 57 := by
            by_cases z : 48 ≤ pb T N e ∧ pb T N e ≤ 57
            · exact z
            · rw [if_neg z] at c55; exact absurd rfl c55
          exact ⟨pb_in (T := T) (N := N) (k := e) (by omega), z⟩
        have hpl := pb_lt T N e
        refine ex_lv [0, 1, 2, 3, 4] rfl ?_
        have hle : v ≤ 2000000000 := (pk_lLE (b := 2000000000) (by omega) (by decide)).mp (lg_le.mp c64)
        have hvx : ((10 * (lN v)) + ((nI (pb T N e)).toInt64)) - 48 = lN (10 * v + (pb T N e - 48)) := by
          rw [nI_l (by omega)]
          exact (congrArg (· - lN 48) ((congrArg (· + lN (pb T N e)) (lN_mul 10 v)).trans (lN_add _ _))).trans ((lN_sub (by omega)).trans (congrArg lN (by omega)))
        rw [hvx]
        have hvV : v = V := by omega
        subst hvV
        exact ih (e + 1) _ (10 * v + (pb T N e - 48)) _ (PX_at hX1 (by have e9 : hs_I S m 15 = nI e := hP.2.1.2.1; rw [e9]; exact nI_1 e) hd.1) (by omega) ⟨by omega, Or.inl rfl⟩ (by rw [← hdg, dg_go hd]) (by rw [← hdv, dv_go hd])
      · refine ex_lload dX10_number_67 0 rfl ?_
        refine ex_goto (tgt := 92) dX10_number_69 (by decide) ?_
        refine ex_lstore [(4, .long (lN v)), (3, .int xf), (0, .ref m), (1, .int xl), (2, .int xm)] dX10_number_92 (by decide) rfl ?_
        refine ex_aload_n dX10_number_94 2 rfl ?_
        refine ex_dup dX10_number_95 rfl ?_
        refine ex_getI dX10_number_96 fl_X10_131 hB.1.1 hB.1.2 ?_
        refine ex_iconst (v := 1) dX10_number_99 (by decide) ?_
        refine ex_iadd dX10_number_100 ?_
        refine ex_putI dX10_number_101 fl_X10_131 (pf_X10_131 _) hB.1.1 hB.1.2 ?_
        refine ex_goto (tgt := 44) dX10_number_104 (by decide) ?_
        have hd : e < N ∧ dgt (pb T N e) := by
          have z : 48 ≤ pb T N e ∧ pb T N e ≤ 57 := by
            by_cases z : 48 ≤ pb T N e ∧ pb T N e ≤ 57
            · exact z
            · rw [if_neg z] at c55; exact absurd rfl c55
          exact ⟨pb_in (T := T) (N := N) (k := e) (by omega), z⟩
        have hpl := pb_lt T N e
        refine ex_lv [0, 1, 2, 3, 4] rfl ?_
        have hgt : 2000000000 < v := by
          have z : ¬ (v ≤ 2000000000) := fun q => c64 (lg_le.mpr ((pk_lLE (b := 2000000000) (by omega) (by decide)).mpr q))
          omega
        exact ih (e + 1) v (10 * V + (pb T N e - 48)) _ (PX_at hX1 (by have e9 : hs_I S m 15 = nI e := hP.2.1.2.1; rw [e9]; exact nI_1 e) hd.1) (by omega) ⟨hv1, Or.inr ⟨hgt, by omega⟩⟩ (by rw [← hdg, dg_go hd]) (by rw [← hdv, dv_go hd])
set_option maxRecDepth 20000 in
set_option maxHeartbeats 4000000 in
theorem m_number (g : gl_T) {S : hs_T} {n k : Nat} {m N : Nat} {ad : Nat → Nat} {s : st_T} {T : List Int32} {p : ps_T} (hP : PS S m ad s T N p) {x y : Int32} {l mm : Nat} (hx : x = nI l) (hy : y = nI mm) (hl : l ≤ 1) (hm : mm ≤ 1000000000) : ex_M g 2 mX10_number [.ref m, .int x, .int y] S n k (pq S m ad n k s T N (p_num (pb T N) N l mm p) (some (.int (nI (p_val (pb T N) N l mm p))))) := by
  have hX1 := PX_rf hP
  have hB := hP.1.1
  refine ex_enter (by decide +kernel) (Nat.le_of_ble_eq_true rfl) ?_
  show ex_W _ _ _ _ 0 [(0, .ref m), (1, .int x), (2, .int y)] [] _ _ _
  refine ex_aload_n dX10_number_0 0 rfl ?_
  refine ex_getI dX10_number_1 fl_X10_138 hB.1.1 hB.1.2 ?_
  refine ex_if_le (tgt := 9) dX10_number_4 (by decide) (fun c4 => ?_) (fun c4 => ?_)
  · refine ex_aload_n dX10_number_9 0 rfl ?_
    refine ex_cVg [] [] dX10_number_10 cV_X10_141 (m_blanks g hX1.1) hB.1.1 hB.1.2 rfl rfl rfl (by decide) (Nat.le_of_ble_eq_true rfl) rfl ?_ (fun E S' n' k' h => by obtain ⟨h1, -⟩ := h; cases h1)
    rintro v' S2 n' k' ⟨hr, hq2, hn, hk⟩
    cases hr
    have hn := hn.symm
    have hk := hk.symm
    subst hn hk
    have hX2 := PX_tr hX1 hq2
    have hB := hX2.1.1.1
    show ex_W _ _ _ _ 13 [(0, .ref m), (1, .int x), (2, .int y)] [] S2 n k
    have hN4 := hP.2.2.2.1
    have hskN := sk_le (b := pb T N) (N := N) hP.2.2.2.2.1
    refine ex_aload_n dX10_number_13 0 rfl ?_
    refine ex_getI dX10_number_14 fl_X10_131 hB.1.1 hB.1.2 ?_
    refine ex_istore_n [(3, .int (hs_I S2 m 15)), (0, .ref m), (1, .int x), (2, .int y)] dX10_number_17 (by decide) rfl ?_
    refine ex_aload_n dX10_number_18 1 rfl ?_
    refine ex_aload_n dX10_number_19 1 rfl ?_
    refine ex_getI dX10_number_20 fl_X10_131 hB.1.1 hB.1.2 ?_
    refine ex_cVr [.int (hs_I S2 m 15)] [] dX10_number_23 cV_X10_134 (m_byteAt g hX2.1 hX2.1.2.1.2.1 (by show sk (pb T N) N p.1 < _; omega)) hB.1.1 hB.1.2 rfl rfl rfl (by decide) (Nat.le_of_ble_eq_true rfl) rfl ?_
    refine ex_cSr [.int (nI (pb T N (sk (pb T N) N p.1)))] [] dX10_number_26 cS_X10_165 (m_isDigit g (c := pb T N (sk (pb T N) N p.1)) rfl (Nat.lt_trans (pb_lt _ _ _) (by decide))) rfl (by decide) (Nat.le_of_ble_eq_true rfl) rfl ?_
    refine ex_if_ne (tgt := 41) dX10_number_29 (by decide) (fun c29 => ?_) (fun c29 => ?_)
    · 
      refine ex_lconst (v := 0) dX10_number_41 (by decide) ?_
      refine ex_lstore [(4, .long 0), (3, .int (hs_I S2 m 15)), (0, .ref m), (1, .int x), (2, .int y)] dX10_number_42 (by decide) rfl ?_
      have hnd : dgt (pb T N (sk (pb T N) N p.1)) := by
        by_cases z : dgt (pb T N (sk (pb T N) N p.1))
        · exact z
        · rw [if_neg z] at c29; exact absurd rfl c29
      have e0 : ¬ 0 < p.2.1 := (fun z => by rw [hP.2.1.2.2] at c4; exact nI_nle z (by have := hP.2.2.2.2.2; omega) c4)
      have e1 : p_nu1 (pb T N) N (p_bl (pb T N) N p) = p_bl (pb T N) N p := by unfold p_nu1; exact if_pos hnd
      unfold p_val p_num
      rw [if_neg e0, e1]
      refine ex_lv [0, 1, 2, 3, 4] rfl ?_
      exact m_num_l (q := (p_bl (pb T N) N p).2) hX2.1.2.1.2.1 hskN hx hy hl hm (N + 1) (sk (pb T N) N p.1) 0 0 _ hX2 (by omega) ⟨by omega, Or.inl rfl⟩ rfl rfl
    · refine ex_aload_n dX10_number_32 1 rfl ?_
      refine ex_iconst (v := 1) dX10_number_33 (by decide) ?_
      refine ex_aload_n dX10_number_34 1 rfl ?_
      refine ex_getI dX10_number_35 fl_X10_131 hB.1.1 hB.1.2 ?_
      refine ex_cVg [.int 1, .int (hs_I S2 m 15)] [] dX10_number_38 cV_X10_161 (m_wrong g hX2.1 (c := 1) rfl (by decide) hX2.1.2.1.2.1 hX2.1.2.2.2.2.1) hB.1.1 hB.1.2 rfl rfl rfl (by decide) (Nat.le_of_ble_eq_true rfl) rfl ?_ (fun E S' n' k' h => by obtain ⟨h1, -⟩ := h; cases h1)
      rintro v' S3 n' k' ⟨hr, hq3, hn, hk⟩
      cases hr
      have hn := hn.symm
      have hk := hk.symm
      subst hn hk
      have hX3 := PX_tr hX2 hq3
      have hB := hX3.1.1.1
      show ex_W _ _ _ _ 41 [(3, .int (hs_I S2 m 15)), (0, .ref m), (1, .int x), (2, .int y)] [] S3 n k
      have hX3' : PX S S3 m ad s T N (sk (pb T N) N p.1, (p_wr 1 (sk (pb T N) N p.1) (p_bl (pb T N) N p)).2) := by
        have e8 : p_wr 1 (sk (pb T N) N p.1) (p_bl (pb T N) N p) = (sk (pb T N) N p.1, (p_wr 1 (sk (pb T N) N p.1) (p_bl (pb T N) N p)).2) := by unfold p_wr; split <;> rfl
        exact e8 ▸ hX3
      refine ex_lconst (v := 0) dX10_number_41 (by decide) ?_
      refine ex_lstore [(4, .long 0), (3, .int (hs_I S2 m 15)), (0, .ref m), (1, .int x), (2, .int y)] dX10_number_42 (by decide) rfl ?_
      have hnd : ¬ dgt (pb T N (sk (pb T N) N p.1)) := by
        exact fun z => by rw [if_pos z] at c29; exact absurd c29 (by decide)
      have e0 : ¬ 0 < p.2.1 := (fun z => by rw [hP.2.1.2.2] at c4; exact nI_nle z (by have := hP.2.2.2.2.2; omega) c4)
      have e1 : p_nu1 (pb T N) N (p_bl (pb T N) N p) = p_wr 1 (sk (pb T N) N p.1) (p_bl (pb T N) N p) := by unfold p_nu1; exact if_neg hnd
      unfold p_val p_num
      rw [if_neg e0, e1]
      refine ex_lv [0, 1, 2, 3, 4] rfl ?_
      exact m_num_l (q := (p_wr 1 (sk (pb T N) N p.1) (p_bl (pb T N) N p)).2) hX2.1.2.1.2.1 hskN hx hy hl hm (N + 1) (sk (pb T N) N p.1) 0 0 _ hX3' (by omega) ⟨by omega, Or.inl rfl⟩ rfl rfl
  · refine ex_iconst (v := 0) dX10_number_7 (by decide) ?_
    exact ex_irt rfl dX10_number_8 (pq_i (by unfold p_num; rw [if_pos (Nat.pos_of_ne_zero (fun z => c4 (by rw [hP.2.1.2.2, z]; decide)))]) (by have hz : 0 < p.2.1 := (Nat.pos_of_ne_zero (fun z => c4 (by rw [hP.2.1.2.2, z]; decide))); unfold p_val p_num; simp only [if_pos hz]; rfl) (PX_rf hP))
