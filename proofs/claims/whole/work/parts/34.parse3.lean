theorem lg_lt {x y : Int64} : lg_cmp x y < 0 ↔ x < y := by
  unfold lg_cmp
  rw [j_lt]
  split
  · next h => have h' : y.toInt < x.toInt := (j_lt _ _).mp h; exact ⟨fun z => absurd z (by decide), fun z => by omega⟩
  · next h =>
    have h' : ¬ y.toInt < x.toInt := fun z => h ((j_lt _ _).mpr z)
    split
    · next h2 => subst h2; exact ⟨fun z => absurd z (by decide), fun z => by omega⟩
    · next h2 => rw [j_eq] at h2; exact ⟨fun z => by omega, fun z => by decide⟩
theorem dg_end {b : Nat → Nat} {N a : Nat} (h : a ≤ N) : ¬ (dg b N a < N ∧ dgt (b (dg b N a))) := by
  have : ∀ t a, a ≤ N → N < a + t → ¬ (dg b N a < N ∧ dgt (b (dg b N a))) := by
    intro t
    induction t with
    | zero => intro a h1 h2; omega
    | succ t ih =>
      intro a h1 h2
      by_cases q : a < N ∧ dgt (b a)
      · rw [dg_go q]; exact ih (a + 1) (by omega) (by omega)
      · rw [dg_stop q]; exact q
  exact this (N + 1) a h (by omega)
/-- a value held above two milliards -/
def vr (v V : Nat) : Prop := v ≤ 20000000009 ∧ (v = V ∨ (2000000000 < v ∧ 2000000000 < V))
set_option maxRecDepth 20000 in
set_option maxHeartbeats 4000000 in
theorem m_sign (g : gl_T) {S : hs_T} {n k : Nat} {m N : Nat} {ad : Nat → Nat} {s : st_T} {T : List Int32} {p : ps_T} (hP : PS S m ad s T N p) {x : Int32} {c : Nat} (hx : x = nI c) (hc : c < 256) : ex_M g 2 mX10_sign [.ref m, .int x] S n k (pq S m ad n k s T N (p_sign (pb T N) N c p) none) := by
  have hX1 := PX_rf hP
  have hB := hP.1.1
  refine ex_enter (by decide +kernel) (Nat.le_of_ble_eq_true rfl) ?_
  show ex_W _ _ _ _ 0 [(0, .ref m), (1, .int x)] [] _ _ _
  refine ex_aload_n dX10_sign_0 0 rfl ?_
  refine ex_getI dX10_sign_1 fl_X10_138 hB.1.1 hB.1.2 ?_
  refine ex_if_le (tgt := 8) dX10_sign_4 (by decide) (fun c4 => ?_) (fun c4 => ?_)
  · refine ex_aload_n dX10_sign_8 0 rfl ?_
    refine ex_cVg [] [] dX10_sign_9 cV_X10_141 (m_blanks g hX1.1) hB.1.1 hB.1.2 rfl rfl rfl (by decide) (Nat.le_of_ble_eq_true rfl) rfl ?_ (fun E S' n' k' h => by obtain ⟨h1, -⟩ := h; cases h1)
    rintro v' S2 n' k' ⟨hr, hq2, hn, hk⟩
    cases hr
    have hn := hn.symm
    have hk := hk.symm
    subst hn hk
    have hX2 := PX_tr hX1 hq2
    have hB := hX2.1.1.1
    show ex_W _ _ _ _ 12 [(0, .ref m), (1, .int x)] [] S2 n k
    have hN4 := hP.2.2.2.1
    have hskN := sk_le (b := pb T N) (N := N) hP.2.2.2.2.1
    refine ex_aload_n dX10_sign_12 0 rfl ?_
    refine ex_getI dX10_sign_13 fl_X10_131 hB.1.1 hB.1.2 ?_
    refine ex_aload_n dX10_sign_16 0 rfl ?_
    refine ex_getI dX10_sign_17 fl_X10_128 hB.1.1 hB.1.2 ?_
    refine ex_icmp_ge (tgt := 48) dX10_sign_20 (by decide) (fun c20 => ?_) (fun c20 => ?_)
    · have hno : ¬ (sk (pb T N) N p.1 < N ∧ pb T N (sk (pb T N) N p.1) = c) := by
        rintro ⟨z1, z2⟩
        first
          | exact c32 (hx ▸ congrArg nI z2)
          | exact c32 ((congrArg nI z2).trans hx.symm)
          | (have e : hs_I S2 m 15 = nI (sk (pb T N) N p.1) := hX2.1.2.1.2.1
             rw [e, hX2.1.2.1.1] at c20
             have := (nI_leI (by omega) (by omega)).mp c20
             omega)
      refine ex_aload_n dX10_sign_48 0 rfl ?_
      refine ex_iconst (v := 1) dX10_sign_49 (by decide) ?_
      refine ex_aload_n dX10_sign_50 0 rfl ?_
      refine ex_getI dX10_sign_51 fl_X10_131 hB.1.1 hB.1.2 ?_
      refine ex_cVg [.int 1, .int (hs_I S2 m 15)] [] dX10_sign_54 cV_X10_161 (m_wrong g hX2.1 (c := 1) rfl (by decide) hX2.1.2.1.2.1 hX2.1.2.2.2.2.1) hB.1.1 hB.1.2 rfl rfl rfl (by decide) (Nat.le_of_ble_eq_true rfl) rfl ?_ (fun E S' n' k' h => by obtain ⟨h1, -⟩ := h; cases h1)
      rintro v' S3 n' k' ⟨hr, hq3, hn, hk⟩
      cases hr
      have hn := hn.symm
      have hk := hk.symm
      subst hn hk
      have hX3 := PX_tr hX2 hq3
      have hB := hX3.1.1.1
      show ex_W _ _ _ _ 57 [(0, .ref m), (1, .int x)] [] S3 n k
      exact ex_vrt rfl dX10_sign_57 (pq_n (by unfold p_sign; rw [if_neg (fun z => by rw [hP.2.1.2.2] at c4; exact nI_nle z (by have := hP.2.2.2.2.2; omega) c4), if_neg hno]; rfl) hX3)
    · have hlt : sk (pb T N) N p.1 < N := (nI_ltI (by omega) (by omega)).mp (by rw [← hX2.1.2.1.1]; have e : hs_I S2 m 15 = nI (sk (pb T N) N p.1) := hX2.1.2.1.2.1; rw [← e]; simp only [i_lt, i_le] at *; omega)
      refine ex_aload_n dX10_sign_23 0 rfl ?_
      refine ex_aload_n dX10_sign_24 0 rfl ?_
      refine ex_getI dX10_sign_25 fl_X10_131 hB.1.1 hB.1.2 ?_
      refine ex_cVr [.int (hs_I S2 m 15)] [] dX10_sign_28 cV_X10_134 (m_byteAt g hX2.1 hX2.1.2.1.2.1 (by show sk (pb T N) N p.1 < _; omega)) hB.1.1 hB.1.2 rfl rfl rfl (by decide) (Nat.le_of_ble_eq_true rfl) rfl ?_
      refine ex_iload_n dX10_sign_31 1 rfl ?_
      refine ex_icmp_ne (tgt := 48) dX10_sign_32 (by decide) (fun c32 => ?_) (fun c32 => ?_)
      · have hno : ¬ (sk (pb T N) N p.1 < N ∧ pb T N (sk (pb T N) N p.1) = c) := by
          rintro ⟨z1, z2⟩
          first
            | exact c32 (hx ▸ congrArg nI z2)
            | exact c32 ((congrArg nI z2).trans hx.symm)
            | (have e : hs_I S2 m 15 = nI (sk (pb T N) N p.1) := hX2.1.2.1.2.1
               rw [e, hX2.1.2.1.1] at c20
               have := (nI_leI (by omega) (by omega)).mp c20
               omega)
        refine ex_aload_n dX10_sign_48 0 rfl ?_
        refine ex_iconst (v := 1) dX10_sign_49 (by decide) ?_
        refine ex_aload_n dX10_sign_50 0 rfl ?_
        refine ex_getI dX10_sign_51 fl_X10_131 hB.1.1 hB.1.2 ?_
        refine ex_cVg [.int 1, .int (hs_I S2 m 15)] [] dX10_sign_54 cV_X10_161 (m_wrong g hX2.1 (c := 1) rfl (by decide) hX2.1.2.1.2.1 hX2.1.2.2.2.2.1) hB.1.1 hB.1.2 rfl rfl rfl (by decide) (Nat.le_of_ble_eq_true rfl) rfl ?_ (fun E S' n' k' h => by obtain ⟨h1, -⟩ := h; cases h1)
        rintro v' S3 n' k' ⟨hr, hq3, hn, hk⟩
        cases hr
        have hn := hn.symm
        have hk := hk.symm
        subst hn hk
        have hX3 := PX_tr hX2 hq3
        have hB := hX3.1.1.1
        show ex_W _ _ _ _ 57 [(0, .ref m), (1, .int x)] [] S3 n k
        exact ex_vrt rfl dX10_sign_57 (pq_n (by unfold p_sign; rw [if_neg (fun z => by rw [hP.2.1.2.2] at c4; exact nI_nle z (by have := hP.2.2.2.2.2; omega) c4), if_neg hno]; rfl) hX3)
      · refine ex_aload_n dX10_sign_35 0 rfl ?_
        refine ex_dup dX10_sign_36 rfl ?_
        refine ex_getI dX10_sign_37 fl_X10_131 hB.1.1 hB.1.2 ?_
        refine ex_iconst (v := 1) dX10_sign_40 (by decide) ?_
        refine ex_iadd dX10_sign_41 ?_
        refine ex_putI dX10_sign_42 fl_X10_131 (pf_X10_131 _) hB.1.1 hB.1.2 ?_
        refine ex_goto (tgt := 57) dX10_sign_45 (by decide) ?_
        exact ex_vrt rfl dX10_sign_57 (pq_n (by unfold p_sign; rw [if_neg (fun z => by rw [hP.2.1.2.2] at c4; exact nI_nle z (by have := hP.2.2.2.2.2; omega) c4), if_pos ⟨hlt, (nI_eq (Nat.lt_trans (pb_lt _ _ _) (by decide)) (by omega)).mp (c32.trans hx)⟩]; rfl) (PX_at hX2 (a := sk (pb T N) N p.1 + 1) (by rw [hX2.1.2.1.2.1]; exact nI_1 _) hlt))
  · exact ex_vrt rfl dX10_sign_7 (pq_n (by unfold p_sign; rw [if_pos (Nat.pos_of_ne_zero (fun z => c4 (by rw [hP.2.1.2.2, z]; decide)))]) (PX_rf hP))
set_option maxRecDepth 20000 in
set_option maxHeartbeats 4000000 in
theorem m_num_e {g : gl_T} {S0 S : hs_T} {n k m N : Nat} {ad : Nat → Nat} {s : st_T} {T : List Int32} {xf xl xm : Int32} {a e v V l mm : Nat} {q : Nat × Option Nat} (hX1 : PX S0 S m ad s T N (e, q)) (hvr : vr v V) (hxf : xf = nI a) (haN : a ≤ N) (hxl : xl = nI l) (hxm : xm = nI mm) (hl : l ≤ 1) (hm : mm ≤ 1000000000) : ex_W g 2 mX10_number (pq S0 m ad n k s T N (p_nu2 (pb T N) N l mm (e, q) a V) (some (.int (nI (if 0 < (p_nu2 (pb T N) N l mm (e, q) a V).2.1 then 0 else V))))) 107 [(4, .long (lN v)), (3, .int xf), (0, .ref m), (1, .int xl), (2, .int xm)] [] S n k := by
  have hP := hX1.1
  have hB := hP.1.1
  have hv1 := hvr.1
  have hv2 := hvr.2
  refine ex_lload dX10_number_107 0 rfl ?_
  refine ex_iload_n dX10_number_109 3 rfl ?_
  refine ex_i2l dX10_number_110 ?_
  refine ex_lcmp dX10_number_111 ?_
  refine ex_if_lt (tgt := 123) dX10_number_112 (by decide) (fun c112 => ?_) (fun c112 => ?_)
  · have hbad : V < l ∨ mm < V := by
      first
        | (have z := lg_lt.mp c112; rw [hxl, nI_l (by omega)] at z; have z2 := (pk_lLT (by omega) (by omega)).mp z; left; omega)
        | (right; have z : ¬ (v ≤ mm) := fun q => c120 (lg_le.mpr (by rw [hxm, nI_l (by omega)]; exact (pk_lLE (by omega) (by omega)).mpr q)); omega)
    have hwr : p_nu2 (pb T N) N l mm (e, q) a V = p_wr 2 a (e, q) := by unfold p_nu2; rw [if_pos hbad]
    have hveq : (V < l ∨ mm < V) → 0 < (p_wr 2 a (e, q)).2.1 := fun _ => by unfold p_wr; split <;> first | assumption | exact Nat.succ_pos _
    refine ex_aload_n dX10_number_123 2 rfl ?_
    refine ex_iconst (v := 2) dX10_number_124 (by decide) ?_
    refine ex_iload_n dX10_number_125 1 rfl ?_
    refine ex_cVg [.int 2, .int xf] [] dX10_number_126 cV_X10_161 (m_wrong g hX1.1 (c := 2) rfl (by decide) hxf haN) hB.1.1 hB.1.2 rfl rfl rfl (by decide) (Nat.le_of_ble_eq_true rfl) rfl ?_ (fun E S' n' k' h => by obtain ⟨h1, -⟩ := h; cases h1)
    rintro v' S2 n' k' ⟨hr, hq2, hn, hk⟩
    cases hr
    have hn := hn.symm
    have hk := hk.symm
    subst hn hk
    have hX2 := PX_tr hX1 hq2
    have hB := hX2.1.1.1
    show ex_W _ _ _ _ 129 [(4, .long (lN v)), (3, .int xf), (0, .ref m), (1, .int xl), (2, .int xm)] [] S2 n k
    refine ex_aload_n dX10_number_129 2 rfl ?_
    refine ex_getI dX10_number_130 fl_X10_138 hB.1.1 hB.1.2 ?_
    refine ex_if_le (tgt := 140) dX10_number_133 (by decide) (fun c133 => ?_) (fun c133 => ?_)
    · refine ex_lload dX10_number_140 0 rfl ?_
      refine ex_l2i dX10_number_142 ?_
      exact ex_irt rfl dX10_number_143 (absurd (hveq hbad) (fun z => by have e9 : hs_I S2 m 16 = nI (p_wr 2 a (e, q)).2.1 := hX2.1.2.1.2.2; rw [e9] at c133; exact nI_nle z (by have : (p_wr 2 a (e, q)).2.1 ≤ 3 := hX2.1.2.2.2.2.2; omega) c133))
    · refine ex_iconst (v := 0) dX10_number_136 (by decide) ?_
      refine ex_goto (tgt := 143) dX10_number_137 (by decide) ?_
      exact ex_irt rfl dX10_number_143 (pq_i hwr (by rw [hwr]; rw [if_pos (Nat.pos_of_ne_zero (fun z => c133 (by rw [hX2.1.2.1.2.2, z]; decide)))]; rfl) hX2)
  · refine ex_lload dX10_number_115 0 rfl ?_
    refine ex_iload_n dX10_number_117 4 rfl ?_
    refine ex_i2l dX10_number_118 ?_
    refine ex_lcmp dX10_number_119 ?_
    refine ex_if_le (tgt := 129) dX10_number_120 (by decide) (fun c120 => ?_) (fun c120 => ?_)
    · have hok : ¬ (V < l ∨ mm < V) := by
        have z1 : ¬ v < l := fun q => c112 (lg_lt.mpr (by rw [hxl, nI_l (by omega)]; exact (pk_lLT (by omega) (by omega)).mpr q))
        have z := lg_le.mp c120
        rw [hxm, nI_l (by omega)] at z
        have z2 := (pk_lLE (by omega) (by omega)).mp z
        omega
      have hin : p_nu2 (pb T N) N l mm (e, q) a V = (e, q) := by unfold p_nu2; rw [if_neg hok]
      have hveq : ¬ (V < l ∨ mm < V) → V = v := fun z => by omega
      refine ex_aload_n dX10_number_129 2 rfl ?_
      refine ex_getI dX10_number_130 fl_X10_138 hB.1.1 hB.1.2 ?_
      refine ex_if_le (tgt := 140) dX10_number_133 (by decide) (fun c133 => ?_) (fun c133 => ?_)
      · refine ex_lload dX10_number_140 0 rfl ?_
        refine ex_l2i dX10_number_142 ?_
        exact ex_irt rfl dX10_number_143 (pq_i hin (by rw [hin]; rw [if_neg (fun z => by rw [hX1.1.2.1.2.2] at c133; exact nI_nle z (by have := hX1.1.2.2.2.2.2; omega) c133), lN_i]; exact congrArg (fun q => Value.int (nI q)) (hveq hok)) hX1)
      · refine ex_iconst (v := 0) dX10_number_136 (by decide) ?_
        refine ex_goto (tgt := 143) dX10_number_137 (by decide) ?_
        exact ex_irt rfl dX10_number_143 (pq_i hin (by rw [hin]; rw [if_pos (Nat.pos_of_ne_zero (fun z => c133 (by rw [hX1.1.2.1.2.2, z]; decide)))]; rfl) hX1)
    · have hbad : V < l ∨ mm < V := by
        first
          | (have z := lg_lt.mp c112; rw [hxl, nI_l (by omega)] at z; have z2 := (pk_lLT (by omega) (by omega)).mp z; left; omega)
          | (right; have z : ¬ (v ≤ mm) := fun q => c120 (lg_le.mpr (by rw [hxm, nI_l (by omega)]; exact (pk_lLE (by omega) (by omega)).mpr q)); omega)
      have hwr : p_nu2 (pb T N) N l mm (e, q) a V = p_wr 2 a (e, q) := by unfold p_nu2; rw [if_pos hbad]
      have hveq : (V < l ∨ mm < V) → 0 < (p_wr 2 a (e, q)).2.1 := fun _ => by unfold p_wr; split <;> first | assumption | exact Nat.succ_pos _
      refine ex_aload_n dX10_number_123 2 rfl ?_
      refine ex_iconst (v := 2) dX10_number_124 (by decide) ?_
      refine ex_iload_n dX10_number_125 1 rfl ?_
      refine ex_cVg [.int 2, .int xf] [] dX10_number_126 cV_X10_161 (m_wrong g hX1.1 (c := 2) rfl (by decide) hxf haN) hB.1.1 hB.1.2 rfl rfl rfl (by decide) (Nat.le_of_ble_eq_true rfl) rfl ?_ (fun E S' n' k' h => by obtain ⟨h1, -⟩ := h; cases h1)
      rintro v' S2 n' k' ⟨hr, hq2, hn, hk⟩
      cases hr
      have hn := hn.symm
      have hk := hk.symm
      subst hn hk
      have hX2 := PX_tr hX1 hq2
      have hB := hX2.1.1.1
      show ex_W _ _ _ _ 129 [(4, .long (lN v)), (3, .int xf), (0, .ref m), (1, .int xl), (2, .int xm)] [] S2 n k
      refine ex_aload_n dX10_number_129 2 rfl ?_
      refine ex_getI dX10_number_130 fl_X10_138 hB.1.1 hB.1.2 ?_
      refine ex_if_le (tgt := 140) dX10_number_133 (by decide) (fun c133 => ?_) (fun c133 => ?_)
      · refine ex_lload dX10_number_140 0 rfl ?_
        refine ex_l2i dX10_number_142 ?_
        exact ex_irt rfl dX10_number_143 (absurd (hveq hbad) (fun z => by have e9 : hs_I S2 m 16 = nI (p_wr 2 a (e, q)).2.1 := hX2.1.2.1.2.2; rw [e9] at c133; exact nI_nle z (by have : (p_wr 2 a (e, q)).2.1 ≤ 3 := hX2.1.2.2.2.2.2; omega) c133))
      · refine ex_iconst (v := 0) dX10_number_136 (by decide) ?_
        refine ex_goto (tgt := 143) dX10_number_137 (by decide) ?_
        exact ex_irt rfl dX10_number_143 (pq_i hwr (by rw [hwr]; rw [if_pos (Nat.pos_of_ne_zero (fun z => c133 (by rw [hX2.1.2.1.2.2, z]; decide)))]; rfl) hX2)
