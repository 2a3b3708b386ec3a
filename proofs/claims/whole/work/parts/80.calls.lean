/-! the calls of the script -/
abbrev XL (b L : Nat) (xs : Nat → Int32) : Code → State → Prop := fun _ s => va_X b L xs s s.heap ∧ b < s.heap.size
theorem LI_o {g : gl_T} {x m o t : Nat} {S : hs_T} {n k : Nat} (h : LI g x m o t S n k) : o ∈ hs_L S ∧ hs_K S o = 13 ∧ hs_N S o = 1 := by
  obtain ⟨l, tp, nz, ow, s, ys, c, ad, hR, hM, hA, ho, hQ, hT, hn, hk⟩ := h
  exact ⟨ho.1, ho.2.1, ho.2.2.1⟩
theorem LI_up {g : gl_T} {x m o t : Nat} {S : hs_T} {n k : Nat} (h : LI g x m o t S n k) : LI g x m o (t + 1) S n k := by
  obtain ⟨l, tp, nz, ow, s, ys, c, ad, hR, hM, hA, ho, hQ, hT, hn, hk⟩ := h
  exact ⟨l, tp, nz, ow, s, ys, c, ad, hR, hM, hA, ho, hQ, hT, by omega, by omega⟩
theorem st_has (s : st_T) (p0 : Int32) : (sp_has s p0).2.2 = s := by
  unfold sp_has
  (repeat' split) <;> rfl
theorem st_line (s : st_T) (p0 p1 : Int32) : (sp_line s p0 p1).2.2 = s := by
  unfold sp_line
  (repeat' split) <;> rfl
theorem st_drawn (s : st_T) (p0 p1 : Int32) : (sp_drawn s p0 p1).2.2 = s := by
  unfold sp_drawn
  (repeat' split) <;> rfl
theorem st_win (s : st_T) (p0 p1 : Int32) : (sp_win s p0 p1).2.2 = s := by
  unfold sp_win
  (repeat' split) <;> rfl
theorem st_paid (s : st_T) (p0 : Int32) : (sp_paid s p0).2.2 = s := by
  unfold sp_paid
  (repeat' split) <;> rfl
theorem st_held (s : st_T) (p0 p1 : Int32) : (sp_held s p0 p1).2.2 = s := by
  unfold sp_held
  (repeat' split) <;> rfl
theorem st_fault (s : st_T) : (sp_fault s).2.2 = s := by
  unfold sp_fault
  (repeat' split) <;> rfl
theorem st_force (s : st_T) (p0 : Int32) : (sp_force s p0).2.2 = s := by
  unfold sp_force
  (repeat' split) <;> rfl
theorem st_carried (s : st_T) : (sp_carried s).2.2 = s := by
  unfold sp_carried
  (repeat' split) <;> rfl
theorem st_count (s : st_T) (p0 : Int32) : (sp_count s p0).2.2 = s := by
  unfold sp_count
  (repeat' split) <;> rfl
set_option maxRecDepth 20000 in
set_option maxHeartbeats 4000000 in
theorem w_holder (g : gl_T) {b L : Nat} {xs : Nat → Int32} {x m o t : Nat} {S : hs_T} {n k : Nat} {Po : ex_R} (hb : b < g.2.2.2.1) (hL : 6 * t + 6 ≤ L) (hL2 : L ≤ 3072) (hI : LI g x m o t S n k) (kk : ∀ S' n' k', LI g x m o (t + 1) S' n' k' → eh_W (XL b L xs) g 13 mL_law Po 1211 [(0, .ref b), (1, .ref x), (2, .ref m), (3, .ref o), (4, .int (nI (6 * t)))] [] S' n' k') : eh_W (XL b L xs) g 13 mL_law Po 140 [(0, .ref b), (1, .ref x), (2, .ref m), (3, .ref o), (4, .int (nI (6 * t)))] [] S n k := by
  obtain ⟨l, tp, nz, ow, s, ys, c, ad, hR, hM, hA, ho, hQ, hT, hn, hk⟩ := hI
  have hcn := cN_le hR
  have hbd := RM_bd hM
  have hll := hbd.2.2.2.1.1
  obtain ⟨_, _, _, _, _, _, hG⟩ := id hR.2.2.2.1
  have hOK := OK_of hG hQ
  have hn4 : n + 40000 ≤ ex_NM := by show n + 40000 ≤ 601024; omega
  have hk4 : k + 200000 ≤ ex_KM := by show k + 200000 ≤ 7293034; omega
  have hq : OQ (sp_holder s).2.2 := OQ_holder hQ
  have ht : TB (sp_holder s).2.2 := TB_eq hT (tp_holder s)
  have hv := vi_holder s
  have hcd := cd_holder s
  have hm : ∀ S n k, RM S m ad s → ex_M g 1 mX10_holder [.ref m] S n k (mp S m ad n k (sp_holder s)) := fun S n k h => m_holder g h
  have hc : eh_M g 12 mL_holder hL_holder [.ref x, .ref o] S n k (hp g S ow x l tp nz c n k o s (sp_holder s)) := h_holder g hR hbd hOK hn4 hk4 ⟨ho.1, ho.2.1, ho.2.2.1⟩
  generalize sp_holder s = sp at hq ht hv hcd hm hc
  obtain ⟨y0, hy0⟩ := hv
  refine eh_aload_n dL_law_140 1 rfl ?_
  refine eh_aload_n dL_law_141 3 rfl ?_
  refine eh_cSg [.ref x, .ref o] [] dL_law_142 cW_L_65 hc rfl (by decide) (Nat.le_of_ble_eq_true rfl) rfl (fun E S9 n9 k9 h9 => by obtain ⟨h91, -⟩ := h9; cases h91) (fun v S1 n1 k1 h1 => ?_)
  obtain ⟨rfl, hJ, hout⟩ := LJ_hp hM hA ho h1
  show eh_W _ _ _ _ _ 145 [(0, .ref b), (1, .ref x), (2, .ref m), (3, .ref o), (4, .int (nI (6 * t)))] [.int (nI sp.1)] S1 n1 k1
  have hM1 := LJ_RM hJ
  refine eh_istore [(5, .int (nI sp.1)), (0, .ref b), (1, .ref x), (2, .ref m), (3, .ref o), (4, .int (nI (6 * t)))] dL_law_145 (by decide) rfl ?_
  refine eh_aload_n dL_law_147 3 rfl ?_
  refine eh_cVg [] [] dL_law_148 cV_L_70 (hm S1 n1 k1 hM1) hM1.1.1.1 hM1.1.1.2 rfl rfl rfl (by decide) (Nat.le_of_ble_eq_true rfl) rfl (fun E S9 n9 k9 h9 => by obtain ⟨h91, -⟩ := h9; cases h91) (fun v S2 n2 k2 h2 => ?_)
  have hv2 : v = some sp.2.1 := Sum.inl.inj h2.1
  subst hv2
  have hI2 := LI_of hJ h2 hq ht hn hk
  have hF2 := MF_out hJ h2.2.2.2.1
  have ht2 := h2.2.1
  have hM2 := h2.2.2.1
  rw [hy0]
  show eh_W _ _ _ _ _ 151 [(5, .int (nI sp.1)), (0, .ref b), (1, .ref x), (2, .ref m), (3, .ref o), (4, .int (nI (6 * t)))] [.int y0] S2 n2 k2
  refine eh_istore [(6, .int y0), (5, .int (nI sp.1)), (0, .ref b), (1, .ref x), (2, .ref m), (3, .ref o), (4, .int (nI (6 * t)))] dL_law_151 (by decide) rfl ?_
  refine eh_aload_n dL_law_153 4 rfl ?_
  refine eh_cVg [] [] dL_law_154 cV_L_71 (m_thrown g hM2.1) hM2.1.1.1 hM2.1.1.2 rfl rfl rfl (by decide) (Nat.le_of_ble_eq_true rfl) rfl (fun E S9 n9 k9 h9 => by obtain ⟨h91, -⟩ := h9; cases h91) (fun v S3 n3 k3 h3 => ?_)
  obtain ⟨h31, h32, h33, h34⟩ := h3
  cases h31
  rw [h32, h33, h34, ht2]
  show eh_W _ _ _ _ _ 157 [(6, .int y0), (5, .int (nI sp.1)), (0, .ref b), (1, .ref x), (2, .ref m), (3, .ref o), (4, .int (nI (6 * t)))] [.int (nI sp.1)] S2 n2 k2
  refine eh_iload dL_law_157 1 rfl ?_
  refine eh_icmp_eq (tgt := 164) dL_law_159 (by decide) (fun _ => ?_) (fun z => absurd rfl z)
  refine eh_iload dL_law_164 1 rfl ?_
  refine eh_if_ne (tgt := 181) dL_law_166 (by decide) (fun z => ?_) (fun z => ?_)
  · refine eh_goto (tgt := 1211) dL_law_181 (by decide) ?_
    refine eh_lv [2, 3, 4, 5, 6] rfl ?_
    exact kk _ _ _ hI2
  · have hz : sp.1 = 0 := by
      rcases Nat.eq_zero_or_pos sp.1 with w | w
      · exact w
      · exact absurd z (nI_ne0 w (by omega))
    refine eh_aload_n dL_law_169 5 rfl ?_
    refine eh_iconst (v := 0) dL_law_170 (by decide) ?_
    refine eh_lald (j := 0) dL_law_171 (LI_o hI2).1 (LI_o hI2).2.1 rfl (by rw [(LI_o hI2).2.2]; decide) (by decide) ?_
    refine eh_iload dL_law_172 0 rfl ?_
    refine eh_i2l dL_law_174 ?_
    refine eh_lcmp dL_law_175 ?_
    refine eh_if_eq (tgt := 181) dL_law_176 (by decide) (fun _ => ?_) (fun w => absurd (lg_eq.mpr ((congrFun hF2 0).trans ((hout hz).trans (by rw [hy0]; rfl)))) w)
    refine eh_goto (tgt := 1211) dL_law_181 (by decide) ?_
    refine eh_lv [2, 3, 4, 5, 6] rfl ?_
    exact kk _ _ _ hI2
set_option maxRecDepth 20000 in
set_option maxHeartbeats 4000000 in
theorem w_buy (g : gl_T) {b L : Nat} {xs : Nat → Int32} {x m o t : Nat} {S : hs_T} {n k : Nat} {Po : ex_R} (hb : b < g.2.2.2.1) (hL : 6 * t + 6 ≤ L) (hL2 : L ≤ 3072) (hI : LI g x m o t S n k) (kk : ∀ S' n' k', LI g x m o (t + 1) S' n' k' → eh_W (XL b L xs) g 13 mL_law Po 1211 [(0, .ref b), (1, .ref x), (2, .ref m), (3, .ref o), (4, .int (nI (6 * t)))] [] S' n' k') : eh_W (XL b L xs) g 13 mL_law Po 184 [(0, .ref b), (1, .ref x), (2, .ref m), (3, .ref o), (4, .int (nI (6 * t)))] [] S n k := by
  obtain ⟨l, tp, nz, ow, s, ys, c, ad, hR, hM, hA, ho, hQ, hT, hn, hk⟩ := hI
  have hcn := cN_le hR
  have hbd := RM_bd hM
  have hll := hbd.2.2.2.1.1
  obtain ⟨_, _, _, _, _, _, hG⟩ := id hR.2.2.2.1
  have hOK := OK_of hG hQ
  have hn4 : n + 40000 ≤ ex_NM := by show n + 40000 ≤ 601024; omega
  have hk4 : k + 200000 ≤ ex_KM := by show k + 200000 ≤ 7293034; omega
  have hq : OQ (sp_buy s (xs (6 * t + 1)) (xs (6 * t + 2))).2.2 := OQ_buy hQ hbd.2.2.1 (xs (6 * t + 1)) (xs (6 * t + 2))
  have ht : TB (sp_buy s (xs (6 * t + 1)) (xs (6 * t + 2))).2.2 := TB_eq hT (tp_buy s (xs (6 * t + 1)) (xs (6 * t + 2)))
  have hv := vi_buy s (xs (6 * t + 1)) (xs (6 * t + 2))
  have hcd := cd_buy s (xs (6 * t + 1)) (xs (6 * t + 2))
  have hm : ∀ S n k, RM S m ad s → ex_M g 1 mX10_buy [.ref m, .int (xs (6 * t + 1)), .int (xs (6 * t + 2))] S n k (mp S m ad n k (sp_buy s (xs (6 * t + 1)) (xs (6 * t + 2)))) := fun S n k h => m_buy g h
  have hc : eh_M g 12 mL_buy hL_buy [.ref x, .int (xs (6 * t + 1)), .int (xs (6 * t + 2)), .ref o] S n k (hp g S ow x l tp nz c n k o s (sp_buy s (xs (6 * t + 1)) (xs (6 * t + 2)))) := h_buy g hR hbd hOK hn4 hk4 ⟨ho.1, ho.2.1, ho.2.2.1⟩
  generalize sp_buy s (xs (6 * t + 1)) (xs (6 * t + 2)) = sp at hq ht hv hcd hm hc
  obtain ⟨y0, hy0⟩ := hv
  refine eh_aload_n dL_law_184 1 rfl ?_
  refine eh_aload_n dL_law_185 0 rfl ?_
  refine eh_iload dL_law_186 4 rfl ?_
  refine eh_iconst (v := 1) dL_law_188 (by decide) ?_
  refine eh_iadd dL_law_189 ?_
  refine eh_sld (j := 6 * t + 1) (fun _ _ h => h) hb dL_law_190 (nI_add _ 1) (by omega) (by omega) ?_
  refine eh_aload_n dL_law_191 0 rfl ?_
  refine eh_iload dL_law_192 4 rfl ?_
  refine eh_iconst (v := 2) dL_law_194 (by decide) ?_
  refine eh_iadd dL_law_195 ?_
  refine eh_sld (j := 6 * t + 2) (fun _ _ h => h) hb dL_law_196 (nI_add _ 2) (by omega) (by omega) ?_
  refine eh_aload_n dL_law_197 3 rfl ?_
  refine eh_cSg [.ref x, .int (xs (6 * t + 1)), .int (xs (6 * t + 2)), .ref o] [] dL_law_198 cW_L_74 hc rfl (by decide) (Nat.le_of_ble_eq_true rfl) rfl (fun E S9 n9 k9 h9 => by obtain ⟨h91, -⟩ := h9; cases h91) (fun v S1 n1 k1 h1 => ?_)
  obtain ⟨rfl, hJ, hout⟩ := LJ_hp hM hA ho h1
  show eh_W _ _ _ _ _ 201 [(0, .ref b), (1, .ref x), (2, .ref m), (3, .ref o), (4, .int (nI (6 * t)))] [.int (nI sp.1)] S1 n1 k1
  have hM1 := LJ_RM hJ
  refine eh_istore [(5, .int (nI sp.1)), (0, .ref b), (1, .ref x), (2, .ref m), (3, .ref o), (4, .int (nI (6 * t)))] dL_law_201 (by decide) rfl ?_
  refine eh_aload_n dL_law_203 3 rfl ?_
  refine eh_aload_n dL_law_204 1 rfl ?_
  refine eh_iload dL_law_205 5 rfl ?_
  refine eh_iconst (v := 1) dL_law_207 (by decide) ?_
  refine eh_iadd dL_law_208 ?_
  refine eh_sld (j := 6 * t + 1) (fun _ _ h => h) hb dL_law_209 (nI_add _ 1) (by omega) (by omega) ?_
  refine eh_aload_n dL_law_210 1 rfl ?_
  refine eh_iload dL_law_211 5 rfl ?_
  refine eh_iconst (v := 2) dL_law_213 (by decide) ?_
  refine eh_iadd dL_law_214 ?_
  refine eh_sld (j := 6 * t + 2) (fun _ _ h => h) hb dL_law_215 (nI_add _ 2) (by omega) (by omega) ?_
  refine eh_cVg [.int (xs (6 * t + 1)), .int (xs (6 * t + 2))] [] dL_law_216 cV_L_77 (hm S1 n1 k1 hM1) hM1.1.1.1 hM1.1.1.2 rfl rfl rfl (by decide) (Nat.le_of_ble_eq_true rfl) rfl (fun E S9 n9 k9 h9 => by obtain ⟨h91, -⟩ := h9; cases h91) (fun v S2 n2 k2 h2 => ?_)
  have hv2 : v = some sp.2.1 := Sum.inl.inj h2.1
  subst hv2
  have hI2 := LI_of hJ h2 hq ht hn hk
  have hF2 := MF_out hJ h2.2.2.2.1
  have ht2 := h2.2.1
  have hM2 := h2.2.2.1
  rw [hy0]
  show eh_W _ _ _ _ _ 219 [(5, .int (nI sp.1)), (0, .ref b), (1, .ref x), (2, .ref m), (3, .ref o), (4, .int (nI (6 * t)))] [.int y0] S2 n2 k2
  refine eh_istore [(6, .int y0), (5, .int (nI sp.1)), (0, .ref b), (1, .ref x), (2, .ref m), (3, .ref o), (4, .int (nI (6 * t)))] dL_law_219 (by decide) rfl ?_
  refine eh_aload_n dL_law_221 4 rfl ?_
  refine eh_cVg [] [] dL_law_222 cV_L_71 (m_thrown g hM2.1) hM2.1.1.1 hM2.1.1.2 rfl rfl rfl (by decide) (Nat.le_of_ble_eq_true rfl) rfl (fun E S9 n9 k9 h9 => by obtain ⟨h91, -⟩ := h9; cases h91) (fun v S3 n3 k3 h3 => ?_)
  obtain ⟨h31, h32, h33, h34⟩ := h3
  cases h31
  rw [h32, h33, h34, ht2]
  show eh_W _ _ _ _ _ 225 [(6, .int y0), (5, .int (nI sp.1)), (0, .ref b), (1, .ref x), (2, .ref m), (3, .ref o), (4, .int (nI (6 * t)))] [.int (nI sp.1)] S2 n2 k2
  refine eh_iload dL_law_225 1 rfl ?_
  refine eh_icmp_eq (tgt := 232) dL_law_227 (by decide) (fun _ => ?_) (fun z => absurd rfl z)
  refine eh_iload dL_law_232 1 rfl ?_
  refine eh_if_ne (tgt := 249) dL_law_234 (by decide) (fun z => ?_) (fun z => ?_)
  · refine eh_goto (tgt := 1211) dL_law_249 (by decide) ?_
    refine eh_lv [2, 3, 4, 5, 6] rfl ?_
    exact kk _ _ _ hI2
  · have hz : sp.1 = 0 := by
      rcases Nat.eq_zero_or_pos sp.1 with w | w
      · exact w
      · exact absurd z (nI_ne0 w (by omega))
    refine eh_aload_n dL_law_237 5 rfl ?_
    refine eh_iconst (v := 0) dL_law_238 (by decide) ?_
    refine eh_lald (j := 0) dL_law_239 (LI_o hI2).1 (LI_o hI2).2.1 rfl (by rw [(LI_o hI2).2.2]; decide) (by decide) ?_
    refine eh_iload dL_law_240 0 rfl ?_
    refine eh_i2l dL_law_242 ?_
    refine eh_lcmp dL_law_243 ?_
    refine eh_if_eq (tgt := 249) dL_law_244 (by decide) (fun _ => ?_) (fun w => absurd (lg_eq.mpr ((congrFun hF2 0).trans ((hout hz).trans (by rw [hy0]; rfl)))) w)
    refine eh_goto (tgt := 1211) dL_law_249 (by decide) ?_
    refine eh_lv [2, 3, 4, 5, 6] rfl ?_
    exact kk _ _ _ hI2
set_option maxRecDepth 20000 in
set_option maxHeartbeats 4000000 in
theorem w_give (g : gl_T) {b L : Nat} {xs : Nat → Int32} {x m o t : Nat} {S : hs_T} {n k : Nat} {Po : ex_R} (hb : b < g.2.2.2.1) (hL : 6 * t + 6 ≤ L) (hL2 : L ≤ 3072) (hI : LI g x m o t S n k) (kk : ∀ S' n' k', LI g x m o (t + 1) S' n' k' → eh_W (XL b L xs) g 13 mL_law Po 1211 [(0, .ref b), (1, .ref x), (2, .ref m), (3, .ref o), (4, .int (nI (6 * t)))] [] S' n' k') : eh_W (XL b L xs) g 13 mL_law Po 252 [(0, .ref b), (1, .ref x), (2, .ref m), (3, .ref o), (4, .int (nI (6 * t)))] [] S n k := by
  obtain ⟨l, tp, nz, ow, s, ys, c, ad, hR, hM, hA, ho, hQ, hT, hn, hk⟩ := hI
  have hcn := cN_le hR
  have hbd := RM_bd hM
  have hll := hbd.2.2.2.1.1
  obtain ⟨_, _, _, _, _, _, hG⟩ := id hR.2.2.2.1
  have hOK := OK_of hG hQ
  have hn4 : n + 40000 ≤ ex_NM := by show n + 40000 ≤ 601024; omega
  have hk4 : k + 200000 ≤ ex_KM := by show k + 200000 ≤ 7293034; omega
  have hq : OQ (sp_give s (xs (6 * t + 1)) (xs (6 * t + 2)) (xs (6 * t + 3)) (xs (6 * t + 4))).2.2 := OQ_give hQ hbd.2.2.1 (xs (6 * t + 1)) (xs (6 * t + 2)) (xs (6 * t + 3)) (xs (6 * t + 4))
  have ht : TB (sp_give s (xs (6 * t + 1)) (xs (6 * t + 2)) (xs (6 * t + 3)) (xs (6 * t + 4))).2.2 := TB_eq hT (tp_give s (xs (6 * t + 1)) (xs (6 * t + 2)) (xs (6 * t + 3)) (xs (6 * t + 4)))
  have hv := vi_give s (xs (6 * t + 1)) (xs (6 * t + 2)) (xs (6 * t + 3)) (xs (6 * t + 4))
  have hcd := cd_give s (xs (6 * t + 1)) (xs (6 * t + 2)) (xs (6 * t + 3)) (xs (6 * t + 4))
  have hm : ∀ S n k, RM S m ad s → ex_M g 3 mX10_give [.ref m, .int (xs (6 * t + 1)), .int (xs (6 * t + 2)), .int (xs (6 * t + 3)), .int (xs (6 * t + 4))] S n k (mp S m ad n k (sp_give s (xs (6 * t + 1)) (xs (6 * t + 2)) (xs (6 * t + 3)) (xs (6 * t + 4)))) := fun S n k h => m_give g h
  have hc : eh_M g 12 mL_give hL_give [.ref x, .int (xs (6 * t + 1)), .int (xs (6 * t + 2)), .int (xs (6 * t + 3)), .int (xs (6 * t + 4)), .ref o] S n k (hp g S ow x l tp nz c n k o s (sp_give s (xs (6 * t + 1)) (xs (6 * t + 2)) (xs (6 * t + 3)) (xs (6 * t + 4)))) := h_give g hR hbd hOK hn4 hk4 ⟨ho.1, ho.2.1, ho.2.2.1⟩
  generalize sp_give s (xs (6 * t + 1)) (xs (6 * t + 2)) (xs (6 * t + 3)) (xs (6 * t + 4)) = sp at hq ht hv hcd hm hc
  obtain ⟨y0, hy0⟩ := hv
  refine eh_aload_n dL_law_252 1 rfl ?_
  refine eh_aload_n dL_law_253 0 rfl ?_
  refine eh_iload dL_law_254 4 rfl ?_
  refine eh_iconst (v := 1) dL_law_256 (by decide) ?_
  refine eh_iadd dL_law_257 ?_
  refine eh_sld (j := 6 * t + 1) (fun _ _ h => h) hb dL_law_258 (nI_add _ 1) (by omega) (by omega) ?_
  refine eh_aload_n dL_law_259 0 rfl ?_
  refine eh_iload dL_law_260 4 rfl ?_
  refine eh_iconst (v := 2) dL_law_262 (by decide) ?_
  refine eh_iadd dL_law_263 ?_
  refine eh_sld (j := 6 * t + 2) (fun _ _ h => h) hb dL_law_264 (nI_add _ 2) (by omega) (by omega) ?_
  refine eh_aload_n dL_law_265 0 rfl ?_
  refine eh_iload dL_law_266 4 rfl ?_
  refine eh_iconst (v := 3) dL_law_268 (by decide) ?_
  refine eh_iadd dL_law_269 ?_
  refine eh_sld (j := 6 * t + 3) (fun _ _ h => h) hb dL_law_270 (nI_add _ 3) (by omega) (by omega) ?_
  refine eh_aload_n dL_law_271 0 rfl ?_
  refine eh_iload dL_law_272 4 rfl ?_
  refine eh_iconst (v := 4) dL_law_274 (by decide) ?_
  refine eh_iadd dL_law_275 ?_
  refine eh_sld (j := 6 * t + 4) (fun _ _ h => h) hb dL_law_276 (nI_add _ 4) (by omega) (by omega) ?_
  refine eh_aload_n dL_law_277 3 rfl ?_
  refine eh_cSg [.ref x, .int (xs (6 * t + 1)), .int (xs (6 * t + 2)), .int (xs (6 * t + 3)), .int (xs (6 * t + 4)), .ref o] [] dL_law_278 cW_L_78 hc rfl (by decide) (Nat.le_of_ble_eq_true rfl) rfl (fun E S9 n9 k9 h9 => by obtain ⟨h91, -⟩ := h9; cases h91) (fun v S1 n1 k1 h1 => ?_)
  obtain ⟨rfl, hJ, hout⟩ := LJ_hp hM hA ho h1
  show eh_W _ _ _ _ _ 281 [(0, .ref b), (1, .ref x), (2, .ref m), (3, .ref o), (4, .int (nI (6 * t)))] [.int (nI sp.1)] S1 n1 k1
  have hM1 := LJ_RM hJ
  refine eh_istore [(5, .int (nI sp.1)), (0, .ref b), (1, .ref x), (2, .ref m), (3, .ref o), (4, .int (nI (6 * t)))] dL_law_281 (by decide) rfl ?_
  refine eh_aload_n dL_law_283 3 rfl ?_
  refine eh_aload_n dL_law_284 1 rfl ?_
  refine eh_iload dL_law_285 5 rfl ?_
  refine eh_iconst (v := 1) dL_law_287 (by decide) ?_
  refine eh_iadd dL_law_288 ?_
  refine eh_sld (j := 6 * t + 1) (fun _ _ h => h) hb dL_law_289 (nI_add _ 1) (by omega) (by omega) ?_
  refine eh_aload_n dL_law_290 1 rfl ?_
  refine eh_iload dL_law_291 5 rfl ?_
  refine eh_iconst (v := 2) dL_law_293 (by decide) ?_
  refine eh_iadd dL_law_294 ?_
  refine eh_sld (j := 6 * t + 2) (fun _ _ h => h) hb dL_law_295 (nI_add _ 2) (by omega) (by omega) ?_
  refine eh_aload_n dL_law_296 1 rfl ?_
  refine eh_iload dL_law_297 5 rfl ?_
  refine eh_iconst (v := 3) dL_law_299 (by decide) ?_
  refine eh_iadd dL_law_300 ?_
  refine eh_sld (j := 6 * t + 3) (fun _ _ h => h) hb dL_law_301 (nI_add _ 3) (by omega) (by omega) ?_
  refine eh_aload_n dL_law_302 1 rfl ?_
  refine eh_iload dL_law_303 5 rfl ?_
  refine eh_iconst (v := 4) dL_law_305 (by decide) ?_
  refine eh_iadd dL_law_306 ?_
  refine eh_sld (j := 6 * t + 4) (fun _ _ h => h) hb dL_law_307 (nI_add _ 4) (by omega) (by omega) ?_
  refine eh_cVg [.int (xs (6 * t + 1)), .int (xs (6 * t + 2)), .int (xs (6 * t + 3)), .int (xs (6 * t + 4))] [] dL_law_308 cV_L_81 (hm S1 n1 k1 hM1) hM1.1.1.1 hM1.1.1.2 rfl rfl rfl (by decide) (Nat.le_of_ble_eq_true rfl) rfl (fun E S9 n9 k9 h9 => by obtain ⟨h91, -⟩ := h9; cases h91) (fun v S2 n2 k2 h2 => ?_)
  have hv2 : v = some sp.2.1 := Sum.inl.inj h2.1
  subst hv2
  have hI2 := LI_of hJ h2 hq ht hn hk
  have hF2 := MF_out hJ h2.2.2.2.1
  have ht2 := h2.2.1
  have hM2 := h2.2.2.1
  rw [hy0]
  show eh_W _ _ _ _ _ 311 [(5, .int (nI sp.1)), (0, .ref b), (1, .ref x), (2, .ref m), (3, .ref o), (4, .int (nI (6 * t)))] [.int y0] S2 n2 k2
  refine eh_istore [(6, .int y0), (5, .int (nI sp.1)), (0, .ref b), (1, .ref x), (2, .ref m), (3, .ref o), (4, .int (nI (6 * t)))] dL_law_311 (by decide) rfl ?_
  refine eh_aload_n dL_law_313 4 rfl ?_
  refine eh_cVg [] [] dL_law_314 cV_L_71 (m_thrown g hM2.1) hM2.1.1.1 hM2.1.1.2 rfl rfl rfl (by decide) (Nat.le_of_ble_eq_true rfl) rfl (fun E S9 n9 k9 h9 => by obtain ⟨h91, -⟩ := h9; cases h91) (fun v S3 n3 k3 h3 => ?_)
  obtain ⟨h31, h32, h33, h34⟩ := h3
  cases h31
  rw [h32, h33, h34, ht2]
  show eh_W _ _ _ _ _ 317 [(6, .int y0), (5, .int (nI sp.1)), (0, .ref b), (1, .ref x), (2, .ref m), (3, .ref o), (4, .int (nI (6 * t)))] [.int (nI sp.1)] S2 n2 k2
  refine eh_iload dL_law_317 1 rfl ?_
  refine eh_icmp_eq (tgt := 324) dL_law_319 (by decide) (fun _ => ?_) (fun z => absurd rfl z)
  refine eh_iload dL_law_324 1 rfl ?_
  refine eh_if_ne (tgt := 341) dL_law_326 (by decide) (fun z => ?_) (fun z => ?_)
  · refine eh_goto (tgt := 1211) dL_law_341 (by decide) ?_
    refine eh_lv [2, 3, 4, 5, 6] rfl ?_
    exact kk _ _ _ hI2
  · have hz : sp.1 = 0 := by
      rcases Nat.eq_zero_or_pos sp.1 with w | w
      · exact w
      · exact absurd z (nI_ne0 w (by omega))
    refine eh_aload_n dL_law_329 5 rfl ?_
    refine eh_iconst (v := 0) dL_law_330 (by decide) ?_
    refine eh_lald (j := 0) dL_law_331 (LI_o hI2).1 (LI_o hI2).2.1 rfl (by rw [(LI_o hI2).2.2]; decide) (by decide) ?_
    refine eh_iload dL_law_332 0 rfl ?_
    refine eh_i2l dL_law_334 ?_
    refine eh_lcmp dL_law_335 ?_
    refine eh_if_eq (tgt := 341) dL_law_336 (by decide) (fun _ => ?_) (fun w => absurd (lg_eq.mpr ((congrFun hF2 0).trans ((hout hz).trans (by rw [hy0]; rfl)))) w)
    refine eh_goto (tgt := 1211) dL_law_341 (by decide) ?_
    refine eh_lv [2, 3, 4, 5, 6] rfl ?_
    exact kk _ _ _ hI2
set_option maxRecDepth 20000 in
set_option maxHeartbeats 4000000 in
theorem w_cash (g : gl_T) {b L : Nat} {xs : Nat → Int32} {x m o t : Nat} {S : hs_T} {n k : Nat} {Po : ex_R} (hb : b < g.2.2.2.1) (hL : 6 * t + 6 ≤ L) (hL2 : L ≤ 3072) (hI : LI g x m o t S n k) (kk : ∀ S' n' k', LI g x m o (t + 1) S' n' k' → eh_W (XL b L xs) g 13 mL_law Po 1211 [(0, .ref b), (1, .ref x), (2, .ref m), (3, .ref o), (4, .int (nI (6 * t)))] [] S' n' k') : eh_W (XL b L xs) g 13 mL_law Po 344 [(0, .ref b), (1, .ref x), (2, .ref m), (3, .ref o), (4, .int (nI (6 * t)))] [] S n k := by
  obtain ⟨l, tp, nz, ow, s, ys, c, ad, hR, hM, hA, ho, hQ, hT, hn, hk⟩ := hI
  have hcn := cN_le hR
  have hbd := RM_bd hM
  have hll := hbd.2.2.2.1.1
  obtain ⟨_, _, _, _, _, _, hG⟩ := id hR.2.2.2.1
  have hOK := OK_of hG hQ
  have hn4 : n + 40000 ≤ ex_NM := by show n + 40000 ≤ 601024; omega
  have hk4 : k + 200000 ≤ ex_KM := by show k + 200000 ≤ 7293034; omega
  have hq : OQ (sp_cash s (xs (6 * t + 1)) (xs (6 * t + 2)) (xs (6 * t + 3))).2.2 := OQ_cash hQ (xs (6 * t + 1)) (xs (6 * t + 2)) (xs (6 * t + 3))
  have ht : TB (sp_cash s (xs (6 * t + 1)) (xs (6 * t + 2)) (xs (6 * t + 3))).2.2 := TB_eq hT (tp_cash s (xs (6 * t + 1)) (xs (6 * t + 2)) (xs (6 * t + 3)))
  have hv := vi_cash s (xs (6 * t + 1)) (xs (6 * t + 2)) (xs (6 * t + 3))
  have hcd := cd_cash s (xs (6 * t + 1)) (xs (6 * t + 2)) (xs (6 * t + 3))
  have hm : ∀ S n k, RM S m ad s → ex_M g 3 mX10_cash [.ref m, .int (xs (6 * t + 1)), .int (xs (6 * t + 2)), .int (xs (6 * t + 3))] S n k (mp S m ad n k (sp_cash s (xs (6 * t + 1)) (xs (6 * t + 2)) (xs (6 * t + 3)))) := fun S n k h => m_cash g h
  have hc : eh_M g 12 mL_cash hL_cash [.ref x, .int (xs (6 * t + 1)), .int (xs (6 * t + 2)), .int (xs (6 * t + 3)), .ref o] S n k (hp g S ow x l tp nz c n k o s (sp_cash s (xs (6 * t + 1)) (xs (6 * t + 2)) (xs (6 * t + 3)))) := h_cash g hR hbd hOK hn4 hk4 ⟨ho.1, ho.2.1, ho.2.2.1⟩
  generalize sp_cash s (xs (6 * t + 1)) (xs (6 * t + 2)) (xs (6 * t + 3)) = sp at hq ht hv hcd hm hc
  obtain ⟨y0, hy0⟩ := hv
  refine eh_aload_n dL_law_344 1 rfl ?_
  refine eh_aload_n dL_law_345 0 rfl ?_
  refine eh_iload dL_law_346 4 rfl ?_
  refine eh_iconst (v := 1) dL_law_348 (by decide) ?_
  refine eh_iadd dL_law_349 ?_
  refine eh_sld (j := 6 * t + 1) (fun _ _ h => h) hb dL_law_350 (nI_add _ 1) (by omega) (by omega) ?_
  refine eh_aload_n dL_law_351 0 rfl ?_
  refine eh_iload dL_law_352 4 rfl ?_
  refine eh_iconst (v := 2) dL_law_354 (by decide) ?_
  refine eh_iadd dL_law_355 ?_
  refine eh_sld (j := 6 * t + 2) (fun _ _ h => h) hb dL_law_356 (nI_add _ 2) (by omega) (by omega) ?_
  refine eh_aload_n dL_law_357 0 rfl ?_
  refine eh_iload dL_law_358 4 rfl ?_
  refine eh_iconst (v := 3) dL_law_360 (by decide) ?_
  refine eh_iadd dL_law_361 ?_
  refine eh_sld (j := 6 * t + 3) (fun _ _ h => h) hb dL_law_362 (nI_add _ 3) (by omega) (by omega) ?_
  refine eh_aload_n dL_law_363 3 rfl ?_
  refine eh_cSg [.ref x, .int (xs (6 * t + 1)), .int (xs (6 * t + 2)), .int (xs (6 * t + 3)), .ref o] [] dL_law_364 cW_L_82 hc rfl (by decide) (Nat.le_of_ble_eq_true rfl) rfl (fun E S9 n9 k9 h9 => by obtain ⟨h91, -⟩ := h9; cases h91) (fun v S1 n1 k1 h1 => ?_)
  obtain ⟨rfl, hJ, hout⟩ := LJ_hp hM hA ho h1
  show eh_W _ _ _ _ _ 367 [(0, .ref b), (1, .ref x), (2, .ref m), (3, .ref o), (4, .int (nI (6 * t)))] [.int (nI sp.1)] S1 n1 k1
  have hM1 := LJ_RM hJ
  refine eh_istore [(5, .int (nI sp.1)), (0, .ref b), (1, .ref x), (2, .ref m), (3, .ref o), (4, .int (nI (6 * t)))] dL_law_367 (by decide) rfl ?_
  refine eh_aload_n dL_law_369 3 rfl ?_
  refine eh_aload_n dL_law_370 1 rfl ?_
  refine eh_iload dL_law_371 5 rfl ?_
  refine eh_iconst (v := 1) dL_law_373 (by decide) ?_
  refine eh_iadd dL_law_374 ?_
  refine eh_sld (j := 6 * t + 1) (fun _ _ h => h) hb dL_law_375 (nI_add _ 1) (by omega) (by omega) ?_
  refine eh_aload_n dL_law_376 1 rfl ?_
  refine eh_iload dL_law_377 5 rfl ?_
  refine eh_iconst (v := 2) dL_law_379 (by decide) ?_
  refine eh_iadd dL_law_380 ?_
  refine eh_sld (j := 6 * t + 2) (fun _ _ h => h) hb dL_law_381 (nI_add _ 2) (by omega) (by omega) ?_
  refine eh_aload_n dL_law_382 1 rfl ?_
  refine eh_iload dL_law_383 5 rfl ?_
  refine eh_iconst (v := 3) dL_law_385 (by decide) ?_
  refine eh_iadd dL_law_386 ?_
  refine eh_sld (j := 6 * t + 3) (fun _ _ h => h) hb dL_law_387 (nI_add _ 3) (by omega) (by omega) ?_
  refine eh_cVg [.int (xs (6 * t + 1)), .int (xs (6 * t + 2)), .int (xs (6 * t + 3))] [] dL_law_388 cV_L_85 (hm S1 n1 k1 hM1) hM1.1.1.1 hM1.1.1.2 rfl rfl rfl (by decide) (Nat.le_of_ble_eq_true rfl) rfl (fun E S9 n9 k9 h9 => by obtain ⟨h91, -⟩ := h9; cases h91) (fun v S2 n2 k2 h2 => ?_)
  have hv2 : v = some sp.2.1 := Sum.inl.inj h2.1
  subst hv2
  have hI2 := LI_of hJ h2 hq ht hn hk
  have hF2 := MF_out hJ h2.2.2.2.1
  have ht2 := h2.2.1
  have hM2 := h2.2.2.1
  rw [hy0]
  show eh_W _ _ _ _ _ 391 [(5, .int (nI sp.1)), (0, .ref b), (1, .ref x), (2, .ref m), (3, .ref o), (4, .int (nI (6 * t)))] [.int y0] S2 n2 k2
  refine eh_istore [(6, .int y0), (5, .int (nI sp.1)), (0, .ref b), (1, .ref x), (2, .ref m), (3, .ref o), (4, .int (nI (6 * t)))] dL_law_391 (by decide) rfl ?_
  refine eh_aload_n dL_law_393 4 rfl ?_
  refine eh_cVg [] [] dL_law_394 cV_L_71 (m_thrown g hM2.1) hM2.1.1.1 hM2.1.1.2 rfl rfl rfl (by decide) (Nat.le_of_ble_eq_true rfl) rfl (fun E S9 n9 k9 h9 => by obtain ⟨h91, -⟩ := h9; cases h91) (fun v S3 n3 k3 h3 => ?_)
  obtain ⟨h31, h32, h33, h34⟩ := h3
  cases h31
  rw [h32, h33, h34, ht2]
  show eh_W _ _ _ _ _ 397 [(6, .int y0), (5, .int (nI sp.1)), (0, .ref b), (1, .ref x), (2, .ref m), (3, .ref o), (4, .int (nI (6 * t)))] [.int (nI sp.1)] S2 n2 k2
  refine eh_iload dL_law_397 1 rfl ?_
  refine eh_icmp_eq (tgt := 404) dL_law_399 (by decide) (fun _ => ?_) (fun z => absurd rfl z)
  refine eh_iload dL_law_404 1 rfl ?_
  refine eh_if_ne (tgt := 421) dL_law_406 (by decide) (fun z => ?_) (fun z => ?_)
  · refine eh_goto (tgt := 1211) dL_law_421 (by decide) ?_
    refine eh_lv [2, 3, 4, 5, 6] rfl ?_
    exact kk _ _ _ hI2
  · have hz : sp.1 = 0 := by
      rcases Nat.eq_zero_or_pos sp.1 with w | w
      · exact w
      · exact absurd z (nI_ne0 w (by omega))
    refine eh_aload_n dL_law_409 5 rfl ?_
    refine eh_iconst (v := 0) dL_law_410 (by decide) ?_
    refine eh_lald (j := 0) dL_law_411 (LI_o hI2).1 (LI_o hI2).2.1 rfl (by rw [(LI_o hI2).2.2]; decide) (by decide) ?_
    refine eh_iload dL_law_412 0 rfl ?_
    refine eh_i2l dL_law_414 ?_
    refine eh_lcmp dL_law_415 ?_
    refine eh_if_eq (tgt := 421) dL_law_416 (by decide) (fun _ => ?_) (fun w => absurd (lg_eq.mpr ((congrFun hF2 0).trans ((hout hz).trans (by rw [hy0]; rfl)))) w)
    refine eh_goto (tgt := 1211) dL_law_421 (by decide) ?_
    refine eh_lv [2, 3, 4, 5, 6] rfl ?_
    exact kk _ _ _ hI2
set_option maxRecDepth 20000 in
set_option maxHeartbeats 4000000 in
theorem w_died (g : gl_T) {b L : Nat} {xs : Nat → Int32} {x m o t : Nat} {S : hs_T} {n k : Nat} {Po : ex_R} (hb : b < g.2.2.2.1) (hL : 6 * t + 6 ≤ L) (hL2 : L ≤ 3072) (hI : LI g x m o t S n k) (kk : ∀ S' n' k', LI g x m o (t + 1) S' n' k' → eh_W (XL b L xs) g 13 mL_law Po 1211 [(0, .ref b), (1, .ref x), (2, .ref m), (3, .ref o), (4, .int (nI (6 * t)))] [] S' n' k') : eh_W (XL b L xs) g 13 mL_law Po 424 [(0, .ref b), (1, .ref x), (2, .ref m), (3, .ref o), (4, .int (nI (6 * t)))] [] S n k := by
  obtain ⟨l, tp, nz, ow, s, ys, c, ad, hR, hM, hA, ho, hQ, hT, hn, hk⟩ := hI
  have hcn := cN_le hR
  have hbd := RM_bd hM
  have hll := hbd.2.2.2.1.1
  obtain ⟨_, _, _, _, _, _, hG⟩ := id hR.2.2.2.1
  have hOK := OK_of hG hQ
  have hn4 : n + 40000 ≤ ex_NM := by show n + 40000 ≤ 601024; omega
  have hk4 : k + 200000 ≤ ex_KM := by show k + 200000 ≤ 7293034; omega
  have hq : OQ (sp_died s (xs (6 * t + 1)) (xs (6 * t + 2))).2.2 := OQ_died hQ hbd.2.2.1 (xs (6 * t + 1)) (xs (6 * t + 2))
  have ht : TB (sp_died s (xs (6 * t + 1)) (xs (6 * t + 2))).2.2 := TB_eq hT (tp_died s (xs (6 * t + 1)) (xs (6 * t + 2)))
  have hv := vi_died s (xs (6 * t + 1)) (xs (6 * t + 2))
  have hcd := cd_died s (xs (6 * t + 1)) (xs (6 * t + 2))
  have hm : ∀ S n k, RM S m ad s → ex_M g 2 mX10_died [.ref m, .int (xs (6 * t + 1)), .int (xs (6 * t + 2))] S n k (mp S m ad n k (sp_died s (xs (6 * t + 1)) (xs (6 * t + 2)))) := fun S n k h => m_died g h hQ.2.2.1
  have hc : eh_M g 12 mL_died hL_died [.ref x, .int (xs (6 * t + 1)), .int (xs (6 * t + 2)), .ref o] S n k (hp g S ow x l tp nz c n k o s (sp_died s (xs (6 * t + 1)) (xs (6 * t + 2)))) := h_died g hR hbd hOK hn4 hk4 ⟨ho.1, ho.2.1, ho.2.2.1⟩
  generalize sp_died s (xs (6 * t + 1)) (xs (6 * t + 2)) = sp at hq ht hv hcd hm hc
  obtain ⟨y0, hy0⟩ := hv
  refine eh_aload_n dL_law_424 1 rfl ?_
  refine eh_aload_n dL_law_425 0 rfl ?_
  refine eh_iload dL_law_426 4 rfl ?_
  refine eh_iconst (v := 1) dL_law_428 (by decide) ?_
  refine eh_iadd dL_law_429 ?_
  refine eh_sld (j := 6 * t + 1) (fun _ _ h => h) hb dL_law_430 (nI_add _ 1) (by omega) (by omega) ?_
  refine eh_aload_n dL_law_431 0 rfl ?_
  refine eh_iload dL_law_432 4 rfl ?_
  refine eh_iconst (v := 2) dL_law_434 (by decide) ?_
  refine eh_iadd dL_law_435 ?_
  refine eh_sld (j := 6 * t + 2) (fun _ _ h => h) hb dL_law_436 (nI_add _ 2) (by omega) (by omega) ?_
  refine eh_aload_n dL_law_437 3 rfl ?_
  refine eh_cSg [.ref x, .int (xs (6 * t + 1)), .int (xs (6 * t + 2)), .ref o] [] dL_law_438 cW_L_86 hc rfl (by decide) (Nat.le_of_ble_eq_true rfl) rfl (fun E S9 n9 k9 h9 => by obtain ⟨h91, -⟩ := h9; cases h91) (fun v S1 n1 k1 h1 => ?_)
  obtain ⟨rfl, hJ, hout⟩ := LJ_hp hM hA ho h1
  show eh_W _ _ _ _ _ 441 [(0, .ref b), (1, .ref x), (2, .ref m), (3, .ref o), (4, .int (nI (6 * t)))] [.int (nI sp.1)] S1 n1 k1
  have hM1 := LJ_RM hJ
  refine eh_istore [(5, .int (nI sp.1)), (0, .ref b), (1, .ref x), (2, .ref m), (3, .ref o), (4, .int (nI (6 * t)))] dL_law_441 (by decide) rfl ?_
  refine eh_aload_n dL_law_443 3 rfl ?_
  refine eh_aload_n dL_law_444 1 rfl ?_
  refine eh_iload dL_law_445 5 rfl ?_
  refine eh_iconst (v := 1) dL_law_447 (by decide) ?_
  refine eh_iadd dL_law_448 ?_
  refine eh_sld (j := 6 * t + 1) (fun _ _ h => h) hb dL_law_449 (nI_add _ 1) (by omega) (by omega) ?_
  refine eh_aload_n dL_law_450 1 rfl ?_
  refine eh_iload dL_law_451 5 rfl ?_
  refine eh_iconst (v := 2) dL_law_453 (by decide) ?_
  refine eh_iadd dL_law_454 ?_
  refine eh_sld (j := 6 * t + 2) (fun _ _ h => h) hb dL_law_455 (nI_add _ 2) (by omega) (by omega) ?_
  refine eh_cVg [.int (xs (6 * t + 1)), .int (xs (6 * t + 2))] [] dL_law_456 cV_L_88 (hm S1 n1 k1 hM1) hM1.1.1.1 hM1.1.1.2 rfl rfl rfl (by decide) (Nat.le_of_ble_eq_true rfl) rfl (fun E S9 n9 k9 h9 => by obtain ⟨h91, -⟩ := h9; cases h91) (fun v S2 n2 k2 h2 => ?_)
  have hv2 : v = some sp.2.1 := Sum.inl.inj h2.1
  subst hv2
  have hI2 := LI_of hJ h2 hq ht hn hk
  have hF2 := MF_out hJ h2.2.2.2.1
  have ht2 := h2.2.1
  have hM2 := h2.2.2.1
  rw [hy0]
  show eh_W _ _ _ _ _ 459 [(5, .int (nI sp.1)), (0, .ref b), (1, .ref x), (2, .ref m), (3, .ref o), (4, .int (nI (6 * t)))] [.int y0] S2 n2 k2
  refine eh_istore [(6, .int y0), (5, .int (nI sp.1)), (0, .ref b), (1, .ref x), (2, .ref m), (3, .ref o), (4, .int (nI (6 * t)))] dL_law_459 (by decide) rfl ?_
  refine eh_aload_n dL_law_461 4 rfl ?_
  refine eh_cVg [] [] dL_law_462 cV_L_71 (m_thrown g hM2.1) hM2.1.1.1 hM2.1.1.2 rfl rfl rfl (by decide) (Nat.le_of_ble_eq_true rfl) rfl (fun E S9 n9 k9 h9 => by obtain ⟨h91, -⟩ := h9; cases h91) (fun v S3 n3 k3 h3 => ?_)
  obtain ⟨h31, h32, h33, h34⟩ := h3
  cases h31
  rw [h32, h33, h34, ht2]
  show eh_W _ _ _ _ _ 465 [(6, .int y0), (5, .int (nI sp.1)), (0, .ref b), (1, .ref x), (2, .ref m), (3, .ref o), (4, .int (nI (6 * t)))] [.int (nI sp.1)] S2 n2 k2
  refine eh_iload dL_law_465 1 rfl ?_
  refine eh_icmp_eq (tgt := 472) dL_law_467 (by decide) (fun _ => ?_) (fun z => absurd rfl z)
  refine eh_iload dL_law_472 1 rfl ?_
  refine eh_if_ne (tgt := 489) dL_law_474 (by decide) (fun z => ?_) (fun z => ?_)
  · refine eh_goto (tgt := 1211) dL_law_489 (by decide) ?_
    refine eh_lv [2, 3, 4, 5, 6] rfl ?_
    exact kk _ _ _ hI2
  · have hz : sp.1 = 0 := by
      rcases Nat.eq_zero_or_pos sp.1 with w | w
      · exact w
      · exact absurd z (nI_ne0 w (by omega))
    refine eh_aload_n dL_law_477 5 rfl ?_
    refine eh_iconst (v := 0) dL_law_478 (by decide) ?_
    refine eh_lald (j := 0) dL_law_479 (LI_o hI2).1 (LI_o hI2).2.1 rfl (by rw [(LI_o hI2).2.2]; decide) (by decide) ?_
    refine eh_iload dL_law_480 0 rfl ?_
    refine eh_i2l dL_law_482 ?_
    refine eh_lcmp dL_law_483 ?_
    refine eh_if_eq (tgt := 489) dL_law_484 (by decide) (fun _ => ?_) (fun w => absurd (lg_eq.mpr ((congrFun hF2 0).trans ((hout hz).trans (by rw [hy0]; rfl)))) w)
    refine eh_goto (tgt := 1211) dL_law_489 (by decide) ?_
    refine eh_lv [2, 3, 4, 5, 6] rfl ?_
    exact kk _ _ _ hI2
set_option maxRecDepth 20000 in
set_option maxHeartbeats 4000000 in
theorem w_held (g : gl_T) {b L : Nat} {xs : Nat → Int32} {x m o t : Nat} {S : hs_T} {n k : Nat} {Po : ex_R} (hb : b < g.2.2.2.1) (hL : 6 * t + 6 ≤ L) (hL2 : L ≤ 3072) (hI : LI g x m o t S n k) (kk : ∀ S' n' k', LI g x m o (t + 1) S' n' k' → eh_W (XL b L xs) g 13 mL_law Po 1211 [(0, .ref b), (1, .ref x), (2, .ref m), (3, .ref o), (4, .int (nI (6 * t)))] [] S' n' k') : eh_W (XL b L xs) g 13 mL_law Po 492 [(0, .ref b), (1, .ref x), (2, .ref m), (3, .ref o), (4, .int (nI (6 * t)))] [] S n k := by
  obtain ⟨l, tp, nz, ow, s, ys, c, ad, hR, hM, hA, ho, hQ, hT, hn, hk⟩ := hI
  have hcn := cN_le hR
  have hbd := RM_bd hM
  have hll := hbd.2.2.2.1.1
  obtain ⟨_, _, _, _, _, _, hG⟩ := id hR.2.2.2.1
  have hOK := OK_of hG hQ
  have hn4 : n + 40000 ≤ ex_NM := by show n + 40000 ≤ 601024; omega
  have hk4 : k + 200000 ≤ ex_KM := by show k + 200000 ≤ 7293034; omega
  have hq : OQ (sp_held s (xs (6 * t + 1)) (xs (6 * t + 2))).2.2 := by rw [st_held]; exact hQ
  have ht : TB (sp_held s (xs (6 * t + 1)) (xs (6 * t + 2))).2.2 := by rw [st_held]; exact hT
  have hv := vi_held s (xs (6 * t + 1)) (xs (6 * t + 2))
  have hcd := cd_held s (xs (6 * t + 1)) (xs (6 * t + 2))
  have hm : ∀ S n k, RM S m ad s → ex_M g 0 mX10_held [.ref m, .int (xs (6 * t + 1)), .int (xs (6 * t + 2))] S n k (mp S m ad n k (sp_held s (xs (6 * t + 1)) (xs (6 * t + 2)))) := fun S n k h => m_held g h
  have hc : ex_M g 6 mX9_held [.ref x, .int (xs (6 * t + 1)), .int (xs (6 * t + 2))] S n k (cp g S ow x l tp nz c n k (exN exS) s (sp_held s (xs (6 * t + 1)) (xs (6 * t + 2)))) := c_heldop g hR hbd hOK hn4 hk4
  generalize sp_held s (xs (6 * t + 1)) (xs (6 * t + 2)) = sp at hq ht hv hcd hm hc
  obtain ⟨y0, hy0⟩ := hv
  refine eh_aload_n dL_law_492 1 rfl ?_
  refine eh_aload_n dL_law_493 0 rfl ?_
  refine eh_iload dL_law_494 4 rfl ?_
  refine eh_iconst (v := 1) dL_law_496 (by decide) ?_
  refine eh_iadd dL_law_497 ?_
  refine eh_sld (j := 6 * t + 1) (fun _ _ h => h) hb dL_law_498 (nI_add _ 1) (by omega) (by omega) ?_
  refine eh_aload_n dL_law_499 0 rfl ?_
  refine eh_iload dL_law_500 4 rfl ?_
  refine eh_iconst (v := 2) dL_law_502 (by decide) ?_
  refine eh_iadd dL_law_503 ?_
  refine eh_sld (j := 6 * t + 2) (fun _ _ h => h) hb dL_law_504 (nI_add _ 2) (by omega) (by omega) ?_
  refine eh_cVg [.int (xs (6 * t + 1)), .int (xs (6 * t + 2))] [] dL_law_505 cV_L_89 hc hR.1.1.1 hR.1.1.2 rfl rfl rfl (by decide) (Nat.le_of_ble_eq_true rfl) rfl (fun E S9 n9 k9 h9 => absurd hcd (cp_r h9).1) (fun v S1 n1 k1 h1 => ?_)
  obtain ⟨rfl, hJ⟩ := LJ_cp hM hA ho hcd h1
  rw [hy0]
  show eh_W _ _ _ _ _ 508 [(0, .ref b), (1, .ref x), (2, .ref m), (3, .ref o), (4, .int (nI (6 * t)))] [.int y0] S1 n1 k1
  have hM1 := LJ_RM hJ
  refine eh_aload_n dL_law_508 2 rfl ?_
  refine eh_aload_n dL_law_509 0 rfl ?_
  refine eh_iload dL_law_510 4 rfl ?_
  refine eh_iconst (v := 1) dL_law_512 (by decide) ?_
  refine eh_iadd dL_law_513 ?_
  refine eh_sld (j := 6 * t + 1) (fun _ _ h => h) hb dL_law_514 (nI_add _ 1) (by omega) (by omega) ?_
  refine eh_aload_n dL_law_515 0 rfl ?_
  refine eh_iload dL_law_516 4 rfl ?_
  refine eh_iconst (v := 2) dL_law_518 (by decide) ?_
  refine eh_iadd dL_law_519 ?_
  refine eh_sld (j := 6 * t + 2) (fun _ _ h => h) hb dL_law_520 (nI_add _ 2) (by omega) (by omega) ?_
  refine eh_cVg [.int (xs (6 * t + 1)), .int (xs (6 * t + 2))] [.int y0] dL_law_521 cV_L_92 (hm S1 n1 k1 hM1) hM1.1.1.1 hM1.1.1.2 rfl rfl rfl (by decide) (Nat.le_of_ble_eq_true rfl) rfl (fun E S9 n9 k9 h9 => by obtain ⟨h91, -⟩ := h9; cases h91) (fun v S2 n2 k2 h2 => ?_)
  have hv2 : v = some sp.2.1 := Sum.inl.inj h2.1
  subst hv2
  have hI2 := LI_of hJ h2 hq ht hn hk
  have hF2 := MF_out hJ h2.2.2.2.1
  have ht2 := h2.2.1
  have hM2 := h2.2.2.1
  rw [hy0]
  show eh_W _ _ _ _ _ 524 [(0, .ref b), (1, .ref x), (2, .ref m), (3, .ref o), (4, .int (nI (6 * t)))] [.int y0, .int y0] S2 n2 k2
  refine eh_icmp_eq (tgt := 1211) dL_law_524 (by decide) (fun _ => ?_) (fun z => absurd rfl z)
  exact kk _ _ _ hI2
set_option maxRecDepth 20000 in
set_option maxHeartbeats 4000000 in
theorem w_has (g : gl_T) {b L : Nat} {xs : Nat → Int32} {x m o t : Nat} {S : hs_T} {n k : Nat} {Po : ex_R} (hb : b < g.2.2.2.1) (hL : 6 * t + 6 ≤ L) (hL2 : L ≤ 3072) (hI : LI g x m o t S n k) (kk : ∀ S' n' k', LI g x m o (t + 1) S' n' k' → eh_W (XL b L xs) g 13 mL_law Po 1211 [(0, .ref b), (1, .ref x), (2, .ref m), (3, .ref o), (4, .int (nI (6 * t)))] [] S' n' k') : eh_W (XL b L xs) g 13 mL_law Po 529 [(0, .ref b), (1, .ref x), (2, .ref m), (3, .ref o), (4, .int (nI (6 * t)))] [] S n k := by
  obtain ⟨l, tp, nz, ow, s, ys, c, ad, hR, hM, hA, ho, hQ, hT, hn, hk⟩ := hI
  have hcn := cN_le hR
  have hbd := RM_bd hM
  have hll := hbd.2.2.2.1.1
  obtain ⟨_, _, _, _, _, _, hG⟩ := id hR.2.2.2.1
  have hOK := OK_of hG hQ
  have hn4 : n + 40000 ≤ ex_NM := by show n + 40000 ≤ 601024; omega
  have hk4 : k + 200000 ≤ ex_KM := by show k + 200000 ≤ 7293034; omega
  have hq : OQ (sp_has s (xs (6 * t + 1))).2.2 := by rw [st_has]; exact hQ
  have ht : TB (sp_has s (xs (6 * t + 1))).2.2 := by rw [st_has]; exact hT
  have hv := vi_has s (xs (6 * t + 1))
  have hcd := cd_has s (xs (6 * t + 1))
  have hm : ∀ S n k, RM S m ad s → ex_M g 2 mX10_has [.ref m, .int (xs (6 * t + 1))] S n k (mp S m ad n k (sp_has s (xs (6 * t + 1)))) := fun S n k h => m_has g h
  have hc : eh_M g 12 mL_has hL_has [.ref x, .int (xs (6 * t + 1)), .ref o] S n k (hp g S ow x l tp nz c n k o s (sp_has s (xs (6 * t + 1)))) := h_has g hR hbd hOK hn4 hk4 ⟨ho.1, ho.2.1, ho.2.2.1⟩
  generalize sp_has s (xs (6 * t + 1)) = sp at hq ht hv hcd hm hc
  obtain ⟨y0, hy0⟩ := hv
  refine eh_aload_n dL_law_529 1 rfl ?_
  refine eh_aload_n dL_law_530 0 rfl ?_
  refine eh_iload dL_law_531 4 rfl ?_
  refine eh_iconst (v := 1) dL_law_533 (by decide) ?_
  refine eh_iadd dL_law_534 ?_
  refine eh_sld (j := 6 * t + 1) (fun _ _ h => h) hb dL_law_535 (nI_add _ 1) (by omega) (by omega) ?_
  refine eh_aload_n dL_law_536 3 rfl ?_
  refine eh_cSg [.ref x, .int (xs (6 * t + 1)), .ref o] [] dL_law_537 cW_L_93 hc rfl (by decide) (Nat.le_of_ble_eq_true rfl) rfl (fun E S9 n9 k9 h9 => by obtain ⟨h91, -⟩ := h9; cases h91) (fun v S1 n1 k1 h1 => ?_)
  obtain ⟨rfl, hJ, hout⟩ := LJ_hp hM hA ho h1
  show eh_W _ _ _ _ _ 540 [(0, .ref b), (1, .ref x), (2, .ref m), (3, .ref o), (4, .int (nI (6 * t)))] [.int (nI sp.1)] S1 n1 k1
  have hM1 := LJ_RM hJ
  refine eh_istore [(5, .int (nI sp.1)), (0, .ref b), (1, .ref x), (2, .ref m), (3, .ref o), (4, .int (nI (6 * t)))] dL_law_540 (by decide) rfl ?_
  refine eh_aload_n dL_law_542 3 rfl ?_
  refine eh_aload_n dL_law_543 1 rfl ?_
  refine eh_iload dL_law_544 5 rfl ?_
  refine eh_iconst (v := 1) dL_law_546 (by decide) ?_
  refine eh_iadd dL_law_547 ?_
  refine eh_sld (j := 6 * t + 1) (fun _ _ h => h) hb dL_law_548 (nI_add _ 1) (by omega) (by omega) ?_
  refine eh_cVg [.int (xs (6 * t + 1))] [] dL_law_549 cV_L_96 (hm S1 n1 k1 hM1) hM1.1.1.1 hM1.1.1.2 rfl rfl rfl (by decide) (Nat.le_of_ble_eq_true rfl) rfl (fun E S9 n9 k9 h9 => by obtain ⟨h91, -⟩ := h9; cases h91) (fun v S2 n2 k2 h2 => ?_)
  have hv2 : v = some sp.2.1 := Sum.inl.inj h2.1
  subst hv2
  have hI2 := LI_of hJ h2 hq ht hn hk
  have hF2 := MF_out hJ h2.2.2.2.1
  have ht2 := h2.2.1
  have hM2 := h2.2.2.1
  rw [hy0]
  show eh_W _ _ _ _ _ 552 [(5, .int (nI sp.1)), (0, .ref b), (1, .ref x), (2, .ref m), (3, .ref o), (4, .int (nI (6 * t)))] [.int y0] S2 n2 k2
  refine eh_istore [(6, .int y0), (5, .int (nI sp.1)), (0, .ref b), (1, .ref x), (2, .ref m), (3, .ref o), (4, .int (nI (6 * t)))] dL_law_552 (by decide) rfl ?_
  refine eh_aload_n dL_law_554 4 rfl ?_
  refine eh_cVg [] [] dL_law_555 cV_L_71 (m_thrown g hM2.1) hM2.1.1.1 hM2.1.1.2 rfl rfl rfl (by decide) (Nat.le_of_ble_eq_true rfl) rfl (fun E S9 n9 k9 h9 => by obtain ⟨h91, -⟩ := h9; cases h91) (fun v S3 n3 k3 h3 => ?_)
  obtain ⟨h31, h32, h33, h34⟩ := h3
  cases h31
  rw [h32, h33, h34, ht2]
  show eh_W _ _ _ _ _ 558 [(6, .int y0), (5, .int (nI sp.1)), (0, .ref b), (1, .ref x), (2, .ref m), (3, .ref o), (4, .int (nI (6 * t)))] [.int (nI sp.1)] S2 n2 k2
  refine eh_iload dL_law_558 1 rfl ?_
  refine eh_icmp_eq (tgt := 565) dL_law_560 (by decide) (fun _ => ?_) (fun z => absurd rfl z)
  refine eh_iload dL_law_565 1 rfl ?_
  refine eh_if_ne (tgt := 582) dL_law_567 (by decide) (fun z => ?_) (fun z => ?_)
  · refine eh_goto (tgt := 1211) dL_law_582 (by decide) ?_
    refine eh_lv [2, 3, 4, 5, 6] rfl ?_
    exact kk _ _ _ hI2
  · have hz : sp.1 = 0 := by
      rcases Nat.eq_zero_or_pos sp.1 with w | w
      · exact w
      · exact absurd z (nI_ne0 w (by omega))
    refine eh_aload_n dL_law_570 5 rfl ?_
    refine eh_iconst (v := 0) dL_law_571 (by decide) ?_
    refine eh_lald (j := 0) dL_law_572 (LI_o hI2).1 (LI_o hI2).2.1 rfl (by rw [(LI_o hI2).2.2]; decide) (by decide) ?_
    refine eh_iload dL_law_573 0 rfl ?_
    refine eh_i2l dL_law_575 ?_
    refine eh_lcmp dL_law_576 ?_
    refine eh_if_eq (tgt := 582) dL_law_577 (by decide) (fun _ => ?_) (fun w => absurd (lg_eq.mpr ((congrFun hF2 0).trans ((hout hz).trans (by rw [hy0]; rfl)))) w)
    refine eh_goto (tgt := 1211) dL_law_582 (by decide) ?_
    refine eh_lv [2, 3, 4, 5, 6] rfl ?_
    exact kk _ _ _ hI2
set_option maxRecDepth 20000 in
set_option maxHeartbeats 4000000 in
theorem w_line (g : gl_T) {b L : Nat} {xs : Nat → Int32} {x m o t : Nat} {S : hs_T} {n k : Nat} {Po : ex_R} (hb : b < g.2.2.2.1) (hL : 6 * t + 6 ≤ L) (hL2 : L ≤ 3072) (hI : LI g x m o t S n k) (kk : ∀ S' n' k', LI g x m o (t + 1) S' n' k' → eh_W (XL b L xs) g 13 mL_law Po 1211 [(0, .ref b), (1, .ref x), (2, .ref m), (3, .ref o), (4, .int (nI (6 * t)))] [] S' n' k') : eh_W (XL b L xs) g 13 mL_law Po 585 [(0, .ref b), (1, .ref x), (2, .ref m), (3, .ref o), (4, .int (nI (6 * t)))] [] S n k := by
  obtain ⟨l, tp, nz, ow, s, ys, c, ad, hR, hM, hA, ho, hQ, hT, hn, hk⟩ := hI
  have hcn := cN_le hR
  have hbd := RM_bd hM
  have hll := hbd.2.2.2.1.1
  obtain ⟨_, _, _, _, _, _, hG⟩ := id hR.2.2.2.1
  have hOK := OK_of hG hQ
  have hn4 : n + 40000 ≤ ex_NM := by show n + 40000 ≤ 601024; omega
  have hk4 : k + 200000 ≤ ex_KM := by show k + 200000 ≤ 7293034; omega
  have hq : OQ (sp_line s (xs (6 * t + 1)) (xs (6 * t + 2))).2.2 := by rw [st_line]; exact hQ
  have ht : TB (sp_line s (xs (6 * t + 1)) (xs (6 * t + 2))).2.2 := by rw [st_line]; exact hT
  have hv := vi_line s (xs (6 * t + 1)) (xs (6 * t + 2))
  have hcd := cd_line s (xs (6 * t + 1)) (xs (6 * t + 2))
  have hm : ∀ S n k, RM S m ad s → ex_M g 1 mX10_line [.ref m, .int (xs (6 * t + 1)), .int (xs (6 * t + 2))] S n k (mp S m ad n k (sp_line s (xs (6 * t + 1)) (xs (6 * t + 2)))) := fun S n k h => m_line g h
  have hc : eh_M g 12 mL_line hL_line [.ref x, .int (xs (6 * t + 1)), .int (xs (6 * t + 2)), .ref o] S n k (hp g S ow x l tp nz c n k o s (sp_line s (xs (6 * t + 1)) (xs (6 * t + 2)))) := h_line g hR hbd hOK hn4 hk4 ⟨ho.1, ho.2.1, ho.2.2.1⟩
  generalize sp_line s (xs (6 * t + 1)) (xs (6 * t + 2)) = sp at hq ht hv hcd hm hc
  obtain ⟨y0, hy0⟩ := hv
  refine eh_aload_n dL_law_585 1 rfl ?_
  refine eh_aload_n dL_law_586 0 rfl ?_
  refine eh_iload dL_law_587 4 rfl ?_
  refine eh_iconst (v := 1) dL_law_589 (by decide) ?_
  refine eh_iadd dL_law_590 ?_
  refine eh_sld (j := 6 * t + 1) (fun _ _ h => h) hb dL_law_591 (nI_add _ 1) (by omega) (by omega) ?_
  refine eh_aload_n dL_law_592 0 rfl ?_
  refine eh_iload dL_law_593 4 rfl ?_
  refine eh_iconst (v := 2) dL_law_595 (by decide) ?_
  refine eh_iadd dL_law_596 ?_
  refine eh_sld (j := 6 * t + 2) (fun _ _ h => h) hb dL_law_597 (nI_add _ 2) (by omega) (by omega) ?_
  refine eh_aload_n dL_law_598 3 rfl ?_
  refine eh_cSg [.ref x, .int (xs (6 * t + 1)), .int (xs (6 * t + 2)), .ref o] [] dL_law_599 cW_L_97 hc rfl (by decide) (Nat.le_of_ble_eq_true rfl) rfl (fun E S9 n9 k9 h9 => by obtain ⟨h91, -⟩ := h9; cases h91) (fun v S1 n1 k1 h1 => ?_)
  obtain ⟨rfl, hJ, hout⟩ := LJ_hp hM hA ho h1
  show eh_W _ _ _ _ _ 602 [(0, .ref b), (1, .ref x), (2, .ref m), (3, .ref o), (4, .int (nI (6 * t)))] [.int (nI sp.1)] S1 n1 k1
  have hM1 := LJ_RM hJ
  refine eh_istore [(5, .int (nI sp.1)), (0, .ref b), (1, .ref x), (2, .ref m), (3, .ref o), (4, .int (nI (6 * t)))] dL_law_602 (by decide) rfl ?_
  refine eh_aload_n dL_law_604 3 rfl ?_
  refine eh_aload_n dL_law_605 1 rfl ?_
  refine eh_iload dL_law_606 5 rfl ?_
  refine eh_iconst (v := 1) dL_law_608 (by decide) ?_
  refine eh_iadd dL_law_609 ?_
  refine eh_sld (j := 6 * t + 1) (fun _ _ h => h) hb dL_law_610 (nI_add _ 1) (by omega) (by omega) ?_
  refine eh_aload_n dL_law_611 1 rfl ?_
  refine eh_iload dL_law_612 5 rfl ?_
  refine eh_iconst (v := 2) dL_law_614 (by decide) ?_
  refine eh_iadd dL_law_615 ?_
  refine eh_sld (j := 6 * t + 2) (fun _ _ h => h) hb dL_law_616 (nI_add _ 2) (by omega) (by omega) ?_
  refine eh_cVg [.int (xs (6 * t + 1)), .int (xs (6 * t + 2))] [] dL_law_617 cV_L_99 (hm S1 n1 k1 hM1) hM1.1.1.1 hM1.1.1.2 rfl rfl rfl (by decide) (Nat.le_of_ble_eq_true rfl) rfl (fun E S9 n9 k9 h9 => by obtain ⟨h91, -⟩ := h9; cases h91) (fun v S2 n2 k2 h2 => ?_)
  have hv2 : v = some sp.2.1 := Sum.inl.inj h2.1
  subst hv2
  have hI2 := LI_of hJ h2 hq ht hn hk
  have hF2 := MF_out hJ h2.2.2.2.1
  have ht2 := h2.2.1
  have hM2 := h2.2.2.1
  rw [hy0]
  show eh_W _ _ _ _ _ 620 [(5, .int (nI sp.1)), (0, .ref b), (1, .ref x), (2, .ref m), (3, .ref o), (4, .int (nI (6 * t)))] [.int y0] S2 n2 k2
  refine eh_istore [(6, .int y0), (5, .int (nI sp.1)), (0, .ref b), (1, .ref x), (2, .ref m), (3, .ref o), (4, .int (nI (6 * t)))] dL_law_620 (by decide) rfl ?_
  refine eh_aload_n dL_law_622 4 rfl ?_
  refine eh_cVg [] [] dL_law_623 cV_L_71 (m_thrown g hM2.1) hM2.1.1.1 hM2.1.1.2 rfl rfl rfl (by decide) (Nat.le_of_ble_eq_true rfl) rfl (fun E S9 n9 k9 h9 => by obtain ⟨h91, -⟩ := h9; cases h91) (fun v S3 n3 k3 h3 => ?_)
  obtain ⟨h31, h32, h33, h34⟩ := h3
  cases h31
  rw [h32, h33, h34, ht2]
  show eh_W _ _ _ _ _ 626 [(6, .int y0), (5, .int (nI sp.1)), (0, .ref b), (1, .ref x), (2, .ref m), (3, .ref o), (4, .int (nI (6 * t)))] [.int (nI sp.1)] S2 n2 k2
  refine eh_iload dL_law_626 1 rfl ?_
  refine eh_icmp_eq (tgt := 633) dL_law_628 (by decide) (fun _ => ?_) (fun z => absurd rfl z)
  refine eh_iload dL_law_633 1 rfl ?_
  refine eh_if_ne (tgt := 650) dL_law_635 (by decide) (fun z => ?_) (fun z => ?_)
  · refine eh_goto (tgt := 1211) dL_law_650 (by decide) ?_
    refine eh_lv [2, 3, 4, 5, 6] rfl ?_
    exact kk _ _ _ hI2
  · have hz : sp.1 = 0 := by
      rcases Nat.eq_zero_or_pos sp.1 with w | w
      · exact w
      · exact absurd z (nI_ne0 w (by omega))
    refine eh_aload_n dL_law_638 5 rfl ?_
    refine eh_iconst (v := 0) dL_law_639 (by decide) ?_
    refine eh_lald (j := 0) dL_law_640 (LI_o hI2).1 (LI_o hI2).2.1 rfl (by rw [(LI_o hI2).2.2]; decide) (by decide) ?_
    refine eh_iload dL_law_641 0 rfl ?_
    refine eh_i2l dL_law_643 ?_
    refine eh_lcmp dL_law_644 ?_
    refine eh_if_eq (tgt := 650) dL_law_645 (by decide) (fun _ => ?_) (fun w => absurd (lg_eq.mpr ((congrFun hF2 0).trans ((hout hz).trans (by rw [hy0]; rfl)))) w)
    refine eh_goto (tgt := 1211) dL_law_650 (by decide) ?_
    refine eh_lv [2, 3, 4, 5, 6] rfl ?_
    exact kk _ _ _ hI2
set_option maxRecDepth 20000 in
set_option maxHeartbeats 4000000 in
theorem w_wait (g : gl_T) {b L : Nat} {xs : Nat → Int32} {x m o t : Nat} {S : hs_T} {n k : Nat} {Po : ex_R} (hb : b < g.2.2.2.1) (hL : 6 * t + 6 ≤ L) (hL2 : L ≤ 3072) (hI : LI g x m o t S n k) (kk : ∀ S' n' k', LI g x m o (t + 1) S' n' k' → eh_W (XL b L xs) g 13 mL_law Po 1211 [(0, .ref b), (1, .ref x), (2, .ref m), (3, .ref o), (4, .int (nI (6 * t)))] [] S' n' k') : eh_W (XL b L xs) g 13 mL_law Po 653 [(0, .ref b), (1, .ref x), (2, .ref m), (3, .ref o), (4, .int (nI (6 * t)))] [] S n k := by
  obtain ⟨l, tp, nz, ow, s, ys, c, ad, hR, hM, hA, ho, hQ, hT, hn, hk⟩ := hI
  have hcn := cN_le hR
  have hbd := RM_bd hM
  have hll := hbd.2.2.2.1.1
  obtain ⟨_, _, _, _, _, _, hG⟩ := id hR.2.2.2.1
  have hOK := OK_of hG hQ
  have hn4 : n + 40000 ≤ ex_NM := by show n + 40000 ≤ 601024; omega
  have hk4 : k + 200000 ≤ ex_KM := by show k + 200000 ≤ 7293034; omega
  have hq : OQ (sp_wait s (xs (6 * t + 1))).2.2 := OQ_wait hQ (xs (6 * t + 1))
  have ht : TB (sp_wait s (xs (6 * t + 1))).2.2 := TB_eq hT (tp_wait s (xs (6 * t + 1)))
  have hv := vi_wait s (xs (6 * t + 1))
  have hcd := cd_wait s (xs (6 * t + 1))
  have hm : ∀ S n k, RM S m ad s → ex_M g 1 mX10_wait [.ref m, .int (xs (6 * t + 1))] S n k (mp S m ad n k (sp_wait s (xs (6 * t + 1)))) := fun S n k h => m_wait g h
  have hc : eh_M g 12 mL_wait hL_wait [.ref x, .int (xs (6 * t + 1)), .ref o] S n k (hp g S ow x l tp nz c n k o s (sp_wait s (xs (6 * t + 1)))) := h_wait g hR hbd hOK hn4 hk4 ⟨ho.1, ho.2.1, ho.2.2.1⟩
  generalize sp_wait s (xs (6 * t + 1)) = sp at hq ht hv hcd hm hc
  obtain ⟨y0, hy0⟩ := hv
  refine eh_aload_n dL_law_653 1 rfl ?_
  refine eh_aload_n dL_law_654 0 rfl ?_
  refine eh_iload dL_law_655 4 rfl ?_
  refine eh_iconst (v := 1) dL_law_657 (by decide) ?_
  refine eh_iadd dL_law_658 ?_
  refine eh_sld (j := 6 * t + 1) (fun _ _ h => h) hb dL_law_659 (nI_add _ 1) (by omega) (by omega) ?_
  refine eh_aload_n dL_law_660 3 rfl ?_
  refine eh_cSg [.ref x, .int (xs (6 * t + 1)), .ref o] [] dL_law_661 cW_L_100 hc rfl (by decide) (Nat.le_of_ble_eq_true rfl) rfl (fun E S9 n9 k9 h9 => by obtain ⟨h91, -⟩ := h9; cases h91) (fun v S1 n1 k1 h1 => ?_)
  obtain ⟨rfl, hJ, hout⟩ := LJ_hp hM hA ho h1
  show eh_W _ _ _ _ _ 664 [(0, .ref b), (1, .ref x), (2, .ref m), (3, .ref o), (4, .int (nI (6 * t)))] [.int (nI sp.1)] S1 n1 k1
  have hM1 := LJ_RM hJ
  refine eh_istore [(5, .int (nI sp.1)), (0, .ref b), (1, .ref x), (2, .ref m), (3, .ref o), (4, .int (nI (6 * t)))] dL_law_664 (by decide) rfl ?_
  refine eh_aload_n dL_law_666 3 rfl ?_
  refine eh_aload_n dL_law_667 1 rfl ?_
  refine eh_iload dL_law_668 5 rfl ?_
  refine eh_iconst (v := 1) dL_law_670 (by decide) ?_
  refine eh_iadd dL_law_671 ?_
  refine eh_sld (j := 6 * t + 1) (fun _ _ h => h) hb dL_law_672 (nI_add _ 1) (by omega) (by omega) ?_
  refine eh_cVg [.int (xs (6 * t + 1))] [] dL_law_673 cV_L_102 (hm S1 n1 k1 hM1) hM1.1.1.1 hM1.1.1.2 rfl rfl rfl (by decide) (Nat.le_of_ble_eq_true rfl) rfl (fun E S9 n9 k9 h9 => by obtain ⟨h91, -⟩ := h9; cases h91) (fun v S2 n2 k2 h2 => ?_)
  have hv2 : v = some sp.2.1 := Sum.inl.inj h2.1
  subst hv2
  have hI2 := LI_of hJ h2 hq ht hn hk
  have hF2 := MF_out hJ h2.2.2.2.1
  have ht2 := h2.2.1
  have hM2 := h2.2.2.1
  rw [hy0]
  show eh_W _ _ _ _ _ 676 [(5, .int (nI sp.1)), (0, .ref b), (1, .ref x), (2, .ref m), (3, .ref o), (4, .int (nI (6 * t)))] [.int y0] S2 n2 k2
  refine eh_istore [(6, .int y0), (5, .int (nI sp.1)), (0, .ref b), (1, .ref x), (2, .ref m), (3, .ref o), (4, .int (nI (6 * t)))] dL_law_676 (by decide) rfl ?_
  refine eh_aload_n dL_law_678 4 rfl ?_
  refine eh_cVg [] [] dL_law_679 cV_L_71 (m_thrown g hM2.1) hM2.1.1.1 hM2.1.1.2 rfl rfl rfl (by decide) (Nat.le_of_ble_eq_true rfl) rfl (fun E S9 n9 k9 h9 => by obtain ⟨h91, -⟩ := h9; cases h91) (fun v S3 n3 k3 h3 => ?_)
  obtain ⟨h31, h32, h33, h34⟩ := h3
  cases h31
  rw [h32, h33, h34, ht2]
  show eh_W _ _ _ _ _ 682 [(6, .int y0), (5, .int (nI sp.1)), (0, .ref b), (1, .ref x), (2, .ref m), (3, .ref o), (4, .int (nI (6 * t)))] [.int (nI sp.1)] S2 n2 k2
  refine eh_iload dL_law_682 1 rfl ?_
  refine eh_icmp_eq (tgt := 689) dL_law_684 (by decide) (fun _ => ?_) (fun z => absurd rfl z)
  refine eh_iload dL_law_689 1 rfl ?_
  refine eh_if_ne (tgt := 706) dL_law_691 (by decide) (fun z => ?_) (fun z => ?_)
  · refine eh_goto (tgt := 1211) dL_law_706 (by decide) ?_
    refine eh_lv [2, 3, 4, 5, 6] rfl ?_
    exact kk _ _ _ hI2
  · have hz : sp.1 = 0 := by
      rcases Nat.eq_zero_or_pos sp.1 with w | w
      · exact w
      · exact absurd z (nI_ne0 w (by omega))
    refine eh_aload_n dL_law_694 5 rfl ?_
    refine eh_iconst (v := 0) dL_law_695 (by decide) ?_
    refine eh_lald (j := 0) dL_law_696 (LI_o hI2).1 (LI_o hI2).2.1 rfl (by rw [(LI_o hI2).2.2]; decide) (by decide) ?_
    refine eh_iload dL_law_697 0 rfl ?_
    refine eh_i2l dL_law_699 ?_
    refine eh_lcmp dL_law_700 ?_
    refine eh_if_eq (tgt := 706) dL_law_701 (by decide) (fun _ => ?_) (fun w => absurd (lg_eq.mpr ((congrFun hF2 0).trans ((hout hz).trans (by rw [hy0]; rfl)))) w)
    refine eh_goto (tgt := 1211) dL_law_706 (by decide) ?_
    refine eh_lv [2, 3, 4, 5, 6] rfl ?_
    exact kk _ _ _ hI2
set_option maxRecDepth 20000 in
set_option maxHeartbeats 4000000 in
theorem w_feed (g : gl_T) {b L : Nat} {xs : Nat → Int32} {x m o t : Nat} {S : hs_T} {n k : Nat} {Po : ex_R} (hb : b < g.2.2.2.1) (hL : 6 * t + 6 ≤ L) (hL2 : L ≤ 3072) (hI : LI g x m o t S n k) (kk : ∀ S' n' k', LI g x m o (t + 1) S' n' k' → eh_W (XL b L xs) g 13 mL_law Po 1211 [(0, .ref b), (1, .ref x), (2, .ref m), (3, .ref o), (4, .int (nI (6 * t)))] [] S' n' k') : eh_W (XL b L xs) g 13 mL_law Po 709 [(0, .ref b), (1, .ref x), (2, .ref m), (3, .ref o), (4, .int (nI (6 * t)))] [] S n k := by
  obtain ⟨l, tp, nz, ow, s, ys, c, ad, hR, hM, hA, ho, hQ, hT, hn, hk⟩ := hI
  have hcn := cN_le hR
  have hbd := RM_bd hM
  have hll := hbd.2.2.2.1.1
  obtain ⟨_, _, _, _, _, _, hG⟩ := id hR.2.2.2.1
  have hOK := OK_of hG hQ
  have hn4 : n + 40000 ≤ ex_NM := by show n + 40000 ≤ 601024; omega
  have hk4 : k + 200000 ≤ ex_KM := by show k + 200000 ≤ 7293034; omega
  have hq : OQ (sp_feed s (xs (6 * t + 1)) (xs (6 * t + 2)) (xs (6 * t + 3)) (xs (6 * t + 4)) (xs (6 * t + 5))).2.2 := OQ_feed hQ (xs (6 * t + 1)) (xs (6 * t + 2)) (xs (6 * t + 3)) (xs (6 * t + 4)) (xs (6 * t + 5))
  have ht : TB (sp_feed s (xs (6 * t + 1)) (xs (6 * t + 2)) (xs (6 * t + 3)) (xs (6 * t + 4)) (xs (6 * t + 5))).2.2 := TB_feed hT (xs (6 * t + 1)) (xs (6 * t + 2)) (xs (6 * t + 3)) (xs (6 * t + 4)) (xs (6 * t + 5))
  have hv := vi_feed s (xs (6 * t + 1)) (xs (6 * t + 2)) (xs (6 * t + 3)) (xs (6 * t + 4)) (xs (6 * t + 5))
  have hcd := cd_feed s (xs (6 * t + 1)) (xs (6 * t + 2)) (xs (6 * t + 3)) (xs (6 * t + 4)) (xs (6 * t + 5))
  have hm : ∀ S n k, RM S m ad s → ex_M g 0 mX10_feed [.ref m, .int (xs (6 * t + 1)), .int (xs (6 * t + 2)), .int (xs (6 * t + 3)), .int (xs (6 * t + 4)), .int (xs (6 * t + 5))] S n k (mp S m ad n k (sp_feed s (xs (6 * t + 1)) (xs (6 * t + 2)) (xs (6 * t + 3)) (xs (6 * t + 4)) (xs (6 * t + 5)))) := fun S n k h => m_feed g h
  have hc : ex_M g 6 mX9_feed [.ref x, .int (xs (6 * t + 1)), .int (xs (6 * t + 2)), .int (xs (6 * t + 3)), .int (xs (6 * t + 4)), .int (xs (6 * t + 5))] S n k (cp g S ow x l tp nz c n k (exN exS) s (sp_feed s (xs (6 * t + 1)) (xs (6 * t + 2)) (xs (6 * t + 3)) (xs (6 * t + 4)) (xs (6 * t + 5)))) := c_feed g hR hbd hOK hn4 hk4
  generalize sp_feed s (xs (6 * t + 1)) (xs (6 * t + 2)) (xs (6 * t + 3)) (xs (6 * t + 4)) (xs (6 * t + 5)) = sp at hq ht hv hcd hm hc
  obtain ⟨y0, hy0⟩ := hv
  refine eh_aload_n dL_law_709 1 rfl ?_
  refine eh_aload_n dL_law_710 0 rfl ?_
  refine eh_iload dL_law_711 4 rfl ?_
  refine eh_iconst (v := 1) dL_law_713 (by decide) ?_
  refine eh_iadd dL_law_714 ?_
  refine eh_sld (j := 6 * t + 1) (fun _ _ h => h) hb dL_law_715 (nI_add _ 1) (by omega) (by omega) ?_
  refine eh_aload_n dL_law_716 0 rfl ?_
  refine eh_iload dL_law_717 4 rfl ?_
  refine eh_iconst (v := 2) dL_law_719 (by decide) ?_
  refine eh_iadd dL_law_720 ?_
  refine eh_sld (j := 6 * t + 2) (fun _ _ h => h) hb dL_law_721 (nI_add _ 2) (by omega) (by omega) ?_
  refine eh_aload_n dL_law_722 0 rfl ?_
  refine eh_iload dL_law_723 4 rfl ?_
  refine eh_iconst (v := 3) dL_law_725 (by decide) ?_
  refine eh_iadd dL_law_726 ?_
  refine eh_sld (j := 6 * t + 3) (fun _ _ h => h) hb dL_law_727 (nI_add _ 3) (by omega) (by omega) ?_
  refine eh_aload_n dL_law_728 0 rfl ?_
  refine eh_iload dL_law_729 4 rfl ?_
  refine eh_iconst (v := 4) dL_law_731 (by decide) ?_
  refine eh_iadd dL_law_732 ?_
  refine eh_sld (j := 6 * t + 4) (fun _ _ h => h) hb dL_law_733 (nI_add _ 4) (by omega) (by omega) ?_
  refine eh_aload_n dL_law_734 0 rfl ?_
  refine eh_iload dL_law_735 4 rfl ?_
  refine eh_iconst (v := 5) dL_law_737 (by decide) ?_
  refine eh_iadd dL_law_738 ?_
  refine eh_sld (j := 6 * t + 5) (fun _ _ h => h) hb dL_law_739 (nI_add _ 5) (by omega) (by omega) ?_
  refine eh_cVg [.int (xs (6 * t + 1)), .int (xs (6 * t + 2)), .int (xs (6 * t + 3)), .int (xs (6 * t + 4)), .int (xs (6 * t + 5))] [] dL_law_740 cV_L_103 hc hR.1.1.1 hR.1.1.2 rfl rfl rfl (by decide) (Nat.le_of_ble_eq_true rfl) rfl (fun E S9 n9 k9 h9 => absurd hcd (cp_r h9).1) (fun v S1 n1 k1 h1 => ?_)
  obtain ⟨rfl, hJ⟩ := LJ_cp hM hA ho hcd h1
  rw [hy0]
  show eh_W _ _ _ _ _ 743 [(0, .ref b), (1, .ref x), (2, .ref m), (3, .ref o), (4, .int (nI (6 * t)))] [.int y0] S1 n1 k1
  have hM1 := LJ_RM hJ
  refine eh_aload_n dL_law_743 2 rfl ?_
  refine eh_aload_n dL_law_744 0 rfl ?_
  refine eh_iload dL_law_745 4 rfl ?_
  refine eh_iconst (v := 1) dL_law_747 (by decide) ?_
  refine eh_iadd dL_law_748 ?_
  refine eh_sld (j := 6 * t + 1) (fun _ _ h => h) hb dL_law_749 (nI_add _ 1) (by omega) (by omega) ?_
  refine eh_aload_n dL_law_750 0 rfl ?_
  refine eh_iload dL_law_751 4 rfl ?_
  refine eh_iconst (v := 2) dL_law_753 (by decide) ?_
  refine eh_iadd dL_law_754 ?_
  refine eh_sld (j := 6 * t + 2) (fun _ _ h => h) hb dL_law_755 (nI_add _ 2) (by omega) (by omega) ?_
  refine eh_aload_n dL_law_756 0 rfl ?_
  refine eh_iload dL_law_757 4 rfl ?_
  refine eh_iconst (v := 3) dL_law_759 (by decide) ?_
  refine eh_iadd dL_law_760 ?_
  refine eh_sld (j := 6 * t + 3) (fun _ _ h => h) hb dL_law_761 (nI_add _ 3) (by omega) (by omega) ?_
  refine eh_aload_n dL_law_762 0 rfl ?_
  refine eh_iload dL_law_763 4 rfl ?_
  refine eh_iconst (v := 4) dL_law_765 (by decide) ?_
  refine eh_iadd dL_law_766 ?_
  refine eh_sld (j := 6 * t + 4) (fun _ _ h => h) hb dL_law_767 (nI_add _ 4) (by omega) (by omega) ?_
  refine eh_aload_n dL_law_768 0 rfl ?_
  refine eh_iload dL_law_769 4 rfl ?_
  refine eh_iconst (v := 5) dL_law_771 (by decide) ?_
  refine eh_iadd dL_law_772 ?_
  refine eh_sld (j := 6 * t + 5) (fun _ _ h => h) hb dL_law_773 (nI_add _ 5) (by omega) (by omega) ?_
  refine eh_cVg [.int (xs (6 * t + 1)), .int (xs (6 * t + 2)), .int (xs (6 * t + 3)), .int (xs (6 * t + 4)), .int (xs (6 * t + 5))] [.int y0] dL_law_774 cV_L_107 (hm S1 n1 k1 hM1) hM1.1.1.1 hM1.1.1.2 rfl rfl rfl (by decide) (Nat.le_of_ble_eq_true rfl) rfl (fun E S9 n9 k9 h9 => by obtain ⟨h91, -⟩ := h9; cases h91) (fun v S2 n2 k2 h2 => ?_)
  have hv2 : v = some sp.2.1 := Sum.inl.inj h2.1
  subst hv2
  have hI2 := LI_of hJ h2 hq ht hn hk
  have hF2 := MF_out hJ h2.2.2.2.1
  have ht2 := h2.2.1
  have hM2 := h2.2.2.1
  rw [hy0]
  show eh_W _ _ _ _ _ 777 [(0, .ref b), (1, .ref x), (2, .ref m), (3, .ref o), (4, .int (nI (6 * t)))] [.int y0, .int y0] S2 n2 k2
  refine eh_icmp_eq (tgt := 1211) dL_law_777 (by decide) (fun _ => ?_) (fun z => absurd rfl z)
  exact kk _ _ _ hI2
set_option maxRecDepth 20000 in
set_option maxHeartbeats 4000000 in
theorem w_rule (g : gl_T) {b L : Nat} {xs : Nat → Int32} {x m o t : Nat} {S : hs_T} {n k : Nat} {Po : ex_R} (hb : b < g.2.2.2.1) (hL : 6 * t + 6 ≤ L) (hL2 : L ≤ 3072) (hI : LI g x m o t S n k) (kk : ∀ S' n' k', LI g x m o (t + 1) S' n' k' → eh_W (XL b L xs) g 13 mL_law Po 1211 [(0, .ref b), (1, .ref x), (2, .ref m), (3, .ref o), (4, .int (nI (6 * t)))] [] S' n' k') : eh_W (XL b L xs) g 13 mL_law Po 782 [(0, .ref b), (1, .ref x), (2, .ref m), (3, .ref o), (4, .int (nI (6 * t)))] [] S n k := by
  obtain ⟨l, tp, nz, ow, s, ys, c, ad, hR, hM, hA, ho, hQ, hT, hn, hk⟩ := hI
  have hcn := cN_le hR
  have hbd := RM_bd hM
  have hll := hbd.2.2.2.1.1
  obtain ⟨_, _, _, _, _, _, hG⟩ := id hR.2.2.2.1
  have hOK := OK_of hG hQ
  have hn4 : n + 40000 ≤ ex_NM := by show n + 40000 ≤ 601024; omega
  have hk4 : k + 200000 ≤ ex_KM := by show k + 200000 ≤ 7293034; omega
  have hq : OQ (sp_rule s (xs (6 * t + 1)) (xs (6 * t + 2))).2.2 := OQ_rule hQ (xs (6 * t + 1)) (xs (6 * t + 2))
  have ht : TB (sp_rule s (xs (6 * t + 1)) (xs (6 * t + 2))).2.2 := TB_rule hT (xs (6 * t + 1)) (xs (6 * t + 2))
  have hv := vi_rule s (xs (6 * t + 1)) (xs (6 * t + 2))
  have hcd := cd_rule s (xs (6 * t + 1)) (xs (6 * t + 2))
  have hm : ∀ S n k, RM S m ad s → ex_M g 7 mX10_rule [.ref m, .int (xs (6 * t + 1)), .int (xs (6 * t + 2))] S n k (mp S m ad n k (sp_rule s (xs (6 * t + 1)) (xs (6 * t + 2)))) := fun S n k h => m_rule g h
  have hc : eh_M g 12 mL_rule hL_rule [.ref x, .int (xs (6 * t + 1)), .int (xs (6 * t + 2)), .ref o] S n k (hp g S ow x l tp nz c n k o s (sp_rule s (xs (6 * t + 1)) (xs (6 * t + 2)))) := h_rule g hR hbd hOK hn4 hk4 hT ⟨ho.1, ho.2.1, ho.2.2.1⟩
  generalize sp_rule s (xs (6 * t + 1)) (xs (6 * t + 2)) = sp at hq ht hv hcd hm hc
  obtain ⟨y0, hy0⟩ := hv
  refine eh_aload_n dL_law_782 1 rfl ?_
  refine eh_aload_n dL_law_783 0 rfl ?_
  refine eh_iload dL_law_784 4 rfl ?_
  refine eh_iconst (v := 1) dL_law_786 (by decide) ?_
  refine eh_iadd dL_law_787 ?_
  refine eh_sld (j := 6 * t + 1) (fun _ _ h => h) hb dL_law_788 (nI_add _ 1) (by omega) (by omega) ?_
  refine eh_aload_n dL_law_789 0 rfl ?_
  refine eh_iload dL_law_790 4 rfl ?_
  refine eh_iconst (v := 2) dL_law_792 (by decide) ?_
  refine eh_iadd dL_law_793 ?_
  refine eh_sld (j := 6 * t + 2) (fun _ _ h => h) hb dL_law_794 (nI_add _ 2) (by omega) (by omega) ?_
  refine eh_aload_n dL_law_795 3 rfl ?_
  refine eh_cSg [.ref x, .int (xs (6 * t + 1)), .int (xs (6 * t + 2)), .ref o] [] dL_law_796 cW_L_108 hc rfl (by decide) (Nat.le_of_ble_eq_true rfl) rfl (fun E S9 n9 k9 h9 => by obtain ⟨h91, -⟩ := h9; cases h91) (fun v S1 n1 k1 h1 => ?_)
  obtain ⟨rfl, hJ, hout⟩ := LJ_hp hM hA ho h1
  show eh_W _ _ _ _ _ 799 [(0, .ref b), (1, .ref x), (2, .ref m), (3, .ref o), (4, .int (nI (6 * t)))] [.int (nI sp.1)] S1 n1 k1
  have hM1 := LJ_RM hJ
  refine eh_istore [(5, .int (nI sp.1)), (0, .ref b), (1, .ref x), (2, .ref m), (3, .ref o), (4, .int (nI (6 * t)))] dL_law_799 (by decide) rfl ?_
  refine eh_aload_n dL_law_801 3 rfl ?_
  refine eh_aload_n dL_law_802 1 rfl ?_
  refine eh_iload dL_law_803 5 rfl ?_
  refine eh_iconst (v := 1) dL_law_805 (by decide) ?_
  refine eh_iadd dL_law_806 ?_
  refine eh_sld (j := 6 * t + 1) (fun _ _ h => h) hb dL_law_807 (nI_add _ 1) (by omega) (by omega) ?_
  refine eh_aload_n dL_law_808 1 rfl ?_
  refine eh_iload dL_law_809 5 rfl ?_
  refine eh_iconst (v := 2) dL_law_811 (by decide) ?_
  refine eh_iadd dL_law_812 ?_
  refine eh_sld (j := 6 * t + 2) (fun _ _ h => h) hb dL_law_813 (nI_add _ 2) (by omega) (by omega) ?_
  refine eh_cVg [.int (xs (6 * t + 1)), .int (xs (6 * t + 2))] [] dL_law_814 cV_L_110 (hm S1 n1 k1 hM1) hM1.1.1.1 hM1.1.1.2 rfl rfl rfl (by decide) (Nat.le_of_ble_eq_true rfl) rfl (fun E S9 n9 k9 h9 => by obtain ⟨h91, -⟩ := h9; cases h91) (fun v S2 n2 k2 h2 => ?_)
  have hv2 : v = some sp.2.1 := Sum.inl.inj h2.1
  subst hv2
  have hI2 := LI_of hJ h2 hq ht hn hk
  have hF2 := MF_out hJ h2.2.2.2.1
  have ht2 := h2.2.1
  have hM2 := h2.2.2.1
  rw [hy0]
  show eh_W _ _ _ _ _ 817 [(5, .int (nI sp.1)), (0, .ref b), (1, .ref x), (2, .ref m), (3, .ref o), (4, .int (nI (6 * t)))] [.int y0] S2 n2 k2
  refine eh_istore [(6, .int y0), (5, .int (nI sp.1)), (0, .ref b), (1, .ref x), (2, .ref m), (3, .ref o), (4, .int (nI (6 * t)))] dL_law_817 (by decide) rfl ?_
  refine eh_aload_n dL_law_819 4 rfl ?_
  refine eh_cVg [] [] dL_law_820 cV_L_71 (m_thrown g hM2.1) hM2.1.1.1 hM2.1.1.2 rfl rfl rfl (by decide) (Nat.le_of_ble_eq_true rfl) rfl (fun E S9 n9 k9 h9 => by obtain ⟨h91, -⟩ := h9; cases h91) (fun v S3 n3 k3 h3 => ?_)
  obtain ⟨h31, h32, h33, h34⟩ := h3
  cases h31
  rw [h32, h33, h34, ht2]
  show eh_W _ _ _ _ _ 823 [(6, .int y0), (5, .int (nI sp.1)), (0, .ref b), (1, .ref x), (2, .ref m), (3, .ref o), (4, .int (nI (6 * t)))] [.int (nI sp.1)] S2 n2 k2
  refine eh_iload dL_law_823 1 rfl ?_
  refine eh_icmp_eq (tgt := 830) dL_law_825 (by decide) (fun _ => ?_) (fun z => absurd rfl z)
  refine eh_iload dL_law_830 1 rfl ?_
  refine eh_if_ne (tgt := 847) dL_law_832 (by decide) (fun z => ?_) (fun z => ?_)
  · refine eh_goto (tgt := 1211) dL_law_847 (by decide) ?_
    refine eh_lv [2, 3, 4, 5, 6] rfl ?_
    exact kk _ _ _ hI2
  · have hz : sp.1 = 0 := by
      rcases Nat.eq_zero_or_pos sp.1 with w | w
      · exact w
      · exact absurd z (nI_ne0 w (by omega))
    refine eh_aload_n dL_law_835 5 rfl ?_
    refine eh_iconst (v := 0) dL_law_836 (by decide) ?_
    refine eh_lald (j := 0) dL_law_837 (LI_o hI2).1 (LI_o hI2).2.1 rfl (by rw [(LI_o hI2).2.2]; decide) (by decide) ?_
    refine eh_iload dL_law_838 0 rfl ?_
    refine eh_i2l dL_law_840 ?_
    refine eh_lcmp dL_law_841 ?_
    refine eh_if_eq (tgt := 847) dL_law_842 (by decide) (fun _ => ?_) (fun w => absurd (lg_eq.mpr ((congrFun hF2 0).trans ((hout hz).trans (by rw [hy0]; rfl)))) w)
    refine eh_goto (tgt := 1211) dL_law_847 (by decide) ?_
    refine eh_lv [2, 3, 4, 5, 6] rfl ?_
    exact kk _ _ _ hI2
set_option maxRecDepth 20000 in
set_option maxHeartbeats 4000000 in
theorem w_fault (g : gl_T) {b L : Nat} {xs : Nat → Int32} {x m o t : Nat} {S : hs_T} {n k : Nat} {Po : ex_R} (hb : b < g.2.2.2.1) (hL : 6 * t + 6 ≤ L) (hL2 : L ≤ 3072) (hI : LI g x m o t S n k) (kk : ∀ S' n' k', LI g x m o (t + 1) S' n' k' → eh_W (XL b L xs) g 13 mL_law Po 1211 [(0, .ref b), (1, .ref x), (2, .ref m), (3, .ref o), (4, .int (nI (6 * t)))] [] S' n' k') : eh_W (XL b L xs) g 13 mL_law Po 850 [(0, .ref b), (1, .ref x), (2, .ref m), (3, .ref o), (4, .int (nI (6 * t)))] [] S n k := by
  obtain ⟨l, tp, nz, ow, s, ys, c, ad, hR, hM, hA, ho, hQ, hT, hn, hk⟩ := hI
  have hcn := cN_le hR
  have hbd := RM_bd hM
  have hll := hbd.2.2.2.1.1
  obtain ⟨_, _, _, _, _, _, hG⟩ := id hR.2.2.2.1
  have hOK := OK_of hG hQ
  have hn4 : n + 40000 ≤ ex_NM := by show n + 40000 ≤ 601024; omega
  have hk4 : k + 200000 ≤ ex_KM := by show k + 200000 ≤ 7293034; omega
  have hq : OQ (sp_fault s).2.2 := by rw [st_fault]; exact hQ
  have ht : TB (sp_fault s).2.2 := by rw [st_fault]; exact hT
  have hv := vi_fault s
  have hcd := cd_fault s
  have hm : ∀ S n k, RM S m ad s → ex_M g 0 mX10_fault [.ref m] S n k (mp S m ad n k (sp_fault s)) := fun S n k h => m_fault g h
  have hc : ex_M g 6 mX9_fault [.ref x] S n k (cp g S ow x l tp nz c n k (exN exS) s (sp_fault s)) := c_fault g hR hbd hOK hn4 hk4
  generalize sp_fault s = sp at hq ht hv hcd hm hc
  obtain ⟨y0, hy0⟩ := hv
  refine eh_aload_n dL_law_850 1 rfl ?_
  refine eh_cVg [] [] dL_law_851 cV_L_111 hc hR.1.1.1 hR.1.1.2 rfl rfl rfl (by decide) (Nat.le_of_ble_eq_true rfl) rfl (fun E S9 n9 k9 h9 => absurd hcd (cp_r h9).1) (fun v S1 n1 k1 h1 => ?_)
  obtain ⟨rfl, hJ⟩ := LJ_cp hM hA ho hcd h1
  rw [hy0]
  show eh_W _ _ _ _ _ 854 [(0, .ref b), (1, .ref x), (2, .ref m), (3, .ref o), (4, .int (nI (6 * t)))] [.int y0] S1 n1 k1
  have hM1 := LJ_RM hJ
  refine eh_aload_n dL_law_854 2 rfl ?_
  refine eh_cVg [] [.int y0] dL_law_855 cV_L_114 (hm S1 n1 k1 hM1) hM1.1.1.1 hM1.1.1.2 rfl rfl rfl (by decide) (Nat.le_of_ble_eq_true rfl) rfl (fun E S9 n9 k9 h9 => by obtain ⟨h91, -⟩ := h9; cases h91) (fun v S2 n2 k2 h2 => ?_)
  have hv2 : v = some sp.2.1 := Sum.inl.inj h2.1
  subst hv2
  have hI2 := LI_of hJ h2 hq ht hn hk
  have hF2 := MF_out hJ h2.2.2.2.1
  have ht2 := h2.2.1
  have hM2 := h2.2.2.1
  rw [hy0]
  show eh_W _ _ _ _ _ 858 [(0, .ref b), (1, .ref x), (2, .ref m), (3, .ref o), (4, .int (nI (6 * t)))] [.int y0, .int y0] S2 n2 k2
  refine eh_icmp_eq (tgt := 1211) dL_law_858 (by decide) (fun _ => ?_) (fun z => absurd rfl z)
  exact kk _ _ _ hI2
set_option maxRecDepth 20000 in
set_option maxHeartbeats 4000000 in
theorem w_force (g : gl_T) {b L : Nat} {xs : Nat → Int32} {x m o t : Nat} {S : hs_T} {n k : Nat} {Po : ex_R} (hb : b < g.2.2.2.1) (hL : 6 * t + 6 ≤ L) (hL2 : L ≤ 3072) (hI : LI g x m o t S n k) (kk : ∀ S' n' k', LI g x m o (t + 1) S' n' k' → eh_W (XL b L xs) g 13 mL_law Po 1211 [(0, .ref b), (1, .ref x), (2, .ref m), (3, .ref o), (4, .int (nI (6 * t)))] [] S' n' k') : eh_W (XL b L xs) g 13 mL_law Po 863 [(0, .ref b), (1, .ref x), (2, .ref m), (3, .ref o), (4, .int (nI (6 * t)))] [] S n k := by
  obtain ⟨l, tp, nz, ow, s, ys, c, ad, hR, hM, hA, ho, hQ, hT, hn, hk⟩ := hI
  have hcn := cN_le hR
  have hbd := RM_bd hM
  have hll := hbd.2.2.2.1.1
  obtain ⟨_, _, _, _, _, _, hG⟩ := id hR.2.2.2.1
  have hOK := OK_of hG hQ
  have hn4 : n + 40000 ≤ ex_NM := by show n + 40000 ≤ 601024; omega
  have hk4 : k + 200000 ≤ ex_KM := by show k + 200000 ≤ 7293034; omega
  have hq : OQ (sp_force s (xs (6 * t + 1))).2.2 := by rw [st_force]; exact hQ
  have ht : TB (sp_force s (xs (6 * t + 1))).2.2 := by rw [st_force]; exact hT
  have hv := vi_force s (xs (6 * t + 1))
  have hcd := cd_force s (xs (6 * t + 1))
  have hm : ∀ S n k, RM S m ad s → ex_M g 1 mX10_force [.ref m, .int (xs (6 * t + 1))] S n k (mp S m ad n k (sp_force s (xs (6 * t + 1)))) := fun S n k h => m_force g h
  have hc : ex_M g 3 mX9_force [.ref x, .int (xs (6 * t + 1))] S n k (cp g S ow x l tp nz c n k (exN exS) s (sp_force s (xs (6 * t + 1)))) := c_force g hR hbd hOK hn4 hk4
  generalize sp_force s (xs (6 * t + 1)) = sp at hq ht hv hcd hm hc
  obtain ⟨y0, hy0⟩ := hv
  refine eh_aload_n dL_law_863 1 rfl ?_
  refine eh_aload_n dL_law_864 0 rfl ?_
  refine eh_iload dL_law_865 4 rfl ?_
  refine eh_iconst (v := 1) dL_law_867 (by decide) ?_
  refine eh_iadd dL_law_868 ?_
  refine eh_sld (j := 6 * t + 1) (fun _ _ h => h) hb dL_law_869 (nI_add _ 1) (by omega) (by omega) ?_
  refine eh_cVg [.int (xs (6 * t + 1))] [] dL_law_870 cV_L_115 hc hR.1.1.1 hR.1.1.2 rfl rfl rfl (by decide) (Nat.le_of_ble_eq_true rfl) rfl (fun E S9 n9 k9 h9 => absurd hcd (cp_r h9).1) (fun v S1 n1 k1 h1 => ?_)
  obtain ⟨rfl, hJ⟩ := LJ_cp hM hA ho hcd h1
  rw [hy0]
  show eh_W _ _ _ _ _ 873 [(0, .ref b), (1, .ref x), (2, .ref m), (3, .ref o), (4, .int (nI (6 * t)))] [.int y0] S1 n1 k1
  have hM1 := LJ_RM hJ
  refine eh_aload_n dL_law_873 2 rfl ?_
  refine eh_aload_n dL_law_874 0 rfl ?_
  refine eh_iload dL_law_875 4 rfl ?_
  refine eh_iconst (v := 1) dL_law_877 (by decide) ?_
  refine eh_iadd dL_law_878 ?_
  refine eh_sld (j := 6 * t + 1) (fun _ _ h => h) hb dL_law_879 (nI_add _ 1) (by omega) (by omega) ?_
  refine eh_cVg [.int (xs (6 * t + 1))] [.int y0] dL_law_880 cV_L_118 (hm S1 n1 k1 hM1) hM1.1.1.1 hM1.1.1.2 rfl rfl rfl (by decide) (Nat.le_of_ble_eq_true rfl) rfl (fun E S9 n9 k9 h9 => by obtain ⟨h91, -⟩ := h9; cases h91) (fun v S2 n2 k2 h2 => ?_)
  have hv2 : v = some sp.2.1 := Sum.inl.inj h2.1
  subst hv2
  have hI2 := LI_of hJ h2 hq ht hn hk
  have hF2 := MF_out hJ h2.2.2.2.1
  have ht2 := h2.2.1
  have hM2 := h2.2.2.1
  rw [hy0]
  show eh_W _ _ _ _ _ 883 [(0, .ref b), (1, .ref x), (2, .ref m), (3, .ref o), (4, .int (nI (6 * t)))] [.int y0, .int y0] S2 n2 k2
  refine eh_icmp_eq (tgt := 1211) dL_law_883 (by decide) (fun _ => ?_) (fun z => absurd rfl z)
  exact kk _ _ _ hI2
set_option maxRecDepth 20000 in
set_option maxHeartbeats 4000000 in
theorem w_noise (g : gl_T) {b L : Nat} {xs : Nat → Int32} {x m o t : Nat} {S : hs_T} {n k : Nat} {Po : ex_R} (hb : b < g.2.2.2.1) (hL : 6 * t + 6 ≤ L) (hL2 : L ≤ 3072) (hI : LI g x m o t S n k) (kk : ∀ S' n' k', LI g x m o (t + 1) S' n' k' → eh_W (XL b L xs) g 13 mL_law Po 1211 [(0, .ref b), (1, .ref x), (2, .ref m), (3, .ref o), (4, .int (nI (6 * t)))] [] S' n' k') : eh_W (XL b L xs) g 13 mL_law Po 888 [(0, .ref b), (1, .ref x), (2, .ref m), (3, .ref o), (4, .int (nI (6 * t)))] [] S n k := by
  obtain ⟨l, tp, nz, ow, s, ys, c, ad, hR, hM, hA, ho, hQ, hT, hn, hk⟩ := hI
  have hcn := cN_le hR
  have hbd := RM_bd hM
  have hll := hbd.2.2.2.1.1
  obtain ⟨_, _, _, _, _, _, hG⟩ := id hR.2.2.2.1
  have hOK := OK_of hG hQ
  have hn4 : n + 40000 ≤ ex_NM := by show n + 40000 ≤ 601024; omega
  have hk4 : k + 200000 ≤ ex_KM := by show k + 200000 ≤ 7293034; omega
  have hq : OQ (sp_noise s (xs (6 * t + 1))).2.2 := OQ_noise hQ (xs (6 * t + 1))
  have ht : TB (sp_noise s (xs (6 * t + 1))).2.2 := TB_eq hT (tp_noise s (xs (6 * t + 1)))
  have hv := vi_noise s (xs (6 * t + 1))
  have hcd := cd_noise s (xs (6 * t + 1))
  have hm : ∀ S n k, RM S m ad s → ex_M g 0 mX10_noise [.ref m, .int (xs (6 * t + 1))] S n k (mp S m ad n k (sp_noise s (xs (6 * t + 1)))) := fun S n k h => m_noise g h
  have hc : ex_M g 6 mX9_noise [.ref x, .int (xs (6 * t + 1))] S n k (cp g S ow x l tp nz c n k (exN exS) s (sp_noise s (xs (6 * t + 1)))) := c_noise g hR hbd hOK hn4 hk4
  generalize sp_noise s (xs (6 * t + 1)) = sp at hq ht hv hcd hm hc
  obtain ⟨y0, hy0⟩ := hv
  refine eh_aload_n dL_law_888 1 rfl ?_
  refine eh_aload_n dL_law_889 0 rfl ?_
  refine eh_iload dL_law_890 4 rfl ?_
  refine eh_iconst (v := 1) dL_law_892 (by decide) ?_
  refine eh_iadd dL_law_893 ?_
  refine eh_sld (j := 6 * t + 1) (fun _ _ h => h) hb dL_law_894 (nI_add _ 1) (by omega) (by omega) ?_
  refine eh_cVg [.int (xs (6 * t + 1))] [] dL_law_895 cV_L_119 hc hR.1.1.1 hR.1.1.2 rfl rfl rfl (by decide) (Nat.le_of_ble_eq_true rfl) rfl (fun E S9 n9 k9 h9 => absurd hcd (cp_r h9).1) (fun v S1 n1 k1 h1 => ?_)
  obtain ⟨rfl, hJ⟩ := LJ_cp hM hA ho hcd h1
  rw [hy0]
  show eh_W _ _ _ _ _ 898 [(0, .ref b), (1, .ref x), (2, .ref m), (3, .ref o), (4, .int (nI (6 * t)))] [.int y0] S1 n1 k1
  have hM1 := LJ_RM hJ
  refine eh_aload_n dL_law_898 2 rfl ?_
  refine eh_aload_n dL_law_899 0 rfl ?_
  refine eh_iload dL_law_900 4 rfl ?_
  refine eh_iconst (v := 1) dL_law_902 (by decide) ?_
  refine eh_iadd dL_law_903 ?_
  refine eh_sld (j := 6 * t + 1) (fun _ _ h => h) hb dL_law_904 (nI_add _ 1) (by omega) (by omega) ?_
  refine eh_cVg [.int (xs (6 * t + 1))] [.int y0] dL_law_905 cV_L_122 (hm S1 n1 k1 hM1) hM1.1.1.1 hM1.1.1.2 rfl rfl rfl (by decide) (Nat.le_of_ble_eq_true rfl) rfl (fun E S9 n9 k9 h9 => by obtain ⟨h91, -⟩ := h9; cases h91) (fun v S2 n2 k2 h2 => ?_)
  have hv2 : v = some sp.2.1 := Sum.inl.inj h2.1
  subst hv2
  have hI2 := LI_of hJ h2 hq ht hn hk
  have hF2 := MF_out hJ h2.2.2.2.1
  have ht2 := h2.2.1
  have hM2 := h2.2.2.1
  rw [hy0]
  show eh_W _ _ _ _ _ 908 [(0, .ref b), (1, .ref x), (2, .ref m), (3, .ref o), (4, .int (nI (6 * t)))] [.int y0, .int y0] S2 n2 k2
  refine eh_icmp_eq (tgt := 1211) dL_law_908 (by decide) (fun _ => ?_) (fun z => absurd rfl z)
  exact kk _ _ _ hI2
set_option maxRecDepth 20000 in
set_option maxHeartbeats 4000000 in
theorem w_draw (g : gl_T) {b L : Nat} {xs : Nat → Int32} {x m o t : Nat} {S : hs_T} {n k : Nat} {Po : ex_R} (hb : b < g.2.2.2.1) (hL : 6 * t + 6 ≤ L) (hL2 : L ≤ 3072) (hI : LI g x m o t S n k) (kk : ∀ S' n' k', LI g x m o (t + 1) S' n' k' → eh_W (XL b L xs) g 13 mL_law Po 1211 [(0, .ref b), (1, .ref x), (2, .ref m), (3, .ref o), (4, .int (nI (6 * t)))] [] S' n' k') : eh_W (XL b L xs) g 13 mL_law Po 913 [(0, .ref b), (1, .ref x), (2, .ref m), (3, .ref o), (4, .int (nI (6 * t)))] [] S n k := by
  obtain ⟨l, tp, nz, ow, s, ys, c, ad, hR, hM, hA, ho, hQ, hT, hn, hk⟩ := hI
  have hcn := cN_le hR
  have hbd := RM_bd hM
  have hll := hbd.2.2.2.1.1
  obtain ⟨_, _, _, _, _, _, hG⟩ := id hR.2.2.2.1
  have hOK := OK_of hG hQ
  have hn4 : n + 40000 ≤ ex_NM := by show n + 40000 ≤ 601024; omega
  have hk4 : k + 200000 ≤ ex_KM := by show k + 200000 ≤ 7293034; omega
  have hq : OQ (sp_draw s ys).2.2 := OQ_draw hbd hOK hG
  have ht : TB (sp_draw s ys).2.2 := TB_eq hT (tp_draw s ys)
  have hv := vi_draw s ys
  have hcd := cd_draw s ys
  have hm : ∀ S n k, RM S m ad s → ex_M g 1 mX10_draw [.ref m] S n k (mp S m ad n k (sp_draw s ys)) := fun S n k h => m_draw g h hOK hG
  have hc : ex_M g 10 mX9_draw [.ref x] S n k (cp g S ow x l tp nz c n k (exN exS) s (sp_draw s ys)) := c_draw g hR hbd hOK hn4 hk4
  generalize sp_draw s ys = sp at hq ht hv hcd hm hc
  obtain ⟨y0, hy0⟩ := hv
  refine eh_aload_n dL_law_913 1 rfl ?_
  refine eh_cVg [] [] dL_law_914 cV_L_123 hc hR.1.1.1 hR.1.1.2 rfl rfl rfl (by decide) (Nat.le_of_ble_eq_true rfl) rfl (fun E S9 n9 k9 h9 => absurd hcd (cp_r h9).1) (fun v S1 n1 k1 h1 => ?_)
  obtain ⟨rfl, hJ⟩ := LJ_cp hM hA ho hcd h1
  rw [hy0]
  show eh_W _ _ _ _ _ 917 [(0, .ref b), (1, .ref x), (2, .ref m), (3, .ref o), (4, .int (nI (6 * t)))] [.int y0] S1 n1 k1
  have hM1 := LJ_RM hJ
  refine eh_aload_n dL_law_917 2 rfl ?_
  refine eh_cVg [] [.int y0] dL_law_918 cV_L_126 (hm S1 n1 k1 hM1) hM1.1.1.1 hM1.1.1.2 rfl rfl rfl (by decide) (Nat.le_of_ble_eq_true rfl) rfl (fun E S9 n9 k9 h9 => by obtain ⟨h91, -⟩ := h9; cases h91) (fun v S2 n2 k2 h2 => ?_)
  have hv2 : v = some sp.2.1 := Sum.inl.inj h2.1
  subst hv2
  have hI2 := LI_of hJ h2 hq ht hn hk
  have hF2 := MF_out hJ h2.2.2.2.1
  have ht2 := h2.2.1
  have hM2 := h2.2.2.1
  rw [hy0]
  show eh_W _ _ _ _ _ 921 [(0, .ref b), (1, .ref x), (2, .ref m), (3, .ref o), (4, .int (nI (6 * t)))] [.int y0, .int y0] S2 n2 k2
  refine eh_icmp_eq (tgt := 1211) dL_law_921 (by decide) (fun _ => ?_) (fun z => absurd rfl z)
  exact kk _ _ _ hI2
set_option maxRecDepth 20000 in
set_option maxHeartbeats 4000000 in
theorem w_drawn (g : gl_T) {b L : Nat} {xs : Nat → Int32} {x m o t : Nat} {S : hs_T} {n k : Nat} {Po : ex_R} (hb : b < g.2.2.2.1) (hL : 6 * t + 6 ≤ L) (hL2 : L ≤ 3072) (hI : LI g x m o t S n k) (kk : ∀ S' n' k', LI g x m o (t + 1) S' n' k' → eh_W (XL b L xs) g 13 mL_law Po 1211 [(0, .ref b), (1, .ref x), (2, .ref m), (3, .ref o), (4, .int (nI (6 * t)))] [] S' n' k') : eh_W (XL b L xs) g 13 mL_law Po 926 [(0, .ref b), (1, .ref x), (2, .ref m), (3, .ref o), (4, .int (nI (6 * t)))] [] S n k := by
  obtain ⟨l, tp, nz, ow, s, ys, c, ad, hR, hM, hA, ho, hQ, hT, hn, hk⟩ := hI
  have hcn := cN_le hR
  have hbd := RM_bd hM
  have hll := hbd.2.2.2.1.1
  obtain ⟨_, _, _, _, _, _, hG⟩ := id hR.2.2.2.1
  have hOK := OK_of hG hQ
  have hn4 : n + 40000 ≤ ex_NM := by show n + 40000 ≤ 601024; omega
  have hk4 : k + 200000 ≤ ex_KM := by show k + 200000 ≤ 7293034; omega
  have hq : OQ (sp_drawn s (xs (6 * t + 1)) (xs (6 * t + 2))).2.2 := by rw [st_drawn]; exact hQ
  have ht : TB (sp_drawn s (xs (6 * t + 1)) (xs (6 * t + 2))).2.2 := by rw [st_drawn]; exact hT
  have hv := vi_drawn s (xs (6 * t + 1)) (xs (6 * t + 2))
  have hcd := cd_drawn s (xs (6 * t + 1)) (xs (6 * t + 2))
  have hm : ∀ S n k, RM S m ad s → ex_M g 1 mX10_drawn [.ref m, .int (xs (6 * t + 1)), .int (xs (6 * t + 2))] S n k (mp S m ad n k (sp_drawn s (xs (6 * t + 1)) (xs (6 * t + 2)))) := fun S n k h => m_drawn g h
  have hc : eh_M g 12 mL_drawn hL_drawn [.ref x, .int (xs (6 * t + 1)), .int (xs (6 * t + 2)), .ref o] S n k (hp g S ow x l tp nz c n k o s (sp_drawn s (xs (6 * t + 1)) (xs (6 * t + 2)))) := h_drawn g hR hbd hOK hn4 hk4 ⟨ho.1, ho.2.1, ho.2.2.1⟩
  generalize sp_drawn s (xs (6 * t + 1)) (xs (6 * t + 2)) = sp at hq ht hv hcd hm hc
  obtain ⟨y0, hy0⟩ := hv
  refine eh_aload_n dL_law_926 1 rfl ?_
  refine eh_aload_n dL_law_927 0 rfl ?_
  refine eh_iload dL_law_928 4 rfl ?_
  refine eh_iconst (v := 1) dL_law_930 (by decide) ?_
  refine eh_iadd dL_law_931 ?_
  refine eh_sld (j := 6 * t + 1) (fun _ _ h => h) hb dL_law_932 (nI_add _ 1) (by omega) (by omega) ?_
  refine eh_aload_n dL_law_933 0 rfl ?_
  refine eh_iload dL_law_934 4 rfl ?_
  refine eh_iconst (v := 2) dL_law_936 (by decide) ?_
  refine eh_iadd dL_law_937 ?_
  refine eh_sld (j := 6 * t + 2) (fun _ _ h => h) hb dL_law_938 (nI_add _ 2) (by omega) (by omega) ?_
  refine eh_aload_n dL_law_939 3 rfl ?_
  refine eh_cSg [.ref x, .int (xs (6 * t + 1)), .int (xs (6 * t + 2)), .ref o] [] dL_law_940 cW_L_127 hc rfl (by decide) (Nat.le_of_ble_eq_true rfl) rfl (fun E S9 n9 k9 h9 => by obtain ⟨h91, -⟩ := h9; cases h91) (fun v S1 n1 k1 h1 => ?_)
  obtain ⟨rfl, hJ, hout⟩ := LJ_hp hM hA ho h1
  show eh_W _ _ _ _ _ 943 [(0, .ref b), (1, .ref x), (2, .ref m), (3, .ref o), (4, .int (nI (6 * t)))] [.int (nI sp.1)] S1 n1 k1
  have hM1 := LJ_RM hJ
  refine eh_istore [(5, .int (nI sp.1)), (0, .ref b), (1, .ref x), (2, .ref m), (3, .ref o), (4, .int (nI (6 * t)))] dL_law_943 (by decide) rfl ?_
  refine eh_aload_n dL_law_945 3 rfl ?_
  refine eh_aload_n dL_law_946 1 rfl ?_
  refine eh_iload dL_law_947 5 rfl ?_
  refine eh_iconst (v := 1) dL_law_949 (by decide) ?_
  refine eh_iadd dL_law_950 ?_
  refine eh_sld (j := 6 * t + 1) (fun _ _ h => h) hb dL_law_951 (nI_add _ 1) (by omega) (by omega) ?_
  refine eh_aload_n dL_law_952 1 rfl ?_
  refine eh_iload dL_law_953 5 rfl ?_
  refine eh_iconst (v := 2) dL_law_955 (by decide) ?_
  refine eh_iadd dL_law_956 ?_
  refine eh_sld (j := 6 * t + 2) (fun _ _ h => h) hb dL_law_957 (nI_add _ 2) (by omega) (by omega) ?_
  refine eh_cVg [.int (xs (6 * t + 1)), .int (xs (6 * t + 2))] [] dL_law_958 cV_L_129 (hm S1 n1 k1 hM1) hM1.1.1.1 hM1.1.1.2 rfl rfl rfl (by decide) (Nat.le_of_ble_eq_true rfl) rfl (fun E S9 n9 k9 h9 => by obtain ⟨h91, -⟩ := h9; cases h91) (fun v S2 n2 k2 h2 => ?_)
  have hv2 : v = some sp.2.1 := Sum.inl.inj h2.1
  subst hv2
  have hI2 := LI_of hJ h2 hq ht hn hk
  have hF2 := MF_out hJ h2.2.2.2.1
  have ht2 := h2.2.1
  have hM2 := h2.2.2.1
  rw [hy0]
  show eh_W _ _ _ _ _ 961 [(5, .int (nI sp.1)), (0, .ref b), (1, .ref x), (2, .ref m), (3, .ref o), (4, .int (nI (6 * t)))] [.long y0] S2 n2 k2
  refine eh_lstore [(6, .long y0), (5, .int (nI sp.1)), (0, .ref b), (1, .ref x), (2, .ref m), (3, .ref o), (4, .int (nI (6 * t)))] dL_law_961 (by decide) rfl ?_
  refine eh_aload_n dL_law_963 4 rfl ?_
  refine eh_cVg [] [] dL_law_964 cV_L_71 (m_thrown g hM2.1) hM2.1.1.1 hM2.1.1.2 rfl rfl rfl (by decide) (Nat.le_of_ble_eq_true rfl) rfl (fun E S9 n9 k9 h9 => by obtain ⟨h91, -⟩ := h9; cases h91) (fun v S3 n3 k3 h3 => ?_)
  obtain ⟨h31, h32, h33, h34⟩ := h3
  cases h31
  rw [h32, h33, h34, ht2]
  show eh_W _ _ _ _ _ 967 [(6, .long y0), (5, .int (nI sp.1)), (0, .ref b), (1, .ref x), (2, .ref m), (3, .ref o), (4, .int (nI (6 * t)))] [.int (nI sp.1)] S2 n2 k2
  refine eh_iload dL_law_967 1 rfl ?_
  refine eh_icmp_eq (tgt := 974) dL_law_969 (by decide) (fun _ => ?_) (fun z => absurd rfl z)
  refine eh_iload dL_law_974 1 rfl ?_
  refine eh_if_ne (tgt := 990) dL_law_976 (by decide) (fun z => ?_) (fun z => ?_)
  · refine eh_goto (tgt := 1211) dL_law_990 (by decide) ?_
    refine eh_lv [2, 3, 4, 5, 6] rfl ?_
    exact kk _ _ _ hI2
  · have hz : sp.1 = 0 := by
      rcases Nat.eq_zero_or_pos sp.1 with w | w
      · exact w
      · exact absurd z (nI_ne0 w (by omega))
    refine eh_aload_n dL_law_979 5 rfl ?_
    refine eh_iconst (v := 0) dL_law_980 (by decide) ?_
    refine eh_lald (j := 0) dL_law_981 (LI_o hI2).1 (LI_o hI2).2.1 rfl (by rw [(LI_o hI2).2.2]; decide) (by decide) ?_
    refine eh_lload dL_law_982 0 rfl ?_
    refine eh_lcmp dL_law_984 ?_
    refine eh_if_eq (tgt := 990) dL_law_985 (by decide) (fun _ => ?_) (fun w => absurd (lg_eq.mpr ((congrFun hF2 0).trans ((hout hz).trans (by rw [hy0]; rfl)))) w)
    refine eh_goto (tgt := 1211) dL_law_990 (by decide) ?_
    refine eh_lv [2, 3, 4, 5, 6] rfl ?_
    exact kk _ _ _ hI2
set_option maxRecDepth 20000 in
set_option maxHeartbeats 4000000 in
theorem w_win (g : gl_T) {b L : Nat} {xs : Nat → Int32} {x m o t : Nat} {S : hs_T} {n k : Nat} {Po : ex_R} (hb : b < g.2.2.2.1) (hL : 6 * t + 6 ≤ L) (hL2 : L ≤ 3072) (hI : LI g x m o t S n k) (kk : ∀ S' n' k', LI g x m o (t + 1) S' n' k' → eh_W (XL b L xs) g 13 mL_law Po 1211 [(0, .ref b), (1, .ref x), (2, .ref m), (3, .ref o), (4, .int (nI (6 * t)))] [] S' n' k') : eh_W (XL b L xs) g 13 mL_law Po 993 [(0, .ref b), (1, .ref x), (2, .ref m), (3, .ref o), (4, .int (nI (6 * t)))] [] S n k := by
  obtain ⟨l, tp, nz, ow, s, ys, c, ad, hR, hM, hA, ho, hQ, hT, hn, hk⟩ := hI
  have hcn := cN_le hR
  have hbd := RM_bd hM
  have hll := hbd.2.2.2.1.1
  obtain ⟨_, _, _, _, _, _, hG⟩ := id hR.2.2.2.1
  have hOK := OK_of hG hQ
  have hn4 : n + 40000 ≤ ex_NM := by show n + 40000 ≤ 601024; omega
  have hk4 : k + 200000 ≤ ex_KM := by show k + 200000 ≤ 7293034; omega
  have hq : OQ (sp_win s (xs (6 * t + 1)) (xs (6 * t + 2))).2.2 := by rw [st_win]; exact hQ
  have ht : TB (sp_win s (xs (6 * t + 1)) (xs (6 * t + 2))).2.2 := by rw [st_win]; exact hT
  have hv := vi_win s (xs (6 * t + 1)) (xs (6 * t + 2))
  have hcd := cd_win s (xs (6 * t + 1)) (xs (6 * t + 2))
  have hm : ∀ S n k, RM S m ad s → ex_M g 1 mX10_win [.ref m, .int (xs (6 * t + 1)), .int (xs (6 * t + 2))] S n k (mp S m ad n k (sp_win s (xs (6 * t + 1)) (xs (6 * t + 2)))) := fun S n k h => m_win g h
  have hc : eh_M g 12 mL_win hL_win [.ref x, .int (xs (6 * t + 1)), .int (xs (6 * t + 2)), .ref o] S n k (hp g S ow x l tp nz c n k o s (sp_win s (xs (6 * t + 1)) (xs (6 * t + 2)))) := h_win g hR hbd hOK hn4 hk4 ⟨ho.1, ho.2.1, ho.2.2.1⟩
  generalize sp_win s (xs (6 * t + 1)) (xs (6 * t + 2)) = sp at hq ht hv hcd hm hc
  obtain ⟨y0, hy0⟩ := hv
  refine eh_aload_n dL_law_993 1 rfl ?_
  refine eh_aload_n dL_law_994 0 rfl ?_
  refine eh_iload dL_law_995 4 rfl ?_
  refine eh_iconst (v := 1) dL_law_997 (by decide) ?_
  refine eh_iadd dL_law_998 ?_
  refine eh_sld (j := 6 * t + 1) (fun _ _ h => h) hb dL_law_999 (nI_add _ 1) (by omega) (by omega) ?_
  refine eh_aload_n dL_law_1000 0 rfl ?_
  refine eh_iload dL_law_1001 4 rfl ?_
  refine eh_iconst (v := 2) dL_law_1003 (by decide) ?_
  refine eh_iadd dL_law_1004 ?_
  refine eh_sld (j := 6 * t + 2) (fun _ _ h => h) hb dL_law_1005 (nI_add _ 2) (by omega) (by omega) ?_
  refine eh_aload_n dL_law_1006 3 rfl ?_
  refine eh_cSg [.ref x, .int (xs (6 * t + 1)), .int (xs (6 * t + 2)), .ref o] [] dL_law_1007 cW_L_130 hc rfl (by decide) (Nat.le_of_ble_eq_true rfl) rfl (fun E S9 n9 k9 h9 => by obtain ⟨h91, -⟩ := h9; cases h91) (fun v S1 n1 k1 h1 => ?_)
  obtain ⟨rfl, hJ, hout⟩ := LJ_hp hM hA ho h1
  show eh_W _ _ _ _ _ 1010 [(0, .ref b), (1, .ref x), (2, .ref m), (3, .ref o), (4, .int (nI (6 * t)))] [.int (nI sp.1)] S1 n1 k1
  have hM1 := LJ_RM hJ
  refine eh_istore [(5, .int (nI sp.1)), (0, .ref b), (1, .ref x), (2, .ref m), (3, .ref o), (4, .int (nI (6 * t)))] dL_law_1010 (by decide) rfl ?_
  refine eh_aload_n dL_law_1012 3 rfl ?_
  refine eh_aload_n dL_law_1013 1 rfl ?_
  refine eh_iload dL_law_1014 5 rfl ?_
  refine eh_iconst (v := 1) dL_law_1016 (by decide) ?_
  refine eh_iadd dL_law_1017 ?_
  refine eh_sld (j := 6 * t + 1) (fun _ _ h => h) hb dL_law_1018 (nI_add _ 1) (by omega) (by omega) ?_
  refine eh_aload_n dL_law_1019 1 rfl ?_
  refine eh_iload dL_law_1020 5 rfl ?_
  refine eh_iconst (v := 2) dL_law_1022 (by decide) ?_
  refine eh_iadd dL_law_1023 ?_
  refine eh_sld (j := 6 * t + 2) (fun _ _ h => h) hb dL_law_1024 (nI_add _ 2) (by omega) (by omega) ?_
  refine eh_cVg [.int (xs (6 * t + 1)), .int (xs (6 * t + 2))] [] dL_law_1025 cV_L_132 (hm S1 n1 k1 hM1) hM1.1.1.1 hM1.1.1.2 rfl rfl rfl (by decide) (Nat.le_of_ble_eq_true rfl) rfl (fun E S9 n9 k9 h9 => by obtain ⟨h91, -⟩ := h9; cases h91) (fun v S2 n2 k2 h2 => ?_)
  have hv2 : v = some sp.2.1 := Sum.inl.inj h2.1
  subst hv2
  have hI2 := LI_of hJ h2 hq ht hn hk
  have hF2 := MF_out hJ h2.2.2.2.1
  have ht2 := h2.2.1
  have hM2 := h2.2.2.1
  rw [hy0]
  show eh_W _ _ _ _ _ 1028 [(5, .int (nI sp.1)), (0, .ref b), (1, .ref x), (2, .ref m), (3, .ref o), (4, .int (nI (6 * t)))] [.int y0] S2 n2 k2
  refine eh_istore [(6, .int y0), (5, .int (nI sp.1)), (0, .ref b), (1, .ref x), (2, .ref m), (3, .ref o), (4, .int (nI (6 * t)))] dL_law_1028 (by decide) rfl ?_
  refine eh_aload_n dL_law_1030 4 rfl ?_
  refine eh_cVg [] [] dL_law_1031 cV_L_71 (m_thrown g hM2.1) hM2.1.1.1 hM2.1.1.2 rfl rfl rfl (by decide) (Nat.le_of_ble_eq_true rfl) rfl (fun E S9 n9 k9 h9 => by obtain ⟨h91, -⟩ := h9; cases h91) (fun v S3 n3 k3 h3 => ?_)
  obtain ⟨h31, h32, h33, h34⟩ := h3
  cases h31
  rw [h32, h33, h34, ht2]
  show eh_W _ _ _ _ _ 1034 [(6, .int y0), (5, .int (nI sp.1)), (0, .ref b), (1, .ref x), (2, .ref m), (3, .ref o), (4, .int (nI (6 * t)))] [.int (nI sp.1)] S2 n2 k2
  refine eh_iload dL_law_1034 1 rfl ?_
  refine eh_icmp_eq (tgt := 1041) dL_law_1036 (by decide) (fun _ => ?_) (fun z => absurd rfl z)
  refine eh_iload dL_law_1041 1 rfl ?_
  refine eh_if_ne (tgt := 1058) dL_law_1043 (by decide) (fun z => ?_) (fun z => ?_)
  · refine eh_goto (tgt := 1211) dL_law_1058 (by decide) ?_
    refine eh_lv [2, 3, 4, 5, 6] rfl ?_
    exact kk _ _ _ hI2
  · have hz : sp.1 = 0 := by
      rcases Nat.eq_zero_or_pos sp.1 with w | w
      · exact w
      · exact absurd z (nI_ne0 w (by omega))
    refine eh_aload_n dL_law_1046 5 rfl ?_
    refine eh_iconst (v := 0) dL_law_1047 (by decide) ?_
    refine eh_lald (j := 0) dL_law_1048 (LI_o hI2).1 (LI_o hI2).2.1 rfl (by rw [(LI_o hI2).2.2]; decide) (by decide) ?_
    refine eh_iload dL_law_1049 0 rfl ?_
    refine eh_i2l dL_law_1051 ?_
    refine eh_lcmp dL_law_1052 ?_
    refine eh_if_eq (tgt := 1058) dL_law_1053 (by decide) (fun _ => ?_) (fun w => absurd (lg_eq.mpr ((congrFun hF2 0).trans ((hout hz).trans (by rw [hy0]; rfl)))) w)
    refine eh_goto (tgt := 1211) dL_law_1058 (by decide) ?_
    refine eh_lv [2, 3, 4, 5, 6] rfl ?_
    exact kk _ _ _ hI2
set_option maxRecDepth 20000 in
set_option maxHeartbeats 4000000 in
theorem w_claim (g : gl_T) {b L : Nat} {xs : Nat → Int32} {x m o t : Nat} {S : hs_T} {n k : Nat} {Po : ex_R} (hb : b < g.2.2.2.1) (hL : 6 * t + 6 ≤ L) (hL2 : L ≤ 3072) (hI : LI g x m o t S n k) (kk : ∀ S' n' k', LI g x m o (t + 1) S' n' k' → eh_W (XL b L xs) g 13 mL_law Po 1211 [(0, .ref b), (1, .ref x), (2, .ref m), (3, .ref o), (4, .int (nI (6 * t)))] [] S' n' k') : eh_W (XL b L xs) g 13 mL_law Po 1061 [(0, .ref b), (1, .ref x), (2, .ref m), (3, .ref o), (4, .int (nI (6 * t)))] [] S n k := by
  obtain ⟨l, tp, nz, ow, s, ys, c, ad, hR, hM, hA, ho, hQ, hT, hn, hk⟩ := hI
  have hcn := cN_le hR
  have hbd := RM_bd hM
  have hll := hbd.2.2.2.1.1
  obtain ⟨_, _, _, _, _, _, hG⟩ := id hR.2.2.2.1
  have hOK := OK_of hG hQ
  have hn4 : n + 40000 ≤ ex_NM := by show n + 40000 ≤ 601024; omega
  have hk4 : k + 200000 ≤ ex_KM := by show k + 200000 ≤ 7293034; omega
  have hq : OQ (sp_claim s (xs (6 * t + 1))).2.2 := OQ_claim hQ hbd.2.2.2.2.2.2.2.2.1 (xs (6 * t + 1))
  have ht : TB (sp_claim s (xs (6 * t + 1))).2.2 := TB_eq hT (tp_claim s (xs (6 * t + 1)))
  have hv := vi_claim s (xs (6 * t + 1))
  have hcd := cd_claim s (xs (6 * t + 1))
  have hm : ∀ S n k, RM S m ad s → ex_M g 1 mX10_claim [.ref m, .int (xs (6 * t + 1))] S n k (mp S m ad n k (sp_claim s (xs (6 * t + 1)))) := fun S n k h => m_claim g h hQ.2.2.1
  have hc : eh_M g 12 mL_claim hL_claim [.ref x, .int (xs (6 * t + 1)), .ref o] S n k (hp g S ow x l tp nz c n k o s (sp_claim s (xs (6 * t + 1)))) := h_claim g hR hbd hOK hn4 hk4 ⟨ho.1, ho.2.1, ho.2.2.1⟩
  generalize sp_claim s (xs (6 * t + 1)) = sp at hq ht hv hcd hm hc
  obtain ⟨y0, hy0⟩ := hv
  refine eh_aload_n dL_law_1061 1 rfl ?_
  refine eh_aload_n dL_law_1062 0 rfl ?_
  refine eh_iload dL_law_1063 4 rfl ?_
  refine eh_iconst (v := 1) dL_law_1065 (by decide) ?_
  refine eh_iadd dL_law_1066 ?_
  refine eh_sld (j := 6 * t + 1) (fun _ _ h => h) hb dL_law_1067 (nI_add _ 1) (by omega) (by omega) ?_
  refine eh_aload_n dL_law_1068 3 rfl ?_
  refine eh_cSg [.ref x, .int (xs (6 * t + 1)), .ref o] [] dL_law_1069 cW_L_133 hc rfl (by decide) (Nat.le_of_ble_eq_true rfl) rfl (fun E S9 n9 k9 h9 => by obtain ⟨h91, -⟩ := h9; cases h91) (fun v S1 n1 k1 h1 => ?_)
  obtain ⟨rfl, hJ, hout⟩ := LJ_hp hM hA ho h1
  show eh_W _ _ _ _ _ 1072 [(0, .ref b), (1, .ref x), (2, .ref m), (3, .ref o), (4, .int (nI (6 * t)))] [.int (nI sp.1)] S1 n1 k1
  have hM1 := LJ_RM hJ
  refine eh_istore [(5, .int (nI sp.1)), (0, .ref b), (1, .ref x), (2, .ref m), (3, .ref o), (4, .int (nI (6 * t)))] dL_law_1072 (by decide) rfl ?_
  refine eh_aload_n dL_law_1074 3 rfl ?_
  refine eh_aload_n dL_law_1075 1 rfl ?_
  refine eh_iload dL_law_1076 5 rfl ?_
  refine eh_iconst (v := 1) dL_law_1078 (by decide) ?_
  refine eh_iadd dL_law_1079 ?_
  refine eh_sld (j := 6 * t + 1) (fun _ _ h => h) hb dL_law_1080 (nI_add _ 1) (by omega) (by omega) ?_
  refine eh_cVg [.int (xs (6 * t + 1))] [] dL_law_1081 cV_L_135 (hm S1 n1 k1 hM1) hM1.1.1.1 hM1.1.1.2 rfl rfl rfl (by decide) (Nat.le_of_ble_eq_true rfl) rfl (fun E S9 n9 k9 h9 => by obtain ⟨h91, -⟩ := h9; cases h91) (fun v S2 n2 k2 h2 => ?_)
  have hv2 : v = some sp.2.1 := Sum.inl.inj h2.1
  subst hv2
  have hI2 := LI_of hJ h2 hq ht hn hk
  have hF2 := MF_out hJ h2.2.2.2.1
  have ht2 := h2.2.1
  have hM2 := h2.2.2.1
  rw [hy0]
  show eh_W _ _ _ _ _ 1084 [(5, .int (nI sp.1)), (0, .ref b), (1, .ref x), (2, .ref m), (3, .ref o), (4, .int (nI (6 * t)))] [.int y0] S2 n2 k2
  refine eh_istore [(6, .int y0), (5, .int (nI sp.1)), (0, .ref b), (1, .ref x), (2, .ref m), (3, .ref o), (4, .int (nI (6 * t)))] dL_law_1084 (by decide) rfl ?_
  refine eh_aload_n dL_law_1086 4 rfl ?_
  refine eh_cVg [] [] dL_law_1087 cV_L_71 (m_thrown g hM2.1) hM2.1.1.1 hM2.1.1.2 rfl rfl rfl (by decide) (Nat.le_of_ble_eq_true rfl) rfl (fun E S9 n9 k9 h9 => by obtain ⟨h91, -⟩ := h9; cases h91) (fun v S3 n3 k3 h3 => ?_)
  obtain ⟨h31, h32, h33, h34⟩ := h3
  cases h31
  rw [h32, h33, h34, ht2]
  show eh_W _ _ _ _ _ 1090 [(6, .int y0), (5, .int (nI sp.1)), (0, .ref b), (1, .ref x), (2, .ref m), (3, .ref o), (4, .int (nI (6 * t)))] [.int (nI sp.1)] S2 n2 k2
  refine eh_iload dL_law_1090 1 rfl ?_
  refine eh_icmp_eq (tgt := 1097) dL_law_1092 (by decide) (fun _ => ?_) (fun z => absurd rfl z)
  refine eh_iload dL_law_1097 1 rfl ?_
  refine eh_if_ne (tgt := 1114) dL_law_1099 (by decide) (fun z => ?_) (fun z => ?_)
  · refine eh_goto (tgt := 1211) dL_law_1114 (by decide) ?_
    refine eh_lv [2, 3, 4, 5, 6] rfl ?_
    exact kk _ _ _ hI2
  · have hz : sp.1 = 0 := by
      rcases Nat.eq_zero_or_pos sp.1 with w | w
      · exact w
      · exact absurd z (nI_ne0 w (by omega))
    refine eh_aload_n dL_law_1102 5 rfl ?_
    refine eh_iconst (v := 0) dL_law_1103 (by decide) ?_
    refine eh_lald (j := 0) dL_law_1104 (LI_o hI2).1 (LI_o hI2).2.1 rfl (by rw [(LI_o hI2).2.2]; decide) (by decide) ?_
    refine eh_iload dL_law_1105 0 rfl ?_
    refine eh_i2l dL_law_1107 ?_
    refine eh_lcmp dL_law_1108 ?_
    refine eh_if_eq (tgt := 1114) dL_law_1109 (by decide) (fun _ => ?_) (fun w => absurd (lg_eq.mpr ((congrFun hF2 0).trans ((hout hz).trans (by rw [hy0]; rfl)))) w)
    refine eh_goto (tgt := 1211) dL_law_1114 (by decide) ?_
    refine eh_lv [2, 3, 4, 5, 6] rfl ?_
    exact kk _ _ _ hI2
set_option maxRecDepth 20000 in
set_option maxHeartbeats 4000000 in
theorem w_paid (g : gl_T) {b L : Nat} {xs : Nat → Int32} {x m o t : Nat} {S : hs_T} {n k : Nat} {Po : ex_R} (hb : b < g.2.2.2.1) (hL : 6 * t + 6 ≤ L) (hL2 : L ≤ 3072) (hI : LI g x m o t S n k) (kk : ∀ S' n' k', LI g x m o (t + 1) S' n' k' → eh_W (XL b L xs) g 13 mL_law Po 1211 [(0, .ref b), (1, .ref x), (2, .ref m), (3, .ref o), (4, .int (nI (6 * t)))] [] S' n' k') : eh_W (XL b L xs) g 13 mL_law Po 1117 [(0, .ref b), (1, .ref x), (2, .ref m), (3, .ref o), (4, .int (nI (6 * t)))] [] S n k := by
  obtain ⟨l, tp, nz, ow, s, ys, c, ad, hR, hM, hA, ho, hQ, hT, hn, hk⟩ := hI
  have hcn := cN_le hR
  have hbd := RM_bd hM
  have hll := hbd.2.2.2.1.1
  obtain ⟨_, _, _, _, _, _, hG⟩ := id hR.2.2.2.1
  have hOK := OK_of hG hQ
  have hn4 : n + 40000 ≤ ex_NM := by show n + 40000 ≤ 601024; omega
  have hk4 : k + 200000 ≤ ex_KM := by show k + 200000 ≤ 7293034; omega
  have hq : OQ (sp_paid s (xs (6 * t + 1))).2.2 := by rw [st_paid]; exact hQ
  have ht : TB (sp_paid s (xs (6 * t + 1))).2.2 := by rw [st_paid]; exact hT
  have hv := vi_paid s (xs (6 * t + 1))
  have hcd := cd_paid s (xs (6 * t + 1))
  have hm : ∀ S n k, RM S m ad s → ex_M g 1 mX10_paid [.ref m, .int (xs (6 * t + 1))] S n k (mp S m ad n k (sp_paid s (xs (6 * t + 1)))) := fun S n k h => m_paid g h
  have hc : eh_M g 12 mL_paid hL_paid [.ref x, .int (xs (6 * t + 1)), .ref o] S n k (hp g S ow x l tp nz c n k o s (sp_paid s (xs (6 * t + 1)))) := h_paid g hR hbd hOK hn4 hk4 ⟨ho.1, ho.2.1, ho.2.2.1⟩
  generalize sp_paid s (xs (6 * t + 1)) = sp at hq ht hv hcd hm hc
  obtain ⟨y0, hy0⟩ := hv
  refine eh_aload_n dL_law_1117 1 rfl ?_
  refine eh_aload_n dL_law_1118 0 rfl ?_
  refine eh_iload dL_law_1119 4 rfl ?_
  refine eh_iconst (v := 1) dL_law_1121 (by decide) ?_
  refine eh_iadd dL_law_1122 ?_
  refine eh_sld (j := 6 * t + 1) (fun _ _ h => h) hb dL_law_1123 (nI_add _ 1) (by omega) (by omega) ?_
  refine eh_aload_n dL_law_1124 3 rfl ?_
  refine eh_cSg [.ref x, .int (xs (6 * t + 1)), .ref o] [] dL_law_1125 cW_L_136 hc rfl (by decide) (Nat.le_of_ble_eq_true rfl) rfl (fun E S9 n9 k9 h9 => by obtain ⟨h91, -⟩ := h9; cases h91) (fun v S1 n1 k1 h1 => ?_)
  obtain ⟨rfl, hJ, hout⟩ := LJ_hp hM hA ho h1
  show eh_W _ _ _ _ _ 1128 [(0, .ref b), (1, .ref x), (2, .ref m), (3, .ref o), (4, .int (nI (6 * t)))] [.int (nI sp.1)] S1 n1 k1
  have hM1 := LJ_RM hJ
  refine eh_istore [(5, .int (nI sp.1)), (0, .ref b), (1, .ref x), (2, .ref m), (3, .ref o), (4, .int (nI (6 * t)))] dL_law_1128 (by decide) rfl ?_
  refine eh_aload_n dL_law_1130 3 rfl ?_
  refine eh_aload_n dL_law_1131 1 rfl ?_
  refine eh_iload dL_law_1132 5 rfl ?_
  refine eh_iconst (v := 1) dL_law_1134 (by decide) ?_
  refine eh_iadd dL_law_1135 ?_
  refine eh_sld (j := 6 * t + 1) (fun _ _ h => h) hb dL_law_1136 (nI_add _ 1) (by omega) (by omega) ?_
  refine eh_cVg [.int (xs (6 * t + 1))] [] dL_law_1137 cV_L_138 (hm S1 n1 k1 hM1) hM1.1.1.1 hM1.1.1.2 rfl rfl rfl (by decide) (Nat.le_of_ble_eq_true rfl) rfl (fun E S9 n9 k9 h9 => by obtain ⟨h91, -⟩ := h9; cases h91) (fun v S2 n2 k2 h2 => ?_)
  have hv2 : v = some sp.2.1 := Sum.inl.inj h2.1
  subst hv2
  have hI2 := LI_of hJ h2 hq ht hn hk
  have hF2 := MF_out hJ h2.2.2.2.1
  have ht2 := h2.2.1
  have hM2 := h2.2.2.1
  rw [hy0]
  show eh_W _ _ _ _ _ 1140 [(5, .int (nI sp.1)), (0, .ref b), (1, .ref x), (2, .ref m), (3, .ref o), (4, .int (nI (6 * t)))] [.long y0] S2 n2 k2
  refine eh_lstore [(6, .long y0), (5, .int (nI sp.1)), (0, .ref b), (1, .ref x), (2, .ref m), (3, .ref o), (4, .int (nI (6 * t)))] dL_law_1140 (by decide) rfl ?_
  refine eh_aload_n dL_law_1142 4 rfl ?_
  refine eh_cVg [] [] dL_law_1143 cV_L_71 (m_thrown g hM2.1) hM2.1.1.1 hM2.1.1.2 rfl rfl rfl (by decide) (Nat.le_of_ble_eq_true rfl) rfl (fun E S9 n9 k9 h9 => by obtain ⟨h91, -⟩ := h9; cases h91) (fun v S3 n3 k3 h3 => ?_)
  obtain ⟨h31, h32, h33, h34⟩ := h3
  cases h31
  rw [h32, h33, h34, ht2]
  show eh_W _ _ _ _ _ 1146 [(6, .long y0), (5, .int (nI sp.1)), (0, .ref b), (1, .ref x), (2, .ref m), (3, .ref o), (4, .int (nI (6 * t)))] [.int (nI sp.1)] S2 n2 k2
  refine eh_iload dL_law_1146 1 rfl ?_
  refine eh_icmp_eq (tgt := 1153) dL_law_1148 (by decide) (fun _ => ?_) (fun z => absurd rfl z)
  refine eh_iload dL_law_1153 1 rfl ?_
  refine eh_if_ne (tgt := 1169) dL_law_1155 (by decide) (fun z => ?_) (fun z => ?_)
  · refine eh_goto (tgt := 1211) dL_law_1169 (by decide) ?_
    refine eh_lv [2, 3, 4, 5, 6] rfl ?_
    exact kk _ _ _ hI2
  · have hz : sp.1 = 0 := by
      rcases Nat.eq_zero_or_pos sp.1 with w | w
      · exact w
      · exact absurd z (nI_ne0 w (by omega))
    refine eh_aload_n dL_law_1158 5 rfl ?_
    refine eh_iconst (v := 0) dL_law_1159 (by decide) ?_
    refine eh_lald (j := 0) dL_law_1160 (LI_o hI2).1 (LI_o hI2).2.1 rfl (by rw [(LI_o hI2).2.2]; decide) (by decide) ?_
    refine eh_lload dL_law_1161 0 rfl ?_
    refine eh_lcmp dL_law_1163 ?_
    refine eh_if_eq (tgt := 1169) dL_law_1164 (by decide) (fun _ => ?_) (fun w => absurd (lg_eq.mpr ((congrFun hF2 0).trans ((hout hz).trans (by rw [hy0]; rfl)))) w)
    refine eh_goto (tgt := 1211) dL_law_1169 (by decide) ?_
    refine eh_lv [2, 3, 4, 5, 6] rfl ?_
    exact kk _ _ _ hI2
set_option maxRecDepth 20000 in
set_option maxHeartbeats 4000000 in
theorem w_carried (g : gl_T) {b L : Nat} {xs : Nat → Int32} {x m o t : Nat} {S : hs_T} {n k : Nat} {Po : ex_R} (hb : b < g.2.2.2.1) (hL : 6 * t + 6 ≤ L) (hL2 : L ≤ 3072) (hI : LI g x m o t S n k) (kk : ∀ S' n' k', LI g x m o (t + 1) S' n' k' → eh_W (XL b L xs) g 13 mL_law Po 1211 [(0, .ref b), (1, .ref x), (2, .ref m), (3, .ref o), (4, .int (nI (6 * t)))] [] S' n' k') : eh_W (XL b L xs) g 13 mL_law Po 1172 [(0, .ref b), (1, .ref x), (2, .ref m), (3, .ref o), (4, .int (nI (6 * t)))] [] S n k := by
  obtain ⟨l, tp, nz, ow, s, ys, c, ad, hR, hM, hA, ho, hQ, hT, hn, hk⟩ := hI
  have hcn := cN_le hR
  have hbd := RM_bd hM
  have hll := hbd.2.2.2.1.1
  obtain ⟨_, _, _, _, _, _, hG⟩ := id hR.2.2.2.1
  have hOK := OK_of hG hQ
  have hn4 : n + 40000 ≤ ex_NM := by show n + 40000 ≤ 601024; omega
  have hk4 : k + 200000 ≤ ex_KM := by show k + 200000 ≤ 7293034; omega
  have hq : OQ (sp_carried s).2.2 := by rw [st_carried]; exact hQ
  have ht : TB (sp_carried s).2.2 := by rw [st_carried]; exact hT
  have hv := vi_carried s
  have hcd := cd_carried s
  have hm : ∀ S n k, RM S m ad s → ex_M g 0 mX10_carried [.ref m] S n k (mp S m ad n k (sp_carried s)) := fun S n k h => m_carried g h
  have hc : ex_M g 6 mX9_carried [.ref x] S n k (cp g S ow x l tp nz c n k (exN exS) s (sp_carried s)) := c_carried g hR hbd hOK hn4 hk4
  generalize sp_carried s = sp at hq ht hv hcd hm hc
  obtain ⟨y0, hy0⟩ := hv
  refine eh_aload_n dL_law_1172 1 rfl ?_
  refine eh_cVg [] [] dL_law_1173 cV_L_139 hc hR.1.1.1 hR.1.1.2 rfl rfl rfl (by decide) (Nat.le_of_ble_eq_true rfl) rfl (fun E S9 n9 k9 h9 => absurd hcd (cp_r h9).1) (fun v S1 n1 k1 h1 => ?_)
  obtain ⟨rfl, hJ⟩ := LJ_cp hM hA ho hcd h1
  rw [hy0]
  show eh_W _ _ _ _ _ 1176 [(0, .ref b), (1, .ref x), (2, .ref m), (3, .ref o), (4, .int (nI (6 * t)))] [.long y0] S1 n1 k1
  have hM1 := LJ_RM hJ
  refine eh_aload_n dL_law_1176 2 rfl ?_
  refine eh_cVg [] [.long y0] dL_law_1177 cV_L_143 (hm S1 n1 k1 hM1) hM1.1.1.1 hM1.1.1.2 rfl rfl rfl (by decide) (Nat.le_of_ble_eq_true rfl) rfl (fun E S9 n9 k9 h9 => by obtain ⟨h91, -⟩ := h9; cases h91) (fun v S2 n2 k2 h2 => ?_)
  have hv2 : v = some sp.2.1 := Sum.inl.inj h2.1
  subst hv2
  have hI2 := LI_of hJ h2 hq ht hn hk
  have hF2 := MF_out hJ h2.2.2.2.1
  have ht2 := h2.2.1
  have hM2 := h2.2.2.1
  rw [hy0]
  show eh_W _ _ _ _ _ 1180 [(0, .ref b), (1, .ref x), (2, .ref m), (3, .ref o), (4, .int (nI (6 * t)))] [.long y0, .long y0] S2 n2 k2
  refine eh_lcmp dL_law_1180 ?_
  refine eh_if_eq (tgt := 1211) dL_law_1181 (by decide) (fun _ => ?_) (fun w => absurd (lg_eq.mpr rfl) w)
  exact kk _ _ _ hI2
set_option maxRecDepth 20000 in
set_option maxHeartbeats 4000000 in
theorem w_count (g : gl_T) {b L : Nat} {xs : Nat → Int32} {x m o t : Nat} {S : hs_T} {n k : Nat} {Po : ex_R} (hb : b < g.2.2.2.1) (hL : 6 * t + 6 ≤ L) (hL2 : L ≤ 3072) (hI : LI g x m o t S n k) (kk : ∀ S' n' k', LI g x m o (t + 1) S' n' k' → eh_W (XL b L xs) g 13 mL_law Po 1211 [(0, .ref b), (1, .ref x), (2, .ref m), (3, .ref o), (4, .int (nI (6 * t)))] [] S' n' k') : eh_W (XL b L xs) g 13 mL_law Po 1186 [(0, .ref b), (1, .ref x), (2, .ref m), (3, .ref o), (4, .int (nI (6 * t)))] [] S n k := by
  obtain ⟨l, tp, nz, ow, s, ys, c, ad, hR, hM, hA, ho, hQ, hT, hn, hk⟩ := hI
  have hcn := cN_le hR
  have hbd := RM_bd hM
  have hll := hbd.2.2.2.1.1
  obtain ⟨_, _, _, _, _, _, hG⟩ := id hR.2.2.2.1
  have hOK := OK_of hG hQ
  have hn4 : n + 40000 ≤ ex_NM := by show n + 40000 ≤ 601024; omega
  have hk4 : k + 200000 ≤ ex_KM := by show k + 200000 ≤ 7293034; omega
  have hq : OQ (sp_count s (xs (6 * t + 1))).2.2 := by rw [st_count]; exact hQ
  have ht : TB (sp_count s (xs (6 * t + 1))).2.2 := by rw [st_count]; exact hT
  have hv := vi_count s (xs (6 * t + 1))
  have hcd := cd_count s (xs (6 * t + 1))
  have hm : ∀ S n k, RM S m ad s → ex_M g 1 mX10_count [.ref m, .int (xs (6 * t + 1))] S n k (mp S m ad n k (sp_count s (xs (6 * t + 1)))) := fun S n k h => m_count g h hQ.2.2.1
  have hc : ex_M g 6 mX9_count [.ref x, .int (xs (6 * t + 1))] S n k (cp g S ow x l tp nz c n k (exN exS) s (sp_count s (xs (6 * t + 1)))) := c_count g hR hbd hOK hn4 hk4
  generalize sp_count s (xs (6 * t + 1)) = sp at hq ht hv hcd hm hc
  obtain ⟨y0, hy0⟩ := hv
  refine eh_aload_n dL_law_1186 1 rfl ?_
  refine eh_aload_n dL_law_1187 0 rfl ?_
  refine eh_iload dL_law_1188 4 rfl ?_
  refine eh_iconst (v := 1) dL_law_1190 (by decide) ?_
  refine eh_iadd dL_law_1191 ?_
  refine eh_sld (j := 6 * t + 1) (fun _ _ h => h) hb dL_law_1192 (nI_add _ 1) (by omega) (by omega) ?_
  refine eh_cVg [.int (xs (6 * t + 1))] [] dL_law_1193 cV_L_144 hc hR.1.1.1 hR.1.1.2 rfl rfl rfl (by decide) (Nat.le_of_ble_eq_true rfl) rfl (fun E S9 n9 k9 h9 => absurd hcd (cp_r h9).1) (fun v S1 n1 k1 h1 => ?_)
  obtain ⟨rfl, hJ⟩ := LJ_cp hM hA ho hcd h1
  rw [hy0]
  show eh_W _ _ _ _ _ 1196 [(0, .ref b), (1, .ref x), (2, .ref m), (3, .ref o), (4, .int (nI (6 * t)))] [.int y0] S1 n1 k1
  have hM1 := LJ_RM hJ
  refine eh_aload_n dL_law_1196 2 rfl ?_
  refine eh_aload_n dL_law_1197 0 rfl ?_
  refine eh_iload dL_law_1198 4 rfl ?_
  refine eh_iconst (v := 1) dL_law_1200 (by decide) ?_
  refine eh_iadd dL_law_1201 ?_
  refine eh_sld (j := 6 * t + 1) (fun _ _ h => h) hb dL_law_1202 (nI_add _ 1) (by omega) (by omega) ?_
  refine eh_cVg [.int (xs (6 * t + 1))] [.int y0] dL_law_1203 cV_L_147 (hm S1 n1 k1 hM1) hM1.1.1.1 hM1.1.1.2 rfl rfl rfl (by decide) (Nat.le_of_ble_eq_true rfl) rfl (fun E S9 n9 k9 h9 => by obtain ⟨h91, -⟩ := h9; cases h91) (fun v S2 n2 k2 h2 => ?_)
  have hv2 : v = some sp.2.1 := Sum.inl.inj h2.1
  subst hv2
  have hI2 := LI_of hJ h2 hq ht hn hk
  have hF2 := MF_out hJ h2.2.2.2.1
  have ht2 := h2.2.1
  have hM2 := h2.2.2.1
  rw [hy0]
  show eh_W _ _ _ _ _ 1206 [(0, .ref b), (1, .ref x), (2, .ref m), (3, .ref o), (4, .int (nI (6 * t)))] [.int y0, .int y0] S2 n2 k2
  refine eh_icmp_eq (tgt := 1211) dL_law_1206 (by decide) (fun _ => ?_) (fun z => absurd rfl z)
  exact kk _ _ _ hI2
