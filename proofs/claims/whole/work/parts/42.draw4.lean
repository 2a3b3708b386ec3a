/-! a draw's numbers -/
def cl_at (cs : List cl_T) (j : Nat) : cl_T := cs.getD j (0, 0, 0)
def dy (cs : List cl_T) : Nat → Nat
  | 0 => 0
  | i + 1 => if (cl_at cs i).1 = 1 ∧ dy cs i < (cl_at cs i).2.1 then (cl_at cs i).2.1 else dy cs i
def fu (H : Nat) (cs : List cl_T) : Nat → Nat
  | 0 => 0
  | i + 1 => fu H cs i + (if (cl_at cs i).1 = 0 then H * (cl_at cs i).2.1 / (cl_at cs i).2.2 else 0)
abbrev wi_la (td : Nat) (w : wi_T) : Prop := w.2.2.2.2.2 = 0 ∧ w.2.1 + 500 < td
def lp (td : Nat) (ws : List wi_T) : Nat → List wi_T
  | 0 => ws
  | i + 1 => if wi_la td (wi_at ws i) then (lp td ws i).set i (wi_st (wi_at ws i) 2) else lp td ws i
def lpc (td : Nat) (ws : List wi_T) : Nat → Nat := su (fun j => if wi_la td (wi_at ws j) then (wi_at ws j).2.2.2.2.1 else 0)
theorem lp_len (td : Nat) (ws : List wi_T) : ∀ i, (lp td ws i).length = ws.length
  | 0 => rfl
  | i + 1 => by
    unfold lp
    split
    · rw [List.length_set]; exact lp_len td ws i
    · exact lp_len td ws i
theorem lp_at (td : Nat) (ws : List wi_T) : ∀ i j, i ≤ j → wi_at (lp td ws i) j = wi_at ws j
  | 0, j, _ => rfl
  | i + 1, j, h => by
    unfold lp
    split
    · unfold wi_at
      rw [List.getD_eq_getElem?_getD, List.getElem?_set_ne (by omega), ← List.getD_eq_getElem?_getD]
      exact lp_at td ws i j (by omega)
    · exact lp_at td ws i j (by omega)
theorem MR_at {S : hs_T} {m : Nat} {ad : Nat → Nat} {rs : List ru_T} (h : MR S m ad rs) {r : Nat} (hr : r < rs.length) : (ru_at rs r).2.length ≤ 10 ∧ hs_I S (ad 19) r = nI (ru_at rs r).2.length ∧ ∀ c, c < (ru_at rs r).2.length → hs_I S (ad 20) (10 * r + c) = nI (cl_at (ru_at rs r).2 c).1 ∧ hs_I S (ad 21) (10 * r + c) = nI (cl_at (ru_at rs r).2 c).2.1 ∧ ((cl_at (ru_at rs r).2 c).1 ≠ 1 → hs_I S (ad 22) (10 * r + c) = nI (cl_at (ru_at rs r).2 c).2.2) := by
  obtain ⟨⟨h1, h2⟩, h3, h4, h5⟩ := h.2.2 r hr
  exact ⟨h2, h4, h5⟩
theorem cl_in {cs : List cl_T} (h : ∀ c ∈ cs, cl_ok c) {i : Nat} (hi : i < cs.length) : cl_ok (cl_at cs i) := by
  have e : cl_at cs i = cs[i] := by unfold cl_at; rw [List.getD_eq_getElem?_getD, List.getElem?_eq_getElem hi]; rfl
  rw [e]
  exact h _ (List.getElem_mem hi)
theorem dy_le {cs : List cl_T} (h : ∀ c ∈ cs, cl_ok c) : ∀ i, i ≤ cs.length → dy cs i ≤ 1000000000
  | 0, _ => Nat.zero_le _
  | i + 1, hi => by
    unfold dy
    split
    · exact (cl_in h (by omega)).2.1
    · exact dy_le h i (by omega)
set_option maxRecDepth 20000 in
set_option maxHeartbeats 2000000 in
theorem m_draw_b {g : gl_T} {S : hs_T} {n k m r : Nat} {ad : Nat → Nat} {rs : List ru_T} {Po : ex_R} (hB : MB S m ad) (hMR : MR S m ad rs) (hr : r < rs.length) (hC : ∀ c ∈ (ru_at rs r).2, cl_ok c) (kk : ∀ w, ex_W g 1 mX10_draw Po 90 [(3, .int w), (2, .int (nI (dy (ru_at rs r).2 (ru_at rs r).2.length))), (0, .ref m), (1, .int (nI r))] [] S n k) : ∀ t i v, i ≤ (ru_at rs r).2.length → (ru_at rs r).2.length < i + t → v = nI (dy (ru_at rs r).2 i) → ex_W g 1 mX10_draw Po 38 [(3, .int (nI (10 * r + i))), (2, .int v), (0, .ref m), (1, .int (nI r))] [] S n k := by
  obtain ⟨hc10, h19, hcl⟩ := MR_at hMR hr
  have hr20 := hMR.2.1
  have hend : (10 : Int32) * nI r + hs_I S (ad 19) r = nI (10 * r + (ru_at rs r).2.length) := by rw [h19]; exact (congrArg (· + nI (ru_at rs r).2.length) (pk_mul 10 r)).trans (nI_add _ _)
  intro t
  induction t with
  | zero => intro i v h1 h2; exact absurd h2 (by omega)
  | succ t ih =>
    intro i v hi1 hi2 hv
    refine ex_iload_n dX10_draw_38 0 rfl ?_
    refine ex_bipush (v := 10) dX10_draw_39 (by decide) ?_
    refine ex_iload_n dX10_draw_41 3 rfl ?_
    refine ex_imul dX10_draw_42 ?_
    refine ex_aload_n dX10_draw_43 2 rfl ?_
    refine ex_getR (b := ad 19) dX10_draw_44 fl_X10_44 hB.1.1 hB.1.2 (mb_19 hB).1 ?_
    refine ex_iload_n dX10_draw_47 3 rfl ?_
    refine ex_iald (j := r) dX10_draw_48 (mb_19 hB).2.1 (mb_19 hB).2.2.1 rfl (Nat.lt_of_lt_of_eq (show r < 20 by omega) (mb_19 hB).2.2.2.symm) (show r < 2 ^ 31 by omega) ?_
    refine ex_iadd dX10_draw_49 ?_
    refine ex_icmp_ge (tgt := 90) dX10_draw_50 (by decide) (fun c50 => ?_) (fun c50 => ?_)
    · have hil : i = (ru_at rs r).2.length := by have z := (nI_leI (by omega) (by omega)).mp (hend ▸ c50); omega
      rw [hv, hil]
      exact kk _
    · have hil : i < (ru_at rs r).2.length := by
        rcases Nat.lt_or_ge i (ru_at rs r).2.length with z | z
        · exact z
        · exact absurd (by rw [hend]; exact nI_le (by omega) (by omega)) c50
      obtain ⟨h20, h21, h22⟩ := hcl i hil
      have hok := cl_in hC hil
      obtain ⟨ho1, ho2, ho3, ho4, ho5, ho6, ho7⟩ := id hok
      have hdv := dy_le hC i (by omega)
      refine ex_aload_n dX10_draw_53 2 rfl ?_
      refine ex_getR (b := ad 20) dX10_draw_54 fl_X10_47 hB.1.1 hB.1.2 (mb_20 hB).1 ?_
      refine ex_iload_n dX10_draw_57 0 rfl ?_
      refine ex_iald (j := (10 * r + i)) dX10_draw_58 (mb_20 hB).2.1 (mb_20 hB).2.2.1 rfl (Nat.lt_of_lt_of_eq (show (10 * r + i) < 210 by omega) (mb_20 hB).2.2.2.symm) (show (10 * r + i) < 2 ^ 31 by omega) ?_
      refine ex_iconst (v := 1) dX10_draw_59 (by decide) ?_
      refine ex_icmp_ne (tgt := 82) dX10_draw_60 (by decide) (fun c60 => ?_) (fun c60 => ?_)
      · refine ex_iload_n dX10_draw_82 1 rfl ?_
        refine ex_istore_n [(2, .int v), (3, .int (nI (10 * r + i))), (0, .ref m), (1, .int (nI r))] dX10_draw_83 (by decide) rfl ?_
        refine ex_iinc (v := nI (10 * r + (i + 1))) 1 [(3, .int (nI (10 * r + (i + 1)))), (2, .int v), (0, .ref m), (1, .int (nI r))] dX10_draw_84 rfl (nI_1 (10 * r + i)) (by decide) rfl ?_
        refine ex_goto (tgt := 38) dX10_draw_87 (by decide) ?_
        refine ex_lv [0, 1, 2, 3] rfl ?_
        refine ih (i + 1) _ (by omega) (by omega) ?_
        rw [hv]
        show _ = nI (if _ then _ else _)
        rw [if_neg]
        rintro ⟨z1, z2⟩
        first
          | exact c60 (by rw [h20, z1]; rfl)
          | (have z3 := (nI_leI (by omega) (by omega)).mp (h21 ▸ hv ▸ c70); omega)
      · refine ex_aload_n dX10_draw_63 2 rfl ?_
        refine ex_getR (b := ad 21) dX10_draw_64 fl_X10_50 hB.1.1 hB.1.2 (mb_21 hB).1 ?_
        refine ex_iload_n dX10_draw_67 0 rfl ?_
        refine ex_iald (j := (10 * r + i)) dX10_draw_68 (mb_21 hB).2.1 (mb_21 hB).2.2.1 rfl (Nat.lt_of_lt_of_eq (show (10 * r + i) < 210 by omega) (mb_21 hB).2.2.2.symm) (show (10 * r + i) < 2 ^ 31 by omega) ?_
        refine ex_iload_n dX10_draw_69 1 rfl ?_
        refine ex_icmp_le (tgt := 82) dX10_draw_70 (by decide) (fun c70 => ?_) (fun c70 => ?_)
        · refine ex_iload_n dX10_draw_82 1 rfl ?_
          refine ex_istore_n [(2, .int v), (3, .int (nI (10 * r + i))), (0, .ref m), (1, .int (nI r))] dX10_draw_83 (by decide) rfl ?_
          refine ex_iinc (v := nI (10 * r + (i + 1))) 1 [(3, .int (nI (10 * r + (i + 1)))), (2, .int v), (0, .ref m), (1, .int (nI r))] dX10_draw_84 rfl (nI_1 (10 * r + i)) (by decide) rfl ?_
          refine ex_goto (tgt := 38) dX10_draw_87 (by decide) ?_
          refine ex_lv [0, 1, 2, 3] rfl ?_
          refine ih (i + 1) _ (by omega) (by omega) ?_
          rw [hv]
          show _ = nI (if _ then _ else _)
          rw [if_neg]
          rintro ⟨z1, z2⟩
          first
            | exact c60 (by rw [h20, z1]; rfl)
            | (have z3 := (nI_leI (by omega) (by omega)).mp (h21 ▸ hv ▸ c70); omega)
        · refine ex_aload_n dX10_draw_73 2 rfl ?_
          refine ex_getR (b := ad 21) dX10_draw_74 fl_X10_50 hB.1.1 hB.1.2 (mb_21 hB).1 ?_
          refine ex_iload_n dX10_draw_77 0 rfl ?_
          refine ex_iald (j := (10 * r + i)) dX10_draw_78 (mb_21 hB).2.1 (mb_21 hB).2.2.1 rfl (Nat.lt_of_lt_of_eq (show (10 * r + i) < 210 by omega) (mb_21 hB).2.2.2.symm) (show (10 * r + i) < 2 ^ 31 by omega) ?_
          refine ex_goto (tgt := 83) dX10_draw_79 (by decide) ?_
          refine ex_istore_n [(2, .int (hs_I S (ad 21) (10 * r + i))), (3, .int (nI (10 * r + i))), (0, .ref m), (1, .int (nI r))] dX10_draw_83 (by decide) rfl ?_
          refine ex_iinc (v := nI (10 * r + (i + 1))) 1 [(3, .int (nI (10 * r + (i + 1)))), (2, .int (hs_I S (ad 21) (10 * r + i))), (0, .ref m), (1, .int (nI r))] dX10_draw_84 rfl (nI_1 (10 * r + i)) (by decide) rfl ?_
          refine ex_goto (tgt := 38) dX10_draw_87 (by decide) ?_
          refine ex_lv [0, 1, 2, 3] rfl ?_
          refine ih (i + 1) _ (by omega) (by omega) ?_
          rw [h21]
          show _ = nI (if _ then _ else _)
          rw [if_pos ⟨(nI_eq (b := 1) (by omega) (by decide)).mp (h20.symm.trans c60), Nat.lt_of_not_le (fun z => c70 (by rw [h21, hv]; exact nI_le z (by omega)))⟩]
set_option maxRecDepth 20000 in
set_option maxHeartbeats 2000000 in
theorem m_draw_e {g : gl_T} {S : hs_T} {n k m : Nat} {Po : ex_R} {xs : Int64} {xr xd : Int32} {Mm R : Nat} (hM : Mm ≤ 1000000000) (kk : ex_W g 1 mX10_draw Po 159 [(7, .long (lN R)), (5, .long xs), (3, .long (lN Mm)), (0, .ref m), (1, .int xr), (2, .int xd)] [] S n k) : ∀ t q, q ≤ Mm + 1 → Mm + 1 < q + t → nx Mm t q = R → ex_W g 1 mX10_draw Po 139 [(7, .long (lN q)), (5, .long xs), (3, .long (lN Mm)), (0, .ref m), (1, .int xr), (2, .int xd)] [] S n k := by
  intro t
  induction t with
  | zero => intro q h1 h2; exact absurd h2 (by omega)
  | succ t ih =>
    intro q hq1 hq2 hres
    refine ex_lload dX10_draw_139 0 rfl ?_
    refine ex_lload_n dX10_draw_141 2 rfl ?_
    refine ex_cSr [.long (lN q), .long (lN Mm)] [] dX10_draw_142 cS_X10_229 (m_common g (a := q) (b := Mm) rfl rfl (by omega) (by omega)) rfl (by decide) (Nat.le_of_ble_eq_true rfl) rfl ?_
    have hgl : Nat.gcd q Mm < 2 ^ 63 := by
      rcases Nat.eq_zero_or_pos Mm with z | z
      · rw [z, Nat.gcd_zero_right]; omega
      · have := Nat.gcd_le_right q z; omega
    refine ex_lconst (v := 1) dX10_draw_145 (by decide) ?_
    refine ex_lcmp dX10_draw_146 ?_
    refine ex_if_le (tgt := 159) dX10_draw_147 (by decide) (fun c147 => ?_) (fun c147 => ?_)
    · have hg : ¬ 1 < Nat.gcd q Mm := by
        have := (lg_leN (b := 1) hgl (by decide)).mp c147
        omega
      have e : nx Mm (t + 1) q = q := by rw [nx, if_neg hg]
      rw [e] at hres
      subst hres
      exact kk
    · refine ex_lload dX10_draw_150 0 rfl ?_
      refine ex_lconst (v := 1) dX10_draw_152 (by decide) ?_
      refine ex_ladd dX10_draw_153 ?_
      refine ex_lstore [(7, .long ((lN q) + 1)), (5, .long xs), (3, .long (lN Mm)), (0, .ref m), (1, .int xr), (2, .int xd)] dX10_draw_154 (by decide) rfl ?_
      refine ex_goto (tgt := 139) dX10_draw_156 (by decide) ?_
      have hg : 1 < Nat.gcd q Mm := by
        have : ¬ Nat.gcd q Mm ≤ 1 := fun z => c147 ((lg_leN (b := 1) hgl (by decide)).mpr z)
        omega
      have e : nx Mm (t + 1) q = nx Mm t (q + 1) := by rw [nx, if_pos hg]
      rw [e] at hres
      have hne : q ≠ Mm + 1 := fun z => by rw [z, gcd_next] at hg; omega
      rw [lN_1]
      exact ih (q + 1) (by omega) (by omega) hres
theorem RM_st {S : hs_T} {m : Nat} {ad : Nat → Nat} {s : st_T} (h : RM S m ad s) {i : Nat} (hi : i < (s_ws s).length) (c : Nat) {v : Int32} (hv : v = nI c) : RM (hs_sI S (ad 32) i v) m ad (w_ws s ((s_ws s).set i (wi_st (wi_at (s_ws s) i) c))) := by
  obtain ⟨hB, hMS, hMH, hML, hMT, hMR, hMN, hMD, hMW⟩ := h
  exact ⟨hB, (MS_aI hB.2.2 (hMS) 32 _ _ (by decide)), (MH_aI hB.2.2 (hMH) 32 _ _ (by decide)), (ML_aI hB.2.2 (hML) 32 _ _ (by decide)), (MT_aI hB.2.2 (hMT) 32 _ _ (by decide)), (MR_aI hB.2.2 (hMR) 32 _ _ (by decide)), (MN_aI hB.2.2 (hMN) 32 _ _ (by decide)), (MD_aI hB.2.2 (hMD) 32 _ _ (by decide)), (MW_st hB.2.2 hMW hi c hv)⟩
theorem RM_cr {S : hs_T} {m : Nat} {ad : Nat → Nat} {s : st_T} (h : RM S m ad s) (c : Nat) {v : Int64} (hv : v = lN c) : RM (hs_sJ S m 34 v) m ad (w_cr s c) := by
  obtain ⟨hB, hMS, hMH, hML, hMT, hMR, hMN, hMD, hMW⟩ := h
  exact ⟨hB, ⟨⟨hMS.1.1, hMS.1.2.1, hMS.1.2.2.1, by rw [mJ_mm, if_pos rfl, hv]; rfl⟩, hMS.2⟩, (MH_mJ hB.2.2 (hMH) 34 _ (by decide)), (ML_mJ hB.2.2 (hML) 34 _ (by decide)), (MT_mJ hB.2.2 (hMT) 34 _ (by decide)), (MR_mJ hB.2.2 (hMR) 34 _ (by decide)), (MN_mJ hB.2.2 (hMN) 34 _ (by decide)), (MD_mJ hB.2.2 (hMD) 34 _ (by decide)), (MW_mJ hB.2.2 (hMW) 34 _ (by decide))⟩
def DX (S0 S : hs_T) (m : Nat) (ad : Nat → Nat) (s : st_T) (zs : List Nat) : Prop := SX S0 S m ad s ∧ MY S ad zs
theorem DX_st {S0 S : hs_T} {m : Nat} {ad : Nat → Nat} {s : st_T} {zs : List Nat} (h : DX S0 S m ad s zs) {i : Nat} (hi : i < (s_ws s).length) (c : Nat) {v : Int32} (hv : v = nI c) : DX S0 (hs_sI S (ad 32) i v) m ad (w_ws s ((s_ws s).set i (wi_st (wi_at (s_ws s) i) c))) zs := ⟨⟨RM_st h.1.1 hi c hv, MF_aI h.1.2.1 32 (by decide) _ _, by rw [mI_sa h.1.1.1.2.2]; exact h.1.2.2⟩, MY_of h.2 (funext fun w => by rw [mI_aa h.1.1.1.2.2, if_neg (by simp)])⟩
theorem DX_cr {S0 S : hs_T} {m : Nat} {ad : Nat → Nat} {s : st_T} {zs : List Nat} (h : DX S0 S m ad s zs) (c : Nat) {v : Int64} (hv : v = lN c) : DX S0 (hs_sJ S m 34 v) m ad (w_cr s c) zs := ⟨⟨RM_cr h.1.1 c hv, MF_mJ h.1.2.1 34 _, h.1.2.2⟩, h.2⟩
set_option maxRecDepth 20000 in
set_option maxHeartbeats 2000000 in
theorem m_draw_f {g : gl_T} {S0 : hs_T} {n k m : Nat} {ad : Nat → Nat} {s : st_T} {zs : List Nat} {Po : ex_R} {xt xs xm : Int64} {xr xd : Int32} (hO : ∀ j, j < (s_ws s).length → wi_ok s (wi_at (s_ws s) j)) (kk : ∀ S, DX S0 S m ad (w_cr (w_ws s (lp (s_td s) (s_ws s) (s_ws s).length)) (s_cr s + lpc (s_td s) (s_ws s) (s_ws s).length)) zs → ex_W g 1 mX10_draw Po 243 [(7, .long xt), (5, .long xs), (3, .long xm), (0, .ref m), (1, .int xr), (2, .int xd)] [] S n k) : ∀ t i S, i ≤ (s_ws s).length → (s_ws s).length < i + t → DX S0 S m ad (w_cr (w_ws s (lp (s_td s) (s_ws s) i)) (s_cr s + lpc (s_td s) (s_ws s) i)) zs → ex_W g 1 mX10_draw Po 162 [(9, .int (nI i)), (7, .long xt), (5, .long xs), (3, .long xm), (0, .ref m), (1, .int xr), (2, .int xd)] [] S n k := by
  intro t
  induction t with
  | zero => intro i S h1 h2; exact absurd h2 (by omega)
  | succ t ih =>
    intro i S hi1 hi2 h
    obtain ⟨hB, hMS, hMH, hML, hMT, hMR, hMN, hMD, hMW⟩ := id h.1.1
    have h33 : hs_I S m 33 = nI (s_ws s).length := by have := hMW.1; rw [this]; show nI (lp _ _ i).length = _; rw [lp_len]
    have hl20 : (s_ws s).length ≤ 2000 := by have := hMW.2.1; change (lp _ _ i).length ≤ 2000 at this; rw [lp_len] at this; exact this
    have htd : s_td s ≤ 100000 := hMS.2.1
    have hd40 : (s_ds s).length ≤ 40 := hMD.2.1
    have h34 : hs_J S m 34 = lN (s_cr s + lpc (s_td s) (s_ws s) i) := hMS.1.2.2.2
    refine ex_iload dX10_draw_162 0 rfl ?_
    refine ex_aload_n dX10_draw_164 4 rfl ?_
    refine ex_getI dX10_draw_165 fl_X10_121 hB.1.1 hB.1.2 ?_
    refine ex_icmp_ge (tgt := 243) dX10_draw_168 (by decide) (fun c168 => ?_) (fun c168 => ?_)
    · have hil : i = (s_ws s).length := by have z := (nI_leI (by omega) (by omega)).mp (h33 ▸ c168); omega
      refine ex_lv [1, 2, 3, 4, 5, 6] rfl ?_
      subst hil
      exact kk S h
    · have hil : i < (s_ws s).length := by
        rcases Nat.lt_or_ge i (s_ws s).length with z | z
        · exact z
        · exact absurd (by rw [h33]; exact nI_le z (by omega)) c168
      obtain ⟨h28, h29, h30, h31, h32⟩ := hMW.2.2 i (by show i < (lp _ _ i).length; rw [lp_len]; exact hil)
      change hs_I S (ad 28) i = nI (wi_at (lp (s_td s) (s_ws s) i) i).1 at h28
      change hs_I S (ad 31) i = nI (wi_at (lp (s_td s) (s_ws s) i) i).2.2.2.2.1 at h31
      change hs_I S (ad 32) i = nI (wi_at (lp (s_td s) (s_ws s) i) i).2.2.2.2.2 at h32
      rw [lp_at _ _ _ _ (Nat.le_refl i)] at h28 h31 h32
      obtain ⟨hw1, hw2, hw3, hw4, hw5, hw6, hw7⟩ := hO i hil
      have e26 : hs_J S (ad 26) (9 * (wi_at (s_ws s) i).1) = lN (wi_at (s_ws s) i).2.1 := by have := hMD.2.2 _ hw1 0 (by decide); rw [Nat.add_zero] at this; rw [this]; exact hw3
      have e34 : (hs_I S m 2).toInt64 - hs_J S (ad 26) (9 * (wi_at (s_ws s) i).1) = lN (s_td s - (wi_at (s_ws s) i).2.1) := by rw [e26, hMS.1.1]; show (nI (s_td s)).toInt64 - _ = _; rw [nI_l (by omega), lN_sub hw2]
      refine ex_aload_n dX10_draw_171 4 rfl ?_
      refine ex_getR (b := ad 32) dX10_draw_172 fl_X10_74 hB.1.1 hB.1.2 (mb_32 hB).1 ?_
      refine ex_iload dX10_draw_175 0 rfl ?_
      refine ex_iald (j := i) dX10_draw_177 (mb_32 hB).2.1 (mb_32 hB).2.2.1 rfl (Nat.lt_of_lt_of_eq (show i < 2000 by omega) (mb_32 hB).2.2.2.symm) (show i < 2 ^ 31 by omega) ?_
      refine ex_if_ne (tgt := 237) dX10_draw_178 (by decide) (fun c178 => ?_) (fun c178 => ?_)
      · refine ex_iinc (v := nI (i + 1)) 0 [(9, .int (nI (i + 1))), (7, .long xt), (5, .long xs), (3, .long xm), (0, .ref m), (1, .int xr), (2, .int xd)] dX10_draw_237 rfl (nI_1 i) (by decide) rfl ?_
        refine ex_goto (tgt := 162) dX10_draw_240 (by decide) ?_
        refine ex_lv [0, 1, 2, 3, 4, 5, 6] rfl ?_
        have hnl : ¬ wi_la (s_td s) (wi_at (s_ws s) i) := by
          rintro ⟨z1, z2⟩
          first
            | exact c178 (by rw [h32, z1]; rfl)
            | exact c206 (fun z => by rw [e34] at z; have := (lg_leN (a := s_td s - (wi_at (s_ws s) i).2.1) (b := 500) (by omega) (by decide)).mp z; omega)
        refine ih (i + 1) S (by omega) (by omega) ?_
        have e : (w_cr (w_ws s (lp (s_td s) (s_ws s) (i + 1))) (s_cr s + lpc (s_td s) (s_ws s) (i + 1))) = (w_cr (w_ws s (lp (s_td s) (s_ws s) i)) (s_cr s + lpc (s_td s) (s_ws s) i)) := by
          have e1 : lp (s_td s) (s_ws s) (i + 1) = lp (s_td s) (s_ws s) i := by rw [lp, if_neg hnl]
          have e2 : lpc (s_td s) (s_ws s) (i + 1) = lpc (s_td s) (s_ws s) i := by
            show su _ i + (if _ then _ else _) = su _ i
            rw [if_neg hnl]; rfl
          rw [e1, e2]
        rw [e]; exact h
      · refine ex_aload_n dX10_draw_181 4 rfl ?_
        refine ex_getI dX10_draw_182 fl_X10_102 hB.1.1 hB.1.2 ?_
        refine ex_i2l dX10_draw_185 ?_
        refine ex_aload_n dX10_draw_186 4 rfl ?_
        refine ex_getR (b := ad 26) dX10_draw_187 fl_X10_59 hB.1.1 hB.1.2 (mb_26 hB).1 ?_
        refine ex_bipush (v := 9) dX10_draw_190 (by decide) ?_
        refine ex_aload_n dX10_draw_192 4 rfl ?_
        refine ex_getR (b := ad 28) dX10_draw_193 fl_X10_62 hB.1.1 hB.1.2 (mb_28 hB).1 ?_
        refine ex_iload dX10_draw_196 0 rfl ?_
        refine ex_iald (j := i) dX10_draw_198 (mb_28 hB).2.1 (mb_28 hB).2.2.1 rfl (Nat.lt_of_lt_of_eq (show i < 2000 by omega) (mb_28 hB).2.2.2.symm) (show i < 2 ^ 31 by omega) ?_
        refine ex_imul dX10_draw_199 ?_
        refine ex_lald (j := 9 * (wi_at (s_ws s) i).1) dX10_draw_200 (mb_26 hB).2.1 (mb_26 hB).2.2.1 (by rw [h28]; exact pk_mul 9 _) (Nat.lt_of_lt_of_eq (show 9 * (wi_at (s_ws s) i).1 < 360 by omega) (mb_26 hB).2.2.2.symm) (by omega) ?_
        refine ex_lsub dX10_draw_201 ?_
        refine ex_ldc2 dX10_draw_202 lc_X10_232 ?_
        refine ex_lcmp dX10_draw_205 ?_
        refine ex_if_gt (tgt := 212) dX10_draw_206 (by decide) (fun c206 => ?_) (fun c206 => ?_)
        · have c206n : ¬ lg_cmp (lN (s_td s - (wi_at (s_ws s) i).2.1)) (lN 500) ≤ 0 := fun z => by
            have z2 : lg_cmp (lN (s_td s - (wi_at (s_ws s) i).2.1)) 500 ≤ 0 := z
            rw [e34] at c206
            simp only [i_lt, i_le, Int32.reduceToInt] at *
            omega
          refine ex_aload_n dX10_draw_212 4 rfl ?_
          refine ex_getR (b := ad 32) dX10_draw_213 fl_X10_74 hB.1.1 hB.1.2 (mb_32 hB).1 ?_
          refine ex_iload dX10_draw_216 0 rfl ?_
          refine ex_iconst (v := 2) dX10_draw_218 (by decide) ?_
          refine ex_iast (j := i) dX10_draw_219 (mb_32 hB).2.1 (mb_32 hB).2.2.1 rfl (Nat.lt_of_lt_of_eq (show i < 2000 by omega) (mb_32 hB).2.2.2.symm) (show i < 2 ^ 31 by omega) ?_
          refine ex_aload_n dX10_draw_220 4 rfl ?_
          refine ex_dup dX10_draw_221 rfl ?_
          refine ex_getJ dX10_draw_222 fl_X10_234 hB.1.1 hB.1.2 ?_
          refine ex_aload_n dX10_draw_225 4 rfl ?_
          refine ex_getR (b := ad 31) dX10_draw_226 fl_X10_71 hB.1.1 hB.1.2 (mb_31 hB).1 ?_
          refine ex_iload dX10_draw_229 0 rfl ?_
          refine ex_iald (j := i) dX10_draw_231 (mb_31 hB).2.1 (mb_31 hB).2.2.1 rfl (Nat.lt_of_lt_of_eq (show i < 2000 by omega) (mb_31 hB).2.2.2.symm) (show i < 2 ^ 31 by omega) ?_
          refine ex_i2l dX10_draw_232 ?_
          refine ex_ladd dX10_draw_233 ?_
          refine ex_putJ dX10_draw_234 fl_X10_234 (pf_X10_234 _) hB.1.1 hB.1.2 ?_
          refine ex_iinc (v := nI (i + 1)) 0 [(9, .int (nI (i + 1))), (7, .long xt), (5, .long xs), (3, .long xm), (0, .ref m), (1, .int xr), (2, .int xd)] dX10_draw_237 rfl (nI_1 i) (by decide) rfl ?_
          refine ex_goto (tgt := 162) dX10_draw_240 (by decide) ?_
          refine ex_lv [0, 1, 2, 3, 4, 5, 6] rfl ?_
          have hla : wi_la (s_td s) (wi_at (s_ws s) i) := ⟨(nI_eq (b := 0) (by omega) (by decide)).mp (h32.symm.trans c178), Nat.lt_of_not_le (fun z => by
            have z2 : s_td s - (wi_at (s_ws s) i).2.1 ≤ 500 := by omega
            exact c206n ((lg_leN (a := s_td s - (wi_at (s_ws s) i).2.1) (b := 500) (by omega) (by decide)).mpr z2))⟩
          have e1 : lp (s_td s) (s_ws s) (i + 1) = (lp (s_td s) (s_ws s) i).set i (wi_st (wi_at (lp (s_td s) (s_ws s) i) i) 2) := by rw [lp, if_pos hla, lp_at _ _ _ _ (Nat.le_refl i)]
          have e2 : lpc (s_td s) (s_ws s) (i + 1) = lpc (s_td s) (s_ws s) i + (wi_at (s_ws s) i).2.2.2.2.1 := by
            show su _ i + (if _ then _ else _) = _
            rw [if_pos hla]; rfl
          have h2 := DX_st h (i := i) (by show i < (lp _ _ i).length; rw [lp_len]; exact hil) 2 (v := 2) rfl
          refine ih (i + 1) _ (by omega) (by omega) ?_
          have h3 := DX_cr h2 (s_cr s + lpc (s_td s) (s_ws s) (i + 1)) (v := ((hs_J (hs_sI S (ad 32) i 2) m 34) + ((hs_I (hs_sI S (ad 32) i 2) (ad 31) i).toInt64))) (by
            rw [hs_J_sI, h34, mI_aa hB.2.2, if_neg (by simp), h31, nI_l (by omega), lN_add, e2]
            congr 1; omega)
          rw [e1]
          exact h3
        · have c206 : ¬ ¬ lg_cmp ((hs_I S m 2).toInt64 - hs_J S (ad 26) (9 * (wi_at (s_ws s) i).1)) 500 ≤ 0 := fun z => by
            simp only [i_lt, i_le, Int32.reduceToInt] at *
            omega
          refine ex_goto (tgt := 237) dX10_draw_209 (by decide) ?_
          refine ex_iinc (v := nI (i + 1)) 0 [(9, .int (nI (i + 1))), (7, .long xt), (5, .long xs), (3, .long xm), (0, .ref m), (1, .int xr), (2, .int xd)] dX10_draw_237 rfl (nI_1 i) (by decide) rfl ?_
          refine ex_goto (tgt := 162) dX10_draw_240 (by decide) ?_
          refine ex_lv [0, 1, 2, 3, 4, 5, 6] rfl ?_
          have hnl : ¬ wi_la (s_td s) (wi_at (s_ws s) i) := by
            rintro ⟨z1, z2⟩
            first
              | exact c178 (by rw [h32, z1]; rfl)
              | exact c206 (fun z => by rw [e34] at z; have := (lg_leN (a := s_td s - (wi_at (s_ws s) i).2.1) (b := 500) (by omega) (by decide)).mp z; omega)
          refine ih (i + 1) S (by omega) (by omega) ?_
          have e : (w_cr (w_ws s (lp (s_td s) (s_ws s) (i + 1))) (s_cr s + lpc (s_td s) (s_ws s) (i + 1))) = (w_cr (w_ws s (lp (s_td s) (s_ws s) i)) (s_cr s + lpc (s_td s) (s_ws s) i)) := by
            have e1 : lp (s_td s) (s_ws s) (i + 1) = lp (s_td s) (s_ws s) i := by rw [lp, if_neg hnl]
            have e2 : lpc (s_td s) (s_ws s) (i + 1) = lpc (s_td s) (s_ws s) i := by
              show su _ i + (if _ then _ else _) = su _ i
              rw [if_neg hnl]; rfl
            rw [e1, e2]
          rw [e]; exact h
set_option maxRecDepth 20000 in
set_option maxHeartbeats 2000000 in
theorem m_draw_g {g : gl_T} {S : hs_T} {n k m r : Nat} {ad : Nat → Nat} {rs : List ru_T} {Po : ex_R} {xt xs xm : Int64} {xd : Int32} {H c0 : Nat} (hB : MB S m ad) (hMR : MR S m ad rs) (hr : r < rs.length) (hC : ∀ c ∈ (ru_at rs r).2, cl_ok c) (hH : H ≤ 1000000000000) (kk : ex_W g 1 mX10_draw Po 322 [(11, .long (lN (c0 + fu H (ru_at rs r).2 (ru_at rs r).2.length))), (7, .long xt), (5, .long xs), (3, .long xm), (0, .ref m), (1, .int (nI r)), (2, .int xd)] [] S n k) : ∀ t i v, i ≤ (ru_at rs r).2.length → (ru_at rs r).2.length < i + t → v = lN (c0 + fu H (ru_at rs r).2 i) → ex_W g 1 mX10_draw Po 261 [(13, .int (nI (10 * r + i))), (11, .long v), (9, .long (lN H)), (7, .long xt), (5, .long xs), (3, .long xm), (0, .ref m), (1, .int (nI r)), (2, .int xd)] [] S n k := by
  obtain ⟨hc10, h19, hcl⟩ := MR_at hMR hr
  have hr20 := hMR.2.1
  have hend : (10 : Int32) * nI r + hs_I S (ad 19) r = nI (10 * r + (ru_at rs r).2.length) := by rw [h19]; exact (congrArg (· + nI (ru_at rs r).2.length) (pk_mul 10 r)).trans (nI_add _ _)
  intro t
  induction t with
  | zero => intro i v h1 h2; exact absurd h2 (by omega)
  | succ t ih =>
    intro i v hi1 hi2 hv
    refine ex_iload dX10_draw_261 0 rfl ?_
    refine ex_bipush (v := 10) dX10_draw_263 (by decide) ?_
    refine ex_iload_n dX10_draw_265 7 rfl ?_
    refine ex_imul dX10_draw_266 ?_
    refine ex_aload_n dX10_draw_267 6 rfl ?_
    refine ex_getR (b := ad 19) dX10_draw_268 fl_X10_44 hB.1.1 hB.1.2 (mb_19 hB).1 ?_
    refine ex_iload_n dX10_draw_271 7 rfl ?_
    refine ex_iald (j := r) dX10_draw_272 (mb_19 hB).2.1 (mb_19 hB).2.2.1 rfl (Nat.lt_of_lt_of_eq (show r < 20 by omega) (mb_19 hB).2.2.2.symm) (show r < 2 ^ 31 by omega) ?_
    refine ex_iadd dX10_draw_273 ?_
    refine ex_icmp_ge (tgt := 322) dX10_draw_274 (by decide) (fun c274 => ?_) (fun c274 => ?_)
    · have hil : i = (ru_at rs r).2.length := by have z := (nI_leI (by omega) (by omega)).mp (hend ▸ c274); omega
      refine ex_lv [1, 3, 4, 5, 6, 7, 8] rfl ?_
      rw [hv, hil]
      exact kk
    · have hil : i < (ru_at rs r).2.length := by
        rcases Nat.lt_or_ge i (ru_at rs r).2.length with z | z
        · exact z
        · exact absurd (by rw [hend]; exact nI_le (by omega) (by omega)) c274
      obtain ⟨h20, h21, h22⟩ := hcl i hil
      have hok := cl_in hC hil
      obtain ⟨ho1, ho2, ho3, ho4, ho5, ho6, ho7⟩ := id hok
      refine ex_lload dX10_draw_277 1 rfl ?_
      refine ex_aload_n dX10_draw_279 6 rfl ?_
      refine ex_getR (b := ad 20) dX10_draw_280 fl_X10_47 hB.1.1 hB.1.2 (mb_20 hB).1 ?_
      refine ex_iload dX10_draw_283 0 rfl ?_
      refine ex_iald (j := (10 * r + i)) dX10_draw_285 (mb_20 hB).2.1 (mb_20 hB).2.2.1 rfl (Nat.lt_of_lt_of_eq (show (10 * r + i) < 210 by omega) (mb_20 hB).2.2.2.symm) (show (10 * r + i) < 2 ^ 31 by omega) ?_
      refine ex_if_ne (tgt := 312) dX10_draw_286 (by decide) (fun c286 => ?_) (fun c286 => ?_)
      · refine ex_lconst (v := 0) dX10_draw_312 (by decide) ?_
        refine ex_ladd dX10_draw_313 ?_
        refine ex_lstore [(11, .long (v + 0)), (13, .int (nI (10 * r + i))), (9, .long (lN H)), (7, .long xt), (5, .long xs), (3, .long xm), (0, .ref m), (1, .int (nI r)), (2, .int xd)] dX10_draw_314 (by decide) rfl ?_
        refine ex_iinc (v := nI (10 * r + (i + 1))) 1 [(13, .int (nI (10 * r + (i + 1)))), (11, .long (v + 0)), (9, .long (lN H)), (7, .long xt), (5, .long xs), (3, .long xm), (0, .ref m), (1, .int (nI r)), (2, .int xd)] dX10_draw_316 rfl (nI_1 (10 * r + i)) (by decide) rfl ?_
        refine ex_goto (tgt := 261) dX10_draw_319 (by decide) ?_
        refine ex_lv [0, 1, 2, 3, 4, 5, 6, 7, 8] rfl ?_
        refine ih (i + 1) _ (by omega) (by omega) ?_
        rw [hv]
        show lN _ + 0 = lN (c0 + (fu H _ i + (if _ then _ else _)))
        rw [if_neg (fun z => c286 (by rw [h20, z]; rfl))]
        exact lN_add _ 0
      · refine ex_lload dX10_draw_289 2 rfl ?_
        refine ex_aload_n dX10_draw_291 6 rfl ?_
        refine ex_getR (b := ad 21) dX10_draw_292 fl_X10_50 hB.1.1 hB.1.2 (mb_21 hB).1 ?_
        refine ex_iload dX10_draw_295 0 rfl ?_
        refine ex_iald (j := (10 * r + i)) dX10_draw_297 (mb_21 hB).2.1 (mb_21 hB).2.2.1 rfl (Nat.lt_of_lt_of_eq (show (10 * r + i) < 210 by omega) (mb_21 hB).2.2.2.symm) (show (10 * r + i) < 2 ^ 31 by omega) ?_
        refine ex_i2l dX10_draw_298 ?_
        refine ex_lmul dX10_draw_299 ?_
        refine ex_aload_n dX10_draw_300 6 rfl ?_
        refine ex_getR (b := ad 22) dX10_draw_301 fl_X10_53 hB.1.1 hB.1.2 (mb_22 hB).1 ?_
        refine ex_iload dX10_draw_304 0 rfl ?_
        refine ex_iald (j := (10 * r + i)) dX10_draw_306 (mb_22 hB).2.1 (mb_22 hB).2.2.1 rfl (Nat.lt_of_lt_of_eq (show (10 * r + i) < 210 by omega) (mb_22 hB).2.2.2.symm) (show (10 * r + i) < 2 ^ 31 by omega) ?_
        refine ex_i2l dX10_draw_307 ?_
        refine ex_ldiv dX10_draw_308 (by have hs0 := (nI_eq (b := 0) (by omega) (by decide)).mp (h20.symm.trans c286); rw [h22 (by omega), nI_l (by omega)]; exact fun z => absurd ((pk_lEQ (b := 0) (by omega) (by decide)).mp z) (by have := (ho4 hs0).2; omega)) ?_
        refine ex_goto (tgt := 313) dX10_draw_309 (by decide) ?_
        refine ex_ladd dX10_draw_313 ?_
        refine ex_lstore [(11, .long (v + (((lN H) * ((hs_I S (ad 21) (10 * r + i)).toInt64)) / ((hs_I S (ad 22) (10 * r + i)).toInt64)))), (13, .int (nI (10 * r + i))), (9, .long (lN H)), (7, .long xt), (5, .long xs), (3, .long xm), (0, .ref m), (1, .int (nI r)), (2, .int xd)] dX10_draw_314 (by decide) rfl ?_
        refine ex_iinc (v := nI (10 * r + (i + 1))) 1 [(13, .int (nI (10 * r + (i + 1)))), (11, .long (v + (((lN H) * ((hs_I S (ad 21) (10 * r + i)).toInt64)) / ((hs_I S (ad 22) (10 * r + i)).toInt64)))), (9, .long (lN H)), (7, .long xt), (5, .long xs), (3, .long xm), (0, .ref m), (1, .int (nI r)), (2, .int xd)] dX10_draw_316 rfl (nI_1 (10 * r + i)) (by decide) rfl ?_
        refine ex_goto (tgt := 261) dX10_draw_319 (by decide) ?_
        refine ex_lv [0, 1, 2, 3, 4, 5, 6, 7, 8] rfl ?_
        refine ih (i + 1) _ (by omega) (by omega) ?_
        have hs0 := (nI_eq (b := 0) (by omega) (by decide)).mp (h20.symm.trans c286)
        have hb1 : H * (cl_at (ru_at rs r).2 i).2.1 ≤ 1000000000000 * 1000000 := Nat.mul_le_mul hH (ho4 hs0).1
        rw [hv, h21, h22 (by omega), nI_l (by omega), nI_l (by omega), lN_mul, pk_lDiv (by omega) (by have := (ho4 hs0).2; omega) (by omega), lN_add]
        show lN _ = lN (c0 + (fu H _ i + (if _ then _ else _)))
        rw [if_pos hs0]
        congr 1; omega
