theorem mp_app {la ys : List Nat} {q N : Nat} (hy : ∀ i ∈ ys, i < la.length) (hN : N = la.length) : (ys ++ [N]).map (fun i => (la ++ [q]).getD i 0) = ys.map (fun i => la.getD i 0) ++ [q] := by
  rw [List.map_append]
  congr 1
  · refine List.map_congr_left (fun i hi => ?_)
    rw [gd_app, if_neg (by have := hy i hi; omega)]
  · simp only [List.map_cons, List.map_nil]
    rw [gd_app, if_pos hN]
theorem GO_new {ls : List li_T} {ys : List Nat} {t : li_T} (hG : GO ls ys) (ht : t.2.2.2.2 = none) (hlt : ∀ i, i < ls.length → (ln_at ls i).2.1 < t.1) : GO (ls ++ [t]) (ys ++ [ls.length]) := by
  have hm : ∀ i ∈ ys, i < ls.length := fun i hi => ((hG.2 i).mp hi).1
  refine ⟨?_, fun i => ?_⟩
  · rw [List.pairwise_append]
    refine ⟨?_, by simp, fun a ha b hb => ?_⟩
    · refine List.Pairwise.imp_of_mem (fun {a b} ha hb hab => ?_) hG.1
      rw [ln_app, ln_app, if_neg (by have := hm a ha; omega), if_neg (by have := hm b hb; omega)]
      exact hab
    · simp at hb
      subst hb
      rw [ln_app, ln_app, if_neg (by have := hm a ha; omega), if_pos rfl]
      exact hlt a (hm a ha)
  · rw [List.mem_append, ln_app, List.length_append]
    simp only [List.mem_singleton, List.length_singleton]
    by_cases z : i = ls.length
    · rw [if_pos z]
      exact ⟨fun _ => ⟨by omega, ht⟩, fun _ => Or.inr z⟩
    · rw [if_neg z, hG.2]
      exact ⟨fun y => by rcases y with y | y; exact ⟨by omega, y.2⟩; exact absurd y z, fun y => Or.inl ⟨by omega, y.2⟩⟩
def sp_sell (s : st_T) (h m : Nat) : Int32 × st_T := if 1000000000 < s_sd s + m then (-1, s) else if (s_ls s).length = 1500 then (-2, s) else (nI (s_sd s), w_sd (w_ls s (s_ls s ++ [(s_sd s, s_sd s + m - 1, h, s_td s, none)])) (s_sd s + m))
set_option maxRecDepth 20000 in
set_option maxHeartbeats 4000000 in
theorem c_sell (g : gl_T) {S : hs_T} {n k x l tp nz : Nat} {ow : Nat → Nat} {s : st_T} {ys : List Nat} {c : Nat → Nat} (h : RC g S ow x l tp nz s ys c) (hb : BD s) (hO : OK s) (hn : n + 40000 ≤ ex_NM) (hk : k + 200000 ≤ ex_KM) {y z w : Int32} {j m : Nat} (hyj : y = nI j) (hzm : z = nI m) (hwd : w = nI (s_td s)) (hm1 : 1 ≤ m) (hm2 : m ≤ 10000000) : ex_M g 9 mX4_sell [.ref l, .int y, .int z, .int w] S n k (cv g S ow x l tp nz c n k s (.int (sp_sell s j m).1) (sp_sell s j m).2) := by
  obtain ⟨hB, hCS, hCH, hCG, hCT, hCR, hCN, hCD, hCW⟩ := id h
  obtain ⟨bd1, bd2, bd3, ⟨bd4, bd5⟩, bd6, ⟨bd7, bd8⟩, bd9, bd10, bd11, bd12⟩ := id hb
  obtain ⟨la, ⟨a4, e4, r4, l4, o4, p4⟩, ⟨a5, e5, r5, l5, o5, p5⟩, nd4, len4, f4, hG⟩ := id hCG
  have hsub : (1000000000 : Int32) - hs_I S l 2 = nI (1000000000 - s_sd s) := by rw [hCS.2.1]; exact pk_sub (a := 1000000000) bd2
  have hlN : LN1 g S ow l (c 4) (s_ls s) la := ⟨⟨a4, e4, r4, l4, o4, p4⟩, nd4, len4, f4⟩
  have hfl : ∀ i, (ln_at (s_ls s) i).1 ≤ (ln_at (s_ls s) i).2.1 := fun i => by
    by_cases z : i < (s_ls s).length
    · exact (bd5 i z).1
    · unfold ln_at; rw [List.getD_eq_getElem?_getD, List.getElem?_eq_none (by omega)]; exact Nat.le_refl _
  have hys : ys.length ≤ 1500 := Nat.le_trans (nd_len (GO_nd hfl hG) (fun i hi => ((hG.2 i).mp hi).1)) bd4
  refine ex_enter (by decide +kernel) (Nat.le_of_ble_eq_true rfl) ?_
  show ex_W _ _ _ _ 0 [(0, .ref l), (1, .int y), (2, .int z), (3, .int w)] [] _ _ _
  refine ex_iload_n dX4_sell_0 2 rfl ?_
  refine ex_ldc dX4_sell_1 lc_X4_25 ?_
  refine ex_aload_n dX4_sell_3 0 rfl ?_
  refine ex_getI dX4_sell_4 fl_X4_21 hB.2.1.2.1 hB.2.1.2.2 ?_
  refine ex_isub dX4_sell_7 ?_
  refine ex_icmp_le (tgt := 13) dX4_sell_8 (by decide) (fun c8 => ?_) (fun c8 => ?_)
  · have hsp1 : ¬ 1000000000 < s_sd s + m := by
      rw [hsub, hzm] at c8
      have := (nI_leI (by omega) (by omega)).mp c8
      omega
    refine ex_aload_n dX4_sell_13 0 rfl ?_
    refine ex_getR (b := a4) dX4_sell_14 fl_X4_12 hB.2.1.2.1 hB.2.1.2.2 r4 ?_
    refine ex_cVr [] [] dX4_sell_17 cV_X4_26 (c_szn g l4 len4) l4.1.1 l4.1.2.1 rfl rfl rfl (by decide) (Nat.le_of_ble_eq_true rfl) rfl ?_
    refine ex_sipush (v := 1500) dX4_sell_20 (by decide) ?_
    refine ex_icmp_lt (tgt := 29) dX4_sell_23 (by decide) (fun c23 => ?_) (fun c23 => ?_)
    · have hsp2 : ¬ (s_ls s).length = 1500 := fun z1 => by rw [z1] at c23; exact absurd c23 (by decide)
      refine ex_aload_n dX4_sell_29 0 rfl ?_
      refine ex_getI dX4_sell_30 fl_X4_21 hB.2.1.2.1 hB.2.1.2.2 ?_
      refine ex_istore [(4, .int (hs_I S l 2)), (0, .ref l), (1, .int y), (2, .int z), (3, .int w)] dX4_sell_33 (by decide) rfl ?_
      refine ex_aload_n dX4_sell_35 1 rfl ?_
      refine ex_getR (b := a5) dX4_sell_36 fl_X4_18 hB.2.1.2.1 hB.2.1.2.2 r5 ?_
      refine ex_aload_n dX4_sell_39 1 rfl ?_
      refine ex_iload dX4_sell_40 0 rfl ?_
      refine ex_iload dX4_sell_42 0 rfl ?_
      refine ex_iload_n dX4_sell_44 3 rfl ?_
      refine ex_iadd dX4_sell_45 ?_
      refine ex_iconst (v := 1) dX4_sell_46 (by decide) ?_
      refine ex_isub dX4_sell_47 ?_
      refine ex_iload_n dX4_sell_48 2 rfl ?_
      refine ex_iload_n dX4_sell_49 4 rfl ?_
      refine ex_cVg [.int (hs_I S l 2), .int (((hs_I S l 2) + z) - 1), .int y, .int w] [.ref a5] dX4_sell_50 cV_X4_30 (c_begin g hB.2.1.2 hlN (t := (s_sd s, s_sd s + m - 1, j, s_td s, none)) (by omega) (by omega) (by omega) hCS.2.1 (by rw [hCS.2.1, hzm, nI_add]; exact pk_sub (a := s_sd s + m) (b := 1) (by omega)) hyj hwd rfl) hB.2.1.2.1 hB.2.1.2.2 rfl rfl rfl (by decide) (Nat.le_of_ble_eq_true rfl) rfl ?_ (fun E S' n' k' h => by obtain ⟨_, _, _, h1, -⟩ := h; cases h1)
      rintro v' S2 n2 k2 ⟨q, ow2, c42, hr2, hq, hq2, hC2, hN2, hc2, hn2, hk2⟩
      cases hr2
      obtain ⟨l5a, o5a, p5a⟩ := al_ck l5 o5 p5 hC2 (by decide) (by decide) (by decide)
      have hl2 : l ∈ hs_L S2 ∧ hs_K S2 l = 4 := ⟨(hC2.1 l hB.2.1.2.1).1, (hC2.1 l hB.2.1.2.1).2.1.trans hB.2.1.2.2⟩
      have r5a : hs_R S2 l 1 = some a5 := by rw [hC2.2.2 l hB.2.1.2.1 (Or.inr (Or.inl hB.2.1.2.2))]; exact r5
      have hc42 : c42 ≤ 5000 := by obtain ⟨_, _, _, w4, _⟩ := id hN2.1; exact w4.2.1.2
      have hc4l : c 4 ≤ 5000 := l4.2.1.2
      refine ex_c1 (fun hE => ?_)
      show ex_W _ _ _ _ 53 [(4, .int (hs_I S l 2)), (0, .ref l), (1, .int y), (2, .int z), (3, .int w)] [.ref q, .ref a5] S2 n2 k2
      refine ex_cVg [.ref q] [] dX4_sell_53 cV_X4_34 (c_AL_add g l5a ⟨hq2.1, hq2.2, by decide⟩ (by rw [List.length_map]; omega) (by omega) (by omega)) l5a.1.1 l5a.1.2.1 rfl rfl rfl (by decide) (Nat.le_of_ble_eq_true rfl) rfl ?_ (fun E S' n' k' h => by obtain ⟨h1, -⟩ := h; cases h1)
      rintro v' S3 n3 k3 ⟨hr3, hpo⟩
      cases hr3
      obtain ⟨ow3, c53, hC3, hL3, hc3, hn3, hk3⟩ := CL_po ⟨hl2.1, Or.inr (Or.inl hl2.2)⟩ r5a l5a o5a p5a hE hpo (Or.inl (by simp))
      have hl3 : l ∈ hs_L S3 ∧ hs_K S3 l = 4 := ⟨(hC3.1 l hl2.1).1, (hC3.1 l hl2.1).2.1.trans hl2.2⟩
      show ex_W _ _ _ _ 56 [(4, .int (hs_I S l 2)), (0, .ref l), (1, .int y), (2, .int z), (3, .int w)] [.int 1] S3 n3 k3
      refine ex_pop dX4_sell_56 rfl ?_
      refine ex_aload_n dX4_sell_57 1 rfl ?_
      refine ex_dup dX4_sell_58 rfl ?_
      refine ex_getI dX4_sell_59 fl_X4_21 hl3.1 hl3.2 ?_
      refine ex_iload_n dX4_sell_62 3 rfl ?_
      refine ex_iadd dX4_sell_63 ?_
      refine ex_putI dX4_sell_64 fl_X4_21 (pf_X4_21 _) hl3.1 hl3.2 ?_
      refine ex_iload dX4_sell_67 0 rfl ?_
      exact ex_irt rfl dX4_sell_69 (by
  have e2 : hs_I S3 l 2 = nI (s_sd s) := by rw [(ck_at (CK_tr (CK_mono hC2 (dk' := []) (ds' := [4, 5]) (by decide) (by decide)) (CK_mono hC3 (by decide) (by decide))) hB.2.1.2.1 hB.2.1.2.2 (by decide) (by decide)).1]; exact hCS.2.1
  have hv : hs_I S3 l 2 + z = nI (s_sd s + m) := by rw [e2, hzm]; exact nI_add _ _
  have hC4 := CK_sI ow3 S3 l 2 (hs_I S3 l 2 + z)
  rw [hl3.2] at hC4
  have hC : CK ow ow3 [4] [4, 5] S (hs_sI S3 l 2 (hs_I S3 l 2 + z)) := CK_tr (CK_tr (CK_mono hC2 (by decide) (by decide)) (CK_mono hC3 (by decide) (by decide))) (CK_mono hC4 (by decide) (by decide))
  have hxk := ck_at hC hB.1.1 hB.1.2 (by decide) (by decide)
  refine ⟨?_, ow3, va_up (va_up c 4 c42) 5 c53, ys ++ [(s_ls s).length], ?_, CK_mono hC (by decide) (by decide), ?_⟩
  · rw [hCS.2.1]; unfold sp_sell; rw [if_neg hsp1, if_neg hsp2]
  · unfold sp_sell
    rw [if_neg hsp1, if_neg hsp2]
    have hN4 := LN1_ck (ds := []) ⟨hl3.1, hl3.2⟩ (LN1_ck ⟨hl2.1, hl2.2⟩ hN2 hC3 (by decide) (by decide) (by decide) (by decide)) hC4 (by decide) (by decide) (by decide) (by decide)
    have hG4 : CG g (hs_sI S3 l 2 (hs_I S3 l 2 + z)) ow3 l c42 c53 (s_ls s ++ [(s_sd s, s_sd s + m - 1, j, s_td s, none)]) (ys ++ [(s_ls s).length]) := by
      refine ⟨la ++ [q], hN4.1, ?_, hN4.2.1, hN4.2.2.1, hN4.2.2.2, GO_new hG rfl (fun i hi => (hO.2.1 i hi).1)⟩
      rw [mp_app (fun i hi => by have := ((hG.2 i).mp hi).1; omega) len4.symm]
      exact CL_ck hL3 ⟨hl3.1, Or.inr (Or.inl hl3.2)⟩ hC4 (by decide) (by decide) (by decide)
    exact ⟨CB_ck hB hC, ⟨by rw [hxk.1]; exact hCS.1, by rw [hs_I_sI, if_pos ⟨rfl, rfl⟩]; exact hv, by rw [hxk.1]; exact hCS.2.2.1, by rw [hxk.2.1]; exact hCS.2.2.2⟩, (CH_ck hB hCH hC (by decide) (by decide) (by decide) (by decide)), hG4, (CT_ck hB hCT hC (by decide) (by decide) (by decide)), (CR_ck hB hCR hC (by decide) (by decide) (by decide) (by decide) (by decide) (by intro j z; simp at z; try omega)), (CN_ck hB hCN hC (by decide) (by decide) (by decide)), (CD_ck hB hCD hC (by decide) (by decide) (by decide) (by decide)), (CW_ck hB hCW hC (by decide) (by decide) (by decide) (by decide))⟩
  · unfold sp_sell
    rw [if_neg hsp1, if_neg hsp2]
    exact ⟨by show n3 + cN c + (s_ls s).length ≤ n + 60 + cN (va_up (va_up c 4 c42) 5 c53) + (s_ls s ++ [_]).length; simp [cN, va_up]; omega, by show k3 + 4 * cN c + 5 * (s_ls s).length ≤ k + 600 + 4 * cN (va_up (va_up c 4 c42) 5 c53) + 5 * (s_ls s ++ [_]).length; simp [cN, va_up]; omega⟩)
    · have hsp2 : (s_ls s).length = 1500 := by
        have z1 : ¬ (s_ls s).length < 1500 := fun z1 => c23 (nI_lt z1 (by decide))
        omega
      refine ex_bipush (v := (-2)) dX4_sell_26 (by decide) ?_
      exact ex_irt rfl dX4_sell_28 (cv_s (by unfold sp_sell; rw [if_neg hsp1, if_pos hsp2]) (by unfold sp_sell; rw [if_neg hsp1, if_pos hsp2]) h)
  · have hsp1 : 1000000000 < s_sd s + m := by
      have z1 : ¬ m ≤ 1000000000 - s_sd s := fun z1 => c8 (by rw [hsub, hzm]; exact nI_le z1 (by omega))
      omega
    refine ex_iconst (v := (-1)) dX4_sell_11 (by decide) ?_
    exact ex_irt rfl dX4_sell_12 (cv_s (by unfold sp_sell; rw [if_pos hsp1]) (by unfold sp_sell; rw [if_pos hsp1]) h)
set_option maxRecDepth 20000 in
set_option maxHeartbeats 4000000 in
theorem c_buy (g : gl_T) {S : hs_T} {n k x l tp nz : Nat} {ow : Nat → Nat} {s : st_T} {ys : List Nat} {c : Nat → Nat} (h : RC g S ow x l tp nz s ys c) (hb : BD s) (hO : OK s) (hn : n + 40000 ≤ ex_NM) (hk : k + 200000 ≤ ex_KM) {y z : Int32} : ex_M g 10 mX9_buy [.ref x, .int y, .int z] S n k (cp g S ow x l tp nz c n k ex3 s (sp_buy s y z)) := by
  refine ex_enter (by decide +kernel) (Nat.le_of_ble_eq_true rfl) ?_
  show ex_W _ _ _ _ 0 [(0, .ref x), (1, .int y), (2, .int z)] [] _ _ _
  obtain ⟨hB, hCS, hCH, hCG, hCT, hCR, hCN, hCD, hCW⟩ := id h
  obtain ⟨bd1, bd2, bd3, ⟨bd4, bd5⟩, bd6, ⟨bd7, bd8⟩, bd9, bd10, bd11, bd12⟩ := id hb
  by_cases hq : hd_ok s y
  · obtain ⟨j, hj, hyj⟩ := hd_of hq bd3
    have hcl : y.toNatClampNeg = j := by rw [hyj]; exact nI_clamp (by omega)
    by_cases hr : 1 ≤ z ∧ z ≤ 10000000
    · obtain ⟨m, hm, hzm⟩ := nI_of2 (x := z) (M := 10000000) (n := 10000000) (by decide) (by have := hr.1; simp only [i_le, i_lt, Int32.reduceToInt] at *; omega) hr.2
      have hm1 : 1 ≤ m := (nI_leI (a := 1) (by decide) (by omega)).mp (hzm ▸ hr.1)
      have hclz : z.toNatClampNeg = m := by rw [hzm]; exact nI_clamp (by omega)
      by_cases hd : (hd_at (s_hs s) j).1 = 1
      · refine ex_aload_n dX9_buy_0 0 rfl ?_
        refine ex_iload_n dX9_buy_1 1 rfl ?_
        refine ex_cVv [.int y] [] dX9_buy_2 cV_X9_75 (c_chkH1 g h hb (by omega) (by omega) hq) hB.1.1 hB.1.2 rfl rfl rfl (by decide) (Nat.le_of_ble_eq_true rfl) rfl ?_
        refine ex_iload_n dX9_buy_5 2 rfl ?_
        refine ex_iconst (v := 1) dX9_buy_6 (by decide) ?_
        refine ex_icmp_lt (tgt := 16) dX9_buy_7 (by decide) (fun c7 => absurd c7 (by have := hr.1; simp only [i_le, i_lt, Int32.reduceToInt] at *; omega)) (fun c7 => ?_)
        refine ex_iload_n dX9_buy_10 2 rfl ?_
        refine ex_ldc dX9_buy_11 lc_X9_79 ?_
        refine ex_icmp_le (tgt := 26) dX9_buy_13 (by decide) (fun c13 => ?_) (fun c13 => absurd hr.2 c13)
        refine ex_aload_n dX9_buy_26 0 rfl ?_
        refine ex_iload_n dX9_buy_27 1 rfl ?_
        exact ex_cVg [.int y] [] dX9_buy_28 cV_X9_85 (c_alive0 g h hb (by omega) (by omega) hyj hj hd) hB.1.1 hB.1.2 rfl rfl rfl (by decide) (Nat.le_of_ble_eq_true rfl) rfl (fun v S9 n9 k9 h9 => by obtain ⟨h9, -⟩ := h9; cases h9) (fun E S9 n9 k9 h9 => by obtain ⟨h91, h92, h93, h94⟩ := h9; cases h91; subst h92 h93 h94; exact (cp_x (code := 3) (by unfold sp_buy; rw [if_pos hq, if_pos hr, hcl, if_pos hd]) (by decide) rfl h))
      · refine ex_aload_n dX9_buy_0 0 rfl ?_
        refine ex_iload_n dX9_buy_1 1 rfl ?_
        refine ex_cVv [.int y] [] dX9_buy_2 cV_X9_75 (c_chkH1 g h hb (by omega) (by omega) hq) hB.1.1 hB.1.2 rfl rfl rfl (by decide) (Nat.le_of_ble_eq_true rfl) rfl ?_
        refine ex_iload_n dX9_buy_5 2 rfl ?_
        refine ex_iconst (v := 1) dX9_buy_6 (by decide) ?_
        refine ex_icmp_lt (tgt := 16) dX9_buy_7 (by decide) (fun c7 => absurd c7 (by have := hr.1; simp only [i_le, i_lt, Int32.reduceToInt] at *; omega)) (fun c7 => ?_)
        refine ex_iload_n dX9_buy_10 2 rfl ?_
        refine ex_ldc dX9_buy_11 lc_X9_79 ?_
        refine ex_icmp_le (tgt := 26) dX9_buy_13 (by decide) (fun c13 => ?_) (fun c13 => absurd hr.2 c13)
        refine ex_aload_n dX9_buy_26 0 rfl ?_
        refine ex_iload_n dX9_buy_27 1 rfl ?_
        refine ex_cVv [.int y] [] dX9_buy_28 cV_X9_85 (c_alive1 g h hb (by omega) (by omega) hyj hj hd) hB.1.1 hB.1.2 rfl rfl rfl (by decide) (Nat.le_of_ble_eq_true rfl) rfl ?_
        refine ex_aload_n dX9_buy_31 0 rfl ?_
        refine ex_getR (b := l) dX9_buy_32 fl_X9_19 hB.1.1 hB.1.2 hB.2.1.1 ?_
        refine ex_iload_n dX9_buy_35 1 rfl ?_
        refine ex_iload_n dX9_buy_36 2 rfl ?_
        refine ex_aload_n dX9_buy_37 0 rfl ?_
        refine ex_getI dX9_buy_38 fl_X9_54 hB.1.1 hB.1.2 ?_
        refine ex_cVg [.int y, .int z, .int (hs_I S x 11)] [] dX9_buy_41 cV_X9_88 (c_sell g h hb hO hn hk hyj hzm hCS.1 hm1 hm) hB.2.1.2.1 hB.2.1.2.2 rfl rfl rfl (by decide) (Nat.le_of_ble_eq_true rfl) rfl ?_ (fun E S' n' k' h => by obtain ⟨h1, -⟩ := h; cases h1)
        rintro v' S2 n2 k2 ⟨hr2, hrest⟩
        cases hr2
        show ex_W _ _ _ _ 44 [(0, .ref x), (1, .int y), (2, .int z)] [.int ((sp_sell s j m).1)] S2 n2 k2
        exact ex_irt rfl dX9_buy_44 (cv_cp (by unfold sp_buy sp_sell; rw [if_pos hq, if_pos hr, hcl, if_neg hd, hclz]; split; rfl; split <;> rfl) ⟨rfl, hrest⟩)
    · refine ex_aload_n dX9_buy_0 0 rfl ?_
      refine ex_iload_n dX9_buy_1 1 rfl ?_
      refine ex_cVv [.int y] [] dX9_buy_2 cV_X9_75 (c_chkH1 g h hb (by omega) (by omega) hq) hB.1.1 hB.1.2 rfl rfl rfl (by decide) (Nat.le_of_ble_eq_true rfl) rfl ?_
      refine ex_iload_n dX9_buy_5 2 rfl ?_
      refine ex_iconst (v := 1) dX9_buy_6 (by decide) ?_
      refine ex_icmp_lt (tgt := 16) dX9_buy_7 (by decide) (fun c7 => ?_) (fun c7 => ?_)
      · exact ex_throw th_X9_80_82_84 dX9_buy_16 dX9_buy_19 dX9_buy_20 dX9_buy_22 dX9_buy_25 (by decide) (Nat.le_of_ble_eq_true rfl) (by omega) (by omega) (cp_x (code := 2) (by unfold sp_buy; rw [if_pos hq, if_neg hr]) (by decide) rfl h)
      · refine ex_iload_n dX9_buy_10 2 rfl ?_
        refine ex_ldc dX9_buy_11 lc_X9_79 ?_
        refine ex_icmp_le (tgt := 26) dX9_buy_13 (by decide) (fun c13 => absurd c13 (fun z1 => hr ⟨by simp only [i_le, i_lt, Int32.reduceToInt] at *; omega, z1⟩)) (fun c13 => ?_)
        exact ex_throw th_X9_80_82_84 dX9_buy_16 dX9_buy_19 dX9_buy_20 dX9_buy_22 dX9_buy_25 (by decide) (Nat.le_of_ble_eq_true rfl) (by omega) (by omega) (cp_x (code := 2) (by unfold sp_buy; rw [if_pos hq, if_neg hr]) (by decide) rfl h)
  · refine ex_aload_n dX9_buy_0 0 rfl ?_
    refine ex_iload_n dX9_buy_1 1 rfl ?_
    exact ex_cVg [.int y] [] dX9_buy_2 cV_X9_75 (c_chkH0 g h hb (by omega) (by omega) hq) hB.1.1 hB.1.2 rfl rfl rfl (by decide) (Nat.le_of_ble_eq_true rfl) rfl (fun v S9 n9 k9 h9 => by obtain ⟨h9, -⟩ := h9; cases h9) (fun E S9 n9 k9 h9 => by obtain ⟨h91, h92, h93, h94⟩ := h9; cases h91; subst h92 h93 h94; exact (cp_x (code := 1) (by unfold sp_buy; rw [if_neg hq]) (by decide) rfl h))
theorem ush_b (v : Int32) (sh : Int32) (k : Nat) (h1 : (sh.toBitVec.smod 32).toNat = k) (h2 : ((sh.toUInt32 &&& Int32.toUInt32 31).toBitVec % 32).toNat = k) (hk : k = 0 ∨ k = 8 ∨ k = 16 ∨ k = 24) : ((v.toUInt32 >>> (sh.toUInt32 &&& Int32.toUInt32 31)).toInt32).toInt8 = (v >>> sh).toInt8 := by
  have e1 := pk_shr v sh k h1
  have e2 := pk_ushr v sh k h2
  generalize (v.toUInt32 >>> (sh.toUInt32 &&& Int32.toUInt32 31)).toInt32 = u at e2 ⊢
  generalize v >>> sh = t at e1 ⊢
  apply Int8.toInt_inj.mp
  rw [Int32.toInt_toInt8, Int32.toInt_toInt8]
  have a1 : u.toInt.emod 256 = t.toInt.emod 256 := by
    have b1 : u.toInt = (u.toBitVec.toNat : Int) ∨ u.toInt = (u.toBitVec.toNat : Int) - 4294967296 := by
      have : u.toInt = u.toBitVec.toInt := rfl
      rw [this, BitVec.toInt_eq_toNat_cond]; split <;> simp
    have b2 : v.toInt = (v.toBitVec.toNat : Int) ∨ v.toInt = (v.toBitVec.toNat : Int) - 4294967296 := by
      have : v.toInt = v.toBitVec.toInt := rfl
      rw [this, BitVec.toInt_eq_toNat_cond]; split <;> simp
    have b3 := v.toBitVec.isLt
    rw [e1, Int.shiftRight_eq_div_pow]
    show u.toInt % 256 = (v.toInt / ((2 ^ k : Nat) : Int)) % 256
    rcases hk with rfl | rfl | rfl | rfl <;> omega
  have a2 : ∀ z : Int, z.bmod 256 = (z.emod 256).bmod 256 := fun z => (Int.emod_bmod z 256).symm
  show u.toInt.bmod 256 = t.toInt.bmod 256
  rw [a2 u.toInt, a2 t.toInt, a1]
def tS (S : hs_T) (x tp i : Nat) (b : Int32) : hs_T := hs_sI (hs_sI S tp i b) x 3 (nI (i + 1))
theorem RC_tp {g : gl_T} {S : hs_T} {ow : Nat → Nat} {x l tp nz : Nat} {s : st_T} {ys : List Nat} {c : Nat → Nat} (h : RC g S ow x l tp nz s ys c) (y : Int32) : RC g (tS S x tp (s_tp s).length y) ow x l tp nz (w_tp s (s_tp s ++ [y])) ys c ∧ CK ow ow [9] [6] S (tS S x tp (s_tp s).length y) := by
  unfold tS
  obtain ⟨hB, hCS, hCH, hCG, hCT, hCR, hCN, hCD, hCW⟩ := h
  have k1 : CK ow ow [9] [6] S (hs_sI S tp (s_tp s).length y) := by
    have := CK_aI ow (S := S) (a := tp) (s_tp s).length y (Or.inl hB.2.2.1.2.2.1)
    rw [hB.2.2.1.2.2.2.2] at this
    exact CK_mono this (by decide) (by decide)
  have hC : CK ow ow [9] [6] S (hs_sI (hs_sI S tp (s_tp s).length y) x 3 (nI ((s_tp s).length + 1))) := CK_tr k1 (CK_mono (CK_x (CB_ck hB k1) 3 _) (by decide) (by decide))
  have hxn : tp ≠ x := fun z => by have e1 := hB.1.2; have e2 := hB.2.2.1.2.2.1; rw [z] at e2; omega
  have hln : l ≠ tp := fun z => by have e1 := hB.2.1.2.2; have e2 := hB.2.2.1.2.2.1; rw [z] at e1; omega
  have htn : nz ≠ tp := fun z => by have e1 := hB.2.2.2.2.2.1; have e2 := hB.2.2.1.2.2.1; rw [z] at e1; omega
  have hB1 := CB_ck hB k1
  have hCS1 : CS (hs_sI S tp (s_tp s).length y) x l (s_td s) (s_sd s) (s_fp s) (s_cr s) := ⟨by rw [hs_I_sI, if_neg (fun z => hxn z.1.symm)]; exact hCS.1, by rw [hs_I_sI, if_neg (fun z => hln z.1)]; exact hCS.2.1, by rw [hs_I_sI, if_neg (fun z => hxn z.1.symm)]; exact hCS.2.2.1, hCS.2.2.2⟩
  have hCN1 : CN (hs_sI S tp (s_tp s).length y) x nz (s_ns s) := ⟨by rw [hs_I_sI, if_neg (fun z => hxn z.1.symm)]; exact hCN.1, fun j hj => by rw [hs_I_sI, if_neg (fun z => htn z.1)]; exact hCN.2 j hj⟩
  have hCT1 : CT (hs_sI (hs_sI S tp (s_tp s).length y) x 3 (nI ((s_tp s).length + 1))) x tp (s_tp s ++ [y]) := by
    refine ⟨by rw [hs_I_sI, if_pos ⟨rfl, rfl⟩]; simp, fun j hj => ?_⟩
    simp at hj
    rw [hs_I_sI, if_neg (fun z => hxn z.1), hs_I_sI, gd_app]
    by_cases q : j = (s_tp s).length
    · rw [if_pos ⟨rfl, q⟩, if_pos q]
    · rw [if_neg (fun z => q z.2), if_neg q]; exact hCT.2 j (by omega)
  exact ⟨⟨CB_ck hB hC, (CS_xI hB1 hCS1 3 _ (by decide) (by decide)), (CH_ck hB hCH hC (by decide) (by decide) (by decide) (by decide)), (CG_ck hB hCG hC (by decide) (by decide) (by decide) (by decide) (by decide)), hCT1, (CR_ck hB hCR hC (by decide) (by decide) (by decide) (by decide) (by decide) (by intro j z; simp at z; try omega)), (CN_xI hB1 hCN1 3 _ (by decide)), (CD_ck hB hCD hC (by decide) (by decide) (by decide) (by decide)), (CW_ck hB hCW hC (by decide) (by decide) (by decide) (by decide))⟩, hC⟩
set_option maxRecDepth 20000 in
set_option maxHeartbeats 2000000 in
theorem c_put_b {g : gl_T} {S : hs_T} {n k x l tp nz i : Nat} {ow : Nat → Nat} {Po : ex_R} {v sh : Int32} {q : Nat} (hB : CB S ow x l tp nz) (hi : hs_I S x 3 = nI i) (hi2 : i < 400) (h1 : (sh.toBitVec.smod 32).toNat = q) (h2 : ((sh.toUInt32 &&& Int32.toUInt32 31).toBitVec % 32).toNat = q) (hq : q = 0 ∨ q = 8 ∨ q = 16 ∨ q = 24) (hsh : sh &&& 31 = sh) (kk : ex_W g 0 mX9_putOnTape Po 49 [(2, .int sh), (0, .ref x), (1, .int v)] [] (tS S x tp i (fb1 v sh)) n k) : ex_W g 0 mX9_putOnTape Po 7 [(2, .int sh), (0, .ref x), (1, .int v)] [] S n k := by
  refine ex_aload_n dX9_putOnTape_7 1 rfl ?_
  refine ex_getI dX9_putOnTape_8 fl_X9_27 hB.1.1 hB.1.2 ?_
  refine ex_if_lt (tgt := 49) dX9_putOnTape_11 (by decide) (fun c11 => absurd c11 (by rw [hi]; exact nI_pos (by omega))) (fun c11 => ?_)
  refine ex_aload_n dX9_putOnTape_14 1 rfl ?_
  refine ex_getI dX9_putOnTape_15 fl_X9_27 hB.1.1 hB.1.2 ?_
  refine ex_aload_n dX9_putOnTape_18 1 rfl ?_
  refine ex_getR (b := tp) dX9_putOnTape_19 fl_X9_23 hB.1.1 hB.1.2 hB.2.2.1.1 ?_
  refine ex_alen dX9_putOnTape_22 hB.2.2.1.2.1 (by rw [hB.2.2.1.2.2.1]; decide) ?_
  refine ex_icmp_ge (tgt := 49) dX9_putOnTape_23 (by decide) (fun c23 => absurd c23 (by rw [hi, hB.2.2.1.2.2.2.1]; exact fun z => absurd ((nI_leI (by omega) (by omega)).mp z) (by omega))) (fun c23 => ?_)
  refine ex_aload_n dX9_putOnTape_26 1 rfl ?_
  refine ex_getR (b := tp) dX9_putOnTape_27 fl_X9_23 hB.1.1 hB.1.2 hB.2.2.1.1 ?_
  refine ex_aload_n dX9_putOnTape_30 1 rfl ?_
  refine ex_getI dX9_putOnTape_31 fl_X9_27 hB.1.1 hB.1.2 ?_
  refine ex_iload_n dX9_putOnTape_34 2 rfl ?_
  refine ex_iload_n dX9_putOnTape_35 0 rfl ?_
  refine ex_iushr dX9_putOnTape_36 ?_
  refine ex_i2b dX9_putOnTape_37 ?_
  refine ex_bast (j := i) dX9_putOnTape_38 hB.2.2.1.2.1 hB.2.2.1.2.2.1 hi (by rw [hB.2.2.1.2.2.2.1]; exact hi2) (by omega) ?_
  refine ex_aload_n dX9_putOnTape_39 1 rfl ?_
  refine ex_dup dX9_putOnTape_40 rfl ?_
  refine ex_getI dX9_putOnTape_41 fl_X9_27 hB.1.1 hB.1.2 ?_
  refine ex_iconst (v := 1) dX9_putOnTape_44 (by decide) ?_
  refine ex_iadd dX9_putOnTape_45 ?_
  refine ex_putI dX9_putOnTape_46 fl_X9_27 (pf_X9_27 _) hB.1.1 hB.1.2 ?_
  have he : hs_sI (hs_sI S tp i (vp_nar .byte (((v.toUInt32 >>> (sh.toUInt32 &&& Int32.toUInt32 31)).toInt32).toInt8.toInt32))) x 3 ((hs_I (hs_sI S tp i (vp_nar .byte (((v.toUInt32 >>> (sh.toUInt32 &&& Int32.toUInt32 31)).toInt32).toInt8.toInt32))) x 3) + 1) = tS S x tp i (fb1 v sh) := by
    have hxn : x ≠ tp := fun z => by have e1 := hB.1.2; have e2 := hB.2.2.1.2.2.1; rw [← z] at e2; omega
    unfold tS fb1
    rw [hsh]
    have hw : vp_nar .byte (((v.toUInt32 >>> (sh.toUInt32 &&& Int32.toUInt32 31)).toInt32).toInt8.toInt32) = (v >>> sh).toInt8.toInt32 := by rw [pk_vb, ush_b v sh q h1 h2 hq]
    rw [hw, hs_I_sI, if_neg (fun z => hxn z.1), hi, nI_1]
  rw [he]
  exact kk
set_option maxRecDepth 20000 in
set_option maxHeartbeats 4000000 in
theorem c_put (g : gl_T) {S : hs_T} {n k x l tp nz : Nat} {ow : Nat → Nat} {s : st_T} {ys : List Nat} {c : Nat → Nat} (h : RC g S ow x l tp nz s ys c) (hl : (s_tp s).length ≤ 396) {v : Int32} : ex_M g 0 mX9_putOnTape [.ref x, .int v] S n k (fun r S' n' k' => r = .inl none ∧ RC g S' ow x l tp nz (w_tp s (s_tp s ++ fb v)) ys c ∧ CK ow ow [9] [6] S S' ∧ n' = n ∧ k' = k) := by
  have h1 := h
  have q1 := CK_rf ow [9] [6] S
  have hB := h.1
  refine ex_enter (by decide +kernel) (Nat.le_of_ble_eq_true rfl) ?_
  show ex_W _ _ _ _ 0 [(0, .ref x), (1, .int v)] [] _ _ _
  refine ex_bipush (v := 24) dX9_putOnTape_0 (by decide) ?_
  refine ex_istore_n [(2, .int 24), (0, .ref x), (1, .int v)] dX9_putOnTape_2 (by decide) rfl ?_
  refine ex_iload_n dX9_putOnTape_3 0 rfl ?_
  refine ex_if_lt (tgt := 55) dX9_putOnTape_4 (by decide) (fun c4 => absurd c4 (by decide)) (fun c4 => ?_)
  refine c_put_b (q := 24) (i := (s_tp s).length) h1.1 h1.2.2.2.2.1.1 (by first | omega | (simp only [tpl, List.length_append, List.length_cons, List.length_nil]; omega)) (by decide) (by decide) (by decide) (by decide) ?_
  have w1 : RC g (tS S x tp (s_tp s).length (fb1 v 24)) ow x l tp nz (w_tp s (s_tp s ++ [fb1 v 24])) ys c ∧ CK ow ow [9] [6] S (tS S x tp (s_tp s).length (fb1 v 24)) := RC_tp h1 (fb1 v 24)
  have h2 : RC g (tS S x tp (s_tp s).length (fb1 v 24)) ow x l tp nz (w_tp s (s_tp s ++ [fb1 v 24])) ys c := w1.1
  have q2 := CK_tr q1 w1.2
  generalize hg1 : tS S x tp (s_tp s).length (fb1 v 24) = S2 at h2 q2 w1 ⊢
  have hB := h2.1
  refine ex_iinc (v := 16) 0 [(2, .int 16), (0, .ref x), (1, .int v)] dX9_putOnTape_49 rfl (by decide) (by decide) rfl ?_
  refine ex_goto (tgt := 3) dX9_putOnTape_52 (by decide) ?_
  refine ex_iload_n dX9_putOnTape_3 0 rfl ?_
  refine ex_if_lt (tgt := 55) dX9_putOnTape_4 (by decide) (fun c4 => absurd c4 (by decide)) (fun c4 => ?_)
  refine c_put_b (q := 16) (i := (s_tp s ++ [fb1 v 24]).length) h2.1 h2.2.2.2.2.1.1 (by first | omega | (simp only [tpl, List.length_append, List.length_cons, List.length_nil]; omega)) (by decide) (by decide) (by decide) (by decide) ?_
  have w2 : RC g (tS S2 x tp (s_tp s ++ [fb1 v 24]).length (fb1 v 16)) ow x l tp nz (w_tp s (s_tp s ++ [fb1 v 24] ++ [fb1 v 16])) ys c ∧ CK ow ow [9] [6] S2 (tS S2 x tp (s_tp s ++ [fb1 v 24]).length (fb1 v 16)) := RC_tp h2 (fb1 v 16)
  have h3 : RC g (tS S2 x tp (s_tp s ++ [fb1 v 24]).length (fb1 v 16)) ow x l tp nz (w_tp s (s_tp s ++ [fb1 v 24] ++ [fb1 v 16])) ys c := w2.1
  have q3 := CK_tr q2 w2.2
  generalize hg2 : tS S2 x tp (s_tp s ++ [fb1 v 24]).length (fb1 v 16) = S3 at h3 q3 w2 ⊢
  have hB := h3.1
  refine ex_iinc (v := 8) 0 [(2, .int 8), (0, .ref x), (1, .int v)] dX9_putOnTape_49 rfl (by decide) (by decide) rfl ?_
  refine ex_goto (tgt := 3) dX9_putOnTape_52 (by decide) ?_
  refine ex_iload_n dX9_putOnTape_3 0 rfl ?_
  refine ex_if_lt (tgt := 55) dX9_putOnTape_4 (by decide) (fun c4 => absurd c4 (by decide)) (fun c4 => ?_)
  refine c_put_b (q := 8) (i := (s_tp s ++ [fb1 v 24] ++ [fb1 v 16]).length) h3.1 h3.2.2.2.2.1.1 (by first | omega | (simp only [tpl, List.length_append, List.length_cons, List.length_nil]; omega)) (by decide) (by decide) (by decide) (by decide) ?_
  have w3 : RC g (tS S3 x tp (s_tp s ++ [fb1 v 24] ++ [fb1 v 16]).length (fb1 v 8)) ow x l tp nz (w_tp s (s_tp s ++ [fb1 v 24] ++ [fb1 v 16] ++ [fb1 v 8])) ys c ∧ CK ow ow [9] [6] S3 (tS S3 x tp (s_tp s ++ [fb1 v 24] ++ [fb1 v 16]).length (fb1 v 8)) := RC_tp h3 (fb1 v 8)
  have h4 : RC g (tS S3 x tp (s_tp s ++ [fb1 v 24] ++ [fb1 v 16]).length (fb1 v 8)) ow x l tp nz (w_tp s (s_tp s ++ [fb1 v 24] ++ [fb1 v 16] ++ [fb1 v 8])) ys c := w3.1
  have q4 := CK_tr q3 w3.2
  generalize hg3 : tS S3 x tp (s_tp s ++ [fb1 v 24] ++ [fb1 v 16]).length (fb1 v 8) = S4 at h4 q4 w3 ⊢
  have hB := h4.1
  refine ex_iinc (v := 0) 0 [(2, .int 0), (0, .ref x), (1, .int v)] dX9_putOnTape_49 rfl (by decide) (by decide) rfl ?_
  refine ex_goto (tgt := 3) dX9_putOnTape_52 (by decide) ?_
  refine ex_iload_n dX9_putOnTape_3 0 rfl ?_
  refine ex_if_lt (tgt := 55) dX9_putOnTape_4 (by decide) (fun c4 => absurd c4 (by decide)) (fun c4 => ?_)
  refine c_put_b (q := 0) (i := (s_tp s ++ [fb1 v 24] ++ [fb1 v 16] ++ [fb1 v 8]).length) h4.1 h4.2.2.2.2.1.1 (by first | omega | (simp only [tpl, List.length_append, List.length_cons, List.length_nil]; omega)) (by decide) (by decide) (by decide) (by decide) ?_
  have w4 : RC g (tS S4 x tp (s_tp s ++ [fb1 v 24] ++ [fb1 v 16] ++ [fb1 v 8]).length (fb1 v 0)) ow x l tp nz (w_tp s (s_tp s ++ [fb1 v 24] ++ [fb1 v 16] ++ [fb1 v 8] ++ [fb1 v 0])) ys c ∧ CK ow ow [9] [6] S4 (tS S4 x tp (s_tp s ++ [fb1 v 24] ++ [fb1 v 16] ++ [fb1 v 8]).length (fb1 v 0)) := RC_tp h4 (fb1 v 0)
  have h5 : RC g (tS S4 x tp (s_tp s ++ [fb1 v 24] ++ [fb1 v 16] ++ [fb1 v 8]).length (fb1 v 0)) ow x l tp nz (w_tp s (s_tp s ++ [fb1 v 24] ++ [fb1 v 16] ++ [fb1 v 8] ++ [fb1 v 0])) ys c := w4.1
  have q5 := CK_tr q4 w4.2
  generalize hg4 : tS S4 x tp (s_tp s ++ [fb1 v 24] ++ [fb1 v 16] ++ [fb1 v 8]).length (fb1 v 0) = S5 at h5 q5 w4 ⊢
  have hB := h5.1
  refine ex_iinc (v := (-8)) 0 [(2, .int (-8)), (0, .ref x), (1, .int v)] dX9_putOnTape_49 rfl (by decide) (by decide) rfl ?_
  refine ex_goto (tgt := 3) dX9_putOnTape_52 (by decide) ?_
  refine ex_iload_n dX9_putOnTape_3 0 rfl ?_
  refine ex_if_lt (tgt := 55) dX9_putOnTape_4 (by decide) (fun c4 => ?_) (fun c4 => absurd (by decide) c4)
  have e4 : w_tp s ((((s_tp s ++ [fb1 v 24]) ++ [fb1 v 16]) ++ [fb1 v 8]) ++ [fb1 v 0]) = w_tp s (s_tp s ++ fb v) := by simp [fb]
  exact ex_vrt rfl dX9_putOnTape_55 ⟨rfl, e4 ▸ h5, q5, rfl, rfl⟩
set_option maxRecDepth 20000 in
set_option maxHeartbeats 4000000 in
theorem c_feed (g : gl_T) {S : hs_T} {n k x l tp nz : Nat} {ow : Nat → Nat} {s : st_T} {ys : List Nat} {c : Nat → Nat} (h : RC g S ow x l tp nz s ys c) (hb : BD s) (hO : OK s) (hn : n + 40000 ≤ ex_NM) (hk : k + 200000 ≤ ex_KM) {y1 y2 y3 y4 y5 : Int32} : ex_M g 6 mX9_feed [.ref x, .int y1, .int y2, .int y3, .int y4, .int y5] S n k (cp g S ow x l tp nz c n k (exN exS) s (sp_feed s y1 y2 y3 y4 y5)) := by
  refine ex_enter (by decide +kernel) (Nat.le_of_ble_eq_true rfl) ?_
  show ex_W _ _ _ _ 0 [(0, .ref x), (1, .int y1), (2, .int y2), (3, .int y3), (4, .int y4), (5, .int y5)] [] _ _ _
  obtain ⟨hB, hCS, hCH, hCG, hCT, hCR, hCN, hCD, hCW⟩ := id h
  obtain ⟨bd1, bd2, bd3, ⟨bd4, bd5⟩, bd6, ⟨bd7, bd8⟩, bd9, bd10, bd11, bd12⟩ := id hb
  have h1 := h
  have q1 := CK_rf ow [9] [6] S
  refine ex_aload_n dX9_feed_0 0 rfl ?_
  refine ex_getI dX9_feed_1 fl_X9_27 hB.1.1 hB.1.2 ?_
  refine ex_sipush (v := 380) dX9_feed_4 (by decide) ?_
  refine ex_icmp_le (tgt := 12) dX9_feed_7 (by decide) (fun c7 => ?_) (fun c7 => ?_)
  · have hle : ¬ 380 < (s_tp s).length := fun q => by
      rw [hCT.1] at c7
      have := (nI_leI (b := 380) (by omega) (by decide)).mp c7
      omega
    refine ex_aload_n dX9_feed_12 0 rfl ?_
    refine ex_iload_n dX9_feed_13 1 rfl ?_
    refine ex_cVg [.int y1] [] dX9_feed_14 cV_X9_145 (c_put g h1 (by first | omega | (simp only [tpl, List.length_append, fb, List.length_cons, List.length_nil]; omega))) hB.1.1 hB.1.2 rfl rfl rfl (by decide) (Nat.le_of_ble_eq_true rfl) rfl ?_ (fun E S' n' k' h => by obtain ⟨h1, -⟩ := h; cases h1)
    rintro v' S2 n' k' ⟨hr2, h2, w1, hn2, hk2⟩
    cases hr2
    have hn2 := hn2.symm
    have hk2 := hk2.symm
    subst hn2 hk2
    have q2 := CK_tr q1 w1
    have hB := h2.1
    show ex_W _ _ _ _ 17 [(0, .ref x), (1, .int y1), (2, .int y2), (3, .int y3), (4, .int y4), (5, .int y5)] [] S2 n k
    refine ex_aload_n dX9_feed_17 0 rfl ?_
    refine ex_iload_n dX9_feed_18 2 rfl ?_
    refine ex_cVg [.int y2] [] dX9_feed_19 cV_X9_145 (c_put g h2 (by first | omega | (simp only [tpl, List.length_append, fb, List.length_cons, List.length_nil]; omega))) hB.1.1 hB.1.2 rfl rfl rfl (by decide) (Nat.le_of_ble_eq_true rfl) rfl ?_ (fun E S' n' k' h => by obtain ⟨h1, -⟩ := h; cases h1)
    rintro v' S3 n' k' ⟨hr2, h3, w2, hn2, hk2⟩
    cases hr2
    have hn2 := hn2.symm
    have hk2 := hk2.symm
    subst hn2 hk2
    have q3 := CK_tr q2 w2
    have hB := h3.1
    show ex_W _ _ _ _ 22 [(0, .ref x), (1, .int y1), (2, .int y2), (3, .int y3), (4, .int y4), (5, .int y5)] [] S3 n k
    refine ex_aload_n dX9_feed_22 0 rfl ?_
    refine ex_iload_n dX9_feed_23 3 rfl ?_
    refine ex_cVg [.int y3] [] dX9_feed_24 cV_X9_145 (c_put g h3 (by first | omega | (simp only [tpl, List.length_append, fb, List.length_cons, List.length_nil]; omega))) hB.1.1 hB.1.2 rfl rfl rfl (by decide) (Nat.le_of_ble_eq_true rfl) rfl ?_ (fun E S' n' k' h => by obtain ⟨h1, -⟩ := h; cases h1)
    rintro v' S4 n' k' ⟨hr2, h4, w3, hn2, hk2⟩
    cases hr2
    have hn2 := hn2.symm
    have hk2 := hk2.symm
    subst hn2 hk2
    have q4 := CK_tr q3 w3
    have hB := h4.1
    show ex_W _ _ _ _ 27 [(0, .ref x), (1, .int y1), (2, .int y2), (3, .int y3), (4, .int y4), (5, .int y5)] [] S4 n k
    refine ex_aload_n dX9_feed_27 0 rfl ?_
    refine ex_iload dX9_feed_28 4 rfl ?_
    refine ex_cVg [.int y4] [] dX9_feed_30 cV_X9_145 (c_put g h4 (by first | omega | (simp only [tpl, List.length_append, fb, List.length_cons, List.length_nil]; omega))) hB.1.1 hB.1.2 rfl rfl rfl (by decide) (Nat.le_of_ble_eq_true rfl) rfl ?_ (fun E S' n' k' h => by obtain ⟨h1, -⟩ := h; cases h1)
    rintro v' S5 n' k' ⟨hr2, h5, w4, hn2, hk2⟩
    cases hr2
    have hn2 := hn2.symm
    have hk2 := hk2.symm
    subst hn2 hk2
    have q5 := CK_tr q4 w4
    have hB := h5.1
    show ex_W _ _ _ _ 33 [(0, .ref x), (1, .int y1), (2, .int y2), (3, .int y3), (4, .int y4), (5, .int y5)] [] S5 n k
    refine ex_aload_n dX9_feed_33 0 rfl ?_
    refine ex_iload dX9_feed_34 5 rfl ?_
    refine ex_cVg [.int y5] [] dX9_feed_36 cV_X9_145 (c_put g h5 (by first | omega | (simp only [tpl, List.length_append, fb, List.length_cons, List.length_nil]; omega))) hB.1.1 hB.1.2 rfl rfl rfl (by decide) (Nat.le_of_ble_eq_true rfl) rfl ?_ (fun E S' n' k' h => by obtain ⟨h1, -⟩ := h; cases h1)
    rintro v' S6 n' k' ⟨hr2, h6, w5, hn2, hk2⟩
    cases hr2
    have hn2 := hn2.symm
    have hk2 := hk2.symm
    subst hn2 hk2
    have q6 := CK_tr q5 w5
    have hB := h6.1
    show ex_W _ _ _ _ 39 [(0, .ref x), (1, .int y1), (2, .int y2), (3, .int y3), (4, .int y4), (5, .int y5)] [] S6 n k
    refine ex_aload_n dX9_feed_39 0 rfl ?_
    refine ex_getI dX9_feed_40 fl_X9_27 hB.1.1 hB.1.2 ?_
    exact ex_irt rfl dX9_feed_43 (cp_i (by unfold sp_feed; rw [if_neg hle, h6.2.2.2.2.1.1]; simp [tpl, fb]; rfl) h6 (CK_mono q6 (by decide) (by decide)) (rb_eq rfl _ _ _))
  · have hgt : 380 < (s_tp s).length := Nat.lt_of_not_le (fun q => c7 (by rw [hCT.1]; exact nI_le q (by decide)))
    refine ex_iconst (v := (-1)) dX9_feed_10 (by decide) ?_
    exact ex_irt rfl dX9_feed_11 (cp_s (by unfold sp_feed; rw [if_pos hgt]) h)
