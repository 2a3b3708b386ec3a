set_option maxRecDepth 20000 in
set_option maxHeartbeats 4000000 in
theorem c_draw (g : gl_T) {S : hs_T} {n k x l tp nz : Nat} {ow : Nat → Nat} {s : st_T} {ys : List Nat} {c : Nat → Nat} (h : RC g S ow x l tp nz s ys c) (hb : BD s) (hO : OK s) (hn : n + 40000 ≤ ex_NM) (hk : k + 200000 ≤ ex_KM)  : ex_M g 10 mX9_draw [.ref x] S n k (cp g S ow x l tp nz c n k (exN exS) s (sp_draw s ys)) := by
  refine ex_enter (by decide +kernel) (Nat.le_of_ble_eq_true rfl) ?_
  show ex_W _ _ _ _ 0 [(0, .ref x)] [] _ _ _
  obtain ⟨hB, hCS, hCH, hCG, hCT, hCR, hCN, hCD, hCW⟩ := id h
  obtain ⟨bd1, bd2, bd3, ⟨bd4, bd5⟩, bd6, ⟨bd7, bd8⟩, bd9, bd10, bd11, bd12⟩ := id hb
  obtain ⟨ra, ⟨a1, e1, r1, l1, o1, p1⟩, len1, f1⟩ := id hCR
  obtain ⟨da, ⟨a2, e2, r2, l2, o2, p2⟩, len2, f2⟩ := id hCD
  obtain ⟨la9, _, _, _, _, _, hG⟩ := id hCG
  have hcall : ∀ n k, ex_M g 3 mX9_force [.ref x, .int (hs_I S x 11)] S n k (ex_rt (some (.int (eN (fo (s_rs s) (nI (s_td s)) (s_rs s).length)))) S n k) := fun n k => by rw [hCS.1]; exact c_forceOf g h hb
  rcases hfo : fo (s_rs s) (nI (s_td s)) (s_rs s).length with _ | r
  · rw [hfo] at hcall
    refine ex_aload_n dX9_draw_0 0 rfl ?_
    refine ex_aload_n dX9_draw_1 0 rfl ?_
    refine ex_getI dX9_draw_2 fl_X9_54 hB.1.1 hB.1.2 ?_
    refine ex_cVr [.int (hs_I S x 11)] [] dX9_draw_5 cV_X9_172 (hcall _ _) hB.1.1 hB.1.2 rfl rfl rfl (by decide) (Nat.le_of_ble_eq_true rfl) rfl ?_
    refine ex_istore_n [(1, .int (-1)), (0, .ref x)] dX9_draw_8 (by decide) rfl ?_
    refine ex_iload_n dX9_draw_9 0 rfl ?_
    refine ex_if_lt (tgt := 24) dX9_draw_10 (by decide) (fun c10 => ?_) (fun c10 => absurd (by decide) c10)
    refine ex_iconst (v := (-1)) dX9_draw_24 (by decide) ?_
    exact ex_irt rfl dX9_draw_25 (cp_s (by unfold sp_draw; rw [hfo]) h)
  · rw [hfo] at hcall
    have hr := fo_lt _ _ _ _ hfo
    have hr20 : r < 20 := by omega
    have hMle := d_Mlc hb hG r
    have mj := al_mem l1 (j := r) (by omega)
    obtain ⟨g0, cc, ca, gL, gl, gf⟩ := f1 r hr
    have hU : CUo g S ow (ra.getD r 0) r (ru_at (s_rs s) r).2 ca := ⟨⟨mj.1, mj.2⟩, cc, gL, gl, gf⟩
    have hcok := hO.2.2.1 r hr
    have hc10 := (bd8 r hr).2
    have hdy := dy_le hcok _ (Nat.le_refl _)
    have hCUr := CU_of hU hc10 hcok
    have hdays : ∀ n k, ex_M g 3 mX6_daysNeeded [.ref (ra.getD r 0)] S n k (ex_rt (some (.int (nI (d_dy s r)))) S n k) := fun n k => c_days g hCUr
    obtain ⟨yy, hyy⟩ : ∃ yy, hs_I S x 11 - nI (d_dy s r) = yy := ⟨_, rfl⟩
    have hpf : ∀ j, j < (s_ls s).length → (nI (ln_at (s_ls s) j).2.2.2.1 ≤ yy ↔ (fun i => decide ((ln_at (s_ls s) i).2.2.2.1 + d_dy s r ≤ s_td s)) j = true) := fun j hj => by
      have b1 := (bd5 j hj).2.2.2.1
      have b2 : d_dy s r ≤ 1000000000 := hdy
      rw [← hyy, hCS.1, i_le, pk_sub_toInt (by omega) (by omega), nI_toInt (by omega), decide_eq_true_iff]
      omega
    have hsin : ∀ n k, ex_M g 3 mX4_bondsSince [.ref l, .int yy] S n k (ex_rt (some (.int (nI (d_M s ys r)))) S n k) := fun n k => by
      have z := c_since g (n := n) (k := k) (RC_LG h hb) hpf
      rw [← sm_filter (fun j => ln_sz (ln_at (s_ls s) j)), ← sz_sm] at z
      exact z
    by_cases hn2 : (s_ns s).length < 2
    · refine ex_aload_n dX9_draw_0 0 rfl ?_
      refine ex_aload_n dX9_draw_1 0 rfl ?_
      refine ex_getI dX9_draw_2 fl_X9_54 hB.1.1 hB.1.2 ?_
      refine ex_cVr [.int (hs_I S x 11)] [] dX9_draw_5 cV_X9_172 (hcall _ _) hB.1.1 hB.1.2 rfl rfl rfl (by decide) (Nat.le_of_ble_eq_true rfl) rfl ?_
      refine ex_istore_n [(1, .int (nI r)), (0, .ref x)] dX9_draw_8 (by decide) rfl ?_
      refine ex_iload_n dX9_draw_9 0 rfl ?_
      refine ex_if_lt (tgt := 24) dX9_draw_10 (by decide) (fun c10 => absurd c10 (fun z => by rw [i_lt, nI_toInt (by omega)] at z; have e : Int32.toInt 0 = 0 := rfl; omega)) (fun c10 => ?_)
      refine ex_iload_n dX9_draw_13 0 rfl ?_
      refine ex_aload_n dX9_draw_14 1 rfl ?_
      refine ex_getR (b := a1) dX9_draw_15 fl_X9_31 hB.1.1 hB.1.2 r1 ?_
      refine ex_cVr [] [.int (nI r)] dX9_draw_18 cV_X9_57 (c_szn g l1 len1) l1.1.1 l1.1.2.1 rfl rfl rfl (by decide) (Nat.le_of_ble_eq_true rfl) rfl ?_
      refine ex_icmp_lt (tgt := 26) dX9_draw_21 (by decide) (fun c21 => ?_) (fun c21 => absurd (nI_lt hr (by omega)) c21)
      refine ex_aload_n dX9_draw_26 1 rfl ?_
      refine ex_getI dX9_draw_27 fl_X9_41 hB.1.1 hB.1.2 ?_
      refine ex_iconst (v := 2) dX9_draw_30 (by decide) ?_
      refine ex_icmp_ge (tgt := 37) dX9_draw_31 (by decide) (fun c31 => absurd c31 (fun z => absurd ((nI_leI (a := 2) (by decide) (by omega)).mp (hCN.1 ▸ z)) (by omega))) (fun c31 => ?_)
      refine ex_bipush (v := (-2)) dX9_draw_34 (by decide) ?_
      exact ex_irt rfl dX9_draw_36 (cp_s (by unfold sp_draw; rw [hfo]; show (if _ then _ else _) = _; rw [if_pos hn2]) h)
    · by_cases hM0 : d_M s ys r = 0
      · refine ex_aload_n dX9_draw_0 0 rfl ?_
        refine ex_aload_n dX9_draw_1 0 rfl ?_
        refine ex_getI dX9_draw_2 fl_X9_54 hB.1.1 hB.1.2 ?_
        refine ex_cVr [.int (hs_I S x 11)] [] dX9_draw_5 cV_X9_172 (hcall _ _) hB.1.1 hB.1.2 rfl rfl rfl (by decide) (Nat.le_of_ble_eq_true rfl) rfl ?_
        refine ex_istore_n [(1, .int (nI r)), (0, .ref x)] dX9_draw_8 (by decide) rfl ?_
        refine ex_iload_n dX9_draw_9 0 rfl ?_
        refine ex_if_lt (tgt := 24) dX9_draw_10 (by decide) (fun c10 => absurd c10 (fun z => by rw [i_lt, nI_toInt (by omega)] at z; have e : Int32.toInt 0 = 0 := rfl; omega)) (fun c10 => ?_)
        refine ex_iload_n dX9_draw_13 0 rfl ?_
        refine ex_aload_n dX9_draw_14 1 rfl ?_
        refine ex_getR (b := a1) dX9_draw_15 fl_X9_31 hB.1.1 hB.1.2 r1 ?_
        refine ex_cVr [] [.int (nI r)] dX9_draw_18 cV_X9_57 (c_szn g l1 len1) l1.1.1 l1.1.2.1 rfl rfl rfl (by decide) (Nat.le_of_ble_eq_true rfl) rfl ?_
        refine ex_icmp_lt (tgt := 26) dX9_draw_21 (by decide) (fun c21 => ?_) (fun c21 => absurd (nI_lt hr (by omega)) c21)
        refine ex_aload_n dX9_draw_26 1 rfl ?_
        refine ex_getI dX9_draw_27 fl_X9_41 hB.1.1 hB.1.2 ?_
        refine ex_iconst (v := 2) dX9_draw_30 (by decide) ?_
        refine ex_icmp_ge (tgt := 37) dX9_draw_31 (by decide) (fun c31 => ?_) (fun c31 => absurd (by rw [hCN.1]; exact nI_le (a := 2) (by omega) (by omega)) c31)
        refine ex_aload_n dX9_draw_37 1 rfl ?_
        refine ex_getR (b := a1) dX9_draw_38 fl_X9_31 hB.1.1 hB.1.2 r1 ?_
        refine ex_iload_n dX9_draw_41 0 rfl ?_
        refine ex_cVr [.int (nI r)] [] dX9_draw_42 cV_X9_103 (c_getj g l1 rfl (by omega)) l1.1.1 l1.1.2.1 rfl rfl rfl (by decide) (Nat.le_of_ble_eq_true rfl) rfl ?_
        refine ex_cast dX9_draw_45 mj.1 mj.2 rfl kl_X9_152 ?_
        refine ex_astore_n [(2, .ref (ra.getD r 0)), (1, .int (nI r)), (0, .ref x)] dX9_draw_48 (by decide) rfl ?_
        refine ex_aload_n dX9_draw_49 2 rfl ?_
        refine ex_getI dX9_draw_50 fl_X9_54 hB.1.1 hB.1.2 ?_
        refine ex_aload_n dX9_draw_53 0 rfl ?_
        refine ex_cVr [] [.int (hs_I S x 11)] dX9_draw_54 cV_X9_175 (hdays _ _) mj.1 mj.2 rfl rfl rfl (by decide) (Nat.le_of_ble_eq_true rfl) rfl ?_
        refine ex_isub dX9_draw_57 ?_
        rw [hyy]
        refine ex_istore_n [(3, .int yy), (2, .ref (ra.getD r 0)), (1, .int (nI r)), (0, .ref x)] dX9_draw_58 (by decide) rfl ?_
        refine ex_aload_n dX9_draw_59 3 rfl ?_
        refine ex_getR (b := l) dX9_draw_60 fl_X9_19 hB.1.1 hB.1.2 hB.2.1.1 ?_
        refine ex_iload_n dX9_draw_63 0 rfl ?_
        refine ex_cVr [.int yy] [] dX9_draw_64 cV_X9_178 (hsin _ _) hB.2.1.2.1 hB.2.1.2.2 rfl rfl rfl (by decide) (Nat.le_of_ble_eq_true rfl) rfl ?_
        refine ex_istore [(4, .int (nI (d_M s ys r))), (3, .int yy), (2, .ref (ra.getD r 0)), (1, .int (nI r)), (0, .ref x)] dX9_draw_67 (by decide) rfl ?_
        refine ex_iload dX9_draw_69 0 rfl ?_
        refine ex_iconst (v := 1) dX9_draw_71 (by decide) ?_
        refine ex_icmp_ge (tgt := 78) dX9_draw_72 (by decide) (fun c72 => absurd c72 (by rw [hM0]; decide)) (fun c72 => ?_)
        refine ex_bipush (v := (-3)) dX9_draw_75 (by decide) ?_
        exact ex_irt rfl dX9_draw_77 (cp_s (by unfold sp_draw; rw [hfo]; show (if _ then _ else _) = _; rw [if_neg hn2, if_pos hM0]) h)
      · by_cases h40 : (s_ds s).length = 40
        · refine ex_aload_n dX9_draw_0 0 rfl ?_
          refine ex_aload_n dX9_draw_1 0 rfl ?_
          refine ex_getI dX9_draw_2 fl_X9_54 hB.1.1 hB.1.2 ?_
          refine ex_cVr [.int (hs_I S x 11)] [] dX9_draw_5 cV_X9_172 (hcall _ _) hB.1.1 hB.1.2 rfl rfl rfl (by decide) (Nat.le_of_ble_eq_true rfl) rfl ?_
          refine ex_istore_n [(1, .int (nI r)), (0, .ref x)] dX9_draw_8 (by decide) rfl ?_
          refine ex_iload_n dX9_draw_9 0 rfl ?_
          refine ex_if_lt (tgt := 24) dX9_draw_10 (by decide) (fun c10 => absurd c10 (fun z => by rw [i_lt, nI_toInt (by omega)] at z; have e : Int32.toInt 0 = 0 := rfl; omega)) (fun c10 => ?_)
          refine ex_iload_n dX9_draw_13 0 rfl ?_
          refine ex_aload_n dX9_draw_14 1 rfl ?_
          refine ex_getR (b := a1) dX9_draw_15 fl_X9_31 hB.1.1 hB.1.2 r1 ?_
          refine ex_cVr [] [.int (nI r)] dX9_draw_18 cV_X9_57 (c_szn g l1 len1) l1.1.1 l1.1.2.1 rfl rfl rfl (by decide) (Nat.le_of_ble_eq_true rfl) rfl ?_
          refine ex_icmp_lt (tgt := 26) dX9_draw_21 (by decide) (fun c21 => ?_) (fun c21 => absurd (nI_lt hr (by omega)) c21)
          refine ex_aload_n dX9_draw_26 1 rfl ?_
          refine ex_getI dX9_draw_27 fl_X9_41 hB.1.1 hB.1.2 ?_
          refine ex_iconst (v := 2) dX9_draw_30 (by decide) ?_
          refine ex_icmp_ge (tgt := 37) dX9_draw_31 (by decide) (fun c31 => ?_) (fun c31 => absurd (by rw [hCN.1]; exact nI_le (a := 2) (by omega) (by omega)) c31)
          refine ex_aload_n dX9_draw_37 1 rfl ?_
          refine ex_getR (b := a1) dX9_draw_38 fl_X9_31 hB.1.1 hB.1.2 r1 ?_
          refine ex_iload_n dX9_draw_41 0 rfl ?_
          refine ex_cVr [.int (nI r)] [] dX9_draw_42 cV_X9_103 (c_getj g l1 rfl (by omega)) l1.1.1 l1.1.2.1 rfl rfl rfl (by decide) (Nat.le_of_ble_eq_true rfl) rfl ?_
          refine ex_cast dX9_draw_45 mj.1 mj.2 rfl kl_X9_152 ?_
          refine ex_astore_n [(2, .ref (ra.getD r 0)), (1, .int (nI r)), (0, .ref x)] dX9_draw_48 (by decide) rfl ?_
          refine ex_aload_n dX9_draw_49 2 rfl ?_
          refine ex_getI dX9_draw_50 fl_X9_54 hB.1.1 hB.1.2 ?_
          refine ex_aload_n dX9_draw_53 0 rfl ?_
          refine ex_cVr [] [.int (hs_I S x 11)] dX9_draw_54 cV_X9_175 (hdays _ _) mj.1 mj.2 rfl rfl rfl (by decide) (Nat.le_of_ble_eq_true rfl) rfl ?_
          refine ex_isub dX9_draw_57 ?_
          rw [hyy]
          refine ex_istore_n [(3, .int yy), (2, .ref (ra.getD r 0)), (1, .int (nI r)), (0, .ref x)] dX9_draw_58 (by decide) rfl ?_
          refine ex_aload_n dX9_draw_59 3 rfl ?_
          refine ex_getR (b := l) dX9_draw_60 fl_X9_19 hB.1.1 hB.1.2 hB.2.1.1 ?_
          refine ex_iload_n dX9_draw_63 0 rfl ?_
          refine ex_cVr [.int yy] [] dX9_draw_64 cV_X9_178 (hsin _ _) hB.2.1.2.1 hB.2.1.2.2 rfl rfl rfl (by decide) (Nat.le_of_ble_eq_true rfl) rfl ?_
          refine ex_istore [(4, .int (nI (d_M s ys r))), (3, .int yy), (2, .ref (ra.getD r 0)), (1, .int (nI r)), (0, .ref x)] dX9_draw_67 (by decide) rfl ?_
          refine ex_iload dX9_draw_69 0 rfl ?_
          refine ex_iconst (v := 1) dX9_draw_71 (by decide) ?_
          refine ex_icmp_ge (tgt := 78) dX9_draw_72 (by decide) (fun c72 => ?_) (fun c72 => absurd (nI_le (a := 1) (by omega) (by omega)) c72)
          refine ex_aload_n dX9_draw_78 4 rfl ?_
          refine ex_getR (b := a2) dX9_draw_79 fl_X9_44 hB.1.1 hB.1.2 r2 ?_
          refine ex_cVr [] [] dX9_draw_82 cV_X9_57 (c_szn g l2 len2) l2.1.1 l2.1.2.1 rfl rfl rfl (by decide) (Nat.le_of_ble_eq_true rfl) rfl ?_
          refine ex_bipush (v := 40) dX9_draw_85 (by decide) ?_
          refine ex_icmp_lt (tgt := 93) dX9_draw_87 (by decide) (fun c87 => absurd c87 (by rw [h40]; decide)) (fun c87 => ?_)
          refine ex_bipush (v := (-4)) dX9_draw_90 (by decide) ?_
          exact ex_irt rfl dX9_draw_92 (cp_s (by unfold sp_draw; rw [hfo]; show (if _ then _ else _) = _; rw [if_neg hn2, if_neg hM0, if_pos h40]) h)
        · refine ex_aload_n dX9_draw_0 0 rfl ?_
          refine ex_aload_n dX9_draw_1 0 rfl ?_
          refine ex_getI dX9_draw_2 fl_X9_54 hB.1.1 hB.1.2 ?_
          refine ex_cVr [.int (hs_I S x 11)] [] dX9_draw_5 cV_X9_172 (hcall _ _) hB.1.1 hB.1.2 rfl rfl rfl (by decide) (Nat.le_of_ble_eq_true rfl) rfl ?_
          refine ex_istore_n [(1, .int (nI r)), (0, .ref x)] dX9_draw_8 (by decide) rfl ?_
          refine ex_iload_n dX9_draw_9 0 rfl ?_
          refine ex_if_lt (tgt := 24) dX9_draw_10 (by decide) (fun c10 => absurd c10 (fun z => by rw [i_lt, nI_toInt (by omega)] at z; have e : Int32.toInt 0 = 0 := rfl; omega)) (fun c10 => ?_)
          refine ex_iload_n dX9_draw_13 0 rfl ?_
          refine ex_aload_n dX9_draw_14 1 rfl ?_
          refine ex_getR (b := a1) dX9_draw_15 fl_X9_31 hB.1.1 hB.1.2 r1 ?_
          refine ex_cVr [] [.int (nI r)] dX9_draw_18 cV_X9_57 (c_szn g l1 len1) l1.1.1 l1.1.2.1 rfl rfl rfl (by decide) (Nat.le_of_ble_eq_true rfl) rfl ?_
          refine ex_icmp_lt (tgt := 26) dX9_draw_21 (by decide) (fun c21 => ?_) (fun c21 => absurd (nI_lt hr (by omega)) c21)
          refine ex_aload_n dX9_draw_26 1 rfl ?_
          refine ex_getI dX9_draw_27 fl_X9_41 hB.1.1 hB.1.2 ?_
          refine ex_iconst (v := 2) dX9_draw_30 (by decide) ?_
          refine ex_icmp_ge (tgt := 37) dX9_draw_31 (by decide) (fun c31 => ?_) (fun c31 => absurd (by rw [hCN.1]; exact nI_le (a := 2) (by omega) (by omega)) c31)
          refine ex_aload_n dX9_draw_37 1 rfl ?_
          refine ex_getR (b := a1) dX9_draw_38 fl_X9_31 hB.1.1 hB.1.2 r1 ?_
          refine ex_iload_n dX9_draw_41 0 rfl ?_
          refine ex_cVr [.int (nI r)] [] dX9_draw_42 cV_X9_103 (c_getj g l1 rfl (by omega)) l1.1.1 l1.1.2.1 rfl rfl rfl (by decide) (Nat.le_of_ble_eq_true rfl) rfl ?_
          refine ex_cast dX9_draw_45 mj.1 mj.2 rfl kl_X9_152 ?_
          refine ex_astore_n [(2, .ref (ra.getD r 0)), (1, .int (nI r)), (0, .ref x)] dX9_draw_48 (by decide) rfl ?_
          refine ex_aload_n dX9_draw_49 2 rfl ?_
          refine ex_getI dX9_draw_50 fl_X9_54 hB.1.1 hB.1.2 ?_
          refine ex_aload_n dX9_draw_53 0 rfl ?_
          refine ex_cVr [] [.int (hs_I S x 11)] dX9_draw_54 cV_X9_175 (hdays _ _) mj.1 mj.2 rfl rfl rfl (by decide) (Nat.le_of_ble_eq_true rfl) rfl ?_
          refine ex_isub dX9_draw_57 ?_
          rw [hyy]
          refine ex_istore_n [(3, .int yy), (2, .ref (ra.getD r 0)), (1, .int (nI r)), (0, .ref x)] dX9_draw_58 (by decide) rfl ?_
          refine ex_aload_n dX9_draw_59 3 rfl ?_
          refine ex_getR (b := l) dX9_draw_60 fl_X9_19 hB.1.1 hB.1.2 hB.2.1.1 ?_
          refine ex_iload_n dX9_draw_63 0 rfl ?_
          refine ex_cVr [.int yy] [] dX9_draw_64 cV_X9_178 (hsin _ _) hB.2.1.2.1 hB.2.1.2.2 rfl rfl rfl (by decide) (Nat.le_of_ble_eq_true rfl) rfl ?_
          refine ex_istore [(4, .int (nI (d_M s ys r))), (3, .int yy), (2, .ref (ra.getD r 0)), (1, .int (nI r)), (0, .ref x)] dX9_draw_67 (by decide) rfl ?_
          refine ex_iload dX9_draw_69 0 rfl ?_
          refine ex_iconst (v := 1) dX9_draw_71 (by decide) ?_
          refine ex_icmp_ge (tgt := 78) dX9_draw_72 (by decide) (fun c72 => ?_) (fun c72 => absurd (nI_le (a := 1) (by omega) (by omega)) c72)
          refine ex_aload_n dX9_draw_78 4 rfl ?_
          refine ex_getR (b := a2) dX9_draw_79 fl_X9_44 hB.1.1 hB.1.2 r2 ?_
          refine ex_cVr [] [] dX9_draw_82 cV_X9_57 (c_szn g l2 len2) l2.1.1 l2.1.2.1 rfl rfl rfl (by decide) (Nat.le_of_ble_eq_true rfl) rfl ?_
          refine ex_bipush (v := 40) dX9_draw_85 (by decide) ?_
          refine ex_icmp_lt (tgt := 93) dX9_draw_87 (by decide) (fun c87 => ?_) (fun c87 => absurd (nI_lt (b := 40) (by omega) (by decide)) c87)
          refine ex_lv [0, 1, 2, 3, 4] rfl ?_
          exact c_draw_e h hb hO hn hk hG hr (by omega) hMle (by omega) hU hpf (by unfold sp_draw; rw [hfo]; show (if _ then _ else _) = _; rw [if_neg hn2, if_neg hM0, if_neg h40])
