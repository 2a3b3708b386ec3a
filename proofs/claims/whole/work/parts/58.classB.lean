theorem gm_cnt {s : st_T} {ys : List Nat} (hb : BD s) (hG : GO (s_ls s) ys) (h0 td t : Nat) : gm h0 0 1000000000 td (some t) (s_ls s) (s_ls s).length = sm (fun j => if (ln_at (s_ls s) j).2.2.1 = h0 then 1 else 0) ys := by
  unfold gm
  rw [GO_su (BD_fl hb) hG (fun q => if ln_hit h0 0 1000000000 q then (lc 0 1000000000 td (some t) q).length else 0) (fun q hq => if_neg (fun z => hq z.1.1))]
  refine sm_congr (fun i hi => ?_)
  obtain ⟨z1, z2⟩ := (hG.2 i).mp hi
  have hok := hb.2.2.2.1.2 i z1
  show (if _ then _ else _) = _
  rw [lc_all hok]
  by_cases z : (ln_at (s_ls s) i).2.2.1 = h0
  · rw [if_pos ((hit_all hok h0).mpr ⟨z2, z⟩), if_pos z]; rfl
  · rw [if_neg (fun y => z ((hit_all hok h0).mp y).2), if_neg z]
set_option maxRecDepth 20000 in
set_option maxHeartbeats 2000000 in
theorem c_inhl {g : gl_T} {S0 : hs_T} {n0 k0 l c4 c5 : Nat} {ow0 : Nat → Nat} {ls : List li_T} {Po : ex_R} {y z xd mv : Int32} {h0 t0 td : Nat} (hy : y = nI h0) (hh : h0 < 60) (hz : z = eN (some t0)) (hxd : xd = nI td) (htd : td ≤ 100000) (ht0 : t0 < 60) (hlen : ls.length + gm h0 0 1000000000 td (some t0) ls ls.length ≤ 1500) (hn : n0 + 40000 ≤ ex_NM) (hk : k0 + 200000 ≤ ex_KM) (kk : ∀ S ow' d4 d5 ys' n' k' w, PI g S0 S ow0 ow' l c4 c5 d4 d5 n0 n' k0 k' ls (gs h0 0 1000000000 td (some t0) ls ls.length) ys' → ex_W g 10 mX4_inherit Po 134 [(6, .int w), (5, .int (nI ls.length)), (4, .int mv), (0, .ref l), (1, .int y), (2, .int z), (3, .int xd)] [] S n' k') : ∀ t i S ow' d4 d5 ys' n' k', i ≤ ls.length → ls.length < i + t → PI g S0 S ow0 ow' l c4 c5 d4 d5 n0 n' k0 k' ls (gs h0 0 1000000000 td (some t0) ls i) ys' → ex_W g 10 mX4_inherit Po 72 [(6, .int (nI i)), (5, .int (nI ls.length)), (4, .int mv), (0, .ref l), (1, .int y), (2, .int z), (3, .int xd)] [] S n' k'  := by
  have hl9 : ls.length ≤ 1500 := by omega
  intro t
  induction t with
  | zero => intro i S ow' d4 d5 ys' n' k' h1 h2; exact absurd h2 (by omega)
  | succ t ih =>
    intro i S ow' d4 d5 ys' n' k' hi1 hi2 hP
    obtain ⟨hLG, hCK, hd4, hd5, hnn, hkk⟩ := id hP
    obtain ⟨hl, hCG, hl15, hlok⟩ := id hLG
    obtain ⟨la, ⟨a4, e4, r4, l4, o4, p4⟩, ⟨a5, e5, r5, l5, o5, p5⟩, nd4, len4, f4, hGi⟩ := id hCG
    have hd4b : d4 ≤ 5000 := l4.2.1.2
    have hd5b : d5 ≤ 5000 := l5.2.1.2
    refine ex_iload dX4_inherit_72 0 rfl ?_
    refine ex_iload dX4_inherit_74 1 rfl ?_
    refine ex_icmp_ge (tgt := 134) dX4_inherit_76 (by decide) (fun c76 => ?_) (fun c76 => ?_)
    · have hil : i = ls.length := by have := (nI_leI (by omega) (by omega)).mp c76; omega
      subst hil
      exact kk S ow' d4 d5 ys' n' k' _ hP
    · have hil : i < ls.length := by
        rcases Nat.lt_or_ge i ls.length with q | q
        · exact q
        · exact absurd (nI_le q (by omega)) c76
      have hli : ln_at (gs h0 0 1000000000 td (some t0) ls i) i = ln_at ls i := gs_at _ _ _ _ _ _ i i (Nat.le_refl _) hil
      have hgl := gs_len h0 0 1000000000 td (some t0) ls i
      have hi9 : i < (gs h0 0 1000000000 td (some t0) ls i).length := by omega
      have mj := al_mem l4 (j := i) (by omega)
      obtain ⟨g0, g1, g2, g3, g4⟩ := f4 i hi9
      rw [hli] at g0 g1 g2 g3 g4
      have hok := hlok i hi9
      rw [hli] at hok
      have hok1 := hok.1
      have hok2 := hok.2.1
      have hin : i ∈ ys' ↔ (ln_at ls i).2.2.2.2 = none := by rw [hGi.2, hli]; exact ⟨fun z => z.2, fun z => ⟨hi9, z⟩⟩
      have hgo : hs_I S (la.getD i 0) 4 = -1 ↔ (ln_at ls i).2.2.2.2 = none := by rw [g4]; exact eN_m1 hok.2.2.2.2
      refine ex_aload_n dX4_inherit_79 3 rfl ?_
      refine ex_getR (b := a4) dX4_inherit_80 fl_X4_12 hl.1 hl.2 r4 ?_
      refine ex_iload dX4_inherit_83 0 rfl ?_
      refine ex_cVr [.int (nI i)] [] dX4_inherit_85 cV_X4_46 (c_getj g l4 rfl (by omega)) l4.1.1 l4.1.2.1 rfl rfl rfl (by decide) (Nat.le_of_ble_eq_true rfl) rfl ?_
      refine ex_cast dX4_inherit_88 mj.1 mj.2 rfl kl_X4_50 ?_
      refine ex_astore [(7, .ref (la.getD i 0)), (6, .int (nI i)), (5, .int (nI ls.length)), (4, .int mv), (0, .ref l), (1, .int y), (2, .int z), (3, .int xd)] dX4_inherit_91 (by decide) rfl ?_
      refine ex_aload dX4_inherit_93 0 rfl ?_
      refine ex_cVr [] [] dX4_inherit_95 cV_X4_52 (c_Line_goesOn g mj.1 mj.2) mj.1 mj.2 rfl rfl rfl (by decide) (Nat.le_of_ble_eq_true rfl) rfl ?_
      refine ex_if_eq (tgt := 128) dX4_inherit_98 (by decide) (fun c98 => ?_) (fun c98 => ?_)
      · refine ex_iinc (v := nI (i + 1)) 1 [(6, .int (nI (i + 1))), (7, .ref (la.getD i 0)), (5, .int (nI ls.length)), (4, .int mv), (0, .ref l), (1, .int y), (2, .int z), (3, .int xd)] dX4_inherit_128 rfl (nI_1 i) (by decide) rfl ?_
        refine ex_goto (tgt := 72) dX4_inherit_131 (by decide) ?_
        refine ex_lv [0, 2, 3, 4, 5, 6, 7] rfl ?_
        have hnh : ¬ ln_hit h0 0 1000000000 (ln_at ls i) := (fun z => by
          first
            | (rw [if_pos (hgo.mpr z.1.1)] at c98; exact absurd c98 (by decide))
            | exact c107 (by rw [g2, z.1.2, hy]))
        have hgs : gs h0 0 1000000000 td (some t0) ls (i + 1) = gs h0 0 1000000000 td (some t0) ls i := by rw [gs, if_neg hnh]
        exact ih (i + 1) S ow' d4 d5 ys' n' k' (by omega) (by omega) (by rw [hgs]; exact hP)
      · refine ex_aload dX4_inherit_101 0 rfl ?_
        refine ex_getI dX4_inherit_103 fl_X4_64 mj.1 mj.2 ?_
        refine ex_iload_n dX4_inherit_106 5 rfl ?_
        refine ex_icmp_ne (tgt := 128) dX4_inherit_107 (by decide) (fun c107 => ?_) (fun c107 => ?_)
        · refine ex_iinc (v := nI (i + 1)) 1 [(6, .int (nI (i + 1))), (7, .ref (la.getD i 0)), (5, .int (nI ls.length)), (4, .int mv), (0, .ref l), (1, .int y), (2, .int z), (3, .int xd)] dX4_inherit_128 rfl (nI_1 i) (by decide) rfl ?_
          refine ex_goto (tgt := 72) dX4_inherit_131 (by decide) ?_
          refine ex_lv [0, 2, 3, 4, 5, 6, 7] rfl ?_
          have hnh : ¬ ln_hit h0 0 1000000000 (ln_at ls i) := (fun z => by
            first
              | (rw [if_pos (hgo.mpr z.1.1)] at c98; exact absurd c98 (by decide))
              | exact c107 (by rw [g2, z.1.2, hy]))
          have hgs : gs h0 0 1000000000 td (some t0) ls (i + 1) = gs h0 0 1000000000 td (some t0) ls i := by rw [gs, if_neg hnh]
          exact ih (i + 1) S ow' d4 d5 ys' n' k' (by omega) (by omega) (by rw [hgs]; exact hP)
        · have hon : (ln_at ls i).2.2.2.2 = none := by
            by_cases q : hs_I S (la.getD i 0) 4 = -1
            · exact hgo.mp q
            · rw [if_neg q] at c98; exact absurd rfl c98
          have hhit : ln_hit h0 0 1000000000 (ln_at ls i) := (hit_all hok h0).mpr ⟨hon, (nI_eq (by have := hok.2.2.1; omega) (by omega)).mp (g2.symm.trans (c107.trans hy))⟩
          obtain ⟨y1, y2, rfl⟩ := List.append_of_mem (hin.mpr hon)
          refine ex_aload_n dX4_inherit_110 4 rfl ?_
          refine ex_aload dX4_inherit_111 0 rfl ?_
          refine ex_aload dX4_inherit_113 0 rfl ?_
          refine ex_getI dX4_inherit_115 fl_X4_67 mj.1 mj.2 ?_
          refine ex_aload dX4_inherit_118 0 rfl ?_
          refine ex_getI dX4_inherit_120 fl_X4_70 mj.1 mj.2 ?_
          refine ex_iload_n dX4_inherit_123 6 rfl ?_
          refine ex_iload_n dX4_inherit_124 7 rfl ?_
          refine ex_cVg [.ref (la.getD i 0), .int (hs_I S (la.getD i 0) 0), .int (hs_I S (la.getD i 0) 1), .int z, .int xd] [] dX4_inherit_125 cV_X4_60 (c_passOne g (ls := gs h0 0 1000000000 td (some t0) ls i) (y1 := y1) (y2 := y2) (a := (ln_at ls i).1) (b := (ln_at ls i).2.1) (td := td) (to := (some t0)) hl ⟨⟨a4, e4, r4, l4, o4, p4⟩, nd4, len4, f4⟩ ⟨a5, e5, r5, l5, o5, p5⟩ hGi hlok g0 g1 hxd hok1 (by omega) (by omega) (by rw [hli]; exact hok1) (by rw [hli]; exact hok1) htd (by omega) (by omega) hz (fun t2 ht2 => by cases ht2; exact ht0) (by rw [hli]; rw [lc_self hok1]; have h4 := gm_1 h0 0 1000000000 td (some t0) ls i; rw [if_pos hhit, lc_all hok] at h4; have h5 : gm h0 0 1000000000 td (some t0) ls (i + 1) ≤ gm h0 0 1000000000 td (some t0) ls ls.length := su_mono (by omega); simp at h4 ⊢; omega)) hl.1 hl.2 rfl rfl rfl (by decide) (Nat.le_of_ble_eq_true rfl) rfl ?_ (fun E S' n' k' h => by obtain ⟨h1, -⟩ := h; cases h1)
          rintro v' S2 n2 k2 ⟨hr2, ow2, d42, d52, ys2, hC2, hLG2, hc1, hc2, hn2, hk2⟩
          cases hr2
          have hP2 : PI g S0 S2 ow0 ow2 l c4 c5 d42 d52 n0 n2 k0 k2 ls (gs h0 0 1000000000 td (some t0) ls (i + 1)) ys2 := by
            have hgs : gs h0 0 1000000000 td (some t0) ls (i + 1) = (gs h0 0 1000000000 td (some t0) ls i).set i (ln_end (ln_at (gs h0 0 1000000000 td (some t0) ls i) i) td) ++ lc (ln_at ls i).1 (ln_at ls i).2.1 td ((some t0)) (ln_at (gs h0 0 1000000000 td (some t0) ls i) i) := by rw [gs, if_pos hhit, hli, lc_all hok, lc_self hok1]
            rw [hgs]
            exact PI_tr hP hC2 hLG2 hc1 hc2 hn2 hk2
          show ex_W _ _ _ _ 128 [(7, .ref (la.getD i 0)), (6, .int (nI i)), (5, .int (nI ls.length)), (4, .int mv), (0, .ref l), (1, .int y), (2, .int z), (3, .int xd)] [] S2 n2 k2
          refine ex_iinc (v := nI (i + 1)) 1 [(6, .int (nI (i + 1))), (7, .ref (la.getD i 0)), (5, .int (nI ls.length)), (4, .int mv), (0, .ref l), (1, .int y), (2, .int z), (3, .int xd)] dX4_inherit_128 rfl (nI_1 i) (by decide) rfl ?_
          refine ex_goto (tgt := 72) dX4_inherit_131 (by decide) ?_
          refine ex_lv [0, 2, 3, 4, 5, 6, 7] rfl ?_
          exact ih (i + 1) S2 ow2 d42 d52 ys2 n2 k2 (by omega) (by omega) hP2
set_option maxRecDepth 20000 in
set_option maxHeartbeats 2000000 in
theorem c_inhc {g : gl_T} {S : hs_T} {n k l c4 c5 : Nat} {ow : Nat → Nat} {ls : List li_T} {ys : List Nat} {y z xd : Int32} {h0 : Nat} {Po : ex_R} (h : LG g S ow l c4 c5 ls ys) (hy : y = nI h0) (hh : h0 < 2 ^ 31) (kk : ∀ w, ex_W g 10 mX4_inherit Po 46 [(5, .int w), (4, .int (nI (sm (fun j => if (ln_at ls j).2.2.1 = h0 then 1 else 0) ys))), (0, .ref l), (1, .int y), (2, .int z), (3, .int xd)] [] S n k) : ∀ t i acc, i ≤ ys.length → ys.length < i + t → acc = nI (sm (fun j => if (ln_at ls j).2.2.1 = h0 then 1 else 0) (ys.take i)) → ex_W g 10 mX4_inherit Po 6 [(5, .int (nI i)), (4, .int acc), (0, .ref l), (1, .int y), (2, .int z), (3, .int xd)] [] S n k := by
  obtain ⟨hl, hCG, hl15, hlok⟩ := id h
  obtain ⟨la, ⟨a4, e4, r4, l4, o4, p4⟩, ⟨a5, e5, r5, l5, o5, p5⟩, nd4, len4, f4, hG⟩ := id hCG
  have hgl : (ys.map (fun i => la.getD i 0)).length = ys.length := List.length_map _
  have hfl : ∀ i, (ln_at ls i).1 ≤ (ln_at ls i).2.1 := fun i => by
    by_cases z : i < ls.length
    · exact (hlok i z).1
    · unfold ln_at; rw [List.getD_eq_getElem?_getD, List.getElem?_eq_none (by omega)]; exact Nat.le_refl _
  have hys : ys.length ≤ 1500 := Nat.le_trans (nd_len (GO_nd hfl hG) (fun i hi => ((hG.2 i).mp hi).1)) hl15
  intro t
  induction t with
  | zero => intro i acc h1 h2; exact absurd h2 (by omega)
  | succ t ih =>
    intro i acc hi1 hi2 hacc
    refine ex_iload dX4_inherit_6 0 rfl ?_
    refine ex_aload_n dX4_inherit_8 2 rfl ?_
    refine ex_getR (b := a5) dX4_inherit_9 fl_X4_18 hl.1 hl.2 r5 ?_
    refine ex_cVr [] [.int (nI i)] dX4_inherit_12 cV_X4_26 (c_szn g l5 hgl) l5.1.1 l5.1.2.1 rfl rfl rfl (by decide) (Nat.le_of_ble_eq_true rfl) rfl ?_
    refine ex_icmp_ge (tgt := 46) dX4_inherit_15 (by decide) (fun c15 => ?_) (fun c15 => ?_)
    · have hil : i = ys.length := by have := (nI_leI (by omega) (by omega)).mp c15; omega
      rw [hacc, hil, List.take_length]
      exact kk _
    · have hil : i < ys.length := by
        rcases Nat.lt_or_ge i ys.length with q | q
        · exact q
        · exact absurd (nI_le q (by omega)) c15
      obtain ⟨hz1, hz2⟩ := GO_at hG hil
      have mj := al_mem l4 (j := ys.getD i 0) (by omega)
      obtain ⟨g0, g1, g2, g3, g4⟩ := f4 _ hz1
      have hok := hlok _ hz1
      refine ex_aload_n dX4_inherit_18 2 rfl ?_
      refine ex_getR (b := a5) dX4_inherit_19 fl_X4_18 hl.1 hl.2 r5 ?_
      refine ex_iload dX4_inherit_22 0 rfl ?_
      refine ex_cVr [.int (nI i)] [] dX4_inherit_24 cV_X4_46 (c_getz g l5 rfl hil) l5.1.1 l5.1.2.1 rfl rfl rfl (by decide) (Nat.le_of_ble_eq_true rfl) rfl ?_
      refine ex_cast dX4_inherit_27 mj.1 mj.2 rfl kl_X4_50 ?_
      refine ex_getI dX4_inherit_30 fl_X4_64 mj.1 mj.2 ?_
      refine ex_iload_n dX4_inherit_33 3 rfl ?_
      refine ex_icmp_ne (tgt := 40) dX4_inherit_34 (by decide) (fun c34 => ?_) (fun c34 => ?_)
      · refine ex_iinc (v := nI (i + 1)) 0 [(5, .int (nI (i + 1))), (4, .int acc), (0, .ref l), (1, .int y), (2, .int z), (3, .int xd)] dX4_inherit_40 rfl (nI_1 i) (by decide) rfl ?_
        refine ex_goto (tgt := 6) dX4_inherit_43 (by decide) ?_
        refine ex_lv [0, 1, 2, 3, 4, 5] rfl ?_
        refine ih (i + 1) _ (by omega) (by omega) ?_
        rw [sm_take _ hil]
        rw [hacc]
        congr 1
        show _ = _ + if _ then _ else _
        rw [if_neg (fun z => c34 (by rw [g2, z, hy]))]
        rfl
      · refine ex_iinc (v := acc + 1) 1 [(4, .int (acc + 1)), (5, .int (nI i)), (0, .ref l), (1, .int y), (2, .int z), (3, .int xd)] dX4_inherit_37 rfl rfl (by decide) rfl ?_
        refine ex_iinc (v := nI (i + 1)) 1 [(5, .int (nI (i + 1))), (4, .int (acc + 1)), (0, .ref l), (1, .int y), (2, .int z), (3, .int xd)] dX4_inherit_40 rfl (nI_1 i) (by decide) rfl ?_
        refine ex_goto (tgt := 6) dX4_inherit_43 (by decide) ?_
        refine ex_lv [0, 1, 2, 3, 4, 5] rfl ?_
        refine ih (i + 1) _ (by omega) (by omega) ?_
        rw [sm_take _ hil]
        rw [hacc, nI_1]
        congr 2
        show _ = if _ then _ else _
        rw [if_pos ((nI_eq (by have := hok.2.2.1; omega) hh).mp (g2.symm.trans (c34.trans hy)))]
noncomputable def sp_inh (s : st_T) (h0 t0 : Nat) : Int32 × st_T := if 1500 < (s_ls s).length + gm h0 0 1000000000 (s_td s) (some t0) (s_ls s) (s_ls s).length then (-2, s) else (nI (gm h0 0 1000000000 (s_td s) (some t0) (s_ls s) (s_ls s).length), w_ls s (gs h0 0 1000000000 (s_td s) (some t0) (s_ls s) (s_ls s).length))
set_option maxRecDepth 20000 in
set_option maxHeartbeats 4000000 in
theorem c_inherit (g : gl_T) {S : hs_T} {n k x l tp nz : Nat} {ow : Nat → Nat} {s : st_T} {ys : List Nat} {c : Nat → Nat} (h : RC g S ow x l tp nz s ys c) (hb : BD s) (hn : n + 40000 ≤ ex_NM) (hk : k + 200000 ≤ ex_KM) {y z xd : Int32} {h0 t0 : Nat} (hy : y = nI h0) (hh : h0 < 60) (hz : z = eN (some t0)) (ht0 : t0 < 60) (hxd : xd = nI (s_td s)) : ex_M g 10 mX4_inherit [.ref l, .int y, .int z, .int xd] S n k (cv g S ow x l tp nz c n k s (.int (sp_inh s h0 t0).1) (sp_inh s h0 t0).2) := by
  obtain ⟨hB, hCS, hCH, hCG, hCT, hCR, hCN, hCD, hCW⟩ := id h
  obtain ⟨bd1, bd2, bd3, ⟨bd4, bd5⟩, bd6, ⟨bd7, bd8⟩, bd9, bd10, bd11, bd12⟩ := id hb
  obtain ⟨la, ⟨a4, e4, r4, l4, o4, p4⟩, ⟨a5, e5, r5, l5, o5, p5⟩, nd4, len4, f4, hG⟩ := id hCG
  have hLG := RC_LG h hb
  have hcnt := gm_cnt hb hG h0 (s_td s) t0
  have hgl := gm_le h0 0 1000000000 (s_td s) (some t0) (s_ls s) (s_ls s).length
  refine ex_enter (by decide +kernel) (Nat.le_of_ble_eq_true rfl) ?_
  show ex_W _ _ _ _ 0 [(0, .ref l), (1, .int y), (2, .int z), (3, .int xd)] [] _ _ _
  refine ex_iconst (v := 0) dX4_inherit_0 (by decide) ?_
  refine ex_istore [(4, .int 0), (0, .ref l), (1, .int y), (2, .int z), (3, .int xd)] dX4_inherit_1 (by decide) rfl ?_
  refine ex_iconst (v := 0) dX4_inherit_3 (by decide) ?_
  refine ex_istore [(5, .int 0), (4, .int 0), (0, .ref l), (1, .int y), (2, .int z), (3, .int xd)] dX4_inherit_4 (by decide) rfl ?_
  refine ex_lv [0, 1, 2, 3, 4, 5] rfl ?_
  refine c_inhc hLG hy (by omega) (fun w => ?_) (ys.length + 1) 0 _ (by omega) (by omega) rfl
  rw [← hcnt]
  refine ex_aload_n dX4_inherit_46 2 rfl ?_
  refine ex_getR (b := a4) dX4_inherit_47 fl_X4_12 hB.2.1.2.1 hB.2.1.2.2 r4 ?_
  refine ex_cVr [] [] dX4_inherit_50 cV_X4_26 (c_szn g l4 len4) l4.1.1 l4.1.2.1 rfl rfl rfl (by decide) (Nat.le_of_ble_eq_true rfl) rfl ?_
  refine ex_istore [(5, .int (nI (s_ls s).length)), (4, .int (nI (gm h0 0 1000000000 (s_td s) (some t0) (s_ls s) (s_ls s).length))), (0, .ref l), (1, .int y), (2, .int z), (3, .int xd)] dX4_inherit_53 (by decide) rfl ?_
  refine ex_iload dX4_inherit_55 0 rfl ?_
  refine ex_iload dX4_inherit_57 1 rfl ?_
  refine ex_iadd dX4_inherit_59 ?_
  refine ex_sipush (v := 1500) dX4_inherit_60 (by decide) ?_
  refine ex_icmp_le (tgt := 69) dX4_inherit_63 (by decide) (fun c63 => ?_) (fun c63 => ?_)
  · have hgt : ¬ 1500 < (s_ls s).length + gm h0 0 1000000000 (s_td s) (some t0) (s_ls s) (s_ls s).length := by
      rw [nI_add] at c63
      have := (nI_leI (b := 1500) (by omega) (by decide)).mp c63
      omega
    refine ex_iconst (v := 0) dX4_inherit_69 (by decide) ?_
    refine ex_istore [(6, .int 0), (5, .int (nI (s_ls s).length)), (4, .int (nI (gm h0 0 1000000000 (s_td s) (some t0) (s_ls s) (s_ls s).length))), (0, .ref l), (1, .int y), (2, .int z), (3, .int xd)] dX4_inherit_70 (by decide) rfl ?_
    refine ex_lv [0, 1, 2, 3, 4, 5, 6] rfl ?_
    refine c_inhl (ls := s_ls s) (h0 := h0) (t0 := t0) (td := s_td s) hy hh hz hxd bd1 ht0 (by omega) hn hk (fun S1 ow1 d4 d5 ys1 n1 k1 w hP => ?_) ((s_ls s).length + 1) 0 S ow (c 4) (c 5) ys n k (by omega) (by omega) (PI_rf hLG)
    have hR := PI_rc h hP
    refine ex_iload dX4_inherit_134 2 rfl ?_
    refine ex_irt rfl dX4_inherit_136 ?_
    unfold sp_inh
    rw [if_neg hgt]
    exact ⟨rfl, ow1, _, ys1, hR.1, hR.2.1, hR.2.2⟩
  · have hgt : 1500 < (s_ls s).length + gm h0 0 1000000000 (s_td s) (some t0) (s_ls s) (s_ls s).length := by
      rw [nI_add] at c63
      exact Nat.lt_of_not_le (fun q => c63 (nI_le q (by decide)))
    refine ex_bipush (v := (-2)) dX4_inherit_66 (by decide) ?_
    exact ex_irt rfl dX4_inherit_68 (cv_s (by unfold sp_inh; rw [if_pos hgt]) (by unfold sp_inh; rw [if_pos hgt]) h)
set_option maxRecDepth 20000 in
set_option maxHeartbeats 4000000 in
theorem c_pair_1 (g : gl_T) {S : hs_T} {n k x l tp nz : Nat} {ow : Nat → Nat} {s : st_T} {ys : List Nat} {c : Nat → Nat} (h : RC g S ow x l tp nz s ys c) (hb : BD s) (hn : n + 10 ≤ ex_NM) (hk : k + 60 ≤ ex_KM) {y z : Int32} (hy : ¬ hd_ok s y) : ex_M g 7 mX9_checkPair [.ref x, .int y, .int z] S n k (ex_xt exI S n k) := by
  refine ex_enter (by decide +kernel) (Nat.le_of_ble_eq_true rfl) ?_
  show ex_W _ _ _ _ 0 [(0, .ref x), (1, .int y), (2, .int z)] [] _ _ _
  obtain ⟨hB, hCS, hCH, hCG, hCT, hCR, hCN, hCD, hCW⟩ := id h
  obtain ⟨bd1, bd2, bd3, ⟨bd4, bd5⟩, bd6, ⟨bd7, bd8⟩, bd9, bd10, bd11, bd12⟩ := id hb
  refine ex_aload_n dX9_checkPair_0 0 rfl ?_
  refine ex_iload_n dX9_checkPair_1 1 rfl ?_
  exact ex_cVg [.int y] [] dX9_checkPair_2 cV_X9_75 (c_chkH0 g h hb (by omega) (by omega) hy) hB.1.1 hB.1.2 rfl rfl rfl (by decide) (Nat.le_of_ble_eq_true rfl) rfl (fun v S9 n9 k9 h9 => by obtain ⟨h9, -⟩ := h9; cases h9) (fun E S9 n9 k9 h9 => by obtain ⟨h91, h92, h93, h94⟩ := h9; cases h91; subst h92 h93 h94; exact ex_xt_i)
set_option maxRecDepth 20000 in
set_option maxHeartbeats 4000000 in
theorem c_pair_2 (g : gl_T) {S : hs_T} {n k x l tp nz : Nat} {ow : Nat → Nat} {s : st_T} {ys : List Nat} {c : Nat → Nat} (h : RC g S ow x l tp nz s ys c) (hb : BD s) (hn : n + 10 ≤ ex_NM) (hk : k + 60 ≤ ex_KM) {y z : Int32} (hy : hd_ok s y) (hz : ¬ hd_ok s z) : ex_M g 7 mX9_checkPair [.ref x, .int y, .int z] S n k (ex_xt exI S n k) := by
  refine ex_enter (by decide +kernel) (Nat.le_of_ble_eq_true rfl) ?_
  show ex_W _ _ _ _ 0 [(0, .ref x), (1, .int y), (2, .int z)] [] _ _ _
  obtain ⟨hB, hCS, hCH, hCG, hCT, hCR, hCN, hCD, hCW⟩ := id h
  obtain ⟨bd1, bd2, bd3, ⟨bd4, bd5⟩, bd6, ⟨bd7, bd8⟩, bd9, bd10, bd11, bd12⟩ := id hb
  refine ex_aload_n dX9_checkPair_0 0 rfl ?_
  refine ex_iload_n dX9_checkPair_1 1 rfl ?_
  refine ex_cVv [.int y] [] dX9_checkPair_2 cV_X9_75 (c_chkH1 g h hb (by omega) (by omega) hy) hB.1.1 hB.1.2 rfl rfl rfl (by decide) (Nat.le_of_ble_eq_true rfl) rfl ?_
  refine ex_aload_n dX9_checkPair_5 0 rfl ?_
  refine ex_iload_n dX9_checkPair_6 2 rfl ?_
  exact ex_cVg [.int z] [] dX9_checkPair_7 cV_X9_75 (c_chkH0 g h hb (by omega) (by omega) hz) hB.1.1 hB.1.2 rfl rfl rfl (by decide) (Nat.le_of_ble_eq_true rfl) rfl (fun v S9 n9 k9 h9 => by obtain ⟨h9, -⟩ := h9; cases h9) (fun E S9 n9 k9 h9 => by obtain ⟨h91, h92, h93, h94⟩ := h9; cases h91; subst h92 h93 h94; exact ex_xt_i)
set_option maxRecDepth 20000 in
set_option maxHeartbeats 4000000 in
theorem c_pair_3 (g : gl_T) {S : hs_T} {n k x l tp nz : Nat} {ow : Nat → Nat} {s : st_T} {ys : List Nat} {c : Nat → Nat} (h : RC g S ow x l tp nz s ys c) (hb : BD s) (hn : n + 10 ≤ ex_NM) (hk : k + 60 ≤ ex_KM) {y z : Int32} (hy : hd_ok s y) (hz : hd_ok s z) (he : y = z) : ex_M g 7 mX9_checkPair [.ref x, .int y, .int z] S n k (ex_xt exA S n k) := by
  refine ex_enter (by decide +kernel) (Nat.le_of_ble_eq_true rfl) ?_
  show ex_W _ _ _ _ 0 [(0, .ref x), (1, .int y), (2, .int z)] [] _ _ _
  obtain ⟨hB, hCS, hCH, hCG, hCT, hCR, hCN, hCD, hCW⟩ := id h
  obtain ⟨bd1, bd2, bd3, ⟨bd4, bd5⟩, bd6, ⟨bd7, bd8⟩, bd9, bd10, bd11, bd12⟩ := id hb
  refine ex_aload_n dX9_checkPair_0 0 rfl ?_
  refine ex_iload_n dX9_checkPair_1 1 rfl ?_
  refine ex_cVv [.int y] [] dX9_checkPair_2 cV_X9_75 (c_chkH1 g h hb (by omega) (by omega) hy) hB.1.1 hB.1.2 rfl rfl rfl (by decide) (Nat.le_of_ble_eq_true rfl) rfl ?_
  refine ex_aload_n dX9_checkPair_5 0 rfl ?_
  refine ex_iload_n dX9_checkPair_6 2 rfl ?_
  refine ex_cVv [.int z] [] dX9_checkPair_7 cV_X9_75 (c_chkH1 g h hb (by omega) (by omega) hz) hB.1.1 hB.1.2 rfl rfl rfl (by decide) (Nat.le_of_ble_eq_true rfl) rfl ?_
  refine ex_iload_n dX9_checkPair_10 1 rfl ?_
  refine ex_iload_n dX9_checkPair_11 2 rfl ?_
  refine ex_icmp_ne (tgt := 26) dX9_checkPair_12 (by decide) (fun c12 => absurd he c12) (fun c12 => ?_)
  exact ex_throwW th_X9_80_259_84 dX9_checkPair_15 dX9_checkPair_18 dX9_checkPair_19 dX9_checkPair_22 dX9_checkPair_25 (by decide) (Nat.le_of_ble_eq_true rfl) (by omega) (by omega) ex_xt_i
set_option maxRecDepth 20000 in
set_option maxHeartbeats 4000000 in
theorem c_pair_4 (g : gl_T) {S : hs_T} {n k x l tp nz : Nat} {ow : Nat → Nat} {s : st_T} {ys : List Nat} {c : Nat → Nat} (h : RC g S ow x l tp nz s ys c) (hb : BD s) (hn : n + 10 ≤ ex_NM) (hk : k + 60 ≤ ex_KM) {y z : Int32} (hy : hd_ok s y) (hz : hd_ok s z) (he : ¬ y = z) {j t : Nat} (hyj : y = nI j) (hzt : z = nI t) (hj : j < (s_hs s).length) (ht : t < (s_hs s).length) (hd : (hd_at (s_hs s) j).1 = 1) : ex_M g 7 mX9_checkPair [.ref x, .int y, .int z] S n k (ex_xt exS S n k) := by
  refine ex_enter (by decide +kernel) (Nat.le_of_ble_eq_true rfl) ?_
  show ex_W _ _ _ _ 0 [(0, .ref x), (1, .int y), (2, .int z)] [] _ _ _
  obtain ⟨hB, hCS, hCH, hCG, hCT, hCR, hCN, hCD, hCW⟩ := id h
  obtain ⟨bd1, bd2, bd3, ⟨bd4, bd5⟩, bd6, ⟨bd7, bd8⟩, bd9, bd10, bd11, bd12⟩ := id hb
  refine ex_aload_n dX9_checkPair_0 0 rfl ?_
  refine ex_iload_n dX9_checkPair_1 1 rfl ?_
  refine ex_cVv [.int y] [] dX9_checkPair_2 cV_X9_75 (c_chkH1 g h hb (by omega) (by omega) hy) hB.1.1 hB.1.2 rfl rfl rfl (by decide) (Nat.le_of_ble_eq_true rfl) rfl ?_
  refine ex_aload_n dX9_checkPair_5 0 rfl ?_
  refine ex_iload_n dX9_checkPair_6 2 rfl ?_
  refine ex_cVv [.int z] [] dX9_checkPair_7 cV_X9_75 (c_chkH1 g h hb (by omega) (by omega) hz) hB.1.1 hB.1.2 rfl rfl rfl (by decide) (Nat.le_of_ble_eq_true rfl) rfl ?_
  refine ex_iload_n dX9_checkPair_10 1 rfl ?_
  refine ex_iload_n dX9_checkPair_11 2 rfl ?_
  refine ex_icmp_ne (tgt := 26) dX9_checkPair_12 (by decide) (fun c12 => ?_) (fun c12 => absurd c12 he)
  refine ex_aload_n dX9_checkPair_26 0 rfl ?_
  refine ex_iload_n dX9_checkPair_27 1 rfl ?_
  exact ex_cVg [.int y] [] dX9_checkPair_28 cV_X9_85 (c_alive0 g h hb (by omega) (by omega) hyj hj hd) hB.1.1 hB.1.2 rfl rfl rfl (by decide) (Nat.le_of_ble_eq_true rfl) rfl (fun v S9 n9 k9 h9 => by obtain ⟨h9, -⟩ := h9; cases h9) (fun E S9 n9 k9 h9 => by obtain ⟨h91, h92, h93, h94⟩ := h9; cases h91; subst h92 h93 h94; exact ex_xt_i)
set_option maxRecDepth 20000 in
set_option maxHeartbeats 4000000 in
theorem c_pair_5 (g : gl_T) {S : hs_T} {n k x l tp nz : Nat} {ow : Nat → Nat} {s : st_T} {ys : List Nat} {c : Nat → Nat} (h : RC g S ow x l tp nz s ys c) (hb : BD s) (hn : n + 10 ≤ ex_NM) (hk : k + 60 ≤ ex_KM) {y z : Int32} (hy : hd_ok s y) (hz : hd_ok s z) (he : ¬ y = z) {j t : Nat} (hyj : y = nI j) (hzt : z = nI t) (hj : j < (s_hs s).length) (ht : t < (s_hs s).length) (hd : ¬ (hd_at (s_hs s) j).1 = 1) (hd2 : (hd_at (s_hs s) t).1 = 1) : ex_M g 7 mX9_checkPair [.ref x, .int y, .int z] S n k (ex_xt exS S n k) := by
  refine ex_enter (by decide +kernel) (Nat.le_of_ble_eq_true rfl) ?_
  show ex_W _ _ _ _ 0 [(0, .ref x), (1, .int y), (2, .int z)] [] _ _ _
  obtain ⟨hB, hCS, hCH, hCG, hCT, hCR, hCN, hCD, hCW⟩ := id h
  obtain ⟨bd1, bd2, bd3, ⟨bd4, bd5⟩, bd6, ⟨bd7, bd8⟩, bd9, bd10, bd11, bd12⟩ := id hb
  refine ex_aload_n dX9_checkPair_0 0 rfl ?_
  refine ex_iload_n dX9_checkPair_1 1 rfl ?_
  refine ex_cVv [.int y] [] dX9_checkPair_2 cV_X9_75 (c_chkH1 g h hb (by omega) (by omega) hy) hB.1.1 hB.1.2 rfl rfl rfl (by decide) (Nat.le_of_ble_eq_true rfl) rfl ?_
  refine ex_aload_n dX9_checkPair_5 0 rfl ?_
  refine ex_iload_n dX9_checkPair_6 2 rfl ?_
  refine ex_cVv [.int z] [] dX9_checkPair_7 cV_X9_75 (c_chkH1 g h hb (by omega) (by omega) hz) hB.1.1 hB.1.2 rfl rfl rfl (by decide) (Nat.le_of_ble_eq_true rfl) rfl ?_
  refine ex_iload_n dX9_checkPair_10 1 rfl ?_
  refine ex_iload_n dX9_checkPair_11 2 rfl ?_
  refine ex_icmp_ne (tgt := 26) dX9_checkPair_12 (by decide) (fun c12 => ?_) (fun c12 => absurd c12 he)
  refine ex_aload_n dX9_checkPair_26 0 rfl ?_
  refine ex_iload_n dX9_checkPair_27 1 rfl ?_
  refine ex_cVv [.int y] [] dX9_checkPair_28 cV_X9_85 (c_alive1 g h hb (by omega) (by omega) hyj hj hd) hB.1.1 hB.1.2 rfl rfl rfl (by decide) (Nat.le_of_ble_eq_true rfl) rfl ?_
  refine ex_aload_n dX9_checkPair_31 0 rfl ?_
  refine ex_iload_n dX9_checkPair_32 2 rfl ?_
  exact ex_cVg [.int z] [] dX9_checkPair_33 cV_X9_85 (c_alive0 g h hb (by omega) (by omega) hzt ht hd2) hB.1.1 hB.1.2 rfl rfl rfl (by decide) (Nat.le_of_ble_eq_true rfl) rfl (fun v S9 n9 k9 h9 => by obtain ⟨h9, -⟩ := h9; cases h9) (fun E S9 n9 k9 h9 => by obtain ⟨h91, h92, h93, h94⟩ := h9; cases h91; subst h92 h93 h94; exact ex_xt_i)
set_option maxRecDepth 20000 in
set_option maxHeartbeats 4000000 in
theorem c_pair_6 (g : gl_T) {S : hs_T} {n k x l tp nz : Nat} {ow : Nat → Nat} {s : st_T} {ys : List Nat} {c : Nat → Nat} (h : RC g S ow x l tp nz s ys c) (hb : BD s) (hn : n + 10 ≤ ex_NM) (hk : k + 60 ≤ ex_KM) {y z : Int32} (hy : hd_ok s y) (hz : hd_ok s z) (he : ¬ y = z) {j t : Nat} (hyj : y = nI j) (hzt : z = nI t) (hj : j < (s_hs s).length) (ht : t < (s_hs s).length) (hd : ¬ (hd_at (s_hs s) j).1 = 1) (hd2 : ¬ (hd_at (s_hs s) t).1 = 1) : ex_M g 7 mX9_checkPair [.ref x, .int y, .int z] S n k (ex_rt none S n k) := by
  refine ex_enter (by decide +kernel) (Nat.le_of_ble_eq_true rfl) ?_
  show ex_W _ _ _ _ 0 [(0, .ref x), (1, .int y), (2, .int z)] [] _ _ _
  obtain ⟨hB, hCS, hCH, hCG, hCT, hCR, hCN, hCD, hCW⟩ := id h
  obtain ⟨bd1, bd2, bd3, ⟨bd4, bd5⟩, bd6, ⟨bd7, bd8⟩, bd9, bd10, bd11, bd12⟩ := id hb
  refine ex_aload_n dX9_checkPair_0 0 rfl ?_
  refine ex_iload_n dX9_checkPair_1 1 rfl ?_
  refine ex_cVv [.int y] [] dX9_checkPair_2 cV_X9_75 (c_chkH1 g h hb (by omega) (by omega) hy) hB.1.1 hB.1.2 rfl rfl rfl (by decide) (Nat.le_of_ble_eq_true rfl) rfl ?_
  refine ex_aload_n dX9_checkPair_5 0 rfl ?_
  refine ex_iload_n dX9_checkPair_6 2 rfl ?_
  refine ex_cVv [.int z] [] dX9_checkPair_7 cV_X9_75 (c_chkH1 g h hb (by omega) (by omega) hz) hB.1.1 hB.1.2 rfl rfl rfl (by decide) (Nat.le_of_ble_eq_true rfl) rfl ?_
  refine ex_iload_n dX9_checkPair_10 1 rfl ?_
  refine ex_iload_n dX9_checkPair_11 2 rfl ?_
  refine ex_icmp_ne (tgt := 26) dX9_checkPair_12 (by decide) (fun c12 => ?_) (fun c12 => absurd c12 he)
  refine ex_aload_n dX9_checkPair_26 0 rfl ?_
  refine ex_iload_n dX9_checkPair_27 1 rfl ?_
  refine ex_cVv [.int y] [] dX9_checkPair_28 cV_X9_85 (c_alive1 g h hb (by omega) (by omega) hyj hj hd) hB.1.1 hB.1.2 rfl rfl rfl (by decide) (Nat.le_of_ble_eq_true rfl) rfl ?_
  refine ex_aload_n dX9_checkPair_31 0 rfl ?_
  refine ex_iload_n dX9_checkPair_32 2 rfl ?_
  refine ex_cVv [.int z] [] dX9_checkPair_33 cV_X9_85 (c_alive1 g h hb (by omega) (by omega) hzt ht hd2) hB.1.1 hB.1.2 rfl rfl rfl (by decide) (Nat.le_of_ble_eq_true rfl) rfl ?_
  exact ex_vrt rfl dX9_checkPair_36 ex_rt_i
set_option maxRecDepth 20000 in
set_option maxHeartbeats 4000000 in
theorem c_give (g : gl_T) {S : hs_T} {n k x l tp nz : Nat} {ow : Nat → Nat} {s : st_T} {ys : List Nat} {c : Nat → Nat} (h : RC g S ow x l tp nz s ys c) (hb : BD s) (hO : OK s) (hn : n + 40000 ≤ ex_NM) (hk : k + 200000 ≤ ex_KM) {y xa xb z : Int32} : ex_M g 11 mX9_give [.ref x, .int y, .int xa, .int xb, .int z] S n k (cp g S ow x l tp nz c n k ex3 s (sp_give s y xa xb z)) := by
  refine ex_enter (by decide +kernel) (Nat.le_of_ble_eq_true rfl) ?_
  show ex_W _ _ _ _ 0 [(0, .ref x), (1, .int y), (2, .int xa), (3, .int xb), (4, .int z)] [] _ _ _
  obtain ⟨hB, hCS, hCH, hCG, hCT, hCR, hCN, hCD, hCW⟩ := id h
  obtain ⟨bd1, bd2, bd3, ⟨bd4, bd5⟩, bd6, ⟨bd7, bd8⟩, bd9, bd10, bd11, bd12⟩ := id hb
  by_cases hy : hd_ok s y
  · by_cases hz : hd_ok s z
    · by_cases he : y = z
      · refine ex_aload_n dX9_give_0 0 rfl ?_
        refine ex_iload_n dX9_give_1 1 rfl ?_
        refine ex_iload dX9_give_2 4 rfl ?_
        exact ex_cVg [.int y, .int z] [] dX9_give_4 cV_X9_92 (c_pair_3 g h hb (by omega) (by omega) hy hz he) hB.1.1 hB.1.2 rfl rfl rfl (by decide) (Nat.le_of_ble_eq_true rfl) rfl (fun v S9 n9 k9 h9 => by obtain ⟨h9, -⟩ := h9; cases h9) (fun E S9 n9 k9 h9 => by obtain ⟨h91, h92, h93, h94⟩ := h9; cases h91; subst h92 h93 h94; exact (cp_x (code := 2) (by unfold sp_give; rw [if_pos ⟨hy, hz⟩, if_pos he]) (by decide) rfl h))
      · obtain ⟨j, hj, hyj⟩ := hd_of hy bd3
        obtain ⟨t, ht, hzt⟩ := hd_of hz bd3
        have hcy : y.toNatClampNeg = j := by rw [hyj]; exact nI_clamp (by omega)
        have hcz : z.toNatClampNeg = t := by rw [hzt]; exact nI_clamp (by omega)
        by_cases hd : (hd_at (s_hs s) j).1 = 1
        · refine ex_aload_n dX9_give_0 0 rfl ?_
          refine ex_iload_n dX9_give_1 1 rfl ?_
          refine ex_iload dX9_give_2 4 rfl ?_
          exact ex_cVg [.int y, .int z] [] dX9_give_4 cV_X9_92 (c_pair_4 g h hb (by omega) (by omega) hy hz he hyj hzt hj ht hd) hB.1.1 hB.1.2 rfl rfl rfl (by decide) (Nat.le_of_ble_eq_true rfl) rfl (fun v S9 n9 k9 h9 => by obtain ⟨h9, -⟩ := h9; cases h9) (fun E S9 n9 k9 h9 => by obtain ⟨h91, h92, h93, h94⟩ := h9; cases h91; subst h92 h93 h94; exact (cp_x (code := 3) (by unfold sp_give; rw [if_pos ⟨hy, hz⟩, if_neg he, hcy, hcz, if_pos (Or.inl hd)]) (by decide) rfl h))
        · by_cases hd2 : (hd_at (s_hs s) t).1 = 1
          · refine ex_aload_n dX9_give_0 0 rfl ?_
            refine ex_iload_n dX9_give_1 1 rfl ?_
            refine ex_iload dX9_give_2 4 rfl ?_
            exact ex_cVg [.int y, .int z] [] dX9_give_4 cV_X9_92 (c_pair_5 g h hb (by omega) (by omega) hy hz he hyj hzt hj ht hd hd2) hB.1.1 hB.1.2 rfl rfl rfl (by decide) (Nat.le_of_ble_eq_true rfl) rfl (fun v S9 n9 k9 h9 => by obtain ⟨h9, -⟩ := h9; cases h9) (fun E S9 n9 k9 h9 => by obtain ⟨h91, h92, h93, h94⟩ := h9; cases h91; subst h92 h93 h94; exact (cp_x (code := 3) (by unfold sp_give; rw [if_pos ⟨hy, hz⟩, if_neg he, hcy, hcz, if_pos (Or.inr hd2)]) (by decide) rfl h))
          · refine ex_aload_n dX9_give_0 0 rfl ?_
            refine ex_iload_n dX9_give_1 1 rfl ?_
            refine ex_iload dX9_give_2 4 rfl ?_
            refine ex_cVv [.int y, .int z] [] dX9_give_4 cV_X9_92 (c_pair_6 g h hb (by omega) (by omega) hy hz he hyj hzt hj ht hd hd2) hB.1.1 hB.1.2 rfl rfl rfl (by decide) (Nat.le_of_ble_eq_true rfl) rfl ?_
            refine ex_aload_n dX9_give_7 0 rfl ?_
            refine ex_getR (b := l) dX9_give_8 fl_X9_19 hB.1.1 hB.1.2 hB.2.1.1 ?_
            refine ex_iload_n dX9_give_11 1 rfl ?_
            refine ex_iload_n dX9_give_12 2 rfl ?_
            refine ex_iload_n dX9_give_13 3 rfl ?_
            refine ex_iload dX9_give_14 4 rfl ?_
            refine ex_aload_n dX9_give_16 0 rfl ?_
            refine ex_getI dX9_give_17 fl_X9_54 hB.1.1 hB.1.2 ?_
            refine ex_cVg [.int y, .int xa, .int xb, .int z, .int (hs_I S x 11)] [] dX9_give_20 cV_X9_96 (c_passm g h hb hn hk (to := some t) hyj (by omega) hzt (fun t2 ht2 => by cases ht2; omega) hCS.1) hB.2.1.2.1 hB.2.1.2.2 rfl rfl rfl (by decide) (Nat.le_of_ble_eq_true rfl) rfl ?_ (fun E S' n' k' h => by obtain ⟨h1, -⟩ := h; cases h1)
            rintro v' S2 n2 k2 ⟨hr2, hrest⟩
            cases hr2
            show ex_W _ _ _ _ 23 [(0, .ref x), (1, .int y), (2, .int xa), (3, .int xb), (4, .int z)] [.int ((sp_goes s j xa xb (some t)).1)] S2 n2 k2
            exact ex_irt rfl dX9_give_23 (cv_cp (by unfold sp_give; rw [if_pos ⟨hy, hz⟩, if_neg he, hcy, hcz, if_neg (fun q => q.elim hd hd2)]) ⟨rfl, hrest⟩)
    · refine ex_aload_n dX9_give_0 0 rfl ?_
      refine ex_iload_n dX9_give_1 1 rfl ?_
      refine ex_iload dX9_give_2 4 rfl ?_
      exact ex_cVg [.int y, .int z] [] dX9_give_4 cV_X9_92 (c_pair_2 g h hb (by omega) (by omega) hy hz) hB.1.1 hB.1.2 rfl rfl rfl (by decide) (Nat.le_of_ble_eq_true rfl) rfl (fun v S9 n9 k9 h9 => by obtain ⟨h9, -⟩ := h9; cases h9) (fun E S9 n9 k9 h9 => by obtain ⟨h91, h92, h93, h94⟩ := h9; cases h91; subst h92 h93 h94; exact (cp_x (code := 1) (by unfold sp_give; rw [if_neg (fun q => hz q.2)]) (by decide) rfl h))
  · refine ex_aload_n dX9_give_0 0 rfl ?_
    refine ex_iload_n dX9_give_1 1 rfl ?_
    refine ex_iload dX9_give_2 4 rfl ?_
    exact ex_cVg [.int y, .int z] [] dX9_give_4 cV_X9_92 (c_pair_1 g h hb (by omega) (by omega) hy) hB.1.1 hB.1.2 rfl rfl rfl (by decide) (Nat.le_of_ble_eq_true rfl) rfl (fun v S9 n9 k9 h9 => by obtain ⟨h9, -⟩ := h9; cases h9) (fun E S9 n9 k9 h9 => by obtain ⟨h91, h92, h93, h94⟩ := h9; cases h91; subst h92 h93 h94; exact (cp_x (code := 1) (by unfold sp_give; rw [if_neg (fun q => hy q.1)]) (by decide) rfl h))
set_option maxRecDepth 20000 in
set_option maxHeartbeats 4000000 in
theorem c_cash (g : gl_T) {S : hs_T} {n k x l tp nz : Nat} {ow : Nat → Nat} {s : st_T} {ys : List Nat} {c : Nat → Nat} (h : RC g S ow x l tp nz s ys c) (hb : BD s) (hO : OK s) (hn : n + 40000 ≤ ex_NM) (hk : k + 200000 ≤ ex_KM) {y xa xb : Int32} : ex_M g 11 mX9_cash [.ref x, .int y, .int xa, .int xb] S n k (cp g S ow x l tp nz c n k (exJ exI exS) s (sp_cash s y xa xb)) := by
  refine ex_enter (by decide +kernel) (Nat.le_of_ble_eq_true rfl) ?_
  show ex_W _ _ _ _ 0 [(0, .ref x), (1, .int y), (2, .int xa), (3, .int xb)] [] _ _ _
  obtain ⟨hB, hCS, hCH, hCG, hCT, hCR, hCN, hCD, hCW⟩ := id h
  obtain ⟨bd1, bd2, bd3, ⟨bd4, bd5⟩, bd6, ⟨bd7, bd8⟩, bd9, bd10, bd11, bd12⟩ := id hb
  by_cases hq : hd_ok s y
  · obtain ⟨j, hj, hyj⟩ := hd_of hq bd3
    have hcl : y.toNatClampNeg = j := by rw [hyj]; exact nI_clamp (by omega)
    by_cases hd : (hd_at (s_hs s) j).1 = 1
    · refine ex_aload_n dX9_cash_0 0 rfl ?_
      refine ex_iload_n dX9_cash_1 1 rfl ?_
      refine ex_cVv [.int y] [] dX9_cash_2 cV_X9_75 (c_chkH1 g h hb (by omega) (by omega) hq) hB.1.1 hB.1.2 rfl rfl rfl (by decide) (Nat.le_of_ble_eq_true rfl) rfl ?_
      refine ex_aload_n dX9_cash_5 0 rfl ?_
      refine ex_iload_n dX9_cash_6 1 rfl ?_
      exact ex_cVg [.int y] [] dX9_cash_7 cV_X9_85 (c_alive0 g h hb (by omega) (by omega) hyj hj hd) hB.1.1 hB.1.2 rfl rfl rfl (by decide) (Nat.le_of_ble_eq_true rfl) rfl (fun v S9 n9 k9 h9 => by obtain ⟨h9, -⟩ := h9; cases h9) (fun E S9 n9 k9 h9 => by obtain ⟨h91, h92, h93, h94⟩ := h9; cases h91; subst h92 h93 h94; exact (cp_x (code := 2) (by unfold sp_cash; rw [if_pos hq, hcl, if_pos hd]) (by decide) rfl h))
    · refine ex_aload_n dX9_cash_0 0 rfl ?_
      refine ex_iload_n dX9_cash_1 1 rfl ?_
      refine ex_cVv [.int y] [] dX9_cash_2 cV_X9_75 (c_chkH1 g h hb (by omega) (by omega) hq) hB.1.1 hB.1.2 rfl rfl rfl (by decide) (Nat.le_of_ble_eq_true rfl) rfl ?_
      refine ex_aload_n dX9_cash_5 0 rfl ?_
      refine ex_iload_n dX9_cash_6 1 rfl ?_
      refine ex_cVv [.int y] [] dX9_cash_7 cV_X9_85 (c_alive1 g h hb (by omega) (by omega) hyj hj hd) hB.1.1 hB.1.2 rfl rfl rfl (by decide) (Nat.le_of_ble_eq_true rfl) rfl ?_
      refine ex_aload_n dX9_cash_10 0 rfl ?_
      refine ex_getR (b := l) dX9_cash_11 fl_X9_19 hB.1.1 hB.1.2 hB.2.1.1 ?_
      refine ex_iload_n dX9_cash_14 1 rfl ?_
      refine ex_iload_n dX9_cash_15 2 rfl ?_
      refine ex_iload_n dX9_cash_16 3 rfl ?_
      refine ex_iconst (v := (-1)) dX9_cash_17 (by decide) ?_
      refine ex_aload_n dX9_cash_18 0 rfl ?_
      refine ex_getI dX9_cash_19 fl_X9_54 hB.1.1 hB.1.2 ?_
      refine ex_cVg [.int y, .int xa, .int xb, .int (-1), .int (hs_I S x 11)] [] dX9_cash_22 cV_X9_96 (c_passm g h hb hn hk (to := none) hyj (by omega) rfl (fun t2 ht2 => by cases ht2) hCS.1) hB.2.1.2.1 hB.2.1.2.2 rfl rfl rfl (by decide) (Nat.le_of_ble_eq_true rfl) rfl ?_ (fun E S' n' k' h => by obtain ⟨h1, -⟩ := h; cases h1)
      rintro v' S2 n2 k2 ⟨hr2, hrest⟩
      cases hr2
      show ex_W _ _ _ _ 25 [(0, .ref x), (1, .int y), (2, .int xa), (3, .int xb)] [.int ((sp_goes s j xa xb none).1)] S2 n2 k2
      refine ex_istore [(4, .int ((sp_goes s j xa xb none).1)), (0, .ref x), (1, .int y), (2, .int xa), (3, .int xb)] dX9_cash_25 (by decide) rfl ?_
      refine ex_iload dX9_cash_27 0 rfl ?_
      refine ex_if_ge (tgt := 37) dX9_cash_29 (by decide) (fun c29 => ?_) (fun c29 => ?_)
      · refine ex_iload_n dX9_cash_37 4 rfl ?_
        refine ex_iload_n dX9_cash_38 3 rfl ?_
        refine ex_isub dX9_cash_39 ?_
        refine ex_iconst (v := 1) dX9_cash_40 (by decide) ?_
        refine ex_iadd dX9_cash_41 ?_
        exact ex_irt rfl dX9_cash_42 (cv_cp (s' := (sp_goes s j xa xb none).2) (by unfold sp_cash; rw [if_pos hq, hcl, if_neg hd, if_neg (fun q => by simp only [i_le, i_lt, Int32.reduceToInt] at *; omega)]) ⟨rfl, hrest⟩)
      · refine ex_iload dX9_cash_32 0 rfl ?_
        refine ex_goto (tgt := 42) dX9_cash_34 (by decide) ?_
        exact ex_irt rfl dX9_cash_42 (cv_cp (s' := (sp_goes s j xa xb none).2) (by unfold sp_cash; rw [if_pos hq, hcl, if_neg hd, if_pos (by simp only [i_le, i_lt, Int32.reduceToInt] at *; omega)]) ⟨rfl, hrest⟩)
  · refine ex_aload_n dX9_cash_0 0 rfl ?_
    refine ex_iload_n dX9_cash_1 1 rfl ?_
    exact ex_cVg [.int y] [] dX9_cash_2 cV_X9_75 (c_chkH0 g h hb (by omega) (by omega) hq) hB.1.1 hB.1.2 rfl rfl rfl (by decide) (Nat.le_of_ble_eq_true rfl) rfl (fun v S9 n9 k9 h9 => by obtain ⟨h9, -⟩ := h9; cases h9) (fun E S9 n9 k9 h9 => by obtain ⟨h91, h92, h93, h94⟩ := h9; cases h91; subst h92 h93 h94; exact (cp_x (code := 1) (by unfold sp_cash; rw [if_neg hq]) (by decide) rfl h))
set_option maxRecDepth 20000 in
set_option maxHeartbeats 2000000 in
theorem c_died_w {g : gl_T} {S0 : hs_T} {n k x l tp nz j t : Nat} {ow : Nat → Nat} {s : st_T} {ys : List Nat} {c : Nat → Nat} {Po : ex_R} {y z u : Int32} (hyj : y = nI j) (hzt : z = nI t) (hj6 : j < 60) (hw2 : (s_ws s).length ≤ 2000) (hO : ∀ i, i < (s_ws s).length → (wi_at (s_ws s) i).2.2.2.1 < 60 ∧ (wi_at (s_ws s) i).2.2.2.2.2 ≤ 2) (kk : ∀ S, RC g S ow x l tp nz (w_ws s (dw j t (s_ws s) (s_ws s).length)) ys c → CK ow ow [8] [] S0 S → Po (.inl (some (.int u))) S n k) : ∀ q i S, i ≤ (s_ws s).length → (s_ws s).length < i + q → RC g S ow x l tp nz (w_ws s (dw j t (s_ws s) i)) ys c → CK ow ow [8] [] S0 S → ex_W g 11 mX9_died Po 44 [(4, .int (nI i)), (3, .int u), (0, .ref x), (1, .int y), (2, .int z)] [] S n k := by
  intro q
  induction q with
  | zero => intro i S h1 h2; exact absurd h2 (by omega)
  | succ q ih =>
    intro i S hi1 hi2 hR hC
    obtain ⟨hB, hCS, hCH, hCG, hCT, hCR, hCN, hCD, hCW⟩ := id hR
    obtain ⟨wa, ⟨a3, e3, r3, l3, o3, p3⟩, nd3, len3, f3⟩ := id hCW
    refine ex_iload dX9_died_44 0 rfl ?_
    refine ex_aload_n dX9_died_46 2 rfl ?_
    refine ex_getR (b := a3) dX9_died_47 fl_X9_47 hB.1.1 hB.1.2 r3 ?_
    refine ex_cVr [] [.int (nI i)] dX9_died_50 cV_X9_57 (c_szn g l3 (N := (s_ws s).length) (len3.trans (dw_len _ _ _ _))) l3.1.1 l3.1.2.1 rfl rfl rfl (by decide) (Nat.le_of_ble_eq_true rfl) rfl ?_
    refine ex_icmp_ge (tgt := 99) dX9_died_53 (by decide) (fun c53 => ?_) (fun c53 => ?_)
    · have hil : i = (s_ws s).length := by have := (nI_leI (by omega) (by omega)).mp c53; omega
      refine ex_iload_n dX9_died_99 1 rfl ?_
      exact ex_irt rfl dX9_died_100 (by subst hil; exact kk S hR hC)
    · have hil : i < (s_ws s).length := by
        rcases Nat.lt_or_ge i (s_ws s).length with q | q
        · exact q
        · exact absurd (nI_le q (by omega)) c53
      have hli : i < wa.length := by rw [len3]; show i < (dw _ _ _ i).length; rw [dw_len]; exact hil
      have mj := al_mem l3 hli
      obtain ⟨g0, g1, g2, g3, g4, g5⟩ := f3 i (by show i < (dw _ _ _ i).length; rw [dw_len]; exact hil)
      change hs_I S (wa.getD i 0) 3 = nI (wi_at (dw j t (s_ws s) i) i).2.2.2.1 at g3
      change hs_I S (wa.getD i 0) 5 = nI (wi_at (dw j t (s_ws s) i) i).2.2.2.2.2 at g5
      rw [dw_at _ _ _ _ _ (Nat.le_refl i)] at g3 g5
      obtain ⟨ho1, ho2⟩ := hO i hil
      refine ex_aload_n dX9_died_56 2 rfl ?_
      refine ex_getR (b := a3) dX9_died_57 fl_X9_47 hB.1.1 hB.1.2 r3 ?_
      refine ex_iload dX9_died_60 0 rfl ?_
      refine ex_cVr [.int (nI i)] [] dX9_died_62 cV_X9_103 (c_getj g l3 rfl (by omega)) l3.1.1 l3.1.2.1 rfl rfl rfl (by decide) (Nat.le_of_ble_eq_true rfl) rfl ?_
      refine ex_cast dX9_died_65 mj.1 mj.2 rfl kl_X9_111 ?_
      refine ex_astore [(5, .ref (wa.getD i 0)), (4, .int (nI i)), (3, .int u), (0, .ref x), (1, .int y), (2, .int z)] dX9_died_68 (by decide) rfl ?_
      refine ex_aload dX9_died_70 0 rfl ?_
      refine ex_getI dX9_died_72 fl_X9_113 mj.1 mj.2 ?_
      refine ex_iload_n dX9_died_75 4 rfl ?_
      refine ex_icmp_ne (tgt := 93) dX9_died_76 (by decide) (fun c76 => ?_) (fun c76 => ?_)
      · refine ex_iinc (v := nI (i + 1)) 1 [(4, .int (nI (i + 1))), (5, .ref (wa.getD i 0)), (3, .int u), (0, .ref x), (1, .int y), (2, .int z)] dX9_died_93 rfl (nI_1 i) (by decide) rfl ?_
        refine ex_goto (tgt := 44) dX9_died_96 (by decide) ?_
        refine ex_lv [0, 2, 3, 4, 5] rfl ?_
        have hnh : ¬ wi_hit j (wi_at (s_ws s) i) := by
          rintro ⟨z1, z2⟩
          first
            | exact c76 (by rw [g3, z2, hyj])
            | exact c84 (by rw [g5, z1]; rfl)
        have e : dw j t (s_ws s) (i + 1) = dw j t (s_ws s) i := by rw [dw, if_neg hnh]
        exact ih (i + 1) S (by omega) (by omega) (by rw [e]; exact hR) hC
      · refine ex_aload dX9_died_79 0 rfl ?_
        refine ex_getI dX9_died_81 fl_X9_116 mj.1 mj.2 ?_
        refine ex_if_ne (tgt := 93) dX9_died_84 (by decide) (fun c84 => ?_) (fun c84 => ?_)
        · refine ex_iinc (v := nI (i + 1)) 1 [(4, .int (nI (i + 1))), (5, .ref (wa.getD i 0)), (3, .int u), (0, .ref x), (1, .int y), (2, .int z)] dX9_died_93 rfl (nI_1 i) (by decide) rfl ?_
          refine ex_goto (tgt := 44) dX9_died_96 (by decide) ?_
          refine ex_lv [0, 2, 3, 4, 5] rfl ?_
          have hnh : ¬ wi_hit j (wi_at (s_ws s) i) := by
            rintro ⟨z1, z2⟩
            first
              | exact c76 (by rw [g3, z2, hyj])
              | exact c84 (by rw [g5, z1]; rfl)
          have e : dw j t (s_ws s) (i + 1) = dw j t (s_ws s) i := by rw [dw, if_neg hnh]
          exact ih (i + 1) S (by omega) (by omega) (by rw [e]; exact hR) hC
        · refine ex_aload dX9_died_87 0 rfl ?_
          refine ex_iload_n dX9_died_89 5 rfl ?_
          refine ex_putI dX9_died_90 fl_X9_113 (pf_X9_113 _) mj.1 mj.2 ?_
          refine ex_iinc (v := nI (i + 1)) 1 [(4, .int (nI (i + 1))), (5, .ref (wa.getD i 0)), (3, .int u), (0, .ref x), (1, .int y), (2, .int z)] dX9_died_93 rfl (nI_1 i) (by decide) rfl ?_
          refine ex_goto (tgt := 44) dX9_died_96 (by decide) ?_
          refine ex_lv [0, 2, 3, 4, 5] rfl ?_
          have hh : wi_hit j (wi_at (s_ws s) i) := ⟨(nI_eq (b := 0) (by omega) (by decide)).mp (g5.symm.trans c84), (nI_eq (by omega) (by omega)).mp (g3.symm.trans (c76.trans hyj))⟩
          have hw := CW_ho (c := c 3) hB.1 ⟨a3, e3, r3, l3, o3, p3⟩ nd3 len3 f3 (j := i) (by show i < (dw _ _ _ i).length; rw [dw_len]; exact hil) hzt
          have e : dw j t (s_ws s) (i + 1) = (dw j t (s_ws s) i).set i (wi_ho (wi_at (dw j t (s_ws s) i) i) t) := by rw [dw, if_pos hh, dw_at _ _ _ _ _ (Nat.le_refl i)]
          exact ih (i + 1) _ (by omega) (by omega) (by rw [e]; show RC g _ ow x l tp nz (w_ws (w_ws s (dw j t (s_ws s) i)) _) ys c; exact RC_w hR hw) (CK_tr hC hw.2)
set_option maxRecDepth 20000 in
set_option maxHeartbeats 4000000 in
theorem c_died (g : gl_T) {S : hs_T} {n k x l tp nz : Nat} {ow : Nat → Nat} {s : st_T} {ys : List Nat} {c : Nat → Nat} (h : RC g S ow x l tp nz s ys c) (hb : BD s) (hO : OK s) (hn : n + 40000 ≤ ex_NM) (hk : k + 200000 ≤ ex_KM) {y z : Int32} : ex_M g 11 mX9_died [.ref x, .int y, .int z] S n k (cp g S ow x l tp nz c n k ex3 s (sp_died s y z)) := by
  refine ex_enter (by decide +kernel) (Nat.le_of_ble_eq_true rfl) ?_
  show ex_W _ _ _ _ 0 [(0, .ref x), (1, .int y), (2, .int z)] [] _ _ _
  obtain ⟨hB, hCS, hCH, hCG, hCT, hCR, hCN, hCD, hCW⟩ := id h
  obtain ⟨bd1, bd2, bd3, ⟨bd4, bd5⟩, bd6, ⟨bd7, bd8⟩, bd9, bd10, bd11, bd12⟩ := id hb
  by_cases hy : hd_ok s y
  · by_cases hz : hd_ok s z
    · by_cases he : y = z
      · refine ex_aload_n dX9_died_0 0 rfl ?_
        refine ex_iload_n dX9_died_1 1 rfl ?_
        refine ex_iload_n dX9_died_2 2 rfl ?_
        exact ex_cVg [.int y, .int z] [] dX9_died_3 cV_X9_92 (c_pair_3 g h hb (by omega) (by omega) hy hz he) hB.1.1 hB.1.2 rfl rfl rfl (by decide) (Nat.le_of_ble_eq_true rfl) rfl (fun v S9 n9 k9 h9 => by obtain ⟨h9, -⟩ := h9; cases h9) (fun E S9 n9 k9 h9 => by obtain ⟨h91, h92, h93, h94⟩ := h9; cases h91; subst h92 h93 h94; exact (cp_x (code := 2) (by unfold sp_died; rw [if_pos ⟨hy, hz⟩, if_pos he]) (by decide) rfl h))
      · obtain ⟨j, hj, hyj⟩ := hd_of hy bd3
        obtain ⟨t, ht, hzt⟩ := hd_of hz bd3
        have hcy : y.toNatClampNeg = j := by rw [hyj]; exact nI_clamp (by omega)
        have hcz : z.toNatClampNeg = t := by rw [hzt]; exact nI_clamp (by omega)
        by_cases hd : (hd_at (s_hs s) j).1 = 1
        · refine ex_aload_n dX9_died_0 0 rfl ?_
          refine ex_iload_n dX9_died_1 1 rfl ?_
          refine ex_iload_n dX9_died_2 2 rfl ?_
          exact ex_cVg [.int y, .int z] [] dX9_died_3 cV_X9_92 (c_pair_4 g h hb (by omega) (by omega) hy hz he hyj hzt hj ht hd) hB.1.1 hB.1.2 rfl rfl rfl (by decide) (Nat.le_of_ble_eq_true rfl) rfl (fun v S9 n9 k9 h9 => by obtain ⟨h9, -⟩ := h9; cases h9) (fun E S9 n9 k9 h9 => by obtain ⟨h91, h92, h93, h94⟩ := h9; cases h91; subst h92 h93 h94; exact (cp_x (code := 3) (by unfold sp_died; rw [if_pos ⟨hy, hz⟩, if_neg he, hcy, hcz, if_pos (Or.inl hd)]) (by decide) rfl h))
        · by_cases hd2 : (hd_at (s_hs s) t).1 = 1
          · refine ex_aload_n dX9_died_0 0 rfl ?_
            refine ex_iload_n dX9_died_1 1 rfl ?_
            refine ex_iload_n dX9_died_2 2 rfl ?_
            exact ex_cVg [.int y, .int z] [] dX9_died_3 cV_X9_92 (c_pair_5 g h hb (by omega) (by omega) hy hz he hyj hzt hj ht hd hd2) hB.1.1 hB.1.2 rfl rfl rfl (by decide) (Nat.le_of_ble_eq_true rfl) rfl (fun v S9 n9 k9 h9 => by obtain ⟨h9, -⟩ := h9; cases h9) (fun E S9 n9 k9 h9 => by obtain ⟨h91, h92, h93, h94⟩ := h9; cases h91; subst h92 h93 h94; exact (cp_x (code := 3) (by unfold sp_died; rw [if_pos ⟨hy, hz⟩, if_neg he, hcy, hcz, if_pos (Or.inr hd2)]) (by decide) rfl h))
          · have hgl := gm_le j 0 1000000000 (s_td s) (some t) (s_ls s) (s_ls s).length
            by_cases hgt : 1500 < (s_ls s).length + gm j 0 1000000000 (s_td s) (some t) (s_ls s) (s_ls s).length
            · refine ex_aload_n dX9_died_0 0 rfl ?_
              refine ex_iload_n dX9_died_1 1 rfl ?_
              refine ex_iload_n dX9_died_2 2 rfl ?_
              refine ex_cVv [.int y, .int z] [] dX9_died_3 cV_X9_92 (c_pair_6 g h hb (by omega) (by omega) hy hz he hyj hzt hj ht hd hd2) hB.1.1 hB.1.2 rfl rfl rfl (by decide) (Nat.le_of_ble_eq_true rfl) rfl ?_
              refine ex_aload_n dX9_died_6 0 rfl ?_
              refine ex_getR (b := l) dX9_died_7 fl_X9_19 hB.1.1 hB.1.2 hB.2.1.1 ?_
              refine ex_iload_n dX9_died_10 1 rfl ?_
              refine ex_iload_n dX9_died_11 2 rfl ?_
              refine ex_aload_n dX9_died_12 0 rfl ?_
              refine ex_getI dX9_died_13 fl_X9_54 hB.1.1 hB.1.2 ?_
              refine ex_cVg [.int y, .int z, .int (hs_I S x 11)] [] dX9_died_16 cV_X9_100 (c_inherit g h hb hn hk (h0 := j) (t0 := t) hyj (by omega) hzt (by omega) hCS.1) hB.2.1.2.1 hB.2.1.2.2 rfl rfl rfl (by decide) (Nat.le_of_ble_eq_true rfl) rfl ?_ (fun E S' n' k' h => by obtain ⟨h1, -⟩ := h; cases h1)
              rintro v' S2 n2 k2 ⟨hr2, ow2, c2, ys2, hR2, hK2, hrb2⟩
              cases hr2
              show ex_W _ _ _ _ 19 [(0, .ref x), (1, .int y), (2, .int z)] [.int ((sp_inh s j t).1)] S2 n2 k2
              refine ex_istore_n [(3, .int ((sp_inh s j t).1)), (0, .ref x), (1, .int y), (2, .int z)] dX9_died_19 (by decide) rfl ?_
              refine ex_iload_n dX9_died_20 0 rfl ?_
              refine ex_if_ge (tgt := 26) dX9_died_21 (by decide) (fun c21 => absurd c21 (by unfold sp_inh; rw [if_pos hgt]; show ¬ (0 : Int32) ≤ -2; decide)) (fun c21 => ?_)
              refine ex_iload_n dX9_died_24 0 rfl ?_
              exact ex_irt rfl dX9_died_25 (cp_i (ow' := ow2) (c' := c2) (ys' := ys2) (s' := (sp_inh s j t).2) (by unfold sp_died; rw [if_pos ⟨hy, hz⟩, if_neg he, hcy, hcz, if_neg (fun q => q.elim hd hd2), if_pos hgt]; unfold sp_inh; rw [if_pos hgt]) hR2 hK2 hrb2)
            · refine ex_aload_n dX9_died_0 0 rfl ?_
              refine ex_iload_n dX9_died_1 1 rfl ?_
              refine ex_iload_n dX9_died_2 2 rfl ?_
              refine ex_cVv [.int y, .int z] [] dX9_died_3 cV_X9_92 (c_pair_6 g h hb (by omega) (by omega) hy hz he hyj hzt hj ht hd hd2) hB.1.1 hB.1.2 rfl rfl rfl (by decide) (Nat.le_of_ble_eq_true rfl) rfl ?_
              refine ex_aload_n dX9_died_6 0 rfl ?_
              refine ex_getR (b := l) dX9_died_7 fl_X9_19 hB.1.1 hB.1.2 hB.2.1.1 ?_
              refine ex_iload_n dX9_died_10 1 rfl ?_
              refine ex_iload_n dX9_died_11 2 rfl ?_
              refine ex_aload_n dX9_died_12 0 rfl ?_
              refine ex_getI dX9_died_13 fl_X9_54 hB.1.1 hB.1.2 ?_
              refine ex_cVg [.int y, .int z, .int (hs_I S x 11)] [] dX9_died_16 cV_X9_100 (c_inherit g h hb hn hk (h0 := j) (t0 := t) hyj (by omega) hzt (by omega) hCS.1) hB.2.1.2.1 hB.2.1.2.2 rfl rfl rfl (by decide) (Nat.le_of_ble_eq_true rfl) rfl ?_ (fun E S' n' k' h => by obtain ⟨h1, -⟩ := h; cases h1)
              rintro v' S2 n2 k2 ⟨hr2, ow2, c2, ys2, hR2, hK2, hrb2⟩
              cases hr2
              show ex_W _ _ _ _ 19 [(0, .ref x), (1, .int y), (2, .int z)] [.int ((sp_inh s j t).1)] S2 n2 k2
              refine ex_istore_n [(3, .int ((sp_inh s j t).1)), (0, .ref x), (1, .int y), (2, .int z)] dX9_died_19 (by decide) rfl ?_
              refine ex_iload_n dX9_died_20 0 rfl ?_
              refine ex_if_ge (tgt := 26) dX9_died_21 (by decide) (fun c21 => ?_) (fun c21 => absurd (by unfold sp_inh; rw [if_neg hgt]; exact nI_pos' (by omega)) c21)
              have hsi : sp_inh s j t = (nI (gm j 0 1000000000 (s_td s) (some t) (s_ls s) (s_ls s).length), w_ls s (gs j 0 1000000000 (s_td s) (some t) (s_ls s) (s_ls s).length)) := by unfold sp_inh; rw [if_neg hgt]
              rw [hsi] at hR2 hrb2
              change RC g S2 ow2 x l tp nz (w_ls s (gs j 0 1000000000 (s_td s) (some t) (s_ls s) (s_ls s).length)) ys2 c2 at hR2
              obtain ⟨hB2, hCS2, hCH2, hCG2, hCT2, hCR2, hCN2, hCD2, hCW2⟩ := id hR2
              obtain ⟨as, ⟨a0, e0, r0, l0, o0, p0⟩, nd0, len0, f0⟩ := id hCH2
              have hj0 : j < as.length := by rw [len0]; exact hj
              have mj := al_mem l0 hj0
              refine ex_aload_n dX9_died_26 1 rfl ?_
              refine ex_getR (b := a0) dX9_died_27 fl_X9_10 hB2.1.1 hB2.1.2 r0 ?_
              refine ex_iload_n dX9_died_30 2 rfl ?_
              refine ex_cVr [.int y] [] dX9_died_31 cV_X9_103 (c_getj g l0 hyj hj0) l0.1.1 l0.1.2.1 rfl rfl rfl (by decide) (Nat.le_of_ble_eq_true rfl) rfl ?_
              refine ex_cast dX9_died_34 mj.1 mj.2 rfl kl_X9_68 ?_
              refine ex_iconst (v := 1) dX9_died_37 (by decide) ?_
              refine ex_putZ dX9_died_38 fl_X9_107 (pf_X9_107 _) mj.1 mj.2 (by decide) ?_
              refine ex_iconst (v := 0) dX9_died_41 (by decide) ?_
              refine ex_istore [(4, .int 0), (3, .int ((sp_inh s j t).1)), (0, .ref x), (1, .int y), (2, .int z)] dX9_died_42 (by decide) rfl ?_
              have hdd := CH_dead (c := c2 0) hB2.1 ⟨a0, e0, r0, l0, o0, p0⟩ nd0 len0 f0 hj
              have hR3 := RC_h hR2 hdd
              refine ex_lv [0, 1, 2, 3, 4] rfl ?_
              refine c_died_w (s := w_hs (w_ls s (gs j 0 1000000000 (s_td s) (some t) (s_ls s) (s_ls s).length)) ((s_hs s).set j (1, (hd_at (s_hs s) j).2))) (j := j) (t := t) hyj hzt (by omega) bd11 (fun i hi => ⟨by have q := (hO.2.2.2.1 i hi).2.2.2.2.1; show (wi_at (s_ws s) i).2.2.2.1 < 60; omega, (hO.2.2.2.1 i hi).2.2.2.2.2.2⟩) (fun S4 hR4 hC4 => ?_) ((s_ws s).length + 1) 0 _ (by omega) (by show (s_ws s).length < 0 + ((s_ws s).length + 1); omega) hR3 (CK_rf _ _ _ _)
              refine cp_i (ow' := ow2) (c' := c2) (ys' := ys2) (s' := w_ws (w_hs (w_ls s (gs j 0 1000000000 (s_td s) (some t) (s_ls s) (s_ls s).length)) ((s_hs s).set j (1, (hd_at (s_hs s) j).2))) (dw j t (s_ws s) (s_ws s).length)) ?_ hR4 (CK_tr hK2 (CK_tr (CK_mono hdd.2 (by decide) (by decide)) (CK_mono hC4 (by decide) (by decide)))) hrb2
              unfold sp_died; rw [if_pos ⟨hy, hz⟩, if_neg he, hcy, hcz, if_neg (fun q => q.elim hd hd2), if_neg hgt, hsi]
              rfl
    · refine ex_aload_n dX9_died_0 0 rfl ?_
      refine ex_iload_n dX9_died_1 1 rfl ?_
      refine ex_iload_n dX9_died_2 2 rfl ?_
      exact ex_cVg [.int y, .int z] [] dX9_died_3 cV_X9_92 (c_pair_2 g h hb (by omega) (by omega) hy hz) hB.1.1 hB.1.2 rfl rfl rfl (by decide) (Nat.le_of_ble_eq_true rfl) rfl (fun v S9 n9 k9 h9 => by obtain ⟨h9, -⟩ := h9; cases h9) (fun E S9 n9 k9 h9 => by obtain ⟨h91, h92, h93, h94⟩ := h9; cases h91; subst h92 h93 h94; exact (cp_x (code := 1) (by unfold sp_died; rw [if_neg (fun q => hz q.2)]) (by decide) rfl h))
  · refine ex_aload_n dX9_died_0 0 rfl ?_
    refine ex_iload_n dX9_died_1 1 rfl ?_
    refine ex_iload_n dX9_died_2 2 rfl ?_
    exact ex_cVg [.int y, .int z] [] dX9_died_3 cV_X9_92 (c_pair_1 g h hb (by omega) (by omega) hy) hB.1.1 hB.1.2 rfl rfl rfl (by decide) (Nat.le_of_ble_eq_true rfl) rfl (fun v S9 n9 k9 h9 => by obtain ⟨h9, -⟩ := h9; cases h9) (fun E S9 n9 k9 h9 => by obtain ⟨h91, h92, h93, h94⟩ := h9; cases h91; subst h92 h93 h94; exact (cp_x (code := 1) (by unfold sp_died; rw [if_neg (fun q => hy q.1)]) (by decide) rfl h))
