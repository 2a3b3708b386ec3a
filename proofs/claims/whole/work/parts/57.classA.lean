theorem ln_ovH {h a b : Nat} {l : li_T} (hl : l.2.2.2.2 = none) (hf : l.1 ≤ l.2.1) : ln_ov h a b l = ovH h (a : Int) (b : Int) l := by
  unfold ln_ov ovH ovI
  by_cases z : l.2.2.1 = h
  · rw [if_pos ⟨hl, z⟩, if_pos z]
    split <;> omega
  · rw [if_neg (fun y => z y.2), if_neg z]
theorem BD_fl {s : st_T} (hb : BD s) (i : Nat) : (ln_at (s_ls s) i).1 ≤ (ln_at (s_ls s) i).2.1 := by
  by_cases z : i < (s_ls s).length
  · exact (hb.2.2.2.1.2 i z).1
  · unfold ln_at; rw [List.getD_eq_getElem?_getD, List.getElem?_eq_none (by omega)]; exact Nat.le_refl _
theorem ov_sum {s : st_T} {ys : List Nat} (hb : BD s) (hG : GO (s_ls s) ys) (h0 a b : Nat) : su (fun j => ln_ov h0 a b (ln_at (s_ls s) j)) (s_ls s).length = sm (fun j => ovH h0 (a : Int) (b : Int) (ln_at (s_ls s) j)) ys := by
  rw [GO_su (BD_fl hb) hG (ln_ov h0 a b) (fun q hq => by unfold ln_ov; rw [if_neg (fun z => hq z.1)])]
  exact sm_congr (fun i hi => ln_ovH ((hG.2 i).mp hi).2 (BD_fl hb i))
/-- who owns all of them, both ways -/
theorem own_iff {s : st_T} {ys : List Nat} (hb : BD s) (hG : GO (s_ls s) ys) (h0 : Nat) (xa xb : Int32) : (xa ≤ xb ∧ ((sm (fun j => ovH h0 xa.toInt xb.toInt (ln_at (s_ls s) j)) ys : Nat) : Int) = xb.toInt - xa.toInt + 1) ↔ (0 ≤ xa ∧ xa ≤ xb ∧ su (fun j => ln_ov h0 xa.toNatClampNeg xb.toNatClampNeg (ln_at (s_ls s) j)) (s_ls s).length = xb.toNatClampNeg - xa.toNatClampNeg + 1) := by
  have key : 0 ≤ xa → xa ≤ xb → (((sm (fun j => ovH h0 xa.toInt xb.toInt (ln_at (s_ls s) j)) ys : Nat) : Int) = xb.toInt - xa.toInt + 1 ↔ su (fun j => ln_ov h0 xa.toNatClampNeg xb.toNatClampNeg (ln_at (s_ls s) j)) (s_ls s).length = xb.toNatClampNeg - xa.toNatClampNeg + 1) := by
    intro h1 h2
    obtain ⟨a, ha, rfl⟩ := nI_of (x := xa) (by simp only [i_le, i_lt, Int32.reduceToInt] at *; omega)
    obtain ⟨b, hb2, rfl⟩ := nI_of (x := xb) (by simp only [i_le, i_lt, Int32.reduceToInt] at *; omega)
    have hab := (nI_leI ha hb2).mp h2
    rw [nI_clamp ha, nI_clamp hb2, nI_toInt ha, nI_toInt hb2, ov_sum hb hG]
    generalize sm (fun j => ovH h0 (a : Int) (b : Int) (ln_at (s_ls s) j)) ys = q
    omega
  constructor
  · rintro ⟨h1, h2⟩
    have h3 := (ov_own hG (BD_fl hb) ((i_le _ _).mp h1) h2).1
    have h4 : 0 ≤ xa := by rw [i_le]; exact h3
    exact ⟨h4, h1, (key h4 h1).mp h2⟩
  · rintro ⟨h1, h2, h3⟩
    exact ⟨h2, (key h1 h2).mpr h3⟩
theorem lm_gm {s : st_T} {ys : List Nat} (hb : BD s) (hG : GO (s_ls s) ys) {h0 a b td : Nat} {to : Option Nat} (hab : a ≤ b) (hown : ∀ i ∈ ys, 0 < ovI (a : Int) (b : Int) (ln_at (s_ls s) i) → (ln_at (s_ls s) i).2.2.1 = h0) : sm (fun j => lm a b to (ln_at (s_ls s) j)) ys = gm h0 a b td to (s_ls s) (s_ls s).length := by
  unfold gm
  rw [GO_su (BD_fl hb) hG (fun q => if ln_hit h0 a b q then (lc a b td to q).length else 0) (fun q hq => if_neg (fun z => hq z.1.1))]
  refine sm_congr (fun i hi => ?_)
  have h1 := BD_fl hb i
  show lm a b to (ln_at (s_ls s) i) = if _ then _ else _
  unfold lm
  by_cases z : 0 < ovI (a : Int) (b : Int) (ln_at (s_ls s) i)
  · have z2 : (ln_at (s_ls s) i).1 ≤ b ∧ a ≤ (ln_at (s_ls s) i).2.1 := by unfold ovI at z; omega
    rw [if_pos z, if_pos (show ln_hit h0 a b (ln_at (s_ls s) i) from ⟨⟨((hG.2 i).mp hi).2, hown i hi z⟩, z2⟩), lc_len]
  · rw [if_neg z, if_neg]
    intro y
    have := y.2
    unfold ovI at z
    omega
theorem lc_self {l : li_T} (h : l.1 ≤ l.2.1) (td t : Nat) : lc l.1 l.2.1 td (some t) l = [(l.1, l.2.1, t, td, none)] := by
  unfold lc lc1 lc2 lc3
  rw [if_neg (by omega), if_neg (by omega)]
  simp
/-- while lines pass: the heap, the lines, what was used -/
def PI (g : gl_T) (S0 S : hs_T) (ow0 ow : Nat → Nat) (l c4 c5 d4 d5 n0 n k0 k : Nat) (ls L : List li_T) (ys : List Nat) : Prop := LG g S ow l d4 d5 L ys ∧ CK ow0 ow [5] [4, 5] S0 S ∧ c4 ≤ d4 ∧ c5 ≤ d5 ∧ n + c4 + c5 + ls.length ≤ n0 + d4 + d5 + L.length ∧ k + 4 * (c4 + c5) + 5 * ls.length ≤ k0 + 4 * (d4 + d5) + 5 * L.length
theorem PI_rc {g : gl_T} {S S' : hs_T} {ow ow' : Nat → Nat} {x l tp nz : Nat} {s : st_T} {ys ys' : List Nat} {c : Nat → Nat} {d4 d5 n n' k k' : Nat} {L : List li_T} (h : RC g S ow x l tp nz s ys c) (hP : PI g S S' ow ow' l (c 4) (c 5) d4 d5 n n' k k' (s_ls s) L ys') : RC g S' ow' x l tp nz (w_ls s L) ys' (va_up (va_up c 4 d4) 5 d5) ∧ CK ow ow' cDk cDs S S' ∧ rb s (w_ls s L) c (va_up (va_up c 4 d4) 5 d5) n n' k k' := by
  obtain ⟨hB, hCS, hCH, hCG, hCT, hCR, hCN, hCD, hCW⟩ := h
  obtain ⟨h1, hC, h3, h4, h5, h6⟩ := hP
  refine ⟨⟨CB_ck hB hC, (CS_ck hB hCS hC (by decide) (by decide)), (CH_ck hB hCH hC (by decide) (by decide) (by decide) (by decide)), h1.2.1, (CT_ck hB hCT hC (by decide) (by decide) (by decide)), (CR_ck hB hCR hC (by decide) (by decide) (by decide) (by decide) (by decide) (by intro j z; simp at z; try omega)), (CN_ck hB hCN hC (by decide) (by decide) (by decide)), (CD_ck hB hCD hC (by decide) (by decide) (by decide) (by decide)), (CW_ck hB hCW hC (by decide) (by decide) (by decide) (by decide))⟩, CK_mono hC (by decide) (by decide), ?_, ?_⟩
  · show n' + cN c + (s_ls s).length ≤ n + 60 + cN (va_up (va_up c 4 d4) 5 d5) + L.length
    simp [cN, va_up]; omega
  · show k' + 4 * cN c + 5 * (s_ls s).length ≤ k + 600 + 4 * cN (va_up (va_up c 4 d4) 5 d5) + 5 * L.length
    simp [cN, va_up]; omega
theorem PI_rf {g : gl_T} {S : hs_T} {ow : Nat → Nat} {l c4 c5 n k : Nat} {ls : List li_T} {ys : List Nat} (h : LG g S ow l c4 c5 ls ys) : PI g S S ow ow l c4 c5 c4 c5 n n k k ls ls ys := ⟨h, CK_rf _ _ _ _, Nat.le_refl _, Nat.le_refl _, by omega, by omega⟩
theorem PI_tr {g : gl_T} {S0 S S' : hs_T} {ow0 ow ow' : Nat → Nat} {l c4 c5 d4 d5 e4 e5 n0 n n' k0 k k' : Nat} {ls L L' : List li_T} {ys ys' : List Nat} (h : PI g S0 S ow0 ow l c4 c5 d4 d5 n0 n k0 k ls L ys) (hC : CK ow ow' [5] [4, 5] S S') (hL : LG g S' ow' l e4 e5 L' ys') (h1 : d4 ≤ e4) (h2 : d5 ≤ e5) (h3 : n' + d4 + d5 + L.length ≤ n + e4 + e5 + L'.length) (h4 : k' + 4 * (d4 + d5) + 5 * L.length ≤ k + 4 * (e4 + e5) + 5 * L'.length) : PI g S0 S' ow0 ow' l c4 c5 e4 e5 n0 n' k0 k' ls L' ys' := by
  obtain ⟨_, g2, g3, g4, g5, g6⟩ := h
  exact ⟨hL, CK_tr g2 hC, by omega, by omega, by omega, by omega⟩
set_option maxRecDepth 20000 in
set_option maxHeartbeats 2000000 in
theorem c_passl {g : gl_T} {S0 : hs_T} {n0 k0 l c4 c5 : Nat} {ow0 : Nat → Nat} {ls : List li_T} {Po : ex_R} {y xa xb xt xd : Int32} {h0 a b td : Nat} {to : Option Nat} (hxa : xa = nI a) (hxb : xb = nI b) (hxt : xt = eN to) (hxd : xd = nI td) (hab : a ≤ b) (ha : a < 2 ^ 31) (hb9 : b < 2 ^ 31) (htd : td ≤ 100000) (hto : ∀ t, to = some t → t < 60) (hown : ∀ j, j < ls.length → (ln_at ls j).2.2.2.2 = none → 0 < ovI (a : Int) (b : Int) (ln_at ls j) → (ln_at ls j).2.2.1 = h0) (hlen : ls.length + gm h0 a b td to ls ls.length ≤ 1500) (hn : n0 + 40000 ≤ ex_NM) (hk : k0 + 200000 ≤ ex_KM) (kk : ∀ S ow' d4 d5 ys' n' k' w, PI g S0 S ow0 ow' l c4 c5 d4 d5 n0 n' k0 k' ls (gs h0 a b td to ls ls.length) ys' → ex_W g 10 mX4_pass Po 101 [(7, .int w), (6, .int (nI ls.length)), (0, .ref l), (1, .int y), (2, .int xa), (3, .int xb), (4, .int xt), (5, .int xd)] [] S n' k') : ∀ t i S ow' d4 d5 ys' n' k', i ≤ ls.length → ls.length < i + t → PI g S0 S ow0 ow' l c4 c5 d4 d5 n0 n' k0 k' ls (gs h0 a b td to ls i) ys' → ex_W g 10 mX4_pass Po 44 [(7, .int (nI i)), (6, .int (nI ls.length)), (0, .ref l), (1, .int y), (2, .int xa), (3, .int xb), (4, .int xt), (5, .int xd)] [] S n' k'  := by
  have hl9 : ls.length ≤ 1500 := by omega
  intro t
  induction t with
  | zero => intro i S ow' d4 d5 ys' n' k' h1 h2; exact absurd h2 (by omega)
  | succ t ih =>
    intro i S ow' d4 d5 ys' n' k' hi1 hi2 hP
    obtain ⟨hLG, hCK, hd4, hd5, hnn, hkk⟩ := id hP
    obtain ⟨hl, hCG, hl15, hlok⟩ := id hLG
    obtain ⟨la, ⟨a4, e4, r4, l4, o4, p4⟩, ⟨a5, e5, r5, l5, o5, p5⟩, nd4, len4, f4, hGi⟩ := id hCG
    have hd4b : d4 ≤ 5000 := l4.2.1.2
    have hd5b : d5 ≤ 5000 := l5.2.1.2
    refine ex_iload dX4_pass_44 0 rfl ?_
    refine ex_iload dX4_pass_46 1 rfl ?_
    refine ex_icmp_ge (tgt := 101) dX4_pass_48 (by decide) (fun c48 => ?_) (fun c48 => ?_)
    · have hil : i = ls.length := by have := (nI_leI (by omega) (by omega)).mp c48; omega
      subst hil
      exact kk S ow' d4 d5 ys' n' k' _ hP
    · have hil : i < ls.length := by
        rcases Nat.lt_or_ge i ls.length with q | q
        · exact q
        · exact absurd (nI_le q (by omega)) c48
      have hli : ln_at (gs h0 a b td to ls i) i = ln_at ls i := gs_at _ _ _ _ _ _ i i (Nat.le_refl _) hil
      have hgl := gs_len h0 a b td to ls i
      have hi9 : i < (gs h0 a b td to ls i).length := by omega
      have mj := al_mem l4 (j := i) (by omega)
      obtain ⟨g0, g1, g2, g3, g4⟩ := f4 i hi9
      rw [hli] at g0 g1 g2 g3 g4
      have hok := hlok i hi9
      rw [hli] at hok
      have hok1 := hok.1
      have hok2 := hok.2.1
      have hin : i ∈ ys' ↔ (ln_at ls i).2.2.2.2 = none := by rw [hGi.2, hli]; exact ⟨fun z => z.2, fun z => ⟨hi9, z⟩⟩
      have hgo : hs_I S (la.getD i 0) 4 = -1 ↔ (ln_at ls i).2.2.2.2 = none := by rw [g4]; exact eN_m1 hok.2.2.2.2
      refine ex_aload_n dX4_pass_51 2 rfl ?_
      refine ex_getR (b := a4) dX4_pass_52 fl_X4_12 hl.1 hl.2 r4 ?_
      refine ex_iload dX4_pass_55 0 rfl ?_
      refine ex_cVr [.int (nI i)] [] dX4_pass_57 cV_X4_46 (c_getj g l4 rfl (by omega)) l4.1.1 l4.1.2.1 rfl rfl rfl (by decide) (Nat.le_of_ble_eq_true rfl) rfl ?_
      refine ex_cast dX4_pass_60 mj.1 mj.2 rfl kl_X4_50 ?_
      refine ex_astore [(8, .ref (la.getD i 0)), (7, .int (nI i)), (6, .int (nI ls.length)), (0, .ref l), (1, .int y), (2, .int xa), (3, .int xb), (4, .int xt), (5, .int xd)] dX4_pass_63 (by decide) rfl ?_
      refine ex_aload dX4_pass_65 0 rfl ?_
      refine ex_cVr [] [] dX4_pass_67 cV_X4_52 (c_Line_goesOn g mj.1 mj.2) mj.1 mj.2 rfl rfl rfl (by decide) (Nat.le_of_ble_eq_true rfl) rfl ?_
      refine ex_if_eq (tgt := 95) dX4_pass_70 (by decide) (fun c70 => ?_) (fun c70 => ?_)
      · refine ex_iinc (v := nI (i + 1)) 1 [(7, .int (nI (i + 1))), (8, .ref (la.getD i 0)), (6, .int (nI ls.length)), (0, .ref l), (1, .int y), (2, .int xa), (3, .int xb), (4, .int xt), (5, .int xd)] dX4_pass_95 rfl (nI_1 i) (by decide) rfl ?_
        refine ex_goto (tgt := 44) dX4_pass_98 (by decide) ?_
        refine ex_lv [0, 2, 3, 4, 5, 6, 7, 8] rfl ?_
        have hnh : ¬ ln_hit h0 a b (ln_at ls i) := (fun z => by
          first
            | (rw [if_pos (hgo.mpr z.1.1)] at c70; exact absurd c70 (by decide))
            | (rw [hcm] at c80
               have z2 : ovI (a : Int) (b : Int) (ln_at ls i) ≤ 0 := Nat.le_of_not_lt (fun y => nI_nle y (by have := ov_le (a : Int) (b : Int) hok; omega) c80)
               have z3 := z.2
               unfold ovI at z2
               omega))
        have hgs : gs h0 a b td to ls (i + 1) = gs h0 a b td to ls i := by rw [gs, if_neg hnh]
        exact ih (i + 1) S ow' d4 d5 ys' n' k' (by omega) (by omega) (by rw [hgs]; exact hP)
      · have hcm : ln_common (hs_I S (la.getD i 0) 0) (hs_I S (la.getD i 0) 1) xa xb = nI (ovI (a : Int) (b : Int) (ln_at ls i)) := by rw [g0, g1, ln_cm hok, hxa, hxb, nI_toInt ha, nI_toInt hb9]
        refine ex_aload dX4_pass_73 0 rfl ?_
        refine ex_iload_n dX4_pass_75 5 rfl ?_
        refine ex_iload_n dX4_pass_76 6 rfl ?_
        refine ex_cVr [.int xa, .int xb] [] dX4_pass_77 cV_X4_56 (c_Line_common g mj.1 mj.2) mj.1 mj.2 rfl rfl rfl (by decide) (Nat.le_of_ble_eq_true rfl) rfl ?_
        refine ex_if_le (tgt := 95) dX4_pass_80 (by decide) (fun c80 => ?_) (fun c80 => ?_)
        · refine ex_iinc (v := nI (i + 1)) 1 [(7, .int (nI (i + 1))), (8, .ref (la.getD i 0)), (6, .int (nI ls.length)), (0, .ref l), (1, .int y), (2, .int xa), (3, .int xb), (4, .int xt), (5, .int xd)] dX4_pass_95 rfl (nI_1 i) (by decide) rfl ?_
          refine ex_goto (tgt := 44) dX4_pass_98 (by decide) ?_
          refine ex_lv [0, 2, 3, 4, 5, 6, 7, 8] rfl ?_
          have hnh : ¬ ln_hit h0 a b (ln_at ls i) := (fun z => by
            first
              | (rw [if_pos (hgo.mpr z.1.1)] at c70; exact absurd c70 (by decide))
              | (rw [hcm] at c80
                 have z2 : ovI (a : Int) (b : Int) (ln_at ls i) ≤ 0 := Nat.le_of_not_lt (fun y => nI_nle y (by have := ov_le (a : Int) (b : Int) hok; omega) c80)
                 have z3 := z.2
                 unfold ovI at z2
                 omega))
          have hgs : gs h0 a b td to ls (i + 1) = gs h0 a b td to ls i := by rw [gs, if_neg hnh]
          exact ih (i + 1) S ow' d4 d5 ys' n' k' (by omega) (by omega) (by rw [hgs]; exact hP)
        · have hon : (ln_at ls i).2.2.2.2 = none := by
            by_cases z : hs_I S (la.getD i 0) 4 = -1
            · exact hgo.mp z
            · rw [if_neg z] at c70; exact absurd rfl c70
          have hovp : 0 < ovI (a : Int) (b : Int) (ln_at ls i) := Nat.pos_of_ne_zero (fun z => c80 (by rw [hcm, z]; decide))
          have hhit : ln_hit h0 a b (ln_at ls i) := ⟨⟨hon, hown i hil hon hovp⟩, by unfold ovI at hovp; omega⟩
          have hh1 := hhit.2.1
          have hh2 := hhit.2.2
          obtain ⟨y1, y2, rfl⟩ := List.append_of_mem (hin.mpr hon)
          refine ex_aload_n dX4_pass_83 3 rfl ?_
          refine ex_aload dX4_pass_84 0 rfl ?_
          refine ex_iload_n dX4_pass_86 5 rfl ?_
          refine ex_iload_n dX4_pass_87 6 rfl ?_
          refine ex_iload dX4_pass_88 7 rfl ?_
          refine ex_iload dX4_pass_90 8 rfl ?_
          refine ex_cVg [.ref (la.getD i 0), .int xa, .int xb, .int xt, .int xd] [] dX4_pass_92 cV_X4_60 (c_passOne g (ls := gs h0 a b td to ls i) (y1 := y1) (y2 := y2) (a := a) (b := b) (td := td) (to := to) hl ⟨⟨a4, e4, r4, l4, o4, p4⟩, nd4, len4, f4⟩ ⟨a5, e5, r5, l5, o5, p5⟩ hGi hlok hxa hxb hxd hab (by omega) (by omega) (by rw [hli]; omega) (by rw [hli]; omega) htd (by omega) (by omega) hxt hto (by rw [hli]; have := gm_1 h0 a b td to ls i; rw [if_pos hhit] at this; have h5 : gm h0 a b td to ls (i + 1) ≤ gm h0 a b td to ls ls.length := su_mono (by omega); omega)) hl.1 hl.2 rfl rfl rfl (by decide) (Nat.le_of_ble_eq_true rfl) rfl ?_ (fun E S' n' k' h => by obtain ⟨h1, -⟩ := h; cases h1)
          rintro v' S2 n2 k2 ⟨hr2, ow2, d42, d52, ys2, hC2, hLG2, hc1, hc2, hn2, hk2⟩
          cases hr2
          have hP2 : PI g S0 S2 ow0 ow2 l c4 c5 d42 d52 n0 n2 k0 k2 ls (gs h0 a b td to ls (i + 1)) ys2 := by
            have hgs : gs h0 a b td to ls (i + 1) = (gs h0 a b td to ls i).set i (ln_end (ln_at (gs h0 a b td to ls i) i) td) ++ lc a b td (to) (ln_at (gs h0 a b td to ls i) i) := by rw [gs, if_pos hhit, hli]
            rw [hgs]
            exact PI_tr hP hC2 hLG2 hc1 hc2 hn2 hk2
          show ex_W _ _ _ _ 95 [(8, .ref (la.getD i 0)), (7, .int (nI i)), (6, .int (nI ls.length)), (0, .ref l), (1, .int y), (2, .int xa), (3, .int xb), (4, .int xt), (5, .int xd)] [] S2 n2 k2
          refine ex_iinc (v := nI (i + 1)) 1 [(7, .int (nI (i + 1))), (8, .ref (la.getD i 0)), (6, .int (nI ls.length)), (0, .ref l), (1, .int y), (2, .int xa), (3, .int xb), (4, .int xt), (5, .int xd)] dX4_pass_95 rfl (nI_1 i) (by decide) rfl ?_
          refine ex_goto (tgt := 44) dX4_pass_98 (by decide) ?_
          refine ex_lv [0, 2, 3, 4, 5, 6, 7, 8] rfl ?_
          exact ih (i + 1) S2 ow2 d42 d52 ys2 n2 k2 (by omega) (by omega) hP2
set_option maxRecDepth 20000 in
set_option maxHeartbeats 4000000 in
theorem c_passm (g : gl_T) {S : hs_T} {n k x l tp nz : Nat} {ow : Nat → Nat} {s : st_T} {ys : List Nat} {c : Nat → Nat} (h : RC g S ow x l tp nz s ys c) (hb : BD s) (hn : n + 40000 ≤ ex_NM) (hk : k + 200000 ≤ ex_KM) {y xa xb xt xd : Int32} {h0 : Nat} {to : Option Nat} (hy : y = nI h0) (hh : h0 < 60) (hxt : xt = eN to) (hto : ∀ t, to = some t → t < 60) (hxd : xd = nI (s_td s)) : ex_M g 10 mX4_pass [.ref l, .int y, .int xa, .int xb, .int xt, .int xd] S n k (cv g S ow x l tp nz c n k s (.int (sp_goes s h0 xa xb to).1) (sp_goes s h0 xa xb to).2) := by
  obtain ⟨hB, hCS, hCH, hCG, hCT, hCR, hCN, hCD, hCW⟩ := id h
  obtain ⟨bd1, bd2, bd3, ⟨bd4, bd5⟩, bd6, ⟨bd7, bd8⟩, bd9, bd10, bd11, bd12⟩ := id hb
  obtain ⟨la, ⟨a4, e4, r4, l4, o4, p4⟩, ⟨a5, e5, r5, l5, o5, p5⟩, nd4, len4, f4, hG⟩ := id hCG
  have hLG := RC_LG h hb
  have hiff := own_iff hb hG h0 xa xb
  refine ex_enter (by decide +kernel) (Nat.le_of_ble_eq_true rfl) ?_
  show ex_W _ _ _ _ 0 [(0, .ref l), (1, .int y), (2, .int xa), (3, .int xb), (4, .int xt), (5, .int xd)] [] _ _ _
  by_cases hq : 0 ≤ xa ∧ xa ≤ xb ∧ su (fun j => ln_ov h0 xa.toNatClampNeg xb.toNatClampNeg (ln_at (s_ls s) j)) (s_ls s).length = xb.toNatClampNeg - xa.toNatClampNeg + 1
  · obtain ⟨hq1, hq2, hq3⟩ := id hq
    obtain ⟨a, ha, hxa⟩ := nI_of (x := xa) (by simp only [i_le, i_lt, Int32.reduceToInt] at *; omega)
    obtain ⟨b, hb9, hxb⟩ := nI_of (x := xb) (by simp only [i_le, i_lt, Int32.reduceToInt] at *; omega)
    have hab : a ≤ b := (nI_leI ha hb9).mp (by rw [← hxa, ← hxb]; exact hq2)
    have hca : xa.toNatClampNeg = a := by rw [hxa]; exact nI_clamp ha
    have hcb : xb.toNatClampNeg = b := by rw [hxb]; exact nI_clamp hb9
    have hown0 := (ov_own hG (BD_fl hb) ((i_le _ _).mp hq2) (hiff.mpr hq).2).2
    rw [hxa, hxb, nI_toInt ha, nI_toInt hb9] at hown0
    have hlg := lm_gm (td := s_td s) (to := to) hb hG hab hown0
    have hgl := gm_le h0 a b (s_td s) to (s_ls s) (s_ls s).length
    refine ex_aload_n dX4_pass_0 0 rfl ?_
    refine ex_iload_n dX4_pass_1 1 rfl ?_
    refine ex_iload_n dX4_pass_2 2 rfl ?_
    refine ex_iload_n dX4_pass_3 3 rfl ?_
    refine ex_cVr [.int y, .int xa, .int xb] [] dX4_pass_4 cV_X4_38 (c_owns g hLG hy (by omega)) hB.2.1.2.1 hB.2.1.2.2 rfl rfl rfl (by decide) (Nat.le_of_ble_eq_true rfl) rfl ?_
    refine ex_if_ne (tgt := 12) dX4_pass_7 (by decide) (fun c7 => ?_) (fun c7 => absurd c7 (by rw [if_pos (hiff.mpr hq)]; decide))
    refine ex_aload_n dX4_pass_12 0 rfl ?_
    refine ex_getR (b := a4) dX4_pass_13 fl_X4_12 hB.2.1.2.1 hB.2.1.2.2 r4 ?_
    refine ex_cVr [] [] dX4_pass_16 cV_X4_26 (c_szn g l4 len4) l4.1.1 l4.1.2.1 rfl rfl rfl (by decide) (Nat.le_of_ble_eq_true rfl) rfl ?_
    refine ex_istore [(6, .int (nI (s_ls s).length)), (0, .ref l), (1, .int y), (2, .int xa), (3, .int xb), (4, .int xt), (5, .int xd)] dX4_pass_19 (by decide) rfl ?_
    refine ex_iload dX4_pass_21 0 rfl ?_
    refine ex_aload_n dX4_pass_23 1 rfl ?_
    refine ex_iload_n dX4_pass_24 3 rfl ?_
    refine ex_iload_n dX4_pass_25 4 rfl ?_
    refine ex_iload dX4_pass_26 5 rfl ?_
    refine ex_cVr [.int xa, .int xb, .int xt] [.int (nI (s_ls s).length)] dX4_pass_28 cV_X4_42 (c_lmp g hLG hxa hxb hxt ha hb9 (fun d hd => by have := hto d hd; omega)) hB.2.1.2.1 hB.2.1.2.2 rfl rfl rfl (by decide) (Nat.le_of_ble_eq_true rfl) rfl ?_
    refine ex_iadd dX4_pass_31 ?_
    refine ex_sipush (v := 1500) dX4_pass_32 (by decide) ?_
    refine ex_icmp_le (tgt := 41) dX4_pass_35 (by decide) (fun c35 => ?_) (fun c35 => ?_)
    · have hgt : ¬ 1500 < (s_ls s).length + gm h0 a b (s_td s) to (s_ls s) (s_ls s).length := by
        rw [hlg, nI_add] at c35
        have := (nI_leI (b := 1500) (by omega) (by decide)).mp c35
        omega
      refine ex_iconst (v := 0) dX4_pass_41 (by decide) ?_
      refine ex_istore [(7, .int 0), (6, .int (nI (s_ls s).length)), (0, .ref l), (1, .int y), (2, .int xa), (3, .int xb), (4, .int xt), (5, .int xd)] dX4_pass_42 (by decide) rfl ?_
      refine ex_lv [0, 1, 2, 3, 4, 5, 6, 7] rfl ?_
      refine c_passl (ls := s_ls s) (h0 := h0) (td := s_td s) hxa hxb hxt hxd hab ha hb9 bd1 hto (fun j hj hj2 hj3 => hown0 j ((hG.2 j).mpr ⟨hj, hj2⟩) hj3) (by omega) hn hk (fun S1 ow1 d4 d5 ys1 n1 k1 w hP => ?_) ((s_ls s).length + 1) 0 S ow (c 4) (c 5) ys n k (by omega) (by omega) (PI_rf hLG)
      have hR := PI_rc h hP
      refine ex_iconst (v := 1) dX4_pass_101 (by decide) ?_
      refine ex_irt rfl dX4_pass_102 ?_
      unfold sp_goes
      rw [if_pos hq, hca, hcb, if_neg hgt]
      exact ⟨rfl, ow1, _, ys1, hR.1, hR.2.1, hR.2.2⟩
    · have hgt : 1500 < (s_ls s).length + gm h0 a b (s_td s) to (s_ls s) (s_ls s).length := by
        rw [hlg, nI_add] at c35
        exact Nat.lt_of_not_le (fun z => c35 (nI_le z (by decide)))
      refine ex_bipush (v := (-2)) dX4_pass_38 (by decide) ?_
      exact ex_irt rfl dX4_pass_40 (cv_s (by unfold sp_goes; rw [if_pos hq, hca, hcb, if_pos hgt]) (by unfold sp_goes; rw [if_pos hq, hca, hcb, if_pos hgt]) h)
  · refine ex_aload_n dX4_pass_0 0 rfl ?_
    refine ex_iload_n dX4_pass_1 1 rfl ?_
    refine ex_iload_n dX4_pass_2 2 rfl ?_
    refine ex_iload_n dX4_pass_3 3 rfl ?_
    refine ex_cVr [.int y, .int xa, .int xb] [] dX4_pass_4 cV_X4_38 (c_owns g hLG hy (by omega)) hB.2.1.2.1 hB.2.1.2.2 rfl rfl rfl (by decide) (Nat.le_of_ble_eq_true rfl) rfl ?_
    refine ex_if_ne (tgt := 12) dX4_pass_7 (by decide) (fun c7 => absurd (if_neg (fun z => hq (hiff.mp z))) c7) (fun c7 => ?_)
    refine ex_iconst (v := (-1)) dX4_pass_10 (by decide) ?_
    exact ex_irt rfl dX4_pass_11 (cv_s (by unfold sp_goes; rw [if_neg hq]) (by unfold sp_goes; rw [if_neg hq]) h)
