/-! how many of a to b a line has -/
def ovI (a b : Int) (l : li_T) : Nat := (min (l.2.1 : Int) b - max (l.1 : Int) a + 1).toNat
theorem ov_le (a b : Int) {l : li_T} (h : ln_ok l) : ovI a b l ≤ 1000000000 := by
  have h1 := h.1
  have h2 := h.2.1
  unfold ovI
  omega
theorem ln_cm {x y : Int32} {l : li_T} (h : ln_ok l) : ln_common (nI l.1) (nI l.2.1) x y = nI (ovI x.toInt y.toInt l) := by
  have h1 := h.1
  have h2 := h.2.1
  have e1 : (nI l.1).toInt = (l.1 : Int) := nI_toInt (by omega)
  have e2 : (nI l.2.1).toInt = (l.2.1 : Int) := nI_toInt (by omega)
  unfold ln_common
  generalize hf : (if nI l.1 < x then x else nI l.1) = f
  generalize ht : (if y < nI l.2.1 then y else nI l.2.1) = t
  have f1 : f.toInt = max (l.1 : Int) x.toInt := by
    rw [← hf]
    split
    · next q => rw [i_lt, e1] at q; omega
    · next q => rw [i_lt, e1] at q; rw [e1]; omega
  have t1 : t.toInt = min (l.2.1 : Int) y.toInt := by
    rw [← ht]
    split
    · next q => rw [i_lt, e2] at q; omega
    · next q => rw [i_lt, e2] at q; rw [e2]; omega
  split
  · next q =>
    rw [i_le] at q
    obtain ⟨a, ha, rfl⟩ := nI_of (x := f) (by rw [i_lt]; show ¬ f.toInt < 0; omega)
    obtain ⟨b, hb, rfl⟩ := nI_of (x := t) (by rw [i_lt]; show ¬ t.toInt < 0; omega)
    rw [nI_toInt ha] at f1 q
    rw [nI_toInt hb] at t1 q
    rw [pk_sub (by omega), nI_1]
    congr 1
    unfold ovI
    omega
  · next q =>
    rw [i_le] at q
    have : ovI x.toInt y.toInt l = 0 := by unfold ovI; omega
    rw [this]; rfl
theorem sm_ov {ls : List li_T} {a b : Int} : ∀ {ys : List Nat} {lo : Int}, ys.Pairwise (bf ls) → (∀ i ∈ ys, (ln_at ls i).1 ≤ (ln_at ls i).2.1 ∧ lo ≤ ((ln_at ls i).1 : Int)) → sm (fun j => ovI a b (ln_at ls j)) ys ≤ (b - max a lo + 1).toNat
  | [], lo, _, _ => Nat.zero_le _
  | i :: ys, lo, hp, hz => by
    rw [List.pairwise_cons] at hp
    have h1 := hz i List.mem_cons_self
    have h2 := sm_ov (ls := ls) (a := a) (b := b) (ys := ys) (lo := ((ln_at ls i).2.1 : Int) + 1) hp.2 (fun j hj => ⟨(hz j (List.mem_cons_of_mem _ hj)).1, by have z : (ln_at ls i).2.1 < (ln_at ls j).1 := hp.1 j hj; omega⟩)
    show ovI a b (ln_at ls i) + sm _ ys ≤ _
    generalize sm (fun j => ovI a b (ln_at ls j)) ys = q at h2 ⊢
    unfold ovI
    omega
theorem sm_add (f h : Nat → Nat) : ∀ ys : List Nat, sm (fun j => f j + h j) ys = sm f ys + sm h ys
  | [] => rfl
  | y :: ys => by simp only [sm]; rw [sm_add f h ys]; omega
theorem sm_0 {f : Nat → Nat} : ∀ {ys : List Nat}, sm f ys = 0 → ∀ i ∈ ys, f i = 0
  | y :: ys, h, i, hi => by
    simp only [sm] at h
    rcases List.mem_cons.mp hi with rfl | hi
    · omega
    · exact sm_0 (ys := ys) (by omega) i hi
/-- those of one holder -/
def ovH (h0 : Nat) (a b : Int) (l : li_T) : Nat := if l.2.2.1 = h0 then ovI a b l else 0
/-- who has all of a to b is alone there -/
theorem ov_own {ls : List li_T} {ys : List Nat} {h0 : Nat} {a b : Int} (hG : GO ls ys) (hf : ∀ i, (ln_at ls i).1 ≤ (ln_at ls i).2.1) (hab : a ≤ b) (hs : ((sm (fun j => ovH h0 a b (ln_at ls j)) ys : Nat) : Int) = b - a + 1) : 0 ≤ a ∧ ∀ i ∈ ys, 0 < ovI a b (ln_at ls i) → (ln_at ls i).2.2.1 = h0 := by
  have h1 : sm (fun j => ovI a b (ln_at ls j)) ys = sm (fun j => ovH h0 a b (ln_at ls j)) ys + sm (fun j => if (ln_at ls j).2.2.1 = h0 then 0 else ovI a b (ln_at ls j)) ys := by
    rw [← sm_add]
    refine sm_congr (fun i _ => ?_)
    unfold ovH
    split <;> omega
  have h2 := sm_ov (ls := ls) (a := a) (b := b) (ys := ys) (lo := 0) hG.1 (fun i _ => ⟨hf i, by omega⟩)
  refine ⟨by omega, fun i hi hp => ?_⟩
  have h3 : sm (fun j => if (ln_at ls j).2.2.1 = h0 then 0 else ovI a b (ln_at ls j)) ys = 0 := by omega
  have h4 := sm_0 h3 i hi
  by_cases z : (ln_at ls i).2.2.1 = h0
  · exact z
  · change (if _ then _ else _) = 0 at h4
    rw [if_neg z] at h4; omega
set_option maxRecDepth 20000 in
set_option maxHeartbeats 2000000 in
theorem c_owns_l {g : gl_T} {S : hs_T} {n k l c4 c5 : Nat} {ow : Nat → Nat} {ls : List li_T} {ys : List Nat} {y xa xb : Int32} {h0 : Nat} (h : LG g S ow l c4 c5 ls ys) (hy : y = nI h0) (hh : h0 < 2 ^ 31) (hab : xa ≤ xb) : ∀ t i acc, i ≤ ys.length → ys.length < i + t → acc = lN (sm (fun j => ovH h0 xa.toInt xb.toInt (ln_at ls j)) (ys.take i)) → ex_W g 3 mX4_ownsAll (ex_rt (some (.int (if xa ≤ xb ∧ ((sm (fun j => ovH h0 xa.toInt xb.toInt (ln_at ls j)) ys : Nat) : Int) = xb.toInt - xa.toInt + 1 then 1 else 0))) S n k) 13 [(6, .int (nI i)), (4, .long acc), (0, .ref l), (1, .int y), (2, .int xa), (3, .int xb)] [] S n k := by
  obtain ⟨hl, hCG, hl15, hlok⟩ := id h
  obtain ⟨la, ⟨a4, e4, r4, l4, o4, p4⟩, ⟨a5, e5, r5, l5, o5, p5⟩, nd4, len4, f4, hG⟩ := id hCG
  have hgl : (ys.map (fun i => la.getD i 0)).length = ys.length := List.length_map _
  have hfl : ∀ i, (ln_at ls i).1 ≤ (ln_at ls i).2.1 := fun i => by
    by_cases z : i < ls.length
    · exact (hlok i z).1
    · unfold ln_at; rw [List.getD_eq_getElem?_getD, List.getElem?_eq_none (by omega)]; exact Nat.le_refl _
  have hys : ys.length ≤ 1500 := Nat.le_trans (nd_len (GO_nd hfl hG) (fun i hi => ((hG.2 i).mp hi).1)) hl15
  intro t
  induction t with
  | zero => intro i acc h1 h2; exact absurd h2 (by omega)
  | succ t ih =>
    intro i acc hi1 hi2 hacc
    refine ex_iload dX4_ownsAll_13 0 rfl ?_
    refine ex_aload_n dX4_ownsAll_15 2 rfl ?_
    refine ex_getR (b := a5) dX4_ownsAll_16 fl_X4_18 hl.1 hl.2 r5 ?_
    refine ex_cVr [] [.int (nI i)] dX4_ownsAll_19 cV_X4_26 (c_szn g l5 hgl) l5.1.1 l5.1.2.1 rfl rfl rfl (by decide) (Nat.le_of_ble_eq_true rfl) rfl ?_
    refine ex_icmp_ge (tgt := 67) dX4_ownsAll_22 (by decide) (fun c22 => ?_) (fun c22 => ?_)
    · have hil : i = ys.length := by have := (nI_leI (by omega) (by omega)).mp c22; omega
      have hiff : acc = xb.toInt64 - xa.toInt64 + 1 ↔ ((sm (fun j => ovH h0 xa.toInt xb.toInt (ln_at ls j)) ys : Nat) : Int) = xb.toInt - xa.toInt + 1 := by
        have b1 : sm (fun j => ovH h0 xa.toInt xb.toInt (ln_at ls j)) ys ≤ (xb.toInt - max xa.toInt 0 + 1).toNat := Nat.le_trans (by
          have : ∀ zs : List Nat, sm (fun j => ovH h0 xa.toInt xb.toInt (ln_at ls j)) zs ≤ sm (fun j => ovI xa.toInt xb.toInt (ln_at ls j)) zs := by
            intro zs
            induction zs with
            | nil => exact Nat.le_refl _
            | cons z zs ihz => simp only [sm]; have : ovH h0 xa.toInt xb.toInt (ln_at ls z) ≤ ovI xa.toInt xb.toInt (ln_at ls z) := by unfold ovH; split <;> omega
                               omega
          exact this ys) (sm_ov hG.1 (fun i _ => ⟨hfl i, by omega⟩))
        have b2 : -2147483648 ≤ xa.toInt := xa.le_toInt
        have b3 : xb.toInt < 2147483648 := xb.toInt_lt
        have b4 : xa.toInt ≤ xb.toInt := (i_le _ _).mp hab
        have e1 : (xb.toInt64 - xa.toInt64 + 1).toInt = xb.toInt - xa.toInt + 1 := by
          rw [Int64.toInt_add, Int64.toInt_sub, Int32.toInt_toInt64, Int32.toInt_toInt64]
          show (((xb.toInt - xa.toInt).bmod (2 ^ 64)) + 1).bmod (2 ^ 64) = _
          have q1 : (xb.toInt - xa.toInt).bmod (2 ^ 64) = xb.toInt - xa.toInt := Int.bmod_eq_of_le (by omega) (by omega)
          rw [q1]
          exact Int.bmod_eq_of_le (by omega) (by omega)
        rw [hacc, hil, List.take_length, j_eq, e1, pk_lT (by omega)]
      refine ex_lload dX4_ownsAll_67 1 rfl ?_
      refine ex_iload_n dX4_ownsAll_69 5 rfl ?_
      refine ex_i2l dX4_ownsAll_70 ?_
      refine ex_iload_n dX4_ownsAll_71 4 rfl ?_
      refine ex_i2l dX4_ownsAll_72 ?_
      refine ex_lsub dX4_ownsAll_73 ?_
      refine ex_lconst (v := 1) dX4_ownsAll_74 (by decide) ?_
      refine ex_ladd dX4_ownsAll_75 ?_
      refine ex_lcmp dX4_ownsAll_76 ?_
      refine ex_if_ne (tgt := 84) dX4_ownsAll_77 (by decide) (fun c77 => ?_) (fun c77 => ?_)
      · refine ex_iconst (v := 0) dX4_ownsAll_84 (by decide) ?_
        exact ex_bret rfl (by decide) dX4_ownsAll_85 (ex_rt_e (by rw [if_neg (fun z => c77 (lg_eq.mpr (hiff.mpr z.2)))]))
      · refine ex_iconst (v := 1) dX4_ownsAll_80 (by decide) ?_
        refine ex_goto (tgt := 85) dX4_ownsAll_81 (by decide) ?_
        exact ex_bret rfl (by decide) dX4_ownsAll_85 (ex_rt_e (by rw [if_pos ⟨hab, hiff.mp (lg_eq.mp c77)⟩]))
    · have hil : i < ys.length := by
        rcases Nat.lt_or_ge i ys.length with q | q
        · exact q
        · exact absurd (nI_le q (by omega)) c22
      obtain ⟨hz1, hz2⟩ := GO_at hG hil
      have mj := al_mem l4 (j := ys.getD i 0) (by omega)
      obtain ⟨g0, g1, g2, g3, g4⟩ := f4 _ hz1
      have hok := hlok _ hz1
      refine ex_aload_n dX4_ownsAll_25 2 rfl ?_
      refine ex_getR (b := a5) dX4_ownsAll_26 fl_X4_18 hl.1 hl.2 r5 ?_
      refine ex_iload dX4_ownsAll_29 0 rfl ?_
      refine ex_cVr [.int (nI i)] [] dX4_ownsAll_31 cV_X4_46 (c_getz g l5 rfl hil) l5.1.1 l5.1.2.1 rfl rfl rfl (by decide) (Nat.le_of_ble_eq_true rfl) rfl ?_
      refine ex_cast dX4_ownsAll_34 mj.1 mj.2 rfl kl_X4_50 ?_
      refine ex_astore [(7, .ref (la.getD (ys.getD i 0) 0)), (6, .int (nI i)), (4, .long acc), (0, .ref l), (1, .int y), (2, .int xa), (3, .int xb)] dX4_ownsAll_37 (by decide) rfl ?_
      refine ex_aload dX4_ownsAll_39 0 rfl ?_
      refine ex_getI dX4_ownsAll_41 fl_X4_64 mj.1 mj.2 ?_
      refine ex_iload_n dX4_ownsAll_44 4 rfl ?_
      refine ex_icmp_ne (tgt := 61) dX4_ownsAll_45 (by decide) (fun c45 => ?_) (fun c45 => ?_)
      · refine ex_iinc (v := nI (i + 1)) 1 [(6, .int (nI (i + 1))), (7, .ref (la.getD (ys.getD i 0) 0)), (4, .long acc), (0, .ref l), (1, .int y), (2, .int xa), (3, .int xb)] dX4_ownsAll_61 rfl (nI_1 i) (by decide) rfl ?_
        refine ex_goto (tgt := 13) dX4_ownsAll_64 (by decide) ?_
        refine ex_lv [0, 2, 3, 4, 5, 6] rfl ?_
        refine ih (i + 1) _ (by omega) (by omega) ?_
        rw [sm_take _ hil]
        rw [hacc]
        congr 1
        show _ = _ + if _ then _ else _
        rw [if_neg (fun z => c45 (by rw [g2, z, hy]))]
        rfl
      · refine ex_lload dX4_ownsAll_48 2 rfl ?_
        refine ex_aload dX4_ownsAll_50 0 rfl ?_
        refine ex_iload_n dX4_ownsAll_52 5 rfl ?_
        refine ex_iload_n dX4_ownsAll_53 6 rfl ?_
        refine ex_cVr [.int xa, .int xb] [.long acc] dX4_ownsAll_54 cV_X4_56 (c_Line_common g mj.1 mj.2) mj.1 mj.2 rfl rfl rfl (by decide) (Nat.le_of_ble_eq_true rfl) rfl ?_
        refine ex_i2l dX4_ownsAll_57 ?_
        refine ex_ladd dX4_ownsAll_58 ?_
        refine ex_lstore [(4, .long (acc + ((ln_common (hs_I S (la.getD (ys.getD i 0) 0) 0) (hs_I S (la.getD (ys.getD i 0) 0) 1) xa xb).toInt64))), (7, .ref (la.getD (ys.getD i 0) 0)), (6, .int (nI i)), (0, .ref l), (1, .int y), (2, .int xa), (3, .int xb)] dX4_ownsAll_59 (by decide) rfl ?_
        refine ex_iinc (v := nI (i + 1)) 2 [(6, .int (nI (i + 1))), (4, .long (acc + ((ln_common (hs_I S (la.getD (ys.getD i 0) 0) 0) (hs_I S (la.getD (ys.getD i 0) 0) 1) xa xb).toInt64))), (7, .ref (la.getD (ys.getD i 0) 0)), (0, .ref l), (1, .int y), (2, .int xa), (3, .int xb)] dX4_ownsAll_61 rfl (nI_1 i) (by decide) rfl ?_
        refine ex_goto (tgt := 13) dX4_ownsAll_64 (by decide) ?_
        refine ex_lv [0, 1, 3, 4, 5, 6] rfl ?_
        refine ih (i + 1) _ (by omega) (by omega) ?_
        rw [sm_take _ hil]
        rw [g0, g1, ln_cm hok, nI_l (by have := ov_le xa.toInt xb.toInt hok; omega), hacc, lN_add]
        congr 2
        show _ = if _ then _ else _
        rw [if_pos ((nI_eq (by have := hok.2.2.1; omega) hh).mp (g2.symm.trans (c45.trans hy)))]
set_option maxRecDepth 20000 in
set_option maxHeartbeats 2000000 in
theorem c_owns (g : gl_T) {S : hs_T} {n k l c4 c5 : Nat} {ow : Nat → Nat} {ls : List li_T} {ys : List Nat} {y xa xb : Int32} {h0 : Nat} (h : LG g S ow l c4 c5 ls ys) (hy : y = nI h0) (hh : h0 < 2 ^ 31) : ex_M g 3 mX4_ownsAll [.ref l, .int y, .int xa, .int xb] S n k (ex_rt (some (.int (if xa ≤ xb ∧ ((sm (fun j => ovH h0 xa.toInt xb.toInt (ln_at ls j)) ys : Nat) : Int) = xb.toInt - xa.toInt + 1 then 1 else 0))) S n k) := by
  refine ex_enter (by decide +kernel) (Nat.le_of_ble_eq_true rfl) ?_
  show ex_W _ _ _ _ 0 [(0, .ref l), (1, .int y), (2, .int xa), (3, .int xb)] [] _ _ _
  refine ex_iload_n dX4_ownsAll_0 2 rfl ?_
  refine ex_iload_n dX4_ownsAll_1 3 rfl ?_
  refine ex_icmp_le (tgt := 7) dX4_ownsAll_2 (by decide) (fun c2 => ?_) (fun c2 => ?_)
  · refine ex_lconst (v := 0) dX4_ownsAll_7 (by decide) ?_
    refine ex_lstore [(4, .long 0), (0, .ref l), (1, .int y), (2, .int xa), (3, .int xb)] dX4_ownsAll_8 (by decide) rfl ?_
    refine ex_iconst (v := 0) dX4_ownsAll_10 (by decide) ?_
    refine ex_istore [(6, .int 0), (4, .long 0), (0, .ref l), (1, .int y), (2, .int xa), (3, .int xb)] dX4_ownsAll_11 (by decide) rfl ?_
    exact c_owns_l h hy hh c2 (ys.length + 1) 0 _ (by omega) (by omega) rfl
  · refine ex_iconst (v := 0) dX4_ownsAll_5 (by decide) ?_
    exact ex_bret rfl (by decide) dX4_ownsAll_6 (ex_rt_e (by rw [if_neg (fun z => c2 z.1)]))
def lm (a b : Nat) (to : Option Nat) (l : li_T) : Nat := if 0 < ovI a b l then (if l.1 < a then 1 else 0) + (if b < l.2.1 then 1 else 0) + (if to = none then 0 else 1) else 0
set_option maxRecDepth 20000 in
set_option maxHeartbeats 2000000 in
theorem c_lmp_l {g : gl_T} {S : hs_T} {n k l c4 c5 : Nat} {ow : Nat → Nat} {ls : List li_T} {ys : List Nat} {xa xb xt : Int32} {a b : Nat} {to : Option Nat} (h : LG g S ow l c4 c5 ls ys) (hxa : xa = nI a) (hxb : xb = nI b) (hxt : xt = eN to) (ha : a < 2 ^ 31) (hb9 : b < 2 ^ 31) (hto : ∀ d, to = some d → d ≤ 100000) : ∀ t i acc, i ≤ ys.length → ys.length < i + t → acc = nI (sm (fun j => lm a b to (ln_at ls j)) (ys.take i)) → ex_W g 3 mX4_linesMadeByPassing (ex_rt (some (.int (nI (sm (fun j => lm a b to (ln_at ls j)) ys)))) S n k) 6 [(5, .int (nI i)), (4, .int acc), (0, .ref l), (1, .int xa), (2, .int xb), (3, .int xt)] [] S n k := by
  obtain ⟨hl, hCG, hl15, hlok⟩ := id h
  obtain ⟨la, ⟨a4, e4, r4, l4, o4, p4⟩, ⟨a5, e5, r5, l5, o5, p5⟩, nd4, len4, f4, hG⟩ := id hCG
  have hgl : (ys.map (fun i => la.getD i 0)).length = ys.length := List.length_map _
  have hfl : ∀ i, (ln_at ls i).1 ≤ (ln_at ls i).2.1 := fun i => by
    by_cases z : i < ls.length
    · exact (hlok i z).1
    · unfold ln_at; rw [List.getD_eq_getElem?_getD, List.getElem?_eq_none (by omega)]; exact Nat.le_refl _
  have hys : ys.length ≤ 1500 := Nat.le_trans (nd_len (GO_nd hfl hG) (fun i hi => ((hG.2 i).mp hi).1)) hl15
  intro t
  induction t with
  | zero => intro i acc h1 h2; exact absurd h2 (by omega)
  | succ t ih =>
    intro i acc hi1 hi2 hacc
    refine ex_iload dX4_linesMadeByPassing_6 0 rfl ?_
    refine ex_aload_n dX4_linesMadeByPassing_8 2 rfl ?_
    refine ex_getR (b := a5) dX4_linesMadeByPassing_9 fl_X4_18 hl.1 hl.2 r5 ?_
    refine ex_cVr [] [.int (nI i)] dX4_linesMadeByPassing_12 cV_X4_26 (c_szn g l5 hgl) l5.1.1 l5.1.2.1 rfl rfl rfl (by decide) (Nat.le_of_ble_eq_true rfl) rfl ?_
    refine ex_icmp_ge (tgt := 101) dX4_linesMadeByPassing_15 (by decide) (fun c15 => ?_) (fun c15 => ?_)
    · have hil : i = ys.length := by have := (nI_leI (by omega) (by omega)).mp c15; omega
      refine ex_iload dX4_linesMadeByPassing_101 1 rfl ?_
      exact ex_irt rfl dX4_linesMadeByPassing_103 (ex_rt_e (by rw [hacc, hil, List.take_length]))
    · have hil : i < ys.length := by
        rcases Nat.lt_or_ge i ys.length with q | q
        · exact q
        · exact absurd (nI_le q (by omega)) c15
      obtain ⟨hz1, hz2⟩ := GO_at hG hil
      have mj := al_mem l4 (j := ys.getD i 0) (by omega)
      obtain ⟨g0, g1, g2, g3, g4⟩ := f4 _ hz1
      have hok := hlok _ hz1
      have hok1 := hok.1
      have hok2 := hok.2.1
      have hovl := ov_le a b hok
      have hcm : ln_common (hs_I S (la.getD (ys.getD i 0) 0) 0) (hs_I S (la.getD (ys.getD i 0) 0) 1) xa xb = nI (ovI a b (ln_at ls (ys.getD i 0))) := by
        rw [g0, g1, ln_cm hok, hxa, hxb, nI_toInt ha, nI_toInt hb9]
      refine ex_aload_n dX4_linesMadeByPassing_18 2 rfl ?_
      refine ex_getR (b := a5) dX4_linesMadeByPassing_19 fl_X4_18 hl.1 hl.2 r5 ?_
      refine ex_iload dX4_linesMadeByPassing_22 0 rfl ?_
      refine ex_cVr [.int (nI i)] [] dX4_linesMadeByPassing_24 cV_X4_46 (c_getz g l5 rfl hil) l5.1.1 l5.1.2.1 rfl rfl rfl (by decide) (Nat.le_of_ble_eq_true rfl) rfl ?_
      refine ex_cast dX4_linesMadeByPassing_27 mj.1 mj.2 rfl kl_X4_50 ?_
      refine ex_astore [(6, .ref (la.getD (ys.getD i 0) 0)), (5, .int (nI i)), (4, .int acc), (0, .ref l), (1, .int xa), (2, .int xb), (3, .int xt)] dX4_linesMadeByPassing_30 (by decide) rfl ?_
      refine ex_aload dX4_linesMadeByPassing_32 0 rfl ?_
      refine ex_iload_n dX4_linesMadeByPassing_34 4 rfl ?_
      refine ex_iload_n dX4_linesMadeByPassing_35 5 rfl ?_
      refine ex_cVr [.int xa, .int xb] [] dX4_linesMadeByPassing_36 cV_X4_56 (c_Line_common g mj.1 mj.2) mj.1 mj.2 rfl rfl rfl (by decide) (Nat.le_of_ble_eq_true rfl) rfl ?_
      refine ex_if_le (tgt := 95) dX4_linesMadeByPassing_39 (by decide) (fun c39 => ?_) (fun c39 => ?_)
      · refine ex_iinc (v := nI (i + 1)) 1 [(5, .int (nI (i + 1))), (6, .ref (la.getD (ys.getD i 0) 0)), (4, .int acc), (0, .ref l), (1, .int xa), (2, .int xb), (3, .int xt)] dX4_linesMadeByPassing_95 rfl (nI_1 i) (by decide) rfl ?_
        refine ex_goto (tgt := 6) dX4_linesMadeByPassing_98 (by decide) ?_
        refine ex_lv [0, 2, 3, 4, 5, 6] rfl ?_
        refine ih (i + 1) _ (by omega) (by omega) ?_
        rw [sm_take _ hil]
        rw [hacc]
        have hl0 : lm a b to (ln_at ls (ys.getD i 0)) = 0 := if_neg (fun z => by rw [hcm] at c39; exact nI_nle z (by omega) c39)
        rw [hl0]
        rfl
      · refine ex_iload dX4_linesMadeByPassing_42 2 rfl ?_
        refine ex_aload dX4_linesMadeByPassing_44 0 rfl ?_
        refine ex_getI dX4_linesMadeByPassing_46 fl_X4_67 mj.1 mj.2 ?_
        refine ex_iload_n dX4_linesMadeByPassing_49 4 rfl ?_
        refine ex_icmp_ge (tgt := 57) dX4_linesMadeByPassing_50 (by decide) (fun c50 => ?_) (fun c50 => ?_)
        · refine ex_iconst (v := 0) dX4_linesMadeByPassing_57 (by decide) ?_
          refine ex_iadd dX4_linesMadeByPassing_58 ?_
          refine ex_istore [(4, .int (acc + 0)), (6, .ref (la.getD (ys.getD i 0) 0)), (5, .int (nI i)), (0, .ref l), (1, .int xa), (2, .int xb), (3, .int xt)] dX4_linesMadeByPassing_59 (by decide) rfl ?_
          refine ex_iload dX4_linesMadeByPassing_61 0 rfl ?_
          refine ex_aload dX4_linesMadeByPassing_63 1 rfl ?_
          refine ex_getI dX4_linesMadeByPassing_65 fl_X4_70 mj.1 mj.2 ?_
          refine ex_iload_n dX4_linesMadeByPassing_68 5 rfl ?_
          refine ex_icmp_le (tgt := 76) dX4_linesMadeByPassing_69 (by decide) (fun c69 => ?_) (fun c69 => ?_)
          · refine ex_iconst (v := 0) dX4_linesMadeByPassing_76 (by decide) ?_
            refine ex_iadd dX4_linesMadeByPassing_77 ?_
            refine ex_istore [(4, .int ((acc + 0) + 0)), (6, .ref (la.getD (ys.getD i 0) 0)), (5, .int (nI i)), (0, .ref l), (1, .int xa), (2, .int xb), (3, .int xt)] dX4_linesMadeByPassing_78 (by decide) rfl ?_
            refine ex_iload dX4_linesMadeByPassing_80 0 rfl ?_
            refine ex_iload_n dX4_linesMadeByPassing_82 6 rfl ?_
            refine ex_iconst (v := (-1)) dX4_linesMadeByPassing_83 (by decide) ?_
            refine ex_icmp_eq (tgt := 91) dX4_linesMadeByPassing_84 (by decide) (fun c84 => ?_) (fun c84 => ?_)
            · refine ex_iconst (v := 0) dX4_linesMadeByPassing_91 (by decide) ?_
              refine ex_iadd dX4_linesMadeByPassing_92 ?_
              refine ex_istore [(4, .int (((acc + 0) + 0) + 0)), (6, .ref (la.getD (ys.getD i 0) 0)), (5, .int (nI i)), (0, .ref l), (1, .int xa), (2, .int xb), (3, .int xt)] dX4_linesMadeByPassing_93 (by decide) rfl ?_
              refine ex_iinc (v := nI (i + 1)) 2 [(5, .int (nI (i + 1))), (4, .int (((acc + 0) + 0) + 0)), (6, .ref (la.getD (ys.getD i 0) 0)), (0, .ref l), (1, .int xa), (2, .int xb), (3, .int xt)] dX4_linesMadeByPassing_95 rfl (nI_1 i) (by decide) rfl ?_
              refine ex_goto (tgt := 6) dX4_linesMadeByPassing_98 (by decide) ?_
              refine ex_lv [0, 1, 3, 4, 5, 6] rfl ?_
              refine ih (i + 1) _ (by omega) (by omega) ?_
              rw [sm_take _ hil]
              rw [hacc]
              have hpos : 0 < ovI a b (ln_at ls (ys.getD i 0)) := Nat.pos_of_ne_zero (fun z => c39 (by rw [hcm, z]; decide))
              have hl0 : lm a b to (ln_at ls (ys.getD i 0)) = 0 + 0 + 0 := by
                unfold lm
                rw [if_pos hpos, if_neg (fun z => by have z1 := nI_lt z ha; rw [← hxa, ← g0] at z1; simp only [i_le, i_lt, Int32.reduceToInt] at *; omega), if_neg (fun z => by have z1 := nI_lt z (by omega); rw [← hxb, ← g1] at z1; simp only [i_le, i_lt, Int32.reduceToInt] at *; omega), if_pos ((eN_m1 hto).mp (hxt.symm.trans c84))]
              rw [hl0]
              show nI _ + nI 0 + nI 0 + nI 0 = _
              rw [nI_add, nI_add, nI_add]
            · refine ex_iconst (v := 1) dX4_linesMadeByPassing_87 (by decide) ?_
              refine ex_goto (tgt := 92) dX4_linesMadeByPassing_88 (by decide) ?_
              refine ex_iadd dX4_linesMadeByPassing_92 ?_
              refine ex_istore [(4, .int (((acc + 0) + 0) + 1)), (6, .ref (la.getD (ys.getD i 0) 0)), (5, .int (nI i)), (0, .ref l), (1, .int xa), (2, .int xb), (3, .int xt)] dX4_linesMadeByPassing_93 (by decide) rfl ?_
              refine ex_iinc (v := nI (i + 1)) 2 [(5, .int (nI (i + 1))), (4, .int (((acc + 0) + 0) + 1)), (6, .ref (la.getD (ys.getD i 0) 0)), (0, .ref l), (1, .int xa), (2, .int xb), (3, .int xt)] dX4_linesMadeByPassing_95 rfl (nI_1 i) (by decide) rfl ?_
              refine ex_goto (tgt := 6) dX4_linesMadeByPassing_98 (by decide) ?_
              refine ex_lv [0, 1, 3, 4, 5, 6] rfl ?_
              refine ih (i + 1) _ (by omega) (by omega) ?_
              rw [sm_take _ hil]
              rw [hacc]
              have hpos : 0 < ovI a b (ln_at ls (ys.getD i 0)) := Nat.pos_of_ne_zero (fun z => c39 (by rw [hcm, z]; decide))
              have hl0 : lm a b to (ln_at ls (ys.getD i 0)) = 0 + 0 + 1 := by
                unfold lm
                rw [if_pos hpos, if_neg (fun z => by have z1 := nI_lt z ha; rw [← hxa, ← g0] at z1; simp only [i_le, i_lt, Int32.reduceToInt] at *; omega), if_neg (fun z => by have z1 := nI_lt z (by omega); rw [← hxb, ← g1] at z1; simp only [i_le, i_lt, Int32.reduceToInt] at *; omega), if_neg (fun z => c84 (by rw [hxt, z]; rfl))]
              rw [hl0]
              show nI _ + nI 0 + nI 0 + nI 1 = _
              rw [nI_add, nI_add, nI_add]
          · refine ex_iconst (v := 1) dX4_linesMadeByPassing_72 (by decide) ?_
            refine ex_goto (tgt := 77) dX4_linesMadeByPassing_73 (by decide) ?_
            refine ex_iadd dX4_linesMadeByPassing_77 ?_
            refine ex_istore [(4, .int ((acc + 0) + 1)), (6, .ref (la.getD (ys.getD i 0) 0)), (5, .int (nI i)), (0, .ref l), (1, .int xa), (2, .int xb), (3, .int xt)] dX4_linesMadeByPassing_78 (by decide) rfl ?_
            refine ex_iload dX4_linesMadeByPassing_80 0 rfl ?_
            refine ex_iload_n dX4_linesMadeByPassing_82 6 rfl ?_
            refine ex_iconst (v := (-1)) dX4_linesMadeByPassing_83 (by decide) ?_
            refine ex_icmp_eq (tgt := 91) dX4_linesMadeByPassing_84 (by decide) (fun c84 => ?_) (fun c84 => ?_)
            · refine ex_iconst (v := 0) dX4_linesMadeByPassing_91 (by decide) ?_
              refine ex_iadd dX4_linesMadeByPassing_92 ?_
              refine ex_istore [(4, .int (((acc + 0) + 1) + 0)), (6, .ref (la.getD (ys.getD i 0) 0)), (5, .int (nI i)), (0, .ref l), (1, .int xa), (2, .int xb), (3, .int xt)] dX4_linesMadeByPassing_93 (by decide) rfl ?_
              refine ex_iinc (v := nI (i + 1)) 2 [(5, .int (nI (i + 1))), (4, .int (((acc + 0) + 1) + 0)), (6, .ref (la.getD (ys.getD i 0) 0)), (0, .ref l), (1, .int xa), (2, .int xb), (3, .int xt)] dX4_linesMadeByPassing_95 rfl (nI_1 i) (by decide) rfl ?_
              refine ex_goto (tgt := 6) dX4_linesMadeByPassing_98 (by decide) ?_
              refine ex_lv [0, 1, 3, 4, 5, 6] rfl ?_
              refine ih (i + 1) _ (by omega) (by omega) ?_
              rw [sm_take _ hil]
              rw [hacc]
              have hpos : 0 < ovI a b (ln_at ls (ys.getD i 0)) := Nat.pos_of_ne_zero (fun z => c39 (by rw [hcm, z]; decide))
              have hl0 : lm a b to (ln_at ls (ys.getD i 0)) = 0 + 1 + 0 := by
                unfold lm
                rw [if_pos hpos, if_neg (fun z => by have z1 := nI_lt z ha; rw [← hxa, ← g0] at z1; simp only [i_le, i_lt, Int32.reduceToInt] at *; omega), if_pos ((nI_ltI hb9 (by omega)).mp (by rw [← hxb, ← g1]; simp only [i_le, i_lt, Int32.reduceToInt] at *; omega)), if_pos ((eN_m1 hto).mp (hxt.symm.trans c84))]
              rw [hl0]
              show nI _ + nI 0 + nI 1 + nI 0 = _
              rw [nI_add, nI_add, nI_add]
            · refine ex_iconst (v := 1) dX4_linesMadeByPassing_87 (by decide) ?_
              refine ex_goto (tgt := 92) dX4_linesMadeByPassing_88 (by decide) ?_
              refine ex_iadd dX4_linesMadeByPassing_92 ?_
              refine ex_istore [(4, .int (((acc + 0) + 1) + 1)), (6, .ref (la.getD (ys.getD i 0) 0)), (5, .int (nI i)), (0, .ref l), (1, .int xa), (2, .int xb), (3, .int xt)] dX4_linesMadeByPassing_93 (by decide) rfl ?_
              refine ex_iinc (v := nI (i + 1)) 2 [(5, .int (nI (i + 1))), (4, .int (((acc + 0) + 1) + 1)), (6, .ref (la.getD (ys.getD i 0) 0)), (0, .ref l), (1, .int xa), (2, .int xb), (3, .int xt)] dX4_linesMadeByPassing_95 rfl (nI_1 i) (by decide) rfl ?_
              refine ex_goto (tgt := 6) dX4_linesMadeByPassing_98 (by decide) ?_
              refine ex_lv [0, 1, 3, 4, 5, 6] rfl ?_
              refine ih (i + 1) _ (by omega) (by omega) ?_
              rw [sm_take _ hil]
              rw [hacc]
              have hpos : 0 < ovI a b (ln_at ls (ys.getD i 0)) := Nat.pos_of_ne_zero (fun z => c39 (by rw [hcm, z]; decide))
              have hl0 : lm a b to (ln_at ls (ys.getD i 0)) = 0 + 1 + 1 := by
                unfold lm
                rw [if_pos hpos, if_neg (fun z => by have z1 := nI_lt z ha; rw [← hxa, ← g0] at z1; simp only [i_le, i_lt, Int32.reduceToInt] at *; omega), if_pos ((nI_ltI hb9 (by omega)).mp (by rw [← hxb, ← g1]; simp only [i_le, i_lt, Int32.reduceToInt] at *; omega)), if_neg (fun z => c84 (by rw [hxt, z]; rfl))]
              rw [hl0]
              show nI _ + nI 0 + nI 1 + nI 1 = _
              rw [nI_add, nI_add, nI_add]
        · refine ex_iconst (v := 1) dX4_linesMadeByPassing_53 (by decide) ?_
          refine ex_goto (tgt := 58) dX4_linesMadeByPassing_54 (by decide) ?_
          refine ex_iadd dX4_linesMadeByPassing_58 ?_
          refine ex_istore [(4, .int (acc + 1)), (6, .ref (la.getD (ys.getD i 0) 0)), (5, .int (nI i)), (0, .ref l), (1, .int xa), (2, .int xb), (3, .int xt)] dX4_linesMadeByPassing_59 (by decide) rfl ?_
          refine ex_iload dX4_linesMadeByPassing_61 0 rfl ?_
          refine ex_aload dX4_linesMadeByPassing_63 1 rfl ?_
          refine ex_getI dX4_linesMadeByPassing_65 fl_X4_70 mj.1 mj.2 ?_
          refine ex_iload_n dX4_linesMadeByPassing_68 5 rfl ?_
          refine ex_icmp_le (tgt := 76) dX4_linesMadeByPassing_69 (by decide) (fun c69 => ?_) (fun c69 => ?_)
          · refine ex_iconst (v := 0) dX4_linesMadeByPassing_76 (by decide) ?_
            refine ex_iadd dX4_linesMadeByPassing_77 ?_
            refine ex_istore [(4, .int ((acc + 1) + 0)), (6, .ref (la.getD (ys.getD i 0) 0)), (5, .int (nI i)), (0, .ref l), (1, .int xa), (2, .int xb), (3, .int xt)] dX4_linesMadeByPassing_78 (by decide) rfl ?_
            refine ex_iload dX4_linesMadeByPassing_80 0 rfl ?_
            refine ex_iload_n dX4_linesMadeByPassing_82 6 rfl ?_
            refine ex_iconst (v := (-1)) dX4_linesMadeByPassing_83 (by decide) ?_
            refine ex_icmp_eq (tgt := 91) dX4_linesMadeByPassing_84 (by decide) (fun c84 => ?_) (fun c84 => ?_)
            · refine ex_iconst (v := 0) dX4_linesMadeByPassing_91 (by decide) ?_
              refine ex_iadd dX4_linesMadeByPassing_92 ?_
              refine ex_istore [(4, .int (((acc + 1) + 0) + 0)), (6, .ref (la.getD (ys.getD i 0) 0)), (5, .int (nI i)), (0, .ref l), (1, .int xa), (2, .int xb), (3, .int xt)] dX4_linesMadeByPassing_93 (by decide) rfl ?_
              refine ex_iinc (v := nI (i + 1)) 2 [(5, .int (nI (i + 1))), (4, .int (((acc + 1) + 0) + 0)), (6, .ref (la.getD (ys.getD i 0) 0)), (0, .ref l), (1, .int xa), (2, .int xb), (3, .int xt)] dX4_linesMadeByPassing_95 rfl (nI_1 i) (by decide) rfl ?_
              refine ex_goto (tgt := 6) dX4_linesMadeByPassing_98 (by decide) ?_
              refine ex_lv [0, 1, 3, 4, 5, 6] rfl ?_
              refine ih (i + 1) _ (by omega) (by omega) ?_
              rw [sm_take _ hil]
              rw [hacc]
              have hpos : 0 < ovI a b (ln_at ls (ys.getD i 0)) := Nat.pos_of_ne_zero (fun z => c39 (by rw [hcm, z]; decide))
              have hl0 : lm a b to (ln_at ls (ys.getD i 0)) = 1 + 0 + 0 := by
                unfold lm
                rw [if_pos hpos, if_pos ((nI_ltI (by omega) ha).mp (by rw [← hxa, ← g0]; simp only [i_le, i_lt, Int32.reduceToInt] at *; omega)), if_neg (fun z => by have z1 := nI_lt z (by omega); rw [← hxb, ← g1] at z1; simp only [i_le, i_lt, Int32.reduceToInt] at *; omega), if_pos ((eN_m1 hto).mp (hxt.symm.trans c84))]
              rw [hl0]
              show nI _ + nI 1 + nI 0 + nI 0 = _
              rw [nI_add, nI_add, nI_add]
            · refine ex_iconst (v := 1) dX4_linesMadeByPassing_87 (by decide) ?_
              refine ex_goto (tgt := 92) dX4_linesMadeByPassing_88 (by decide) ?_
              refine ex_iadd dX4_linesMadeByPassing_92 ?_
              refine ex_istore [(4, .int (((acc + 1) + 0) + 1)), (6, .ref (la.getD (ys.getD i 0) 0)), (5, .int (nI i)), (0, .ref l), (1, .int xa), (2, .int xb), (3, .int xt)] dX4_linesMadeByPassing_93 (by decide) rfl ?_
              refine ex_iinc (v := nI (i + 1)) 2 [(5, .int (nI (i + 1))), (4, .int (((acc + 1) + 0) + 1)), (6, .ref (la.getD (ys.getD i 0) 0)), (0, .ref l), (1, .int xa), (2, .int xb), (3, .int xt)] dX4_linesMadeByPassing_95 rfl (nI_1 i) (by decide) rfl ?_
              refine ex_goto (tgt := 6) dX4_linesMadeByPassing_98 (by decide) ?_
              refine ex_lv [0, 1, 3, 4, 5, 6] rfl ?_
              refine ih (i + 1) _ (by omega) (by omega) ?_
              rw [sm_take _ hil]
              rw [hacc]
              have hpos : 0 < ovI a b (ln_at ls (ys.getD i 0)) := Nat.pos_of_ne_zero (fun z => c39 (by rw [hcm, z]; decide))
              have hl0 : lm a b to (ln_at ls (ys.getD i 0)) = 1 + 0 + 1 := by
                unfold lm
                rw [if_pos hpos, if_pos ((nI_ltI (by omega) ha).mp (by rw [← hxa, ← g0]; simp only [i_le, i_lt, Int32.reduceToInt] at *; omega)), if_neg (fun z => by have z1 := nI_lt z (by omega); rw [← hxb, ← g1] at z1; simp only [i_le, i_lt, Int32.reduceToInt] at *; omega), if_neg (fun z => c84 (by rw [hxt, z]; rfl))]
              rw [hl0]
              show nI _ + nI 1 + nI 0 + nI 1 = _
              rw [nI_add, nI_add, nI_add]
          · refine ex_iconst (v := 1) dX4_linesMadeByPassing_72 (by decide) ?_
            refine ex_goto (tgt := 77) dX4_linesMadeByPassing_73 (by decide) ?_
            refine ex_iadd dX4_linesMadeByPassing_77 ?_
            refine ex_istore [(4, .int ((acc + 1) + 1)), (6, .ref (la.getD (ys.getD i 0) 0)), (5, .int (nI i)), (0, .ref l), (1, .int xa), (2, .int xb), (3, .int xt)] dX4_linesMadeByPassing_78 (by decide) rfl ?_
            refine ex_iload dX4_linesMadeByPassing_80 0 rfl ?_
            refine ex_iload_n dX4_linesMadeByPassing_82 6 rfl ?_
            refine ex_iconst (v := (-1)) dX4_linesMadeByPassing_83 (by decide) ?_
            refine ex_icmp_eq (tgt := 91) dX4_linesMadeByPassing_84 (by decide) (fun c84 => ?_) (fun c84 => ?_)
            · refine ex_iconst (v := 0) dX4_linesMadeByPassing_91 (by decide) ?_
              refine ex_iadd dX4_linesMadeByPassing_92 ?_
              refine ex_istore [(4, .int (((acc + 1) + 1) + 0)), (6, .ref (la.getD (ys.getD i 0) 0)), (5, .int (nI i)), (0, .ref l), (1, .int xa), (2, .int xb), (3, .int xt)] dX4_linesMadeByPassing_93 (by decide) rfl ?_
              refine ex_iinc (v := nI (i + 1)) 2 [(5, .int (nI (i + 1))), (4, .int (((acc + 1) + 1) + 0)), (6, .ref (la.getD (ys.getD i 0) 0)), (0, .ref l), (1, .int xa), (2, .int xb), (3, .int xt)] dX4_linesMadeByPassing_95 rfl (nI_1 i) (by decide) rfl ?_
              refine ex_goto (tgt := 6) dX4_linesMadeByPassing_98 (by decide) ?_
              refine ex_lv [0, 1, 3, 4, 5, 6] rfl ?_
              refine ih (i + 1) _ (by omega) (by omega) ?_
              rw [sm_take _ hil]
              rw [hacc]
              have hpos : 0 < ovI a b (ln_at ls (ys.getD i 0)) := Nat.pos_of_ne_zero (fun z => c39 (by rw [hcm, z]; decide))
              have hl0 : lm a b to (ln_at ls (ys.getD i 0)) = 1 + 1 + 0 := by
                unfold lm
                rw [if_pos hpos, if_pos ((nI_ltI (by omega) ha).mp (by rw [← hxa, ← g0]; simp only [i_le, i_lt, Int32.reduceToInt] at *; omega)), if_pos ((nI_ltI hb9 (by omega)).mp (by rw [← hxb, ← g1]; simp only [i_le, i_lt, Int32.reduceToInt] at *; omega)), if_pos ((eN_m1 hto).mp (hxt.symm.trans c84))]
              rw [hl0]
              show nI _ + nI 1 + nI 1 + nI 0 = _
              rw [nI_add, nI_add, nI_add]
            · refine ex_iconst (v := 1) dX4_linesMadeByPassing_87 (by decide) ?_
              refine ex_goto (tgt := 92) dX4_linesMadeByPassing_88 (by decide) ?_
              refine ex_iadd dX4_linesMadeByPassing_92 ?_
              refine ex_istore [(4, .int (((acc + 1) + 1) + 1)), (6, .ref (la.getD (ys.getD i 0) 0)), (5, .int (nI i)), (0, .ref l), (1, .int xa), (2, .int xb), (3, .int xt)] dX4_linesMadeByPassing_93 (by decide) rfl ?_
              refine ex_iinc (v := nI (i + 1)) 2 [(5, .int (nI (i + 1))), (4, .int (((acc + 1) + 1) + 1)), (6, .ref (la.getD (ys.getD i 0) 0)), (0, .ref l), (1, .int xa), (2, .int xb), (3, .int xt)] dX4_linesMadeByPassing_95 rfl (nI_1 i) (by decide) rfl ?_
              refine ex_goto (tgt := 6) dX4_linesMadeByPassing_98 (by decide) ?_
              refine ex_lv [0, 1, 3, 4, 5, 6] rfl ?_
              refine ih (i + 1) _ (by omega) (by omega) ?_
              rw [sm_take _ hil]
              rw [hacc]
              have hpos : 0 < ovI a b (ln_at ls (ys.getD i 0)) := Nat.pos_of_ne_zero (fun z => c39 (by rw [hcm, z]; decide))
              have hl0 : lm a b to (ln_at ls (ys.getD i 0)) = 1 + 1 + 1 := by
                unfold lm
                rw [if_pos hpos, if_pos ((nI_ltI (by omega) ha).mp (by rw [← hxa, ← g0]; simp only [i_le, i_lt, Int32.reduceToInt] at *; omega)), if_pos ((nI_ltI hb9 (by omega)).mp (by rw [← hxb, ← g1]; simp only [i_le, i_lt, Int32.reduceToInt] at *; omega)), if_neg (fun z => c84 (by rw [hxt, z]; rfl))]
              rw [hl0]
              show nI _ + nI 1 + nI 1 + nI 1 = _
              rw [nI_add, nI_add, nI_add]
set_option maxRecDepth 20000 in
set_option maxHeartbeats 2000000 in
theorem c_lmp (g : gl_T) {S : hs_T} {n k l c4 c5 : Nat} {ow : Nat → Nat} {ls : List li_T} {ys : List Nat} {xa xb xt : Int32} {a b : Nat} {to : Option Nat} (h : LG g S ow l c4 c5 ls ys) (hxa : xa = nI a) (hxb : xb = nI b) (hxt : xt = eN to) (ha : a < 2 ^ 31) (hb9 : b < 2 ^ 31) (hto : ∀ d, to = some d → d ≤ 100000) : ex_M g 3 mX4_linesMadeByPassing [.ref l, .int xa, .int xb, .int xt] S n k (ex_rt (some (.int (nI (sm (fun j => lm a b to (ln_at ls j)) ys)))) S n k) := by
  refine ex_enter (by decide +kernel) (Nat.le_of_ble_eq_true rfl) ?_
  show ex_W _ _ _ _ 0 [(0, .ref l), (1, .int xa), (2, .int xb), (3, .int xt)] [] _ _ _
  refine ex_iconst (v := 0) dX4_linesMadeByPassing_0 (by decide) ?_
  refine ex_istore [(4, .int 0), (0, .ref l), (1, .int xa), (2, .int xb), (3, .int xt)] dX4_linesMadeByPassing_1 (by decide) rfl ?_
  refine ex_iconst (v := 0) dX4_linesMadeByPassing_3 (by decide) ?_
  refine ex_istore [(5, .int 0), (4, .int 0), (0, .ref l), (1, .int xa), (2, .int xb), (3, .int xt)] dX4_linesMadeByPassing_4 (by decide) rfl ?_
  exact c_lmp_l h hxa hxb hxt ha hb9 hto (ys.length + 1) 0 _ (by omega) (by omega) rfl
/-- the lines that go on, by address; their first bonds -/
def GZ (g : gl_T) (S : hs_T) (ow : Nat → Nat) (l c5 : Nat) (gz : List Nat) : Prop := (l ∈ hs_L S ∧ hs_K S l = 4) ∧ CL g S ow 5 l 1 5 c5 gz
set_option maxRecDepth 20000 in
set_option maxHeartbeats 2000000 in
theorem c_pag_l {g : gl_T} {S : hs_T} {n k l c5 p : Nat} {ow : Nat → Nat} {gz : List Nat} {y : Int32} (h : GZ g S ow l c5 gz) (hg15 : gz.length ≤ 1500) (hp : p < gz.length) (hH : ∀ q, q < gz.length → (hs_I S (gz.getD q 0) 0 ≤ y ↔ q ≤ p)) : ∀ t r lo hi, r + t = 32 → lo ≤ p → p ≤ hi → hi < gz.length → hi - lo < 2 ^ t → ex_W g 3 mX4_placeAmongGoing (ex_rt (some (.int (nI p))) S n k) 15 [(4, .int (nI r)), (3, .int (nI hi)), (2, .int (nI lo)), (0, .ref l), (1, .int y)] [] S n k := by
  obtain ⟨hl, a5, e5, r5, l5, o5, p5⟩ := id h
  intro t
  induction t with
  | zero =>
    intro r lo hi hr hl1 hh1 hh2 hd
    have hd0 : hi - lo < 1 := hd
    refine ex_iload dX4_placeAmongGoing_15 0 rfl ?_
    refine ex_bipush (v := 32) dX4_placeAmongGoing_17 (by decide) ?_
    refine ex_icmp_ge (tgt := 72) dX4_placeAmongGoing_19 (by decide) (fun c19 => ?_) (fun c19 => absurd (nI_le (a := 32) (by omega) (by omega)) c19)
    refine ex_iload_n dX4_placeAmongGoing_72 2 rfl ?_
    exact ex_irt rfl dX4_placeAmongGoing_73 (ex_rt_e (by rw [show lo = p by omega]))
  | succ t ih =>
    intro r lo hi hr hl1 hh1 hh2 hd
    refine ex_iload dX4_placeAmongGoing_15 0 rfl ?_
    refine ex_bipush (v := 32) dX4_placeAmongGoing_17 (by decide) ?_
    refine ex_icmp_ge (tgt := 72) dX4_placeAmongGoing_19 (by decide) (fun c19 => ?_) (fun c19 => ?_)
    · refine ex_iload_n dX4_placeAmongGoing_72 2 rfl ?_
      exact ex_irt rfl dX4_placeAmongGoing_73 (ex_rt_e (by
  have e : lo = p := by
    first
      | (have z := (nI_leI (by omega) (by omega)).mp c24; omega)
      | (have z := (nI_leI (a := 32) (by decide) (by omega)).mp c19; omega)
  rw [e]))
    · refine ex_iload_n dX4_placeAmongGoing_22 2 rfl ?_
      refine ex_iload_n dX4_placeAmongGoing_23 1 rfl ?_
      refine ex_icmp_ge (tgt := 72) dX4_placeAmongGoing_24 (by decide) (fun c24 => ?_) (fun c24 => ?_)
      · refine ex_iload_n dX4_placeAmongGoing_72 2 rfl ?_
        exact ex_irt rfl dX4_placeAmongGoing_73 (ex_rt_e (by
  have e : lo = p := by
    first
      | (have z := (nI_leI (by omega) (by omega)).mp c24; omega)
      | (have z := (nI_leI (a := 32) (by decide) (by omega)).mp c19; omega)
  rw [e]))
      · have hlt : lo < hi := Nat.lt_of_not_le (fun z => c24 (nI_le z (by omega)))
        have mj := al_mem l5 (j := (lo + hi + 1) / 2) (by omega)
        refine ex_iload_n dX4_placeAmongGoing_27 2 rfl ?_
        refine ex_iload_n dX4_placeAmongGoing_28 1 rfl ?_
        refine ex_iadd dX4_placeAmongGoing_29 ?_
        refine ex_iconst (v := 1) dX4_placeAmongGoing_30 (by decide) ?_
        refine ex_iadd dX4_placeAmongGoing_31 ?_
        refine ex_iconst (v := 1) dX4_placeAmongGoing_32 (by decide) ?_
        refine ex_iushr dX4_placeAmongGoing_33 ?_
        have hmid : ((nI lo + nI hi + 1).toUInt32 >>> ((1 : Int32).toUInt32 &&& Int32.toUInt32 31)).toInt32 = nI ((lo + hi + 1) / 2) := by
          rw [nI_add, nI_1]
          exact (pk_ushrN (n := lo + hi + 1) (by omega) 1 1 (by decide)).trans (by congr 1)
        rw [hmid]
        refine ex_istore [(5, .int (nI ((lo + hi + 1) / 2))), (4, .int (nI r)), (3, .int (nI hi)), (2, .int (nI lo)), (0, .ref l), (1, .int y)] dX4_placeAmongGoing_34 (by decide) rfl ?_
        refine ex_aload_n dX4_placeAmongGoing_36 4 rfl ?_
        refine ex_getR (b := a5) dX4_placeAmongGoing_37 fl_X4_18 hl.1 hl.2 r5 ?_
        refine ex_iload dX4_placeAmongGoing_40 0 rfl ?_
        refine ex_cVr [.int (nI ((lo + hi + 1) / 2))] [] dX4_placeAmongGoing_42 cV_X4_46 (c_getj g l5 rfl (by omega)) l5.1.1 l5.1.2.1 rfl rfl rfl (by decide) (Nat.le_of_ble_eq_true rfl) rfl ?_
        refine ex_cast dX4_placeAmongGoing_45 mj.1 mj.2 rfl kl_X4_50 ?_
        refine ex_getI dX4_placeAmongGoing_48 fl_X4_67 mj.1 mj.2 ?_
        refine ex_iload_n dX4_placeAmongGoing_51 5 rfl ?_
        refine ex_icmp_gt (tgt := 61) dX4_placeAmongGoing_52 (by decide) (fun c52 => ?_) (fun c52 => ?_)
        · refine ex_iload dX4_placeAmongGoing_61 0 rfl ?_
          refine ex_iconst (v := 1) dX4_placeAmongGoing_63 (by decide) ?_
          refine ex_isub dX4_placeAmongGoing_64 ?_
          refine ex_istore_n [(3, .int ((nI ((lo + hi + 1) / 2)) - 1)), (5, .int (nI ((lo + hi + 1) / 2))), (4, .int (nI r)), (2, .int (nI lo)), (0, .ref l), (1, .int y)] dX4_placeAmongGoing_65 (by decide) rfl ?_
          refine ex_iinc (v := nI (r + 1)) 2 [(4, .int (nI (r + 1))), (3, .int ((nI ((lo + hi + 1) / 2)) - 1)), (5, .int (nI ((lo + hi + 1) / 2))), (2, .int (nI lo)), (0, .ref l), (1, .int y)] dX4_placeAmongGoing_66 rfl (nI_1 r) (by decide) rfl ?_
          refine ex_goto (tgt := 15) dX4_placeAmongGoing_69 (by decide) ?_
          refine ex_lv [0, 1, 3, 4, 5] rfl ?_
          have hpow : 2 ^ (t + 1) = 2 * 2 ^ t := by rw [Nat.pow_succ]; omega
          have e1 : nI ((lo + hi + 1) / 2) - 1 = nI (((lo + hi + 1) / 2) - 1) := pk_sub (b := 1) (by omega)
          rw [e1]
          have hgt : ¬ ((lo + hi + 1) / 2) ≤ p := fun z => by have := (hH ((lo + hi + 1) / 2) (by omega)).mpr z; simp only [i_le, i_lt, Int32.reduceToInt] at *; omega
          exact ih (r + 1) lo (((lo + hi + 1) / 2) - 1) (by omega) hl1 (by omega) (by omega) (by omega)
        · refine ex_iload dX4_placeAmongGoing_55 0 rfl ?_
          refine ex_istore_n [(2, .int (nI ((lo + hi + 1) / 2))), (5, .int (nI ((lo + hi + 1) / 2))), (4, .int (nI r)), (3, .int (nI hi)), (0, .ref l), (1, .int y)] dX4_placeAmongGoing_57 (by decide) rfl ?_
          refine ex_goto (tgt := 66) dX4_placeAmongGoing_58 (by decide) ?_
          refine ex_iinc (v := nI (r + 1)) 2 [(4, .int (nI (r + 1))), (2, .int (nI ((lo + hi + 1) / 2))), (5, .int (nI ((lo + hi + 1) / 2))), (3, .int (nI hi)), (0, .ref l), (1, .int y)] dX4_placeAmongGoing_66 rfl (nI_1 r) (by decide) rfl ?_
          refine ex_goto (tgt := 15) dX4_placeAmongGoing_69 (by decide) ?_
          refine ex_lv [0, 3, 1, 4, 5] rfl ?_
          have hpow : 2 ^ (t + 1) = 2 * 2 ^ t := by rw [Nat.pow_succ]; omega
          exact ih (r + 1) ((lo + hi + 1) / 2) hi (by omega) (by have := (hH ((lo + hi + 1) / 2) (by omega)).mp (by simp only [i_le, i_lt, Int32.reduceToInt] at *; omega); omega) hh1 hh2 (by omega)
set_option maxRecDepth 20000 in
set_option maxHeartbeats 2000000 in
theorem c_pag (g : gl_T) {S : hs_T} {n k l c5 p : Nat} {ow : Nat → Nat} {gz : List Nat} {y : Int32} (h : GZ g S ow l c5 gz) (hg15 : gz.length ≤ 1500) (hp : p < gz.length) (hH : ∀ q, q < gz.length → (hs_I S (gz.getD q 0) 0 ≤ y ↔ q ≤ p)) : ex_M g 3 mX4_placeAmongGoing [.ref l, .int y] S n k (ex_rt (some (.int (nI p))) S n k) := by
  obtain ⟨hl, a5, e5, r5, l5, o5, p5⟩ := id h
  refine ex_enter (by decide +kernel) (Nat.le_of_ble_eq_true rfl) ?_
  show ex_W _ _ _ _ 0 [(0, .ref l), (1, .int y)] [] _ _ _
  refine ex_iconst (v := 0) dX4_placeAmongGoing_0 (by decide) ?_
  refine ex_istore_n [(2, .int 0), (0, .ref l), (1, .int y)] dX4_placeAmongGoing_1 (by decide) rfl ?_
  refine ex_aload_n dX4_placeAmongGoing_2 1 rfl ?_
  refine ex_getR (b := a5) dX4_placeAmongGoing_3 fl_X4_18 hl.1 hl.2 r5 ?_
  refine ex_cVr [] [] dX4_placeAmongGoing_6 cV_X4_26 (c_szn g l5 rfl) l5.1.1 l5.1.2.1 rfl rfl rfl (by decide) (Nat.le_of_ble_eq_true rfl) rfl ?_
  refine ex_iconst (v := 1) dX4_placeAmongGoing_9 (by decide) ?_
  refine ex_isub dX4_placeAmongGoing_10 ?_
  refine ex_istore_n [(3, .int ((nI gz.length) - 1)), (2, .int 0), (0, .ref l), (1, .int y)] dX4_placeAmongGoing_11 (by decide) rfl ?_
  refine ex_iconst (v := 0) dX4_placeAmongGoing_12 (by decide) ?_
  refine ex_istore [(4, .int 0), (3, .int ((nI gz.length) - 1)), (2, .int 0), (0, .ref l), (1, .int y)] dX4_placeAmongGoing_13 (by decide) rfl ?_
  rw [show nI gz.length - 1 = nI (gz.length - 1) from pk_sub (b := 1) (by omega)]
  exact c_pag_l h hg15 hp hH 32 0 0 (gz.length - 1) (by omega) (by omega) (by omega) (by omega) (by omega)
