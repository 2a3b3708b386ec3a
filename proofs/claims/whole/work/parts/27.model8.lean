theorem lg_eq {x y : Int64} : lg_cmp x y = 0 ↔ x = y := by
  unfold lg_cmp
  split
  · next h => have h' : y.toInt < x.toInt := (j_lt _ _).mp h; exact ⟨fun z => absurd z (by decide), fun z => by subst z; omega⟩
  · next h =>
    split
    · next h2 => exact ⟨fun _ => h2, fun _ => rfl⟩
    · next h2 => exact ⟨fun z => absurd z (by decide), fun z => absurd z h2⟩
/-! bonds a to b go from h to another, or to nobody -/
abbrev ln_hit (h a b : Nat) (l : li_T) : Prop := (l.2.2.2.2 = none ∧ l.2.2.1 = h) ∧ l.1 ≤ b ∧ a ≤ l.2.1
def lc1 (a : Nat) (l : li_T) : List li_T := if l.1 < a then [(l.1, a - 1, l.2.2.1, l.2.2.2.1, none)] else []
def lc2 (b : Nat) (l : li_T) : List li_T := if b < l.2.1 then [(b + 1, l.2.1, l.2.2.1, l.2.2.2.1, none)] else []
def lc3 (a b td : Nat) (l : li_T) : Option Nat → List li_T
  | some t => [(max l.1 a, min l.2.1 b, t, td, none)]
  | none => []
def ln_end (l : li_T) (td : Nat) : li_T := (l.1, l.2.1, l.2.2.1, l.2.2.2.1, some td)
def lc (a b td : Nat) (to : Option Nat) (l : li_T) : List li_T := lc1 a l ++ lc2 b l ++ lc3 a b td l to
def gs (h a b td : Nat) (to : Option Nat) (ls : List li_T) : Nat → List li_T
  | 0 => ls
  | i + 1 => if ln_hit h a b (ln_at ls i) then (gs h a b td to ls i).set i (ln_end (ln_at ls i) td) ++ lc a b td to (ln_at ls i) else gs h a b td to ls i
def gm (h a b td : Nat) (to : Option Nat) (ls : List li_T) : Nat → Nat := su (fun j => if ln_hit h a b (ln_at ls j) then (lc a b td to (ln_at ls j)).length else 0)
theorem gs_len (h a b td : Nat) (to : Option Nat) (ls : List li_T) : ∀ i, (gs h a b td to ls i).length = ls.length + gm h a b td to ls i
  | 0 => rfl
  | i + 1 => by
    have ih := gs_len h a b td to ls i
    have e : gm h a b td to ls (i + 1) = gm h a b td to ls i + (if ln_hit h a b (ln_at ls i) then (lc a b td to (ln_at ls i)).length else 0) := rfl
    rw [e]
    unfold gs
    split
    · simp; omega
    · omega
theorem gs_at (h a b td : Nat) (to : Option Nat) (ls : List li_T) : ∀ i j, i ≤ j → j < ls.length → ln_at (gs h a b td to ls i) j = ln_at ls j
  | 0, _, _, _ => rfl
  | i + 1, j, hij, hj => by
    have ih := gs_at h a b td to ls i j (by omega) hj
    have hl := gs_len h a b td to ls i
    unfold gs
    split
    · rw [← ih]
      unfold ln_at
      rw [List.getD_eq_getElem?_getD, List.getD_eq_getElem?_getD, List.getElem?_append_left (by simp; omega), List.getElem?_set, if_neg (by omega)]
      exact (List.getD_eq_getElem?_getD ..).symm
    · exact ih
theorem su_mono {f : Nat → Nat} : ∀ {i j : Nat}, i ≤ j → su f i ≤ su f j
  | i, j, h => by
    induction h with
    | refl => exact Nat.le_refl _
    | step _ ih => exact Nat.le_trans ih (Nat.le_add_right _ _)
def sp_goes (s : st_T) (h : Nat) (xa xb : Int32) (to : Option Nat) : Int32 × st_T := if 0 ≤ xa ∧ xa ≤ xb ∧ su (fun j => ln_ov h xa.toNatClampNeg xb.toNatClampNeg (ln_at (s_ls s) j)) (s_ls s).length = xb.toNatClampNeg - xa.toNatClampNeg + 1 then (if 1500 < (s_ls s).length + gm h xa.toNatClampNeg xb.toNatClampNeg (s_td s) to (s_ls s) (s_ls s).length then (-2, s) else (1, w_ls s (gs h xa.toNatClampNeg xb.toNatClampNeg (s_td s) to (s_ls s) (s_ls s).length))) else (-1, s)
def mg (S : hs_T) (m : Nat) (ad : Nat → Nat) (n k : Nat) (sp : Int32 × st_T) : ex_R := fun r S' n' k' => r = .inl (some (.int sp.1)) ∧ hs_I S' m 0 = hs_I S m 0 ∧ RM S' m ad sp.2 ∧ MF S S' m ad ∧ n' = n ∧ k' = k
theorem mg_i {S S' : hs_T} {m : Nat} {ad : Nat → Nat} {n k : Nat} {v : Int32} {s' : st_T} {sp : Int32 × st_T} (hsp : sp = (v, s')) (ht : hs_I S' m 0 = hs_I S m 0) (hR : RM S' m ad s') (hF : MF S S' m ad) : mg S m ad n k sp (.inl (some (.int v))) S' n k := by
  subst hsp
  exact ⟨rfl, ht, hR, hF, rfl, rfl⟩
theorem RM_end {S : hs_T} {m : Nat} {ad : Nat → Nat} {s : st_T} (h : RM S m ad s) {i : Nat} (hi : i < (s_ls s).length) {v : Int32} (hv : v = nI (s_td s)) : RM (hs_sI S (ad 10) i v) m ad (w_ls s ((s_ls s).set i (ln_end (ln_at (s_ls s) i) (s_td s)))) := by
  obtain ⟨hB, hMS, hMH, hML, hMT, hMR, hMN, hMD, hMW⟩ := h
  have hT : ML (hs_sI S (ad 10) i v) m ad ((s_ls s).set i (ln_end (ln_at (s_ls s) i) (s_td s))) := by
    obtain ⟨h1, h2, h3⟩ := hML
    refine ⟨by rw [mI_sa hB.2.2, h1]; simp, by simpa using h2, fun j hj => ?_⟩
    simp at hj
    have h4 := h3 j hj
    have e : ln_at ((s_ls s).set i (ln_end (ln_at (s_ls s) i) (s_td s))) j = if j = i then ln_end (ln_at (s_ls s) i) (s_td s) else ln_at (s_ls s) j := gd_set _ _ _ _ _ hi
    simp only [mI_aa hB.2.2, e]
    by_cases q : j = i
    · subst q
      simp only [if_pos, ln_end]
      obtain ⟨g1, g2, g3, g4, g5, g6⟩ := h4
      refine ⟨⟨g1.1, g1.2.1, g1.2.2.1, g1.2.2.2.1, fun d hd => by cases hd; exact hMS.2.1⟩, ?_⟩
      simp [g2, g3, g4, g5, hv, eN]
    · simpa [q] using h4
  exact ⟨hB, (MS_aI hB.2.2 (hMS) 10 _ _ (by decide)), (MH_aI hB.2.2 (hMH) 10 _ _ (by decide)), hT, (MT_aI hB.2.2 (hMT) 10 _ _ (by decide)), (MR_aI hB.2.2 (hMR) 10 _ _ (by decide)), (MN_aI hB.2.2 (hMN) 10 _ _ (by decide)), (MD_aI hB.2.2 (hMD) 10 _ _ (by decide)), (MW_aI hB.2.2 (hMW) 10 _ _ (by decide))⟩
set_option maxRecDepth 20000 in
set_option maxHeartbeats 2000000 in
theorem m_goes_1 {g : gl_T} {S1 : hs_T} {n k m i a b h0 : Nat} {ad : Nat → Nat} {s : st_T} {L : List li_T} {l : li_T} {to : Option Nat} {Po : ex_R} {v xn xh xa xb xt : Int32} (h1 : RM S1 m ad (w_ls s L)) (hiL : i < L.length) (hli : ln_at L i = l) (hlh : l.2.2.1 = h0) (hxh : xh = nI h0) (hxa : xa = nI a) (hxb : xb = nI b) (hxt : xt = eN to) (hab : a ≤ b) (ha31 : a < 2 ^ 31) (hb31 : b < 2 ^ 31) (hto : ∀ t, to = some t → t < 60) (hb1 : l.1 ≤ b) (ha1 : a ≤ l.2.1) (hlen : L.length + (lc1 a l).length ≤ 1500) (kk : ∀ S2, RM S2 m ad (w_ls s (L ++ lc1 a l)) → MF S1 S2 m ad → hs_I S2 m 0 = hs_I S1 m 0 → ex_W g 2 mX10_goes Po 237 [(7, .int (nI i)), (6, .int v), (5, .int xn), (0, .ref m), (1, .int xh), (2, .int xa), (3, .int xb), (4, .int xt)] [] S2 n k) : ex_W g 2 mX10_goes Po 204 [(7, .int (nI i)), (6, .int v), (5, .int xn), (0, .ref m), (1, .int xh), (2, .int xa), (3, .int xb), (4, .int xt)] [] S1 n k := by
  obtain ⟨hB, hMS, hMH, hML, hMT, hMR, hMN, hMD, hMW⟩ := id h1
  have hL15 : L.length ≤ 1500 := hML.2.1
  obtain ⟨hok, h6, h7, h8, h9, h10⟩ := hML.2.2 i hiL
  change ln_ok (ln_at L i) at hok
  change hs_I S1 (ad 6) i = nI (ln_at L i).1 at h6
  change hs_I S1 (ad 7) i = nI (ln_at L i).2.1 at h7
  change hs_I S1 (ad 9) i = nI (ln_at L i).2.2.2.1 at h9
  rw [hli] at hok h6 h7 h9
  obtain ⟨k1, k2, k3, k4, k5⟩ := hok
  have htd : s_td s ≤ 100000 := hMS.2.1
  refine ex_aload_n dX10_goes_204 3 rfl ?_
  refine ex_getR (b := ad 6) dX10_goes_205 fl_X10_17 hB.1.1 hB.1.2 (mb_6 hB).1 ?_
  refine ex_iload dX10_goes_208 0 rfl ?_
  refine ex_iald (j := i) dX10_goes_210 (mb_6 hB).2.1 (mb_6 hB).2.2.1 rfl (Nat.lt_of_lt_of_eq (show i < 1500 by omega) (mb_6 hB).2.2.2.symm) (show i < 2 ^ 31 by omega) ?_
  refine ex_iload_n dX10_goes_211 5 rfl ?_
  refine ex_icmp_ge (tgt := 237) dX10_goes_212 (by decide) (fun c212 => ?_) (fun c212 => ?_)
  · have e : lc1 a l = [] := by unfold lc1; rw [if_neg (fun z => by have z2 := nI_lt z (by omega); rw [← h6, ← hxa] at z2; simp only [i_lt, i_le] at *; omega)]
    rw [e, List.append_nil] at kk
    exact kk S1 h1 (MF_rf _ _ _) rfl
  · have hlt : L.length < 1500 := by
      have e1 : (lc1 a l).length = 1 := by unfold lc1; rw [if_pos ((nI_ltI (by omega) (by omega)).mp (by rw [← h6, ← hxa]; simp only [i_lt, i_le] at *; omega))]; rfl
      omega
    refine ex_aload_n dX10_goes_215 3 rfl ?_
    refine ex_aload_n dX10_goes_216 3 rfl ?_
    refine ex_getR (b := ad 6) dX10_goes_217 fl_X10_17 hB.1.1 hB.1.2 (mb_6 hB).1 ?_
    refine ex_iload dX10_goes_220 0 rfl ?_
    refine ex_iald (j := i) dX10_goes_222 (mb_6 hB).2.1 (mb_6 hB).2.2.1 rfl (Nat.lt_of_lt_of_eq (show i < 1500 by omega) (mb_6 hB).2.2.2.symm) (show i < 2 ^ 31 by omega) ?_
    refine ex_iload_n dX10_goes_223 5 rfl ?_
    refine ex_iconst (v := 1) dX10_goes_224 (by decide) ?_
    refine ex_isub dX10_goes_225 ?_
    refine ex_iload_n dX10_goes_226 4 rfl ?_
    refine ex_aload_n dX10_goes_227 3 rfl ?_
    refine ex_getR (b := ad 9) dX10_goes_228 fl_X10_27 hB.1.1 hB.1.2 (mb_9 hB).1 ?_
    refine ex_iload dX10_goes_231 0 rfl ?_
    refine ex_iald (j := i) dX10_goes_233 (mb_9 hB).2.1 (mb_9 hB).2.2.1 rfl (Nat.lt_of_lt_of_eq (show i < 1500 by omega) (mb_9 hB).2.2.2.symm) (show i < 2 ^ 31 by omega) ?_
    refine ex_cVv [.int (hs_I S1 (ad 6) i), .int (xa - 1), .int xh, .int (hs_I S1 (ad 9) i)] [] dX10_goes_234 cV_X10_105 (m_adds g hB hML.1 hlt) hB.1.1 hB.1.2 rfl rfl rfl (by decide) (Nat.le_of_ble_eq_true rfl) rfl ?_
    have e : lc1 a l = [(l.1, a - 1, h0, l.2.2.2.1, none)] := by unfold lc1; rw [if_pos ((nI_ltI (by omega) (by omega)).mp (by rw [← h6, ← hxa]; simp only [i_lt, i_le] at *; omega))]; rw [hlh]
    rw [e] at kk
    refine kk _ (RM_ads (s := w_ls s L) h1 hlt ⟨by show l.1 ≤ a - 1; have : l.1 < a := (nI_ltI (by omega) (by omega)).mp (by rw [← h6, ← hxa]; simp only [i_lt, i_le] at *; omega); omega, by show a - 1 < 1000000000; omega, by show h0 < 60; omega, k4, fun d hd => by cases hd⟩ h6 (by rw [hxa]; exact pk_sub (b := 1) (by have : l.1 < a := (nI_ltI (by omega) (by omega)).mp (by rw [← h6, ← hxa]; simp only [i_lt, i_le] at *; omega); omega)) hxh h9) (MF_ads (MF_rf _ _ _) _ _ _ _ _) (ads_m hB.2.2 (by decide) _ _ _ _)
set_option maxRecDepth 20000 in
set_option maxHeartbeats 2000000 in
theorem m_goes_2 {g : gl_T} {S1 : hs_T} {n k m i a b h0 : Nat} {ad : Nat → Nat} {s : st_T} {L : List li_T} {l : li_T} {to : Option Nat} {Po : ex_R} {v xn xh xa xb xt : Int32} (h1 : RM S1 m ad (w_ls s L)) (hiL : i < L.length) (hli : ln_at L i = l) (hlh : l.2.2.1 = h0) (hxh : xh = nI h0) (hxa : xa = nI a) (hxb : xb = nI b) (hxt : xt = eN to) (hab : a ≤ b) (ha31 : a < 2 ^ 31) (hb31 : b < 2 ^ 31) (hto : ∀ t, to = some t → t < 60) (hb1 : l.1 ≤ b) (ha1 : a ≤ l.2.1) (hlen : L.length + (lc2 b l).length ≤ 1500) (kk : ∀ S2, RM S2 m ad (w_ls s (L ++ lc2 b l)) → MF S1 S2 m ad → hs_I S2 m 0 = hs_I S1 m 0 → ex_W g 2 mX10_goes Po 270 [(7, .int (nI i)), (6, .int v), (5, .int xn), (0, .ref m), (1, .int xh), (2, .int xa), (3, .int xb), (4, .int xt)] [] S2 n k) : ex_W g 2 mX10_goes Po 237 [(7, .int (nI i)), (6, .int v), (5, .int xn), (0, .ref m), (1, .int xh), (2, .int xa), (3, .int xb), (4, .int xt)] [] S1 n k := by
  obtain ⟨hB, hMS, hMH, hML, hMT, hMR, hMN, hMD, hMW⟩ := id h1
  have hL15 : L.length ≤ 1500 := hML.2.1
  obtain ⟨hok, h6, h7, h8, h9, h10⟩ := hML.2.2 i hiL
  change ln_ok (ln_at L i) at hok
  change hs_I S1 (ad 6) i = nI (ln_at L i).1 at h6
  change hs_I S1 (ad 7) i = nI (ln_at L i).2.1 at h7
  change hs_I S1 (ad 9) i = nI (ln_at L i).2.2.2.1 at h9
  rw [hli] at hok h6 h7 h9
  obtain ⟨k1, k2, k3, k4, k5⟩ := hok
  have htd : s_td s ≤ 100000 := hMS.2.1
  refine ex_aload_n dX10_goes_237 3 rfl ?_
  refine ex_getR (b := ad 7) dX10_goes_238 fl_X10_21 hB.1.1 hB.1.2 (mb_7 hB).1 ?_
  refine ex_iload dX10_goes_241 0 rfl ?_
  refine ex_iald (j := i) dX10_goes_243 (mb_7 hB).2.1 (mb_7 hB).2.2.1 rfl (Nat.lt_of_lt_of_eq (show i < 1500 by omega) (mb_7 hB).2.2.2.symm) (show i < 2 ^ 31 by omega) ?_
  refine ex_iload_n dX10_goes_244 6 rfl ?_
  refine ex_icmp_le (tgt := 270) dX10_goes_245 (by decide) (fun c245 => ?_) (fun c245 => ?_)
  · have e : lc2 b l = [] := by unfold lc2; rw [if_neg (fun z => by have z2 := nI_lt z (by omega); rw [← h7, ← hxb] at z2; simp only [i_lt, i_le] at *; omega)]
    rw [e, List.append_nil] at kk
    exact kk S1 h1 (MF_rf _ _ _) rfl
  · have hlt : L.length < 1500 := by
      have e1 : (lc2 b l).length = 1 := by unfold lc2; rw [if_pos ((nI_ltI (by omega) (by omega)).mp (by rw [← h7, ← hxb]; simp only [i_lt, i_le] at *; omega))]; rfl
      omega
    refine ex_aload_n dX10_goes_248 3 rfl ?_
    refine ex_iload_n dX10_goes_249 6 rfl ?_
    refine ex_iconst (v := 1) dX10_goes_250 (by decide) ?_
    refine ex_iadd dX10_goes_251 ?_
    refine ex_aload_n dX10_goes_252 3 rfl ?_
    refine ex_getR (b := ad 7) dX10_goes_253 fl_X10_21 hB.1.1 hB.1.2 (mb_7 hB).1 ?_
    refine ex_iload dX10_goes_256 0 rfl ?_
    refine ex_iald (j := i) dX10_goes_258 (mb_7 hB).2.1 (mb_7 hB).2.2.1 rfl (Nat.lt_of_lt_of_eq (show i < 1500 by omega) (mb_7 hB).2.2.2.symm) (show i < 2 ^ 31 by omega) ?_
    refine ex_iload_n dX10_goes_259 4 rfl ?_
    refine ex_aload_n dX10_goes_260 3 rfl ?_
    refine ex_getR (b := ad 9) dX10_goes_261 fl_X10_27 hB.1.1 hB.1.2 (mb_9 hB).1 ?_
    refine ex_iload dX10_goes_264 0 rfl ?_
    refine ex_iald (j := i) dX10_goes_266 (mb_9 hB).2.1 (mb_9 hB).2.2.1 rfl (Nat.lt_of_lt_of_eq (show i < 1500 by omega) (mb_9 hB).2.2.2.symm) (show i < 2 ^ 31 by omega) ?_
    refine ex_cVv [.int (xb + 1), .int (hs_I S1 (ad 7) i), .int xh, .int (hs_I S1 (ad 9) i)] [] dX10_goes_267 cV_X10_105 (m_adds g hB hML.1 hlt) hB.1.1 hB.1.2 rfl rfl rfl (by decide) (Nat.le_of_ble_eq_true rfl) rfl ?_
    have e : lc2 b l = [(b + 1, l.2.1, h0, l.2.2.2.1, none)] := by unfold lc2; rw [if_pos ((nI_ltI (by omega) (by omega)).mp (by rw [← h7, ← hxb]; simp only [i_lt, i_le] at *; omega))]; rw [hlh]
    rw [e] at kk
    refine kk _ (RM_ads (s := w_ls s L) h1 hlt ⟨by show b + 1 ≤ l.2.1; have : b < l.2.1 := (nI_ltI (by omega) (by omega)).mp (by rw [← h7, ← hxb]; simp only [i_lt, i_le] at *; omega); omega, k2, by show h0 < 60; omega, k4, fun d hd => by cases hd⟩ (by rw [hxb]; exact nI_1 b) h7 hxh h9) (MF_ads (MF_rf _ _ _) _ _ _ _ _) (ads_m hB.2.2 (by decide) _ _ _ _)
set_option maxRecDepth 20000 in
set_option maxHeartbeats 2000000 in
theorem m_goes_3 {g : gl_T} {S1 : hs_T} {n k m i a b h0 : Nat} {ad : Nat → Nat} {s : st_T} {L : List li_T} {l : li_T} {to : Option Nat} {Po : ex_R} {v xn xh xa xb xt : Int32} (h1 : RM S1 m ad (w_ls s L)) (hiL : i < L.length) (hli : ln_at L i = l) (hlh : l.2.2.1 = h0) (hxh : xh = nI h0) (hxa : xa = nI a) (hxb : xb = nI b) (hxt : xt = eN to) (hab : a ≤ b) (ha31 : a < 2 ^ 31) (hb31 : b < 2 ^ 31) (hto : ∀ t, to = some t → t < 60) (hb1 : l.1 ≤ b) (ha1 : a ≤ l.2.1) (hlen : L.length + (lc3 a b (s_td s) l to).length ≤ 1500) (kk : ∀ S2, RM S2 m ad (w_ls s (L ++ lc3 a b (s_td s) l to)) → MF S1 S2 m ad → hs_I S2 m 0 = hs_I S1 m 0 → ex_W g 2 mX10_goes Po 329 [(7, .int (nI i)), (6, .int v), (5, .int xn), (0, .ref m), (1, .int xh), (2, .int xa), (3, .int xb), (4, .int xt)] [] S2 n k) : ex_W g 2 mX10_goes Po 270 [(7, .int (nI i)), (6, .int v), (5, .int xn), (0, .ref m), (1, .int xh), (2, .int xa), (3, .int xb), (4, .int xt)] [] S1 n k := by
  obtain ⟨hB, hMS, hMH, hML, hMT, hMR, hMN, hMD, hMW⟩ := id h1
  have hL15 : L.length ≤ 1500 := hML.2.1
  obtain ⟨hok, h6, h7, h8, h9, h10⟩ := hML.2.2 i hiL
  change ln_ok (ln_at L i) at hok
  change hs_I S1 (ad 6) i = nI (ln_at L i).1 at h6
  change hs_I S1 (ad 7) i = nI (ln_at L i).2.1 at h7
  change hs_I S1 (ad 9) i = nI (ln_at L i).2.2.2.1 at h9
  rw [hli] at hok h6 h7 h9
  obtain ⟨k1, k2, k3, k4, k5⟩ := hok
  have htd : s_td s ≤ 100000 := hMS.2.1
  refine ex_iload dX10_goes_270 7 rfl ?_
  refine ex_if_lt (tgt := 329) dX10_goes_272 (by decide) (fun c272 => ?_) (fun c272 => ?_)
  · have e : lc3 a b (s_td s) l to = [] := by
      cases q : to with
      | none => rfl
      | some t => rw [hxt, q] at c272; exact absurd c272 (nI_pos (by have := hto t q; omega))
    rw [e, List.append_nil] at kk
    exact kk S1 h1 (MF_rf _ _ _) rfl
  · obtain ⟨t, ht⟩ : ∃ t, to = some t := by
      cases q : to with
      | none => rw [hxt, q] at c272; exact absurd (by decide) c272
      | some t => exact ⟨t, rfl⟩
    subst ht
    have ht6 := hto t rfl
    have hlt : L.length < 1500 := by
      have e1 : (lc3 a b (s_td s) l (some t)).length = 1 := by rfl
      omega
    refine ex_aload_n dX10_goes_275 3 rfl ?_
    refine ex_aload_n dX10_goes_276 3 rfl ?_
    refine ex_getR (b := ad 6) dX10_goes_277 fl_X10_17 hB.1.1 hB.1.2 (mb_6 hB).1 ?_
    refine ex_iload dX10_goes_280 0 rfl ?_
    refine ex_iald (j := i) dX10_goes_282 (mb_6 hB).2.1 (mb_6 hB).2.2.1 rfl (Nat.lt_of_lt_of_eq (show i < 1500 by omega) (mb_6 hB).2.2.2.symm) (show i < 2 ^ 31 by omega) ?_
    refine ex_iload_n dX10_goes_283 5 rfl ?_
    refine ex_icmp_le (tgt := 297) dX10_goes_284 (by decide) (fun c284 => ?_) (fun c284 => ?_)
    · refine ex_iload_n dX10_goes_297 5 rfl ?_
      refine ex_aload_n dX10_goes_298 3 rfl ?_
      refine ex_getR (b := ad 7) dX10_goes_299 fl_X10_21 hB.1.1 hB.1.2 (mb_7 hB).1 ?_
      refine ex_iload dX10_goes_302 0 rfl ?_
      refine ex_iald (j := i) dX10_goes_304 (mb_7 hB).2.1 (mb_7 hB).2.2.1 rfl (Nat.lt_of_lt_of_eq (show i < 1500 by omega) (mb_7 hB).2.2.2.symm) (show i < 2 ^ 31 by omega) ?_
      refine ex_iload_n dX10_goes_305 6 rfl ?_
      refine ex_icmp_ge (tgt := 319) dX10_goes_306 (by decide) (fun c306 => ?_) (fun c306 => ?_)
      · refine ex_iload_n dX10_goes_319 6 rfl ?_
        refine ex_iload dX10_goes_320 7 rfl ?_
        refine ex_aload_n dX10_goes_322 3 rfl ?_
        refine ex_getI dX10_goes_323 fl_X10_102 hB.1.1 hB.1.2 ?_
        refine ex_cVv [.int xa, .int xb, .int xt, .int (hs_I S1 m 2)] [] dX10_goes_326 cV_X10_105 (m_adds g hB hML.1 hlt) hB.1.1 hB.1.2 rfl rfl rfl (by decide) (Nat.le_of_ble_eq_true rfl) rfl ?_
        refine kk _ (RM_ads (s := w_ls s L) h1 hlt ⟨by show max l.1 a ≤ min l.2.1 b; omega, by show min l.2.1 b < 1000000000; omega, ht6, htd, fun d hd => by cases hd⟩ (by first | (rw [Nat.max_eq_left (Nat.le_of_lt ((nI_ltI (by omega) (by omega)).mp (by rw [← h6, ← hxa]; simp only [i_lt, i_le] at *; omega)))]; exact h6) | (rw [Nat.max_eq_right ((nI_leI (by omega) (by omega)).mp (by rw [← h6, ← hxa]; simp only [i_lt, i_le] at *; omega))]; exact hxa)) (by first | (rw [Nat.min_eq_left (Nat.le_of_lt ((nI_ltI (by omega) (by omega)).mp (by rw [← h7, ← hxb]; simp only [i_lt, i_le] at *; omega)))]; exact h7) | (rw [Nat.min_eq_right ((nI_leI (by omega) (by omega)).mp (by rw [← h7, ← hxb]; simp only [i_lt, i_le] at *; omega))]; exact hxb)) hxt hMS.1.1) (MF_ads (MF_rf _ _ _) _ _ _ _ _) (ads_m hB.2.2 (by decide) _ _ _ _)
      · refine ex_aload_n dX10_goes_309 3 rfl ?_
        refine ex_getR (b := ad 7) dX10_goes_310 fl_X10_21 hB.1.1 hB.1.2 (mb_7 hB).1 ?_
        refine ex_iload dX10_goes_313 0 rfl ?_
        refine ex_iald (j := i) dX10_goes_315 (mb_7 hB).2.1 (mb_7 hB).2.2.1 rfl (Nat.lt_of_lt_of_eq (show i < 1500 by omega) (mb_7 hB).2.2.2.symm) (show i < 2 ^ 31 by omega) ?_
        refine ex_goto (tgt := 320) dX10_goes_316 (by decide) ?_
        refine ex_iload dX10_goes_320 7 rfl ?_
        refine ex_aload_n dX10_goes_322 3 rfl ?_
        refine ex_getI dX10_goes_323 fl_X10_102 hB.1.1 hB.1.2 ?_
        refine ex_cVv [.int xa, .int (hs_I S1 (ad 7) i), .int xt, .int (hs_I S1 m 2)] [] dX10_goes_326 cV_X10_105 (m_adds g hB hML.1 hlt) hB.1.1 hB.1.2 rfl rfl rfl (by decide) (Nat.le_of_ble_eq_true rfl) rfl ?_
        refine kk _ (RM_ads (s := w_ls s L) h1 hlt ⟨by show max l.1 a ≤ min l.2.1 b; omega, by show min l.2.1 b < 1000000000; omega, ht6, htd, fun d hd => by cases hd⟩ (by first | (rw [Nat.max_eq_left (Nat.le_of_lt ((nI_ltI (by omega) (by omega)).mp (by rw [← h6, ← hxa]; simp only [i_lt, i_le] at *; omega)))]; exact h6) | (rw [Nat.max_eq_right ((nI_leI (by omega) (by omega)).mp (by rw [← h6, ← hxa]; simp only [i_lt, i_le] at *; omega))]; exact hxa)) (by first | (rw [Nat.min_eq_left (Nat.le_of_lt ((nI_ltI (by omega) (by omega)).mp (by rw [← h7, ← hxb]; simp only [i_lt, i_le] at *; omega)))]; exact h7) | (rw [Nat.min_eq_right ((nI_leI (by omega) (by omega)).mp (by rw [← h7, ← hxb]; simp only [i_lt, i_le] at *; omega))]; exact hxb)) hxt hMS.1.1) (MF_ads (MF_rf _ _ _) _ _ _ _ _) (ads_m hB.2.2 (by decide) _ _ _ _)
    · refine ex_aload_n dX10_goes_287 3 rfl ?_
      refine ex_getR (b := ad 6) dX10_goes_288 fl_X10_17 hB.1.1 hB.1.2 (mb_6 hB).1 ?_
      refine ex_iload dX10_goes_291 0 rfl ?_
      refine ex_iald (j := i) dX10_goes_293 (mb_6 hB).2.1 (mb_6 hB).2.2.1 rfl (Nat.lt_of_lt_of_eq (show i < 1500 by omega) (mb_6 hB).2.2.2.symm) (show i < 2 ^ 31 by omega) ?_
      refine ex_goto (tgt := 298) dX10_goes_294 (by decide) ?_
      refine ex_aload_n dX10_goes_298 3 rfl ?_
      refine ex_getR (b := ad 7) dX10_goes_299 fl_X10_21 hB.1.1 hB.1.2 (mb_7 hB).1 ?_
      refine ex_iload dX10_goes_302 0 rfl ?_
      refine ex_iald (j := i) dX10_goes_304 (mb_7 hB).2.1 (mb_7 hB).2.2.1 rfl (Nat.lt_of_lt_of_eq (show i < 1500 by omega) (mb_7 hB).2.2.2.symm) (show i < 2 ^ 31 by omega) ?_
      refine ex_iload_n dX10_goes_305 6 rfl ?_
      refine ex_icmp_ge (tgt := 319) dX10_goes_306 (by decide) (fun c306 => ?_) (fun c306 => ?_)
      · refine ex_iload_n dX10_goes_319 6 rfl ?_
        refine ex_iload dX10_goes_320 7 rfl ?_
        refine ex_aload_n dX10_goes_322 3 rfl ?_
        refine ex_getI dX10_goes_323 fl_X10_102 hB.1.1 hB.1.2 ?_
        refine ex_cVv [.int (hs_I S1 (ad 6) i), .int xb, .int xt, .int (hs_I S1 m 2)] [] dX10_goes_326 cV_X10_105 (m_adds g hB hML.1 hlt) hB.1.1 hB.1.2 rfl rfl rfl (by decide) (Nat.le_of_ble_eq_true rfl) rfl ?_
        refine kk _ (RM_ads (s := w_ls s L) h1 hlt ⟨by show max l.1 a ≤ min l.2.1 b; omega, by show min l.2.1 b < 1000000000; omega, ht6, htd, fun d hd => by cases hd⟩ (by first | (rw [Nat.max_eq_left (Nat.le_of_lt ((nI_ltI (by omega) (by omega)).mp (by rw [← h6, ← hxa]; simp only [i_lt, i_le] at *; omega)))]; exact h6) | (rw [Nat.max_eq_right ((nI_leI (by omega) (by omega)).mp (by rw [← h6, ← hxa]; simp only [i_lt, i_le] at *; omega))]; exact hxa)) (by first | (rw [Nat.min_eq_left (Nat.le_of_lt ((nI_ltI (by omega) (by omega)).mp (by rw [← h7, ← hxb]; simp only [i_lt, i_le] at *; omega)))]; exact h7) | (rw [Nat.min_eq_right ((nI_leI (by omega) (by omega)).mp (by rw [← h7, ← hxb]; simp only [i_lt, i_le] at *; omega))]; exact hxb)) hxt hMS.1.1) (MF_ads (MF_rf _ _ _) _ _ _ _ _) (ads_m hB.2.2 (by decide) _ _ _ _)
      · refine ex_aload_n dX10_goes_309 3 rfl ?_
        refine ex_getR (b := ad 7) dX10_goes_310 fl_X10_21 hB.1.1 hB.1.2 (mb_7 hB).1 ?_
        refine ex_iload dX10_goes_313 0 rfl ?_
        refine ex_iald (j := i) dX10_goes_315 (mb_7 hB).2.1 (mb_7 hB).2.2.1 rfl (Nat.lt_of_lt_of_eq (show i < 1500 by omega) (mb_7 hB).2.2.2.symm) (show i < 2 ^ 31 by omega) ?_
        refine ex_goto (tgt := 320) dX10_goes_316 (by decide) ?_
        refine ex_iload dX10_goes_320 7 rfl ?_
        refine ex_aload_n dX10_goes_322 3 rfl ?_
        refine ex_getI dX10_goes_323 fl_X10_102 hB.1.1 hB.1.2 ?_
        refine ex_cVv [.int (hs_I S1 (ad 6) i), .int (hs_I S1 (ad 7) i), .int xt, .int (hs_I S1 m 2)] [] dX10_goes_326 cV_X10_105 (m_adds g hB hML.1 hlt) hB.1.1 hB.1.2 rfl rfl rfl (by decide) (Nat.le_of_ble_eq_true rfl) rfl ?_
        refine kk _ (RM_ads (s := w_ls s L) h1 hlt ⟨by show max l.1 a ≤ min l.2.1 b; omega, by show min l.2.1 b < 1000000000; omega, ht6, htd, fun d hd => by cases hd⟩ (by first | (rw [Nat.max_eq_left (Nat.le_of_lt ((nI_ltI (by omega) (by omega)).mp (by rw [← h6, ← hxa]; simp only [i_lt, i_le] at *; omega)))]; exact h6) | (rw [Nat.max_eq_right ((nI_leI (by omega) (by omega)).mp (by rw [← h6, ← hxa]; simp only [i_lt, i_le] at *; omega))]; exact hxa)) (by first | (rw [Nat.min_eq_left (Nat.le_of_lt ((nI_ltI (by omega) (by omega)).mp (by rw [← h7, ← hxb]; simp only [i_lt, i_le] at *; omega)))]; exact h7) | (rw [Nat.min_eq_right ((nI_leI (by omega) (by omega)).mp (by rw [← h7, ← hxb]; simp only [i_lt, i_le] at *; omega))]; exact hxb)) hxt hMS.1.1) (MF_ads (MF_rf _ _ _) _ _ _ _ _) (ads_m hB.2.2 (by decide) _ _ _ _)
theorem lc_len (a b td : Nat) (to : Option Nat) (l : li_T) : (lc a b td to l).length = (if l.1 < a then 1 else 0) + (if b < l.2.1 then 1 else 0) + (if to = none then 0 else 1) := by
  unfold lc
  rw [List.length_append, List.length_append]
  congr 1
  · congr 1
    · unfold lc1; split <;> rfl
    · unfold lc2; split <;> rfl
  · cases to <;> rfl
theorem lc_le (a b td : Nat) (to : Option Nat) (l : li_T) : (lc a b td to l).length ≤ 3 := by
  rw [lc_len]; split <;> split <;> split <;> omega
theorem gm_le (h a b td : Nat) (to : Option Nat) (ls : List li_T) (i : Nat) : gm h a b td to ls i ≤ 3 * i := su_le (fun j => by split; exact lc_le _ _ _ _ _; omega) i
theorem gm_1 (h a b td : Nat) (to : Option Nat) (ls : List li_T) (i : Nat) : gm h a b td to ls (i + 1) = gm h a b td to ls i + (if ln_hit h a b (ln_at ls i) then (lc a b td to (ln_at ls i)).length else 0) := rfl
set_option maxRecDepth 20000 in
set_option maxHeartbeats 2000000 in
theorem m_goes_c {g : gl_T} {S1 : hs_T} {n k m : Nat} {ad : Nat → Nat} {s : st_T} {Po : ex_R} {h0 a b : Nat} {to : Option Nat} {xh xa xb xt xn : Int32} (hxh : xh = nI h0) (hxa : xa = nI a) (hxb : xb = nI b) (hxt : xt = eN to) (hh6 : h0 < 60) (hab : a ≤ b) (ha31 : a < 2 ^ 31) (hb31 : b < 2 ^ 31) (hto : ∀ t, to = some t → t < 60) (h1 : RM S1 m ad s) (hxn : xn = nI (s_ls s).length) (kk : ∀ w v, v = nI (gm h0 a b (s_td s) to (s_ls s) (s_ls s).length) → ex_W g 2 mX10_goes Po 134 [(7, .int w), (6, .int v), (5, .int xn), (0, .ref m), (1, .int xh), (2, .int xa), (3, .int xb), (4, .int xt)] [] S1 n k) : ∀ t i v, i ≤ (s_ls s).length → (s_ls s).length < i + t → v = nI (gm h0 a b (s_td s) to (s_ls s) i) → ex_W g 2 mX10_goes Po 40 [(7, .int (nI i)), (6, .int v), (5, .int xn), (0, .ref m), (1, .int xh), (2, .int xa), (3, .int xb), (4, .int xt)] [] S1 n k := by
  obtain ⟨hB, hMS, hMH, hML, hMT, hMR, hMN, hMD, hMW⟩ := id h1
  have hl := hML.2.1
  intro t
  induction t with
  | zero => intro i v h1 h2; exact absurd h2 (by omega)
  | succ t ih =>
    intro i v hi1 hi2 hv
    refine ex_iload dX10_goes_40 0 rfl ?_
    refine ex_iload dX10_goes_42 2 rfl ?_
    refine ex_icmp_ge (tgt := 134) dX10_goes_44 (by decide) (fun c44 => ?_) (fun c44 => ?_)
    · have hil : i = (s_ls s).length := by have := (nI_leI (by omega) (by omega)).mp (hxn ▸ c44); omega
      exact kk _ _ (hil ▸ hv)
    · have hil : i < (s_ls s).length := by
        rcases Nat.lt_or_ge i (s_ls s).length with q | q
        · exact q
        · exact absurd (by rw [hxn]; exact nI_le q (by omega)) c44
      obtain ⟨hok, h6, h7, h8, h9, h10⟩ := hML.2.2 i hil
      change ln_ok (ln_at (s_ls s) i) at hok
      change hs_I S1 (ad 6) i = nI (ln_at (s_ls s) i).1 at h6
      change hs_I S1 (ad 7) i = nI (ln_at (s_ls s) i).2.1 at h7
      change hs_I S1 (ad 8) i = nI (ln_at (s_ls s) i).2.2.1 at h8
      change hs_I S1 (ad 9) i = nI (ln_at (s_ls s) i).2.2.2.1 at h9
      change hs_I S1 (ad 10) i = eN (ln_at (s_ls s) i).2.2.2.2 at h10
      have hh7 : hs_I S1 (ad 10) i = -1 ∧ hs_I S1 (ad 8) i = xh ↔ (ln_at (s_ls s) i).2.2.2.2 = none ∧ (ln_at (s_ls s) i).2.2.1 = h0 := by
        constructor
        · rintro ⟨z1, z2⟩
          exact ⟨(eN_m1 hok.2.2.2.2).mp (h10.symm.trans z1), (nI_eq (by have := hok.2.2.1; omega) (by omega)).mp (h8.symm.trans (z2.trans hxh))⟩
        · rintro ⟨z1, z2⟩
          exact ⟨h10.trans ((eN_m1 hok.2.2.2.2).mpr z1), by rw [h8, z2, hxh]⟩
      obtain ⟨k1, k2, k3, k4, k5⟩ := id hok
      refine ex_aload_n dX10_goes_47 3 rfl ?_
      refine ex_iload dX10_goes_48 0 rfl ?_
      refine ex_iload_n dX10_goes_50 4 rfl ?_
      refine ex_cVr [.int (nI i), .int xh] [] dX10_goes_51 cV_X10_109 (m_goesOn g hB rfl (by omega)) hB.1.1 hB.1.2 rfl rfl rfl (by decide) (Nat.le_of_ble_eq_true rfl) rfl ?_
      refine ex_if_eq (tgt := 128) dX10_goes_54 (by decide) (fun c54 => ?_) (fun c54 => ?_)
      · refine ex_iinc (v := nI (i + 1)) 0 [(7, .int (nI (i + 1))), (6, .int v), (5, .int xn), (0, .ref m), (1, .int xh), (2, .int xa), (3, .int xb), (4, .int xt)] dX10_goes_128 rfl (nI_1 i) (by decide) rfl ?_
        refine ex_goto (tgt := 40) dX10_goes_131 (by decide) ?_
        have hnh : ¬ ln_hit h0 a b (ln_at (s_ls s) i) := by
          rintro ⟨z1, z2, z3⟩
          first
            | (rw [if_pos (hh7.mpr z1)] at c54; exact absurd c54 (by decide))
            | (have z4 := nI_le z2 (by omega); rw [← h6, ← hxb] at z4; simp only [i_lt, i_le] at *; omega)
            | (have z4 := nI_le z3 (by omega); rw [← h7, ← hxa] at z4; simp only [i_lt, i_le] at *; omega)
        refine ex_lv [0, 1, 2, 3, 4, 5, 6, 7] rfl ?_
        refine ih (i + 1) _ (by omega) (by omega) ?_
        rw [gm_1]
        rw [if_neg hnh]; exact hv
      · refine ex_aload_n dX10_goes_57 3 rfl ?_
        refine ex_getR (b := ad 6) dX10_goes_58 fl_X10_17 hB.1.1 hB.1.2 (mb_6 hB).1 ?_
        refine ex_iload dX10_goes_61 0 rfl ?_
        refine ex_iald (j := i) dX10_goes_63 (mb_6 hB).2.1 (mb_6 hB).2.2.1 rfl (Nat.lt_of_lt_of_eq (show i < 1500 by omega) (mb_6 hB).2.2.2.symm) (show i < 2 ^ 31 by omega) ?_
        refine ex_iload_n dX10_goes_64 6 rfl ?_
        refine ex_icmp_gt (tgt := 128) dX10_goes_65 (by decide) (fun c65 => ?_) (fun c65 => ?_)
        · refine ex_iinc (v := nI (i + 1)) 0 [(7, .int (nI (i + 1))), (6, .int v), (5, .int xn), (0, .ref m), (1, .int xh), (2, .int xa), (3, .int xb), (4, .int xt)] dX10_goes_128 rfl (nI_1 i) (by decide) rfl ?_
          refine ex_goto (tgt := 40) dX10_goes_131 (by decide) ?_
          have hnh : ¬ ln_hit h0 a b (ln_at (s_ls s) i) := by
            rintro ⟨z1, z2, z3⟩
            first
              | (rw [if_pos (hh7.mpr z1)] at c54; exact absurd c54 (by decide))
              | (have z4 := nI_le z2 (by omega); rw [← h6, ← hxb] at z4; simp only [i_lt, i_le] at *; omega)
              | (have z4 := nI_le z3 (by omega); rw [← h7, ← hxa] at z4; simp only [i_lt, i_le] at *; omega)
          refine ex_lv [0, 1, 2, 3, 4, 5, 6, 7] rfl ?_
          refine ih (i + 1) _ (by omega) (by omega) ?_
          rw [gm_1]
          rw [if_neg hnh]; exact hv
        · refine ex_aload_n dX10_goes_68 3 rfl ?_
          refine ex_getR (b := ad 7) dX10_goes_69 fl_X10_21 hB.1.1 hB.1.2 (mb_7 hB).1 ?_
          refine ex_iload dX10_goes_72 0 rfl ?_
          refine ex_iald (j := i) dX10_goes_74 (mb_7 hB).2.1 (mb_7 hB).2.2.1 rfl (Nat.lt_of_lt_of_eq (show i < 1500 by omega) (mb_7 hB).2.2.2.symm) (show i < 2 ^ 31 by omega) ?_
          refine ex_iload_n dX10_goes_75 5 rfl ?_
          refine ex_icmp_lt (tgt := 128) dX10_goes_76 (by decide) (fun c76 => ?_) (fun c76 => ?_)
          · refine ex_iinc (v := nI (i + 1)) 0 [(7, .int (nI (i + 1))), (6, .int v), (5, .int xn), (0, .ref m), (1, .int xh), (2, .int xa), (3, .int xb), (4, .int xt)] dX10_goes_128 rfl (nI_1 i) (by decide) rfl ?_
            refine ex_goto (tgt := 40) dX10_goes_131 (by decide) ?_
            have hnh : ¬ ln_hit h0 a b (ln_at (s_ls s) i) := by
              rintro ⟨z1, z2, z3⟩
              first
                | (rw [if_pos (hh7.mpr z1)] at c54; exact absurd c54 (by decide))
                | (have z4 := nI_le z2 (by omega); rw [← h6, ← hxb] at z4; simp only [i_lt, i_le] at *; omega)
                | (have z4 := nI_le z3 (by omega); rw [← h7, ← hxa] at z4; simp only [i_lt, i_le] at *; omega)
            refine ex_lv [0, 1, 2, 3, 4, 5, 6, 7] rfl ?_
            refine ih (i + 1) _ (by omega) (by omega) ?_
            rw [gm_1]
            rw [if_neg hnh]; exact hv
          · refine ex_iload dX10_goes_79 1 rfl ?_
            refine ex_aload_n dX10_goes_81 3 rfl ?_
            refine ex_getR (b := ad 6) dX10_goes_82 fl_X10_17 hB.1.1 hB.1.2 (mb_6 hB).1 ?_
            refine ex_iload dX10_goes_85 0 rfl ?_
            refine ex_iald (j := i) dX10_goes_87 (mb_6 hB).2.1 (mb_6 hB).2.2.1 rfl (Nat.lt_of_lt_of_eq (show i < 1500 by omega) (mb_6 hB).2.2.2.symm) (show i < 2 ^ 31 by omega) ?_
            refine ex_iload_n dX10_goes_88 5 rfl ?_
            refine ex_icmp_ge (tgt := 96) dX10_goes_89 (by decide) (fun c89 => ?_) (fun c89 => ?_)
            · refine ex_iconst (v := 0) dX10_goes_96 (by decide) ?_
              refine ex_aload_n dX10_goes_97 3 rfl ?_
              refine ex_getR (b := ad 7) dX10_goes_98 fl_X10_21 hB.1.1 hB.1.2 (mb_7 hB).1 ?_
              refine ex_iload dX10_goes_101 0 rfl ?_
              refine ex_iald (j := i) dX10_goes_103 (mb_7 hB).2.1 (mb_7 hB).2.2.1 rfl (Nat.lt_of_lt_of_eq (show i < 1500 by omega) (mb_7 hB).2.2.2.symm) (show i < 2 ^ 31 by omega) ?_
              refine ex_iload_n dX10_goes_104 6 rfl ?_
              refine ex_icmp_le (tgt := 112) dX10_goes_105 (by decide) (fun c105 => ?_) (fun c105 => ?_)
              · refine ex_iconst (v := 0) dX10_goes_112 (by decide) ?_
                refine ex_iadd dX10_goes_113 ?_
                refine ex_iload dX10_goes_114 7 rfl ?_
                refine ex_if_lt (tgt := 123) dX10_goes_116 (by decide) (fun c116 => ?_) (fun c116 => ?_)
                · refine ex_iconst (v := 0) dX10_goes_123 (by decide) ?_
                  refine ex_iadd dX10_goes_124 ?_
                  refine ex_iadd dX10_goes_125 ?_
                  refine ex_istore [(6, .int (v + ((0 + 0) + 0))), (7, .int (nI i)), (5, .int xn), (0, .ref m), (1, .int xh), (2, .int xa), (3, .int xb), (4, .int xt)] dX10_goes_126 (by decide) rfl ?_
                  refine ex_iinc (v := nI (i + 1)) 1 [(7, .int (nI (i + 1))), (6, .int (v + ((0 + 0) + 0))), (5, .int xn), (0, .ref m), (1, .int xh), (2, .int xa), (3, .int xb), (4, .int xt)] dX10_goes_128 rfl (nI_1 i) (by decide) rfl ?_
                  refine ex_goto (tgt := 40) dX10_goes_131 (by decide) ?_
                  have hht : ln_hit h0 a b (ln_at (s_ls s) i) := by
                    refine ⟨?_, (nI_leI (by omega) (by omega)).mp (by rw [← h6, ← hxb]; simp only [i_lt, i_le] at *; omega), (nI_leI (by omega) (by omega)).mp (by rw [← h7, ← hxa]; simp only [i_lt, i_le] at *; omega)⟩
                    by_cases z : hs_I S1 (ad 10) i = -1 ∧ hs_I S1 (ad 8) i = xh
                    · exact hh7.mp z
                    · rw [if_neg z] at c54; exact absurd rfl c54
                  refine ex_lv [0, 1, 2, 3, 4, 5, 6, 7] rfl ?_
                  refine ih (i + 1) _ (by omega) (by omega) ?_
                  rw [gm_1]
                  rw [if_pos hht, lc_len, hv, ← nI_add]
                  congr 1
                  rw [if_neg (fun z => by have z2 := nI_lt z (by omega); rw [← h6, ← hxa] at z2; simp only [i_lt, i_le] at *; omega), if_neg (fun z => by have z2 := nI_lt z (by omega); rw [← h7, ← hxb] at z2; simp only [i_lt, i_le] at *; omega), if_pos (by cases q : to with | none => rfl | some t => exact absurd c116 (by rw [hxt, q]; exact nI_pos (by have := hto t q; omega)))]
                  rfl
                · refine ex_iconst (v := 1) dX10_goes_119 (by decide) ?_
                  refine ex_goto (tgt := 124) dX10_goes_120 (by decide) ?_
                  refine ex_iadd dX10_goes_124 ?_
                  refine ex_iadd dX10_goes_125 ?_
                  refine ex_istore [(6, .int (v + ((0 + 0) + 1))), (7, .int (nI i)), (5, .int xn), (0, .ref m), (1, .int xh), (2, .int xa), (3, .int xb), (4, .int xt)] dX10_goes_126 (by decide) rfl ?_
                  refine ex_iinc (v := nI (i + 1)) 1 [(7, .int (nI (i + 1))), (6, .int (v + ((0 + 0) + 1))), (5, .int xn), (0, .ref m), (1, .int xh), (2, .int xa), (3, .int xb), (4, .int xt)] dX10_goes_128 rfl (nI_1 i) (by decide) rfl ?_
                  refine ex_goto (tgt := 40) dX10_goes_131 (by decide) ?_
                  have hht : ln_hit h0 a b (ln_at (s_ls s) i) := by
                    refine ⟨?_, (nI_leI (by omega) (by omega)).mp (by rw [← h6, ← hxb]; simp only [i_lt, i_le] at *; omega), (nI_leI (by omega) (by omega)).mp (by rw [← h7, ← hxa]; simp only [i_lt, i_le] at *; omega)⟩
                    by_cases z : hs_I S1 (ad 10) i = -1 ∧ hs_I S1 (ad 8) i = xh
                    · exact hh7.mp z
                    · rw [if_neg z] at c54; exact absurd rfl c54
                  refine ex_lv [0, 1, 2, 3, 4, 5, 6, 7] rfl ?_
                  refine ih (i + 1) _ (by omega) (by omega) ?_
                  rw [gm_1]
                  rw [if_pos hht, lc_len, hv, ← nI_add]
                  congr 1
                  rw [if_neg (fun z => by have z2 := nI_lt z (by omega); rw [← h6, ← hxa] at z2; simp only [i_lt, i_le] at *; omega), if_neg (fun z => by have z2 := nI_lt z (by omega); rw [← h7, ← hxb] at z2; simp only [i_lt, i_le] at *; omega), if_neg (fun z => c116 (by rw [hxt, z]; decide))]
                  rfl
              · refine ex_iconst (v := 1) dX10_goes_108 (by decide) ?_
                refine ex_goto (tgt := 113) dX10_goes_109 (by decide) ?_
                refine ex_iadd dX10_goes_113 ?_
                refine ex_iload dX10_goes_114 7 rfl ?_
                refine ex_if_lt (tgt := 123) dX10_goes_116 (by decide) (fun c116 => ?_) (fun c116 => ?_)
                · refine ex_iconst (v := 0) dX10_goes_123 (by decide) ?_
                  refine ex_iadd dX10_goes_124 ?_
                  refine ex_iadd dX10_goes_125 ?_
                  refine ex_istore [(6, .int (v + ((0 + 1) + 0))), (7, .int (nI i)), (5, .int xn), (0, .ref m), (1, .int xh), (2, .int xa), (3, .int xb), (4, .int xt)] dX10_goes_126 (by decide) rfl ?_
                  refine ex_iinc (v := nI (i + 1)) 1 [(7, .int (nI (i + 1))), (6, .int (v + ((0 + 1) + 0))), (5, .int xn), (0, .ref m), (1, .int xh), (2, .int xa), (3, .int xb), (4, .int xt)] dX10_goes_128 rfl (nI_1 i) (by decide) rfl ?_
                  refine ex_goto (tgt := 40) dX10_goes_131 (by decide) ?_
                  have hht : ln_hit h0 a b (ln_at (s_ls s) i) := by
                    refine ⟨?_, (nI_leI (by omega) (by omega)).mp (by rw [← h6, ← hxb]; simp only [i_lt, i_le] at *; omega), (nI_leI (by omega) (by omega)).mp (by rw [← h7, ← hxa]; simp only [i_lt, i_le] at *; omega)⟩
                    by_cases z : hs_I S1 (ad 10) i = -1 ∧ hs_I S1 (ad 8) i = xh
                    · exact hh7.mp z
                    · rw [if_neg z] at c54; exact absurd rfl c54
                  refine ex_lv [0, 1, 2, 3, 4, 5, 6, 7] rfl ?_
                  refine ih (i + 1) _ (by omega) (by omega) ?_
                  rw [gm_1]
                  rw [if_pos hht, lc_len, hv, ← nI_add]
                  congr 1
                  rw [if_neg (fun z => by have z2 := nI_lt z (by omega); rw [← h6, ← hxa] at z2; simp only [i_lt, i_le] at *; omega), if_pos ((nI_ltI (by omega) (by omega)).mp (by rw [← h7, ← hxb]; simp only [i_lt, i_le] at *; omega)), if_pos (by cases q : to with | none => rfl | some t => exact absurd c116 (by rw [hxt, q]; exact nI_pos (by have := hto t q; omega)))]
                  rfl
                · refine ex_iconst (v := 1) dX10_goes_119 (by decide) ?_
                  refine ex_goto (tgt := 124) dX10_goes_120 (by decide) ?_
                  refine ex_iadd dX10_goes_124 ?_
                  refine ex_iadd dX10_goes_125 ?_
                  refine ex_istore [(6, .int (v + ((0 + 1) + 1))), (7, .int (nI i)), (5, .int xn), (0, .ref m), (1, .int xh), (2, .int xa), (3, .int xb), (4, .int xt)] dX10_goes_126 (by decide) rfl ?_
                  refine ex_iinc (v := nI (i + 1)) 1 [(7, .int (nI (i + 1))), (6, .int (v + ((0 + 1) + 1))), (5, .int xn), (0, .ref m), (1, .int xh), (2, .int xa), (3, .int xb), (4, .int xt)] dX10_goes_128 rfl (nI_1 i) (by decide) rfl ?_
                  refine ex_goto (tgt := 40) dX10_goes_131 (by decide) ?_
                  have hht : ln_hit h0 a b (ln_at (s_ls s) i) := by
                    refine ⟨?_, (nI_leI (by omega) (by omega)).mp (by rw [← h6, ← hxb]; simp only [i_lt, i_le] at *; omega), (nI_leI (by omega) (by omega)).mp (by rw [← h7, ← hxa]; simp only [i_lt, i_le] at *; omega)⟩
                    by_cases z : hs_I S1 (ad 10) i = -1 ∧ hs_I S1 (ad 8) i = xh
                    · exact hh7.mp z
                    · rw [if_neg z] at c54; exact absurd rfl c54
                  refine ex_lv [0, 1, 2, 3, 4, 5, 6, 7] rfl ?_
                  refine ih (i + 1) _ (by omega) (by omega) ?_
                  rw [gm_1]
                  rw [if_pos hht, lc_len, hv, ← nI_add]
                  congr 1
                  rw [if_neg (fun z => by have z2 := nI_lt z (by omega); rw [← h6, ← hxa] at z2; simp only [i_lt, i_le] at *; omega), if_pos ((nI_ltI (by omega) (by omega)).mp (by rw [← h7, ← hxb]; simp only [i_lt, i_le] at *; omega)), if_neg (fun z => c116 (by rw [hxt, z]; decide))]
                  rfl
            · refine ex_iconst (v := 1) dX10_goes_92 (by decide) ?_
              refine ex_goto (tgt := 97) dX10_goes_93 (by decide) ?_
              refine ex_aload_n dX10_goes_97 3 rfl ?_
              refine ex_getR (b := ad 7) dX10_goes_98 fl_X10_21 hB.1.1 hB.1.2 (mb_7 hB).1 ?_
              refine ex_iload dX10_goes_101 0 rfl ?_
              refine ex_iald (j := i) dX10_goes_103 (mb_7 hB).2.1 (mb_7 hB).2.2.1 rfl (Nat.lt_of_lt_of_eq (show i < 1500 by omega) (mb_7 hB).2.2.2.symm) (show i < 2 ^ 31 by omega) ?_
              refine ex_iload_n dX10_goes_104 6 rfl ?_
              refine ex_icmp_le (tgt := 112) dX10_goes_105 (by decide) (fun c105 => ?_) (fun c105 => ?_)
              · refine ex_iconst (v := 0) dX10_goes_112 (by decide) ?_
                refine ex_iadd dX10_goes_113 ?_
                refine ex_iload dX10_goes_114 7 rfl ?_
                refine ex_if_lt (tgt := 123) dX10_goes_116 (by decide) (fun c116 => ?_) (fun c116 => ?_)
                · refine ex_iconst (v := 0) dX10_goes_123 (by decide) ?_
                  refine ex_iadd dX10_goes_124 ?_
                  refine ex_iadd dX10_goes_125 ?_
                  refine ex_istore [(6, .int (v + ((1 + 0) + 0))), (7, .int (nI i)), (5, .int xn), (0, .ref m), (1, .int xh), (2, .int xa), (3, .int xb), (4, .int xt)] dX10_goes_126 (by decide) rfl ?_
                  refine ex_iinc (v := nI (i + 1)) 1 [(7, .int (nI (i + 1))), (6, .int (v + ((1 + 0) + 0))), (5, .int xn), (0, .ref m), (1, .int xh), (2, .int xa), (3, .int xb), (4, .int xt)] dX10_goes_128 rfl (nI_1 i) (by decide) rfl ?_
                  refine ex_goto (tgt := 40) dX10_goes_131 (by decide) ?_
                  have hht : ln_hit h0 a b (ln_at (s_ls s) i) := by
                    refine ⟨?_, (nI_leI (by omega) (by omega)).mp (by rw [← h6, ← hxb]; simp only [i_lt, i_le] at *; omega), (nI_leI (by omega) (by omega)).mp (by rw [← h7, ← hxa]; simp only [i_lt, i_le] at *; omega)⟩
                    by_cases z : hs_I S1 (ad 10) i = -1 ∧ hs_I S1 (ad 8) i = xh
                    · exact hh7.mp z
                    · rw [if_neg z] at c54; exact absurd rfl c54
                  refine ex_lv [0, 1, 2, 3, 4, 5, 6, 7] rfl ?_
                  refine ih (i + 1) _ (by omega) (by omega) ?_
                  rw [gm_1]
                  rw [if_pos hht, lc_len, hv, ← nI_add]
                  congr 1
                  rw [if_pos ((nI_ltI (by omega) (by omega)).mp (by rw [← h6, ← hxa]; simp only [i_lt, i_le] at *; omega)), if_neg (fun z => by have z2 := nI_lt z (by omega); rw [← h7, ← hxb] at z2; simp only [i_lt, i_le] at *; omega), if_pos (by cases q : to with | none => rfl | some t => exact absurd c116 (by rw [hxt, q]; exact nI_pos (by have := hto t q; omega)))]
                  rfl
                · refine ex_iconst (v := 1) dX10_goes_119 (by decide) ?_
                  refine ex_goto (tgt := 124) dX10_goes_120 (by decide) ?_
                  refine ex_iadd dX10_goes_124 ?_
                  refine ex_iadd dX10_goes_125 ?_
                  refine ex_istore [(6, .int (v + ((1 + 0) + 1))), (7, .int (nI i)), (5, .int xn), (0, .ref m), (1, .int xh), (2, .int xa), (3, .int xb), (4, .int xt)] dX10_goes_126 (by decide) rfl ?_
                  refine ex_iinc (v := nI (i + 1)) 1 [(7, .int (nI (i + 1))), (6, .int (v + ((1 + 0) + 1))), (5, .int xn), (0, .ref m), (1, .int xh), (2, .int xa), (3, .int xb), (4, .int xt)] dX10_goes_128 rfl (nI_1 i) (by decide) rfl ?_
                  refine ex_goto (tgt := 40) dX10_goes_131 (by decide) ?_
                  have hht : ln_hit h0 a b (ln_at (s_ls s) i) := by
                    refine ⟨?_, (nI_leI (by omega) (by omega)).mp (by rw [← h6, ← hxb]; simp only [i_lt, i_le] at *; omega), (nI_leI (by omega) (by omega)).mp (by rw [← h7, ← hxa]; simp only [i_lt, i_le] at *; omega)⟩
                    by_cases z : hs_I S1 (ad 10) i = -1 ∧ hs_I S1 (ad 8) i = xh
                    · exact hh7.mp z
                    · rw [if_neg z] at c54; exact absurd rfl c54
                  refine ex_lv [0, 1, 2, 3, 4, 5, 6, 7] rfl ?_
                  refine ih (i + 1) _ (by omega) (by omega) ?_
                  rw [gm_1]
                  rw [if_pos hht, lc_len, hv, ← nI_add]
                  congr 1
                  rw [if_pos ((nI_ltI (by omega) (by omega)).mp (by rw [← h6, ← hxa]; simp only [i_lt, i_le] at *; omega)), if_neg (fun z => by have z2 := nI_lt z (by omega); rw [← h7, ← hxb] at z2; simp only [i_lt, i_le] at *; omega), if_neg (fun z => c116 (by rw [hxt, z]; decide))]
                  rfl
              · refine ex_iconst (v := 1) dX10_goes_108 (by decide) ?_
                refine ex_goto (tgt := 113) dX10_goes_109 (by decide) ?_
                refine ex_iadd dX10_goes_113 ?_
                refine ex_iload dX10_goes_114 7 rfl ?_
                refine ex_if_lt (tgt := 123) dX10_goes_116 (by decide) (fun c116 => ?_) (fun c116 => ?_)
                · refine ex_iconst (v := 0) dX10_goes_123 (by decide) ?_
                  refine ex_iadd dX10_goes_124 ?_
                  refine ex_iadd dX10_goes_125 ?_
                  refine ex_istore [(6, .int (v + ((1 + 1) + 0))), (7, .int (nI i)), (5, .int xn), (0, .ref m), (1, .int xh), (2, .int xa), (3, .int xb), (4, .int xt)] dX10_goes_126 (by decide) rfl ?_
                  refine ex_iinc (v := nI (i + 1)) 1 [(7, .int (nI (i + 1))), (6, .int (v + ((1 + 1) + 0))), (5, .int xn), (0, .ref m), (1, .int xh), (2, .int xa), (3, .int xb), (4, .int xt)] dX10_goes_128 rfl (nI_1 i) (by decide) rfl ?_
                  refine ex_goto (tgt := 40) dX10_goes_131 (by decide) ?_
                  have hht : ln_hit h0 a b (ln_at (s_ls s) i) := by
                    refine ⟨?_, (nI_leI (by omega) (by omega)).mp (by rw [← h6, ← hxb]; simp only [i_lt, i_le] at *; omega), (nI_leI (by omega) (by omega)).mp (by rw [← h7, ← hxa]; simp only [i_lt, i_le] at *; omega)⟩
                    by_cases z : hs_I S1 (ad 10) i = -1 ∧ hs_I S1 (ad 8) i = xh
                    · exact hh7.mp z
                    · rw [if_neg z] at c54; exact absurd rfl c54
                  refine ex_lv [0, 1, 2, 3, 4, 5, 6, 7] rfl ?_
                  refine ih (i + 1) _ (by omega) (by omega) ?_
                  rw [gm_1]
                  rw [if_pos hht, lc_len, hv, ← nI_add]
                  congr 1
                  rw [if_pos ((nI_ltI (by omega) (by omega)).mp (by rw [← h6, ← hxa]; simp only [i_lt, i_le] at *; omega)), if_pos ((nI_ltI (by omega) (by omega)).mp (by rw [← h7, ← hxb]; simp only [i_lt, i_le] at *; omega)), if_pos (by cases q : to with | none => rfl | some t => exact absurd c116 (by rw [hxt, q]; exact nI_pos (by have := hto t q; omega)))]
                  rfl
                · refine ex_iconst (v := 1) dX10_goes_119 (by decide) ?_
                  refine ex_goto (tgt := 124) dX10_goes_120 (by decide) ?_
                  refine ex_iadd dX10_goes_124 ?_
                  refine ex_iadd dX10_goes_125 ?_
                  refine ex_istore [(6, .int (v + ((1 + 1) + 1))), (7, .int (nI i)), (5, .int xn), (0, .ref m), (1, .int xh), (2, .int xa), (3, .int xb), (4, .int xt)] dX10_goes_126 (by decide) rfl ?_
                  refine ex_iinc (v := nI (i + 1)) 1 [(7, .int (nI (i + 1))), (6, .int (v + ((1 + 1) + 1))), (5, .int xn), (0, .ref m), (1, .int xh), (2, .int xa), (3, .int xb), (4, .int xt)] dX10_goes_128 rfl (nI_1 i) (by decide) rfl ?_
                  refine ex_goto (tgt := 40) dX10_goes_131 (by decide) ?_
                  have hht : ln_hit h0 a b (ln_at (s_ls s) i) := by
                    refine ⟨?_, (nI_leI (by omega) (by omega)).mp (by rw [← h6, ← hxb]; simp only [i_lt, i_le] at *; omega), (nI_leI (by omega) (by omega)).mp (by rw [← h7, ← hxa]; simp only [i_lt, i_le] at *; omega)⟩
                    by_cases z : hs_I S1 (ad 10) i = -1 ∧ hs_I S1 (ad 8) i = xh
                    · exact hh7.mp z
                    · rw [if_neg z] at c54; exact absurd rfl c54
                  refine ex_lv [0, 1, 2, 3, 4, 5, 6, 7] rfl ?_
                  refine ih (i + 1) _ (by omega) (by omega) ?_
                  rw [gm_1]
                  rw [if_pos hht, lc_len, hv, ← nI_add]
                  congr 1
                  rw [if_pos ((nI_ltI (by omega) (by omega)).mp (by rw [← h6, ← hxa]; simp only [i_lt, i_le] at *; omega)), if_pos ((nI_ltI (by omega) (by omega)).mp (by rw [← h7, ← hxb]; simp only [i_lt, i_le] at *; omega)), if_neg (fun z => c116 (by rw [hxt, z]; decide))]
                  rfl
set_option maxRecDepth 20000 in
set_option maxHeartbeats 2000000 in
theorem m_goes_l {g : gl_T} {S : hs_T} {n k m : Nat} {ad : Nat → Nat} {s : st_T} {h0 a b : Nat} {to : Option Nat} {xh xa xb xt xn : Int32} (hxh : xh = nI h0) (hxa : xa = nI a) (hxb : xb = nI b) (hxt : xt = eN to) (hh6 : h0 < 60) (hab : a ≤ b) (ha31 : a < 2 ^ 31) (hb31 : b < 2 ^ 31) (hto : ∀ t, to = some t → t < 60) {v : Int32} (hxn : xn = nI (s_ls s).length) (hl : (s_ls s).length + gm h0 a b (s_td s) to (s_ls s) (s_ls s).length ≤ 1500) {Po : ex_R} (hPo : ∀ S1, RM S1 m ad (w_ls s (gs h0 a b (s_td s) to (s_ls s) (s_ls s).length)) → MF S S1 m ad → hs_I S1 m 0 = hs_I S m 0 → Po (.inl (some (.int 1))) S1 n k) : ∀ t i S1, i ≤ (s_ls s).length → (s_ls s).length < i + t → RM S1 m ad (w_ls s (gs h0 a b (s_td s) to (s_ls s) i)) → MF S S1 m ad → hs_I S1 m 0 = hs_I S m 0 → ex_W g 2 mX10_goes Po 151 [(7, .int (nI i)), (6, .int v), (5, .int xn), (0, .ref m), (1, .int xh), (2, .int xa), (3, .int xb), (4, .int xt)] [] S1 n k := by
  intro t
  induction t with
  | zero => intro i S1 h1 h2; exact absurd h2 (by omega)
  | succ t ih =>
    intro i S1 hi1 hi2 h1 hF1 ht1
    obtain ⟨hB, hMS, hMH, hML, hMT, hMR, hMN, hMD, hMW⟩ := id h1
    refine ex_iload dX10_goes_151 0 rfl ?_
    refine ex_iload dX10_goes_153 2 rfl ?_
    refine ex_icmp_ge (tgt := 335) dX10_goes_155 (by decide) (fun c155 => ?_) (fun c155 => ?_)
    · have hil : i = (s_ls s).length := by have := (nI_leI (by omega) (by omega)).mp (hxn ▸ c155); omega
      refine ex_iconst (v := 1) dX10_goes_335 (by decide) ?_
      exact ex_irt rfl dX10_goes_336 (hPo S1 (hil ▸ h1) hF1 ht1)
    · have hil : i < (s_ls s).length := by
        rcases Nat.lt_or_ge i (s_ls s).length with q | q
        · exact q
        · exact absurd (by rw [hxn]; exact nI_le q (by omega)) c155
      obtain ⟨hok, h6, h7, h8, h9, h10⟩ := hML.2.2 i (show i < (gs h0 a b (s_td s) to (s_ls s) i).length by rw [gs_len]; omega)
      change ln_ok (ln_at (gs h0 a b (s_td s) to (s_ls s) i) i) at hok
      change hs_I S1 (ad 6) i = nI (ln_at (gs h0 a b (s_td s) to (s_ls s) i) i).1 at h6
      change hs_I S1 (ad 7) i = nI (ln_at (gs h0 a b (s_td s) to (s_ls s) i) i).2.1 at h7
      change hs_I S1 (ad 8) i = nI (ln_at (gs h0 a b (s_td s) to (s_ls s) i) i).2.2.1 at h8
      change hs_I S1 (ad 9) i = nI (ln_at (gs h0 a b (s_td s) to (s_ls s) i) i).2.2.2.1 at h9
      change hs_I S1 (ad 10) i = eN (ln_at (gs h0 a b (s_td s) to (s_ls s) i) i).2.2.2.2 at h10
      have hgi : ln_at (gs h0 a b (s_td s) to (s_ls s) i) i = ln_at (s_ls s) i := gs_at _ _ _ _ _ _ i i (Nat.le_refl _) hil
      have hiL : i < (gs h0 a b (s_td s) to (s_ls s) i).length := by rw [gs_len]; omega
      rw [hgi] at hok h6 h7 h8 h9 h10
      have hh7 : hs_I S1 (ad 10) i = -1 ∧ hs_I S1 (ad 8) i = xh ↔ (ln_at (s_ls s) i).2.2.2.2 = none ∧ (ln_at (s_ls s) i).2.2.1 = h0 := by
        constructor
        · rintro ⟨z1, z2⟩
          exact ⟨(eN_m1 hok.2.2.2.2).mp (h10.symm.trans z1), (nI_eq (by have := hok.2.2.1; omega) (by omega)).mp (h8.symm.trans (z2.trans hxh))⟩
        · rintro ⟨z1, z2⟩
          exact ⟨h10.trans ((eN_m1 hok.2.2.2.2).mpr z1), by rw [h8, z2, hxh]⟩
      obtain ⟨k1, k2, k3, k4, k5⟩ := id hok
      refine ex_aload_n dX10_goes_158 3 rfl ?_
      refine ex_iload dX10_goes_159 0 rfl ?_
      refine ex_iload_n dX10_goes_161 4 rfl ?_
      refine ex_cVr [.int (nI i), .int xh] [] dX10_goes_162 cV_X10_109 (m_goesOn g hB rfl (by omega)) hB.1.1 hB.1.2 rfl rfl rfl (by decide) (Nat.le_of_ble_eq_true rfl) rfl ?_
      refine ex_if_eq (tgt := 329) dX10_goes_165 (by decide) (fun c165 => ?_) (fun c165 => ?_)
      · refine ex_iinc (v := nI (i + 1)) 0 [(7, .int (nI (i + 1))), (6, .int v), (5, .int xn), (0, .ref m), (1, .int xh), (2, .int xa), (3, .int xb), (4, .int xt)] dX10_goes_329 rfl (nI_1 i) (by decide) rfl ?_
        refine ex_goto (tgt := 151) dX10_goes_332 (by decide) ?_
        have hnh : ¬ ln_hit h0 a b (ln_at (s_ls s) i) := by
          rintro ⟨z1, z2, z3⟩
          first
            | (rw [if_pos (hh7.mpr z1)] at c165; exact absurd c165 (by decide))
            | (have z4 := nI_le z2 (by omega); rw [← h6, ← hxb] at z4; simp only [i_lt, i_le] at *; omega)
            | (have z4 := nI_le z3 (by omega); rw [← h7, ← hxa] at z4; simp only [i_lt, i_le] at *; omega)
        refine ex_lv [0, 1, 2, 3, 4, 5, 6, 7] rfl ?_
        exact ih (i + 1) S1 (by omega) (by omega) (by rw [gs, if_neg hnh]; exact h1) hF1 ht1
      · refine ex_aload_n dX10_goes_168 3 rfl ?_
        refine ex_getR (b := ad 6) dX10_goes_169 fl_X10_17 hB.1.1 hB.1.2 (mb_6 hB).1 ?_
        refine ex_iload dX10_goes_172 0 rfl ?_
        refine ex_iald (j := i) dX10_goes_174 (mb_6 hB).2.1 (mb_6 hB).2.2.1 rfl (Nat.lt_of_lt_of_eq (show i < 1500 by omega) (mb_6 hB).2.2.2.symm) (show i < 2 ^ 31 by omega) ?_
        refine ex_iload_n dX10_goes_175 6 rfl ?_
        refine ex_icmp_gt (tgt := 329) dX10_goes_176 (by decide) (fun c176 => ?_) (fun c176 => ?_)
        · refine ex_iinc (v := nI (i + 1)) 0 [(7, .int (nI (i + 1))), (6, .int v), (5, .int xn), (0, .ref m), (1, .int xh), (2, .int xa), (3, .int xb), (4, .int xt)] dX10_goes_329 rfl (nI_1 i) (by decide) rfl ?_
          refine ex_goto (tgt := 151) dX10_goes_332 (by decide) ?_
          have hnh : ¬ ln_hit h0 a b (ln_at (s_ls s) i) := by
            rintro ⟨z1, z2, z3⟩
            first
              | (rw [if_pos (hh7.mpr z1)] at c165; exact absurd c165 (by decide))
              | (have z4 := nI_le z2 (by omega); rw [← h6, ← hxb] at z4; simp only [i_lt, i_le] at *; omega)
              | (have z4 := nI_le z3 (by omega); rw [← h7, ← hxa] at z4; simp only [i_lt, i_le] at *; omega)
          refine ex_lv [0, 1, 2, 3, 4, 5, 6, 7] rfl ?_
          exact ih (i + 1) S1 (by omega) (by omega) (by rw [gs, if_neg hnh]; exact h1) hF1 ht1
        · refine ex_aload_n dX10_goes_179 3 rfl ?_
          refine ex_getR (b := ad 7) dX10_goes_180 fl_X10_21 hB.1.1 hB.1.2 (mb_7 hB).1 ?_
          refine ex_iload dX10_goes_183 0 rfl ?_
          refine ex_iald (j := i) dX10_goes_185 (mb_7 hB).2.1 (mb_7 hB).2.2.1 rfl (Nat.lt_of_lt_of_eq (show i < 1500 by omega) (mb_7 hB).2.2.2.symm) (show i < 2 ^ 31 by omega) ?_
          refine ex_iload_n dX10_goes_186 5 rfl ?_
          refine ex_icmp_ge (tgt := 193) dX10_goes_187 (by decide) (fun c187 => ?_) (fun c187 => ?_)
          · refine ex_aload_n dX10_goes_193 3 rfl ?_
            refine ex_getR (b := ad 10) dX10_goes_194 fl_X10_30 hB.1.1 hB.1.2 (mb_10 hB).1 ?_
            refine ex_iload dX10_goes_197 0 rfl ?_
            refine ex_aload_n dX10_goes_199 3 rfl ?_
            refine ex_getI dX10_goes_200 fl_X10_102 hB.1.1 hB.1.2 ?_
            refine ex_iast (j := i) dX10_goes_203 (mb_10 hB).2.1 (mb_10 hB).2.2.1 rfl (Nat.lt_of_lt_of_eq (show i < 1500 by omega) (mb_10 hB).2.2.2.symm) (show i < 2 ^ 31 by omega) ?_
            have hht : ln_hit h0 a b (ln_at (s_ls s) i) := by
              refine ⟨?_, (nI_leI (by omega) (by omega)).mp (by rw [← h6, ← hxb]; simp only [i_lt, i_le] at *; omega), (nI_leI (by omega) (by omega)).mp (by rw [← h7, ← hxa]; simp only [i_lt, i_le] at *; omega)⟩
              by_cases z : hs_I S1 (ad 10) i = -1 ∧ hs_I S1 (ad 8) i = xh
              · exact hh7.mp z
              · rw [if_neg z] at c165; exact absurd rfl c165
            have hE := RM_end (s := w_ls s (gs h0 a b (s_td s) to (s_ls s) i)) h1 hiL (v := hs_I S1 m 2) hMS.1.1
            change RM _ m ad (w_ls s ((gs h0 a b (s_td s) to (s_ls s) i).set i (ln_end (ln_at (gs h0 a b (s_td s) to (s_ls s) i) i) (s_td s)))) at hE
            rw [hgi] at hE
            have hEF := MF_aI hF1 10 (by decide) i (hs_I S1 m 2)
            have hEt : hs_I (hs_sI S1 (ad 10) i (hs_I S1 m 2)) m 0 = hs_I S m 0 := by rw [mI_sa hB.2.2]; exact ht1
            generalize hs_sI S1 (ad 10) i (hs_I S1 m 2) = S2 at hE hEF hEt ⊢
            have hLe : ((gs h0 a b (s_td s) to (s_ls s) i).set i (ln_end (ln_at (s_ls s) i) (s_td s))).length = (s_ls s).length + gm h0 a b (s_td s) to (s_ls s) i := by rw [List.length_set, gs_len]
            have hLi : ln_at ((gs h0 a b (s_td s) to (s_ls s) i).set i (ln_end (ln_at (s_ls s) i) (s_td s))) i = ln_end (ln_at (s_ls s) i) (s_td s) := (gd_set _ _ _ _ _ hiL).trans (if_pos rfl)
            have hgm := gm_1 h0 a b (s_td s) to (s_ls s) i
            rw [if_pos hht] at hgm
            have hgm2 := su_mono (f := fun j => if ln_hit h0 a b (ln_at (s_ls s) j) then (lc a b (s_td s) to (ln_at (s_ls s) j)).length else 0) (show i + 1 ≤ (s_ls s).length from hil)
            change gm h0 a b (s_td s) to (s_ls s) (i + 1) ≤ gm h0 a b (s_td s) to (s_ls s) (s_ls s).length at hgm2
            have hlc : (lc a b (s_td s) to (ln_at (s_ls s) i)).length = (lc1 a (ln_at (s_ls s) i)).length + (lc2 b (ln_at (s_ls s) i)).length + (lc3 a b (s_td s) (ln_at (s_ls s) i) to).length := by unfold lc; rw [List.length_append, List.length_append]
            have hg1 : gs h0 a b (s_td s) to (s_ls s) (i + 1) = (gs h0 a b (s_td s) to (s_ls s) i).set i (ln_end (ln_at (s_ls s) i) (s_td s)) ++ lc a b (s_td s) to (ln_at (s_ls s) i) := by rw [gs, if_pos hht]
            generalize (gs h0 a b (s_td s) to (s_ls s) i).set i (ln_end (ln_at (s_ls s) i) (s_td s)) = L at hE hLe hLi hg1
            have hgt : ∀ (L2 : List li_T), ln_at (L ++ L2) i = ln_at L i := fun L2 => by unfold ln_at; rw [List.getD_eq_getElem?_getD, List.getD_eq_getElem?_getD, List.getElem?_append_left (by omega)]
            refine m_goes_1 (l := ln_end (ln_at (s_ls s) i) (s_td s)) hE (by omega) hLi hht.1.2 hxh hxa hxb hxt hab ha31 hb31 hto hht.2.1 hht.2.2 (by show _ + (lc1 a (ln_at (s_ls s) i)).length ≤ 1500; omega) (fun S3 h3 f3 t3 => ?_)
            refine m_goes_2 (l := ln_end (ln_at (s_ls s) i) (s_td s)) h3 (by simp; omega) ((hgt _).trans hLi) hht.1.2 hxh hxa hxb hxt hab ha31 hb31 hto hht.2.1 hht.2.2 (by rw [List.length_append]; show _ + (lc1 a (ln_at (s_ls s) i)).length + (lc2 b (ln_at (s_ls s) i)).length ≤ 1500; omega) (fun S4 h4 f4 t4 => ?_)
            rw [List.append_assoc] at h4
            refine m_goes_3 (l := ln_end (ln_at (s_ls s) i) (s_td s)) h4 (by simp; omega) ((hgt _).trans hLi) hht.1.2 hxh hxa hxb hxt hab ha31 hb31 hto hht.2.1 hht.2.2 (by rw [List.length_append, List.length_append]; show _ + ((lc1 a (ln_at (s_ls s) i)).length + (lc2 b (ln_at (s_ls s) i)).length) + (lc3 a b (s_td s) (ln_at (s_ls s) i) to).length ≤ 1500; omega) (fun S5 h5 f5 t5 => ?_)
            rw [List.append_assoc] at h5
            have h6' : RM S5 m ad (w_ls s (gs h0 a b (s_td s) to (s_ls s) (i + 1))) := by rw [hg1]; exact h5
            have hF5 := MF_tr hEF (MF_tr f3 (MF_tr f4 f5))
            have ht5 := t5.trans (t4.trans (t3.trans hEt))
            refine ex_iinc (v := nI (i + 1)) 0 [(7, .int (nI (i + 1))), (6, .int v), (5, .int xn), (0, .ref m), (1, .int xh), (2, .int xa), (3, .int xb), (4, .int xt)] dX10_goes_329 rfl (nI_1 i) (by decide) rfl ?_
            refine ex_goto (tgt := 151) dX10_goes_332 (by decide) ?_
            refine ex_lv [0, 1, 2, 3, 4, 5, 6, 7] rfl ?_
            exact ih (i + 1) S5 (by omega) (by omega) h6' hF5 ht5
          · refine ex_goto (tgt := 329) dX10_goes_190 (by decide) ?_
            refine ex_iinc (v := nI (i + 1)) 0 [(7, .int (nI (i + 1))), (6, .int v), (5, .int xn), (0, .ref m), (1, .int xh), (2, .int xa), (3, .int xb), (4, .int xt)] dX10_goes_329 rfl (nI_1 i) (by decide) rfl ?_
            refine ex_goto (tgt := 151) dX10_goes_332 (by decide) ?_
            have hnh : ¬ ln_hit h0 a b (ln_at (s_ls s) i) := by
              rintro ⟨z1, z2, z3⟩
              first
                | (rw [if_pos (hh7.mpr z1)] at c165; exact absurd c165 (by decide))
                | (have z4 := nI_le z2 (by omega); rw [← h6, ← hxb] at z4; simp only [i_lt, i_le] at *; omega)
                | (have z4 := nI_le z3 (by omega); rw [← h7, ← hxa] at z4; simp only [i_lt, i_le] at *; omega)
            refine ex_lv [0, 1, 2, 3, 4, 5, 6, 7] rfl ?_
            exact ih (i + 1) S1 (by omega) (by omega) (by rw [gs, if_neg hnh]; exact h1) hF1 ht1
