/-! what holds of every state: lines, wins, rules, bytes -/
theorem gd_me {α : Type} {l : List α} {j : Nat} {d : α} (h : j < l.length) : l.getD j d ∈ l := by
  rw [List.getD_eq_getElem?_getD, List.getElem?_eq_getElem h]; exact List.getElem_mem h
theorem mem_gd {α : Type} {l : List α} {x : α} (d : α) (h : x ∈ l) : ∃ j, j < l.length ∧ l.getD j d = x := by
  obtain ⟨j, hj, e⟩ := List.getElem_of_mem h
  exact ⟨j, hj, by rw [List.getD_eq_getElem?_getD, List.getElem?_eq_getElem hj]; exact e⟩
def LnP (sd hl td : Nat) (l : li_T) : Prop := l.2.1 < sd ∧ l.2.2.1 < hl ∧ l.2.2.2.1 ≤ td
theorem OQ_lp {s : st_T} (h : OQ s) : ∀ l ∈ s_ls s, LnP (s_sd s) (s_hs s).length (s_td s) l := fun l hl => by
  obtain ⟨j, hj, rfl⟩ := mem_gd (0, 0, 0, 0, none) hl
  exact h.1 j hj
theorem OQ_ls {s : st_T} (h : OQ s) {ls : List li_T} (hl : ∀ l ∈ ls, LnP (s_sd s) (s_hs s).length (s_td s) l) : OQ (w_ls s ls) := by
  obtain ⟨h1, h2, h3, h4, h5⟩ := h
  exact ⟨fun j hj => hl _ (gd_me hj), h2, h3, h4, h5⟩
theorem gs_P {sd hl td h a b : Nat} {to : Option Nat} {ls : List li_T} (ht : ∀ t, to = some t → t < hl) (hP : ∀ l ∈ ls, LnP sd hl td l) : ∀ i, i ≤ ls.length → ∀ l ∈ gs h a b td to ls i, LnP sd hl td l
  | 0, _ => hP
  | i + 1, hi => by
    have ih := gs_P (h := h) (a := a) (b := b) ht hP i (by omega)
    have hm : LnP sd hl td (ln_at ls i) := hP _ (gd_me (by omega))
    unfold gs
    split
    · next hh =>
      intro l hl'
      rcases List.mem_append.mp hl' with q | q
      · rcases List.mem_or_eq_of_mem_set q with q | q
        · exact ih l q
        · subst q; exact hm
      · unfold lc at q
        rcases List.mem_append.mp q with q | q
        · rcases List.mem_append.mp q with q | q
          · unfold lc1 at q
            split at q
            · have e := List.mem_singleton.mp q
              subst e
              refine ⟨?_, hm.2.1, hm.2.2⟩
              show a - 1 < sd
              have h1 := hh.2.2
              have h2 := hm.1
              omega
            · cases q
          · unfold lc2 at q
            split at q
            · have e := List.mem_singleton.mp q
              subst e
              exact ⟨hm.1, hm.2.1, hm.2.2⟩
            · cases q
        · cases to with
          | none => cases q
          | some t =>
            have e := List.mem_singleton.mp q
            subst e
            refine ⟨?_, ht t rfl, Nat.le_refl _⟩
            show min (ln_at ls i).2.1 b < sd
            exact Nat.lt_of_le_of_lt (Nat.min_le_left _ _) hm.1
    · exact ih
theorem hd_lt {s : st_T} {x : Int32} (h : hd_ok s x) (hl : (s_hs s).length ≤ 60) : x.toNatClampNeg < (s_hs s).length := by
  obtain ⟨j, hj, rfl⟩ := hd_of h hl
  rw [nI_clamp (by omega)]; exact hj
theorem OQ_goes {s : st_T} (h : OQ s) (h0 : Nat) (xa xb : Int32) (to : Option Nat) (ht : ∀ t, to = some t → t < (s_hs s).length) : OQ (sp_goes s h0 xa xb to).2 := by
  unfold sp_goes
  split
  · split
    · exact h
    · exact OQ_ls h (gs_P ht (OQ_lp h) _ (Nat.le_refl _))
  · exact h
theorem OQ_give {s : st_T} (h : OQ s) (hb : (s_hs s).length ≤ 60) (x xa xb y : Int32) : OQ (sp_give s x xa xb y).2.2 := by
  unfold sp_give
  split
  · next hh =>
    split
    · exact h
    · split
      · exact h
      · exact OQ_goes h _ _ _ _ (fun t e => by cases e; exact hd_lt hh.2 hb)
  · exact h
theorem OQ_cash {s : st_T} (h : OQ s) (x xa xb : Int32) : OQ (sp_cash s x xa xb).2.2 := by
  unfold sp_cash
  split
  · split
    · exact h
    · exact OQ_goes h _ _ _ _ (fun t e => by cases e)
  · exact h
theorem clamp_1 {y : Int32} (h : 1 ≤ y) : 1 ≤ y.toNatClampNeg := by
  have h1 : (1 : Int32).toInt ≤ y.toInt := (i_le _ _).mp h
  have h2 : (1 : Int32).toInt = 1 := by decide
  show 1 ≤ y.toInt.toNat
  omega
theorem OQ_buy {s : st_T} (h : OQ s) (hb : (s_hs s).length ≤ 60) (x y : Int32) : OQ (sp_buy s x y).2.2 := by
  unfold sp_buy
  split
  · next hx =>
    split
    · next hy =>
      split
      · exact h
      · split
        · exact h
        · split
          · exact h
          · obtain ⟨h1, h2, h3, h4, h5⟩ := h
            have hy1 := clamp_1 hy.1
            refine ⟨fun j hj => ?_, h2, h3, h4, h5⟩
            show (ln_at (s_ls s ++ [(s_sd s, s_sd s + y.toNatClampNeg - 1, x.toNatClampNeg, s_td s, none)]) j).2.1 < s_sd s + y.toNatClampNeg ∧ (ln_at (s_ls s ++ [(s_sd s, s_sd s + y.toNatClampNeg - 1, x.toNatClampNeg, s_td s, none)]) j).2.2.1 < (s_hs s).length ∧ (ln_at (s_ls s ++ [(s_sd s, s_sd s + y.toNatClampNeg - 1, x.toNatClampNeg, s_td s, none)]) j).2.2.2.1 ≤ s_td s
            have hj' : j < (s_ls s ++ [(s_sd s, s_sd s + y.toNatClampNeg - 1, x.toNatClampNeg, s_td s, none)]).length := hj
            simp only [List.length_append, List.length_cons, List.length_nil] at hj'
            rw [ln_app]
            by_cases q : j = (s_ls s).length
            · rw [if_pos q]
              exact ⟨by show s_sd s + y.toNatClampNeg - 1 < s_sd s + y.toNatClampNeg; omega, hd_lt hx hb, Nat.le_refl _⟩
            · rw [if_neg q]
              obtain ⟨a1, a2, a3⟩ := h1 j (by omega)
              exact ⟨by omega, a2, a3⟩
    · exact h
  · exact h
/-! wins -/
theorem wi_set (ws : List wi_T) (i : Nat) (w : wi_T) (j : Nat) (hi : i < ws.length) : wi_at (ws.set i w) j = if j = i then w else wi_at ws j := gd_set ws i w _ j hi
theorem ix_lt {x : Int32} {l : Nat} (h : ix_ok x l) (hl : l < 2 ^ 31) : x.toNatClampNeg < l := by
  obtain ⟨j, hj, rfl⟩ := ix_of h hl
  rw [nI_clamp (by omega)]; exact hj
theorem OQ_claim {s : st_T} (h : OQ s) (hb : (s_ws s).length ≤ 2000) (x : Int32) : OQ (sp_claim s x).2.2 := by
  unfold sp_claim
  split
  · next hx =>
    split
    · exact h
    · split
      · exact h
      · obtain ⟨h1, h2, h3, h4, h5⟩ := h
        have hi := ix_lt hx (by omega)
        generalize hiq : x.toNatClampNeg = i at hi ⊢
        generalize hw : wi_at (s_ws s) i = w
        have hw3 := h3 i hi
        rw [hw] at hw3
        refine ⟨fun j hj => ?_, h2, fun j hj => ?_, ?_, ?_⟩
        · obtain ⟨a1, a2, a3⟩ := h1 j hj
          exact ⟨a1, by show _ < ((s_hs s).set _ _).length; rw [List.length_set]; exact a2, a3⟩
        · have hj2 : j < (s_ws s).length := by have : j < ((s_ws s).set i (wi_st w 1)).length := hj; rwa [List.length_set] at this
          show wi_ok _ (wi_at ((s_ws s).set i (wi_st w 1)) j)
          rw [wi_set _ _ _ _ hi]
          split
          · obtain ⟨a1, a2, a3, a4, a5, a6, a7⟩ := hw3
            exact ⟨a1, a2, a3, a4, by show _ < ((s_hs s).set _ _).length; rw [List.length_set]; exact a5, a6, by show 1 ≤ 2; omega⟩
          · obtain ⟨a1, a2, a3, a4, a5, a6, a7⟩ := h3 j hj2
            exact ⟨a1, a2, a3, a4, by show _ < ((s_hs s).set _ _).length; rw [List.length_set]; exact a5, a6, a7⟩
        · show ((s_ws s).set i (wi_st w 1)).length ≤ _
          rw [List.length_set]; exact h4
        · show s_cr s + su (fun j => wi_op (wi_at ((s_ws s).set i (wi_st w 1)) j)) ((s_ws s).set i (wi_st w 1)).length ≤ 10000000000000000 * (s_ds s).length
          rw [List.length_set]
          refine Nat.le_trans (Nat.add_le_add_left (su_le2 (fun j _ => ?_)) _) h5
          rw [wi_set _ _ _ _ hi]
          split
          · exact Nat.zero_le _
          · exact Nat.le_refl _
  · exact h
theorem dw_or (h t : Nat) (ws : List wi_T) : ∀ i, i ≤ ws.length → ∀ j, wi_at (dw h t ws i) j = wi_at ws j ∨ wi_at (dw h t ws i) j = wi_ho (wi_at ws j) t
  | 0, _, _ => Or.inl rfl
  | i + 1, hi, j => by
    have ih := dw_or h t ws i (by omega) j
    unfold dw
    split
    · rw [wi_set _ _ _ _ (by rw [dw_len]; omega)]
      split
      · next e => subst e; exact Or.inr rfl
      · exact ih
    · exact ih
theorem OQ_died {s : st_T} (h : OQ s) (hb : (s_hs s).length ≤ 60) (x y : Int32) : OQ (sp_died s x y).2.2 := by
  unfold sp_died
  split
  · next hh =>
    split
    · exact h
    · split
      · exact h
      · split
        · exact h
        · have hy := hd_lt hh.2 hb
          have hx := hd_lt hh.1 hb
          have hL := gs_P (h := x.toNatClampNeg) (a := 0) (b := 1000000000) (to := some y.toNatClampNeg) (fun t e => by cases e; exact hy) (OQ_lp h) _ (Nat.le_refl _)
          obtain ⟨h1, h2, h3, h4, h5⟩ := h
          generalize gs x.toNatClampNeg 0 1000000000 (s_td s) (some y.toNatClampNeg) (s_ls s) (s_ls s).length = ls at hL ⊢
          have hD := dw_or x.toNatClampNeg y.toNatClampNeg (s_ws s) _ (Nat.le_refl _)
          have hDl := dw_len x.toNatClampNeg y.toNatClampNeg (s_ws s) (s_ws s).length
          generalize dw x.toNatClampNeg y.toNatClampNeg (s_ws s) (s_ws s).length = ws at hD hDl ⊢
          refine ⟨fun j hj => ?_, h2, fun j hj => ?_, ?_, ?_⟩
          · obtain ⟨a1, a2, a3⟩ := hL (ln_at ls j) (gd_me hj)
            exact ⟨a1, by show _ < ((s_hs s).set _ _).length; rw [List.length_set]; exact a2, a3⟩
          · have hj2 : j < ws.length := hj
            obtain ⟨a1, a2, a3, a4, a5, a6, a7⟩ := h3 j (by omega)
            show wi_ok _ (wi_at ws j)
            rcases hD j with e | e
            · rw [e]
              exact ⟨a1, a2, a3, a4, by show _ < ((s_hs s).set _ _).length; rw [List.length_set]; exact a5, a6, a7⟩
            · rw [e]
              exact ⟨a1, a2, a3, a4, by show y.toNatClampNeg < ((s_hs s).set _ _).length; rw [List.length_set]; exact hy, a6, a7⟩
          · show ws.length ≤ _
            rw [hDl]; exact h4
          · show s_cr s + su (fun j => wi_op (wi_at ws j)) ws.length ≤ 10000000000000000 * (s_ds s).length
            rw [hDl]
            refine Nat.le_trans (Nat.add_le_add_left (su_le2 (fun j _ => ?_)) _) h5
            rcases hD j with e | e
            · rw [e]; exact Nat.le_refl _
            · rw [e]; exact Nat.le_refl _
  · exact h
/-! rules -/
theorem p_rs_ok {b : Nat → Nat} {N : Nat} : ∀ (t : Nat) (cs : List cl_T) (p : ps_T), (p.2.1 = 0 → ∀ c ∈ cs, cl_ok c) → (p_rs b N t cs p).2.2.1 = 0 → ∀ c ∈ (p_rs b N t cs p).1, cl_ok c
  | 0, cs, p, h, h0 => h h0
  | t + 1, cs, p, h, h0 => by
    rw [p_rs] at h0 ⊢
    by_cases hc : p.2.1 = 0 ∧ p.1 < N
    · rw [if_pos hc] at h0 ⊢
      by_cases hl : cs.length = 10
      · rw [if_pos hl] at h0
        exact absurd h0 (p_wr_0 (by split <;> decide))
      · rw [if_neg hl] at h0 ⊢
        refine p_rs_ok t _ _ (fun e => ?_) h0
        intro c hm
        rcases List.mem_append.mp hm with hm | hm
        · exact h hc.1 c hm
        · have e2 := List.mem_singleton.mp hm
          subst e2
          exact (p_cl_0 (b := b) (N := N) (p := p) e).2
    · rw [if_neg hc] at h0 ⊢
      exact h h0
theorem ru_app (rs : List ru_T) (r : ru_T) (j : Nat) : ru_at (rs ++ [r]) j = if j = rs.length then r else ru_at rs j := gd_app rs r _ j
theorem OQ_rule {s : st_T} (h : OQ s) (x y : Int32) : OQ (sp_rule s x y).2.2 := by
  unfold sp_rule
  split
  · exact h
  · split
    · exact h
    · split
      · exact h
      · next hz =>
        obtain ⟨h1, h2, h3, h4, h5⟩ := h
        refine ⟨h1, fun j hj => ?_, h3, h4, h5⟩
        have hj2 : j < (s_rs s ++ [(y.toNatClampNeg, (p_all (s_tp s) x.toNatClampNeg).1)]).length := hj
        simp only [List.length_append, List.length_cons, List.length_nil] at hj2
        show ∀ c ∈ (ru_at (s_rs s ++ [(y.toNatClampNeg, (p_all (s_tp s) x.toNatClampNeg).1)]) j).2, cl_ok c
        rw [ru_app]
        split
        · exact p_rs_ok _ _ _ (fun _ c hc => absurd hc List.not_mem_nil) (Nat.eq_zero_of_not_pos hz)
        · exact h2 j (by omega)
/-! bytes -/
theorem fb1_b (v sh : Int32) : -128 ≤ (fb1 v sh).toInt ∧ (fb1 v sh).toInt < 128 := by
  unfold fb1
  rw [Int8.toInt_toInt32]
  exact ⟨Int8.le_toInt _, Int8.toInt_lt _⟩
theorem TB_of {s : st_T} (h : ∀ v ∈ s_tp s, -128 ≤ v.toInt ∧ v.toInt < 128) : TB s := fun j hj => h _ (gd_me hj)
theorem TB_to {s : st_T} (h : TB s) : ∀ v ∈ s_tp s, -128 ≤ v.toInt ∧ v.toInt < 128 := fun v hv => by
  obtain ⟨j, hj, rfl⟩ := mem_gd 0 hv
  exact h j hj
theorem TB_eq {s s' : st_T} (h : TB s) (e : s_tp s' = s_tp s) : TB s' := by unfold TB; rw [e]; exact h
theorem fb_b (v : Int32) : ∀ u ∈ fb v, -128 ≤ u.toInt ∧ u.toInt < 128 := by
  intro u hu
  unfold fb at hu
  rcases List.mem_cons.mp hu with rfl | hu
  · exact fb1_b _ _
  rcases List.mem_cons.mp hu with rfl | hu
  · exact fb1_b _ _
  rcases List.mem_cons.mp hu with rfl | hu
  · exact fb1_b _ _
  rcases List.mem_cons.mp hu with rfl | hu
  · exact fb1_b _ _
  cases hu
theorem TB_feed {s : st_T} (h : TB s) (a b c d e : Int32) : TB (sp_feed s a b c d e).2.2 := by
  unfold sp_feed
  split
  · exact h
  · refine TB_of ?_
    show ∀ v ∈ s_tp s ++ fb a ++ fb b ++ fb c ++ fb d ++ fb e, _
    intro v hv
    rcases List.mem_append.mp hv with hv | hv
    · rcases List.mem_append.mp hv with hv | hv
      · rcases List.mem_append.mp hv with hv | hv
        · rcases List.mem_append.mp hv with hv | hv
          · rcases List.mem_append.mp hv with hv | hv
            · exact TB_to h v hv
            · exact fb_b _ v hv
          · exact fb_b _ v hv
        · exact fb_b _ v hv
      · exact fb_b _ v hv
    · exact fb_b _ v hv
theorem TB_rule {s : st_T} (h : TB s) (x y : Int32) : TB (sp_rule s x y).2.2 := by
  unfold sp_rule
  split
  · exact h
  · split
    · exact h
    · split
      · exact fun j hj => absurd hj (Nat.not_lt_zero _)
      · exact fun j hj => absurd hj (Nat.not_lt_zero _)
theorem goes_tp (s : st_T) (h0 : Nat) (xa xb : Int32) (to : Option Nat) : s_tp (sp_goes s h0 xa xb to).2 = s_tp s := by
  unfold sp_goes
  split
  · split <;> rfl
  · rfl
theorem tp_holder (s : st_T) : s_tp (sp_holder s).2.2 = s_tp s := by unfold sp_holder; split <;> rfl
theorem tp_wait (s : st_T) (x : Int32) : s_tp (sp_wait s x).2.2 = s_tp s := by unfold sp_wait; split <;> rfl
theorem tp_noise (s : st_T) (x : Int32) : s_tp (sp_noise s x).2.2 = s_tp s := by unfold sp_noise; split <;> rfl
theorem tp_buy (s : st_T) (x y : Int32) : s_tp (sp_buy s x y).2.2 = s_tp s := by unfold sp_buy; (repeat' split) <;> rfl
theorem tp_give (s : st_T) (x xa xb y : Int32) : s_tp (sp_give s x xa xb y).2.2 = s_tp s := by
  unfold sp_give; (repeat' split) <;> first | rfl | exact goes_tp _ _ _ _ _
theorem tp_cash (s : st_T) (x xa xb : Int32) : s_tp (sp_cash s x xa xb).2.2 = s_tp s := by
  unfold sp_cash
  split
  · split
    · rfl
    · exact goes_tp _ _ _ _ _
  · rfl
theorem tp_died (s : st_T) (x y : Int32) : s_tp (sp_died s x y).2.2 = s_tp s := by unfold sp_died; (repeat' split) <;> rfl
theorem tp_claim (s : st_T) (x : Int32) : s_tp (sp_claim s x).2.2 = s_tp s := by unfold sp_claim; (repeat' split) <;> rfl
theorem tp_draw (s : st_T) (ys : List Nat) : s_tp (sp_draw s ys).2.2 = s_tp s := by unfold sp_draw; (repeat' split) <;> rfl
/-! a draw -/
theorem lp_ati (td : Nat) (ws : List wi_T) : ∀ i, i ≤ ws.length → ∀ j, j < i → wi_at (lp td ws i) j = if wi_la td (wi_at ws j) then wi_st (wi_at ws j) 2 else wi_at ws j
  | 0, _, j, hj => absurd hj (Nat.not_lt_zero _)
  | i + 1, hi, j, hj => by
    have hl := lp_len td ws i
    by_cases q : j = i
    · subst q
      rw [lp]
      split
      · rw [wi_set _ _ _ _ (by omega), if_pos rfl]
      · exact lp_at td ws j j (Nat.le_refl _)
    · have ih := lp_ati td ws i (by omega) j (by omega)
      rw [lp]
      split
      · rw [wi_set _ _ _ _ (by omega), if_neg q]; exact ih
      · exact ih
theorem lp_sum (td : Nat) (ws : List wi_T) : lpc td ws ws.length + su (fun j => wi_op (wi_at (lp td ws ws.length) j)) ws.length = su (fun j => wi_op (wi_at ws j)) ws.length := by
  have hs : ∀ n, su (fun j => if wi_la td (wi_at ws j) then (wi_at ws j).2.2.2.2.1 else 0) n + su (fun j => if wi_la td (wi_at ws j) then 0 else wi_op (wi_at ws j)) n = su (fun j => wi_op (wi_at ws j)) n := by
    intro n
    induction n with
    | zero => rfl
    | succ n ih =>
      simp only [su]
      by_cases q : wi_la td (wi_at ws n)
      · have e : wi_op (wi_at ws n) = (wi_at ws n).2.2.2.2.1 := by unfold wi_op; rw [if_pos q.1]
        rw [if_pos q, if_pos q, e]; omega
      · rw [if_neg q, if_neg q]; omega
  rw [← hs]
  refine congrArg (lpc td ws ws.length + ·) (su_congr (fun j hj => ?_))
  rw [lp_ati td ws _ (Nat.le_refl _) j hj]
  split
  · rfl
  · rfl
/-- what holds while prizes are told -/
def PzI (s' : st_T) (w0 C : Nat) (a : aw_T) : Prop := a.1 ≤ 50 ∧ a.2.2.length = w0 + a.1 ∧ (∀ w ∈ a.2.2, wi_ok s' w) ∧ a.2.1 + su (fun j => wi_op (wi_at a.2.2 j)) a.2.2.length = C
theorem PzI_aw {s' : st_T} {w0 C : Nat} {a : aw_T} {f : Nat → Nat × Nat} {dl td pr : Nat} (h : PzI s' w0 C a) (h1 : pr ≤ a.2.1) (h2 : a.1 < 50) (hw : wi_ok s' (dl, td, (f a.1).1, (f a.1).2, pr, 0)) : PzI s' w0 C (aw f dl td pr a) := by
  obtain ⟨b1, b2, b3, b4⟩ := h
  refine ⟨by show a.1 + 1 ≤ 50; omega, ?_, ?_, ?_⟩
  · show (a.2.2 ++ [_]).length = w0 + (a.1 + 1)
    simp only [List.length_append, List.length_cons, List.length_nil]; omega
  · intro w hm
    rcases List.mem_append.mp hm with hm | hm
    · exact b3 w hm
    · have e := List.mem_singleton.mp hm
      subst e; exact hw
  · show a.2.1 - pr + su (fun j => wi_op (wi_at (a.2.2 ++ [(dl, td, (f a.1).1, (f a.1).2, pr, 0)]) j)) (a.2.2 ++ [(dl, td, (f a.1).1, (f a.1).2, pr, 0)]).length = C
    simp only [List.length_append, List.length_cons, List.length_nil]
    show a.2.1 - pr + (su (fun j => wi_op (wi_at (a.2.2 ++ [(dl, td, (f a.1).1, (f a.1).2, pr, 0)]) j)) a.2.2.length + wi_op (wi_at (a.2.2 ++ [(dl, td, (f a.1).1, (f a.1).2, pr, 0)]) a.2.2.length)) = C
    have e1 : wi_at (a.2.2 ++ [(dl, td, (f a.1).1, (f a.1).2, pr, 0)]) a.2.2.length = (dl, td, (f a.1).1, (f a.1).2, pr, 0) := (gd_app a.2.2 (dl, td, (f a.1).1, (f a.1).2, pr, 0) (0, 0, 0, 0, 0, 0) a.2.2.length).trans (if_pos rfl)
    have e2 : su (fun j => wi_op (wi_at (a.2.2 ++ [(dl, td, (f a.1).1, (f a.1).2, pr, 0)]) j)) a.2.2.length = su (fun j => wi_op (wi_at a.2.2 j)) a.2.2.length := su_congr (fun j hj => congrArg wi_op ((gd_app a.2.2 (dl, td, (f a.1).1, (f a.1).2, pr, 0) (0, 0, 0, 0, 0, 0) j).trans (if_neg (by omega))))
    rw [e1, e2]
    show a.2.1 - pr + (su (fun j => wi_op (wi_at a.2.2 j)) a.2.2.length + pr) = C
    omega
theorem PzI_pz {s' : st_T} {w0 C : Nat} {f : Nat → Nat × Nat} {dl td Mm pr : Nat} (hw : ∀ n, wi_ok s' (dl, td, (f n).1, (f n).2, pr, 0)) : ∀ (t : Nat) (a : aw_T), PzI s' w0 C a → PzI s' w0 C (pz f dl td Mm pr t a)
  | 0, _, h => h
  | t + 1, a, h => by
    rw [pz]
    split
    · next q => exact PzI_pz hw t _ (PzI_aw h q.1 q.2.1 (hw _))
    · exact h
theorem PzI_pzs {s' : st_T} {w0 C : Nat} {f : Nat → Nat × Nat} {dl td Mm fund : Nat} {cs : List cl_T} {a : aw_T} (hw : ∀ i, i < cs.length → ∀ n, wi_ok s' (dl, td, (f n).1, (f n).2, (cl_at cs i).2.1, 0)) (h : PzI s' w0 C a) : ∀ i, i ≤ cs.length → PzI s' w0 C (pzs f dl td Mm fund cs a i)
  | 0, _ => h
  | i + 1, hi => by
    rw [pzs]
    exact PzI_pz (hw i (by omega)) _ _ (PzI_pzs hw h i (by omega))
theorem wi_nx {s s' : st_T} {d : dr_T} (hd : s_ds s' = s_ds s ++ [d]) (ht : s_td s' = s_td s) (hh : s_hs s' = s_hs s) {w : wi_T} (h : wi_ok s w) : wi_ok s' w := by
  obtain ⟨a1, a2, a3, a4, a5, a6, a7⟩ := h
  unfold wi_ok
  rw [hd, ht, hh, gd_app, if_neg (by omega)]
  exact ⟨by simp only [List.length_append, List.length_cons, List.length_nil]; omega, a2, a3, a4, a5, a6, a7⟩
set_option maxHeartbeats 2000000 in
theorem OQ_draw {s : st_T} {ys : List Nat} (hb : BD s) (hO : OK s) (hG : GO (s_ls s) ys) : OQ (sp_draw s ys).2.2 := by
  unfold sp_draw
  split
  · exact hO.2
  · next r hr0 =>
    have hr : r < (s_rs s).length := fo_lt _ _ _ _ hr0
    split
    · exact hO.2
    · split
      · exact hO.2
      · next hM0 =>
        split
        · exact hO.2
        · next hd40 =>
          have hdl : (s_ds s).length < 40 := by have := hb.2.2.2.2.2.2.2.1; omega
          obtain ⟨hH, hF, hw5⟩ := d_bdc hb hO hG hr hdl
          have hM : 0 < d_M s ys r := Nat.pos_of_ne_zero hM0
          have hcl := cl_all hO hr
          have hfu := fu_le hH hcl _ (Nat.le_refl _)
          have h10 : (ru_at (s_rs s) r).2.length ≤ 10 := (hb.2.2.2.2.2.1.2 r hr).2
          have hf : ∀ n, (d_f s ys r n).1 < 1000000000 ∧ (d_f s ys r n).2 < (s_hs s).length := fun n => by
            obtain ⟨j, hj, q, hq, e⟩ := bo_in (ls := s_ls s) (zs := d_zs s ys r) (q := (d_st s ys r + n * d_sp s ys r) % d_M s ys r) (Nat.mod_lt _ hM)
            have hjl : j < (s_ls s).length := ((hG.2 _).mp (List.mem_filter.mp hj).1).1
            have h1 := hb.2.2.2.1.2 j hjl
            have h2 := (hO.2.1 j hjl).2.1
            unfold d_f
            rw [e]
            refine ⟨?_, h2⟩
            show (ln_at (s_ls s) j).1 + q < 1000000000
            unfold ln_sz at hq
            have := h1.1
            have := h1.2.1
            omega
          obtain ⟨_, h1, h2, h3, h4, h5⟩ := id hO
          have hds : s_ds (d_s s ys r) = s_ds s ++ [d_dr s ys r] := rfl
          have hls := lp_sum (s_td s) (s_ws s)
          have hI : PzI (d_s s ys r) (s_ws s).length (d_F s r + su (fun j => wi_op (wi_at (d_ws s) j)) (s_ws s).length) (d_a s ys r) := by
            unfold d_a
            refine PzI_pzs (fun i hi n => ?_) ?_ _ (Nat.le_refl _)
            · obtain ⟨f1, f2⟩ := hf n
              refine ⟨?_, Nat.le_refl _, ?_, f1, f2, (cl_in hcl hi).2.1, Nat.zero_le _⟩
              · rw [hds]; simp
              · rw [hds, gd_app, if_pos rfl]; rfl
            · refine ⟨Nat.zero_le _, lp_len _ _ _, fun w hw => ?_, ?_⟩
              · obtain ⟨j, hj, rfl⟩ := mem_gd (0, 0, 0, 0, 0, 0) hw
                have hj2 : j < (s_ws s).length := by have : j < (d_ws s).length := hj; unfold d_ws at this; rwa [lp_len] at this
                refine wi_nx hds rfl rfl ?_
                show wi_ok s (wi_at (lp (s_td s) (s_ws s) (s_ws s).length) j)
                rw [lp_ati _ _ _ (Nat.le_refl _) j hj2]
                obtain ⟨a1, a2, a3, a4, a5, a6, a7⟩ := h3 j hj2
                split
                · exact ⟨a1, a2, a3, a4, a5, a6, Nat.le_refl _⟩
                · exact ⟨a1, a2, a3, a4, a5, a6, a7⟩
              · show d_F s r + su (fun j => wi_op (wi_at (d_ws s) j)) (d_ws s).length = _
                rw [show (d_ws s).length = (s_ws s).length from lp_len _ _ _]
          obtain ⟨i1, i2, i3, i4⟩ := hI
          refine ⟨h1, h2, fun j hj => i3 _ (gd_me hj), ?_, ?_⟩
          · show (d_a s ys r).2.2.length ≤ 50 * (s_ds s ++ [d_dr s ys r]).length
            simp only [List.length_append, List.length_cons, List.length_nil]
            omega
          · show (d_a s ys r).2.1 + su (fun j => wi_op (wi_at (d_a s ys r).2.2 j)) (d_a s ys r).2.2.length ≤ 10000000000000000 * (s_ds s ++ [d_dr s ys r]).length
            rw [i4]
            simp only [List.length_append, List.length_cons, List.length_nil]
            have e1 : d_F s r = s_cr s + lpc (s_td s) (s_ws s) (s_ws s).length + fu (d_H s) (ru_at (s_rs s) r).2 (ru_at (s_rs s) r).2.length := rfl
            have e2 : su (fun j => wi_op (wi_at (d_ws s) j)) (s_ws s).length = su (fun j => wi_op (wi_at (lp (s_td s) (s_ws s) (s_ws s).length) j)) (s_ws s).length := rfl
            omega
