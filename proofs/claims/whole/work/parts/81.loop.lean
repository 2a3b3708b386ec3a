theorem sub6 {L i : Nat} (hL : L ≤ 3072) (hi : i ≤ 4000) (h : ¬ nI L - 6 < nI i) : i + 6 ≤ L := by
  have h1 : ¬ (nI L - 6).toInt < (nI i).toInt := fun z => h ((i_lt _ _).mpr z)
  have e6 : (6 : Int32).toInt = 6 := by decide
  rw [Int32.toInt_sub, nI_toInt (by omega), nI_toInt (by omega), e6] at h1
  have h2 : ((L : Int) - 6).bmod (2 ^ 32) = (L : Int) - 6 := Int.bmod_eq_of_le (by omega) (by omega)
  rw [h2] at h1
  omega
set_option maxRecDepth 20000 in
set_option maxHeartbeats 4000000 in
theorem w_loop (g : gl_T) {b L : Nat} {xs : Nat → Int32} {x m o : Nat} {Po : ex_R} (hb : b < g.2.2.2.1) (hL2 : L ≤ 3072) (hPo : ∀ S n k, Po (.inl (some (.int 1))) S n k) : ∀ (f t : Nat) (S : hs_T) (n k : Nat), 6 * t ≤ 4000 → L < 6 * t + f → LI g x m o t S n k → eh_W (XL b L xs) g 13 mL_law Po 23 [(0, .ref b), (1, .ref x), (2, .ref m), (3, .ref o), (4, .int (nI (6 * t)))] [] S n k
  | 0, t, S, n, k, ht, hf, hI => by
    refine eh_iload dL_law_23 4 rfl ?_
    refine eh_aload_n dL_law_25 0 rfl ?_
    refine eh_slen (fun _ _ h => h) hb dL_law_26 ?_
    refine eh_bipush (v := 6) dL_law_27 (by decide) ?_
    refine eh_isub dL_law_29 ?_
    refine eh_icmp_gt (tgt := 1217) dL_law_30 (by decide) (fun c => ?_) (fun c => ?_)
    · refine eh_iconst (v := 1) dL_law_1217 (by decide) ?_
      exact eh_bret rfl (Or.inr rfl) dL_law_1218 (hPo _ _ _)
    · have := sub6 hL2 ht c
      omega
  | f + 1, t, S, n, k, ht, hf, hI => by
    refine eh_iload dL_law_23 4 rfl ?_
    refine eh_aload_n dL_law_25 0 rfl ?_
    refine eh_slen (fun _ _ h => h) hb dL_law_26 ?_
    refine eh_bipush (v := 6) dL_law_27 (by decide) ?_
    refine eh_isub dL_law_29 ?_
    refine eh_icmp_gt (tgt := 1217) dL_law_30 (by decide) (fun c => ?_) (fun c => ?_)
    · refine eh_iconst (v := 1) dL_law_1217 (by decide) ?_
      exact eh_bret rfl (Or.inr rfl) dL_law_1218 (hPo _ _ _)
    · have hL := sub6 hL2 ht c
      have kk : ∀ S' n' k', LI g x m o (t + 1) S' n' k' → eh_W (XL b L xs) g 13 mL_law Po 1211 [(0, .ref b), (1, .ref x), (2, .ref m), (3, .ref o), (4, .int (nI (6 * t)))] [] S' n' k' := fun S' n' k' hI' => by
        refine eh_iinc (v := nI (6 * (t + 1))) 4 [(4, .int (nI (6 * (t + 1)))), (0, .ref b), (1, .ref x), (2, .ref m), (3, .ref o)] dL_law_1211 rfl (nI_add (6 * t) 6) (by decide) rfl ?_
        refine eh_goto (tgt := 23) dL_law_1214 (by decide) ?_
        refine eh_lv [1, 2, 3, 4, 0] rfl ?_
        exact w_loop g hb hL2 hPo f (t + 1) S' n' k' (by omega) (by omega) hI'
      refine eh_aload_n dL_law_33 0 rfl ?_
      refine eh_iload dL_law_34 4 rfl ?_
      refine eh_sld (j := 6 * t) (fun _ _ h => h) hb dL_law_36 rfl (by omega) (by omega) ?_
      refine eh_bipush (v := 31) dL_law_37 (by decide) ?_
      refine eh_iand dL_law_39 ?_
      generalize xs (6 * t) &&& 31 = v
      by_cases hx : v.toInt < 0 ∨ 20 < v.toInt
      · refine eh_tableOut (tgt := 1211) dL_law_40 hx (by decide) ?_
        exact kk _ _ _ (LI_up hI)
      · have hsw1 : ¬ v.toInt < 0 := fun h => hx (Or.inl h)
        have hsw2 : ¬ 20 < v.toInt := fun h => hx (Or.inr h)
        rcases (show v = 0 ∨ v = 1 ∨ v = 2 ∨ v = 3 ∨ v = 4 ∨ v = 5 ∨ v = 6 ∨ v = 7 ∨ v = 8 ∨ v = 9 ∨ v = 10 ∨ v = 11 ∨ v = 12 ∨ v = 13 ∨ v = 14 ∨ v = 15 ∨ v = 16 ∨ v = 17 ∨ v = 18 ∨ v = 19 ∨ v = 20 by simp only [i_eq, Int32.reduceToInt]; omega) with rfl | rfl | rfl | rfl | rfl | rfl | rfl | rfl | rfl | rfl | rfl | rfl | rfl | rfl | rfl | rfl | rfl | rfl | rfl | rfl | rfl
        · refine eh_tableIn (tgt := 140) dL_law_40 hsw1 hsw2 rfl (by decide) ?_
          exact w_holder g hb hL hL2 hI kk
        · refine eh_tableIn (tgt := 184) dL_law_40 hsw1 hsw2 rfl (by decide) ?_
          exact w_buy g hb hL hL2 hI kk
        · refine eh_tableIn (tgt := 252) dL_law_40 hsw1 hsw2 rfl (by decide) ?_
          exact w_give g hb hL hL2 hI kk
        · refine eh_tableIn (tgt := 344) dL_law_40 hsw1 hsw2 rfl (by decide) ?_
          exact w_cash g hb hL hL2 hI kk
        · refine eh_tableIn (tgt := 424) dL_law_40 hsw1 hsw2 rfl (by decide) ?_
          exact w_died g hb hL hL2 hI kk
        · refine eh_tableIn (tgt := 492) dL_law_40 hsw1 hsw2 rfl (by decide) ?_
          exact w_held g hb hL hL2 hI kk
        · refine eh_tableIn (tgt := 529) dL_law_40 hsw1 hsw2 rfl (by decide) ?_
          exact w_has g hb hL hL2 hI kk
        · refine eh_tableIn (tgt := 585) dL_law_40 hsw1 hsw2 rfl (by decide) ?_
          exact w_line g hb hL hL2 hI kk
        · refine eh_tableIn (tgt := 653) dL_law_40 hsw1 hsw2 rfl (by decide) ?_
          exact w_wait g hb hL hL2 hI kk
        · refine eh_tableIn (tgt := 709) dL_law_40 hsw1 hsw2 rfl (by decide) ?_
          exact w_feed g hb hL hL2 hI kk
        · refine eh_tableIn (tgt := 782) dL_law_40 hsw1 hsw2 rfl (by decide) ?_
          exact w_rule g hb hL hL2 hI kk
        · refine eh_tableIn (tgt := 850) dL_law_40 hsw1 hsw2 rfl (by decide) ?_
          exact w_fault g hb hL hL2 hI kk
        · refine eh_tableIn (tgt := 863) dL_law_40 hsw1 hsw2 rfl (by decide) ?_
          exact w_force g hb hL hL2 hI kk
        · refine eh_tableIn (tgt := 888) dL_law_40 hsw1 hsw2 rfl (by decide) ?_
          exact w_noise g hb hL hL2 hI kk
        · refine eh_tableIn (tgt := 913) dL_law_40 hsw1 hsw2 rfl (by decide) ?_
          exact w_draw g hb hL hL2 hI kk
        · refine eh_tableIn (tgt := 926) dL_law_40 hsw1 hsw2 rfl (by decide) ?_
          exact w_drawn g hb hL hL2 hI kk
        · refine eh_tableIn (tgt := 993) dL_law_40 hsw1 hsw2 rfl (by decide) ?_
          exact w_win g hb hL hL2 hI kk
        · refine eh_tableIn (tgt := 1061) dL_law_40 hsw1 hsw2 rfl (by decide) ?_
          exact w_claim g hb hL hL2 hI kk
        · refine eh_tableIn (tgt := 1117) dL_law_40 hsw1 hsw2 rfl (by decide) ?_
          exact w_paid g hb hL hL2 hI kk
        · refine eh_tableIn (tgt := 1172) dL_law_40 hsw1 hsw2 rfl (by decide) ?_
          exact w_carried g hb hL hL2 hI kk
        · refine eh_tableIn (tgt := 1186) dL_law_40 hsw1 hsw2 rfl (by decide) ?_
          exact w_count g hb hL hL2 hI kk
theorem OQ_0 : OQ s_0 := ⟨fun j hj => absurd hj (Nat.not_lt_zero _), fun j hj => absurd hj (Nat.not_lt_zero _), fun j hj => absurd hj (Nat.not_lt_zero _), Nat.le_refl _, Nat.le_refl _⟩
theorem TB_0 : TB s_0 := fun j hj => absurd hj (Nat.not_lt_zero _)
/-- the start: the class, the reference, the row -/
theorem LI_0 {g : gl_T} {Sa Sc : hs_T} {ow : Nat → Nat} {x l tp nz m o n k : Nat} {ad : Nat → Nat} (hR : RC g Sa ow x l tp nz s_0 [] (fun _ => 0)) (hm : m ∉ hs_L Sa) (hM : RM Sc m ad s_0) (ha : ∀ q ∈ mb_T, ad q.1 ∉ hs_L (hs_new Sa m 10 0)) (hf : hs_fr (hs_new Sa m 10 0) Sc [m]) (ho : o ∉ hs_L Sc) (hn : n ≤ 100) (hk : k ≤ 30000) : LI g x m o 0 (hs_new Sc o 13 1) n k := by
  classical
  have hsub : ∀ y, y ∈ hs_L Sa → y ∈ hs_L (hs_new Sa m 10 0) ∧ y ≠ m := fun y hy => ⟨List.mem_append_left _ hy, fun z => hm (z ▸ hy)⟩
  have hco : ∀ y, y ∈ hs_L Sa → y ∈ hs_L Sc ∧ y ≠ o := fun y hy => ⟨(hf.1 y (hsub y hy).1).1, fun z => ho (z ▸ (hf.1 y (hsub y hy).1).1)⟩
  let ow9 : Nat → Nat := fun y => if y ∈ hs_L Sa then ow y else if y = o then 9 else 8
  have hC : CK ow ow9 [] [] Sa (hs_new Sc o 13 1) := by
    refine ⟨fun y hy => ?_, fun y hy _ => ?_, fun y hy _ => ?_⟩
    · obtain ⟨a1, a2⟩ := hsub y hy
      obtain ⟨b1, b2⟩ := hco y hy
      obtain ⟨c1, c2, c3⟩ := hf.1 y a1
      refine ⟨List.mem_append_left _ b1, ?_, ?_, if_pos hy⟩
      · exact ((va_up_ne _ _ b2).trans c2).trans (va_up_ne _ _ a2)
      · exact ((va_up_ne _ _ b2).trans c3).trans (va_up_ne _ _ a2)
    · obtain ⟨a1, a2⟩ := hsub y hy
      obtain ⟨b1, b2⟩ := hco y hy
      obtain ⟨d1, d2, d3⟩ := hf.2 y a1 (by simpa using a2)
      exact ⟨((va_up_ne _ _ b2).trans d1).trans (va_up_ne _ _ a2), ((va_up_ne _ _ b2).trans d2).trans (va_up_ne _ _ a2), ((va_up_ne _ _ b2).trans d3).trans (va_up_ne _ _ a2)⟩
    · obtain ⟨a1, a2⟩ := hsub y hy
      obtain ⟨b1, b2⟩ := hco y hy
      obtain ⟨d1, d2, d3⟩ := hf.2 y a1 (by simpa using a2)
      exact ((va_up_ne _ _ b2).trans d3).trans (va_up_ne _ _ a2)
  have hna : ∀ q ∈ mb_T, ad q.1 ∉ hs_L Sa := fun q hq z => ha q hq (List.mem_append_left _ z)
  have hno : ∀ q ∈ mb_T, ad q.1 ≠ o := fun q hq z => ho (z ▸ (hM.1.2.1 q hq).2.1)
  have hmo : m ≠ o := fun z => ho (z ▸ hM.1.1.1)
  refine ⟨l, tp, nz, ow9, s_0, [], fun _ => 0, ad, RC_ck hR hC (fun k hk => absurd hk List.not_mem_nil) (fun k hk => absurd hk List.not_mem_nil), ?_, fun q hq => ?_, ⟨List.mem_append_right _ List.mem_cons_self, va_up_self _ _ _, va_up_self _ _ _, ?_⟩, OQ_0, TB_0, by show n ≤ 100; exact hn, by show k ≤ 30000; exact hk⟩
  · refine RM_rows hM ⟨List.mem_append_left _ hM.1.1.1, (va_up_ne _ _ hmo).trans hM.1.1.2, va_up_ne _ _ hmo, va_up_ne _ _ hmo, va_up_ne _ _ hmo⟩ (fun q hq => ?_)
    have e := hno q hq
    exact ⟨List.mem_append_left _ (hM.1.2.1 q hq).2.1, va_up_ne _ _ e, va_up_ne _ _ e, va_up_ne _ _ e, va_up_ne _ _ e⟩
  · show (if ad q.1 ∈ hs_L Sa then ow (ad q.1) else if ad q.1 = o then 9 else 8) = 8
    rw [if_neg (hna q hq), if_neg (hno q hq)]
  · show (if o ∈ hs_L Sa then ow o else if o = o then 9 else 8) = 9
    rw [if_neg (fun z => (hco o z).2 rfl), if_pos rfl]
def hs_0 : hs_T := ([], fun _ => 0, fun _ => 0, fun _ _ => 0, fun _ _ => 0, fun _ _ => none)
def PoL : ex_R := fun r _ _ _ => r = .inl (some (.int 1))
set_option maxRecDepth 20000 in
set_option maxHeartbeats 4000000 in
theorem w_law (g : gl_T) {b L : Nat} {xs : Nat → Int32} (hb : b < g.2.2.2.1) (hL2 : L ≤ 3072) : eh_W (XL b L xs) g 13 mL_law PoL 0 [(0, .ref b)] [] hs_0 0 0 := by
  refine eh_new (N := 12) dL_law_0 nl_L_8 rfl (by decide) (by decide) (fun x hx => ?_)
  refine eh_dup dL_law_3 rfl ?_
  refine eh_cIg [] [.ref x] dL_law_4 cI_L_61 (c_init g (fun _ => 0) ⟨(hs_new_q _ _ _ _).1, (hs_new_q _ _ _ _).2.1⟩ (by decide) (by decide)) rfl (by decide) (Nat.le_of_ble_eq_true rfl) rfl (fun E S9 n9 k9 h9 => by obtain ⟨h91, -⟩ := h9; cases h91) (fun v Sa n1 k1 h1 => ?_)
  obtain ⟨h11, ow, l, tp, nz, hR, hfa, hoa, hn1, hk1⟩ := h1
  cases h11
  show eh_W _ _ _ _ _ 7 [(0, .ref b)] [.ref x] Sa n1 k1
  refine eh_astore_n [(1, .ref x), (0, .ref b)] dL_law_7 (by decide) rfl ?_
  refine eh_new (N := 37) dL_law_8 nl_L_62 rfl (by show n1 + 1 ≤ 601024; omega) (by show k1 + 37 ≤ 7293034; omega) (fun m hm => ?_)
  refine eh_dup dL_law_11 rfl ?_
  refine eh_cIg [] [.ref m] dL_law_12 cI_L_64 (m_init g ⟨(hs_new_q _ _ _ _).1, (hs_new_q _ _ _ _).2.1⟩ (va_up_self _ _ _) (va_up_self _ _ _) (by show n1 + 1 + 30 ≤ 601024; omega) (by show k1 + 37 + 30000 ≤ 7293034; omega)) rfl (by decide) (Nat.le_of_ble_eq_true rfl) rfl (fun E S9 n9 k9 h9 => by obtain ⟨h91, -⟩ := h9; cases h91) (fun v Sc n2 k2 h2 => ?_)
  obtain ⟨h21, ad, hM, had, hfc, hn2, hk2⟩ := h2
  cases h21
  show eh_W _ _ _ _ _ 15 [(1, .ref x), (0, .ref b)] [.ref m] Sc n2 k2
  refine eh_astore_n [(2, .ref m), (1, .ref x), (0, .ref b)] dL_law_15 (by decide) rfl ?_
  refine eh_iconst (v := 1) dL_law_16 (by decide) ?_
  refine eh_newJ (N := 1) dL_law_17 aw_long rfl (by decide) (by show n2 + 1 ≤ 601024; omega) (by show k2 + 1 ≤ 7293034; omega) (fun o ho => ?_)
  refine eh_astore_n [(3, .ref o), (2, .ref m), (1, .ref x), (0, .ref b)] dL_law_19 (by decide) rfl ?_
  refine eh_iconst (v := 0) dL_law_20 (by decide) ?_
  refine eh_istore [(4, .int 0), (3, .ref o), (2, .ref m), (1, .ref x), (0, .ref b)] dL_law_21 (by decide) rfl ?_
  refine eh_lv [4, 3, 2, 1, 0] rfl ?_
  exact w_loop g hb hL2 (fun _ _ _ => rfl) (L + 1) 0 _ _ _ (by omega) (by omega) (LI_0 hR hm hM had hfc ho (by omega) (by omega))
