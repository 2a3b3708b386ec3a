/-! what a call answers -/
def vJ : Value → Int64
  | .int x => x.toInt64
  | .long x => x
  | _ => 0
def hp (g : gl_T) (S : hs_T) (ow : Nat → Nat) (x l tp nz : Nat) (c : Nat → Nat) (n k o : Nat) (s : st_T) (sp : Nat × Value × st_T) : ex_R := fun r S' n' k' => r = .inl (some (.int (nI sp.1))) ∧ ∃ ow' c' ys' S1, RC g S1 ow' x l tp nz sp.2.2 ys' c' ∧ CK ow ow' cDk cDs S S1 ∧ rb s sp.2.2 c c' n n' k k' ∧ S' = (if sp.1 = 0 then hs_sJ S1 o 0 (vJ sp.2.1) else S1)
section HP
variable {g : gl_T} {S S1 : hs_T} {ow ow' : Nat → Nat} {x l tp nz n k n' k' o : Nat} {c c' : Nat → Nat} {ex : Nat → String} {s : st_T} {ys' : List Nat} {sp : Nat × Value × st_T}
theorem cp_l {v : Option Value} (h : cp g S ow x l tp nz c n k ex s sp (.inl v) S1 n' k') : sp.1 = 0 ∧ v = some sp.2.1 ∧ ∃ ow' c' ys', RC g S1 ow' x l tp nz sp.2.2 ys' c' ∧ CK ow ow' cDk cDs S S1 ∧ rb s sp.2.2 c c' n n' k k' := by
  obtain ⟨h1, h2⟩ := h
  by_cases z : sp.1 = 0
  · rw [if_pos z] at h1
    exact ⟨z, Sum.inl.inj h1, h2⟩
  · rw [if_neg z] at h1; cases h1
theorem cp_r {E : String} (h : cp g S ow x l tp nz c n k ex s sp (.inr E) S1 n' k') : sp.1 ≠ 0 ∧ E = ex sp.1 ∧ ∃ ow' c' ys', RC g S1 ow' x l tp nz sp.2.2 ys' c' ∧ CK ow ow' cDk cDs S S1 ∧ rb s sp.2.2 c c' n n' k k' := by
  obtain ⟨h1, h2⟩ := h
  by_cases z : sp.1 = 0
  · rw [if_pos z] at h1; cases h1
  · rw [if_neg z] at h1
    exact ⟨z, Sum.inr.inj h1, h2⟩
theorem hp_i {j : Int64} (hz : sp.1 = 0) (hv : vJ sp.2.1 = j) (hR : RC g S1 ow' x l tp nz sp.2.2 ys' c') (hC : CK ow ow' cDk cDs S S1) (hr : rb s sp.2.2 c c' n n' k k') : hp g S ow x l tp nz c n k o s sp (.inl (some (.int 0))) (hs_sJ S1 o 0 j) n' k' := ⟨by rw [hz]; rfl, ow', c', ys', S1, hR, hC, hr, by rw [if_pos hz, hv]⟩
theorem hp_x {v : Int32} {q : Nat} (hz : sp.1 = q) (hq : q ≠ 0) (hv : v = nI q) (hR : RC g S1 ow' x l tp nz sp.2.2 ys' c') (hC : CK ow ow' cDk cDs S S1) (hr : rb s sp.2.2 c c' n n' k k') : hp g S ow x l tp nz c n k o s sp (.inl (some (.int v))) S1 n' k' := ⟨by rw [hz, hv], ow', c', ys', S1, hR, hC, hr, by rw [if_neg (by rw [hz]; exact hq)]⟩
end HP
theorem vi_holder (s : st_T) : ∃ y, (sp_holder s).2.1 = .int y := by
  unfold sp_holder
  (repeat' split) <;> exact ⟨_, rfl⟩
theorem cd_holder (s : st_T) : (sp_holder s).1 ≤ 1 := by
  unfold sp_holder
  (repeat' split) <;> exact Nat.le_of_ble_eq_true rfl
theorem vi_buy (s : st_T) (p0 p1 : Int32) : ∃ y, (sp_buy s p0 p1).2.1 = .int y := by
  unfold sp_buy
  (repeat' split) <;> exact ⟨_, rfl⟩
theorem cd_buy (s : st_T) (p0 p1 : Int32) : (sp_buy s p0 p1).1 ≤ 3 := by
  unfold sp_buy
  (repeat' split) <;> exact Nat.le_of_ble_eq_true rfl
theorem vi_give (s : st_T) (p0 p1 p2 p3 : Int32) : ∃ y, (sp_give s p0 p1 p2 p3).2.1 = .int y := by
  unfold sp_give
  (repeat' split) <;> exact ⟨_, rfl⟩
theorem cd_give (s : st_T) (p0 p1 p2 p3 : Int32) : (sp_give s p0 p1 p2 p3).1 ≤ 3 := by
  unfold sp_give
  (repeat' split) <;> exact Nat.le_of_ble_eq_true rfl
theorem vi_cash (s : st_T) (p0 p1 p2 : Int32) : ∃ y, (sp_cash s p0 p1 p2).2.1 = .int y := by
  unfold sp_cash
  (repeat' split) <;> exact ⟨_, rfl⟩
theorem cd_cash (s : st_T) (p0 p1 p2 : Int32) : (sp_cash s p0 p1 p2).1 ≤ 2 := by
  unfold sp_cash
  (repeat' split) <;> exact Nat.le_of_ble_eq_true rfl
theorem vi_died (s : st_T) (p0 p1 : Int32) : ∃ y, (sp_died s p0 p1).2.1 = .int y := by
  unfold sp_died
  (repeat' split) <;> exact ⟨_, rfl⟩
theorem cd_died (s : st_T) (p0 p1 : Int32) : (sp_died s p0 p1).1 ≤ 3 := by
  unfold sp_died
  (repeat' split) <;> exact Nat.le_of_ble_eq_true rfl
theorem vi_has (s : st_T) (p0 : Int32) : ∃ y, (sp_has s p0).2.1 = .int y := by
  unfold sp_has
  (repeat' split) <;> exact ⟨_, rfl⟩
theorem cd_has (s : st_T) (p0 : Int32) : (sp_has s p0).1 ≤ 1 := by
  unfold sp_has
  (repeat' split) <;> exact Nat.le_of_ble_eq_true rfl
theorem vi_line (s : st_T) (p0 p1 : Int32) : ∃ y, (sp_line s p0 p1).2.1 = .int y := by
  unfold sp_line
  (repeat' split) <;> exact ⟨_, rfl⟩
theorem cd_line (s : st_T) (p0 p1 : Int32) : (sp_line s p0 p1).1 ≤ 2 := by
  unfold sp_line
  (repeat' split) <;> exact Nat.le_of_ble_eq_true rfl
theorem vi_wait (s : st_T) (p0 : Int32) : ∃ y, (sp_wait s p0).2.1 = .int y := by
  unfold sp_wait
  (repeat' split) <;> exact ⟨_, rfl⟩
theorem cd_wait (s : st_T) (p0 : Int32) : (sp_wait s p0).1 ≤ 1 := by
  unfold sp_wait
  (repeat' split) <;> exact Nat.le_of_ble_eq_true rfl
theorem vi_rule (s : st_T) (p0 p1 : Int32) : ∃ y, (sp_rule s p0 p1).2.1 = .int y := by
  unfold sp_rule
  (repeat' split) <;> exact ⟨_, rfl⟩
theorem cd_rule (s : st_T) (p0 p1 : Int32) : (sp_rule s p0 p1).1 ≤ 2 := by
  unfold sp_rule
  (repeat' split) <;> exact Nat.le_of_ble_eq_true rfl
theorem vi_drawn (s : st_T) (p0 p1 : Int32) : ∃ y, (sp_drawn s p0 p1).2.1 = .long y := by
  unfold sp_drawn
  (repeat' split) <;> exact ⟨_, rfl⟩
theorem cd_drawn (s : st_T) (p0 p1 : Int32) : (sp_drawn s p0 p1).1 ≤ 2 := by
  unfold sp_drawn
  (repeat' split) <;> exact Nat.le_of_ble_eq_true rfl
theorem vi_win (s : st_T) (p0 p1 : Int32) : ∃ y, (sp_win s p0 p1).2.1 = .int y := by
  unfold sp_win
  (repeat' split) <;> exact ⟨_, rfl⟩
theorem cd_win (s : st_T) (p0 p1 : Int32) : (sp_win s p0 p1).1 ≤ 2 := by
  unfold sp_win
  (repeat' split) <;> exact Nat.le_of_ble_eq_true rfl
theorem vi_claim (s : st_T) (p0 : Int32) : ∃ y, (sp_claim s p0).2.1 = .int y := by
  unfold sp_claim
  (repeat' split) <;> exact ⟨_, rfl⟩
theorem cd_claim (s : st_T) (p0 : Int32) : (sp_claim s p0).1 ≤ 1 := by
  unfold sp_claim
  (repeat' split) <;> exact Nat.le_of_ble_eq_true rfl
theorem vi_paid (s : st_T) (p0 : Int32) : ∃ y, (sp_paid s p0).2.1 = .long y := by
  unfold sp_paid
  (repeat' split) <;> exact ⟨_, rfl⟩
theorem cd_paid (s : st_T) (p0 : Int32) : (sp_paid s p0).1 ≤ 1 := by
  unfold sp_paid
  (repeat' split) <;> exact Nat.le_of_ble_eq_true rfl
theorem vi_held (s : st_T) (p0 p1 : Int32) : ∃ y, (sp_held s p0 p1).2.1 = .int y := by
  unfold sp_held
  (repeat' split) <;> exact ⟨_, rfl⟩
theorem cd_held (s : st_T) (p0 p1 : Int32) : (sp_held s p0 p1).1 = 0 := by
  unfold sp_held
  (repeat' split) <;> rfl
theorem vi_feed (s : st_T) (p0 p1 p2 p3 p4 : Int32) : ∃ y, (sp_feed s p0 p1 p2 p3 p4).2.1 = .int y := by
  unfold sp_feed
  (repeat' split) <;> exact ⟨_, rfl⟩
theorem cd_feed (s : st_T) (p0 p1 p2 p3 p4 : Int32) : (sp_feed s p0 p1 p2 p3 p4).1 = 0 := by
  unfold sp_feed
  (repeat' split) <;> rfl
theorem vi_fault (s : st_T) : ∃ y, (sp_fault s).2.1 = .int y := by
  unfold sp_fault
  (repeat' split) <;> exact ⟨_, rfl⟩
theorem cd_fault (s : st_T) : (sp_fault s).1 = 0 := by
  unfold sp_fault
  (repeat' split) <;> rfl
theorem vi_force (s : st_T) (p0 : Int32) : ∃ y, (sp_force s p0).2.1 = .int y := by
  unfold sp_force
  (repeat' split) <;> exact ⟨_, rfl⟩
theorem cd_force (s : st_T) (p0 : Int32) : (sp_force s p0).1 = 0 := by
  unfold sp_force
  (repeat' split) <;> rfl
theorem vi_noise (s : st_T) (p0 : Int32) : ∃ y, (sp_noise s p0).2.1 = .int y := by
  unfold sp_noise
  (repeat' split) <;> exact ⟨_, rfl⟩
theorem cd_noise (s : st_T) (p0 : Int32) : (sp_noise s p0).1 = 0 := by
  unfold sp_noise
  (repeat' split) <;> rfl
theorem vi_draw (s : st_T) (ys : List Nat) : ∃ y, (sp_draw s ys).2.1 = .int y := by
  unfold sp_draw
  (repeat' split) <;> exact ⟨_, rfl⟩
theorem cd_draw (s : st_T) (ys : List Nat) : (sp_draw s ys).1 = 0 := by
  unfold sp_draw
  (repeat' split) <;> rfl
theorem vi_carried (s : st_T) : ∃ y, (sp_carried s).2.1 = .long y := by
  unfold sp_carried
  (repeat' split) <;> exact ⟨_, rfl⟩
theorem cd_carried (s : st_T) : (sp_carried s).1 = 0 := by
  unfold sp_carried
  (repeat' split) <;> rfl
theorem vi_count (s : st_T) (p0 : Int32) : ∃ y, (sp_count s p0).2.1 = .int y := by
  unfold sp_count
  (repeat' split) <;> exact ⟨_, rfl⟩
theorem cd_count (s : st_T) (p0 : Int32) : (sp_count s p0).1 = 0 := by
  unfold sp_count
  (repeat' split) <;> rfl
set_option maxRecDepth 20000 in
set_option maxHeartbeats 4000000 in
theorem h_holder (g : gl_T) {S : hs_T} {n k x l tp nz o : Nat} {ow : Nat → Nat} {s : st_T} {ys : List Nat} {c : Nat → Nat} (h : RC g S ow x l tp nz s ys c) (hb : BD s) (hO : OK s) (hn : n + 40000 ≤ ex_NM) (hk : k + 200000 ≤ ex_KM) (ho : o ∈ hs_L S ∧ hs_K S o = 13 ∧ hs_N S o = 1) : eh_M g 12 mL_holder hL_holder [.ref x, .ref o] S n k (hp g S ow x l tp nz c n k o s (sp_holder s)) := by
  have hc : ex_M g 8 mX9_holder [.ref x] S n k (cp g S ow x l tp nz c n k (exN exS) s (sp_holder s)) := c_holder g h hb hO hn hk
  have hv := vi_holder s
  have hcd := cd_holder s
  generalize sp_holder s = sp at hc hv hcd ⊢
  obtain ⟨y0, hy0⟩ := hv
  refine eh_enter (by decide +kernel) (Nat.le_of_ble_eq_true rfl) ?_
  show eh_W _ _ _ _ _ 0 [(0, .ref x), (1, .ref o)] [] _ _ _
  refine eh_aload_n dL_holder_0 1 rfl ?_
  refine eh_iconst (v := 0) dL_holder_1 (by decide) ?_
  refine eh_aload_n dL_holder_2 0 rfl ?_
  refine eh_cXg [] [.int 0, .ref o] dL_holder_3 cV_L_7 hc h.1.1.1 h.1.1.2 rfl rfl rfl (by decide) (Nat.le_of_ble_eq_true rfl) rfl (fun v S1 n1 k1 h1 => ?_) (fun E S1 n1 k1 h1 => ?_)
  · obtain ⟨hz, rfl, ow', c', ys', hR, hC, hr⟩ := cp_l h1
    rw [hy0]
    show eh_W _ _ _ _ _ 6 [(0, .ref x), (1, .ref o)] [.int y0, .int 0, .ref o] S1 n1 k1
    refine eh_i2l dL_holder_6 ?_
    refine eh_last (j := 0) dL_holder_7 (hC.1 o ho.1).1 ((hC.1 o ho.1).2.1.trans ho.2.1) rfl (by rw [(hC.1 o ho.1).2.2.1, ho.2.2]; decide) (by decide) ?_
    refine eh_goto (tgt := 14) dL_holder_8 (by decide) ?_
    refine eh_iconst (v := 0) dL_holder_14 (by decide) ?_
    exact eh_irt rfl dL_holder_15 (hp_i hz (by rw [hy0]; rfl) hR hC hr)
  · obtain ⟨hz, hE, ow', c', ys', hR, hC, hr⟩ := cp_r h1
    have e : sp.1 = 1 := by omega
    have hE2 : E = "java/lang/IllegalStateException" := hE.trans (by rw [e]; rfl)
    subst hE2
    refine ⟨[], ⟨0, 8, 11, 13⟩, [], "java/lang/IllegalStateException", rfl, (fun _ h => absurd h List.not_mem_nil), by decide, by decide, kt_13, kc_13, fun q => ?_⟩
    show eh_W _ _ _ _ _ 11 [(0, .ref x), (1, .ref o)] [.ref q] S1 n1 k1
    refine eh_astore_n [(2, .ref q), (0, .ref x), (1, .ref o)] dL_holder_11 (by decide) rfl ?_
    refine eh_iconst (v := 1) dL_holder_12 (by decide) ?_
    exact eh_irt rfl dL_holder_13 (hp_x e (by decide) rfl hR hC hr)
set_option maxRecDepth 20000 in
set_option maxHeartbeats 4000000 in
theorem h_buy (g : gl_T) {S : hs_T} {n k x l tp nz o : Nat} {ow : Nat → Nat} {s : st_T} {ys : List Nat} {c : Nat → Nat} (h : RC g S ow x l tp nz s ys c) (hb : BD s) (hO : OK s) (hn : n + 40000 ≤ ex_NM) (hk : k + 200000 ≤ ex_KM) (ho : o ∈ hs_L S ∧ hs_K S o = 13 ∧ hs_N S o = 1) {p0 p1 : Int32} : eh_M g 12 mL_buy hL_buy [.ref x, .int p0, .int p1, .ref o] S n k (hp g S ow x l tp nz c n k o s (sp_buy s p0 p1)) := by
  have hc : ex_M g 10 mX9_buy [.ref x, .int p0, .int p1] S n k (cp g S ow x l tp nz c n k ex3 s (sp_buy s p0 p1)) := c_buy g h hb hO hn hk
  have hv := vi_buy s p0 p1
  have hcd := cd_buy s p0 p1
  generalize sp_buy s p0 p1 = sp at hc hv hcd ⊢
  obtain ⟨y0, hy0⟩ := hv
  refine eh_enter (by decide +kernel) (Nat.le_of_ble_eq_true rfl) ?_
  show eh_W _ _ _ _ _ 0 [(0, .ref x), (1, .int p0), (2, .int p1), (3, .ref o)] [] _ _ _
  refine eh_aload_n dL_buy_0 3 rfl ?_
  refine eh_iconst (v := 0) dL_buy_1 (by decide) ?_
  refine eh_aload_n dL_buy_2 0 rfl ?_
  refine eh_iload_n dL_buy_3 1 rfl ?_
  refine eh_iload_n dL_buy_4 2 rfl ?_
  refine eh_cXg [.int p0, .int p1] [.int 0, .ref o] dL_buy_5 cV_L_15 hc h.1.1.1 h.1.1.2 rfl rfl rfl (by decide) (Nat.le_of_ble_eq_true rfl) rfl (fun v S1 n1 k1 h1 => ?_) (fun E S1 n1 k1 h1 => ?_)
  · obtain ⟨hz, rfl, ow', c', ys', hR, hC, hr⟩ := cp_l h1
    rw [hy0]
    show eh_W _ _ _ _ _ 8 [(0, .ref x), (1, .int p0), (2, .int p1), (3, .ref o)] [.int y0, .int 0, .ref o] S1 n1 k1
    refine eh_i2l dL_buy_8 ?_
    refine eh_last (j := 0) dL_buy_9 (hC.1 o ho.1).1 ((hC.1 o ho.1).2.1.trans ho.2.1) rfl (by rw [(hC.1 o ho.1).2.2.1, ho.2.2]; decide) (by decide) ?_
    refine eh_goto (tgt := 25) dL_buy_10 (by decide) ?_
    refine eh_iconst (v := 0) dL_buy_25 (by decide) ?_
    exact eh_irt rfl dL_buy_26 (hp_i hz (by rw [hy0]; rfl) hR hC hr)
  · obtain ⟨hz, hE, ow', c', ys', hR, hC, hr⟩ := cp_r h1
    rcases (show sp.1 = 1 ∨ sp.1 = 2 ∨ sp.1 = 3 by omega) with e | e | e
    · have hE2 : E = "java/lang/IndexOutOfBoundsException" := hE.trans (by rw [e]; rfl)
      subst hE2
      refine ⟨[], ⟨0, 10, 13, 19⟩, [⟨0, 10, 17, 21⟩, ⟨0, 10, 21, 13⟩], "java/lang/IndexOutOfBoundsException", rfl, (fun _ h => absurd h List.not_mem_nil), by decide, by decide, kt_19, kc_19, fun q => ?_⟩
      show eh_W _ _ _ _ _ 13 [(0, .ref x), (1, .int p0), (2, .int p1), (3, .ref o)] [.ref q] S1 n1 k1
      refine eh_astore [(4, .ref q), (0, .ref x), (1, .int p0), (2, .int p1), (3, .ref o)] dL_buy_13 (by decide) rfl ?_
      refine eh_iconst (v := 1) dL_buy_15 (by decide) ?_
      exact eh_irt rfl dL_buy_16 (hp_x e (by decide) rfl hR hC hr)
    · have hE2 : E = "java/lang/IllegalArgumentException" := hE.trans (by rw [e]; rfl)
      subst hE2
      refine ⟨[⟨0, 10, 13, 19⟩], ⟨0, 10, 17, 21⟩, [⟨0, 10, 21, 13⟩], "java/lang/IllegalArgumentException", rfl, (List.forall_mem_cons.mpr ⟨⟨by decide, _, kt_19, by decide +kernel⟩, (fun _ h => absurd h List.not_mem_nil)⟩), by decide, by decide, kt_21, kc_21, fun q => ?_⟩
      show eh_W _ _ _ _ _ 17 [(0, .ref x), (1, .int p0), (2, .int p1), (3, .ref o)] [.ref q] S1 n1 k1
      refine eh_astore [(4, .ref q), (0, .ref x), (1, .int p0), (2, .int p1), (3, .ref o)] dL_buy_17 (by decide) rfl ?_
      refine eh_iconst (v := 2) dL_buy_19 (by decide) ?_
      exact eh_irt rfl dL_buy_20 (hp_x e (by decide) rfl hR hC hr)
    · have hE2 : E = "java/lang/IllegalStateException" := hE.trans (by rw [e]; rfl)
      subst hE2
      refine ⟨[⟨0, 10, 13, 19⟩, ⟨0, 10, 17, 21⟩], ⟨0, 10, 21, 13⟩, [], "java/lang/IllegalStateException", rfl, (List.forall_mem_cons.mpr ⟨⟨by decide, _, kt_19, by decide +kernel⟩, (List.forall_mem_cons.mpr ⟨⟨by decide, _, kt_21, by decide +kernel⟩, (fun _ h => absurd h List.not_mem_nil)⟩)⟩), by decide, by decide, kt_13, kc_13, fun q => ?_⟩
      show eh_W _ _ _ _ _ 21 [(0, .ref x), (1, .int p0), (2, .int p1), (3, .ref o)] [.ref q] S1 n1 k1
      refine eh_astore [(4, .ref q), (0, .ref x), (1, .int p0), (2, .int p1), (3, .ref o)] dL_buy_21 (by decide) rfl ?_
      refine eh_iconst (v := 3) dL_buy_23 (by decide) ?_
      exact eh_irt rfl dL_buy_24 (hp_x e (by decide) rfl hR hC hr)
set_option maxRecDepth 20000 in
set_option maxHeartbeats 4000000 in
theorem h_give (g : gl_T) {S : hs_T} {n k x l tp nz o : Nat} {ow : Nat → Nat} {s : st_T} {ys : List Nat} {c : Nat → Nat} (h : RC g S ow x l tp nz s ys c) (hb : BD s) (hO : OK s) (hn : n + 40000 ≤ ex_NM) (hk : k + 200000 ≤ ex_KM) (ho : o ∈ hs_L S ∧ hs_K S o = 13 ∧ hs_N S o = 1) {p0 p1 p2 p3 : Int32} : eh_M g 12 mL_give hL_give [.ref x, .int p0, .int p1, .int p2, .int p3, .ref o] S n k (hp g S ow x l tp nz c n k o s (sp_give s p0 p1 p2 p3)) := by
  have hc : ex_M g 11 mX9_give [.ref x, .int p0, .int p1, .int p2, .int p3] S n k (cp g S ow x l tp nz c n k ex3 s (sp_give s p0 p1 p2 p3)) := c_give g h hb hO hn hk
  have hv := vi_give s p0 p1 p2 p3
  have hcd := cd_give s p0 p1 p2 p3
  generalize sp_give s p0 p1 p2 p3 = sp at hc hv hcd ⊢
  obtain ⟨y0, hy0⟩ := hv
  refine eh_enter (by decide +kernel) (Nat.le_of_ble_eq_true rfl) ?_
  show eh_W _ _ _ _ _ 0 [(0, .ref x), (1, .int p0), (2, .int p1), (3, .int p2), (4, .int p3), (5, .ref o)] [] _ _ _
  refine eh_aload dL_give_0 5 rfl ?_
  refine eh_iconst (v := 0) dL_give_2 (by decide) ?_
  refine eh_aload_n dL_give_3 0 rfl ?_
  refine eh_iload_n dL_give_4 1 rfl ?_
  refine eh_iload_n dL_give_5 2 rfl ?_
  refine eh_iload_n dL_give_6 3 rfl ?_
  refine eh_iload dL_give_7 4 rfl ?_
  refine eh_cXg [.int p0, .int p1, .int p2, .int p3] [.int 0, .ref o] dL_give_9 cV_L_23 hc h.1.1.1 h.1.1.2 rfl rfl rfl (by decide) (Nat.le_of_ble_eq_true rfl) rfl (fun v S1 n1 k1 h1 => ?_) (fun E S1 n1 k1 h1 => ?_)
  · obtain ⟨hz, rfl, ow', c', ys', hR, hC, hr⟩ := cp_l h1
    rw [hy0]
    show eh_W _ _ _ _ _ 12 [(0, .ref x), (1, .int p0), (2, .int p1), (3, .int p2), (4, .int p3), (5, .ref o)] [.int y0, .int 0, .ref o] S1 n1 k1
    refine eh_i2l dL_give_12 ?_
    refine eh_last (j := 0) dL_give_13 (hC.1 o ho.1).1 ((hC.1 o ho.1).2.1.trans ho.2.1) rfl (by rw [(hC.1 o ho.1).2.2.1, ho.2.2]; decide) (by decide) ?_
    refine eh_goto (tgt := 29) dL_give_14 (by decide) ?_
    refine eh_iconst (v := 0) dL_give_29 (by decide) ?_
    exact eh_irt rfl dL_give_30 (hp_i hz (by rw [hy0]; rfl) hR hC hr)
  · obtain ⟨hz, hE, ow', c', ys', hR, hC, hr⟩ := cp_r h1
    rcases (show sp.1 = 1 ∨ sp.1 = 2 ∨ sp.1 = 3 by omega) with e | e | e
    · have hE2 : E = "java/lang/IndexOutOfBoundsException" := hE.trans (by rw [e]; rfl)
      subst hE2
      refine ⟨[], ⟨0, 14, 17, 19⟩, [⟨0, 14, 21, 21⟩, ⟨0, 14, 25, 13⟩], "java/lang/IndexOutOfBoundsException", rfl, (fun _ h => absurd h List.not_mem_nil), by decide, by decide, kt_19, kc_19, fun q => ?_⟩
      show eh_W _ _ _ _ _ 17 [(0, .ref x), (1, .int p0), (2, .int p1), (3, .int p2), (4, .int p3), (5, .ref o)] [.ref q] S1 n1 k1
      refine eh_astore [(6, .ref q), (0, .ref x), (1, .int p0), (2, .int p1), (3, .int p2), (4, .int p3), (5, .ref o)] dL_give_17 (by decide) rfl ?_
      refine eh_iconst (v := 1) dL_give_19 (by decide) ?_
      exact eh_irt rfl dL_give_20 (hp_x e (by decide) rfl hR hC hr)
    · have hE2 : E = "java/lang/IllegalArgumentException" := hE.trans (by rw [e]; rfl)
      subst hE2
      refine ⟨[⟨0, 14, 17, 19⟩], ⟨0, 14, 21, 21⟩, [⟨0, 14, 25, 13⟩], "java/lang/IllegalArgumentException", rfl, (List.forall_mem_cons.mpr ⟨⟨by decide, _, kt_19, by decide +kernel⟩, (fun _ h => absurd h List.not_mem_nil)⟩), by decide, by decide, kt_21, kc_21, fun q => ?_⟩
      show eh_W _ _ _ _ _ 21 [(0, .ref x), (1, .int p0), (2, .int p1), (3, .int p2), (4, .int p3), (5, .ref o)] [.ref q] S1 n1 k1
      refine eh_astore [(6, .ref q), (0, .ref x), (1, .int p0), (2, .int p1), (3, .int p2), (4, .int p3), (5, .ref o)] dL_give_21 (by decide) rfl ?_
      refine eh_iconst (v := 2) dL_give_23 (by decide) ?_
      exact eh_irt rfl dL_give_24 (hp_x e (by decide) rfl hR hC hr)
    · have hE2 : E = "java/lang/IllegalStateException" := hE.trans (by rw [e]; rfl)
      subst hE2
      refine ⟨[⟨0, 14, 17, 19⟩, ⟨0, 14, 21, 21⟩], ⟨0, 14, 25, 13⟩, [], "java/lang/IllegalStateException", rfl, (List.forall_mem_cons.mpr ⟨⟨by decide, _, kt_19, by decide +kernel⟩, (List.forall_mem_cons.mpr ⟨⟨by decide, _, kt_21, by decide +kernel⟩, (fun _ h => absurd h List.not_mem_nil)⟩)⟩), by decide, by decide, kt_13, kc_13, fun q => ?_⟩
      show eh_W _ _ _ _ _ 25 [(0, .ref x), (1, .int p0), (2, .int p1), (3, .int p2), (4, .int p3), (5, .ref o)] [.ref q] S1 n1 k1
      refine eh_astore [(6, .ref q), (0, .ref x), (1, .int p0), (2, .int p1), (3, .int p2), (4, .int p3), (5, .ref o)] dL_give_25 (by decide) rfl ?_
      refine eh_iconst (v := 3) dL_give_27 (by decide) ?_
      exact eh_irt rfl dL_give_28 (hp_x e (by decide) rfl hR hC hr)
set_option maxRecDepth 20000 in
set_option maxHeartbeats 4000000 in
theorem h_cash (g : gl_T) {S : hs_T} {n k x l tp nz o : Nat} {ow : Nat → Nat} {s : st_T} {ys : List Nat} {c : Nat → Nat} (h : RC g S ow x l tp nz s ys c) (hb : BD s) (hO : OK s) (hn : n + 40000 ≤ ex_NM) (hk : k + 200000 ≤ ex_KM) (ho : o ∈ hs_L S ∧ hs_K S o = 13 ∧ hs_N S o = 1) {p0 p1 p2 : Int32} : eh_M g 12 mL_cash hL_cash [.ref x, .int p0, .int p1, .int p2, .ref o] S n k (hp g S ow x l tp nz c n k o s (sp_cash s p0 p1 p2)) := by
  have hc : ex_M g 11 mX9_cash [.ref x, .int p0, .int p1, .int p2] S n k (cp g S ow x l tp nz c n k (exJ exI exS) s (sp_cash s p0 p1 p2)) := c_cash g h hb hO hn hk
  have hv := vi_cash s p0 p1 p2
  have hcd := cd_cash s p0 p1 p2
  generalize sp_cash s p0 p1 p2 = sp at hc hv hcd ⊢
  obtain ⟨y0, hy0⟩ := hv
  refine eh_enter (by decide +kernel) (Nat.le_of_ble_eq_true rfl) ?_
  show eh_W _ _ _ _ _ 0 [(0, .ref x), (1, .int p0), (2, .int p1), (3, .int p2), (4, .ref o)] [] _ _ _
  refine eh_aload dL_cash_0 4 rfl ?_
  refine eh_iconst (v := 0) dL_cash_2 (by decide) ?_
  refine eh_aload_n dL_cash_3 0 rfl ?_
  refine eh_iload_n dL_cash_4 1 rfl ?_
  refine eh_iload_n dL_cash_5 2 rfl ?_
  refine eh_iload_n dL_cash_6 3 rfl ?_
  refine eh_cXg [.int p0, .int p1, .int p2] [.int 0, .ref o] dL_cash_7 cV_L_27 hc h.1.1.1 h.1.1.2 rfl rfl rfl (by decide) (Nat.le_of_ble_eq_true rfl) rfl (fun v S1 n1 k1 h1 => ?_) (fun E S1 n1 k1 h1 => ?_)
  · obtain ⟨hz, rfl, ow', c', ys', hR, hC, hr⟩ := cp_l h1
    rw [hy0]
    show eh_W _ _ _ _ _ 10 [(0, .ref x), (1, .int p0), (2, .int p1), (3, .int p2), (4, .ref o)] [.int y0, .int 0, .ref o] S1 n1 k1
    refine eh_i2l dL_cash_10 ?_
    refine eh_last (j := 0) dL_cash_11 (hC.1 o ho.1).1 ((hC.1 o ho.1).2.1.trans ho.2.1) rfl (by rw [(hC.1 o ho.1).2.2.1, ho.2.2]; decide) (by decide) ?_
    refine eh_goto (tgt := 23) dL_cash_12 (by decide) ?_
    refine eh_iconst (v := 0) dL_cash_23 (by decide) ?_
    exact eh_irt rfl dL_cash_24 (hp_i hz (by rw [hy0]; rfl) hR hC hr)
  · obtain ⟨hz, hE, ow', c', ys', hR, hC, hr⟩ := cp_r h1
    rcases (show sp.1 = 1 ∨ sp.1 = 2 by omega) with e | e
    · have hE2 : E = "java/lang/IndexOutOfBoundsException" := hE.trans (by rw [e]; rfl)
      subst hE2
      refine ⟨[], ⟨0, 12, 15, 19⟩, [⟨0, 12, 19, 13⟩], "java/lang/IndexOutOfBoundsException", rfl, (fun _ h => absurd h List.not_mem_nil), by decide, by decide, kt_19, kc_19, fun q => ?_⟩
      show eh_W _ _ _ _ _ 15 [(0, .ref x), (1, .int p0), (2, .int p1), (3, .int p2), (4, .ref o)] [.ref q] S1 n1 k1
      refine eh_astore [(5, .ref q), (0, .ref x), (1, .int p0), (2, .int p1), (3, .int p2), (4, .ref o)] dL_cash_15 (by decide) rfl ?_
      refine eh_iconst (v := 1) dL_cash_17 (by decide) ?_
      exact eh_irt rfl dL_cash_18 (hp_x e (by decide) rfl hR hC hr)
    · have hE2 : E = "java/lang/IllegalStateException" := hE.trans (by rw [e]; rfl)
      subst hE2
      refine ⟨[⟨0, 12, 15, 19⟩], ⟨0, 12, 19, 13⟩, [], "java/lang/IllegalStateException", rfl, (List.forall_mem_cons.mpr ⟨⟨by decide, _, kt_19, by decide +kernel⟩, (fun _ h => absurd h List.not_mem_nil)⟩), by decide, by decide, kt_13, kc_13, fun q => ?_⟩
      show eh_W _ _ _ _ _ 19 [(0, .ref x), (1, .int p0), (2, .int p1), (3, .int p2), (4, .ref o)] [.ref q] S1 n1 k1
      refine eh_astore [(5, .ref q), (0, .ref x), (1, .int p0), (2, .int p1), (3, .int p2), (4, .ref o)] dL_cash_19 (by decide) rfl ?_
      refine eh_iconst (v := 2) dL_cash_21 (by decide) ?_
      exact eh_irt rfl dL_cash_22 (hp_x e (by decide) rfl hR hC hr)
set_option maxRecDepth 20000 in
set_option maxHeartbeats 4000000 in
theorem h_died (g : gl_T) {S : hs_T} {n k x l tp nz o : Nat} {ow : Nat → Nat} {s : st_T} {ys : List Nat} {c : Nat → Nat} (h : RC g S ow x l tp nz s ys c) (hb : BD s) (hO : OK s) (hn : n + 40000 ≤ ex_NM) (hk : k + 200000 ≤ ex_KM) (ho : o ∈ hs_L S ∧ hs_K S o = 13 ∧ hs_N S o = 1) {p0 p1 : Int32} : eh_M g 12 mL_died hL_died [.ref x, .int p0, .int p1, .ref o] S n k (hp g S ow x l tp nz c n k o s (sp_died s p0 p1)) := by
  have hc : ex_M g 11 mX9_died [.ref x, .int p0, .int p1] S n k (cp g S ow x l tp nz c n k ex3 s (sp_died s p0 p1)) := c_died g h hb hO hn hk
  have hv := vi_died s p0 p1
  have hcd := cd_died s p0 p1
  generalize sp_died s p0 p1 = sp at hc hv hcd ⊢
  obtain ⟨y0, hy0⟩ := hv
  refine eh_enter (by decide +kernel) (Nat.le_of_ble_eq_true rfl) ?_
  show eh_W _ _ _ _ _ 0 [(0, .ref x), (1, .int p0), (2, .int p1), (3, .ref o)] [] _ _ _
  refine eh_aload_n dL_died_0 3 rfl ?_
  refine eh_iconst (v := 0) dL_died_1 (by decide) ?_
  refine eh_aload_n dL_died_2 0 rfl ?_
  refine eh_iload_n dL_died_3 1 rfl ?_
  refine eh_iload_n dL_died_4 2 rfl ?_
  refine eh_cXg [.int p0, .int p1] [.int 0, .ref o] dL_died_5 cV_L_31 hc h.1.1.1 h.1.1.2 rfl rfl rfl (by decide) (Nat.le_of_ble_eq_true rfl) rfl (fun v S1 n1 k1 h1 => ?_) (fun E S1 n1 k1 h1 => ?_)
  · obtain ⟨hz, rfl, ow', c', ys', hR, hC, hr⟩ := cp_l h1
    rw [hy0]
    show eh_W _ _ _ _ _ 8 [(0, .ref x), (1, .int p0), (2, .int p1), (3, .ref o)] [.int y0, .int 0, .ref o] S1 n1 k1
    refine eh_i2l dL_died_8 ?_
    refine eh_last (j := 0) dL_died_9 (hC.1 o ho.1).1 ((hC.1 o ho.1).2.1.trans ho.2.1) rfl (by rw [(hC.1 o ho.1).2.2.1, ho.2.2]; decide) (by decide) ?_
    refine eh_goto (tgt := 25) dL_died_10 (by decide) ?_
    refine eh_iconst (v := 0) dL_died_25 (by decide) ?_
    exact eh_irt rfl dL_died_26 (hp_i hz (by rw [hy0]; rfl) hR hC hr)
  · obtain ⟨hz, hE, ow', c', ys', hR, hC, hr⟩ := cp_r h1
    rcases (show sp.1 = 1 ∨ sp.1 = 2 ∨ sp.1 = 3 by omega) with e | e | e
    · have hE2 : E = "java/lang/IndexOutOfBoundsException" := hE.trans (by rw [e]; rfl)
      subst hE2
      refine ⟨[], ⟨0, 10, 13, 19⟩, [⟨0, 10, 17, 21⟩, ⟨0, 10, 21, 13⟩], "java/lang/IndexOutOfBoundsException", rfl, (fun _ h => absurd h List.not_mem_nil), by decide, by decide, kt_19, kc_19, fun q => ?_⟩
      show eh_W _ _ _ _ _ 13 [(0, .ref x), (1, .int p0), (2, .int p1), (3, .ref o)] [.ref q] S1 n1 k1
      refine eh_astore [(4, .ref q), (0, .ref x), (1, .int p0), (2, .int p1), (3, .ref o)] dL_died_13 (by decide) rfl ?_
      refine eh_iconst (v := 1) dL_died_15 (by decide) ?_
      exact eh_irt rfl dL_died_16 (hp_x e (by decide) rfl hR hC hr)
    · have hE2 : E = "java/lang/IllegalArgumentException" := hE.trans (by rw [e]; rfl)
      subst hE2
      refine ⟨[⟨0, 10, 13, 19⟩], ⟨0, 10, 17, 21⟩, [⟨0, 10, 21, 13⟩], "java/lang/IllegalArgumentException", rfl, (List.forall_mem_cons.mpr ⟨⟨by decide, _, kt_19, by decide +kernel⟩, (fun _ h => absurd h List.not_mem_nil)⟩), by decide, by decide, kt_21, kc_21, fun q => ?_⟩
      show eh_W _ _ _ _ _ 17 [(0, .ref x), (1, .int p0), (2, .int p1), (3, .ref o)] [.ref q] S1 n1 k1
      refine eh_astore [(4, .ref q), (0, .ref x), (1, .int p0), (2, .int p1), (3, .ref o)] dL_died_17 (by decide) rfl ?_
      refine eh_iconst (v := 2) dL_died_19 (by decide) ?_
      exact eh_irt rfl dL_died_20 (hp_x e (by decide) rfl hR hC hr)
    · have hE2 : E = "java/lang/IllegalStateException" := hE.trans (by rw [e]; rfl)
      subst hE2
      refine ⟨[⟨0, 10, 13, 19⟩, ⟨0, 10, 17, 21⟩], ⟨0, 10, 21, 13⟩, [], "java/lang/IllegalStateException", rfl, (List.forall_mem_cons.mpr ⟨⟨by decide, _, kt_19, by decide +kernel⟩, (List.forall_mem_cons.mpr ⟨⟨by decide, _, kt_21, by decide +kernel⟩, (fun _ h => absurd h List.not_mem_nil)⟩)⟩), by decide, by decide, kt_13, kc_13, fun q => ?_⟩
      show eh_W _ _ _ _ _ 21 [(0, .ref x), (1, .int p0), (2, .int p1), (3, .ref o)] [.ref q] S1 n1 k1
      refine eh_astore [(4, .ref q), (0, .ref x), (1, .int p0), (2, .int p1), (3, .ref o)] dL_died_21 (by decide) rfl ?_
      refine eh_iconst (v := 3) dL_died_23 (by decide) ?_
      exact eh_irt rfl dL_died_24 (hp_x e (by decide) rfl hR hC hr)
set_option maxRecDepth 20000 in
set_option maxHeartbeats 4000000 in
theorem h_has (g : gl_T) {S : hs_T} {n k x l tp nz o : Nat} {ow : Nat → Nat} {s : st_T} {ys : List Nat} {c : Nat → Nat} (h : RC g S ow x l tp nz s ys c) (hb : BD s) (hO : OK s) (hn : n + 40000 ≤ ex_NM) (hk : k + 200000 ≤ ex_KM) (ho : o ∈ hs_L S ∧ hs_K S o = 13 ∧ hs_N S o = 1) {p0 : Int32} : eh_M g 12 mL_has hL_has [.ref x, .int p0, .ref o] S n k (hp g S ow x l tp nz c n k o s (sp_has s p0)) := by
  have hc : ex_M g 7 mX9_has [.ref x, .int p0] S n k (cp g S ow x l tp nz c n k (exN exI) s (sp_has s p0)) := c_has g h hb hO hn hk
  have hv := vi_has s p0
  have hcd := cd_has s p0
  generalize sp_has s p0 = sp at hc hv hcd ⊢
  obtain ⟨y0, hy0⟩ := hv
  refine eh_enter (by decide +kernel) (Nat.le_of_ble_eq_true rfl) ?_
  show eh_W _ _ _ _ _ 0 [(0, .ref x), (1, .int p0), (2, .ref o)] [] _ _ _
  refine eh_aload_n dL_has_0 2 rfl ?_
  refine eh_iconst (v := 0) dL_has_1 (by decide) ?_
  refine eh_aload_n dL_has_2 0 rfl ?_
  refine eh_iload_n dL_has_3 1 rfl ?_
  refine eh_cXg [.int p0] [.int 0, .ref o] dL_has_4 cV_L_34 hc h.1.1.1 h.1.1.2 rfl rfl rfl (by decide) (Nat.le_of_ble_eq_true rfl) rfl (fun v S1 n1 k1 h1 => ?_) (fun E S1 n1 k1 h1 => ?_)
  · obtain ⟨hz, rfl, ow', c', ys', hR, hC, hr⟩ := cp_l h1
    rw [hy0]
    show eh_W _ _ _ _ _ 7 [(0, .ref x), (1, .int p0), (2, .ref o)] [.int y0, .int 0, .ref o] S1 n1 k1
    refine eh_i2l dL_has_7 ?_
    refine eh_last (j := 0) dL_has_8 (hC.1 o ho.1).1 ((hC.1 o ho.1).2.1.trans ho.2.1) rfl (by rw [(hC.1 o ho.1).2.2.1, ho.2.2]; decide) (by decide) ?_
    refine eh_goto (tgt := 15) dL_has_9 (by decide) ?_
    refine eh_iconst (v := 0) dL_has_15 (by decide) ?_
    exact eh_irt rfl dL_has_16 (hp_i hz (by rw [hy0]; rfl) hR hC hr)
  · obtain ⟨hz, hE, ow', c', ys', hR, hC, hr⟩ := cp_r h1
    have e : sp.1 = 1 := by omega
    have hE2 : E = "java/lang/IndexOutOfBoundsException" := hE.trans (by rw [e]; rfl)
    subst hE2
    refine ⟨[], ⟨0, 9, 12, 19⟩, [], "java/lang/IndexOutOfBoundsException", rfl, (fun _ h => absurd h List.not_mem_nil), by decide, by decide, kt_19, kc_19, fun q => ?_⟩
    show eh_W _ _ _ _ _ 12 [(0, .ref x), (1, .int p0), (2, .ref o)] [.ref q] S1 n1 k1
    refine eh_astore_n [(3, .ref q), (0, .ref x), (1, .int p0), (2, .ref o)] dL_has_12 (by decide) rfl ?_
    refine eh_iconst (v := 1) dL_has_13 (by decide) ?_
    exact eh_irt rfl dL_has_14 (hp_x e (by decide) rfl hR hC hr)
set_option maxRecDepth 20000 in
set_option maxHeartbeats 4000000 in
theorem h_line (g : gl_T) {S : hs_T} {n k x l tp nz o : Nat} {ow : Nat → Nat} {s : st_T} {ys : List Nat} {c : Nat → Nat} (h : RC g S ow x l tp nz s ys c) (hb : BD s) (hO : OK s) (hn : n + 40000 ≤ ex_NM) (hk : k + 200000 ≤ ex_KM) (ho : o ∈ hs_L S ∧ hs_K S o = 13 ∧ hs_N S o = 1) {p0 p1 : Int32} : eh_M g 12 mL_line hL_line [.ref x, .int p0, .int p1, .ref o] S n k (hp g S ow x l tp nz c n k o s (sp_line s p0 p1)) := by
  have hc : ex_M g 6 mX9_line [.ref x, .int p0, .int p1] S n k (cp g S ow x l tp nz c n k (exJ exI exA) s (sp_line s p0 p1)) := c_line g h hb hO hn hk
  have hv := vi_line s p0 p1
  have hcd := cd_line s p0 p1
  generalize sp_line s p0 p1 = sp at hc hv hcd ⊢
  obtain ⟨y0, hy0⟩ := hv
  refine eh_enter (by decide +kernel) (Nat.le_of_ble_eq_true rfl) ?_
  show eh_W _ _ _ _ _ 0 [(0, .ref x), (1, .int p0), (2, .int p1), (3, .ref o)] [] _ _ _
  refine eh_aload_n dL_line_0 3 rfl ?_
  refine eh_iconst (v := 0) dL_line_1 (by decide) ?_
  refine eh_aload_n dL_line_2 0 rfl ?_
  refine eh_iload_n dL_line_3 1 rfl ?_
  refine eh_iload_n dL_line_4 2 rfl ?_
  refine eh_cXg [.int p0, .int p1] [.int 0, .ref o] dL_line_5 cV_L_38 hc h.1.1.1 h.1.1.2 rfl rfl rfl (by decide) (Nat.le_of_ble_eq_true rfl) rfl (fun v S1 n1 k1 h1 => ?_) (fun E S1 n1 k1 h1 => ?_)
  · obtain ⟨hz, rfl, ow', c', ys', hR, hC, hr⟩ := cp_l h1
    rw [hy0]
    show eh_W _ _ _ _ _ 8 [(0, .ref x), (1, .int p0), (2, .int p1), (3, .ref o)] [.int y0, .int 0, .ref o] S1 n1 k1
    refine eh_i2l dL_line_8 ?_
    refine eh_last (j := 0) dL_line_9 (hC.1 o ho.1).1 ((hC.1 o ho.1).2.1.trans ho.2.1) rfl (by rw [(hC.1 o ho.1).2.2.1, ho.2.2]; decide) (by decide) ?_
    refine eh_goto (tgt := 21) dL_line_10 (by decide) ?_
    refine eh_iconst (v := 0) dL_line_21 (by decide) ?_
    exact eh_irt rfl dL_line_22 (hp_i hz (by rw [hy0]; rfl) hR hC hr)
  · obtain ⟨hz, hE, ow', c', ys', hR, hC, hr⟩ := cp_r h1
    rcases (show sp.1 = 1 ∨ sp.1 = 2 by omega) with e | e
    · have hE2 : E = "java/lang/IndexOutOfBoundsException" := hE.trans (by rw [e]; rfl)
      subst hE2
      refine ⟨[], ⟨0, 10, 13, 19⟩, [⟨0, 10, 17, 21⟩], "java/lang/IndexOutOfBoundsException", rfl, (fun _ h => absurd h List.not_mem_nil), by decide, by decide, kt_19, kc_19, fun q => ?_⟩
      show eh_W _ _ _ _ _ 13 [(0, .ref x), (1, .int p0), (2, .int p1), (3, .ref o)] [.ref q] S1 n1 k1
      refine eh_astore [(4, .ref q), (0, .ref x), (1, .int p0), (2, .int p1), (3, .ref o)] dL_line_13 (by decide) rfl ?_
      refine eh_iconst (v := 1) dL_line_15 (by decide) ?_
      exact eh_irt rfl dL_line_16 (hp_x e (by decide) rfl hR hC hr)
    · have hE2 : E = "java/lang/IllegalArgumentException" := hE.trans (by rw [e]; rfl)
      subst hE2
      refine ⟨[⟨0, 10, 13, 19⟩], ⟨0, 10, 17, 21⟩, [], "java/lang/IllegalArgumentException", rfl, (List.forall_mem_cons.mpr ⟨⟨by decide, _, kt_19, by decide +kernel⟩, (fun _ h => absurd h List.not_mem_nil)⟩), by decide, by decide, kt_21, kc_21, fun q => ?_⟩
      show eh_W _ _ _ _ _ 17 [(0, .ref x), (1, .int p0), (2, .int p1), (3, .ref o)] [.ref q] S1 n1 k1
      refine eh_astore [(4, .ref q), (0, .ref x), (1, .int p0), (2, .int p1), (3, .ref o)] dL_line_17 (by decide) rfl ?_
      refine eh_iconst (v := 2) dL_line_19 (by decide) ?_
      exact eh_irt rfl dL_line_20 (hp_x e (by decide) rfl hR hC hr)
set_option maxRecDepth 20000 in
set_option maxHeartbeats 4000000 in
theorem h_wait (g : gl_T) {S : hs_T} {n k x l tp nz o : Nat} {ow : Nat → Nat} {s : st_T} {ys : List Nat} {c : Nat → Nat} (h : RC g S ow x l tp nz s ys c) (hb : BD s) (hO : OK s) (hn : n + 40000 ≤ ex_NM) (hk : k + 200000 ≤ ex_KM) (ho : o ∈ hs_L S ∧ hs_K S o = 13 ∧ hs_N S o = 1) {p0 : Int32} : eh_M g 12 mL_wait hL_wait [.ref x, .int p0, .ref o] S n k (hp g S ow x l tp nz c n k o s (sp_wait s p0)) := by
  have hc : ex_M g 6 mX9_wait [.ref x, .int p0] S n k (cp g S ow x l tp nz c n k (exN exA) s (sp_wait s p0)) := c_wait g h hb hO hn hk
  have hv := vi_wait s p0
  have hcd := cd_wait s p0
  generalize sp_wait s p0 = sp at hc hv hcd ⊢
  obtain ⟨y0, hy0⟩ := hv
  refine eh_enter (by decide +kernel) (Nat.le_of_ble_eq_true rfl) ?_
  show eh_W _ _ _ _ _ 0 [(0, .ref x), (1, .int p0), (2, .ref o)] [] _ _ _
  refine eh_aload_n dL_wait_0 2 rfl ?_
  refine eh_iconst (v := 0) dL_wait_1 (by decide) ?_
  refine eh_aload_n dL_wait_2 0 rfl ?_
  refine eh_iload_n dL_wait_3 1 rfl ?_
  refine eh_cXg [.int p0] [.int 0, .ref o] dL_wait_4 cV_L_41 hc h.1.1.1 h.1.1.2 rfl rfl rfl (by decide) (Nat.le_of_ble_eq_true rfl) rfl (fun v S1 n1 k1 h1 => ?_) (fun E S1 n1 k1 h1 => ?_)
  · obtain ⟨hz, rfl, ow', c', ys', hR, hC, hr⟩ := cp_l h1
    rw [hy0]
    show eh_W _ _ _ _ _ 7 [(0, .ref x), (1, .int p0), (2, .ref o)] [.int y0, .int 0, .ref o] S1 n1 k1
    refine eh_i2l dL_wait_7 ?_
    refine eh_last (j := 0) dL_wait_8 (hC.1 o ho.1).1 ((hC.1 o ho.1).2.1.trans ho.2.1) rfl (by rw [(hC.1 o ho.1).2.2.1, ho.2.2]; decide) (by decide) ?_
    refine eh_goto (tgt := 15) dL_wait_9 (by decide) ?_
    refine eh_iconst (v := 0) dL_wait_15 (by decide) ?_
    exact eh_irt rfl dL_wait_16 (hp_i hz (by rw [hy0]; rfl) hR hC hr)
  · obtain ⟨hz, hE, ow', c', ys', hR, hC, hr⟩ := cp_r h1
    have e : sp.1 = 1 := by omega
    have hE2 : E = "java/lang/IllegalArgumentException" := hE.trans (by rw [e]; rfl)
    subst hE2
    refine ⟨[], ⟨0, 9, 12, 21⟩, [], "java/lang/IllegalArgumentException", rfl, (fun _ h => absurd h List.not_mem_nil), by decide, by decide, kt_21, kc_21, fun q => ?_⟩
    show eh_W _ _ _ _ _ 12 [(0, .ref x), (1, .int p0), (2, .ref o)] [.ref q] S1 n1 k1
    refine eh_astore_n [(3, .ref q), (0, .ref x), (1, .int p0), (2, .ref o)] dL_wait_12 (by decide) rfl ?_
    refine eh_iconst (v := 1) dL_wait_13 (by decide) ?_
    exact eh_irt rfl dL_wait_14 (hp_x e (by decide) rfl hR hC hr)
set_option maxRecDepth 20000 in
set_option maxHeartbeats 4000000 in
theorem h_rule (g : gl_T) {S : hs_T} {n k x l tp nz o : Nat} {ow : Nat → Nat} {s : st_T} {ys : List Nat} {c : Nat → Nat} (h : RC g S ow x l tp nz s ys c) (hb : BD s) (hO : OK s) (hn : n + 40000 ≤ ex_NM) (hk : k + 200000 ≤ ex_KM) (hTB : TB s) (ho : o ∈ hs_L S ∧ hs_K S o = 13 ∧ hs_N S o = 1) {p0 p1 : Int32} : eh_M g 12 mL_rule hL_rule [.ref x, .int p0, .int p1, .ref o] S n k (hp g S ow x l tp nz c n k o s (sp_rule s p0 p1)) := by
  have hc : ex_M g 10 mX9_rule [.ref x, .int p0, .int p1] S n k (cp g S ow x l tp nz c n k (exJ exA exS) s (sp_rule s p0 p1)) := c_rule g h hb hO hn hk hTB
  have hv := vi_rule s p0 p1
  have hcd := cd_rule s p0 p1
  generalize sp_rule s p0 p1 = sp at hc hv hcd ⊢
  obtain ⟨y0, hy0⟩ := hv
  refine eh_enter (by decide +kernel) (Nat.le_of_ble_eq_true rfl) ?_
  show eh_W _ _ _ _ _ 0 [(0, .ref x), (1, .int p0), (2, .int p1), (3, .ref o)] [] _ _ _
  refine eh_aload_n dL_rule_0 3 rfl ?_
  refine eh_iconst (v := 0) dL_rule_1 (by decide) ?_
  refine eh_aload_n dL_rule_2 0 rfl ?_
  refine eh_iload_n dL_rule_3 1 rfl ?_
  refine eh_iload_n dL_rule_4 2 rfl ?_
  refine eh_cXg [.int p0, .int p1] [.int 0, .ref o] dL_rule_5 cV_L_44 hc h.1.1.1 h.1.1.2 rfl rfl rfl (by decide) (Nat.le_of_ble_eq_true rfl) rfl (fun v S1 n1 k1 h1 => ?_) (fun E S1 n1 k1 h1 => ?_)
  · obtain ⟨hz, rfl, ow', c', ys', hR, hC, hr⟩ := cp_l h1
    rw [hy0]
    show eh_W _ _ _ _ _ 8 [(0, .ref x), (1, .int p0), (2, .int p1), (3, .ref o)] [.int y0, .int 0, .ref o] S1 n1 k1
    refine eh_i2l dL_rule_8 ?_
    refine eh_last (j := 0) dL_rule_9 (hC.1 o ho.1).1 ((hC.1 o ho.1).2.1.trans ho.2.1) rfl (by rw [(hC.1 o ho.1).2.2.1, ho.2.2]; decide) (by decide) ?_
    refine eh_goto (tgt := 21) dL_rule_10 (by decide) ?_
    refine eh_iconst (v := 0) dL_rule_21 (by decide) ?_
    exact eh_irt rfl dL_rule_22 (hp_i hz (by rw [hy0]; rfl) hR hC hr)
  · obtain ⟨hz, hE, ow', c', ys', hR, hC, hr⟩ := cp_r h1
    rcases (show sp.1 = 1 ∨ sp.1 = 2 by omega) with e | e
    · have hE2 : E = "java/lang/IllegalArgumentException" := hE.trans (by rw [e]; rfl)
      subst hE2
      refine ⟨[], ⟨0, 10, 13, 21⟩, [⟨0, 10, 17, 13⟩], "java/lang/IllegalArgumentException", rfl, (fun _ h => absurd h List.not_mem_nil), by decide, by decide, kt_21, kc_21, fun q => ?_⟩
      show eh_W _ _ _ _ _ 13 [(0, .ref x), (1, .int p0), (2, .int p1), (3, .ref o)] [.ref q] S1 n1 k1
      refine eh_astore [(4, .ref q), (0, .ref x), (1, .int p0), (2, .int p1), (3, .ref o)] dL_rule_13 (by decide) rfl ?_
      refine eh_iconst (v := 1) dL_rule_15 (by decide) ?_
      exact eh_irt rfl dL_rule_16 (hp_x e (by decide) rfl hR hC hr)
    · have hE2 : E = "java/lang/IllegalStateException" := hE.trans (by rw [e]; rfl)
      subst hE2
      refine ⟨[⟨0, 10, 13, 21⟩], ⟨0, 10, 17, 13⟩, [], "java/lang/IllegalStateException", rfl, (List.forall_mem_cons.mpr ⟨⟨by decide, _, kt_21, by decide +kernel⟩, (fun _ h => absurd h List.not_mem_nil)⟩), by decide, by decide, kt_13, kc_13, fun q => ?_⟩
      show eh_W _ _ _ _ _ 17 [(0, .ref x), (1, .int p0), (2, .int p1), (3, .ref o)] [.ref q] S1 n1 k1
      refine eh_astore [(4, .ref q), (0, .ref x), (1, .int p0), (2, .int p1), (3, .ref o)] dL_rule_17 (by decide) rfl ?_
      refine eh_iconst (v := 2) dL_rule_19 (by decide) ?_
      exact eh_irt rfl dL_rule_20 (hp_x e (by decide) rfl hR hC hr)
set_option maxRecDepth 20000 in
set_option maxHeartbeats 4000000 in
theorem h_drawn (g : gl_T) {S : hs_T} {n k x l tp nz o : Nat} {ow : Nat → Nat} {s : st_T} {ys : List Nat} {c : Nat → Nat} (h : RC g S ow x l tp nz s ys c) (hb : BD s) (hO : OK s) (hn : n + 40000 ≤ ex_NM) (hk : k + 200000 ≤ ex_KM) (ho : o ∈ hs_L S ∧ hs_K S o = 13 ∧ hs_N S o = 1) {p0 p1 : Int32} : eh_M g 12 mL_drawn hL_drawn [.ref x, .int p0, .int p1, .ref o] S n k (hp g S ow x l tp nz c n k o s (sp_drawn s p0 p1)) := by
  have hc : ex_M g 6 mX9_drawn [.ref x, .int p0, .int p1] S n k (cp g S ow x l tp nz c n k (exJ exI exA) s (sp_drawn s p0 p1)) := c_drawn g h hb hO hn hk
  have hv := vi_drawn s p0 p1
  have hcd := cd_drawn s p0 p1
  generalize sp_drawn s p0 p1 = sp at hc hv hcd ⊢
  obtain ⟨y0, hy0⟩ := hv
  refine eh_enter (by decide +kernel) (Nat.le_of_ble_eq_true rfl) ?_
  show eh_W _ _ _ _ _ 0 [(0, .ref x), (1, .int p0), (2, .int p1), (3, .ref o)] [] _ _ _
  refine eh_aload_n dL_drawn_0 3 rfl ?_
  refine eh_iconst (v := 0) dL_drawn_1 (by decide) ?_
  refine eh_aload_n dL_drawn_2 0 rfl ?_
  refine eh_iload_n dL_drawn_3 1 rfl ?_
  refine eh_iload_n dL_drawn_4 2 rfl ?_
  refine eh_cXg [.int p0, .int p1] [.int 0, .ref o] dL_drawn_5 cV_L_47 hc h.1.1.1 h.1.1.2 rfl rfl rfl (by decide) (Nat.le_of_ble_eq_true rfl) rfl (fun v S1 n1 k1 h1 => ?_) (fun E S1 n1 k1 h1 => ?_)
  · obtain ⟨hz, rfl, ow', c', ys', hR, hC, hr⟩ := cp_l h1
    rw [hy0]
    show eh_W _ _ _ _ _ 8 [(0, .ref x), (1, .int p0), (2, .int p1), (3, .ref o)] [.long y0, .int 0, .ref o] S1 n1 k1
    refine eh_last (j := 0) dL_drawn_8 (hC.1 o ho.1).1 ((hC.1 o ho.1).2.1.trans ho.2.1) rfl (by rw [(hC.1 o ho.1).2.2.1, ho.2.2]; decide) (by decide) ?_
    refine eh_goto (tgt := 20) dL_drawn_9 (by decide) ?_
    refine eh_iconst (v := 0) dL_drawn_20 (by decide) ?_
    exact eh_irt rfl dL_drawn_21 (hp_i hz (by rw [hy0]; rfl) hR hC hr)
  · obtain ⟨hz, hE, ow', c', ys', hR, hC, hr⟩ := cp_r h1
    rcases (show sp.1 = 1 ∨ sp.1 = 2 by omega) with e | e
    · have hE2 : E = "java/lang/IndexOutOfBoundsException" := hE.trans (by rw [e]; rfl)
      subst hE2
      refine ⟨[], ⟨0, 9, 12, 19⟩, [⟨0, 9, 16, 21⟩], "java/lang/IndexOutOfBoundsException", rfl, (fun _ h => absurd h List.not_mem_nil), by decide, by decide, kt_19, kc_19, fun q => ?_⟩
      show eh_W _ _ _ _ _ 12 [(0, .ref x), (1, .int p0), (2, .int p1), (3, .ref o)] [.ref q] S1 n1 k1
      refine eh_astore [(4, .ref q), (0, .ref x), (1, .int p0), (2, .int p1), (3, .ref o)] dL_drawn_12 (by decide) rfl ?_
      refine eh_iconst (v := 1) dL_drawn_14 (by decide) ?_
      exact eh_irt rfl dL_drawn_15 (hp_x e (by decide) rfl hR hC hr)
    · have hE2 : E = "java/lang/IllegalArgumentException" := hE.trans (by rw [e]; rfl)
      subst hE2
      refine ⟨[⟨0, 9, 12, 19⟩], ⟨0, 9, 16, 21⟩, [], "java/lang/IllegalArgumentException", rfl, (List.forall_mem_cons.mpr ⟨⟨by decide, _, kt_19, by decide +kernel⟩, (fun _ h => absurd h List.not_mem_nil)⟩), by decide, by decide, kt_21, kc_21, fun q => ?_⟩
      show eh_W _ _ _ _ _ 16 [(0, .ref x), (1, .int p0), (2, .int p1), (3, .ref o)] [.ref q] S1 n1 k1
      refine eh_astore [(4, .ref q), (0, .ref x), (1, .int p0), (2, .int p1), (3, .ref o)] dL_drawn_16 (by decide) rfl ?_
      refine eh_iconst (v := 2) dL_drawn_18 (by decide) ?_
      exact eh_irt rfl dL_drawn_19 (hp_x e (by decide) rfl hR hC hr)
set_option maxRecDepth 20000 in
set_option maxHeartbeats 4000000 in
theorem h_win (g : gl_T) {S : hs_T} {n k x l tp nz o : Nat} {ow : Nat → Nat} {s : st_T} {ys : List Nat} {c : Nat → Nat} (h : RC g S ow x l tp nz s ys c) (hb : BD s) (hO : OK s) (hn : n + 40000 ≤ ex_NM) (hk : k + 200000 ≤ ex_KM) (ho : o ∈ hs_L S ∧ hs_K S o = 13 ∧ hs_N S o = 1) {p0 p1 : Int32} : eh_M g 12 mL_win hL_win [.ref x, .int p0, .int p1, .ref o] S n k (hp g S ow x l tp nz c n k o s (sp_win s p0 p1)) := by
  have hc : ex_M g 7 mX9_win [.ref x, .int p0, .int p1] S n k (cp g S ow x l tp nz c n k (exJ exI exA) s (sp_win s p0 p1)) := c_win g h hb hO hn hk
  have hv := vi_win s p0 p1
  have hcd := cd_win s p0 p1
  generalize sp_win s p0 p1 = sp at hc hv hcd ⊢
  obtain ⟨y0, hy0⟩ := hv
  refine eh_enter (by decide +kernel) (Nat.le_of_ble_eq_true rfl) ?_
  show eh_W _ _ _ _ _ 0 [(0, .ref x), (1, .int p0), (2, .int p1), (3, .ref o)] [] _ _ _
  refine eh_aload_n dL_win_0 3 rfl ?_
  refine eh_iconst (v := 0) dL_win_1 (by decide) ?_
  refine eh_aload_n dL_win_2 0 rfl ?_
  refine eh_iload_n dL_win_3 1 rfl ?_
  refine eh_iload_n dL_win_4 2 rfl ?_
  refine eh_cXg [.int p0, .int p1] [.int 0, .ref o] dL_win_5 cV_L_51 hc h.1.1.1 h.1.1.2 rfl rfl rfl (by decide) (Nat.le_of_ble_eq_true rfl) rfl (fun v S1 n1 k1 h1 => ?_) (fun E S1 n1 k1 h1 => ?_)
  · obtain ⟨hz, rfl, ow', c', ys', hR, hC, hr⟩ := cp_l h1
    rw [hy0]
    show eh_W _ _ _ _ _ 8 [(0, .ref x), (1, .int p0), (2, .int p1), (3, .ref o)] [.int y0, .int 0, .ref o] S1 n1 k1
    refine eh_i2l dL_win_8 ?_
    refine eh_last (j := 0) dL_win_9 (hC.1 o ho.1).1 ((hC.1 o ho.1).2.1.trans ho.2.1) rfl (by rw [(hC.1 o ho.1).2.2.1, ho.2.2]; decide) (by decide) ?_
    refine eh_goto (tgt := 21) dL_win_10 (by decide) ?_
    refine eh_iconst (v := 0) dL_win_21 (by decide) ?_
    exact eh_irt rfl dL_win_22 (hp_i hz (by rw [hy0]; rfl) hR hC hr)
  · obtain ⟨hz, hE, ow', c', ys', hR, hC, hr⟩ := cp_r h1
    rcases (show sp.1 = 1 ∨ sp.1 = 2 by omega) with e | e
    · have hE2 : E = "java/lang/IndexOutOfBoundsException" := hE.trans (by rw [e]; rfl)
      subst hE2
      refine ⟨[], ⟨0, 10, 13, 19⟩, [⟨0, 10, 17, 21⟩], "java/lang/IndexOutOfBoundsException", rfl, (fun _ h => absurd h List.not_mem_nil), by decide, by decide, kt_19, kc_19, fun q => ?_⟩
      show eh_W _ _ _ _ _ 13 [(0, .ref x), (1, .int p0), (2, .int p1), (3, .ref o)] [.ref q] S1 n1 k1
      refine eh_astore [(4, .ref q), (0, .ref x), (1, .int p0), (2, .int p1), (3, .ref o)] dL_win_13 (by decide) rfl ?_
      refine eh_iconst (v := 1) dL_win_15 (by decide) ?_
      exact eh_irt rfl dL_win_16 (hp_x e (by decide) rfl hR hC hr)
    · have hE2 : E = "java/lang/IllegalArgumentException" := hE.trans (by rw [e]; rfl)
      subst hE2
      refine ⟨[⟨0, 10, 13, 19⟩], ⟨0, 10, 17, 21⟩, [], "java/lang/IllegalArgumentException", rfl, (List.forall_mem_cons.mpr ⟨⟨by decide, _, kt_19, by decide +kernel⟩, (fun _ h => absurd h List.not_mem_nil)⟩), by decide, by decide, kt_21, kc_21, fun q => ?_⟩
      show eh_W _ _ _ _ _ 17 [(0, .ref x), (1, .int p0), (2, .int p1), (3, .ref o)] [.ref q] S1 n1 k1
      refine eh_astore [(4, .ref q), (0, .ref x), (1, .int p0), (2, .int p1), (3, .ref o)] dL_win_17 (by decide) rfl ?_
      refine eh_iconst (v := 2) dL_win_19 (by decide) ?_
      exact eh_irt rfl dL_win_20 (hp_x e (by decide) rfl hR hC hr)
set_option maxRecDepth 20000 in
set_option maxHeartbeats 4000000 in
theorem h_claim (g : gl_T) {S : hs_T} {n k x l tp nz o : Nat} {ow : Nat → Nat} {s : st_T} {ys : List Nat} {c : Nat → Nat} (h : RC g S ow x l tp nz s ys c) (hb : BD s) (hO : OK s) (hn : n + 40000 ≤ ex_NM) (hk : k + 200000 ≤ ex_KM) (ho : o ∈ hs_L S ∧ hs_K S o = 13 ∧ hs_N S o = 1) {p0 : Int32} : eh_M g 12 mL_claim hL_claim [.ref x, .int p0, .ref o] S n k (hp g S ow x l tp nz c n k o s (sp_claim s p0)) := by
  have hc : ex_M g 7 mX9_claim [.ref x, .int p0] S n k (cp g S ow x l tp nz c n k (exN exI) s (sp_claim s p0)) := c_claim g h hb hO hn hk
  have hv := vi_claim s p0
  have hcd := cd_claim s p0
  generalize sp_claim s p0 = sp at hc hv hcd ⊢
  obtain ⟨y0, hy0⟩ := hv
  refine eh_enter (by decide +kernel) (Nat.le_of_ble_eq_true rfl) ?_
  show eh_W _ _ _ _ _ 0 [(0, .ref x), (1, .int p0), (2, .ref o)] [] _ _ _
  refine eh_aload_n dL_claim_0 2 rfl ?_
  refine eh_iconst (v := 0) dL_claim_1 (by decide) ?_
  refine eh_aload_n dL_claim_2 0 rfl ?_
  refine eh_iload_n dL_claim_3 1 rfl ?_
  refine eh_cXg [.int p0] [.int 0, .ref o] dL_claim_4 cV_L_54 hc h.1.1.1 h.1.1.2 rfl rfl rfl (by decide) (Nat.le_of_ble_eq_true rfl) rfl (fun v S1 n1 k1 h1 => ?_) (fun E S1 n1 k1 h1 => ?_)
  · obtain ⟨hz, rfl, ow', c', ys', hR, hC, hr⟩ := cp_l h1
    rw [hy0]
    show eh_W _ _ _ _ _ 7 [(0, .ref x), (1, .int p0), (2, .ref o)] [.int y0, .int 0, .ref o] S1 n1 k1
    refine eh_i2l dL_claim_7 ?_
    refine eh_last (j := 0) dL_claim_8 (hC.1 o ho.1).1 ((hC.1 o ho.1).2.1.trans ho.2.1) rfl (by rw [(hC.1 o ho.1).2.2.1, ho.2.2]; decide) (by decide) ?_
    refine eh_goto (tgt := 15) dL_claim_9 (by decide) ?_
    refine eh_iconst (v := 0) dL_claim_15 (by decide) ?_
    exact eh_irt rfl dL_claim_16 (hp_i hz (by rw [hy0]; rfl) hR hC hr)
  · obtain ⟨hz, hE, ow', c', ys', hR, hC, hr⟩ := cp_r h1
    have e : sp.1 = 1 := by omega
    have hE2 : E = "java/lang/IndexOutOfBoundsException" := hE.trans (by rw [e]; rfl)
    subst hE2
    refine ⟨[], ⟨0, 9, 12, 19⟩, [], "java/lang/IndexOutOfBoundsException", rfl, (fun _ h => absurd h List.not_mem_nil), by decide, by decide, kt_19, kc_19, fun q => ?_⟩
    show eh_W _ _ _ _ _ 12 [(0, .ref x), (1, .int p0), (2, .ref o)] [.ref q] S1 n1 k1
    refine eh_astore_n [(3, .ref q), (0, .ref x), (1, .int p0), (2, .ref o)] dL_claim_12 (by decide) rfl ?_
    refine eh_iconst (v := 1) dL_claim_13 (by decide) ?_
    exact eh_irt rfl dL_claim_14 (hp_x e (by decide) rfl hR hC hr)
set_option maxRecDepth 20000 in
set_option maxHeartbeats 4000000 in
theorem h_paid (g : gl_T) {S : hs_T} {n k x l tp nz o : Nat} {ow : Nat → Nat} {s : st_T} {ys : List Nat} {c : Nat → Nat} (h : RC g S ow x l tp nz s ys c) (hb : BD s) (hO : OK s) (hn : n + 40000 ≤ ex_NM) (hk : k + 200000 ≤ ex_KM) (ho : o ∈ hs_L S ∧ hs_K S o = 13 ∧ hs_N S o = 1) {p0 : Int32} : eh_M g 12 mL_paid hL_paid [.ref x, .int p0, .ref o] S n k (hp g S ow x l tp nz c n k o s (sp_paid s p0)) := by
  have hc : ex_M g 7 mX9_paid [.ref x, .int p0] S n k (cp g S ow x l tp nz c n k (exN exI) s (sp_paid s p0)) := c_paid g h hb hO hn hk
  have hv := vi_paid s p0
  have hcd := cd_paid s p0
  generalize sp_paid s p0 = sp at hc hv hcd ⊢
  obtain ⟨y0, hy0⟩ := hv
  refine eh_enter (by decide +kernel) (Nat.le_of_ble_eq_true rfl) ?_
  show eh_W _ _ _ _ _ 0 [(0, .ref x), (1, .int p0), (2, .ref o)] [] _ _ _
  refine eh_aload_n dL_paid_0 2 rfl ?_
  refine eh_iconst (v := 0) dL_paid_1 (by decide) ?_
  refine eh_aload_n dL_paid_2 0 rfl ?_
  refine eh_iload_n dL_paid_3 1 rfl ?_
  refine eh_cXg [.int p0] [.int 0, .ref o] dL_paid_4 cV_L_57 hc h.1.1.1 h.1.1.2 rfl rfl rfl (by decide) (Nat.le_of_ble_eq_true rfl) rfl (fun v S1 n1 k1 h1 => ?_) (fun E S1 n1 k1 h1 => ?_)
  · obtain ⟨hz, rfl, ow', c', ys', hR, hC, hr⟩ := cp_l h1
    rw [hy0]
    show eh_W _ _ _ _ _ 7 [(0, .ref x), (1, .int p0), (2, .ref o)] [.long y0, .int 0, .ref o] S1 n1 k1
    refine eh_last (j := 0) dL_paid_7 (hC.1 o ho.1).1 ((hC.1 o ho.1).2.1.trans ho.2.1) rfl (by rw [(hC.1 o ho.1).2.2.1, ho.2.2]; decide) (by decide) ?_
    refine eh_goto (tgt := 14) dL_paid_8 (by decide) ?_
    refine eh_iconst (v := 0) dL_paid_14 (by decide) ?_
    exact eh_irt rfl dL_paid_15 (hp_i hz (by rw [hy0]; rfl) hR hC hr)
  · obtain ⟨hz, hE, ow', c', ys', hR, hC, hr⟩ := cp_r h1
    have e : sp.1 = 1 := by omega
    have hE2 : E = "java/lang/IndexOutOfBoundsException" := hE.trans (by rw [e]; rfl)
    subst hE2
    refine ⟨[], ⟨0, 8, 11, 19⟩, [], "java/lang/IndexOutOfBoundsException", rfl, (fun _ h => absurd h List.not_mem_nil), by decide, by decide, kt_19, kc_19, fun q => ?_⟩
    show eh_W _ _ _ _ _ 11 [(0, .ref x), (1, .int p0), (2, .ref o)] [.ref q] S1 n1 k1
    refine eh_astore_n [(3, .ref q), (0, .ref x), (1, .int p0), (2, .ref o)] dL_paid_11 (by decide) rfl ?_
    refine eh_iconst (v := 1) dL_paid_12 (by decide) ?_
    exact eh_irt rfl dL_paid_13 (hp_x e (by decide) rfl hR hC hr)
