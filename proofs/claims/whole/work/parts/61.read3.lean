/-! an element more, to the cell -/
def al_pq (g : gl_T) (S S' : hs_T) (a e c kd : Nat) (xs' : List Nat) (n n' k k' : Nat) : Prop := ∃ e' c', al_at g S' a e' c' kd xs' ∧ hs_fr S S' [a, e] ∧ (e' = e ∨ e' ∉ hs_L S) ∧ (c' = c ∨ (c' = al_cap c ∧ c + 1 = xs'.length)) ∧ n' ≤ n + (if c' = c then 0 else 1) ∧ k' ≤ k + (if c' = c then 0 else c') ∧ hs_J S' a = hs_J S a
theorem al_fq1 {g : gl_T} {S : hs_T} {a e c kd x n k : Nat} {xs : List Nat} (h : al_at g S a e c kd xs) (hlt : xs.length < c) (hx : x ∈ hs_L S ∧ hs_K S x = kd ∧ kd < 11) : al_pq g S (hs_sI (hs_sR S e xs.length (some x)) a 2 (nI xs.length + 1)) a e c kd (xs ++ [x]) n n k k := by
  obtain ⟨⟨hL, hK, hR, hI⟩, ⟨hlc, hc5⟩, hE, hel, hxs⟩ := h
  obtain ⟨hLe, hKe, hNe, hc2⟩ : e ∈ hs_L S ∧ hs_K S e = 15 ∧ hs_N S e = c ∧ 2 ≤ c := by
    rcases hE with hE | ⟨-, hE⟩
    · exact hE
    · omega
  have hne : a ≠ e := fun q => by rw [q] at hK; omega
  refine ⟨e, c, ⟨⟨hL, hK, ?_, ?_⟩, ⟨by simp; omega, hc5⟩, Or.inl ⟨hLe, hKe, hNe, hc2⟩, fun i hi => ?_, fun y hy => ?_⟩, ?_, Or.inl rfl, Or.inl rfl, by simp, by simp, rfl⟩
  · rw [hs_R_sI, hs_R_sR, if_neg (fun q => hne q.1)]; exact hR
  · rw [hs_I_sI, if_pos ⟨rfl, rfl⟩]; simp; exact nI_1 _
  · rw [hs_R_sI, hs_R_sR]
    simp at hi
    by_cases hil : i = xs.length
    · subst hil; simp
    · rw [if_neg (fun q => hil q.2), hel i (by omega), List.getElem?_append_left (by omega)]
  · rcases List.mem_append.mp hy with hy | hy
    · exact hxs y hy
    · rw [List.mem_singleton.mp hy]; exact hx
  · exact hs_fr_tr (hs_fr_mono (hs_fr_sR S e _ _) (by simp)) (hs_fr_mono (hs_fr_sI _ a _ _) (by simp))
theorem al_fq2 {g : gl_T} {S S2 : hs_T} {a e c kd x n k q : Nat} {xs : List Nat} (h : al_at g S a e c kd xs) (hlt : xs.length = c) (hc3 : c ≤ 3000) (hx : x ∈ hs_L S ∧ hs_K S x = kd ∧ kd < 11) (hq : al_gr S a e c (al_cap c) q S2) : al_pq g S (hs_sI (hs_sR S2 q xs.length (some x)) a 2 (nI xs.length + 1)) a e c kd (xs ++ [x]) n (n + 1) k (k + al_cap c) := by
  obtain ⟨⟨hL, hK, hR, hI⟩, ⟨hlc, hc5⟩, hE, hel, hxs⟩ := h
  obtain ⟨hqn, rfl⟩ := hq
  obtain ⟨hb1, hb2, hb3, hb4⟩ := al_cap_b c (by rcases hE with ⟨_, _, _, h⟩ | ⟨_, h⟩ <;> omega) hc3
  obtain ⟨hLq, hKq, hNq⟩ := hs_new_q S q 15 (al_cap c)
  obtain ⟨hLa, hKa, hNa, hIa, hJa, hRa⟩ := hs_new_o (S := S) 15 (al_cap c) hqn hL
  have hne : a ≠ q := fun z => hqn (z ▸ hL)
  refine ⟨q, al_cap c, ⟨⟨hLa, hKa.trans hK, ?_, ?_⟩, ⟨by simp; omega, hb2⟩, Or.inl ⟨hLq, hKq, hNq, hb4⟩, fun i hi => ?_, fun y hy => ?_⟩, ?_, Or.inr hqn, Or.inr ⟨rfl, by simp; omega⟩, by rw [if_neg (by omega)]; omega, by rw [if_neg (by omega)]; omega, ?_⟩
  · rw [hs_R_sI, hs_R_sR, if_neg (fun z => hne z.1), hs_R_sR, if_pos ⟨rfl, rfl⟩]
  · rw [hs_I_sI, if_pos ⟨rfl, rfl⟩]; simp; exact nI_1 _
  · simp at hi
    rw [hs_R_sI, hs_R_sR]
    by_cases hil : i = xs.length
    · subst hil; simp
    · rw [if_neg (fun z => hil z.2), hs_R_sR, if_neg (fun z => hne z.1.symm), hs_R_rR, if_pos rfl, sb_cpy0' (by omega), hel i (by omega), List.getElem?_append_left (by omega)]
  · have hy2 : y ∈ hs_L S ∧ hs_K S y = kd ∧ kd < 11 := by
      rcases List.mem_append.mp hy with hy | hy
      · exact hxs y hy
      · rw [List.mem_singleton.mp hy]; exact hx
    exact ⟨(hs_new_o 15 (al_cap c) hqn hy2.1).1, (hs_new_o 15 (al_cap c) hqn hy2.1).2.1.trans hy2.2.1, hy2.2.2⟩
  · refine ⟨fun x hx => (hs_fr_new hqn [a, e]).1 x hx, fun x hx hw => ?_⟩
    simp at hw
    have hxq : x ≠ q := fun z => hqn (z ▸ hx)
    obtain ⟨-, -, -, h4, h5, h6⟩ := hs_new_o (S := S) 15 (al_cap c) hqn hx
    exact ⟨funext fun j => by rw [hs_I_sI, if_neg (fun z => hw.1 z.1)]; exact congrFun h4 j, h5, funext fun j => by rw [hs_R_sI, hs_R_sR, if_neg (fun z => hxq z.1), hs_R_sR, if_neg (fun z => hw.1 z.1), hs_R_rR, if_neg hxq]; exact congrFun h6 j⟩
  · exact hJa
set_option maxRecDepth 20000 in
set_option maxHeartbeats 2000000 in
theorem c_AL_adq3 (g : gl_T) {S : hs_T} {n k : Nat} {a e c kd x : Nat} {xs : List Nat} (h : al_at g S a e c kd xs) (hx : x ∈ hs_L S ∧ hs_K S x = kd ∧ kd < 11) (hlen : xs.length ≤ 2500) (hn1 : n + 1 ≤ ex_NM) (hk1 : k + 5000 ≤ ex_KM) {y : Int32} (hy : y = nI xs.length) : ex_M g 6 mJx4a65c_add_72be8 [.ref a, .ref x, .ref e, .int y] S n k (fun r S2 n2 k2 => r = .inl none ∧ al_pq g S S2 a e c kd (xs ++ [x]) n n2 k k2) := by
  obtain ⟨⟨hL, hK, hR, hI⟩, ⟨hlc, hc5⟩, hE, hel, hxs⟩ := id h
  subst hy
  refine ex_enter (by decide +kernel) (Nat.le_of_ble_eq_true rfl) ?_
  show ex_W _ _ _ _ 0 [(0, .ref a), (1, .ref x), (2, .ref e), (3, .int (nI xs.length))] [] _ _ _
  refine ex_iload_n dJx4a65c_add_72be8_0 3 rfl ?_
  refine ex_aload_n dJx4a65c_add_72be8_1 2 rfl ?_
  by_cases hlen2 : xs.length = c
  · have hcb := al_cap_b c (by rcases hE with ⟨_, _, _, q⟩ | ⟨_, q⟩ <;> omega) (by omega)
    have hk2 : k + al_cap c ≤ ex_KM := by omega
    have K6 : ∀ lv9, lv9 = [(0, .ref a), (1, .ref x), (2, .ref e), (3, .int (nI xs.length))] → ex_W g 6 mJx4a65c_add_72be8 (fun r S2 n2 k2 => r = .inl none ∧ al_pq g S S2 a e c kd (xs ++ [x]) n n2 k k2) 6 lv9 [] S n k := by
      intro lv9 hlv9
      subst hlv9
      refine ex_aload_n dJx4a65c_add_72be8_6 0 rfl ?_
      refine ex_cVg [] [] dJx4a65c_add_72be8_7 cV_Jx4a65c_129 (c_AL_grow0 g hL hK hR hE (by omega) (by rw [hI, hlen2]) (al_el h hlen2.symm) hn1 hk2) (by assumption) (by assumption) rfl rfl rfl (by decide) (Nat.le_of_ble_eq_true rfl) rfl ?_ (fun E S2 n2 k2 hh => by first | exact absurd hh.1 (by simp) | (obtain ⟨_, h, _⟩ := hh; exact absurd h (by simp)))
      rintro v S2 n2 k2 ⟨q, hv, hgr, rfl, rfl⟩
      cases hv
      show ex_W _ _ _ _ 10 [(0, .ref a), (1, .ref x), (2, .ref e), (3, .int (nI xs.length))] [.ref q] _ _ _
      obtain ⟨⟨hLq, hKq, hNq⟩, hold⟩ := al_gr_f hgr
      have hLa2 := (hold a hL).1
      have hKa2 := (hold a hL).2.trans hK
      have hLx2 := (hold x hx.1).1
      have hKx2 : hs_K S2 x < 11 := by rw [(hold x hx.1).2, hx.2.1]; exact hx.2.2
      refine ex_astore_n [(2, .ref q), (0, .ref a), (1, .ref x), (3, .int (nI xs.length))] dJx4a65c_add_72be8_10 (by decide) rfl ?_
      refine ex_aload_n dJx4a65c_add_72be8_11 0 rfl ?_
      refine ex_iload_n dJx4a65c_add_72be8_12 3 rfl ?_
      refine ex_aload_n dJx4a65c_add_72be8_13 2 rfl ?_
      refine ex_aastR (j := xs.length) dJx4a65c_add_72be8_14 hLq hKq hLx2 hKx2 rfl (by omega) (by omega) ?_
      refine ex_aload_n dJx4a65c_add_72be8_15 1 rfl ?_
      refine ex_iload_n dJx4a65c_add_72be8_16 3 rfl ?_
      refine ex_iconst (v := 1) dJx4a65c_add_72be8_17 (by decide) ?_
      refine ex_iadd dJx4a65c_add_72be8_18 ?_
      refine ex_putI dJx4a65c_add_72be8_19 fl_Jx4a65c_48 (pf_Jx4a65c_48 _) (by assumption) (by assumption) ?_
      exact ex_vrt rfl dJx4a65c_add_72be8_22 ⟨rfl, al_fq2 h hlen2 (by omega) hx hgr⟩
    rcases hE with ⟨hLe, hKe, hNe, hc2⟩ | ⟨he, hc0⟩
    · refine ex_alen dJx4a65c_add_72be8_2 hLe (by rw [hKe]; decide) ?_
      refine ex_icmp_ne (tgt := 11) dJx4a65c_add_72be8_3 (by decide) (fun c3 => absurd (by rw [hNe, hlen2]) c3) (fun c3 => K6 _ rfl)
    · subst he
      refine ex_alenC (q := (.object "java/lang/Object", 1, 0, fun _ _ => .null)) dJx4a65c_add_72be8_2 List.mem_cons_self ?_
      refine ex_icmp_ne (tgt := 11) dJx4a65c_add_72be8_3 (by decide) (fun c3 => absurd (by rw [hlen2, hc0]) c3) (fun c3 => K6 _ rfl)
  · obtain ⟨hLe, hKe, hNe, hc2⟩ : e ∈ hs_L S ∧ hs_K S e = 15 ∧ hs_N S e = c ∧ 2 ≤ c := by
      rcases hE with hE | ⟨-, hE⟩
      · exact hE
      · omega
    have hKx : hs_K S x < 11 := by rw [hx.2.1]; exact hx.2.2
    refine ex_alen dJx4a65c_add_72be8_2 hLe (by rw [hKe]; decide) ?_
    refine ex_icmp_ne (tgt := 11) dJx4a65c_add_72be8_3 (by decide) (fun c3 => ?_) (fun c3 => absurd ((nI_eq (by omega) (by omega)).mp c3) (by omega))
    refine ex_aload_n dJx4a65c_add_72be8_11 2 rfl ?_
    refine ex_iload_n dJx4a65c_add_72be8_12 3 rfl ?_
    refine ex_aload_n dJx4a65c_add_72be8_13 1 rfl ?_
    refine ex_aastR (j := xs.length) dJx4a65c_add_72be8_14 hLe hKe hx.1 hKx rfl (by omega) (by omega) ?_
    refine ex_aload_n dJx4a65c_add_72be8_15 0 rfl ?_
    refine ex_iload_n dJx4a65c_add_72be8_16 3 rfl ?_
    refine ex_iconst (v := 1) dJx4a65c_add_72be8_17 (by decide) ?_
    refine ex_iadd dJx4a65c_add_72be8_18 ?_
    refine ex_putI dJx4a65c_add_72be8_19 fl_Jx4a65c_48 (pf_Jx4a65c_48 _) (by assumption) (by assumption) ?_
    exact ex_vrt rfl dJx4a65c_add_72be8_22 ⟨rfl, al_fq1 h (by omega) hx⟩
theorem al_pq_mod {g : gl_T} {S S2 : hs_T} {a e c kd n n2 k k2 : Nat} {xs : List Nat} {v : Int32} (h : al_pq g (hs_sI S a 0 v) S2 a e c kd xs n n2 k k2) : al_pq g S S2 a e c kd xs n n2 k k2 := by
  obtain ⟨e2, c2, h1, h2, h3, h4, h5, h6, h7⟩ := h
  exact ⟨e2, c2, h1, hs_fr_tr (hs_fr_mono (hs_fr_sI S a 0 v) (by simp)) h2, h3, h4, h5, h6, h7⟩
set_option maxRecDepth 20000 in
set_option maxHeartbeats 2000000 in
theorem c_AL_adq (g : gl_T) {S : hs_T} {n k : Nat} {a e c kd x : Nat} {xs : List Nat} (h : al_at g S a e c kd xs) (hx : x ∈ hs_L S ∧ hs_K S x = kd ∧ kd < 11) (hlen : xs.length ≤ 2500) (hn1 : n + 1 ≤ ex_NM) (hk1 : k + 5000 ≤ ex_KM) : ex_M g 7 mJx4a65c_add_9ea2d [.ref a, .ref x] S n k (fun r S2 n2 k2 => r = .inl (some (.int 1)) ∧ al_pq g S S2 a e c kd (xs ++ [x]) n n2 k k2) := by
  have hL := h.1.1
  have hK := h.1.2.1
  refine ex_enter (by decide +kernel) (Nat.le_of_ble_eq_true rfl) ?_
  show ex_W _ _ _ _ 0 [(0, .ref a), (1, .ref x)] [] _ _ _
  refine ex_aload_n dJx4a65c_add_9ea2d_0 0 rfl ?_
  refine ex_dup dJx4a65c_add_9ea2d_1 rfl ?_
  refine ex_getI dJx4a65c_add_9ea2d_2 fl_Jx4a65c_63 (by assumption) (by assumption) ?_
  refine ex_iconst (v := 1) dJx4a65c_add_9ea2d_5 (by decide) ?_
  refine ex_iadd dJx4a65c_add_9ea2d_6 ?_
  refine ex_putI dJx4a65c_add_9ea2d_7 fl_Jx4a65c_63 (pf_Jx4a65c_63 _) (by assumption) (by assumption) ?_
  refine ex_aload_n dJx4a65c_add_9ea2d_10 0 rfl ?_
  refine ex_aload_n dJx4a65c_add_9ea2d_11 1 rfl ?_
  refine ex_aload_n dJx4a65c_add_9ea2d_12 0 rfl ?_
  refine ex_getR (b := e) dJx4a65c_add_9ea2d_13 fl_Jx4a65c_9 (by assumption) (by assumption) (al_mod h (hs_I S a 0 + 1)).1.2.2.1 ?_
  refine ex_aload_n dJx4a65c_add_9ea2d_16 0 rfl ?_
  refine ex_getI dJx4a65c_add_9ea2d_17 fl_Jx4a65c_48 (by assumption) (by assumption) ?_
  refine ex_cVg [.ref x, .ref e, .int (hs_I (hs_sI S a 0 ((hs_I S a 0) + 1)) a 2)] [] dJx4a65c_add_9ea2d_20 cV_Jx4a65c_131 (c_AL_adq3 g (al_mod h (hs_I S a 0 + 1)) hx hlen hn1 hk1 (al_mod h (hs_I S a 0 + 1)).1.2.2.2) (by assumption) (by assumption) rfl rfl rfl (by decide) (Nat.le_of_ble_eq_true rfl) rfl ?_ (fun E S2 n2 k2 hh => by first | exact absurd hh.1 (by simp) | (obtain ⟨_, h, _⟩ := hh; exact absurd h (by simp)))
  rintro v S2 n2 k2 ⟨hv, hpo⟩
  cases hv
  show ex_W _ _ _ _ 23 [(0, .ref a), (1, .ref x)] [] _ _ _
  refine ex_iconst (v := 1) dJx4a65c_add_9ea2d_23 (by decide) ?_
  exact ex_bret rfl (by decide) dJx4a65c_add_9ea2d_24 ⟨rfl, al_pq_mod hpo⟩
set_option maxRecDepth 20000 in
theorem c_Clause_init (g : gl_T) {S : hs_T} {n k a kk : Nat} (hL : a ∈ hs_L S) (hK : hs_K S a = 1) {y1 y2 : Int32} : ex_M g 1 mX0_init [.ref a, .ref kk, .int y1, .int y2] S n k (ex_rt none (hs_sI (hs_sI (hs_sR S a 0 (some kk)) a 1 y1) a 2 y2) n k) := by
  refine ex_enter (by decide +kernel) (Nat.le_of_ble_eq_true rfl) ?_
  show ex_W _ _ _ _ 0 [(0, .ref a), (1, .ref kk), (2, .int y1), (3, .int y2)] [] _ _ _
  refine ex_aload_n dX0_init_0 0 rfl ?_
  refine ex_objInit dX0_init_1 oi_X0_1 (by decide) (Nat.le_of_ble_eq_true rfl) ?_
  refine ex_aload_n dX0_init_4 0 rfl ?_
  refine ex_aload_n dX0_init_5 1 rfl ?_
  refine ex_putR dX0_init_6 fl_X0_7 (pf_X0_7 rfl rfl) (Or.inl ⟨_, rfl⟩) hL hK ?_
  refine ex_aload_n dX0_init_9 0 rfl ?_
  refine ex_iload_n dX0_init_10 2 rfl ?_
  refine ex_putI dX0_init_11 fl_X0_13 (pf_X0_13 rfl rfl) hL hK ?_
  refine ex_aload_n dX0_init_14 0 rfl ?_
  refine ex_iload_n dX0_init_15 3 rfl ?_
  refine ex_putI dX0_init_16 fl_X0_17 (pf_X0_17 rfl rfl) hL hK ?_
  exact ex_vrt rfl dX0_init_19 ex_rt_i
/-- the clauses of the rule that is read -/
def TL (g : gl_T) (fd : Int32) (S0 S : hs_T) (told cc : Nat) (ca : List Nat) : Prop := (told ∈ hs_L S ∧ hs_K S told = 6 ∧ told ∉ hs_L S0 ∧ hs_I S told 0 = fd) ∧ ∃ a e, hs_R S told 1 = some a ∧ al_at g S a e cc 1 ca ∧ a ∉ hs_L S0 ∧ (cc ≠ 0 → e ∉ hs_L S0)
theorem al_fr {g : gl_T} {S S' : hs_T} {a e c kd : Nat} {xs w : List Nat} (h : al_at g S a e c kd xs) (hf : hs_fr S S' w) (ha : a ∉ w) (he : c ≠ 0 → e ∉ w) : al_at g S' a e c kd xs := by
  obtain ⟨⟨h1, h2, h3, h4⟩, h5, h6, h7, h8⟩ := h
  obtain ⟨a1, a2, a3⟩ := hf.1 a h1
  obtain ⟨b1, b2, b3⟩ := hf.2 a h1 ha
  refine ⟨⟨a1, a2.trans h2, by rw [b3]; exact h3, by rw [b1]; exact h4⟩, h5, ?_, fun i hi => ?_, fun x hx => ?_⟩
  · rcases h6 with ⟨e1, e2, e3, e4⟩ | z
    · obtain ⟨c1, c2, c3⟩ := hf.1 e e1
      exact Or.inl ⟨c1, c2.trans e2, c3.trans e3, e4⟩
    · exact Or.inr z
  · rcases h6 with ⟨e1, e2, e3, e4⟩ | z
    · rw [(hf.2 e e1 (he (by omega))).2.2]; exact h7 i hi
    · omega
  · obtain ⟨x1, x2, x3⟩ := h8 x hx
    obtain ⟨c1, c2, c3⟩ := hf.1 x x1
    exact ⟨c1, c2.trans x2, x3⟩
theorem TL_fr {g : gl_T} {fd : Int32} {S0 S S' : hs_T} {told cc r : Nat} {ca : List Nat} (h : TL g fd S0 S told cc ca) (hr : hs_K S r = 7) (hf : hs_fr S S' [r]) : TL g fd S0 S' told cc ca := by
  obtain ⟨⟨h1, h2, h3⟩, a, e, h4, h5, h6, h7⟩ := h
  have n1 : told ∉ [r] := fun z => by rw [List.mem_singleton.mp z] at h2; omega
  have n2 : a ∉ [r] := fun z => by have := h5.1.2.1; rw [List.mem_singleton.mp z] at this; omega
  have n3 : cc ≠ 0 → e ∉ [r] := fun hc z => by
    rcases h5.2.2.1 with ⟨e1, e2, _⟩ | y
    · rw [List.mem_singleton.mp z] at e2; omega
    · exact hc y.2
  obtain ⟨c1, c2, c3⟩ := hf.1 told h1
  exact ⟨⟨c1, c2.trans h2, h3.1, by rw [(hf.2 told h1 n1).1]; exact h3.2⟩, a, e, by rw [(hf.2 told h1 n1).2.2]; exact h4, al_fr h5 hf n2 n3, h6, h7⟩
/-- while clauses are read -/
def TI (g : gl_T) (fd : Int32) (S0 S : hs_T) (r tp told : Nat) (T : List Int32) (N : Nat) (cs : List cl_T) (q : ps_T) (cc n0 n k0 k : Nat) : Prop := RS S r tp T N q ∧ r ∉ hs_L S0 ∧ hs_fr S0 S [] ∧ (∃ ca, TL g fd S0 S told cc ca ∧ ca.length = cs.length ∧ ∀ i, i < ca.length → CCl g S (ca.getD i 0) (cl_at cs i)) ∧ cs.length ≤ 10 ∧ (cc = 0 ∨ cc = 10) ∧ n ≤ n0 + cs.length + (if cc = 0 then 0 else 1) ∧ k ≤ k0 + 3 * cs.length + cc
theorem TI_r {g : gl_T} {fd : Int32} {S0 S S' : hs_T} {r tp told : Nat} {T : List Int32} {N : Nat} {cs : List cl_T} {q q' : ps_T} {cc n0 n k0 k : Nat} (h : TI g fd S0 S r tp told T N cs q cc n0 n k0 k) (hP : RS S' r tp T N q') (hf : hs_fr S S' [r]) : TI g fd S0 S' r tp told T N cs q' cc n0 n k0 k := by
  obtain ⟨h1, h2, h3, ⟨ca, h4, h5, h6⟩, h7⟩ := h
  refine ⟨hP, h2, ⟨fun x hx => ?_, fun x hx _ => ?_⟩, ⟨ca, TL_fr h4 h1.1.2 hf, h5, fun i hi => ?_⟩, h7⟩
  · obtain ⟨a1, a2, a3⟩ := h3.1 x hx
    obtain ⟨b1, b2, b3⟩ := hf.1 x a1
    exact ⟨b1, b2.trans a2, b3.trans a3⟩
  · obtain ⟨a1, a2, a3⟩ := h3.1 x hx
    obtain ⟨b1, b2, b3⟩ := h3.2 x hx (by simp)
    obtain ⟨c1, c2, c3⟩ := hf.2 x a1 (fun z => h2 (by rw [← List.mem_singleton.mp z]; exact hx))
    exact ⟨c1.trans b1, c2.trans b2, c3.trans b3⟩
  · obtain ⟨_, a, e, _, h8, _⟩ := h4
    obtain ⟨x1, x2⟩ := al_mem h8 hi
    obtain ⟨c1, c2, c3⟩ := hf.2 _ x1 (fun z => by rw [List.mem_singleton.mp z, h1.1.2] at x2; omega)
    unfold CCl
    rw [c1, c3]
    exact h6 i hi
theorem fr_zI {S S1 : hs_T} (h : hs_fr S S1 []) {z : Nat} (hz : z ∉ hs_L S) (i : Nat) (v : Int32) : hs_fr S (hs_sI S1 z i v) [] := ⟨h.1, fun x hx _ => by
  obtain ⟨a1, a2, a3⟩ := h.2 x hx (by simp)
  exact ⟨by show hs_u (hs_I S1) z i v x = _; rw [hs_u_off _ _ _ (show x ≠ z from fun y => hz (y ▸ hx))]; exact a1, a2, a3⟩⟩
theorem fr_zR {S S1 : hs_T} (h : hs_fr S S1 []) {z : Nat} (hz : z ∉ hs_L S) (i : Nat) (v : Option Nat) : hs_fr S (hs_sR S1 z i v) [] := ⟨h.1, fun x hx _ => by
  obtain ⟨a1, a2, a3⟩ := h.2 x hx (by simp)
  exact ⟨a1, a2, by show hs_u (hs_R S1) z i v x = _; rw [hs_u_off _ _ _ (show x ≠ z from fun y => hz (y ▸ hx))]; exact a3⟩⟩
/-- a clause more -/
theorem TI_add {g : gl_T} {fd : Int32} {S0 S S1 S2 : hs_T} {r tp told : Nat} {T : List Int32} {N : Nat} {cs : List cl_T} {q : ps_T} {cc n0 n n2 k0 k k2 : Nat} {ca : List Nat} {a e z : Nat} {cl : cl_T} (h : TI g fd S0 S r tp told T N cs q cc n0 n k0 k) (hl : cs.length < 10) (hto : told ∈ hs_L S ∧ hs_K S told = 6 ∧ told ∉ hs_L S0 ∧ hs_I S told 0 = fd) (hca : ca.length = cs.length) (hcf : ∀ i, i < ca.length → CCl g S (ca.getD i 0) (cl_at cs i)) (hR : hs_R S told 1 = some a) (hA : al_at g S a e cc 1 ca) (ha0 : a ∉ hs_L S0) (he0 : cc ≠ 0 → e ∉ hs_L S0) (hf1 : hs_fr S S1 []) (hz1 : z ∈ hs_L S1 ∧ hs_K S1 z = 1) (hc1 : CCl g S1 z cl) (hE1 : g.2.2.2.2 1 ∉ hs_L S1) (hpo : al_pq g S1 S2 a e cc 1 (ca ++ [z]) (n + 1) n2 (k + 3) k2) : ∃ c2, TI g fd S0 S2 r tp told T N (cs ++ [cl]) q c2 n0 n2 k0 k2 := by
  obtain ⟨hP, hr, hF, _, hcl, hcc, hnn, hkk⟩ := h
  obtain ⟨e2, c2, p1, p2, p3, p4, p5, p6, _⟩ := hpo
  obtain ⟨t1, t2, t3⟩ := hto
  have ek : ∀ y, y ∈ hs_L S1 → hs_K S1 y ≠ 0 → hs_K S1 y ≠ 15 → y ∉ [a, e] := by
    intro y hy h0 h15 hm
    rcases List.mem_cons.mp hm with hm | hm
    · subst hm; exact h0 ((hf1.1 y hA.1.1).2.1.trans hA.1.2.1)
    · have hm := List.mem_singleton.mp hm
      subst hm
      rcases hA.2.2.1 with ⟨e1, e2', _⟩ | ⟨q1, _⟩
      · exact h15 ((hf1.1 y e1).2.1.trans e2')
      · exact hE1 (q1 ▸ hy)
  have s1 : ∀ y, y ∈ hs_L S → y ∈ hs_L S1 ∧ hs_K S1 y = hs_K S y := fun y hy => ⟨(hf1.1 y hy).1, (hf1.1 y hy).2.1⟩
  have hP1 := RS_fr hP hf1 (by simp) (by simp)
  have hP2 := RS_fr hP1 p2 (ek r hP1.1.1 (by rw [hP1.1.2]; decide) (by rw [hP1.1.2]; decide)) (ek tp hP1.2.2.1.1 (by rw [hP1.2.2.1.2.1]; decide) (by rw [hP1.2.2.1.2.1]; decide))
  have hc2 : c2 = 10 := by
    have h1 := p1.2.1.1
    simp only [List.length_append, List.length_singleton] at h1
    rcases p4 with z4 | ⟨z4, z5⟩
    · rcases hcc with z6 | z6 <;> omega
    · simp only [List.length_append, List.length_singleton] at z5
      rcases hcc with z6 | z6
      · rw [z4, z6]; rfl
      · omega
  have e0 : ∀ y, y ∈ hs_L S0 → y ∉ [a, e] := by
    intro y hy hm
    rcases List.mem_cons.mp hm with hm | hm
    · subst hm; exact ha0 hy
    · have hm := List.mem_singleton.mp hm
      subst hm
      by_cases z0 : cc = 0
      · rcases hA.2.2.1 with ⟨_, _, _, e4⟩ | ⟨q1, _⟩
        · omega
        · exact hE1 (q1 ▸ (s1 y (hF.1 y hy).1).1)
      · exact he0 z0 hy
  refine ⟨c2, hP2, hr, ⟨fun y hy => ?_, fun y hy _ => ?_⟩, ⟨ca ++ [z], ⟨⟨?_, ?_, t3.1, ?_⟩, a, e2, ?_, p1, ha0, fun _ => ?_⟩, by simp [hca], fun i hi => ?_⟩, by simp; omega, Or.inr hc2, ?_, ?_⟩
  · obtain ⟨a1, a2, a3⟩ := hF.1 y hy
    obtain ⟨b1, b2, b3⟩ := hf1.1 y a1
    obtain ⟨c1, c2', c3⟩ := p2.1 y b1
    exact ⟨c1, c2'.trans (b2.trans a2), c3.trans (b3.trans a3)⟩
  · obtain ⟨a1, a2, a3⟩ := hF.2 y hy (by simp)
    obtain ⟨b1, b2, b3⟩ := hf1.2 y (hF.1 y hy).1 (by simp)
    obtain ⟨c1, c2', c3⟩ := p2.2 y (s1 y (hF.1 y hy).1).1 (e0 y hy)
    exact ⟨c1.trans (b1.trans a1), c2'.trans (b2.trans a2), c3.trans (b3.trans a3)⟩
  · exact (p2.1 told (s1 told t1).1).1
  · exact (p2.1 told (s1 told t1).1).2.1.trans ((s1 told t1).2.trans t2)
  · have hk1 := (s1 told t1).2.trans t2
    rw [(p2.2 told (s1 told t1).1 (ek told (s1 told t1).1 (by rw [hk1]; decide) (by rw [hk1]; decide))).1, (hf1.2 told t1 (by simp)).1]
    exact t3.2
  · have hk1 := (s1 told t1).2.trans t2
    rw [(p2.2 told (s1 told t1).1 (ek told (s1 told t1).1 (by rw [hk1]; decide) (by rw [hk1]; decide))).2.2, (hf1.2 told t1 (by simp)).2.2]
    exact hR
  · intro hy
    rcases p3 with z3 | z3
    · subst z3; exact e0 e2 hy (by simp)
    · exact z3 (s1 e2 (hF.1 e2 hy).1).1
  · rw [gd_app]
    unfold cl_at
    rw [gd_app, hca]
    by_cases z0 : i = cs.length
    · rw [if_pos z0, if_pos z0]
      unfold CCl at hc1 ⊢
      obtain ⟨c1, c2', c3⟩ := p2.2 z hz1.1 (ek z hz1.1 (by rw [hz1.2]; decide) (by rw [hz1.2]; decide))
      rw [c1, c3]; exact hc1
    · rw [if_neg z0, if_neg z0]
      simp at hi
      have hi2 : i < ca.length := by omega
      obtain ⟨x1, x2⟩ := al_mem hA hi2
      have hk1 := (s1 _ x1).2.trans x2
      obtain ⟨c1, c2', c3⟩ := p2.2 _ (s1 _ x1).1 (ek _ (s1 _ x1).1 (by rw [hk1]; decide) (by rw [hk1]; decide))
      obtain ⟨b1, b2, b3⟩ := hf1.2 _ x1 (by simp)
      have h9 := hcf i hi2
      unfold CCl at h9 ⊢
      rw [c1, c3, b1, b3]
      exact h9
  · rw [hc2] at p5
    simp only [List.length_append, List.length_singleton]
    rw [if_neg (by omega)]
    rcases hcc with z6 | z6
    · rw [z6] at p5 hnn; rw [if_neg (by decide)] at p5; rw [if_pos rfl] at hnn; omega
    · rw [z6] at p5 hnn; rw [if_pos rfl] at p5; rw [if_neg (by decide)] at hnn; omega
  · rw [hc2] at p6
    simp only [List.length_append, List.length_singleton]
    rcases hcc with z6 | z6
    · rw [z6] at p6 hkk; rw [if_neg (by decide)] at p6; omega
    · rw [z6] at p6 hkk; rw [if_pos rfl] at p6; omega
def st1 (b : Nat → Nat) (N : Nat) (cs : List cl_T) (p : ps_T) : List cl_T × ps_T := if cs.length = 10 then (cs, p_wr (if p_is b N p then 3 else 1) p.1 p) else (cs ++ [(p_cl b N p).1], (p_cl b N p).2)
def cpo (g : gl_T) (fd : Int32) (S0 : hs_T) (r tp told : Nat) (T : List Int32) (N n0 k0 : Nat) (X : List cl_T × ps_T) : ex_R := fun o S' n' k' => o = .inl none ∧ ∃ q cc cs', TI g fd S0 S' r tp told T N cs' q cc n0 n' k0 k' ∧ q.2 = X.2.2 ∧ (q.2.1 = 0 → q.1 = X.2.1 ∧ cs' = X.1)
theorem p_wr_i {c w : Nat} {p : ps_T} (h : p.2.1 = 0) : p_wr c w p = (p.1, c, some w) := by unfold p_wr; rw [if_neg (by omega)]
theorem cl_n {b : Nat → Nat} {N : Nat} {p : ps_T} (h0 : p.2.1 = 0) (hsk : sk b N p.1 = p.1) (w0 : ¬ wd b p.1 [102, 117, 110, 100]) (w1 : ¬ wd b p.1 [100, 97, 121, 115]) (w2 : ¬ wd b p.1 [116, 105, 101, 114]) (w3 : ¬ wd b p.1 [115, 104, 97, 114, 101]) : (p_cl b N p).2 = (p.1, 1, some p.1) := by
  have hb : p_bl b N p = p := by unfold p_bl; rw [hsk]
  have hn : p_need b N [115, 104, 97, 114, 101] p = (p.1, 1, some p.1) := by
    unfold p_need; rw [if_neg (by omega), hsk, if_neg w3, hb, p_wr_i h0]
  unfold p_cl
  rw [hsk, if_neg w0, if_neg w1, if_neg w2, hb]
  show p_sign b N 59 (p_num b N 0 100 (p_num b N 1 1000000000 (p_need b N [115, 104, 97, 114, 101] p))) = _
  rw [hn]
  rfl
theorem cl_0 {b : Nat → Nat} {N : Nat} {p : ps_T} (h0 : p.2.1 = 0) (hsk : sk b N p.1 = p.1) (w0 : wd b p.1 [102, 117, 110, 100]) : p_cl b N p = ((0, p_val b N 0 1000000 (p.1 + 4, p.2), p_val b N 1 1000000000 (p_sign b N 47 (p_num b N 0 1000000 (p.1 + 4, p.2)))), p_sign b N 59 (p_num b N 1 1000000000 (p_sign b N 47 (p_num b N 0 1000000 (p.1 + 4, p.2))))) := by
  have hb : p_bl b N p = p := by unfold p_bl; rw [hsk]
  have hn : p_need b N [102, 117, 110, 100] p = (p.1 + 4, p.2) := by
    unfold p_need; rw [if_neg (by omega), hsk, if_pos w0]; rfl
  unfold p_cl
  rw [hsk, if_pos w0, hb]
  unfold k0
  rw [hn]
theorem cl_1 {b : Nat → Nat} {N : Nat} {p : ps_T} (h0 : p.2.1 = 0) (hsk : sk b N p.1 = p.1) (w0 : ¬ wd b p.1 [102, 117, 110, 100]) (w1 : wd b p.1 [100, 97, 121, 115]) : p_cl b N p = ((1, p_val b N 0 1000000000 (p.1 + 4, p.2), 0), p_sign b N 59 (p_num b N 0 1000000000 (p.1 + 4, p.2))) := by
  have hb : p_bl b N p = p := by unfold p_bl; rw [hsk]
  have hn : p_need b N [100, 97, 121, 115] p = (p.1 + 4, p.2) := by
    unfold p_need; rw [if_neg (by omega), hsk, if_pos w1]; rfl
  unfold p_cl
  rw [hsk, if_neg w0, if_pos w1, hb]
  unfold k1
  rw [hn]
theorem cl_2 {b : Nat → Nat} {N : Nat} {p : ps_T} (h0 : p.2.1 = 0) (hsk : sk b N p.1 = p.1) (w0 : ¬ wd b p.1 [102, 117, 110, 100]) (w1 : ¬ wd b p.1 [100, 97, 121, 115]) (w2 : wd b p.1 [116, 105, 101, 114]) : p_cl b N p = ((2, p_val b N 1 1000000000 (p.1 + 4, p.2), p_val b N 0 1000000000 (p_need b N [120] (p_num b N 1 1000000000 (p.1 + 4, p.2)))), p_sign b N 59 (p_num b N 0 1000000000 (p_need b N [120] (p_num b N 1 1000000000 (p.1 + 4, p.2))))) := by
  have hb : p_bl b N p = p := by unfold p_bl; rw [hsk]
  have hn : p_need b N [116, 105, 101, 114] p = (p.1 + 4, p.2) := by
    unfold p_need; rw [if_neg (by omega), hsk, if_pos w2]; rfl
  unfold p_cl
  rw [hsk, if_neg w0, if_neg w1, if_pos w2, hb]
  unfold k2
  rw [hn]
theorem cl_3 {b : Nat → Nat} {N : Nat} {p : ps_T} (h0 : p.2.1 = 0) (hsk : sk b N p.1 = p.1) (w0 : ¬ wd b p.1 [102, 117, 110, 100]) (w1 : ¬ wd b p.1 [100, 97, 121, 115]) (w2 : ¬ wd b p.1 [116, 105, 101, 114]) (w3 : wd b p.1 [115, 104, 97, 114, 101]) : p_cl b N p = ((3, p_val b N 1 1000000000 (p.1 + 5, p.2), p_val b N 0 100 (p_num b N 1 1000000000 (p.1 + 5, p.2))), p_sign b N 59 (p_num b N 0 100 (p_num b N 1 1000000000 (p.1 + 5, p.2)))) := by
  have hb : p_bl b N p = p := by unfold p_bl; rw [hsk]
  have hn : p_need b N [115, 104, 97, 114, 101] p = (p.1 + 5, p.2) := by
    unfold p_need; rw [if_neg (by omega), hsk, if_pos w3]; rfl
  unfold p_cl
  rw [hsk, if_neg w0, if_neg w1, if_neg w2, hb]
  unfold k3
  rw [hn]
set_option maxRecDepth 20000 in
set_option maxHeartbeats 4000000 in
theorem r_clause_n (g : gl_T) {fd : Int32} {S0 S : hs_T} {n k r tp told N cc n0 k0 : Nat} {T : List Int32} {cs : List cl_T} {p : ps_T} (h : TI g fd S0 S r tp told T N cs p cc n0 n k0 k) (hn : n + 10 ≤ ex_NM) (hk : k + 6000 ≤ ex_KM) (h0 : p.2.1 = 0) (hsk : sk (pb T N) N p.1 = p.1) (w0 : ¬ wd (pb T N) p.1 [102, 117, 110, 100]) (w1 : ¬ wd (pb T N) p.1 [100, 97, 121, 115]) (w2 : ¬ wd (pb T N) p.1 [116, 105, 101, 114]) (w3 : ¬ wd (pb T N) p.1 [115, 104, 97, 114, 101]) : ex_M g 8 mX7_readClause [.ref r, .ref told] S n k (cpo g fd S0 r tp told T N n0 k0 (st1 (pb T N) N cs p)) := by
  have hTI1 := h
  have mt1 : told ∈ hs_L S ∧ hs_K S told = 6 := by obtain ⟨_, _, _, ⟨ca, ⟨⟨t1, t2, _⟩, _⟩, _⟩, _⟩ := id h; exact ⟨t1, t2⟩
  have hcl10 := h.2.2.2.2.1
  refine ex_enter (by decide +kernel) (Nat.le_of_ble_eq_true rfl) ?_
  show ex_W _ _ _ _ 0 [(0, .ref r), (1, .ref told)] [] _ _ _
  refine ex_aload_n dX7_readClause_0 0 rfl ?_
  refine ex_getI dX7_readClause_1 fl_X7_9 hTI1.1.1.1 hTI1.1.1.2 ?_
  refine ex_istore_n [(2, .int (hs_I S r 2)), (0, .ref r), (1, .ref told)] dX7_readClause_4 (by decide) rfl ?_
  refine ex_aload_n dX7_readClause_5 1 rfl ?_
  refine ex_cVr [] [] dX7_readClause_6 cV_X7_35 (r_kind_n g h.1 w0 w1 w2 w3) hTI1.1.1.1 hTI1.1.1.2 rfl rfl rfl (by decide) (Nat.le_of_ble_eq_true rfl) rfl ?_
  refine ex_astore_nN [(3, .null), (2, .int (hs_I S r 2)), (0, .ref r), (1, .ref told)] dX7_readClause_9 (by decide) rfl ?_
  refine ex_aload_nN dX7_readClause_10 0 rfl ?_
  refine ex_ifnonnullN dX7_readClause_11 ?_
  refine ex_aload_n dX7_readClause_14 2 rfl ?_
  refine ex_iconst (v := 1) dX7_readClause_15 (by decide) ?_
  refine ex_iload_n dX7_readClause_16 1 rfl ?_
  refine ex_cVg [.int 1, .int (hs_I S r 2)] [] dX7_readClause_17 cV_X7_39 (r_blame g hTI1.1 (c := 1) (w := p.1) rfl (by decide) h.1.2.1.2.2.1) hTI1.1.1.1 hTI1.1.1.2 rfl rfl rfl (by decide) (Nat.le_of_ble_eq_true rfl) rfl ?_ (fun E S' n' k' h => by obtain ⟨h1, -⟩ := h; cases h1)
  rintro v' S2 n' k' ⟨hr, hP2, hG2, hn, hk⟩
  cases hr
  have hn := hn.symm
  have hk := hk.symm
  subst hn hk
  have hTI2 := TI_r hTI1 hP2 hG2
  have mt2 : told ∈ hs_L S2 ∧ hs_K S2 told = 6 := by obtain ⟨_, _, _, ⟨ca, ⟨⟨t1, t2, _⟩, _⟩, _⟩, _⟩ := id hTI2; exact ⟨t1, t2⟩
  show ex_W _ _ _ _ 20 [(3, .null), (2, .int (hs_I S r 2)), (0, .ref r), (1, .ref told)] [] S2 n k
  exact ex_vrt rfl dX7_readClause_20 (by
  refine ⟨rfl, _, cc, cs, hTI2, ?_, fun z => absurd z (by show ¬ (1 : Nat) = 0; decide)⟩
  unfold st1
  split
  · rw [if_neg (fun z => by rw [p_is, hsk] at z; exact z.elim w0 (fun z => z.elim w1 (fun z => z.elim w2 w3))), p_wr_i h0]
  · rw [cl_n h0 hsk w0 w1 w2 w3])
set_option maxRecDepth 20000 in
set_option maxHeartbeats 4000000 in
theorem r_clause_0 (g : gl_T) {fd : Int32} {S0 S : hs_T} {n k r tp told N cc n0 k0 : Nat} {T : List Int32} {cs : List cl_T} {p : ps_T} (h : TI g fd S0 S r tp told T N cs p cc n0 n k0 k) (hn : n + 10 ≤ ex_NM) (hk : k + 6000 ≤ ex_KM) (h0 : p.2.1 = 0) (hsk : sk (pb T N) N p.1 = p.1) (w0 : wd (pb T N) p.1 [102, 117, 110, 100]) : ex_M g 8 mX7_readClause [.ref r, .ref told] S n k (cpo g fd S0 r tp told T N n0 k0 (st1 (pb T N) N cs p)) := by
  have hTI1 := h
  have mt1 : told ∈ hs_L S ∧ hs_K S told = 6 := by obtain ⟨_, _, _, ⟨ca, ⟨⟨t1, t2, _⟩, _⟩, _⟩, _⟩ := id h; exact ⟨t1, t2⟩
  have hcl10 := h.2.2.2.2.1
  refine ex_enter (by decide +kernel) (Nat.le_of_ble_eq_true rfl) ?_
  show ex_W _ _ _ _ 0 [(0, .ref r), (1, .ref told)] [] _ _ _
  by_cases hl : cs.length = 10
  · refine ex_aload_n dX7_readClause_0 0 rfl ?_
    refine ex_getI dX7_readClause_1 fl_X7_9 hTI1.1.1.1 hTI1.1.1.2 ?_
    refine ex_istore_n [(2, .int (hs_I S r 2)), (0, .ref r), (1, .ref told)] dX7_readClause_4 (by decide) rfl ?_
    refine ex_aload_n dX7_readClause_5 1 rfl ?_
    refine ex_cVg [] [] dX7_readClause_6 cV_X7_35 (r_kind_0 g hTI1.1 w0) hTI1.1.1.1 hTI1.1.1.2 rfl rfl rfl (by decide) (Nat.le_of_ble_eq_true rfl) rfl ?_ (fun E S' n' k' h => by obtain ⟨h1, -⟩ := h; cases h1)
    rintro v' S2 n' k' ⟨hr, hP2, hG2, hn, hk⟩
    cases hr
    have hn := hn.symm
    have hk := hk.symm
    subst hn hk
    have hTI2 := TI_r hTI1 hP2 hG2
    have mt2 : told ∈ hs_L S2 ∧ hs_K S2 told = 6 := by obtain ⟨_, _, _, ⟨ca, ⟨⟨t1, t2, _⟩, _⟩, _⟩, _⟩ := id hTI2; exact ⟨t1, t2⟩
    show ex_W _ _ _ _ 9 [(2, .int (hs_I S r 2)), (0, .ref r), (1, .ref told)] [.ref (g.2.2.2.2 3)] S2 n k
    refine ex_astore_n [(3, .ref (g.2.2.2.2 3)), (2, .int (hs_I S r 2)), (0, .ref r), (1, .ref told)] dX7_readClause_9 (by decide) rfl ?_
    refine ex_aload_n dX7_readClause_10 0 rfl ?_
    refine ex_ifnonnull (tgt := 21) dX7_readClause_11 (by decide) ?_
    obtain ⟨ca, ⟨_, a, e, hR, hA, ha0, he0⟩, hca, hcf⟩ := id hTI2.2.2.2.1
    refine ex_aload_n dX7_readClause_21 3 rfl ?_
    refine ex_getR (b := a) dX7_readClause_22 fl_X7_43 mt2.1 mt2.2 hR ?_
    refine ex_cVr [] [] dX7_readClause_25 cV_X7_49 (c_szn g hA hca) hA.1.1 hA.1.2.1 rfl rfl rfl (by decide) (Nat.le_of_ble_eq_true rfl) rfl ?_
    refine ex_bipush (v := 10) dX7_readClause_28 (by decide) ?_
    refine ex_icmp_lt (tgt := 40) dX7_readClause_30 (by decide) (fun c30 => absurd c30 (by rw [hl]; decide)) (fun c30 => ?_)
    refine ex_aload_n dX7_readClause_33 2 rfl ?_
    refine ex_iconst (v := 3) dX7_readClause_34 (by decide) ?_
    refine ex_iload_n dX7_readClause_35 1 rfl ?_
    refine ex_cVg [.int 3, .int (hs_I S r 2)] [] dX7_readClause_36 cV_X7_39 (r_blame g hTI2.1 (c := 3) (w := p.1) rfl (by decide) h.1.2.1.2.2.1) hTI2.1.1.1 hTI2.1.1.2 rfl rfl rfl (by decide) (Nat.le_of_ble_eq_true rfl) rfl ?_ (fun E S' n' k' h => by obtain ⟨h1, -⟩ := h; cases h1)
    rintro v' S3 n' k' ⟨hr, hP3, hG3, hn, hk⟩
    cases hr
    have hn := hn.symm
    have hk := hk.symm
    subst hn hk
    have hTI3 := TI_r hTI2 hP3 hG3
    have mt3 : told ∈ hs_L S3 ∧ hs_K S3 told = 6 := by obtain ⟨_, _, _, ⟨ca, ⟨⟨t1, t2, _⟩, _⟩, _⟩, _⟩ := id hTI3; exact ⟨t1, t2⟩
    show ex_W _ _ _ _ 39 [(3, .ref (g.2.2.2.2 3)), (2, .int (hs_I S r 2)), (0, .ref r), (1, .ref told)] [] S3 n k
    exact ex_vrt rfl dX7_readClause_39 (by
  refine ⟨rfl, _, cc, cs, hTI3, ?_, fun z => absurd z (by show ¬ (3 : Nat) = 0; decide)⟩
  unfold st1
  rw [if_pos hl, if_pos (by rw [p_is, hsk]; exact Or.inl w0), p_wr_i h0])
  · have hX := cl_0 (b := pb T N) (N := N) h0 hsk w0
    have hst : st1 (pb T N) N cs p = (cs ++ [(p_cl (pb T N) N p).1], (p_cl (pb T N) N p).2) := by unfold st1; rw [if_neg hl]
    rw [hX] at hst
    refine ex_aload_n dX7_readClause_0 0 rfl ?_
    refine ex_getI dX7_readClause_1 fl_X7_9 hTI1.1.1.1 hTI1.1.1.2 ?_
    refine ex_istore_n [(2, .int (hs_I S r 2)), (0, .ref r), (1, .ref told)] dX7_readClause_4 (by decide) rfl ?_
    refine ex_aload_n dX7_readClause_5 1 rfl ?_
    refine ex_cVg [] [] dX7_readClause_6 cV_X7_35 (r_kind_0 g hTI1.1 w0) hTI1.1.1.1 hTI1.1.1.2 rfl rfl rfl (by decide) (Nat.le_of_ble_eq_true rfl) rfl ?_ (fun E S' n' k' h => by obtain ⟨h1, -⟩ := h; cases h1)
    rintro v' S2 n' k' ⟨hr, hP2, hG2, hn, hk⟩
    cases hr
    have hn := hn.symm
    have hk := hk.symm
    subst hn hk
    have hTI2 := TI_r hTI1 hP2 hG2
    have mt2 : told ∈ hs_L S2 ∧ hs_K S2 told = 6 := by obtain ⟨_, _, _, ⟨ca, ⟨⟨t1, t2, _⟩, _⟩, _⟩, _⟩ := id hTI2; exact ⟨t1, t2⟩
    show ex_W _ _ _ _ 9 [(2, .int (hs_I S r 2)), (0, .ref r), (1, .ref told)] [.ref (g.2.2.2.2 3)] S2 n k
    refine ex_astore_n [(3, .ref (g.2.2.2.2 3)), (2, .int (hs_I S r 2)), (0, .ref r), (1, .ref told)] dX7_readClause_9 (by decide) rfl ?_
    refine ex_aload_n dX7_readClause_10 0 rfl ?_
    refine ex_ifnonnull (tgt := 21) dX7_readClause_11 (by decide) ?_
    obtain ⟨ca, ⟨_, a, e, hR, hA, ha0, he0⟩, hca, hcf⟩ := id hTI2.2.2.2.1
    refine ex_aload_n dX7_readClause_21 3 rfl ?_
    refine ex_getR (b := a) dX7_readClause_22 fl_X7_43 mt2.1 mt2.2 hR ?_
    refine ex_cVr [] [] dX7_readClause_25 cV_X7_49 (c_szn g hA hca) hA.1.1 hA.1.2.1 rfl rfl rfl (by decide) (Nat.le_of_ble_eq_true rfl) rfl ?_
    refine ex_bipush (v := 10) dX7_readClause_28 (by decide) ?_
    refine ex_icmp_lt (tgt := 40) dX7_readClause_30 (by decide) (fun c30 => ?_) (fun c30 => absurd (nI_lt (b := 10) (by omega) (by decide)) c30)
    refine ex_aload_n dX7_readClause_40 2 rfl ?_
    refine ex_aload_n dX7_readClause_41 0 rfl ?_
    refine ex_getC (q := ("BondOffice$Kind", "firstLeast", "I", 3, fun _ => .int 0)) dX7_readClause_42 cF_1 gc_X7_55 ?_
    refine ex_aload_n dX7_readClause_45 0 rfl ?_
    refine ex_getC (q := ("BondOffice$Kind", "firstMost", "I", 3, fun _ => .int 1000000)) dX7_readClause_46 cF_2 gc_X7_60 ?_
    refine ex_cVg [.int 0, .int 1000000] [] dX7_readClause_49 cV_X7_63 (r_num g hTI2.1 (l := 0) (mm := 1000000) rfl rfl (by decide) (by decide)) hTI2.1.1.1 hTI2.1.1.2 rfl rfl rfl (by decide) (Nat.le_of_ble_eq_true rfl) rfl ?_ (fun E S' n' k' h => by obtain ⟨h1, -⟩ := h; cases h1)
    rintro v' S3 n' k' ⟨hr, hP3, hG3, hn, hk⟩
    cases hr
    have hn := hn.symm
    have hk := hk.symm
    subst hn hk
    have hTI3 := TI_r hTI2 hP3 hG3
    have mt3 : told ∈ hs_L S3 ∧ hs_K S3 told = 6 := by obtain ⟨_, _, _, ⟨ca, ⟨⟨t1, t2, _⟩, _⟩, _⟩, _⟩ := id hTI3; exact ⟨t1, t2⟩
    show ex_W _ _ _ _ 52 [(3, .ref (g.2.2.2.2 3)), (2, .int (hs_I S r 2)), (0, .ref r), (1, .ref told)] [.int (nI (p_val (pb T N) N 0 1000000 ((p.1 + 4, p.2))))] S3 n k
    refine ex_istore [(4, .int (nI (p_val (pb T N) N 0 1000000 ((p.1 + 4, p.2))))), (3, .ref (g.2.2.2.2 3)), (2, .int (hs_I S r 2)), (0, .ref r), (1, .ref told)] dX7_readClause_52 (by decide) rfl ?_
    refine ex_iconst (v := 0) dX7_readClause_54 (by decide) ?_
    refine ex_istore [(5, .int 0), (4, .int (nI (p_val (pb T N) N 0 1000000 ((p.1 + 4, p.2))))), (3, .ref (g.2.2.2.2 3)), (2, .int (hs_I S r 2)), (0, .ref r), (1, .ref told)] dX7_readClause_55 (by decide) rfl ?_
    refine ex_aload_n dX7_readClause_57 2 rfl ?_
    refine ex_cVC (q := ("BondOffice$Kind", 3)) [] [] dX7_readClause_58 cV_X7_67 (c_has2_0 g) cO_0 rfl rfl (by decide) (Nat.le_of_ble_eq_true rfl) rfl ?_
    refine ex_if_eq (tgt := 96) dX7_readClause_61 (by decide) (fun c61 => absurd c61 (by decide)) (fun c61 => ?_)
    refine ex_aload_n dX7_readClause_64 2 rfl ?_
    refine ex_getC (q := ("BondOffice$Kind", "joint", "Ljava/lang/String;", 3, fun ad => .ref (ad 15))) dX7_readClause_65 cF_3 gc_X7_71 ?_
    refine ex_cVC (q := ("java/lang/String", 15)) [] [] dX7_readClause_68 cV_X7_75 (c_empty_5 g) cO_9 rfl rfl (by decide) (Nat.le_of_ble_eq_true rfl) rfl ?_
    refine ex_if_ne (tgt := 82) dX7_readClause_71 (by decide) (fun c71 => absurd (by decide) c71) (fun c71 => ?_)
    refine ex_aload_n dX7_readClause_74 4 rfl ?_
    refine ex_aload_n dX7_readClause_75 2 rfl ?_
    refine ex_getC (q := ("BondOffice$Kind", "joint", "Ljava/lang/String;", 3, fun ad => .ref (ad 15))) dX7_readClause_76 cF_3 gc_X7_71 ?_
    refine ex_cVg [.ref (g.2.2.2.2 15)] [] dX7_readClause_79 cV_X7_80 (r_exp_5 g hTI3.1) hTI3.1.1.1 hTI3.1.1.2 rfl rfl rfl (by decide) (Nat.le_of_ble_eq_true rfl) rfl ?_ (fun E S' n' k' h => by obtain ⟨h1, -⟩ := h; cases h1)
    rintro v' S4 n' k' ⟨hr, hP4, hG4, hn, hk⟩
    cases hr
    have hn := hn.symm
    have hk := hk.symm
    subst hn hk
    have hTI4 := TI_r hTI3 hP4 hG4
    have mt4 : told ∈ hs_L S4 ∧ hs_K S4 told = 6 := by obtain ⟨_, _, _, ⟨ca, ⟨⟨t1, t2, _⟩, _⟩, _⟩, _⟩ := id hTI4; exact ⟨t1, t2⟩
    show ex_W _ _ _ _ 82 [(5, .int 0), (4, .int (nI (p_val (pb T N) N 0 1000000 ((p.1 + 4, p.2))))), (3, .ref (g.2.2.2.2 3)), (2, .int (hs_I S r 2)), (0, .ref r), (1, .ref told)] [] S4 n k
    refine ex_aload_n dX7_readClause_82 4 rfl ?_
    refine ex_aload_n dX7_readClause_83 2 rfl ?_
    refine ex_getC (q := ("BondOffice$Kind", "secondLeast", "I", 3, fun _ => .int 1)) dX7_readClause_84 cF_4 gc_X7_84 ?_
    refine ex_aload_n dX7_readClause_87 2 rfl ?_
    refine ex_getC (q := ("BondOffice$Kind", "secondMost", "I", 3, fun _ => .int (1000000000))) dX7_readClause_88 cF_5 gc_X7_87 ?_
    refine ex_cVg [.int 1, .int (1000000000)] [] dX7_readClause_91 cV_X7_63 (r_num g hTI4.1 (l := 1) (mm := 1000000000) rfl rfl (by decide) (by decide)) hTI4.1.1.1 hTI4.1.1.2 rfl rfl rfl (by decide) (Nat.le_of_ble_eq_true rfl) rfl ?_ (fun E S' n' k' h => by obtain ⟨h1, -⟩ := h; cases h1)
    rintro v' S5 n' k' ⟨hr, hP5, hG5, hn, hk⟩
    cases hr
    have hn := hn.symm
    have hk := hk.symm
    subst hn hk
    have hTI5 := TI_r hTI4 hP5 hG5
    have mt5 : told ∈ hs_L S5 ∧ hs_K S5 told = 6 := by obtain ⟨_, _, _, ⟨ca, ⟨⟨t1, t2, _⟩, _⟩, _⟩, _⟩ := id hTI5; exact ⟨t1, t2⟩
    show ex_W _ _ _ _ 94 [(5, .int 0), (4, .int (nI (p_val (pb T N) N 0 1000000 ((p.1 + 4, p.2))))), (3, .ref (g.2.2.2.2 3)), (2, .int (hs_I S r 2)), (0, .ref r), (1, .ref told)] [.int (nI (p_val (pb T N) N 1 1000000000 (p_sign (pb T N) N 47 (p_num (pb T N) N 0 1000000 ((p.1 + 4, p.2))))))] S5 n k
    refine ex_istore [(5, .int (nI (p_val (pb T N) N 1 1000000000 (p_sign (pb T N) N 47 (p_num (pb T N) N 0 1000000 ((p.1 + 4, p.2))))))), (4, .int (nI (p_val (pb T N) N 0 1000000 ((p.1 + 4, p.2))))), (3, .ref (g.2.2.2.2 3)), (2, .int (hs_I S r 2)), (0, .ref r), (1, .ref told)] dX7_readClause_94 (by decide) rfl ?_
    refine ex_aload_n dX7_readClause_96 4 rfl ?_
    refine ex_ldcS (q := ("BondOffice$RuleReader", 90, ";", 17)) dX7_readClause_97 cR_0 rfl rfl ?_
    refine ex_cVg [.ref (g.2.2.2.2 17)] [] dX7_readClause_99 cV_X7_80 (r_exp_7 g hTI5.1) hTI5.1.1.1 hTI5.1.1.2 rfl rfl rfl (by decide) (Nat.le_of_ble_eq_true rfl) rfl ?_ (fun E S' n' k' h => by obtain ⟨h1, -⟩ := h; cases h1)
    rintro v' S6 n' k' ⟨hr, hP6, hG6, hn, hk⟩
    cases hr
    have hn := hn.symm
    have hk := hk.symm
    subst hn hk
    have hTI6 := TI_r hTI5 hP6 hG6
    have mt6 : told ∈ hs_L S6 ∧ hs_K S6 told = 6 := by obtain ⟨_, _, _, ⟨ca, ⟨⟨t1, t2, _⟩, _⟩, _⟩, _⟩ := id hTI6; exact ⟨t1, t2⟩
    show ex_W _ _ _ _ 102 [(5, .int (nI (p_val (pb T N) N 1 1000000000 (p_sign (pb T N) N 47 (p_num (pb T N) N 0 1000000 ((p.1 + 4, p.2))))))), (4, .int (nI (p_val (pb T N) N 0 1000000 ((p.1 + 4, p.2))))), (3, .ref (g.2.2.2.2 3)), (2, .int (hs_I S r 2)), (0, .ref r), (1, .ref told)] [] S6 n k
    refine ex_aload_n dX7_readClause_102 4 rfl ?_
    refine ex_getI dX7_readClause_103 fl_X7_15 hTI6.1.1.1 hTI6.1.1.2 ?_
    refine ex_if_ne (tgt := 129) dX7_readClause_106 (by decide) (fun c106 => ?_) (fun c106 => ?_)
    · exact ex_vrt rfl dX7_readClause_129 ⟨rfl, _, cc, cs, hTI6, by rw [hst], fun z => absurd (by rw [hTI6.1.2.1.2.2.2.1, z]; rfl) c106⟩
    · have hq0 : (p_sign (pb T N) N 59 (p_num (pb T N) N 1 1000000000 (p_sign (pb T N) N 47 (p_num (pb T N) N 0 1000000 (p.1 + 4, p.2))))).2.1 = 0 := (nI_eq (b := 0) (by have := hTI6.1.2.2.2.2.2.2; omega) (by decide)).mp (hTI6.1.2.1.2.2.2.1.symm.trans c106)
      obtain ⟨ca2, ⟨hto2, a2, e2, hR2, hA2, ha02, he02⟩, hca2, hcf2⟩ := id hTI6.2.2.2.1
      refine ex_aload_n dX7_readClause_109 5 rfl ?_
      refine ex_getR (b := a2) dX7_readClause_110 fl_X7_43 mt6.1 mt6.2 hR2 ?_
      refine ex_new (N := 3) dX7_readClause_113 nl_X7_92 rfl (by omega) (by omega) (fun z hz => ?_)
      refine ex_dup dX7_readClause_116 rfl ?_
      refine ex_aload_n dX7_readClause_117 2 rfl ?_
      refine ex_iload dX7_readClause_118 1 rfl ?_
      refine ex_iload dX7_readClause_120 0 rfl ?_
      refine ex_cIv [.ref (g.2.2.2.2 3), .int (nI (p_val (pb T N) N 0 1000000 ((p.1 + 4, p.2)))), .int (nI (p_val (pb T N) N 1 1000000000 (p_sign (pb T N) N 47 (p_num (pb T N) N 0 1000000 ((p.1 + 4, p.2))))))] [.ref z, .ref a2] dX7_readClause_122 cI_X7_94 (c_Clause_init g (hs_new_q _ _ _ _).1 (hs_new_q _ _ _ _).2.1) rfl (by decide) (Nat.le_of_ble_eq_true rfl) rfl ?_
      have hf1 : hs_fr S6 (hs_sI (hs_sI (hs_sR (hs_new S6 z 1 0) z 0 (some (g.2.2.2.2 3))) z 1 (nI (p_val (pb T N) N 0 1000000 ((p.1 + 4, p.2))))) z 2 (nI (p_val (pb T N) N 1 1000000000 (p_sign (pb T N) N 47 (p_num (pb T N) N 0 1000000 ((p.1 + 4, p.2))))))) [] := fr_zI (fr_zI (fr_zR (hs_fr_new hz []) hz _ _) hz _ _) hz _ _
      have hz1 : z ∈ hs_L (hs_sI (hs_sI (hs_sR (hs_new S6 z 1 0) z 0 (some (g.2.2.2.2 3))) z 1 (nI (p_val (pb T N) N 0 1000000 ((p.1 + 4, p.2))))) z 2 (nI (p_val (pb T N) N 1 1000000000 (p_sign (pb T N) N 47 (p_num (pb T N) N 0 1000000 ((p.1 + 4, p.2))))))) ∧ hs_K (hs_sI (hs_sI (hs_sR (hs_new S6 z 1 0) z 0 (some (g.2.2.2.2 3))) z 1 (nI (p_val (pb T N) N 0 1000000 ((p.1 + 4, p.2))))) z 2 (nI (p_val (pb T N) N 1 1000000000 (p_sign (pb T N) N 47 (p_num (pb T N) N 0 1000000 ((p.1 + 4, p.2))))))) z = 1 := ⟨(hs_new_q S6 z 1 0).1, (hs_new_q S6 z 1 0).2.1⟩
      have hc1 : CCl g (hs_sI (hs_sI (hs_sR (hs_new S6 z 1 0) z 0 (some (g.2.2.2.2 3))) z 1 (nI (p_val (pb T N) N 0 1000000 ((p.1 + 4, p.2))))) z 2 (nI (p_val (pb T N) N 1 1000000000 (p_sign (pb T N) N 47 (p_num (pb T N) N 0 1000000 ((p.1 + 4, p.2))))))) z (0, p_val (pb T N) N 0 1000000 (p.1 + 4, p.2), p_val (pb T N) N 1 1000000000 (p_sign (pb T N) N 47 (p_num (pb T N) N 0 1000000 (p.1 + 4, p.2)))) := by
        unfold CCl
        refine ⟨?_, ?_, ?_⟩
        · simp [hs_R_sI, hs_R_sR]
        · simp [hs_I_sI]
        · simp [hs_I_sI]; try rfl
      generalize hs_sI (hs_sI (hs_sR (hs_new S6 z 1 0) z 0 (some (g.2.2.2.2 3))) z 1 (nI (p_val (pb T N) N 0 1000000 ((p.1 + 4, p.2))))) z 2 (nI (p_val (pb T N) N 1 1000000000 (p_sign (pb T N) N 47 (p_num (pb T N) N 0 1000000 ((p.1 + 4, p.2)))))) = S9 at hf1 hz1 hc1 ⊢
      have hA9 := al_fr hA2 hf1 (by simp) (by simp)
      refine ex_c1 (fun hE9 => ?_)
      refine ex_cVg [.ref z] [] dX7_readClause_125 cV_X7_97 (c_AL_adq g hA9 ⟨hz1.1, hz1.2, by decide⟩ (by omega) (by omega) (by omega)) hA9.1.1 hA9.1.2.1 rfl rfl rfl (by decide) (Nat.le_of_ble_eq_true rfl) rfl ?_ (fun E S' n' k' h => by obtain ⟨h1, -⟩ := h; cases h1)
      rintro v' S8 n8 k8 ⟨hr8, hpo⟩
      cases hr8
      obtain ⟨c8, hTI8⟩ := TI_add hTI6 (by omega) hto2 hca2 hcf2 hR2 hA2 ha02 he02 hf1 hz1 hc1 hE9 hpo
      show ex_W _ _ _ _ 128 [(5, .int (nI (p_val (pb T N) N 1 1000000000 (p_sign (pb T N) N 47 (p_num (pb T N) N 0 1000000 ((p.1 + 4, p.2))))))), (4, .int (nI (p_val (pb T N) N 0 1000000 ((p.1 + 4, p.2))))), (3, .ref (g.2.2.2.2 3)), (2, .int (hs_I S r 2)), (0, .ref r), (1, .ref told)] [.int 1] S8 n8 k8
      refine ex_pop dX7_readClause_128 rfl ?_
      exact ex_vrt rfl dX7_readClause_129 ⟨rfl, _, c8, _, hTI8, by rw [hst], fun _ => by rw [hst]; exact ⟨rfl, rfl⟩⟩
set_option maxRecDepth 20000 in
set_option maxHeartbeats 4000000 in
theorem r_clause_1 (g : gl_T) {fd : Int32} {S0 S : hs_T} {n k r tp told N cc n0 k0 : Nat} {T : List Int32} {cs : List cl_T} {p : ps_T} (h : TI g fd S0 S r tp told T N cs p cc n0 n k0 k) (hn : n + 10 ≤ ex_NM) (hk : k + 6000 ≤ ex_KM) (h0 : p.2.1 = 0) (hsk : sk (pb T N) N p.1 = p.1) (w0 : ¬ wd (pb T N) p.1 [102, 117, 110, 100]) (w1 : wd (pb T N) p.1 [100, 97, 121, 115]) : ex_M g 8 mX7_readClause [.ref r, .ref told] S n k (cpo g fd S0 r tp told T N n0 k0 (st1 (pb T N) N cs p)) := by
  have hTI1 := h
  have mt1 : told ∈ hs_L S ∧ hs_K S told = 6 := by obtain ⟨_, _, _, ⟨ca, ⟨⟨t1, t2, _⟩, _⟩, _⟩, _⟩ := id h; exact ⟨t1, t2⟩
  have hcl10 := h.2.2.2.2.1
  refine ex_enter (by decide +kernel) (Nat.le_of_ble_eq_true rfl) ?_
  show ex_W _ _ _ _ 0 [(0, .ref r), (1, .ref told)] [] _ _ _
  by_cases hl : cs.length = 10
  · refine ex_aload_n dX7_readClause_0 0 rfl ?_
    refine ex_getI dX7_readClause_1 fl_X7_9 hTI1.1.1.1 hTI1.1.1.2 ?_
    refine ex_istore_n [(2, .int (hs_I S r 2)), (0, .ref r), (1, .ref told)] dX7_readClause_4 (by decide) rfl ?_
    refine ex_aload_n dX7_readClause_5 1 rfl ?_
    refine ex_cVg [] [] dX7_readClause_6 cV_X7_35 (r_kind_1 g hTI1.1 w0 w1) hTI1.1.1.1 hTI1.1.1.2 rfl rfl rfl (by decide) (Nat.le_of_ble_eq_true rfl) rfl ?_ (fun E S' n' k' h => by obtain ⟨h1, -⟩ := h; cases h1)
    rintro v' S2 n' k' ⟨hr, hP2, hG2, hn, hk⟩
    cases hr
    have hn := hn.symm
    have hk := hk.symm
    subst hn hk
    have hTI2 := TI_r hTI1 hP2 hG2
    have mt2 : told ∈ hs_L S2 ∧ hs_K S2 told = 6 := by obtain ⟨_, _, _, ⟨ca, ⟨⟨t1, t2, _⟩, _⟩, _⟩, _⟩ := id hTI2; exact ⟨t1, t2⟩
    show ex_W _ _ _ _ 9 [(2, .int (hs_I S r 2)), (0, .ref r), (1, .ref told)] [.ref (g.2.2.2.2 4)] S2 n k
    refine ex_astore_n [(3, .ref (g.2.2.2.2 4)), (2, .int (hs_I S r 2)), (0, .ref r), (1, .ref told)] dX7_readClause_9 (by decide) rfl ?_
    refine ex_aload_n dX7_readClause_10 0 rfl ?_
    refine ex_ifnonnull (tgt := 21) dX7_readClause_11 (by decide) ?_
    obtain ⟨ca, ⟨_, a, e, hR, hA, ha0, he0⟩, hca, hcf⟩ := id hTI2.2.2.2.1
    refine ex_aload_n dX7_readClause_21 3 rfl ?_
    refine ex_getR (b := a) dX7_readClause_22 fl_X7_43 mt2.1 mt2.2 hR ?_
    refine ex_cVr [] [] dX7_readClause_25 cV_X7_49 (c_szn g hA hca) hA.1.1 hA.1.2.1 rfl rfl rfl (by decide) (Nat.le_of_ble_eq_true rfl) rfl ?_
    refine ex_bipush (v := 10) dX7_readClause_28 (by decide) ?_
    refine ex_icmp_lt (tgt := 40) dX7_readClause_30 (by decide) (fun c30 => absurd c30 (by rw [hl]; decide)) (fun c30 => ?_)
    refine ex_aload_n dX7_readClause_33 2 rfl ?_
    refine ex_iconst (v := 3) dX7_readClause_34 (by decide) ?_
    refine ex_iload_n dX7_readClause_35 1 rfl ?_
    refine ex_cVg [.int 3, .int (hs_I S r 2)] [] dX7_readClause_36 cV_X7_39 (r_blame g hTI2.1 (c := 3) (w := p.1) rfl (by decide) h.1.2.1.2.2.1) hTI2.1.1.1 hTI2.1.1.2 rfl rfl rfl (by decide) (Nat.le_of_ble_eq_true rfl) rfl ?_ (fun E S' n' k' h => by obtain ⟨h1, -⟩ := h; cases h1)
    rintro v' S3 n' k' ⟨hr, hP3, hG3, hn, hk⟩
    cases hr
    have hn := hn.symm
    have hk := hk.symm
    subst hn hk
    have hTI3 := TI_r hTI2 hP3 hG3
    have mt3 : told ∈ hs_L S3 ∧ hs_K S3 told = 6 := by obtain ⟨_, _, _, ⟨ca, ⟨⟨t1, t2, _⟩, _⟩, _⟩, _⟩ := id hTI3; exact ⟨t1, t2⟩
    show ex_W _ _ _ _ 39 [(3, .ref (g.2.2.2.2 4)), (2, .int (hs_I S r 2)), (0, .ref r), (1, .ref told)] [] S3 n k
    exact ex_vrt rfl dX7_readClause_39 (by
  refine ⟨rfl, _, cc, cs, hTI3, ?_, fun z => absurd z (by show ¬ (3 : Nat) = 0; decide)⟩
  unfold st1
  rw [if_pos hl, if_pos (by rw [p_is, hsk]; exact Or.inr (Or.inl w1)), p_wr_i h0])
  · have hX := cl_1 (b := pb T N) (N := N) h0 hsk w0 w1
    have hst : st1 (pb T N) N cs p = (cs ++ [(p_cl (pb T N) N p).1], (p_cl (pb T N) N p).2) := by unfold st1; rw [if_neg hl]
    rw [hX] at hst
    refine ex_aload_n dX7_readClause_0 0 rfl ?_
    refine ex_getI dX7_readClause_1 fl_X7_9 hTI1.1.1.1 hTI1.1.1.2 ?_
    refine ex_istore_n [(2, .int (hs_I S r 2)), (0, .ref r), (1, .ref told)] dX7_readClause_4 (by decide) rfl ?_
    refine ex_aload_n dX7_readClause_5 1 rfl ?_
    refine ex_cVg [] [] dX7_readClause_6 cV_X7_35 (r_kind_1 g hTI1.1 w0 w1) hTI1.1.1.1 hTI1.1.1.2 rfl rfl rfl (by decide) (Nat.le_of_ble_eq_true rfl) rfl ?_ (fun E S' n' k' h => by obtain ⟨h1, -⟩ := h; cases h1)
    rintro v' S2 n' k' ⟨hr, hP2, hG2, hn, hk⟩
    cases hr
    have hn := hn.symm
    have hk := hk.symm
    subst hn hk
    have hTI2 := TI_r hTI1 hP2 hG2
    have mt2 : told ∈ hs_L S2 ∧ hs_K S2 told = 6 := by obtain ⟨_, _, _, ⟨ca, ⟨⟨t1, t2, _⟩, _⟩, _⟩, _⟩ := id hTI2; exact ⟨t1, t2⟩
    show ex_W _ _ _ _ 9 [(2, .int (hs_I S r 2)), (0, .ref r), (1, .ref told)] [.ref (g.2.2.2.2 4)] S2 n k
    refine ex_astore_n [(3, .ref (g.2.2.2.2 4)), (2, .int (hs_I S r 2)), (0, .ref r), (1, .ref told)] dX7_readClause_9 (by decide) rfl ?_
    refine ex_aload_n dX7_readClause_10 0 rfl ?_
    refine ex_ifnonnull (tgt := 21) dX7_readClause_11 (by decide) ?_
    obtain ⟨ca, ⟨_, a, e, hR, hA, ha0, he0⟩, hca, hcf⟩ := id hTI2.2.2.2.1
    refine ex_aload_n dX7_readClause_21 3 rfl ?_
    refine ex_getR (b := a) dX7_readClause_22 fl_X7_43 mt2.1 mt2.2 hR ?_
    refine ex_cVr [] [] dX7_readClause_25 cV_X7_49 (c_szn g hA hca) hA.1.1 hA.1.2.1 rfl rfl rfl (by decide) (Nat.le_of_ble_eq_true rfl) rfl ?_
    refine ex_bipush (v := 10) dX7_readClause_28 (by decide) ?_
    refine ex_icmp_lt (tgt := 40) dX7_readClause_30 (by decide) (fun c30 => ?_) (fun c30 => absurd (nI_lt (b := 10) (by omega) (by decide)) c30)
    refine ex_aload_n dX7_readClause_40 2 rfl ?_
    refine ex_aload_n dX7_readClause_41 0 rfl ?_
    refine ex_getC (q := ("BondOffice$Kind", "firstLeast", "I", 4, fun _ => .int 0)) dX7_readClause_42 cF_7 gc_X7_55 ?_
    refine ex_aload_n dX7_readClause_45 0 rfl ?_
    refine ex_getC (q := ("BondOffice$Kind", "firstMost", "I", 4, fun _ => .int 1000000000)) dX7_readClause_46 cF_8 gc_X7_60 ?_
    refine ex_cVg [.int 0, .int 1000000000] [] dX7_readClause_49 cV_X7_63 (r_num g hTI2.1 (l := 0) (mm := 1000000000) rfl rfl (by decide) (by decide)) hTI2.1.1.1 hTI2.1.1.2 rfl rfl rfl (by decide) (Nat.le_of_ble_eq_true rfl) rfl ?_ (fun E S' n' k' h => by obtain ⟨h1, -⟩ := h; cases h1)
    rintro v' S3 n' k' ⟨hr, hP3, hG3, hn, hk⟩
    cases hr
    have hn := hn.symm
    have hk := hk.symm
    subst hn hk
    have hTI3 := TI_r hTI2 hP3 hG3
    have mt3 : told ∈ hs_L S3 ∧ hs_K S3 told = 6 := by obtain ⟨_, _, _, ⟨ca, ⟨⟨t1, t2, _⟩, _⟩, _⟩, _⟩ := id hTI3; exact ⟨t1, t2⟩
    show ex_W _ _ _ _ 52 [(3, .ref (g.2.2.2.2 4)), (2, .int (hs_I S r 2)), (0, .ref r), (1, .ref told)] [.int (nI (p_val (pb T N) N 0 1000000000 ((p.1 + 4, p.2))))] S3 n k
    refine ex_istore [(4, .int (nI (p_val (pb T N) N 0 1000000000 ((p.1 + 4, p.2))))), (3, .ref (g.2.2.2.2 4)), (2, .int (hs_I S r 2)), (0, .ref r), (1, .ref told)] dX7_readClause_52 (by decide) rfl ?_
    refine ex_iconst (v := 0) dX7_readClause_54 (by decide) ?_
    refine ex_istore [(5, .int 0), (4, .int (nI (p_val (pb T N) N 0 1000000000 ((p.1 + 4, p.2))))), (3, .ref (g.2.2.2.2 4)), (2, .int (hs_I S r 2)), (0, .ref r), (1, .ref told)] dX7_readClause_55 (by decide) rfl ?_
    refine ex_aload_n dX7_readClause_57 2 rfl ?_
    refine ex_cVC (q := ("BondOffice$Kind", 4)) [] [] dX7_readClause_58 cV_X7_67 (c_has2_1 g) cO_1 rfl rfl (by decide) (Nat.le_of_ble_eq_true rfl) rfl ?_
    refine ex_if_eq (tgt := 96) dX7_readClause_61 (by decide) (fun c61 => ?_) (fun c61 => absurd (by decide) c61)
    refine ex_aload_n dX7_readClause_96 4 rfl ?_
    refine ex_ldcS (q := ("BondOffice$RuleReader", 90, ";", 17)) dX7_readClause_97 cR_0 rfl rfl ?_
    refine ex_cVg [.ref (g.2.2.2.2 17)] [] dX7_readClause_99 cV_X7_80 (r_exp_7 g hTI3.1) hTI3.1.1.1 hTI3.1.1.2 rfl rfl rfl (by decide) (Nat.le_of_ble_eq_true rfl) rfl ?_ (fun E S' n' k' h => by obtain ⟨h1, -⟩ := h; cases h1)
    rintro v' S4 n' k' ⟨hr, hP4, hG4, hn, hk⟩
    cases hr
    have hn := hn.symm
    have hk := hk.symm
    subst hn hk
    have hTI4 := TI_r hTI3 hP4 hG4
    have mt4 : told ∈ hs_L S4 ∧ hs_K S4 told = 6 := by obtain ⟨_, _, _, ⟨ca, ⟨⟨t1, t2, _⟩, _⟩, _⟩, _⟩ := id hTI4; exact ⟨t1, t2⟩
    show ex_W _ _ _ _ 102 [(5, .int 0), (4, .int (nI (p_val (pb T N) N 0 1000000000 ((p.1 + 4, p.2))))), (3, .ref (g.2.2.2.2 4)), (2, .int (hs_I S r 2)), (0, .ref r), (1, .ref told)] [] S4 n k
    refine ex_aload_n dX7_readClause_102 4 rfl ?_
    refine ex_getI dX7_readClause_103 fl_X7_15 hTI4.1.1.1 hTI4.1.1.2 ?_
    refine ex_if_ne (tgt := 129) dX7_readClause_106 (by decide) (fun c106 => ?_) (fun c106 => ?_)
    · exact ex_vrt rfl dX7_readClause_129 ⟨rfl, _, cc, cs, hTI4, by rw [hst], fun z => absurd (by rw [hTI4.1.2.1.2.2.2.1, z]; rfl) c106⟩
    · have hq0 : (p_sign (pb T N) N 59 (p_num (pb T N) N 0 1000000000 (p.1 + 4, p.2))).2.1 = 0 := (nI_eq (b := 0) (by have := hTI4.1.2.2.2.2.2.2; omega) (by decide)).mp (hTI4.1.2.1.2.2.2.1.symm.trans c106)
      obtain ⟨ca2, ⟨hto2, a2, e2, hR2, hA2, ha02, he02⟩, hca2, hcf2⟩ := id hTI4.2.2.2.1
      refine ex_aload_n dX7_readClause_109 5 rfl ?_
      refine ex_getR (b := a2) dX7_readClause_110 fl_X7_43 mt4.1 mt4.2 hR2 ?_
      refine ex_new (N := 3) dX7_readClause_113 nl_X7_92 rfl (by omega) (by omega) (fun z hz => ?_)
      refine ex_dup dX7_readClause_116 rfl ?_
      refine ex_aload_n dX7_readClause_117 2 rfl ?_
      refine ex_iload dX7_readClause_118 1 rfl ?_
      refine ex_iload dX7_readClause_120 0 rfl ?_
      refine ex_cIv [.ref (g.2.2.2.2 4), .int (nI (p_val (pb T N) N 0 1000000000 ((p.1 + 4, p.2)))), .int 0] [.ref z, .ref a2] dX7_readClause_122 cI_X7_94 (c_Clause_init g (hs_new_q _ _ _ _).1 (hs_new_q _ _ _ _).2.1) rfl (by decide) (Nat.le_of_ble_eq_true rfl) rfl ?_
      have hf1 : hs_fr S4 (hs_sI (hs_sI (hs_sR (hs_new S4 z 1 0) z 0 (some (g.2.2.2.2 4))) z 1 (nI (p_val (pb T N) N 0 1000000000 ((p.1 + 4, p.2))))) z 2 0) [] := fr_zI (fr_zI (fr_zR (hs_fr_new hz []) hz _ _) hz _ _) hz _ _
      have hz1 : z ∈ hs_L (hs_sI (hs_sI (hs_sR (hs_new S4 z 1 0) z 0 (some (g.2.2.2.2 4))) z 1 (nI (p_val (pb T N) N 0 1000000000 ((p.1 + 4, p.2))))) z 2 0) ∧ hs_K (hs_sI (hs_sI (hs_sR (hs_new S4 z 1 0) z 0 (some (g.2.2.2.2 4))) z 1 (nI (p_val (pb T N) N 0 1000000000 ((p.1 + 4, p.2))))) z 2 0) z = 1 := ⟨(hs_new_q S4 z 1 0).1, (hs_new_q S4 z 1 0).2.1⟩
      have hc1 : CCl g (hs_sI (hs_sI (hs_sR (hs_new S4 z 1 0) z 0 (some (g.2.2.2.2 4))) z 1 (nI (p_val (pb T N) N 0 1000000000 ((p.1 + 4, p.2))))) z 2 0) z (1, p_val (pb T N) N 0 1000000000 (p.1 + 4, p.2), 0) := by
        unfold CCl
        refine ⟨?_, ?_, ?_⟩
        · simp [hs_R_sI, hs_R_sR]
        · simp [hs_I_sI]
        · simp [hs_I_sI]; try rfl
      generalize hs_sI (hs_sI (hs_sR (hs_new S4 z 1 0) z 0 (some (g.2.2.2.2 4))) z 1 (nI (p_val (pb T N) N 0 1000000000 ((p.1 + 4, p.2))))) z 2 0 = S9 at hf1 hz1 hc1 ⊢
      have hA9 := al_fr hA2 hf1 (by simp) (by simp)
      refine ex_c1 (fun hE9 => ?_)
      refine ex_cVg [.ref z] [] dX7_readClause_125 cV_X7_97 (c_AL_adq g hA9 ⟨hz1.1, hz1.2, by decide⟩ (by omega) (by omega) (by omega)) hA9.1.1 hA9.1.2.1 rfl rfl rfl (by decide) (Nat.le_of_ble_eq_true rfl) rfl ?_ (fun E S' n' k' h => by obtain ⟨h1, -⟩ := h; cases h1)
      rintro v' S8 n8 k8 ⟨hr8, hpo⟩
      cases hr8
      obtain ⟨c8, hTI8⟩ := TI_add hTI4 (by omega) hto2 hca2 hcf2 hR2 hA2 ha02 he02 hf1 hz1 hc1 hE9 hpo
      show ex_W _ _ _ _ 128 [(5, .int 0), (4, .int (nI (p_val (pb T N) N 0 1000000000 ((p.1 + 4, p.2))))), (3, .ref (g.2.2.2.2 4)), (2, .int (hs_I S r 2)), (0, .ref r), (1, .ref told)] [.int 1] S8 n8 k8
      refine ex_pop dX7_readClause_128 rfl ?_
      exact ex_vrt rfl dX7_readClause_129 ⟨rfl, _, c8, _, hTI8, by rw [hst], fun _ => by rw [hst]; exact ⟨rfl, rfl⟩⟩
set_option maxRecDepth 20000 in
set_option maxHeartbeats 4000000 in
theorem r_clause_2 (g : gl_T) {fd : Int32} {S0 S : hs_T} {n k r tp told N cc n0 k0 : Nat} {T : List Int32} {cs : List cl_T} {p : ps_T} (h : TI g fd S0 S r tp told T N cs p cc n0 n k0 k) (hn : n + 10 ≤ ex_NM) (hk : k + 6000 ≤ ex_KM) (h0 : p.2.1 = 0) (hsk : sk (pb T N) N p.1 = p.1) (w0 : ¬ wd (pb T N) p.1 [102, 117, 110, 100]) (w1 : ¬ wd (pb T N) p.1 [100, 97, 121, 115]) (w2 : wd (pb T N) p.1 [116, 105, 101, 114]) : ex_M g 8 mX7_readClause [.ref r, .ref told] S n k (cpo g fd S0 r tp told T N n0 k0 (st1 (pb T N) N cs p)) := by
  have hTI1 := h
  have mt1 : told ∈ hs_L S ∧ hs_K S told = 6 := by obtain ⟨_, _, _, ⟨ca, ⟨⟨t1, t2, _⟩, _⟩, _⟩, _⟩ := id h; exact ⟨t1, t2⟩
  have hcl10 := h.2.2.2.2.1
  refine ex_enter (by decide +kernel) (Nat.le_of_ble_eq_true rfl) ?_
  show ex_W _ _ _ _ 0 [(0, .ref r), (1, .ref told)] [] _ _ _
  by_cases hl : cs.length = 10
  · refine ex_aload_n dX7_readClause_0 0 rfl ?_
    refine ex_getI dX7_readClause_1 fl_X7_9 hTI1.1.1.1 hTI1.1.1.2 ?_
    refine ex_istore_n [(2, .int (hs_I S r 2)), (0, .ref r), (1, .ref told)] dX7_readClause_4 (by decide) rfl ?_
    refine ex_aload_n dX7_readClause_5 1 rfl ?_
    refine ex_cVg [] [] dX7_readClause_6 cV_X7_35 (r_kind_2 g hTI1.1 w0 w1 w2) hTI1.1.1.1 hTI1.1.1.2 rfl rfl rfl (by decide) (Nat.le_of_ble_eq_true rfl) rfl ?_ (fun E S' n' k' h => by obtain ⟨h1, -⟩ := h; cases h1)
    rintro v' S2 n' k' ⟨hr, hP2, hG2, hn, hk⟩
    cases hr
    have hn := hn.symm
    have hk := hk.symm
    subst hn hk
    have hTI2 := TI_r hTI1 hP2 hG2
    have mt2 : told ∈ hs_L S2 ∧ hs_K S2 told = 6 := by obtain ⟨_, _, _, ⟨ca, ⟨⟨t1, t2, _⟩, _⟩, _⟩, _⟩ := id hTI2; exact ⟨t1, t2⟩
    show ex_W _ _ _ _ 9 [(2, .int (hs_I S r 2)), (0, .ref r), (1, .ref told)] [.ref (g.2.2.2.2 5)] S2 n k
    refine ex_astore_n [(3, .ref (g.2.2.2.2 5)), (2, .int (hs_I S r 2)), (0, .ref r), (1, .ref told)] dX7_readClause_9 (by decide) rfl ?_
    refine ex_aload_n dX7_readClause_10 0 rfl ?_
    refine ex_ifnonnull (tgt := 21) dX7_readClause_11 (by decide) ?_
    obtain ⟨ca, ⟨_, a, e, hR, hA, ha0, he0⟩, hca, hcf⟩ := id hTI2.2.2.2.1
    refine ex_aload_n dX7_readClause_21 3 rfl ?_
    refine ex_getR (b := a) dX7_readClause_22 fl_X7_43 mt2.1 mt2.2 hR ?_
    refine ex_cVr [] [] dX7_readClause_25 cV_X7_49 (c_szn g hA hca) hA.1.1 hA.1.2.1 rfl rfl rfl (by decide) (Nat.le_of_ble_eq_true rfl) rfl ?_
    refine ex_bipush (v := 10) dX7_readClause_28 (by decide) ?_
    refine ex_icmp_lt (tgt := 40) dX7_readClause_30 (by decide) (fun c30 => absurd c30 (by rw [hl]; decide)) (fun c30 => ?_)
    refine ex_aload_n dX7_readClause_33 2 rfl ?_
    refine ex_iconst (v := 3) dX7_readClause_34 (by decide) ?_
    refine ex_iload_n dX7_readClause_35 1 rfl ?_
    refine ex_cVg [.int 3, .int (hs_I S r 2)] [] dX7_readClause_36 cV_X7_39 (r_blame g hTI2.1 (c := 3) (w := p.1) rfl (by decide) h.1.2.1.2.2.1) hTI2.1.1.1 hTI2.1.1.2 rfl rfl rfl (by decide) (Nat.le_of_ble_eq_true rfl) rfl ?_ (fun E S' n' k' h => by obtain ⟨h1, -⟩ := h; cases h1)
    rintro v' S3 n' k' ⟨hr, hP3, hG3, hn, hk⟩
    cases hr
    have hn := hn.symm
    have hk := hk.symm
    subst hn hk
    have hTI3 := TI_r hTI2 hP3 hG3
    have mt3 : told ∈ hs_L S3 ∧ hs_K S3 told = 6 := by obtain ⟨_, _, _, ⟨ca, ⟨⟨t1, t2, _⟩, _⟩, _⟩, _⟩ := id hTI3; exact ⟨t1, t2⟩
    show ex_W _ _ _ _ 39 [(3, .ref (g.2.2.2.2 5)), (2, .int (hs_I S r 2)), (0, .ref r), (1, .ref told)] [] S3 n k
    exact ex_vrt rfl dX7_readClause_39 (by
  refine ⟨rfl, _, cc, cs, hTI3, ?_, fun z => absurd z (by show ¬ (3 : Nat) = 0; decide)⟩
  unfold st1
  rw [if_pos hl, if_pos (by rw [p_is, hsk]; exact Or.inr (Or.inr (Or.inl w2))), p_wr_i h0])
  · have hX := cl_2 (b := pb T N) (N := N) h0 hsk w0 w1 w2
    have hst : st1 (pb T N) N cs p = (cs ++ [(p_cl (pb T N) N p).1], (p_cl (pb T N) N p).2) := by unfold st1; rw [if_neg hl]
    rw [hX] at hst
    refine ex_aload_n dX7_readClause_0 0 rfl ?_
    refine ex_getI dX7_readClause_1 fl_X7_9 hTI1.1.1.1 hTI1.1.1.2 ?_
    refine ex_istore_n [(2, .int (hs_I S r 2)), (0, .ref r), (1, .ref told)] dX7_readClause_4 (by decide) rfl ?_
    refine ex_aload_n dX7_readClause_5 1 rfl ?_
    refine ex_cVg [] [] dX7_readClause_6 cV_X7_35 (r_kind_2 g hTI1.1 w0 w1 w2) hTI1.1.1.1 hTI1.1.1.2 rfl rfl rfl (by decide) (Nat.le_of_ble_eq_true rfl) rfl ?_ (fun E S' n' k' h => by obtain ⟨h1, -⟩ := h; cases h1)
    rintro v' S2 n' k' ⟨hr, hP2, hG2, hn, hk⟩
    cases hr
    have hn := hn.symm
    have hk := hk.symm
    subst hn hk
    have hTI2 := TI_r hTI1 hP2 hG2
    have mt2 : told ∈ hs_L S2 ∧ hs_K S2 told = 6 := by obtain ⟨_, _, _, ⟨ca, ⟨⟨t1, t2, _⟩, _⟩, _⟩, _⟩ := id hTI2; exact ⟨t1, t2⟩
    show ex_W _ _ _ _ 9 [(2, .int (hs_I S r 2)), (0, .ref r), (1, .ref told)] [.ref (g.2.2.2.2 5)] S2 n k
    refine ex_astore_n [(3, .ref (g.2.2.2.2 5)), (2, .int (hs_I S r 2)), (0, .ref r), (1, .ref told)] dX7_readClause_9 (by decide) rfl ?_
    refine ex_aload_n dX7_readClause_10 0 rfl ?_
    refine ex_ifnonnull (tgt := 21) dX7_readClause_11 (by decide) ?_
    obtain ⟨ca, ⟨_, a, e, hR, hA, ha0, he0⟩, hca, hcf⟩ := id hTI2.2.2.2.1
    refine ex_aload_n dX7_readClause_21 3 rfl ?_
    refine ex_getR (b := a) dX7_readClause_22 fl_X7_43 mt2.1 mt2.2 hR ?_
    refine ex_cVr [] [] dX7_readClause_25 cV_X7_49 (c_szn g hA hca) hA.1.1 hA.1.2.1 rfl rfl rfl (by decide) (Nat.le_of_ble_eq_true rfl) rfl ?_
    refine ex_bipush (v := 10) dX7_readClause_28 (by decide) ?_
    refine ex_icmp_lt (tgt := 40) dX7_readClause_30 (by decide) (fun c30 => ?_) (fun c30 => absurd (nI_lt (b := 10) (by omega) (by decide)) c30)
    refine ex_aload_n dX7_readClause_40 2 rfl ?_
    refine ex_aload_n dX7_readClause_41 0 rfl ?_
    refine ex_getC (q := ("BondOffice$Kind", "firstLeast", "I", 5, fun _ => .int 1)) dX7_readClause_42 cF_13 gc_X7_55 ?_
    refine ex_aload_n dX7_readClause_45 0 rfl ?_
    refine ex_getC (q := ("BondOffice$Kind", "firstMost", "I", 5, fun _ => .int 1000000000)) dX7_readClause_46 cF_14 gc_X7_60 ?_
    refine ex_cVg [.int 1, .int 1000000000] [] dX7_readClause_49 cV_X7_63 (r_num g hTI2.1 (l := 1) (mm := 1000000000) rfl rfl (by decide) (by decide)) hTI2.1.1.1 hTI2.1.1.2 rfl rfl rfl (by decide) (Nat.le_of_ble_eq_true rfl) rfl ?_ (fun E S' n' k' h => by obtain ⟨h1, -⟩ := h; cases h1)
    rintro v' S3 n' k' ⟨hr, hP3, hG3, hn, hk⟩
    cases hr
    have hn := hn.symm
    have hk := hk.symm
    subst hn hk
    have hTI3 := TI_r hTI2 hP3 hG3
    have mt3 : told ∈ hs_L S3 ∧ hs_K S3 told = 6 := by obtain ⟨_, _, _, ⟨ca, ⟨⟨t1, t2, _⟩, _⟩, _⟩, _⟩ := id hTI3; exact ⟨t1, t2⟩
    show ex_W _ _ _ _ 52 [(3, .ref (g.2.2.2.2 5)), (2, .int (hs_I S r 2)), (0, .ref r), (1, .ref told)] [.int (nI (p_val (pb T N) N 1 1000000000 ((p.1 + 4, p.2))))] S3 n k
    refine ex_istore [(4, .int (nI (p_val (pb T N) N 1 1000000000 ((p.1 + 4, p.2))))), (3, .ref (g.2.2.2.2 5)), (2, .int (hs_I S r 2)), (0, .ref r), (1, .ref told)] dX7_readClause_52 (by decide) rfl ?_
    refine ex_iconst (v := 0) dX7_readClause_54 (by decide) ?_
    refine ex_istore [(5, .int 0), (4, .int (nI (p_val (pb T N) N 1 1000000000 ((p.1 + 4, p.2))))), (3, .ref (g.2.2.2.2 5)), (2, .int (hs_I S r 2)), (0, .ref r), (1, .ref told)] dX7_readClause_55 (by decide) rfl ?_
    refine ex_aload_n dX7_readClause_57 2 rfl ?_
    refine ex_cVC (q := ("BondOffice$Kind", 5)) [] [] dX7_readClause_58 cV_X7_67 (c_has2_2 g) cO_2 rfl rfl (by decide) (Nat.le_of_ble_eq_true rfl) rfl ?_
    refine ex_if_eq (tgt := 96) dX7_readClause_61 (by decide) (fun c61 => absurd c61 (by decide)) (fun c61 => ?_)
    refine ex_aload_n dX7_readClause_64 2 rfl ?_
    refine ex_getC (q := ("BondOffice$Kind", "joint", "Ljava/lang/String;", 5, fun ad => .ref (ad 16))) dX7_readClause_65 cF_15 gc_X7_71 ?_
    refine ex_cVC (q := ("java/lang/String", 16)) [] [] dX7_readClause_68 cV_X7_75 (c_empty_6 g) cO_10 rfl rfl (by decide) (Nat.le_of_ble_eq_true rfl) rfl ?_
    refine ex_if_ne (tgt := 82) dX7_readClause_71 (by decide) (fun c71 => absurd (by decide) c71) (fun c71 => ?_)
    refine ex_aload_n dX7_readClause_74 4 rfl ?_
    refine ex_aload_n dX7_readClause_75 2 rfl ?_
    refine ex_getC (q := ("BondOffice$Kind", "joint", "Ljava/lang/String;", 5, fun ad => .ref (ad 16))) dX7_readClause_76 cF_15 gc_X7_71 ?_
    refine ex_cVg [.ref (g.2.2.2.2 16)] [] dX7_readClause_79 cV_X7_80 (r_exp_6 g hTI3.1) hTI3.1.1.1 hTI3.1.1.2 rfl rfl rfl (by decide) (Nat.le_of_ble_eq_true rfl) rfl ?_ (fun E S' n' k' h => by obtain ⟨h1, -⟩ := h; cases h1)
    rintro v' S4 n' k' ⟨hr, hP4, hG4, hn, hk⟩
    cases hr
    have hn := hn.symm
    have hk := hk.symm
    subst hn hk
    have hTI4 := TI_r hTI3 hP4 hG4
    have mt4 : told ∈ hs_L S4 ∧ hs_K S4 told = 6 := by obtain ⟨_, _, _, ⟨ca, ⟨⟨t1, t2, _⟩, _⟩, _⟩, _⟩ := id hTI4; exact ⟨t1, t2⟩
    show ex_W _ _ _ _ 82 [(5, .int 0), (4, .int (nI (p_val (pb T N) N 1 1000000000 ((p.1 + 4, p.2))))), (3, .ref (g.2.2.2.2 5)), (2, .int (hs_I S r 2)), (0, .ref r), (1, .ref told)] [] S4 n k
    refine ex_aload_n dX7_readClause_82 4 rfl ?_
    refine ex_aload_n dX7_readClause_83 2 rfl ?_
    refine ex_getC (q := ("BondOffice$Kind", "secondLeast", "I", 5, fun _ => .int 0)) dX7_readClause_84 cF_16 gc_X7_84 ?_
    refine ex_aload_n dX7_readClause_87 2 rfl ?_
    refine ex_getC (q := ("BondOffice$Kind", "secondMost", "I", 5, fun _ => .int (1000000000))) dX7_readClause_88 cF_17 gc_X7_87 ?_
    refine ex_cVg [.int 0, .int (1000000000)] [] dX7_readClause_91 cV_X7_63 (r_num g hTI4.1 (l := 0) (mm := 1000000000) rfl rfl (by decide) (by decide)) hTI4.1.1.1 hTI4.1.1.2 rfl rfl rfl (by decide) (Nat.le_of_ble_eq_true rfl) rfl ?_ (fun E S' n' k' h => by obtain ⟨h1, -⟩ := h; cases h1)
    rintro v' S5 n' k' ⟨hr, hP5, hG5, hn, hk⟩
    cases hr
    have hn := hn.symm
    have hk := hk.symm
    subst hn hk
    have hTI5 := TI_r hTI4 hP5 hG5
    have mt5 : told ∈ hs_L S5 ∧ hs_K S5 told = 6 := by obtain ⟨_, _, _, ⟨ca, ⟨⟨t1, t2, _⟩, _⟩, _⟩, _⟩ := id hTI5; exact ⟨t1, t2⟩
    show ex_W _ _ _ _ 94 [(5, .int 0), (4, .int (nI (p_val (pb T N) N 1 1000000000 ((p.1 + 4, p.2))))), (3, .ref (g.2.2.2.2 5)), (2, .int (hs_I S r 2)), (0, .ref r), (1, .ref told)] [.int (nI (p_val (pb T N) N 0 1000000000 (p_need (pb T N) N [120] (p_num (pb T N) N 1 1000000000 ((p.1 + 4, p.2))))))] S5 n k
    refine ex_istore [(5, .int (nI (p_val (pb T N) N 0 1000000000 (p_need (pb T N) N [120] (p_num (pb T N) N 1 1000000000 ((p.1 + 4, p.2))))))), (4, .int (nI (p_val (pb T N) N 1 1000000000 ((p.1 + 4, p.2))))), (3, .ref (g.2.2.2.2 5)), (2, .int (hs_I S r 2)), (0, .ref r), (1, .ref told)] dX7_readClause_94 (by decide) rfl ?_
    refine ex_aload_n dX7_readClause_96 4 rfl ?_
    refine ex_ldcS (q := ("BondOffice$RuleReader", 90, ";", 17)) dX7_readClause_97 cR_0 rfl rfl ?_
    refine ex_cVg [.ref (g.2.2.2.2 17)] [] dX7_readClause_99 cV_X7_80 (r_exp_7 g hTI5.1) hTI5.1.1.1 hTI5.1.1.2 rfl rfl rfl (by decide) (Nat.le_of_ble_eq_true rfl) rfl ?_ (fun E S' n' k' h => by obtain ⟨h1, -⟩ := h; cases h1)
    rintro v' S6 n' k' ⟨hr, hP6, hG6, hn, hk⟩
    cases hr
    have hn := hn.symm
    have hk := hk.symm
    subst hn hk
    have hTI6 := TI_r hTI5 hP6 hG6
    have mt6 : told ∈ hs_L S6 ∧ hs_K S6 told = 6 := by obtain ⟨_, _, _, ⟨ca, ⟨⟨t1, t2, _⟩, _⟩, _⟩, _⟩ := id hTI6; exact ⟨t1, t2⟩
    show ex_W _ _ _ _ 102 [(5, .int (nI (p_val (pb T N) N 0 1000000000 (p_need (pb T N) N [120] (p_num (pb T N) N 1 1000000000 ((p.1 + 4, p.2))))))), (4, .int (nI (p_val (pb T N) N 1 1000000000 ((p.1 + 4, p.2))))), (3, .ref (g.2.2.2.2 5)), (2, .int (hs_I S r 2)), (0, .ref r), (1, .ref told)] [] S6 n k
    refine ex_aload_n dX7_readClause_102 4 rfl ?_
    refine ex_getI dX7_readClause_103 fl_X7_15 hTI6.1.1.1 hTI6.1.1.2 ?_
    refine ex_if_ne (tgt := 129) dX7_readClause_106 (by decide) (fun c106 => ?_) (fun c106 => ?_)
    · exact ex_vrt rfl dX7_readClause_129 ⟨rfl, _, cc, cs, hTI6, by rw [hst], fun z => absurd (by rw [hTI6.1.2.1.2.2.2.1, z]; rfl) c106⟩
    · have hq0 : (p_sign (pb T N) N 59 (p_num (pb T N) N 0 1000000000 (p_need (pb T N) N [120] (p_num (pb T N) N 1 1000000000 (p.1 + 4, p.2))))).2.1 = 0 := (nI_eq (b := 0) (by have := hTI6.1.2.2.2.2.2.2; omega) (by decide)).mp (hTI6.1.2.1.2.2.2.1.symm.trans c106)
      obtain ⟨ca2, ⟨hto2, a2, e2, hR2, hA2, ha02, he02⟩, hca2, hcf2⟩ := id hTI6.2.2.2.1
      refine ex_aload_n dX7_readClause_109 5 rfl ?_
      refine ex_getR (b := a2) dX7_readClause_110 fl_X7_43 mt6.1 mt6.2 hR2 ?_
      refine ex_new (N := 3) dX7_readClause_113 nl_X7_92 rfl (by omega) (by omega) (fun z hz => ?_)
      refine ex_dup dX7_readClause_116 rfl ?_
      refine ex_aload_n dX7_readClause_117 2 rfl ?_
      refine ex_iload dX7_readClause_118 1 rfl ?_
      refine ex_iload dX7_readClause_120 0 rfl ?_
      refine ex_cIv [.ref (g.2.2.2.2 5), .int (nI (p_val (pb T N) N 1 1000000000 ((p.1 + 4, p.2)))), .int (nI (p_val (pb T N) N 0 1000000000 (p_need (pb T N) N [120] (p_num (pb T N) N 1 1000000000 ((p.1 + 4, p.2))))))] [.ref z, .ref a2] dX7_readClause_122 cI_X7_94 (c_Clause_init g (hs_new_q _ _ _ _).1 (hs_new_q _ _ _ _).2.1) rfl (by decide) (Nat.le_of_ble_eq_true rfl) rfl ?_
      have hf1 : hs_fr S6 (hs_sI (hs_sI (hs_sR (hs_new S6 z 1 0) z 0 (some (g.2.2.2.2 5))) z 1 (nI (p_val (pb T N) N 1 1000000000 ((p.1 + 4, p.2))))) z 2 (nI (p_val (pb T N) N 0 1000000000 (p_need (pb T N) N [120] (p_num (pb T N) N 1 1000000000 ((p.1 + 4, p.2))))))) [] := fr_zI (fr_zI (fr_zR (hs_fr_new hz []) hz _ _) hz _ _) hz _ _
      have hz1 : z ∈ hs_L (hs_sI (hs_sI (hs_sR (hs_new S6 z 1 0) z 0 (some (g.2.2.2.2 5))) z 1 (nI (p_val (pb T N) N 1 1000000000 ((p.1 + 4, p.2))))) z 2 (nI (p_val (pb T N) N 0 1000000000 (p_need (pb T N) N [120] (p_num (pb T N) N 1 1000000000 ((p.1 + 4, p.2))))))) ∧ hs_K (hs_sI (hs_sI (hs_sR (hs_new S6 z 1 0) z 0 (some (g.2.2.2.2 5))) z 1 (nI (p_val (pb T N) N 1 1000000000 ((p.1 + 4, p.2))))) z 2 (nI (p_val (pb T N) N 0 1000000000 (p_need (pb T N) N [120] (p_num (pb T N) N 1 1000000000 ((p.1 + 4, p.2))))))) z = 1 := ⟨(hs_new_q S6 z 1 0).1, (hs_new_q S6 z 1 0).2.1⟩
      have hc1 : CCl g (hs_sI (hs_sI (hs_sR (hs_new S6 z 1 0) z 0 (some (g.2.2.2.2 5))) z 1 (nI (p_val (pb T N) N 1 1000000000 ((p.1 + 4, p.2))))) z 2 (nI (p_val (pb T N) N 0 1000000000 (p_need (pb T N) N [120] (p_num (pb T N) N 1 1000000000 ((p.1 + 4, p.2))))))) z (2, p_val (pb T N) N 1 1000000000 (p.1 + 4, p.2), p_val (pb T N) N 0 1000000000 (p_need (pb T N) N [120] (p_num (pb T N) N 1 1000000000 (p.1 + 4, p.2)))) := by
        unfold CCl
        refine ⟨?_, ?_, ?_⟩
        · simp [hs_R_sI, hs_R_sR]
        · simp [hs_I_sI]
        · simp [hs_I_sI]; try rfl
      generalize hs_sI (hs_sI (hs_sR (hs_new S6 z 1 0) z 0 (some (g.2.2.2.2 5))) z 1 (nI (p_val (pb T N) N 1 1000000000 ((p.1 + 4, p.2))))) z 2 (nI (p_val (pb T N) N 0 1000000000 (p_need (pb T N) N [120] (p_num (pb T N) N 1 1000000000 ((p.1 + 4, p.2)))))) = S9 at hf1 hz1 hc1 ⊢
      have hA9 := al_fr hA2 hf1 (by simp) (by simp)
      refine ex_c1 (fun hE9 => ?_)
      refine ex_cVg [.ref z] [] dX7_readClause_125 cV_X7_97 (c_AL_adq g hA9 ⟨hz1.1, hz1.2, by decide⟩ (by omega) (by omega) (by omega)) hA9.1.1 hA9.1.2.1 rfl rfl rfl (by decide) (Nat.le_of_ble_eq_true rfl) rfl ?_ (fun E S' n' k' h => by obtain ⟨h1, -⟩ := h; cases h1)
      rintro v' S8 n8 k8 ⟨hr8, hpo⟩
      cases hr8
      obtain ⟨c8, hTI8⟩ := TI_add hTI6 (by omega) hto2 hca2 hcf2 hR2 hA2 ha02 he02 hf1 hz1 hc1 hE9 hpo
      show ex_W _ _ _ _ 128 [(5, .int (nI (p_val (pb T N) N 0 1000000000 (p_need (pb T N) N [120] (p_num (pb T N) N 1 1000000000 ((p.1 + 4, p.2))))))), (4, .int (nI (p_val (pb T N) N 1 1000000000 ((p.1 + 4, p.2))))), (3, .ref (g.2.2.2.2 5)), (2, .int (hs_I S r 2)), (0, .ref r), (1, .ref told)] [.int 1] S8 n8 k8
      refine ex_pop dX7_readClause_128 rfl ?_
      exact ex_vrt rfl dX7_readClause_129 ⟨rfl, _, c8, _, hTI8, by rw [hst], fun _ => by rw [hst]; exact ⟨rfl, rfl⟩⟩
set_option maxRecDepth 20000 in
set_option maxHeartbeats 4000000 in
theorem r_clause_3 (g : gl_T) {fd : Int32} {S0 S : hs_T} {n k r tp told N cc n0 k0 : Nat} {T : List Int32} {cs : List cl_T} {p : ps_T} (h : TI g fd S0 S r tp told T N cs p cc n0 n k0 k) (hn : n + 10 ≤ ex_NM) (hk : k + 6000 ≤ ex_KM) (h0 : p.2.1 = 0) (hsk : sk (pb T N) N p.1 = p.1) (w0 : ¬ wd (pb T N) p.1 [102, 117, 110, 100]) (w1 : ¬ wd (pb T N) p.1 [100, 97, 121, 115]) (w2 : ¬ wd (pb T N) p.1 [116, 105, 101, 114]) (w3 : wd (pb T N) p.1 [115, 104, 97, 114, 101]) : ex_M g 8 mX7_readClause [.ref r, .ref told] S n k (cpo g fd S0 r tp told T N n0 k0 (st1 (pb T N) N cs p)) := by
  have hTI1 := h
  have mt1 : told ∈ hs_L S ∧ hs_K S told = 6 := by obtain ⟨_, _, _, ⟨ca, ⟨⟨t1, t2, _⟩, _⟩, _⟩, _⟩ := id h; exact ⟨t1, t2⟩
  have hcl10 := h.2.2.2.2.1
  refine ex_enter (by decide +kernel) (Nat.le_of_ble_eq_true rfl) ?_
  show ex_W _ _ _ _ 0 [(0, .ref r), (1, .ref told)] [] _ _ _
  by_cases hl : cs.length = 10
  · refine ex_aload_n dX7_readClause_0 0 rfl ?_
    refine ex_getI dX7_readClause_1 fl_X7_9 hTI1.1.1.1 hTI1.1.1.2 ?_
    refine ex_istore_n [(2, .int (hs_I S r 2)), (0, .ref r), (1, .ref told)] dX7_readClause_4 (by decide) rfl ?_
    refine ex_aload_n dX7_readClause_5 1 rfl ?_
    refine ex_cVg [] [] dX7_readClause_6 cV_X7_35 (r_kind_3 g hTI1.1 w0 w1 w2 w3) hTI1.1.1.1 hTI1.1.1.2 rfl rfl rfl (by decide) (Nat.le_of_ble_eq_true rfl) rfl ?_ (fun E S' n' k' h => by obtain ⟨h1, -⟩ := h; cases h1)
    rintro v' S2 n' k' ⟨hr, hP2, hG2, hn, hk⟩
    cases hr
    have hn := hn.symm
    have hk := hk.symm
    subst hn hk
    have hTI2 := TI_r hTI1 hP2 hG2
    have mt2 : told ∈ hs_L S2 ∧ hs_K S2 told = 6 := by obtain ⟨_, _, _, ⟨ca, ⟨⟨t1, t2, _⟩, _⟩, _⟩, _⟩ := id hTI2; exact ⟨t1, t2⟩
    show ex_W _ _ _ _ 9 [(2, .int (hs_I S r 2)), (0, .ref r), (1, .ref told)] [.ref (g.2.2.2.2 6)] S2 n k
    refine ex_astore_n [(3, .ref (g.2.2.2.2 6)), (2, .int (hs_I S r 2)), (0, .ref r), (1, .ref told)] dX7_readClause_9 (by decide) rfl ?_
    refine ex_aload_n dX7_readClause_10 0 rfl ?_
    refine ex_ifnonnull (tgt := 21) dX7_readClause_11 (by decide) ?_
    obtain ⟨ca, ⟨_, a, e, hR, hA, ha0, he0⟩, hca, hcf⟩ := id hTI2.2.2.2.1
    refine ex_aload_n dX7_readClause_21 3 rfl ?_
    refine ex_getR (b := a) dX7_readClause_22 fl_X7_43 mt2.1 mt2.2 hR ?_
    refine ex_cVr [] [] dX7_readClause_25 cV_X7_49 (c_szn g hA hca) hA.1.1 hA.1.2.1 rfl rfl rfl (by decide) (Nat.le_of_ble_eq_true rfl) rfl ?_
    refine ex_bipush (v := 10) dX7_readClause_28 (by decide) ?_
    refine ex_icmp_lt (tgt := 40) dX7_readClause_30 (by decide) (fun c30 => absurd c30 (by rw [hl]; decide)) (fun c30 => ?_)
    refine ex_aload_n dX7_readClause_33 2 rfl ?_
    refine ex_iconst (v := 3) dX7_readClause_34 (by decide) ?_
    refine ex_iload_n dX7_readClause_35 1 rfl ?_
    refine ex_cVg [.int 3, .int (hs_I S r 2)] [] dX7_readClause_36 cV_X7_39 (r_blame g hTI2.1 (c := 3) (w := p.1) rfl (by decide) h.1.2.1.2.2.1) hTI2.1.1.1 hTI2.1.1.2 rfl rfl rfl (by decide) (Nat.le_of_ble_eq_true rfl) rfl ?_ (fun E S' n' k' h => by obtain ⟨h1, -⟩ := h; cases h1)
    rintro v' S3 n' k' ⟨hr, hP3, hG3, hn, hk⟩
    cases hr
    have hn := hn.symm
    have hk := hk.symm
    subst hn hk
    have hTI3 := TI_r hTI2 hP3 hG3
    have mt3 : told ∈ hs_L S3 ∧ hs_K S3 told = 6 := by obtain ⟨_, _, _, ⟨ca, ⟨⟨t1, t2, _⟩, _⟩, _⟩, _⟩ := id hTI3; exact ⟨t1, t2⟩
    show ex_W _ _ _ _ 39 [(3, .ref (g.2.2.2.2 6)), (2, .int (hs_I S r 2)), (0, .ref r), (1, .ref told)] [] S3 n k
    exact ex_vrt rfl dX7_readClause_39 (by
  refine ⟨rfl, _, cc, cs, hTI3, ?_, fun z => absurd z (by show ¬ (3 : Nat) = 0; decide)⟩
  unfold st1
  rw [if_pos hl, if_pos (by rw [p_is, hsk]; exact Or.inr (Or.inr (Or.inr (w3)))), p_wr_i h0])
  · have hX := cl_3 (b := pb T N) (N := N) h0 hsk w0 w1 w2 w3
    have hst : st1 (pb T N) N cs p = (cs ++ [(p_cl (pb T N) N p).1], (p_cl (pb T N) N p).2) := by unfold st1; rw [if_neg hl]
    rw [hX] at hst
    refine ex_aload_n dX7_readClause_0 0 rfl ?_
    refine ex_getI dX7_readClause_1 fl_X7_9 hTI1.1.1.1 hTI1.1.1.2 ?_
    refine ex_istore_n [(2, .int (hs_I S r 2)), (0, .ref r), (1, .ref told)] dX7_readClause_4 (by decide) rfl ?_
    refine ex_aload_n dX7_readClause_5 1 rfl ?_
    refine ex_cVg [] [] dX7_readClause_6 cV_X7_35 (r_kind_3 g hTI1.1 w0 w1 w2 w3) hTI1.1.1.1 hTI1.1.1.2 rfl rfl rfl (by decide) (Nat.le_of_ble_eq_true rfl) rfl ?_ (fun E S' n' k' h => by obtain ⟨h1, -⟩ := h; cases h1)
    rintro v' S2 n' k' ⟨hr, hP2, hG2, hn, hk⟩
    cases hr
    have hn := hn.symm
    have hk := hk.symm
    subst hn hk
    have hTI2 := TI_r hTI1 hP2 hG2
    have mt2 : told ∈ hs_L S2 ∧ hs_K S2 told = 6 := by obtain ⟨_, _, _, ⟨ca, ⟨⟨t1, t2, _⟩, _⟩, _⟩, _⟩ := id hTI2; exact ⟨t1, t2⟩
    show ex_W _ _ _ _ 9 [(2, .int (hs_I S r 2)), (0, .ref r), (1, .ref told)] [.ref (g.2.2.2.2 6)] S2 n k
    refine ex_astore_n [(3, .ref (g.2.2.2.2 6)), (2, .int (hs_I S r 2)), (0, .ref r), (1, .ref told)] dX7_readClause_9 (by decide) rfl ?_
    refine ex_aload_n dX7_readClause_10 0 rfl ?_
    refine ex_ifnonnull (tgt := 21) dX7_readClause_11 (by decide) ?_
    obtain ⟨ca, ⟨_, a, e, hR, hA, ha0, he0⟩, hca, hcf⟩ := id hTI2.2.2.2.1
    refine ex_aload_n dX7_readClause_21 3 rfl ?_
    refine ex_getR (b := a) dX7_readClause_22 fl_X7_43 mt2.1 mt2.2 hR ?_
    refine ex_cVr [] [] dX7_readClause_25 cV_X7_49 (c_szn g hA hca) hA.1.1 hA.1.2.1 rfl rfl rfl (by decide) (Nat.le_of_ble_eq_true rfl) rfl ?_
    refine ex_bipush (v := 10) dX7_readClause_28 (by decide) ?_
    refine ex_icmp_lt (tgt := 40) dX7_readClause_30 (by decide) (fun c30 => ?_) (fun c30 => absurd (nI_lt (b := 10) (by omega) (by decide)) c30)
    refine ex_aload_n dX7_readClause_40 2 rfl ?_
    refine ex_aload_n dX7_readClause_41 0 rfl ?_
    refine ex_getC (q := ("BondOffice$Kind", "firstLeast", "I", 6, fun _ => .int 1)) dX7_readClause_42 cF_19 gc_X7_55 ?_
    refine ex_aload_n dX7_readClause_45 0 rfl ?_
    refine ex_getC (q := ("BondOffice$Kind", "firstMost", "I", 6, fun _ => .int 1000000000)) dX7_readClause_46 cF_20 gc_X7_60 ?_
    refine ex_cVg [.int 1, .int 1000000000] [] dX7_readClause_49 cV_X7_63 (r_num g hTI2.1 (l := 1) (mm := 1000000000) rfl rfl (by decide) (by decide)) hTI2.1.1.1 hTI2.1.1.2 rfl rfl rfl (by decide) (Nat.le_of_ble_eq_true rfl) rfl ?_ (fun E S' n' k' h => by obtain ⟨h1, -⟩ := h; cases h1)
    rintro v' S3 n' k' ⟨hr, hP3, hG3, hn, hk⟩
    cases hr
    have hn := hn.symm
    have hk := hk.symm
    subst hn hk
    have hTI3 := TI_r hTI2 hP3 hG3
    have mt3 : told ∈ hs_L S3 ∧ hs_K S3 told = 6 := by obtain ⟨_, _, _, ⟨ca, ⟨⟨t1, t2, _⟩, _⟩, _⟩, _⟩ := id hTI3; exact ⟨t1, t2⟩
    show ex_W _ _ _ _ 52 [(3, .ref (g.2.2.2.2 6)), (2, .int (hs_I S r 2)), (0, .ref r), (1, .ref told)] [.int (nI (p_val (pb T N) N 1 1000000000 ((p.1 + 5, p.2))))] S3 n k
    refine ex_istore [(4, .int (nI (p_val (pb T N) N 1 1000000000 ((p.1 + 5, p.2))))), (3, .ref (g.2.2.2.2 6)), (2, .int (hs_I S r 2)), (0, .ref r), (1, .ref told)] dX7_readClause_52 (by decide) rfl ?_
    refine ex_iconst (v := 0) dX7_readClause_54 (by decide) ?_
    refine ex_istore [(5, .int 0), (4, .int (nI (p_val (pb T N) N 1 1000000000 ((p.1 + 5, p.2))))), (3, .ref (g.2.2.2.2 6)), (2, .int (hs_I S r 2)), (0, .ref r), (1, .ref told)] dX7_readClause_55 (by decide) rfl ?_
    refine ex_aload_n dX7_readClause_57 2 rfl ?_
    refine ex_cVC (q := ("BondOffice$Kind", 6)) [] [] dX7_readClause_58 cV_X7_67 (c_has2_3 g) cO_3 rfl rfl (by decide) (Nat.le_of_ble_eq_true rfl) rfl ?_
    refine ex_if_eq (tgt := 96) dX7_readClause_61 (by decide) (fun c61 => absurd c61 (by decide)) (fun c61 => ?_)
    refine ex_aload_n dX7_readClause_64 2 rfl ?_
    refine ex_getC (q := ("BondOffice$Kind", "joint", "Ljava/lang/String;", 6, fun ad => .ref (ad 14))) dX7_readClause_65 cF_21 gc_X7_71 ?_
    refine ex_cVC (q := ("java/lang/String", 14)) [] [] dX7_readClause_68 cV_X7_75 (c_empty_4 g) cO_8 rfl rfl (by decide) (Nat.le_of_ble_eq_true rfl) rfl ?_
    refine ex_if_ne (tgt := 82) dX7_readClause_71 (by decide) (fun c71 => ?_) (fun c71 => absurd c71 (by decide))
    refine ex_aload_n dX7_readClause_82 4 rfl ?_
    refine ex_aload_n dX7_readClause_83 2 rfl ?_
    refine ex_getC (q := ("BondOffice$Kind", "secondLeast", "I", 6, fun _ => .int 0)) dX7_readClause_84 cF_22 gc_X7_84 ?_
    refine ex_aload_n dX7_readClause_87 2 rfl ?_
    refine ex_getC (q := ("BondOffice$Kind", "secondMost", "I", 6, fun _ => .int (100))) dX7_readClause_88 cF_23 gc_X7_87 ?_
    refine ex_cVg [.int 0, .int (100)] [] dX7_readClause_91 cV_X7_63 (r_num g hTI3.1 (l := 0) (mm := 100) rfl rfl (by decide) (by decide)) hTI3.1.1.1 hTI3.1.1.2 rfl rfl rfl (by decide) (Nat.le_of_ble_eq_true rfl) rfl ?_ (fun E S' n' k' h => by obtain ⟨h1, -⟩ := h; cases h1)
    rintro v' S4 n' k' ⟨hr, hP4, hG4, hn, hk⟩
    cases hr
    have hn := hn.symm
    have hk := hk.symm
    subst hn hk
    have hTI4 := TI_r hTI3 hP4 hG4
    have mt4 : told ∈ hs_L S4 ∧ hs_K S4 told = 6 := by obtain ⟨_, _, _, ⟨ca, ⟨⟨t1, t2, _⟩, _⟩, _⟩, _⟩ := id hTI4; exact ⟨t1, t2⟩
    show ex_W _ _ _ _ 94 [(5, .int 0), (4, .int (nI (p_val (pb T N) N 1 1000000000 ((p.1 + 5, p.2))))), (3, .ref (g.2.2.2.2 6)), (2, .int (hs_I S r 2)), (0, .ref r), (1, .ref told)] [.int (nI (p_val (pb T N) N 0 100 (p_num (pb T N) N 1 1000000000 ((p.1 + 5, p.2)))))] S4 n k
    refine ex_istore [(5, .int (nI (p_val (pb T N) N 0 100 (p_num (pb T N) N 1 1000000000 ((p.1 + 5, p.2)))))), (4, .int (nI (p_val (pb T N) N 1 1000000000 ((p.1 + 5, p.2))))), (3, .ref (g.2.2.2.2 6)), (2, .int (hs_I S r 2)), (0, .ref r), (1, .ref told)] dX7_readClause_94 (by decide) rfl ?_
    refine ex_aload_n dX7_readClause_96 4 rfl ?_
    refine ex_ldcS (q := ("BondOffice$RuleReader", 90, ";", 17)) dX7_readClause_97 cR_0 rfl rfl ?_
    refine ex_cVg [.ref (g.2.2.2.2 17)] [] dX7_readClause_99 cV_X7_80 (r_exp_7 g hTI4.1) hTI4.1.1.1 hTI4.1.1.2 rfl rfl rfl (by decide) (Nat.le_of_ble_eq_true rfl) rfl ?_ (fun E S' n' k' h => by obtain ⟨h1, -⟩ := h; cases h1)
    rintro v' S5 n' k' ⟨hr, hP5, hG5, hn, hk⟩
    cases hr
    have hn := hn.symm
    have hk := hk.symm
    subst hn hk
    have hTI5 := TI_r hTI4 hP5 hG5
    have mt5 : told ∈ hs_L S5 ∧ hs_K S5 told = 6 := by obtain ⟨_, _, _, ⟨ca, ⟨⟨t1, t2, _⟩, _⟩, _⟩, _⟩ := id hTI5; exact ⟨t1, t2⟩
    show ex_W _ _ _ _ 102 [(5, .int (nI (p_val (pb T N) N 0 100 (p_num (pb T N) N 1 1000000000 ((p.1 + 5, p.2)))))), (4, .int (nI (p_val (pb T N) N 1 1000000000 ((p.1 + 5, p.2))))), (3, .ref (g.2.2.2.2 6)), (2, .int (hs_I S r 2)), (0, .ref r), (1, .ref told)] [] S5 n k
    refine ex_aload_n dX7_readClause_102 4 rfl ?_
    refine ex_getI dX7_readClause_103 fl_X7_15 hTI5.1.1.1 hTI5.1.1.2 ?_
    refine ex_if_ne (tgt := 129) dX7_readClause_106 (by decide) (fun c106 => ?_) (fun c106 => ?_)
    · exact ex_vrt rfl dX7_readClause_129 ⟨rfl, _, cc, cs, hTI5, by rw [hst], fun z => absurd (by rw [hTI5.1.2.1.2.2.2.1, z]; rfl) c106⟩
    · have hq0 : (p_sign (pb T N) N 59 (p_num (pb T N) N 0 100 (p_num (pb T N) N 1 1000000000 (p.1 + 5, p.2)))).2.1 = 0 := (nI_eq (b := 0) (by have := hTI5.1.2.2.2.2.2.2; omega) (by decide)).mp (hTI5.1.2.1.2.2.2.1.symm.trans c106)
      obtain ⟨ca2, ⟨hto2, a2, e2, hR2, hA2, ha02, he02⟩, hca2, hcf2⟩ := id hTI5.2.2.2.1
      refine ex_aload_n dX7_readClause_109 5 rfl ?_
      refine ex_getR (b := a2) dX7_readClause_110 fl_X7_43 mt5.1 mt5.2 hR2 ?_
      refine ex_new (N := 3) dX7_readClause_113 nl_X7_92 rfl (by omega) (by omega) (fun z hz => ?_)
      refine ex_dup dX7_readClause_116 rfl ?_
      refine ex_aload_n dX7_readClause_117 2 rfl ?_
      refine ex_iload dX7_readClause_118 1 rfl ?_
      refine ex_iload dX7_readClause_120 0 rfl ?_
      refine ex_cIv [.ref (g.2.2.2.2 6), .int (nI (p_val (pb T N) N 1 1000000000 ((p.1 + 5, p.2)))), .int (nI (p_val (pb T N) N 0 100 (p_num (pb T N) N 1 1000000000 ((p.1 + 5, p.2)))))] [.ref z, .ref a2] dX7_readClause_122 cI_X7_94 (c_Clause_init g (hs_new_q _ _ _ _).1 (hs_new_q _ _ _ _).2.1) rfl (by decide) (Nat.le_of_ble_eq_true rfl) rfl ?_
      have hf1 : hs_fr S5 (hs_sI (hs_sI (hs_sR (hs_new S5 z 1 0) z 0 (some (g.2.2.2.2 6))) z 1 (nI (p_val (pb T N) N 1 1000000000 ((p.1 + 5, p.2))))) z 2 (nI (p_val (pb T N) N 0 100 (p_num (pb T N) N 1 1000000000 ((p.1 + 5, p.2)))))) [] := fr_zI (fr_zI (fr_zR (hs_fr_new hz []) hz _ _) hz _ _) hz _ _
      have hz1 : z ∈ hs_L (hs_sI (hs_sI (hs_sR (hs_new S5 z 1 0) z 0 (some (g.2.2.2.2 6))) z 1 (nI (p_val (pb T N) N 1 1000000000 ((p.1 + 5, p.2))))) z 2 (nI (p_val (pb T N) N 0 100 (p_num (pb T N) N 1 1000000000 ((p.1 + 5, p.2)))))) ∧ hs_K (hs_sI (hs_sI (hs_sR (hs_new S5 z 1 0) z 0 (some (g.2.2.2.2 6))) z 1 (nI (p_val (pb T N) N 1 1000000000 ((p.1 + 5, p.2))))) z 2 (nI (p_val (pb T N) N 0 100 (p_num (pb T N) N 1 1000000000 ((p.1 + 5, p.2)))))) z = 1 := ⟨(hs_new_q S5 z 1 0).1, (hs_new_q S5 z 1 0).2.1⟩
      have hc1 : CCl g (hs_sI (hs_sI (hs_sR (hs_new S5 z 1 0) z 0 (some (g.2.2.2.2 6))) z 1 (nI (p_val (pb T N) N 1 1000000000 ((p.1 + 5, p.2))))) z 2 (nI (p_val (pb T N) N 0 100 (p_num (pb T N) N 1 1000000000 ((p.1 + 5, p.2)))))) z (3, p_val (pb T N) N 1 1000000000 (p.1 + 5, p.2), p_val (pb T N) N 0 100 (p_num (pb T N) N 1 1000000000 (p.1 + 5, p.2))) := by
        unfold CCl
        refine ⟨?_, ?_, ?_⟩
        · simp [hs_R_sI, hs_R_sR]
        · simp [hs_I_sI]
        · simp [hs_I_sI]; try rfl
      generalize hs_sI (hs_sI (hs_sR (hs_new S5 z 1 0) z 0 (some (g.2.2.2.2 6))) z 1 (nI (p_val (pb T N) N 1 1000000000 ((p.1 + 5, p.2))))) z 2 (nI (p_val (pb T N) N 0 100 (p_num (pb T N) N 1 1000000000 ((p.1 + 5, p.2))))) = S9 at hf1 hz1 hc1 ⊢
      have hA9 := al_fr hA2 hf1 (by simp) (by simp)
      refine ex_c1 (fun hE9 => ?_)
      refine ex_cVg [.ref z] [] dX7_readClause_125 cV_X7_97 (c_AL_adq g hA9 ⟨hz1.1, hz1.2, by decide⟩ (by omega) (by omega) (by omega)) hA9.1.1 hA9.1.2.1 rfl rfl rfl (by decide) (Nat.le_of_ble_eq_true rfl) rfl ?_ (fun E S' n' k' h => by obtain ⟨h1, -⟩ := h; cases h1)
      rintro v' S8 n8 k8 ⟨hr8, hpo⟩
      cases hr8
      obtain ⟨c8, hTI8⟩ := TI_add hTI5 (by omega) hto2 hca2 hcf2 hR2 hA2 ha02 he02 hf1 hz1 hc1 hE9 hpo
      show ex_W _ _ _ _ 128 [(5, .int (nI (p_val (pb T N) N 0 100 (p_num (pb T N) N 1 1000000000 ((p.1 + 5, p.2)))))), (4, .int (nI (p_val (pb T N) N 1 1000000000 ((p.1 + 5, p.2))))), (3, .ref (g.2.2.2.2 6)), (2, .int (hs_I S r 2)), (0, .ref r), (1, .ref told)] [.int 1] S8 n8 k8
      refine ex_pop dX7_readClause_128 rfl ?_
      exact ex_vrt rfl dX7_readClause_129 ⟨rfl, _, c8, _, hTI8, by rw [hst], fun _ => by rw [hst]; exact ⟨rfl, rfl⟩⟩
