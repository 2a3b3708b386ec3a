theorem al_gr_f {S S2 : hs_T} {a e c N q : Nat} (h : al_gr S a e c N q S2) : (q ∈ hs_L S2 ∧ hs_K S2 q = 15 ∧ hs_N S2 q = N) ∧ ∀ x, x ∈ hs_L S → x ∈ hs_L S2 ∧ hs_K S2 x = hs_K S x := by
  obtain ⟨hq, rfl⟩ := h
  exact ⟨hs_new_q S q 15 N, fun x hx => ⟨(hs_new_o 15 N hq hx).1, (hs_new_o 15 N hq hx).2.1⟩⟩
set_option maxRecDepth 20000 in
set_option maxHeartbeats 2000000 in
theorem c_AL_add3 (g : gl_T) {S : hs_T} {n k : Nat} {a e c kd x : Nat} {xs : List Nat} (h : al_at g S a e c kd xs) (hx : x ∈ hs_L S ∧ hs_K S x = kd ∧ kd < 11) (hlen : xs.length ≤ 2500) (hn1 : n + 1 ≤ ex_NM) (hk1 : k + 5000 ≤ ex_KM) {y : Int32} (hy : y = nI xs.length) : ex_M g 6 mJx4a65c_add_72be8 [.ref a, .ref x, .ref e, .int y] S n k (fun r S2 n2 k2 => r = .inl none ∧ al_po g S S2 a e c kd (xs ++ [x]) n n2 k k2) := by
  obtain ⟨⟨hL, hK, hR, hI⟩, ⟨hlc, hc5⟩, hE, hel, hxs⟩ := id h
  subst hy
  refine ex_enter (by decide +kernel) (Nat.le_of_ble_eq_true rfl) ?_
  show ex_W _ _ _ _ 0 [(0, .ref a), (1, .ref x), (2, .ref e), (3, .int (nI xs.length))] [] _ _ _
  refine ex_iload_n dJx4a65c_add_72be8_0 3 rfl ?_
  refine ex_aload_n dJx4a65c_add_72be8_1 2 rfl ?_
  by_cases hlen2 : xs.length = c
  · have hcb := al_cap_b c (by rcases hE with ⟨_, _, _, q⟩ | ⟨_, q⟩ <;> omega) (by omega)
    have hk2 : k + al_cap c ≤ ex_KM := by omega
    have K6 : ∀ lv9, lv9 = [(0, .ref a), (1, .ref x), (2, .ref e), (3, .int (nI xs.length))] → ex_W g 6 mJx4a65c_add_72be8 (fun r S2 n2 k2 => r = .inl none ∧ al_po g S S2 a e c kd (xs ++ [x]) n n2 k k2) 6 lv9 [] S n k := by
      intro lv9 hlv9
      subst hlv9
      refine ex_aload_n dJx4a65c_add_72be8_6 0 rfl ?_
      refine ex_cVg [] [] dJx4a65c_add_72be8_7 cV_Jx4a65c_129 (c_AL_grow0 g hL hK hR hE (by omega) (by rw [hI, hlen2]) (al_el h hlen2.symm) hn1 hk2) (by assumption) (by assumption) rfl rfl rfl (by decide) (Nat.le_of_ble_eq_true rfl) rfl ?_ (fun E S2 n2 k2 hh => by first | exact absurd hh.1 (by simp) | (obtain ⟨_, h, _⟩ := hh; exact absurd h (by simp)))
      rintro v S2 n2 k2 ⟨q, hv, hgr, rfl, rfl⟩
      cases hv
      show ex_W _ _ _ _ 10 [(0, .ref a), (1, .ref x), (2, .ref e), (3, .int (nI xs.length))] [.ref q] _ _ _
      obtain ⟨⟨hLq, hKq, hNq⟩, hold⟩ := al_gr_f hgr
      have hLa2 := (hold a hL).1
      have hKa2 := (hold a hL).2.trans hK
      have hLx2 := (hold x hx.1).1
      have hKx2 : hs_K S2 x < 11 := by rw [(hold x hx.1).2, hx.2.1]; exact hx.2.2
      refine ex_astore_n [(2, .ref q), (0, .ref a), (1, .ref x), (3, .int (nI xs.length))] dJx4a65c_add_72be8_10 (by decide) rfl ?_
      refine ex_aload_n dJx4a65c_add_72be8_11 0 rfl ?_
      refine ex_iload_n dJx4a65c_add_72be8_12 3 rfl ?_
      refine ex_aload_n dJx4a65c_add_72be8_13 2 rfl ?_
      refine ex_aastR (j := xs.length) dJx4a65c_add_72be8_14 hLq hKq hLx2 hKx2 rfl (by omega) (by omega) ?_
      refine ex_aload_n dJx4a65c_add_72be8_15 1 rfl ?_
      refine ex_iload_n dJx4a65c_add_72be8_16 3 rfl ?_
      refine ex_iconst (v := 1) dJx4a65c_add_72be8_17 (by decide) ?_
      refine ex_iadd dJx4a65c_add_72be8_18 ?_
      refine ex_putI dJx4a65c_add_72be8_19 fl_Jx4a65c_48 (pf_Jx4a65c_48 _) (by assumption) (by assumption) ?_
      exact ex_vrt rfl dJx4a65c_add_72be8_22 ⟨rfl, al_fin2 h hlen2 (by omega) hx hgr⟩
    rcases hE with ⟨hLe, hKe, hNe, hc2⟩ | ⟨he, hc0⟩
    · refine ex_alen dJx4a65c_add_72be8_2 hLe (by rw [hKe]; decide) ?_
      refine ex_icmp_ne (tgt := 11) dJx4a65c_add_72be8_3 (by decide) (fun c3 => absurd (by rw [hNe, hlen2]) c3) (fun c3 => K6 _ rfl)
    · subst he
      refine ex_alenC (q := (.object "java/lang/Object", 1, 0, fun _ _ => .null)) dJx4a65c_add_72be8_2 List.mem_cons_self ?_
      refine ex_icmp_ne (tgt := 11) dJx4a65c_add_72be8_3 (by decide) (fun c3 => absurd (by rw [hlen2, hc0]) c3) (fun c3 => K6 _ rfl)
  · obtain ⟨hLe, hKe, hNe, hc2⟩ : e ∈ hs_L S ∧ hs_K S e = 15 ∧ hs_N S e = c ∧ 2 ≤ c := by
      rcases hE with hE | ⟨-, hE⟩
      · exact hE
      · omega
    have hKx : hs_K S x < 11 := by rw [hx.2.1]; exact hx.2.2
    refine ex_alen dJx4a65c_add_72be8_2 hLe (by rw [hKe]; decide) ?_
    refine ex_icmp_ne (tgt := 11) dJx4a65c_add_72be8_3 (by decide) (fun c3 => ?_) (fun c3 => absurd ((nI_eq (by omega) (by omega)).mp c3) (by omega))
    refine ex_aload_n dJx4a65c_add_72be8_11 2 rfl ?_
    refine ex_iload_n dJx4a65c_add_72be8_12 3 rfl ?_
    refine ex_aload_n dJx4a65c_add_72be8_13 1 rfl ?_
    refine ex_aastR (j := xs.length) dJx4a65c_add_72be8_14 hLe hKe hx.1 hKx rfl (by omega) (by omega) ?_
    refine ex_aload_n dJx4a65c_add_72be8_15 0 rfl ?_
    refine ex_iload_n dJx4a65c_add_72be8_16 3 rfl ?_
    refine ex_iconst (v := 1) dJx4a65c_add_72be8_17 (by decide) ?_
    refine ex_iadd dJx4a65c_add_72be8_18 ?_
    refine ex_putI dJx4a65c_add_72be8_19 fl_Jx4a65c_48 (pf_Jx4a65c_48 _) (by assumption) (by assumption) ?_
    exact ex_vrt rfl dJx4a65c_add_72be8_22 ⟨rfl, al_fin1 h (by omega) hx⟩
theorem al_mod {g : gl_T} {S : hs_T} {a e c kd : Nat} {xs : List Nat} (h : al_at g S a e c kd xs) (v : Int32) : al_at g (hs_sI S a 0 v) a e c kd xs := by
  obtain ⟨⟨hL, hK, hR, hI⟩, h2, hE, hel, hxs⟩ := h
  exact ⟨⟨hL, hK, hR, by rw [hs_I_sI, if_neg (by omega)]; exact hI⟩, h2, hE, hel, hxs⟩
theorem al_po_mod {g : gl_T} {S S2 : hs_T} {a e c kd n n2 k k2 : Nat} {xs : List Nat} {v : Int32} (h : al_po g (hs_sI S a 0 v) S2 a e c kd xs n n2 k k2) : al_po g S S2 a e c kd xs n n2 k k2 := by
  obtain ⟨e2, c2, h1, h2, h3, h4, h5, h6, h7⟩ := h
  exact ⟨e2, c2, h1, hs_fr_tr (hs_fr_mono (hs_fr_sI S a 0 v) (by simp)) h2, h3, h4, h5, h6, h7⟩
set_option maxRecDepth 20000 in
set_option maxHeartbeats 2000000 in
theorem c_AL_add (g : gl_T) {S : hs_T} {n k : Nat} {a e c kd x : Nat} {xs : List Nat} (h : al_at g S a e c kd xs) (hx : x ∈ hs_L S ∧ hs_K S x = kd ∧ kd < 11) (hlen : xs.length ≤ 2500) (hn1 : n + 1 ≤ ex_NM) (hk1 : k + 5000 ≤ ex_KM) : ex_M g 7 mJx4a65c_add_9ea2d [.ref a, .ref x] S n k (fun r S2 n2 k2 => r = .inl (some (.int 1)) ∧ al_po g S S2 a e c kd (xs ++ [x]) n n2 k k2) := by
  have hL := h.1.1
  have hK := h.1.2.1
  refine ex_enter (by decide +kernel) (Nat.le_of_ble_eq_true rfl) ?_
  show ex_W _ _ _ _ 0 [(0, .ref a), (1, .ref x)] [] _ _ _
  refine ex_aload_n dJx4a65c_add_9ea2d_0 0 rfl ?_
  refine ex_dup dJx4a65c_add_9ea2d_1 rfl ?_
  refine ex_getI dJx4a65c_add_9ea2d_2 fl_Jx4a65c_63 (by assumption) (by assumption) ?_
  refine ex_iconst (v := 1) dJx4a65c_add_9ea2d_5 (by decide) ?_
  refine ex_iadd dJx4a65c_add_9ea2d_6 ?_
  refine ex_putI dJx4a65c_add_9ea2d_7 fl_Jx4a65c_63 (pf_Jx4a65c_63 _) (by assumption) (by assumption) ?_
  refine ex_aload_n dJx4a65c_add_9ea2d_10 0 rfl ?_
  refine ex_aload_n dJx4a65c_add_9ea2d_11 1 rfl ?_
  refine ex_aload_n dJx4a65c_add_9ea2d_12 0 rfl ?_
  refine ex_getR (b := e) dJx4a65c_add_9ea2d_13 fl_Jx4a65c_9 (by assumption) (by assumption) (al_mod h (hs_I S a 0 + 1)).1.2.2.1 ?_
  refine ex_aload_n dJx4a65c_add_9ea2d_16 0 rfl ?_
  refine ex_getI dJx4a65c_add_9ea2d_17 fl_Jx4a65c_48 (by assumption) (by assumption) ?_
  refine ex_cVg [.ref x, .ref e, .int (hs_I (hs_sI S a 0 ((hs_I S a 0) + 1)) a 2)] [] dJx4a65c_add_9ea2d_20 cV_Jx4a65c_131 (c_AL_add3 g (al_mod h (hs_I S a 0 + 1)) hx hlen hn1 hk1 (al_mod h (hs_I S a 0 + 1)).1.2.2.2) (by assumption) (by assumption) rfl rfl rfl (by decide) (Nat.le_of_ble_eq_true rfl) rfl ?_ (fun E S2 n2 k2 hh => by first | exact absurd hh.1 (by simp) | (obtain ⟨_, h, _⟩ := hh; exact absurd h (by simp)))
  rintro v S2 n2 k2 ⟨hv, hpo⟩
  cases hv
  show ex_W _ _ _ _ 23 [(0, .ref a), (1, .ref x)] [] _ _ _
  refine ex_iconst (v := 1) dJx4a65c_add_9ea2d_23 (by decide) ?_
  exact ex_bret rfl (by decide) dJx4a65c_add_9ea2d_24 ⟨rfl, al_po_mod hpo⟩
theorem al_ne {g : gl_T} {S : hs_T} {a e c kd : Nat} {xs : List Nat} (h : al_at g S a e c kd xs) (h0 : 0 < c) : (e ∈ hs_L S ∧ hs_K S e = 15 ∧ hs_N S e = c ∧ 2 ≤ c) ∧ a ≠ e := by
  have h1 : e ∈ hs_L S ∧ hs_K S e = 15 ∧ hs_N S e = c ∧ 2 ≤ c := by
    rcases h.2.2.1 with h | h
    · exact h
    · omega
  exact ⟨h1, fun q => by have := h.1.2.1; rw [q, h1.2.1] at this; omega⟩
theorem al_fin3 {g : gl_T} {S : hs_T} {a e c kd x j n k : Nat} {xs : List Nat} (h : al_at g S a e c kd xs) (hj : j < xs.length) (hx : x ∈ hs_L S ∧ hs_K S x = kd ∧ kd < 11) : al_po g S (hs_sR S e j (some x)) a e c kd (xs.set j x) n n k k := by
  obtain ⟨⟨hL, hK, hR, hI⟩, ⟨hlc, hc5⟩, hE, hel, hxs⟩ := id h
  obtain ⟨⟨hLe, hKe, hNe, hc2⟩, hne⟩ := al_ne h (by omega)
  refine ⟨e, c, ⟨⟨hL, hK, ?_, by simp; exact hI⟩, ⟨by simp; omega, hc5⟩, Or.inl ⟨hLe, hKe, hNe, hc2⟩, fun i hi => ?_, fun y hy => ?_⟩, hs_fr_mono (hs_fr_sR S e _ _) (by simp), Or.inl rfl, Nat.le_refl _, Nat.le_refl _, Nat.le_refl _, rfl⟩
  · rw [hs_R_sR, if_neg (fun q => hne q.1)]; exact hR
  · simp at hi
    rw [hs_R_sR, List.getElem?_set]
    by_cases hil : i = j
    · subst hil; simp [hj]
    · rw [if_neg (fun q => hil q.2), if_neg (fun q => hil q.symm), hel i hi]
  · rcases List.mem_or_eq_of_mem_set hy with hy | hy
    · exact hxs y hy
    · rw [hy]; exact hx
set_option maxRecDepth 20000 in
set_option maxHeartbeats 2000000 in
theorem c_AL_set (g : gl_T) {S : hs_T} {n k : Nat} {a e c kd x : Nat} {xs : List Nat} (h : al_at g S a e c kd xs) (hx : x ∈ hs_L S ∧ hs_K S x = kd ∧ kd < 11) {y : Int32} {j b : Nat} (hy : y = nI j) (hj : xs[j]? = some b) : ex_M g 3 mJx4a65c_set_bcc79 [.ref a, .int y, .ref x] S n k (fun r S2 n2 k2 => r = .inl (some (.ref b)) ∧ al_po g S S2 a e c kd (xs.set j x) n n2 k k2) := by
  obtain ⟨⟨hL, hK, hR, hI⟩, ⟨hlc, hc5⟩, hE, hel, hxs⟩ := id h
  have hjl : j < xs.length := (List.getElem?_eq_some_iff.mp hj).1
  obtain ⟨⟨hLe, hKe, hNe, hc2⟩, hne⟩ := al_ne h (by omega)
  refine ex_enter (by decide +kernel) (Nat.le_of_ble_eq_true rfl) ?_
  show ex_W _ _ _ _ 0 [(0, .ref a), (1, .int y), (2, .ref x)] [] _ _ _
  refine ex_iload_n dJx4a65c_set_bcc79_0 1 rfl ?_
  refine ex_aload_n dJx4a65c_set_bcc79_1 0 rfl ?_
  refine ex_getI dJx4a65c_set_bcc79_2 fl_Jx4a65c_48 (by assumption) (by assumption) ?_
  refine ex_cSr [.int y, .int (hs_I S a 2)] [] dJx4a65c_set_bcc79_5 cS_Jx4a65c_118 (c_chk g hy hI hjl (by omega)) rfl (by decide) (Nat.le_of_ble_eq_true rfl) rfl ?_
  refine ex_pop dJx4a65c_set_bcc79_8 rfl ?_
  refine ex_aload_n dJx4a65c_set_bcc79_9 0 rfl ?_
  refine ex_iload_n dJx4a65c_set_bcc79_10 1 rfl ?_
  refine ex_cVr [.int y] [] dJx4a65c_set_bcc79_11 cV_Jx4a65c_123 (c_AL_elementData g h hy hj) (by assumption) (by assumption) rfl rfl rfl (by decide) (Nat.le_of_ble_eq_true rfl) rfl ?_
  refine ex_astore_n [(3, .ref b), (0, .ref a), (1, .int y), (2, .ref x)] dJx4a65c_set_bcc79_14 (by decide) rfl ?_
  refine ex_aload_n dJx4a65c_set_bcc79_15 1 rfl ?_
  refine ex_getR (b := e) dJx4a65c_set_bcc79_16 fl_Jx4a65c_9 (by assumption) (by assumption) hR ?_
  refine ex_iload_n dJx4a65c_set_bcc79_19 2 rfl ?_
  refine ex_aload_n dJx4a65c_set_bcc79_20 3 rfl ?_
  refine ex_aastR (j := j) dJx4a65c_set_bcc79_21 hLe hKe hx.1 (by rw [hx.2.1]; exact hx.2.2) hy (by omega) (by omega) ?_
  refine ex_aload_n dJx4a65c_set_bcc79_22 0 rfl ?_
  exact ex_art rfl (Or.inl ⟨_, rfl⟩) dJx4a65c_set_bcc79_23 ⟨rfl, al_fin3 h hjl hx⟩
set_option maxRecDepth 20000 in
set_option maxHeartbeats 2000000 in
theorem c_AL_range (g : gl_T) {S : hs_T} {n k : Nat} {a m j : Nat} {y : Int32} (hL : a ∈ hs_L S) (hK : hs_K S a = 0) (hI : hs_I S a 2 = nI m) (hy : y = nI j) (hj : j ≤ m) (hm : m < 2 ^ 31) : ex_M g 0 mJx4a65c_rangeCheckForAdd_d00df [.ref a, .int y] S n k (ex_rt none S n k) := by
  refine ex_enter (by decide +kernel) (Nat.le_of_ble_eq_true rfl) ?_
  show ex_W _ _ _ _ 0 [(0, .ref a), (1, .int y)] [] _ _ _
  refine ex_iload_n dJx4a65c_rangeCheckForAdd_d00df_0 1 rfl ?_
  refine ex_aload_n dJx4a65c_rangeCheckForAdd_d00df_1 0 rfl ?_
  refine ex_getI dJx4a65c_rangeCheckForAdd_d00df_2 fl_Jx4a65c_48 (by assumption) (by assumption) ?_
  refine ex_icmp_gt (tgt := 12) dJx4a65c_rangeCheckForAdd_d00df_5 (by decide) (fun c5 => absurd c5 (by rw [hy, hI]; exact nI_nlt hj hm)) (fun c5 => ?_)
  refine ex_iload_n dJx4a65c_rangeCheckForAdd_d00df_8 1 rfl ?_
  refine ex_if_ge (tgt := 25) dJx4a65c_rangeCheckForAdd_d00df_9 (by decide) (fun c9 => ?_) (fun c9 => absurd (by rw [hy]; exact nI_pos' (by omega)) c9)
  exact ex_vrt rfl dJx4a65c_rangeCheckForAdd_d00df_25 ex_rt_i
theorem al_ins {xs : List Nat} {x j i : Nat} (hj : j ≤ xs.length) : (xs.insertIdx j x)[i]? = if i < j then xs[i]? else if i = j then some x else xs[i - 1]? := by
  rw [List.getElem?_insertIdx]
  by_cases h1 : i < j
  · simp [h1]
  · by_cases h2 : i = j
    · subst h2; simp [hj]
    · simp [h1, h2]
theorem al_fin4 {g : gl_T} {S S2 : hs_T} {a e e1 c c1 kd x j n n2 k k2 : Nat} {xs : List Nat} (h : al_at g S a e c kd xs) (hj : j ≤ xs.length) (hx : x ∈ hs_L S ∧ hs_K S x = kd ∧ kd < 11)
    (hS2 : (a ∈ hs_L S2 ∧ hs_K S2 a = 0 ∧ hs_R S2 a 1 = some e1 ∧ hs_J S2 a = hs_J S a) ∧ (e1 ∈ hs_L S2 ∧ hs_K S2 e1 = 15 ∧ hs_N S2 e1 = c1 ∧ xs.length < c1 ∧ 2 ≤ c1 ∧ c1 ≤ 5000) ∧ (∀ i, i < xs.length → hs_R S2 e1 i = xs[i]?) ∧ hs_fr S S2 [a, e] ∧ (e1 = e ∨ e1 ∉ hs_L S)) (hc : c ≤ c1 ∧ n2 + c ≤ n + c1 ∧ k2 + 4 * c ≤ k + 4 * c1) {v : Int32} (hv : v = nI (xs.length + 1)) :
    al_po g S (hs_sI (hs_sR (hs_rR S2 e1 (va_cpy (hs_R S2 e1) (hs_R S2 e1) j (j + 1) (xs.length - j))) e1 j (some x)) a 2 v) a e c kd (xs.insertIdx j x) n n2 k k2 := by
  obtain ⟨⟨hL, hK, hR, hI⟩, ⟨hlc, hc5⟩, hE, hel, hxs⟩ := id h
  obtain ⟨⟨hLa2, hKa2, hRa2, hJa2⟩, ⟨hLe1, hKe1, hNe1, hlt, hc12, hc15⟩, hel2, hfr, hee⟩ := hS2
  have hne : a ≠ e1 := fun q => by rw [q, hKe1] at hKa2; omega
  have hlen : (xs.insertIdx j x).length = xs.length + 1 := by rw [List.length_insertIdx, if_pos hj]
  refine ⟨e1, c1, ⟨⟨hLa2, hKa2, ?_, ?_⟩, ⟨by rw [hlen]; omega, hc15⟩, Or.inl ⟨hLe1, hKe1, hNe1, hc12⟩, fun i hi => ?_, fun y hy => ?_⟩, ?_, hee, hc.1, hc.2.1, hc.2.2, ?_⟩
  · rw [hs_R_sI, hs_R_sR, if_neg (fun q => hne q.1), hs_R_rR, if_neg hne]; exact hRa2
  · rw [hs_I_sI, if_pos ⟨rfl, rfl⟩, hlen, hv]
  · rw [hlen] at hi
    rw [hs_R_sI, hs_R_sR, al_ins hj]
    by_cases h2 : i = j
    · subst h2; simp
    · rw [if_neg (fun q => h2 q.2), hs_R_rR, if_pos rfl]
      unfold va_cpy
      by_cases h1 : i < j
      · rw [if_neg (by omega), if_pos h1, hel2 i (by omega)]
      · rw [if_pos (by omega), if_neg h1, if_neg h2, show j + (i - (j + 1)) = i - 1 by omega, hel2 _ (by omega)]
  · have hy2 : y ∈ hs_L S ∧ hs_K S y = kd ∧ kd < 11 := by
      rcases (List.mem_insertIdx hj).mp hy with hy | hy
      · rw [hy]; exact hx
      · exact hxs y hy
    have := hfr.1 y hy2.1
    exact ⟨this.1, this.2.1.trans hy2.2.1, hy2.2.2⟩
  · refine ⟨fun y hy => ⟨(hfr.1 y hy).1, (hfr.1 y hy).2⟩, fun y hy hw => ?_⟩
    have h3 := hfr.2 y hy hw
    simp at hw
    have hy1 : y ≠ e1 := fun q => by
      rcases hee with z | z
      · exact hw.2 (q.trans z)
      · exact z (q ▸ hy)
    exact ⟨funext fun i => by rw [hs_I_sI, if_neg (fun q => hw.1 q.1)]; exact congrFun h3.1 i, h3.2.1, funext fun i => by rw [hs_R_sI, hs_R_sR, if_neg (fun q => hy1 q.1), hs_R_rR, if_neg hy1]; exact congrFun h3.2.2 i⟩
  · exact hJa2
set_option maxRecDepth 20000 in
set_option maxHeartbeats 2000000 in
theorem c_ins38 {g : gl_T} {S : hs_T} {n k : Nat} {a e c kd x : Nat} {xs : List Nat} (h : al_at g S a e c kd xs) (hx : x ∈ hs_L S ∧ hs_K S x = kd ∧ kd < 11) (hlen : xs.length ≤ 2500) {y : Int32} {j : Nat} (hy : y = nI j) (hj : j ≤ xs.length) {S2 : hs_T} {e1 c1 n2 k2 : Nat} (hS2 : ((a ∈ hs_L S2 ∧ hs_K S2 a = 0 ∧ hs_R S2 a 1 = some e1 ∧ hs_J S2 a = hs_J S a) ∧ (e1 ∈ hs_L S2 ∧ hs_K S2 e1 = 15 ∧ hs_N S2 e1 = c1 ∧ xs.length < c1 ∧ 2 ≤ c1 ∧ c1 ≤ 5000) ∧ (∀ i, i < xs.length → hs_R S2 e1 i = xs[i]?) ∧ hs_fr S S2 [a, e] ∧ (e1 = e ∨ e1 ∉ hs_L S))) (hc : c ≤ c1 ∧ n2 + c ≤ n + c1 ∧ k2 + 4 * c ≤ k + 4 * c1) {ms : Int32} (hm : ms = nI xs.length) : ex_W g 7 mJx4a65c_add_7a177 (fun r S3 n3 k3 => r = .inl none ∧ al_po g S S3 a e c kd (xs.insertIdx j x) n n3 k k3) 38 [(4, .ref e1), (3, .int ms), (0, .ref a), (1, .int y), (2, .ref x)] [] S2 n2 k2 := by
  obtain ⟨⟨hLa2, hKa2, hRa2, hJa2⟩, ⟨hLe1, hKe1, hNe1, hlt, hc12, hc15⟩, hel2, hfr, hee⟩ := id hS2
  have hx2 := hfr.1 x hx.1
  have hKx : hs_K S2 x < 11 := by rw [hx2.2.1, hx.2.1]; exact hx.2.2
  refine ex_aload dJx4a65c_add_7a177_38 0 rfl ?_
  refine ex_iload_n dJx4a65c_add_7a177_40 3 rfl ?_
  refine ex_aload dJx4a65c_add_7a177_41 0 rfl ?_
  refine ex_iload_n dJx4a65c_add_7a177_43 3 rfl ?_
  refine ex_iconst (v := 1) dJx4a65c_add_7a177_44 (by decide) ?_
  refine ex_iadd dJx4a65c_add_7a177_45 ?_
  refine ex_iload_n dJx4a65c_add_7a177_46 1 rfl ?_
  refine ex_iload_n dJx4a65c_add_7a177_47 3 rfl ?_
  refine ex_isub dJx4a65c_add_7a177_48 ?_
  refine ex_copy (sp := j) (dp := j + 1) (N := xs.length - j) dJx4a65c_add_7a177_49 ml_Jx4a65c_112 mw_copy hLe1 hKe1 hLe1 hKe1 hy (by rw [hy]; exact nI_1 j) (by rw [hm, hy]; exact pk_sub hj) (by omega) (by omega) (by omega) (fun i hi z hz => ?_) (by decide) (Nat.le_of_ble_eq_true rfl) ?_
  · rw [hel2 _ (by omega)] at hz
    have h9 := h.2.2.2.2 z (List.mem_of_getElem? hz)
    have h8 := hfr.1 z h9.1
    exact ⟨h8.1, by rw [h8.2.1]; omega⟩
  refine ex_aload dJx4a65c_add_7a177_52 0 rfl ?_
  refine ex_iload_n dJx4a65c_add_7a177_54 3 rfl ?_
  refine ex_aload_n dJx4a65c_add_7a177_55 4 rfl ?_
  refine ex_aastR (j := j) dJx4a65c_add_7a177_56 hLe1 hKe1 hx2.1 hKx hy (show j < hs_N S2 e1 by omega) (by omega) ?_
  refine ex_aload_n dJx4a65c_add_7a177_57 2 rfl ?_
  refine ex_iload_n dJx4a65c_add_7a177_58 1 rfl ?_
  refine ex_iconst (v := 1) dJx4a65c_add_7a177_59 (by decide) ?_
  refine ex_iadd dJx4a65c_add_7a177_60 ?_
  refine ex_putI dJx4a65c_add_7a177_61 fl_Jx4a65c_48 (pf_Jx4a65c_48 _) hLa2 hKa2 ?_
  exact ex_vrt rfl dJx4a65c_add_7a177_64 ⟨rfl, al_fin4 h hj hx hS2 hc (by rw [hm]; exact nI_1 _)⟩
set_option maxRecDepth 20000 in
set_option maxHeartbeats 2000000 in
theorem c_ins15 {g : gl_T} {S : hs_T} {n k : Nat} {a e c kd x : Nat} {xs : List Nat} (h : al_at g S a e c kd xs) (hx : x ∈ hs_L S ∧ hs_K S x = kd ∧ kd < 11) (hlen : xs.length ≤ 2500) {y : Int32} {j : Nat} (hy : y = nI j) (hj : j ≤ xs.length) (hn1 : n + 1 ≤ ex_NM) (hk1 : k + 5000 ≤ ex_KM) : ex_W g 7 mJx4a65c_add_7a177 (fun r S3 n3 k3 => r = .inl none ∧ al_po g S S3 a e c kd (xs.insertIdx j x) n n3 k k3) 15 [(0, .ref a), (1, .int y), (2, .ref x)] [] S n k := by
  obtain ⟨⟨hL, hK, hR, hI⟩, ⟨hlc, hc5⟩, hE, hel, hxs⟩ := id h
  refine ex_aload_n dJx4a65c_add_7a177_15 0 rfl ?_
  refine ex_getI dJx4a65c_add_7a177_16 fl_Jx4a65c_48 (by assumption) (by assumption) ?_
  refine ex_dup dJx4a65c_add_7a177_19 rfl ?_
  refine ex_istore_n [(3, .int (hs_I S a 2)), (0, .ref a), (1, .int y), (2, .ref x)] dJx4a65c_add_7a177_20 (by decide) rfl ?_
  refine ex_aload_n dJx4a65c_add_7a177_21 1 rfl ?_
  refine ex_getR (b := e) dJx4a65c_add_7a177_22 fl_Jx4a65c_9 (by assumption) (by assumption) hR ?_
  refine ex_dup dJx4a65c_add_7a177_25 rfl ?_
  refine ex_astore [(4, .ref e), (3, .int (hs_I S a 2)), (0, .ref a), (1, .int y), (2, .ref x)] dJx4a65c_add_7a177_26 (by decide) rfl ?_
  by_cases hlen2 : xs.length = c
  · have hcb := al_cap_b c (by rcases hE with ⟨_, _, _, q⟩ | ⟨_, q⟩ <;> omega) (by omega)
    have hk2 : k + al_cap c ≤ ex_KM := by omega
    have K6 : ∀ lv9, lv9 = [(4, .ref e), (3, .int (hs_I S a 2)), (0, .ref a), (1, .int y), (2, .ref x)] → ex_W g 7 mJx4a65c_add_7a177 (fun r S3 n3 k3 => r = .inl none ∧ al_po g S S3 a e c kd (xs.insertIdx j x) n n3 k k3) 32 lv9 [] S n k := by
      intro lv9 hlv9
      subst hlv9
      refine ex_aload_n dJx4a65c_add_7a177_32 2 rfl ?_
      refine ex_cVg [] [] dJx4a65c_add_7a177_33 cV_Jx4a65c_129 (c_AL_grow0 g hL hK hR hE (by omega) (by rw [hI, hlen2]) (al_el h hlen2.symm) hn1 hk2) (by assumption) (by assumption) rfl rfl rfl (by decide) (Nat.le_of_ble_eq_true rfl) rfl ?_ (fun E S2 n2 k2 hh => by first | exact absurd hh.1 (by simp) | (obtain ⟨_, h, _⟩ := hh; exact absurd h (by simp)))
      rintro v S2 n2 k2 ⟨q, hv, hgr, rfl, rfl⟩
      cases hv
      show ex_W _ _ _ _ 36 [(4, .ref e), (3, .int (hs_I S a 2)), (0, .ref a), (1, .int y), (2, .ref x)] [.ref q] _ _ _
      obtain ⟨⟨hLq, hKq, hNq⟩, hold⟩ := al_gr_f hgr
      have hqn := hgr.1
      refine ex_astore [(4, .ref q), (3, .int (hs_I S a 2)), (0, .ref a), (1, .int y), (2, .ref x)] dJx4a65c_add_7a177_36 (by decide) rfl ?_
      refine c_ins38 h hx hlen hy hj (e1 := q) (c1 := al_cap c) ⟨⟨(hold a hL).1, (hold a hL).2.trans hK, ?_, ?_⟩, ⟨hLq, hKq, hNq, by omega, hcb.2.2.2, by omega⟩, fun i hi => ?_, ⟨fun z hz => ?_, fun z hz hw => ?_⟩, Or.inr hqn⟩ ⟨by omega, by omega, by omega⟩ hI
      · rw [hgr.2, hs_R_sR, if_pos ⟨rfl, rfl⟩]
      · rw [hgr.2]; exact (hs_new_o 15 (al_cap c) hqn hL).2.2.2.2.1
      · have hqa : q ≠ a := fun z => hqn (z ▸ hL)
        rw [hgr.2, hs_R_sR, if_neg (fun z => hqa z.1), hs_R_rR, if_pos rfl, sb_cpy0' (by omega)]
        exact hel i hi
      · rw [hgr.2]; exact ⟨(hs_new_o 15 (al_cap c) hqn hz).1, (hs_new_o 15 (al_cap c) hqn hz).2.1, (hs_new_o 15 (al_cap c) hqn hz).2.2.1⟩
      · obtain ⟨-, -, -, h4, h5, h6⟩ := hs_new_o (S := S) 15 (al_cap c) hqn hz
        have hzq : z ≠ q := fun y => hqn (y ▸ hz)
        simp at hw
        rw [hgr.2]
        exact ⟨h4, h5, funext fun i => by rw [hs_R_sR, if_neg (fun y => hw.1 y.1), hs_R_rR, if_neg hzq]; exact congrFun h6 i⟩
    rcases hE with ⟨hLe, hKe, hNe, hc2⟩ | ⟨he, hc0⟩
    · refine ex_alen dJx4a65c_add_7a177_28 hLe (by rw [hKe]; decide) ?_
      refine ex_icmp_ne (tgt := 38) dJx4a65c_add_7a177_29 (by decide) (fun c3 => absurd (by rw [hI, hNe, hlen2]) c3) (fun c3 => K6 _ rfl)
    · subst he
      refine ex_alenC (q := (.object "java/lang/Object", 1, 0, fun _ _ => .null)) dJx4a65c_add_7a177_28 List.mem_cons_self ?_
      refine ex_icmp_ne (tgt := 38) dJx4a65c_add_7a177_29 (by decide) (fun c3 => absurd (by rw [hI, hlen2, hc0]) c3) (fun c3 => K6 _ rfl)
  · obtain ⟨⟨hLe, hKe, hNe, hc2⟩, hne⟩ := al_ne h (by omega)
    refine ex_alen dJx4a65c_add_7a177_28 hLe (by rw [hKe]; decide) ?_
    refine ex_icmp_ne (tgt := 38) dJx4a65c_add_7a177_29 (by decide) (fun c3 => ?_) (fun c3 => absurd ((nI_eq (by omega) (by omega)).mp (hI.symm.trans c3)) (by omega))
    exact c_ins38 h hx hlen hy hj (e1 := e) (c1 := c) ⟨⟨hL, hK, hR, rfl⟩, ⟨hLe, hKe, hNe, by omega, hc2, hc5⟩, hel, hs_fr_rf S _, Or.inl rfl⟩ ⟨Nat.le_refl _, Nat.le_refl _, Nat.le_refl _⟩ hI
set_option maxRecDepth 20000 in
set_option maxHeartbeats 2000000 in
theorem c_AL_ins (g : gl_T) {S : hs_T} {n k : Nat} {a e c kd x : Nat} {xs : List Nat} (h : al_at g S a e c kd xs) (hx : x ∈ hs_L S ∧ hs_K S x = kd ∧ kd < 11) (hlen : xs.length ≤ 2500) {y : Int32} {j : Nat} (hy : y = nI j) (hj : j ≤ xs.length) (hn1 : n + 1 ≤ ex_NM) (hk1 : k + 5000 ≤ ex_KM) : ex_M g 7 mJx4a65c_add_7a177 [.ref a, .int y, .ref x] S n k (fun r S3 n3 k3 => r = .inl none ∧ al_po g S S3 a e c kd (xs.insertIdx j x) n n3 k k3) := by
  have hL := h.1.1
  have hK := h.1.2.1
  refine ex_enter (by decide +kernel) (Nat.le_of_ble_eq_true rfl) ?_
  show ex_W _ _ _ _ 0 [(0, .ref a), (1, .int y), (2, .ref x)] [] _ _ _
  refine ex_aload_n dJx4a65c_add_7a177_0 0 rfl ?_
  refine ex_iload_n dJx4a65c_add_7a177_1 1 rfl ?_
  refine ex_cVv [.int y] [] dJx4a65c_add_7a177_2 cV_Jx4a65c_135 (c_AL_range g hL hK h.1.2.2.2 hy hj (by omega)) (by assumption) (by assumption) rfl rfl rfl (by decide) (Nat.le_of_ble_eq_true rfl) rfl ?_
  refine ex_aload_n dJx4a65c_add_7a177_5 0 rfl ?_
  refine ex_dup dJx4a65c_add_7a177_6 rfl ?_
  refine ex_getI dJx4a65c_add_7a177_7 fl_Jx4a65c_63 (by assumption) (by assumption) ?_
  refine ex_iconst (v := 1) dJx4a65c_add_7a177_10 (by decide) ?_
  refine ex_iadd dJx4a65c_add_7a177_11 ?_
  refine ex_putI dJx4a65c_add_7a177_12 fl_Jx4a65c_63 (pf_Jx4a65c_63 _) (by assumption) (by assumption) ?_
  exact ex_lw (fun r S3 n3 k3 hh => ⟨hh.1, al_po_mod hh.2⟩) (c_ins15 (al_mod h _) hx hlen hy hj hn1 hk1)
theorem al_del {xs : List Nat} {j i : Nat} : (xs.eraseIdx j)[i]? = if i < j then xs[i]? else xs[i + 1]? := List.getElem?_eraseIdx
theorem al_fin5 {g : gl_T} {S S2 : hs_T} {a e c kd j n k : Nat} {xs : List Nat} (h : al_at g S a e c kd xs) (hj : j < xs.length)
    (hS2 : (a ∈ hs_L S2 ∧ hs_K S2 a = 0 ∧ hs_R S2 a 1 = some e ∧ hs_J S2 a = hs_J S a) ∧ (e ∈ hs_L S2 ∧ hs_K S2 e = 15 ∧ hs_N S2 e = c) ∧ (∀ i, i < xs.length - 1 → hs_R S2 e i = (xs.eraseIdx j)[i]?) ∧ hs_fr S S2 [a, e]) {v : Int32} (hv : v = nI (xs.length - 1)) :
    al_po g S (hs_sR (hs_sI S2 a 2 v) e (xs.length - 1) none) a e c kd (xs.eraseIdx j) n n k k := by
  obtain ⟨⟨hL, hK, hR, hI⟩, ⟨hlc, hc5⟩, hE, hel, hxs⟩ := id h
  obtain ⟨⟨hLe, hKe, hNe, hc2⟩, hne⟩ := al_ne h (by omega)
  obtain ⟨⟨hLa2, hKa2, hRa2, hJa2⟩, ⟨hLe1, hKe1, hNe1⟩, hel2, hfr⟩ := hS2
  have hlen : (xs.eraseIdx j).length = xs.length - 1 := by rw [List.length_eraseIdx, if_pos hj]
  refine ⟨e, c, ⟨⟨hLa2, hKa2, ?_, ?_⟩, ⟨by rw [hlen]; omega, hc5⟩, Or.inl ⟨hLe1, hKe1, hNe1, hc2⟩, fun i hi => ?_, fun y hy => ?_⟩, ?_, Or.inl rfl, Nat.le_refl _, Nat.le_refl _, Nat.le_refl _, hJa2⟩
  · rw [hs_R_sR, if_neg (fun q => hne q.1)]; exact hRa2
  · rw [hs_I_sR, hs_I_sI, if_pos ⟨rfl, rfl⟩, hlen, hv]
  · rw [hlen] at hi
    rw [hs_R_sR, if_neg (by omega), hs_R_sI]
    exact hel2 i hi
  · have hy2 := hxs y (List.mem_of_mem_eraseIdx hy)
    exact ⟨(hfr.1 y hy2.1).1, (hfr.1 y hy2.1).2.1.trans hy2.2.1, hy2.2.2⟩
  · exact hs_fr_tr hfr (hs_fr_tr (hs_fr_mono (hs_fr_sI S2 a _ _) (by simp)) (hs_fr_mono (hs_fr_sR _ e _ _) (by simp)))
set_option maxRecDepth 20000 in
set_option maxHeartbeats 2000000 in
theorem c_rem34 {g : gl_T} {S : hs_T} {n k : Nat} {a e c kd : Nat} {xs : List Nat} (h : al_at g S a e c kd xs) (hlen : xs.length ≤ 4000) {y : Int32} {j : Nat} (hy : y = nI j) (hj : j < xs.length) {S2 : hs_T} (hS2 : ((a ∈ hs_L S2 ∧ hs_K S2 a = 0 ∧ hs_R S2 a 1 = some e ∧ hs_J S2 a = hs_J S a) ∧ (e ∈ hs_L S2 ∧ hs_K S2 e = 15 ∧ hs_N S2 e = c) ∧ (∀ i, i < xs.length - 1 → hs_R S2 e i = (xs.eraseIdx j)[i]?) ∧ hs_fr S S2 [a, e])) {ms : Int32} (hm : ms = nI (xs.length - 1)) : ex_W g 1 mJx4a65c_fastRemove_b59b0 (fun r S3 n3 k3 => r = .inl none ∧ al_po g S S3 a e c kd (xs.eraseIdx j) n n3 k k3) 34 [(3, .int ms), (0, .ref a), (1, .ref e), (2, .int y)] [] S2 n k := by
  obtain ⟨⟨hLa2, hKa2, hRa2, hJa2⟩, ⟨hLe1, hKe1, hNe1⟩, hel2, hfr⟩ := id hS2
  have hlc := h.2.1.1
  refine ex_aload_n dJx4a65c_fastRemove_b59b0_34 2 rfl ?_
  refine ex_aload_n dJx4a65c_fastRemove_b59b0_35 1 rfl ?_
  refine ex_iload_n dJx4a65c_fastRemove_b59b0_36 0 rfl ?_
  refine ex_dup_x1 dJx4a65c_fastRemove_b59b0_37 rfl rfl ?_
  refine ex_putI dJx4a65c_fastRemove_b59b0_38 fl_Jx4a65c_48 (pf_Jx4a65c_48 _) hLa2 hKa2 ?_
  refine ex_null dJx4a65c_fastRemove_b59b0_41 ?_
  refine ex_aastN (j := xs.length - 1) dJx4a65c_fastRemove_b59b0_42 hLe1 hKe1 hm (show xs.length - 1 < hs_N S2 e by omega) (by omega) ?_
  exact ex_vrt rfl dJx4a65c_fastRemove_b59b0_43 ⟨rfl, al_fin5 h hj hS2 hm⟩
set_option maxRecDepth 20000 in
set_option maxHeartbeats 2000000 in
theorem c_rem10 {g : gl_T} {S : hs_T} {n k : Nat} {a e c kd : Nat} {xs : List Nat} (h : al_at g S a e c kd xs) (hlen : xs.length ≤ 4000) {y : Int32} {j : Nat} (hy : y = nI j) (hj : j < xs.length) : ex_W g 1 mJx4a65c_fastRemove_b59b0 (fun r S3 n3 k3 => r = .inl none ∧ al_po g S S3 a e c kd (xs.eraseIdx j) n n3 k k3) 10 [(0, .ref a), (1, .ref e), (2, .int y)] [] S n k := by
  obtain ⟨⟨hL, hK, hR, hI⟩, ⟨hlc, hc5⟩, hE, hel, hxs⟩ := id h
  obtain ⟨⟨hLe, hKe, hNe, hc2⟩, hne⟩ := al_ne h (by omega)
  have hm9 : hs_I S a 2 - 1 = nI (xs.length - 1) := by rw [hI]; exact (pk_sub (a := xs.length) (b := 1) (by omega))
  refine ex_aload_n dJx4a65c_fastRemove_b59b0_10 0 rfl ?_
  refine ex_getI dJx4a65c_fastRemove_b59b0_11 fl_Jx4a65c_48 (by assumption) (by assumption) ?_
  refine ex_iconst (v := 1) dJx4a65c_fastRemove_b59b0_14 (by decide) ?_
  refine ex_isub dJx4a65c_fastRemove_b59b0_15 ?_
  refine ex_dup dJx4a65c_fastRemove_b59b0_16 rfl ?_
  refine ex_istore_n [(3, .int ((hs_I S a 2) - 1)), (0, .ref a), (1, .ref e), (2, .int y)] dJx4a65c_fastRemove_b59b0_17 (by decide) rfl ?_
  refine ex_iload_n dJx4a65c_fastRemove_b59b0_18 3 rfl ?_
  refine ex_icmp_le (tgt := 34) dJx4a65c_fastRemove_b59b0_19 (by decide) (fun c19 => ?_) (fun c19 => ?_)
  · refine c_rem34 h hlen hy hj ⟨⟨hL, hK, hR, rfl⟩, ⟨hLe, hKe, hNe⟩, fun i hi => ?_, hs_fr_rf S _⟩ hm9
    have hjm : xs.length - 1 ≤ j := (nI_leI (by omega) (by omega)).mp (by rw [← hm9, ← hy]; exact c19)
    rw [al_del, if_pos (by omega), hel i (by omega)]
  · refine ex_aload_n dJx4a65c_fastRemove_b59b0_22 2 rfl ?_
    refine ex_iload_n dJx4a65c_fastRemove_b59b0_23 3 rfl ?_
    refine ex_iconst (v := 1) dJx4a65c_fastRemove_b59b0_24 (by decide) ?_
    refine ex_iadd dJx4a65c_fastRemove_b59b0_25 ?_
    refine ex_aload_n dJx4a65c_fastRemove_b59b0_26 2 rfl ?_
    refine ex_iload_n dJx4a65c_fastRemove_b59b0_27 3 rfl ?_
    refine ex_iload_n dJx4a65c_fastRemove_b59b0_28 0 rfl ?_
    refine ex_iload_n dJx4a65c_fastRemove_b59b0_29 3 rfl ?_
    refine ex_isub dJx4a65c_fastRemove_b59b0_30 ?_
    refine ex_copy (sp := j + 1) (dp := j) (N := xs.length - 1 - j) dJx4a65c_fastRemove_b59b0_31 ml_Jx4a65c_112 mw_copy hLe hKe hLe hKe (by rw [hy]; exact nI_1 j) hy (by rw [hm9, hy]; exact pk_sub (by omega)) (by omega) (by omega) (by omega) (fun i hi z hz => ?_) (by decide) (Nat.le_of_ble_eq_true rfl) ?_
    · rw [hel _ (by omega)] at hz
      have h9 := h.2.2.2.2 z (List.mem_of_getElem? hz)
      exact ⟨h9.1, by omega⟩
    refine c_rem34 (S2 := hs_rR S e (va_cpy (hs_R S e) (hs_R S e) (j + 1) j (xs.length - 1 - j))) h hlen hy hj ⟨⟨hL, hK, ?_, rfl⟩, ⟨hLe, hKe, hNe⟩, fun i hi => ?_, hs_fr_mono (hs_fr_rR S e _) (by simp)⟩ hm9
    · rw [hs_R_rR, if_neg hne]; exact hR
    · rw [hs_R_rR, if_pos rfl, al_del]
      unfold va_cpy
      by_cases h1 : i < j
      · rw [if_neg (by omega), if_pos h1, hel i (by omega)]
      · rw [if_pos (by omega), if_neg h1, show j + 1 + (i - j) = i + 1 by omega, hel _ (by omega)]
set_option maxRecDepth 20000 in
set_option maxHeartbeats 2000000 in
theorem c_AL_fast (g : gl_T) {S : hs_T} {n k : Nat} {a e c kd : Nat} {xs : List Nat} (h : al_at g S a e c kd xs) (hlen : xs.length ≤ 4000) {y : Int32} {j : Nat} (hy : y = nI j) (hj : j < xs.length) : ex_M g 1 mJx4a65c_fastRemove_b59b0 [.ref a, .ref e, .int y] S n k (fun r S3 n3 k3 => r = .inl none ∧ al_po g S S3 a e c kd (xs.eraseIdx j) n n3 k k3) := by
  have hL := h.1.1
  have hK := h.1.2.1
  refine ex_enter (by decide +kernel) (Nat.le_of_ble_eq_true rfl) ?_
  show ex_W _ _ _ _ 0 [(0, .ref a), (1, .ref e), (2, .int y)] [] _ _ _
  refine ex_aload_n dJx4a65c_fastRemove_b59b0_0 0 rfl ?_
  refine ex_dup dJx4a65c_fastRemove_b59b0_1 rfl ?_
  refine ex_getI dJx4a65c_fastRemove_b59b0_2 fl_Jx4a65c_63 (by assumption) (by assumption) ?_
  refine ex_iconst (v := 1) dJx4a65c_fastRemove_b59b0_5 (by decide) ?_
  refine ex_iadd dJx4a65c_fastRemove_b59b0_6 ?_
  refine ex_putI dJx4a65c_fastRemove_b59b0_7 fl_Jx4a65c_63 (pf_Jx4a65c_63 _) (by assumption) (by assumption) ?_
  exact ex_lw (fun r S3 n3 k3 hh => ⟨hh.1, al_po_mod hh.2⟩) (c_rem10 (al_mod h _) hlen hy hj)
set_option maxRecDepth 20000 in
set_option maxHeartbeats 2000000 in
theorem c_AL_remove (g : gl_T) {S : hs_T} {n k : Nat} {a e c kd : Nat} {xs : List Nat} (h : al_at g S a e c kd xs) (hlen : xs.length ≤ 4000) {y : Int32} {j b : Nat} (hy : y = nI j) (hj : xs[j]? = some b) : ex_M g 2 mJx4a65c_remove_915e3 [.ref a, .int y] S n k (fun r S3 n3 k3 => r = .inl (some (.ref b)) ∧ al_po g S S3 a e c kd (xs.eraseIdx j) n n3 k k3) := by
  obtain ⟨⟨hL, hK, hR, hI⟩, ⟨hlc, hc5⟩, hE, hel, hxs⟩ := id h
  have hjl : j < xs.length := (List.getElem?_eq_some_iff.mp hj).1
  obtain ⟨⟨hLe, hKe, hNe, hc2⟩, hne⟩ := al_ne h (by omega)
  refine ex_enter (by decide +kernel) (Nat.le_of_ble_eq_true rfl) ?_
  show ex_W _ _ _ _ 0 [(0, .ref a), (1, .int y)] [] _ _ _
  refine ex_iload_n dJx4a65c_remove_915e3_0 1 rfl ?_
  refine ex_aload_n dJx4a65c_remove_915e3_1 0 rfl ?_
  refine ex_getI dJx4a65c_remove_915e3_2 fl_Jx4a65c_48 (by assumption) (by assumption) ?_
  refine ex_cSr [.int y, .int (hs_I S a 2)] [] dJx4a65c_remove_915e3_5 cS_Jx4a65c_118 (c_chk g hy hI hjl (by omega)) rfl (by decide) (Nat.le_of_ble_eq_true rfl) rfl ?_
  refine ex_pop dJx4a65c_remove_915e3_8 rfl ?_
  refine ex_aload_n dJx4a65c_remove_915e3_9 0 rfl ?_
  refine ex_getR (b := e) dJx4a65c_remove_915e3_10 fl_Jx4a65c_9 (by assumption) (by assumption) hR ?_
  refine ex_astore_n [(2, .ref e), (0, .ref a), (1, .int y)] dJx4a65c_remove_915e3_13 (by decide) rfl ?_
  refine ex_aload_n dJx4a65c_remove_915e3_14 0 rfl ?_
  refine ex_iload_n dJx4a65c_remove_915e3_15 2 rfl ?_
  refine ex_aaldR (b := b) dJx4a65c_remove_915e3_16 hLe hKe hy (by omega) (by omega) ((hel j hjl).trans hj) ?_
  refine ex_astore_n [(3, .ref b), (2, .ref e), (0, .ref a), (1, .int y)] dJx4a65c_remove_915e3_17 (by decide) rfl ?_
  refine ex_aload_n dJx4a65c_remove_915e3_18 2 rfl ?_
  refine ex_aload_n dJx4a65c_remove_915e3_19 1 rfl ?_
  refine ex_iload_n dJx4a65c_remove_915e3_20 3 rfl ?_
  refine ex_cVg [.ref e, .int y] [] dJx4a65c_remove_915e3_21 cV_Jx4a65c_144 (c_AL_fast g h hlen hy hjl) (by assumption) (by assumption) rfl rfl rfl (by decide) (Nat.le_of_ble_eq_true rfl) rfl ?_ (fun E S2 n2 k2 hh => by first | exact absurd hh.1 (by simp) | (obtain ⟨_, h, _⟩ := hh; exact absurd h (by simp)))
  rintro v S2 n2 k2 ⟨hv, hpo⟩
  cases hv
  show ex_W _ _ _ _ 24 [(3, .ref b), (2, .ref e), (0, .ref a), (1, .int y)] [] _ _ _
  refine ex_aload_n dJx4a65c_remove_915e3_24 0 rfl ?_
  exact ex_art rfl (Or.inl ⟨_, rfl⟩) dJx4a65c_remove_915e3_25 ⟨rfl, hpo⟩
theorem fl_Jxc12de_7 : ex_fl RJxc12de 7 0 0 0 := ⟨(RJx4a65c, TJx4a65c, 3), rfl, by decide, by decide, rfl, ck_0, Or.inl ⟨_, tb_58, Or.inl rfl⟩⟩
theorem pf_Jxc12de_7 (M : mt_T) : ex_pf M 7 0 0 (.int) := ⟨(RJx4a65c, TJx4a65c, 3), rfl, by decide +kernel, Or.inl rfl⟩
set_option maxRecDepth 20000 in
set_option maxHeartbeats 2000000 in
theorem c_AC_init (g : gl_T) {S : hs_T} {n k : Nat} {a : Nat} : ex_M g 1 mJxa1e45_init_da8c8 [.ref a] S n k (ex_rt none S n k) := by
  refine ex_enter (by decide +kernel) (Nat.le_of_ble_eq_true rfl) ?_
  show ex_W _ _ _ _ 0 [(0, .ref a)] [] _ _ _
  refine ex_aload_n dJxa1e45_init_da8c8_0 0 rfl ?_
  refine ex_objInit dJxa1e45_init_da8c8_1 oi_Jxa1e45_1 (by decide) (Nat.le_of_ble_eq_true rfl) ?_
  exact ex_vrt rfl dJxa1e45_init_da8c8_4 ex_rt_i
set_option maxRecDepth 20000 in
set_option maxHeartbeats 2000000 in
theorem c_ABL_init (g : gl_T) {S : hs_T} {n k : Nat} {a : Nat} (hL : a ∈ hs_L S) (hK : hs_K S a = 0) : ex_M g 2 mJxc12de_init_da8c8 [.ref a] S n k (ex_rt none (hs_sI S a 0 0) n k) := by
  refine ex_enter (by decide +kernel) (Nat.le_of_ble_eq_true rfl) ?_
  show ex_W _ _ _ _ 0 [(0, .ref a)] [] _ _ _
  refine ex_aload_n dJxc12de_init_da8c8_0 0 rfl ?_
  refine ex_cIv [] [] dJxc12de_init_da8c8_1 cI_Jxc12de_1 (c_AC_init g) rfl (by decide) (Nat.le_of_ble_eq_true rfl) rfl ?_
  refine ex_aload_n dJxc12de_init_da8c8_4 0 rfl ?_
  refine ex_iconst (v := 0) dJxc12de_init_da8c8_5 (by decide) ?_
  refine ex_putI dJxc12de_init_da8c8_6 fl_Jxc12de_7 (pf_Jxc12de_7 _) hL hK ?_
  exact ex_vrt rfl dJxc12de_init_da8c8_9 ex_rt_i
set_option maxRecDepth 20000 in
set_option maxHeartbeats 2000000 in
theorem c_AL_init (g : gl_T) {S : hs_T} {n k : Nat} {a : Nat} (hL : a ∈ hs_L S) (hK : hs_K S a = 0) : ex_M g 3 mJx4a65c_init_da8c8 [.ref a] S n k (ex_rt none (hs_sR (hs_sI S a 0 0) a 1 (some (g.2.2.2.2 1))) n k) := by
  refine ex_enter (by decide +kernel) (Nat.le_of_ble_eq_true rfl) ?_
  show ex_W _ _ _ _ 0 [(0, .ref a)] [] _ _ _
  refine ex_aload_n dJx4a65c_init_da8c8_0 0 rfl ?_
  refine ex_cIv [] [] dJx4a65c_init_da8c8_1 cI_Jx4a65c_1 (c_ABL_init g hL hK) rfl (by decide) (Nat.le_of_ble_eq_true rfl) rfl ?_
  refine ex_aload_n dJx4a65c_init_da8c8_4 0 rfl ?_
  refine ex_gets (q := ("java/util/ArrayList", "DEFAULTCAPACITY_EMPTY_ELEMENTDATA", "[Ljava/lang/Object;", fun ad => .ref (ad 1))) dJx4a65c_init_da8c8_5 List.mem_cons_self gs_Jx4a65c_39 ?_
  refine ex_putR dJx4a65c_init_da8c8_8 fl_Jx4a65c_9 (pf_Jx4a65c_9 _) (Or.inr ⟨_, rfl⟩) (by assumption) (by assumption) ?_
  exact ex_vrt rfl dJx4a65c_init_da8c8_11 ex_rt_i
