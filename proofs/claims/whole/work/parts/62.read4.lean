theorem r_clause (g : gl_T) {fd : Int32} {S0 S : hs_T} {n k r tp told N cc n0 k0 : Nat} {T : List Int32} {cs : List cl_T} {p : ps_T} (h : TI g fd S0 S r tp told T N cs p cc n0 n k0 k) (hn : n + 10 ≤ ex_NM) (hk : k + 6000 ≤ ex_KM) (h0 : p.2.1 = 0) (hsk : sk (pb T N) N p.1 = p.1) : ex_M g 8 mX7_readClause [.ref r, .ref told] S n k (cpo g fd S0 r tp told T N n0 k0 (st1 (pb T N) N cs p)) := by
  by_cases w0 : wd (pb T N) p.1 [102, 117, 110, 100]
  · exact r_clause_0 g h hn hk h0 hsk w0
  · by_cases w1 : wd (pb T N) p.1 [100, 97, 121, 115]
    · exact r_clause_1 g h hn hk h0 hsk w0 w1
    · by_cases w2 : wd (pb T N) p.1 [116, 105, 101, 114]
      · exact r_clause_2 g h hn hk h0 hsk w0 w1 w2
      · by_cases w3 : wd (pb T N) p.1 [115, 104, 97, 114, 101]
        · exact r_clause_3 g h hn hk h0 hsk w0 w1 w2 w3
        · exact r_clause_n g h hn hk h0 hsk w0 w1 w2 w3
set_option maxRecDepth 20000 in
set_option maxHeartbeats 2000000 in
theorem r_into_l {g : gl_T} {fd : Int32} {S0 : hs_T} {r tp told N n0 k0 : Nat} {T : List Int32} {R : List cl_T × ps_T} (hn0 : n0 + 100 ≤ ex_NM) (hk0 : k0 + 7000 ≤ ex_KM) : ∀ t i cs cs' q p S n k cc, TI g fd S0 S r tp told T N cs' q cc n0 n k0 k → q.2 = p.2 → (q.2.1 = 0 → q.1 = p.1 ∧ cs' = cs ∧ sk (pb T N) N q.1 = q.1 ∧ i ≤ q.1) → i ≤ N + 1 → 0 < t → (p.2.1 = 0 → N < p.1 + t) → p_rs (pb T N) N t cs p = R → ex_W g 9 mX7_readInto (fun o S' n' k' => o = .inl none ∧ ∃ q cc cs', TI g fd S0 S' r tp told T N cs' q cc n0 n' k0 k' ∧ q.2 = R.2.2 ∧ (q.2.1 = 0 → cs' = R.1)) 6 [(2, .int (nI i)), (0, .ref r), (1, .ref told)] [] S n k := by
  intro t
  induction t with
  | zero => intro i cs cs' q p S n k cc hTI h1 h2 h3 h4; exact absurd h4 (by decide)
  | succ t ih =>
    intro i cs cs' q p S n k cc hTI hqp hq0 hiN ht0 ht hres
    have hP := hTI.1
    have hN4 := hP.2.2.2.2.1
    have hpN := hP.2.2.2.2.2.1
    have mt : told ∈ hs_L S ∧ hs_K S told = 6 := by obtain ⟨_, _, _, ⟨ca, ⟨⟨t1, t2, _⟩, _⟩, _⟩, _⟩ := id hTI; exact ⟨t1, t2⟩
    have hcl := hTI.2.2.2.2.1
    have hcc := hTI.2.2.2.2.2.1
    have hnn : n ≤ n0 + 11 := by have z := hTI.2.2.2.2.2.2.1; split at z <;> omega
    have hkk : k ≤ k0 + 40 := by have z := hTI.2.2.2.2.2.2.2; omega
    refine ex_iload_n dX7_readInto_6 0 rfl ?_
    refine ex_aload_n dX7_readInto_7 1 rfl ?_
    refine ex_getI dX7_readInto_8 fl_X7_25 hP.1.1 hP.1.2 ?_
    refine ex_icmp_ge (tgt := 47) dX7_readInto_11 (by decide) (fun c11 => ?_) (fun c11 => ?_)
    · have hnc : ¬ (p.2.1 = 0 ∧ p.1 < N) := by
        rintro ⟨z1, z2⟩
        have z3 : q.2.1 = 0 := by rw [hqp]; exact z1
        obtain ⟨y1, y2, y3, y4⟩ := hq0 z3
        first
          | (rw [hP.2.1.2.1] at c11; have := (nI_leI (by omega) (by omega)).mp c11; omega)
          | (rw [hP.2.1.2.1, hP.2.1.2.2.1] at c22; have := (nI_leI (by omega) (by omega)).mp c22; omega)
          | exact c29 (by rw [hP.2.1.2.2.2.1, z3]; rfl)
      rw [p_rs_f hnc] at hres
      subst hres
      exact ex_vrt rfl dX7_readInto_47 ⟨rfl, q, cc, cs', hTI, hqp, fun z => (hq0 z).2.1⟩
    · refine ex_aload_n dX7_readInto_14 1 rfl ?_
      refine ex_getI dX7_readInto_15 fl_X7_9 hP.1.1 hP.1.2 ?_
      refine ex_aload_n dX7_readInto_18 1 rfl ?_
      refine ex_getI dX7_readInto_19 fl_X7_25 hP.1.1 hP.1.2 ?_
      refine ex_icmp_ge (tgt := 47) dX7_readInto_22 (by decide) (fun c22 => ?_) (fun c22 => ?_)
      · have hnc : ¬ (p.2.1 = 0 ∧ p.1 < N) := by
          rintro ⟨z1, z2⟩
          have z3 : q.2.1 = 0 := by rw [hqp]; exact z1
          obtain ⟨y1, y2, y3, y4⟩ := hq0 z3
          first
            | (rw [hP.2.1.2.1] at c11; have := (nI_leI (by omega) (by omega)).mp c11; omega)
            | (rw [hP.2.1.2.1, hP.2.1.2.2.1] at c22; have := (nI_leI (by omega) (by omega)).mp c22; omega)
            | exact c29 (by rw [hP.2.1.2.2.2.1, z3]; rfl)
        rw [p_rs_f hnc] at hres
        subst hres
        exact ex_vrt rfl dX7_readInto_47 ⟨rfl, q, cc, cs', hTI, hqp, fun z => (hq0 z).2.1⟩
      · refine ex_aload_n dX7_readInto_25 1 rfl ?_
        refine ex_getI dX7_readInto_26 fl_X7_15 hP.1.1 hP.1.2 ?_
        refine ex_if_ne (tgt := 47) dX7_readInto_29 (by decide) (fun c29 => ?_) (fun c29 => ?_)
        · have hnc : ¬ (p.2.1 = 0 ∧ p.1 < N) := by
            rintro ⟨z1, z2⟩
            have z3 : q.2.1 = 0 := by rw [hqp]; exact z1
            obtain ⟨y1, y2, y3, y4⟩ := hq0 z3
            first
              | (rw [hP.2.1.2.1] at c11; have := (nI_leI (by omega) (by omega)).mp c11; omega)
              | (rw [hP.2.1.2.1, hP.2.1.2.2.1] at c22; have := (nI_leI (by omega) (by omega)).mp c22; omega)
              | exact c29 (by rw [hP.2.1.2.2.2.1, z3]; rfl)
          rw [p_rs_f hnc] at hres
          subst hres
          exact ex_vrt rfl dX7_readInto_47 ⟨rfl, q, cc, cs', hTI, hqp, fun z => (hq0 z).2.1⟩
        · have hqN : q.1 < N := Nat.lt_of_not_le (fun z => c22 (by rw [hP.2.1.2.1, hP.2.1.2.2.1]; exact nI_le z (by omega)))
          have hq00 : q.2.1 = 0 := (nI_eq (b := 0) (by have := hP.2.2.2.2.2.2; omega) (by decide)).mp (hP.2.1.2.2.2.1.symm.trans c29)
          obtain ⟨hqe, hcse, hskq, hiq⟩ := hq0 hq00
          have hpe : p = q := Prod.ext hqe.symm hqp.symm
          rw [hpe] at hres ht
          rw [← hcse] at hres
          clear hq0
          have hcse2 := hcse
          clear hcse
          have hcd : q.2.1 = 0 ∧ q.1 < N := ⟨hq00, hqN⟩
          have ht9 := ht hq00
          refine ex_aload_n dX7_readInto_32 1 rfl ?_
          refine ex_aload_n dX7_readInto_33 2 rfl ?_
          refine ex_cVg [.ref told] [] dX7_readInto_34 cV_X7_31 (r_clause g hTI (by omega) (by omega) hq00 hskq) hP.1.1 hP.1.2 rfl rfl rfl (by decide) (Nat.le_of_ble_eq_true rfl) rfl ?_ (fun E S' n' k' h => by obtain ⟨h1, -⟩ := h; cases h1)
          rintro v' S2 n2 k2 ⟨hr2, q2, cc2, cs2, hTI2, e1, e2⟩
          cases hr2
          show ex_W _ _ _ _ 37 [(2, .int (nI i)), (0, .ref r), (1, .ref told)] [] S2 n2 k2
          refine ex_aload_n dX7_readInto_37 1 rfl ?_
          refine ex_cVg [] [] dX7_readInto_38 cV_X7_28 (r_skip g hTI2.1) hTI2.1.1.1 hTI2.1.1.2 rfl rfl rfl (by decide) (Nat.le_of_ble_eq_true rfl) rfl ?_ (fun E S' n' k' h => by obtain ⟨h1, -⟩ := h; cases h1)
          rintro v' S3 n' k' ⟨hr3, hP3, hG3, hn, hk⟩
          cases hr3
          have hn := hn.symm
          have hk := hk.symm
          subst hn hk
          have hTI3 := TI_r hTI2 hP3 hG3
          show ex_W _ _ _ _ 41 [(2, .int (nI i)), (0, .ref r), (1, .ref told)] [] S3 n2 k2
          refine ex_iinc (v := nI (i + 1)) 0 [(2, .int (nI (i + 1))), (0, .ref r), (1, .ref told)] dX7_readInto_41 rfl (nI_1 i) (by decide) rfl ?_
          refine ex_goto (tgt := 6) dX7_readInto_44 (by decide) ?_
          have hq3 : (p_bl (pb T N) N q2).2 = q2.2 := rfl
          by_cases hl : cs'.length = 10
          · have hst : st1 (pb T N) N cs' q = (cs', p_wr (if p_is (pb T N) N q then 3 else 1) q.1 q) := by unfold st1; rw [if_pos hl]
            rw [p_rs, if_pos hcd, if_pos hl] at hres
            have hz : ¬ (p_wr (if p_is (pb T N) N q then 3 else 1) q.1 q).2.1 = 0 := p_wr_0 (by split <;> decide)
            refine ih (i + 1) cs' _ _ _ S3 _ _ _ hTI3 (by rw [hq3, e1, hst]) (fun y => absurd y (by rw [hq3, e1, hst]; exact hz)) (by omega) (by omega) (fun y => absurd y hz) ?_
            rw [p_rs_f (fun y => hz y.1)]; exact hres
          · have hst : st1 (pb T N) N cs' q = (cs' ++ [(p_cl (pb T N) N q).1], (p_cl (pb T N) N q).2) := by unfold st1; rw [if_neg hl]
            rw [p_rs, if_pos hcd, if_neg hl] at hres
            rw [hst] at e1 e2
            have hq2N : q2.1 ≤ N := hTI2.1.2.2.2.2.2.1
            refine ih (i + 1) _ _ _ _ S3 _ _ _ hTI3 (by rw [hq3, e1]; rfl) (fun y => ?_) (by omega) (by omega) (fun y => ?_) hres
            · obtain ⟨y1, y2⟩ := e2 y
              have y3 : (p_cl (pb T N) N q).2.2.1 = 0 := by
                have y4 : q2.2.1 = (p_cl (pb T N) N q).2.2.1 := by rw [e1]
                rw [← y4]; exact y
              have y5 := (p_cl_0 y3).1
              have y6 := sk_ge' (pb T N) N q2.1
              refine ⟨by show sk (pb T N) N q2.1 = sk (pb T N) N (p_cl (pb T N) N q).2.1; rw [y1], y2, sk_sk hq2N, ?_⟩
              show i + 1 ≤ sk (pb T N) N q2.1
              change q2.1 = (p_cl (pb T N) N q).2.1 at y1
              omega
            · have y5 := (p_cl_0 (b := pb T N) (N := N) (p := q) y).1
              have y6 := sk_ge' (pb T N) N (p_cl (pb T N) N q).2.1
              show N < sk (pb T N) N (p_cl (pb T N) N q).2.1 + t
              omega
set_option maxRecDepth 20000 in
set_option maxHeartbeats 2000000 in
theorem r_into (g : gl_T) {fd : Int32} {S0 S : hs_T} {n k r tp told N cc n0 k0 : Nat} {T : List Int32} (h : TI g fd S0 S r tp told T N [] (0, 0, none) cc n0 n k0 k) (hn0 : n0 + 100 ≤ ex_NM) (hk0 : k0 + 7000 ≤ ex_KM) : ex_M g 9 mX7_readInto [.ref r, .ref told] S n k (fun o S' n' k' => o = .inl none ∧ ∃ q cc cs', TI g fd S0 S' r tp told T N cs' q cc n0 n' k0 k' ∧ q.2 = (p_all T N).2.2 ∧ (q.2.1 = 0 → cs' = (p_all T N).1)) := by
  refine ex_enter (by decide +kernel) (Nat.le_of_ble_eq_true rfl) ?_
  show ex_W _ _ _ _ 0 [(0, .ref r), (1, .ref told)] [] _ _ _
  refine ex_aload_n dX7_readInto_0 0 rfl ?_
  refine ex_cVg [] [] dX7_readInto_1 cV_X7_28 (r_skip g h.1) h.1.1.1 h.1.1.2 rfl rfl rfl (by decide) (Nat.le_of_ble_eq_true rfl) rfl ?_ (fun E S' n' k' h => by obtain ⟨h1, -⟩ := h; cases h1)
  rintro v' S1 n' k' ⟨hr1, hP1, hG1, hn1, hk1⟩
  cases hr1
  have hn1 := hn1.symm
  have hk1 := hk1.symm
  subst hn1 hk1
  have hTI1 := TI_r h hP1 hG1
  show ex_W _ _ _ _ 4 [(0, .ref r), (1, .ref told)] [] S1 n k
  refine ex_iconst (v := 0) dX7_readInto_4 (by decide) ?_
  refine ex_istore_n [(2, .int 0), (0, .ref r), (1, .ref told)] dX7_readInto_5 (by decide) rfl ?_
  refine ex_lv [0, 1, 2] rfl ?_
  exact r_into_l hn0 hk0 (N + 1) 0 [] [] _ (p_bl (pb T N) N (0, 0, none)) S1 n k cc hTI1 rfl (fun _ => ⟨rfl, rfl, sk_sk (Nat.zero_le _), Nat.zero_le _⟩) (by omega) (by omega) (fun _ => by omega) rfl
set_option maxRecDepth 20000 in
theorem c_RR_init (g : gl_T) {S : hs_T} {n k a : Nat} (hL : a ∈ hs_L S) (hK : hs_K S a = 7) {tt : Nat} {y1 : Int32} : ex_M g 1 mX7_init [.ref a, .ref tt, .int y1] S n k (ex_rt none (hs_sI (hs_sR (hs_sI (hs_sI (hs_sI S a 2 0) a 3 0) a 4 (-1)) a 0 (some tt)) a 1 y1) n k) := by
  refine ex_enter (by decide +kernel) (Nat.le_of_ble_eq_true rfl) ?_
  show ex_W _ _ _ _ 0 [(0, .ref a), (1, .ref tt), (2, .int y1)] [] _ _ _
  refine ex_aload_n dX7_init_0 0 rfl ?_
  refine ex_objInit dX7_init_1 oi_X7_3 (by decide) (Nat.le_of_ble_eq_true rfl) ?_
  refine ex_aload_n dX7_init_4 0 rfl ?_
  refine ex_iconst (v := 0) dX7_init_5 (by decide) ?_
  refine ex_putI dX7_init_6 fl_X7_9 (pf_X7_9 _) hL hK ?_
  refine ex_aload_n dX7_init_9 0 rfl ?_
  refine ex_iconst (v := 0) dX7_init_10 (by decide) ?_
  refine ex_putI dX7_init_11 fl_X7_15 (pf_X7_15 _) hL hK ?_
  refine ex_aload_n dX7_init_14 0 rfl ?_
  refine ex_iconst (v := (-1)) dX7_init_15 (by decide) ?_
  refine ex_putI dX7_init_16 fl_X7_18 (pf_X7_18 _) hL hK ?_
  refine ex_aload_n dX7_init_19 0 rfl ?_
  refine ex_aload_n dX7_init_20 1 rfl ?_
  refine ex_putR dX7_init_21 fl_X7_21 (pf_X7_21 rfl rfl) (Or.inr ⟨_, rfl⟩) hL hK ?_
  refine ex_aload_n dX7_init_24 0 rfl ?_
  refine ex_iload_n dX7_init_25 2 rfl ?_
  refine ex_putI dX7_init_26 fl_X7_25 (pf_X7_25 rfl rfl) hL hK ?_
  exact ex_vrt rfl dX7_init_29 ex_rt_i
set_option maxRecDepth 20000 in
theorem c_Rule_init (g : gl_T) {S : hs_T} {n k a : Nat} (hL : a ∈ hs_L S) (hK : hs_K S a = 6) (hn : n + 1 ≤ ex_NM) (hk : k + 3 ≤ ex_KM) {y : Int32} : ex_M g 5 mX6_init [.ref a, .int y] S n k (fun r S' n' k' => ∃ q, q ∉ hs_L S ∧ r = .inl none ∧ S' = hs_sI (hs_sR (hs_sR (hs_sI (hs_new S q 0 0) q 0 0) q 1 (some (g.2.2.2.2 1))) a 1 (some q)) a 0 y ∧ n' = n + 1 ∧ k' = k + 3) := by
  refine ex_enter (by decide +kernel) (Nat.le_of_ble_eq_true rfl) ?_
  show ex_W _ _ _ _ 0 [(0, .ref a), (1, .int y)] [] _ _ _
  refine ex_aload_n dX6_init_0 0 rfl ?_
  refine ex_objInit dX6_init_1 oi_X6_1 (by decide) (Nat.le_of_ble_eq_true rfl) ?_
  refine ex_aload_n dX6_init_4 0 rfl ?_
  refine ex_new (N := 3) dX6_init_5 nl_X6_7 rfl hn hk (fun q hq => ?_)
  refine ex_dup dX6_init_8 rfl ?_
  refine ex_cIv [] [.ref q, .ref a] dX6_init_9 cI_X6_9 (c_AL_init g (hs_new_q _ _ _ _).1 (hs_new_q _ _ _ _).2.1) rfl (by decide) (Nat.le_of_ble_eq_true rfl) rfl ?_
  have hL2 : a ∈ hs_L (hs_sR (hs_sI (hs_new S q 0 0) q 0 0) q 1 (some (g.2.2.2.2 1))) := (hs_new_o 0 0 hq hL).1
  have hK2 : hs_K (hs_sR (hs_sI (hs_new S q 0 0) q 0 0) q 1 (some (g.2.2.2.2 1))) a = 6 := (hs_new_o 0 0 hq hL).2.1.trans hK
  refine ex_putR dX6_init_12 fl_X6_10 (pf_X6_10 rfl rfl) (Or.inl ⟨_, rfl⟩) hL2 hK2 ?_
  refine ex_aload_n dX6_init_15 0 rfl ?_
  refine ex_iload_n dX6_init_16 1 rfl ?_
  refine ex_putI dX6_init_17 fl_X6_16 (pf_X6_16 rfl rfl) hL2 hK2 ?_
  exact ex_vrt rfl dX6_init_20 ⟨q, hq, rfl, rfl, rfl, rfl⟩
