/-! what holds of every state -/
def OQ (s : st_T) : Prop := (∀ j, j < (s_ls s).length → (ln_at (s_ls s) j).2.1 < s_sd s ∧ (ln_at (s_ls s) j).2.2.1 < (s_hs s).length ∧ (ln_at (s_ls s) j).2.2.2.1 ≤ s_td s) ∧ (∀ j, j < (s_rs s).length → ∀ c ∈ (ru_at (s_rs s) j).2, cl_ok c) ∧ (∀ j, j < (s_ws s).length → wi_ok s (wi_at (s_ws s) j)) ∧ (s_ws s).length ≤ 50 * (s_ds s).length ∧ s_cr s + su (fun j => wi_op (wi_at (s_ws s) j)) (s_ws s).length ≤ 10000000000000000 * (s_ds s).length
theorem OK_of {s : st_T} {ys : List Nat} (hG : GO (s_ls s) ys) (h : OQ s) : OK s := ⟨⟨ys, hG⟩, h⟩
theorem OQ_of {s : st_T} (h : OK s) : OQ s := h.2
theorem OQ_td {s : st_T} (h : OQ s) {t : Nat} (ht : s_td s ≤ t) : OQ (w_td s t) := by
  obtain ⟨h1, h2, h3, h4, h5⟩ := h
  refine ⟨fun j hj => ?_, h2, fun j hj => ?_, h4, h5⟩
  · obtain ⟨a1, a2, a3⟩ := h1 j hj
    exact ⟨a1, a2, Nat.le_trans a3 ht⟩
  · obtain ⟨a1, a2, a3, a4, a5, a6, a7⟩ := h3 j hj
    exact ⟨a1, Nat.le_trans a2 ht, a3, a4, a5, a6, a7⟩
theorem OQ_hs {s : st_T} (h : OQ s) {hs : List (Nat × Nat)} (hl : (s_hs s).length ≤ hs.length) : OQ (w_hs s hs) := by
  obtain ⟨h1, h2, h3, h4, h5⟩ := h
  refine ⟨fun j hj => ?_, h2, fun j hj => ?_, h4, h5⟩
  · obtain ⟨a1, a2, a3⟩ := h1 j hj
    exact ⟨a1, Nat.lt_of_lt_of_le a2 hl, a3⟩
  · obtain ⟨a1, a2, a3, a4, a5, a6, a7⟩ := h3 j hj
    exact ⟨a1, a2, a3, a4, Nat.lt_of_lt_of_le a5 hl, a6, a7⟩
theorem OQ_holder {s : st_T} (h : OQ s) : OQ (sp_holder s).2.2 := by
  unfold sp_holder
  split
  · exact h
  · exact OQ_hs h (by simp)
theorem OQ_wait {s : st_T} (h : OQ s) (x : Int32) : OQ (sp_wait s x).2.2 := by
  unfold sp_wait
  split
  · exact h
  · exact OQ_td h (Nat.le_add_right _ _)
theorem OQ_noise {s : st_T} (h : OQ s) (x : Int32) : OQ (sp_noise s x).2.2 := by
  unfold sp_noise
  split
  · exact h
  · exact h
theorem OQ_feed {s : st_T} (h : OQ s) (a b c d e : Int32) : OQ (sp_feed s a b c d e).2.2 := by
  unfold sp_feed
  split
  · exact h
  · exact h
