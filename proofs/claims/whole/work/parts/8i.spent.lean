theorem spent_alike {X R : Sto} (h : InvQ QK WQ X R) {x : Int32} (hx : x ≠ 2) : ∃ r, m_N_spent x X = some (r, X) ∧ m_R_spent x R = some (r, up2 R 0 0 0) := by
  obtain ⟨_, _, _, _, _, _, _, _, hw⟩ := h
  have e : ∀ j, j ≠ 0 → up2 R 0 0 0 0 j = R 0 j := fun j hj => by rw [up2_at, if_neg (fun q => hj q.2)]
  have u : m_R_spent x R = if x = 0 then (j_R_spent_41 (up2 R 0 0 0 0 37) (up2 R 0 0 0)) else (if x = 1 then (j_R_spent_41 (up2 R 0 0 0 0 38) (up2 R 0 0 0)) else (if x = 2 then (j_R_spent_41 (up2 R 0 0 0 0 34) (up2 R 0 0 0)) else (j_R_spent_41 (-1) (up2 R 0 0 0)))) := rfl
  rw [u, e 37 (by decide), e 38 (by decide), if_neg hx]
  unfold m_N_spent j_R_spent_41
  rw [if_neg hx, hw.blk, hw.ins]
  by_cases x0 : x = 0
  · rw [if_pos x0, if_pos x0]; exact ⟨_, rfl, rfl⟩
  · rw [if_neg x0, if_neg x0]
    by_cases x1 : x = 1
    · rw [if_pos x1, if_pos x1]; exact ⟨_, rfl, rfl⟩
    · rw [if_neg x1, if_neg x1]; exact ⟨_, rfl, rfl⟩
theorem spent_two {X R : Sto} (h : InvQ QK WQ X R) : ∃ a g, a ≤ 10000 ∧ g ≤ 16 ∧ m_N_spent 2 X = some (nJ (min a g), X) ∧ m_R_spent 2 R = some (nJ a, up2 R 0 0 0) := by
  obtain ⟨_, _, _, _, _, _, _, _, hw⟩ := h
  obtain ⟨a, g, a1, g1, e34, e13⟩ := hw.ask
  have e : up2 R 0 0 0 0 34 = R 0 34 := by rw [up2_at, if_neg (by decide)]
  refine ⟨a, g, a1, g1, ?_, ?_⟩
  · rw [← e13]; rfl
  · rw [← e34, ← e]; rfl
theorem spent_steps : Steps (InvQ QK WQ) (fun k => k ≠ 16) := steps_15
