theorem i_vc : Claimed_1_1 ∧ Claimed_1_2 := of_steps steps_15 (by unfold cmp15; decide) inv15_0
