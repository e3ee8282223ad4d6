theorem i_vc : Claimed_1_1 ∧ Claimed_1_2 := of_steps steps_8 (by unfold cmp8; decide) inv8_0
