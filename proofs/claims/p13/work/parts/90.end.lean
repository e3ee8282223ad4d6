theorem i_vc : Claimed_1_1 ∧ Claimed_1_2 := of_steps steps_p (by unfold cmpP; decide) inv_0
