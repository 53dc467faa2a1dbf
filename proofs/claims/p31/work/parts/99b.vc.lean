/-! What is owed. -/
theorem i_vc : Claimed_1_1 ∧ Claimed_1_2 := ec_vc ec_pure
