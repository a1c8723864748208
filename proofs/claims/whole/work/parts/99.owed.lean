/-! the owed head, for rounds alone: it can't be closed: ref_claim_1, ref_claim_2 in the part ahead say that both its halves are false as printed -/
theorem i_vc : Claimed_1_1 ∧ Claimed_1_2 := sorry
