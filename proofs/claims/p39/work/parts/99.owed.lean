/-- what is owed is false as it is printed -/
theorem ref_owed : ¬ (Claimed_1_1 ∧ Claimed_1_2) := fun h => ref_claim_1 h.1
/-! the owed head, for rounds alone: it can't be closed: ref_owed above, and ref_1_1, ref_1_2 in the part ahead, say that both its halves are false as printed -/
theorem i_vc : Claimed_1_1 ∧ Claimed_1_2 := sorry
