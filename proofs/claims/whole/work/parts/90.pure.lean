theorem pl_law : pl_claim := sorry
