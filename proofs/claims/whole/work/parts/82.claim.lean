/-- the pure claim: on every script the small machine answers 1, within the room -/
def pl_claim : Prop := ∀ (n : Nat) (xs : Nat → Int32), n ≤ 2560 → ∃ h' : mj_H, mj_Rn pg 61 0 (mj_en pg 0 [.inr (some 0)] [mj_z n xs]) = some (some (.inl 1), h') ∧ h'.length ≤ 600001 ∧ mj_sz h' ≤ mj_sz [mj_z n xs] + 7302250
