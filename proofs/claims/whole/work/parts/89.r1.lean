/-! the class's rows -/
section R1
variable {n : Nat} {sh : Nat → Nat × Nat} {x : Nat → Nat → Int32} {y : Nat → Nat → Option Nat}
theorem rc_69 (d : Nat) {r f : Nat} (hr : ob n sh r 3 4) (hf : ob n sh f 1 15) : mj_Cl pg (d + 1) 69 [.inr (some r), .inr (some f)] (bl n sh x y) = some (some (.inl (if x r 2 &&& x f 1 = 0 then 0 else 1)), bl n sh x y) := by
  rw [e_69]
  simp only [s_69_0, s_69_1, s_69_4, s_69_5, s_69_8, s_69_9, s_69_12, s_69_13, s_69_16, s_69_17, mj_lI_s, mj_lI_0, mj_lA_s, mj_lA_0, mj_sL_s, mj_sL_0, mj_s8_0, mj_s8_1, mj_s8_2, mj_s8_3, mj_bc_n, mj_bc_s, mj_bd_s, u2_eq, u2_a, u2_k, ne_eq, Nat.reduceEqDiff, not_false_eq_true, List.nil_append, List.cons_append, eq_self, true_or, or_true, if_true, if_false, ct_1, cv_1, ci_1_0, cp_1_0, ci_1_1, cp_1_1, ci_1_2, cp_1_2, ci_1_3, cp_1_3, ci_1_4, cp_1_4, ci_1_5, cp_1_5, ci_1_6, cp_1_6, ci_1_7, cp_1_7, ci_1_8, cp_1_8, ci_1_9, cp_1_9, ci_1_10, cp_1_10, ci_1_11, cp_1_11, ci_1_12, cp_1_12, ci_1_13, cp_1_13, ci_1_14, cp_1_14, ct_3, cv_3, ci_3_0, cp_3_0, ci_3_1, cp_3_1, ci_3_2, cp_3_2, ci_3_3, cp_3_3, hr, hf]
  by_cases h1 : x r 2 &&& x f 1 = 0
  · simp only [h1, if_true]
  · simp only [h1, if_false]
theorem rc_70 (d : Nat) {r f : Nat} (hr : ob n sh r 3 4) (hf : ob n sh f 1 15) : mj_Cl pg (d + 1) 70 [.inr (some r), .inr (some f)] (bl n sh x y) = some (some (.inl (if x r 3 ≤ x r 1 then 0 else if x r 2 &&& x f 1 = 0 then 1 else 0)), bl n sh x y) := by
  rw [e_70]
  simp only [s_70_0, s_70_1, s_70_4, s_70_5, s_70_8, s_70_11, s_70_12, s_70_15, s_70_16, s_70_19, s_70_20, s_70_23, s_70_24, s_70_27, s_70_28, mj_lI_s, mj_lI_0, mj_lA_s, mj_lA_0, mj_sL_s, mj_sL_0, mj_s8_0, mj_s8_1, mj_s8_2, mj_s8_3, mj_bc_n, mj_bc_s, mj_bd_s, u2_eq, u2_a, u2_k, ne_eq, Nat.reduceEqDiff, not_false_eq_true, List.nil_append, List.cons_append, eq_self, true_or, or_true, if_true, if_false, ct_1, cv_1, ci_1_0, cp_1_0, ci_1_1, cp_1_1, ci_1_2, cp_1_2, ci_1_3, cp_1_3, ci_1_4, cp_1_4, ci_1_5, cp_1_5, ci_1_6, cp_1_6, ci_1_7, cp_1_7, ci_1_8, cp_1_8, ci_1_9, cp_1_9, ci_1_10, cp_1_10, ci_1_11, cp_1_11, ci_1_12, cp_1_12, ci_1_13, cp_1_13, ci_1_14, cp_1_14, ct_3, cv_3, ci_3_0, cp_3_0, ci_3_1, cp_3_1, ci_3_2, cp_3_2, ci_3_3, cp_3_3, hr, hf]
  by_cases h1 : x r 3 ≤ x r 1
  · simp only [h1, if_true]
  · by_cases h2 : x r 2 &&& x f 1 = 0
    · simp only [h1, h2, if_true, if_false, not_true_eq_false]
    · simp only [h1, h2, if_false, not_false_eq_true, if_true]
theorem rc_71 (d : Nat) {r f q c : Nat} (hr : ob n sh r 3 4) (hf : ob n sh f 1 15) (hq : y r 0 = some q) (ha : ob n sh q 102 12) (hrf : f ≠ r) (hc : x r 1 = nI c) (hc1 : c < 12 ∨ x r 3 ≤ x r 1) : mj_Cl pg (d + 2) 71 [.inr (some r), .inr (some f)] (bl n sh x y) =
    if x r 3 ≤ x r 1 ∨ ¬ x r 2 &&& x f 1 = 0 then some (none, bl n sh x y) else some (none, bl n sh (u2 (u2 x r 2 (x r 2 ||| x f 1)) r 1 (nI (c + 1))) (u2 y q c (some f))) := by
  rw [e_71]
  simp only [s_71_0, s_71_1, s_71_2, s_71_5, mj_lI_s, mj_lI_0, mj_lA_s, mj_lA_0, mj_sL_s, mj_sL_0, mj_s8_0, mj_s8_1, mj_s8_2, mj_s8_3, mj_bc_n, mj_bc_s, mj_bd_s, u2_eq, u2_a, u2_k, ne_eq, Nat.reduceEqDiff, not_false_eq_true, List.nil_append, List.cons_append, eq_self, true_or, or_true, if_true, if_false, ct_1, cv_1, ci_1_0, cp_1_0, ci_1_1, cp_1_1, ci_1_2, cp_1_2, ci_1_3, cp_1_3, ci_1_4, cp_1_4, ci_1_5, cp_1_5, ci_1_6, cp_1_6, ci_1_7, cp_1_7, ci_1_8, cp_1_8, ci_1_9, cp_1_9, ci_1_10, cp_1_10, ci_1_11, cp_1_11, ci_1_12, cp_1_12, ci_1_13, cp_1_13, ci_1_14, cp_1_14, ct_3, cv_3, ci_3_0, cp_3_0, ci_3_1, cp_3_1, ci_3_2, cp_3_2, ci_3_3, cp_3_3, hr, hf, rc_70 d hr hf]
  by_cases h1 : x r 3 ≤ x r 1
  · simp only [h1, if_true, true_or, s_71_0, s_71_1, s_71_2, s_71_5, s_71_8, s_71_9, s_71_12, s_71_13, s_71_16, s_71_17, s_71_18, s_71_19, s_71_20, s_71_23, s_71_24, s_71_27, s_71_28, s_71_31, s_71_32, s_71_33, s_71_36, s_71_37, s_71_38, s_71_41, mj_lI_s, mj_lI_0, mj_lA_s, mj_lA_0, mj_sL_s, mj_sL_0, mj_s8_0, mj_s8_1, mj_s8_2, mj_s8_3, mj_bc_n, mj_bc_s, mj_bd_s, u2_eq, u2_a, u2_k, ne_eq, Nat.reduceEqDiff, not_false_eq_true, List.nil_append, List.cons_append, eq_self, true_or, or_true, if_true, if_false]
  · by_cases h2 : x r 2 &&& x f 1 = 0
    · have hcl : c < 12 := by
        rcases hc1 with q | q
        · exact q
        · exact absurd q h1
      simp only [h1, h2, if_true, if_false, s_71_0, s_71_1, s_71_2, s_71_5, s_71_8, s_71_9, s_71_12, s_71_13, s_71_16, s_71_17, s_71_18, s_71_19, s_71_20, s_71_23, s_71_24, s_71_27, s_71_28, s_71_31, s_71_32, s_71_33, s_71_36, s_71_37, s_71_38, s_71_41, mj_lI_s, mj_lI_0, mj_lA_s, mj_lA_0, mj_sL_s, mj_sL_0, mj_s8_0, mj_s8_1, mj_s8_2, mj_s8_3, mj_bc_n, mj_bc_s, mj_bd_s, u2_eq, u2_a, u2_k, ne_eq, Nat.reduceEqDiff, not_false_eq_true, List.nil_append, List.cons_append, eq_self, true_or, or_true, if_true, if_false, ct_1, cv_1, ci_1_0, cp_1_0, ci_1_1, cp_1_1, ci_1_2, cp_1_2, ci_1_3, cp_1_3, ci_1_4, cp_1_4, ci_1_5, cp_1_5, ci_1_6, cp_1_6, ci_1_7, cp_1_7, ci_1_8, cp_1_8, ci_1_9, cp_1_9, ci_1_10, cp_1_10, ci_1_11, cp_1_11, ci_1_12, cp_1_12, ci_1_13, cp_1_13, ci_1_14, cp_1_14, ct_3, cv_3, ci_3_0, cp_3_0, ci_3_1, cp_3_1, ci_3_2, cp_3_2, ci_3_3, cp_3_3, hr, hf, hq, hc, xq_102 ha hcl (by decide), hrf, nI_1, not_true_eq_false, or_false]
      sorry
    · simp only [h1, h2, if_false, not_false_eq_true, or_true, if_true, s_71_0, s_71_1, s_71_2, s_71_5, s_71_8, s_71_9, s_71_12, s_71_13, s_71_16, s_71_17, s_71_18, s_71_19, s_71_20, s_71_23, s_71_24, s_71_27, s_71_28, s_71_31, s_71_32, s_71_33, s_71_36, s_71_37, s_71_38, s_71_41, mj_lI_s, mj_lI_0, mj_lA_s, mj_lA_0, mj_sL_s, mj_sL_0, mj_s8_0, mj_s8_1, mj_s8_2, mj_s8_3, mj_bc_n, mj_bc_s, mj_bd_s, u2_eq, u2_a, u2_k, ne_eq, Nat.reduceEqDiff, not_false_eq_true, List.nil_append, List.cons_append, eq_self, true_or, or_true, if_true, if_false]
theorem rc_74 (d : Nat) {r : Nat} (hr : ob n sh r 3 4) : mj_Cl pg (d + 1) 74 [.inr (some r)] (bl n sh x y) = some (none, bl n sh (u2 (u2 x r 1 0) r 2 0) y) := by
  rw [e_74]
  simp only [s_74_0, s_74_1, s_74_2, s_74_5, s_74_6, s_74_7, s_74_10, mj_lI_s, mj_lI_0, mj_lA_s, mj_lA_0, mj_sL_s, mj_sL_0, mj_s8_0, mj_s8_1, mj_s8_2, mj_s8_3, mj_bc_n, mj_bc_s, mj_bd_s, u2_eq, u2_a, u2_k, ne_eq, Nat.reduceEqDiff, not_false_eq_true, List.nil_append, List.cons_append, eq_self, true_or, or_true, if_true, if_false, ct_3, cv_3, ci_3_0, cp_3_0, ci_3_1, cp_3_1, ci_3_2, cp_3_2, ci_3_3, cp_3_3, hr]
end R1
