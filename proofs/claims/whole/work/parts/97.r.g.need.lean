/-! both sides: needs -/
section NE
variable {n : Nat} {sh : Nat → Nat × Nat}
/-- link: the bits -/
theorem rk_94L (d : Nat) {hF : Nat → Nat} {nf f o : Nat} {nb : Nat → Nat → Bool} {y : Nat → Nat → Option Nat} (h12 : nf ≤ 12) (hf : f < nf) (ho : o < nf) (h2o : ob n sh 2 5 4) (h3o : ob n sh 3 102 12) (hy2 : y 2 0 = some 3) (hy3 : ∀ k, k < nf → y 3 k = some (hF k)) (hno : nb o f = false) (hne : o ≠ f) : ∀ (j k : Nat) (x : Nat → Nat → Int32) (Q : Option mj_R → Prop), k + j = nf → fxP n sh x hF nf → x 2 1 = nI nf → (∀ i, i < k → ∀ g, bt (x (hF i) 7) g = lnk nb f o i g) → (∀ i, k ≤ i → i < nf → ∀ g, bt (x (hF i) 7) g = nb i g) → (∀ g, bt (x (hF o) 7) g = nb o g) →
    (∀ x', (∀ i, i < nf → ∀ g, bt (x' (hF i) 7) g = lnk nb f o i g) → (∀ a i, ¬ (i = 7 ∧ ∃ g, g < nf ∧ a = hF g) → x' a i = x a i) → Q (some (none, bl n sh x' y))) →
    Q (mj_Rn pg (d + 2) 94 (10, [some (.inr (some 2)), some (.inr (some (hF f))), some (.inr (some (hF o))), some (.inl (nI k))], [], bl n sh x y)) := by
  intro j
  induction j with
  | zero =>
    intro k x Q hk hX h21 hlo hhi hoo hQ
    have hkc : (nI nf ≤ nI k) = True := eq_true (nI_le (by omega) (by omega))
    rw [s_94_10]
    simp only [s_94_11, s_94_12, s_94_15, s_94_18, s_94_19, s_94_22, s_94_23, s_94_24, s_94_25, s_94_28, s_94_29, s_94_32, s_94_33, s_94_34, s_94_35, s_94_38, s_94_41, s_94_44, s_94_45, s_94_48, s_94_49, s_94_50, s_94_51, s_94_54, s_94_57, s_94_60, mj_lI_s, mj_lI_0, mj_lA_s, mj_lA_0, mj_sL_s, mj_sL_0, mj_s8_0, mj_s8_1, mj_s8_2, mj_s8_3, mj_bc_n, mj_bc_s, mj_bd_s, u2_eq, u2_a, u2_k, ne_eq, Nat.reduceEqDiff, not_false_eq_true, List.nil_append, List.cons_append, eq_self, true_or, or_true, if_true, if_false, false_or, or_false, not_true_eq_false, Bool.false_eq_true, ie_m1_0, ie_m1_1, ie_m1_2, ie_m1_3, ie_m1_4, ie_m1_5, ie_0_m1, ie_0_1, ie_0_2, ie_0_3, ie_0_4, ie_0_5, ie_1_m1, ie_1_0, ie_1_2, ie_1_3, ie_1_4, ie_1_5, ie_2_m1, ie_2_0, ie_2_1, ie_2_3, ie_2_4, ie_2_5, ie_3_m1, ie_3_0, ie_3_1, ie_3_2, ie_3_4, ie_3_5, ie_4_m1, ie_4_0, ie_4_1, ie_4_2, ie_4_3, ie_4_5, ie_5_m1, ie_5_0, ie_5_1, ie_5_2, ie_5_3, ie_5_4, ct_5, cv_5, ci_5_0, cp_5_0, ci_5_1, cp_5_1, ci_5_2, cp_5_2, ci_5_3, cp_5_3, h2o, h21, hkc]
    exact hQ x (fun i hi => hlo i (by omega)) (fun _ _ _ => rfl)
  | succ j ih =>
    intro k x Q hk hX h21 hlo hhi hoo hQ
    have hkn : k < nf := by omega
    have hk12 : k < 12 := by omega
    have hkc : (nI nf ≤ nI k) = False := eq_false (nI_ge (by omega) (by omega))
    have hyk := hy3 k hkn
    have hko := (hX.2.1 k hkn).1
    have hfo := (hX.2.1 f hf).1
    have hfb := (hX.2.1 f hf).2.2
    have hoo' := (hX.2.1 o ho).1
    have hob := (hX.2.1 o ho).2.2
    have c54 := rk_54 (x := x) (y := y) d hko (bF f)
    have hz : (x (hF k) 7 &&& bF f = 0) = (nb k f = false) := by rw [bF, bb_andb _ (by omega), hhi k (Nat.le_refl _) hkn f]
    have c55 : mj_Cl pg (d + 1) 55 [.inr (some (hF k)), .inr (some (hF o))] (bl n sh x y) = some (none, bl n sh (u2 x (hF k) 7 (x (hF k) 7 ||| (bF o ||| x (hF o) 7))) y) := by
      rw [e_55]
      simp only [s_55_0, s_55_1, s_55_2, s_55_5, s_55_6, s_55_9, s_55_10, s_55_13, s_55_14, s_55_15, s_55_18, mj_lI_s, mj_lI_0, mj_lA_s, mj_lA_0, mj_sL_s, mj_sL_0, mj_s8_0, mj_s8_1, mj_s8_2, mj_s8_3, mj_bc_n, mj_bc_s, mj_bd_s, u2_eq, u2_a, u2_k, ne_eq, Nat.reduceEqDiff, not_false_eq_true, List.nil_append, List.cons_append, eq_self, true_or, or_true, if_true, if_false, false_or, or_false, not_true_eq_false, Bool.false_eq_true, ie_m1_0, ie_m1_1, ie_m1_2, ie_m1_3, ie_m1_4, ie_m1_5, ie_0_m1, ie_0_1, ie_0_2, ie_0_3, ie_0_4, ie_0_5, ie_1_m1, ie_1_0, ie_1_2, ie_1_3, ie_1_4, ie_1_5, ie_2_m1, ie_2_0, ie_2_1, ie_2_3, ie_2_4, ie_2_5, ie_3_m1, ie_3_0, ie_3_1, ie_3_2, ie_3_4, ie_3_5, ie_4_m1, ie_4_0, ie_4_1, ie_4_2, ie_4_3, ie_4_5, ie_5_m1, ie_5_0, ie_5_1, ie_5_2, ie_5_3, ie_5_4, ct_1, cv_1, ci_1_0, cp_1_0, ci_1_1, cp_1_1, ci_1_2, cp_1_2, ci_1_3, cp_1_3, ci_1_4, cp_1_4, ci_1_5, cp_1_5, ci_1_6, cp_1_6, ci_1_7, cp_1_7, ci_1_8, cp_1_8, ci_1_9, cp_1_9, ci_1_10, cp_1_10, ci_1_11, cp_1_11, ci_1_12, cp_1_12, ci_1_13, cp_1_13, ci_1_14, cp_1_14, hko, hoo', hob]
    have h2k : (2 : Nat) ≠ hF k := ob_ne h2o hko (by decide)
    have yes : (k = f ∨ nb k f = true) → Q (mj_Rn pg (d + 2) 94 (54, [some (.inr (some 2)), some (.inr (some (hF f))), some (.inr (some (hF o))), some (.inl (nI k))], [], bl n sh (u2 x (hF k) 7 (x (hF k) 7 ||| (bF o ||| x (hF o) 7))) y)) := fun hc => by
      simp only [s_94_54, s_94_57, mj_lI_s, mj_lI_0, mj_lA_s, mj_lA_0, mj_sL_s, mj_sL_0, mj_s8_0, mj_s8_1, mj_s8_2, mj_s8_3, mj_bc_n, mj_bc_s, mj_bd_s, u2_eq, u2_a, u2_k, ne_eq, Nat.reduceEqDiff, not_false_eq_true, List.nil_append, List.cons_append, eq_self, true_or, or_true, if_true, if_false, false_or, or_false, not_true_eq_false, Bool.false_eq_true, ie_m1_0, ie_m1_1, ie_m1_2, ie_m1_3, ie_m1_4, ie_m1_5, ie_0_m1, ie_0_1, ie_0_2, ie_0_3, ie_0_4, ie_0_5, ie_1_m1, ie_1_0, ie_1_2, ie_1_3, ie_1_4, ie_1_5, ie_2_m1, ie_2_0, ie_2_1, ie_2_3, ie_2_4, ie_2_5, ie_3_m1, ie_3_0, ie_3_1, ie_3_2, ie_3_4, ie_3_5, ie_4_m1, ie_4_0, ie_4_1, ie_4_2, ie_4_3, ie_4_5, ie_5_m1, ie_5_0, ie_5_1, ie_5_2, ie_5_3, ie_5_4, nI_1]
      have hok : o ≠ k := fun z => by
        rcases hc with y | y
        · exact hne (z.trans y)
        · rw [← z, hno] at y; cases y
      have hFo : hF o ≠ hF k := fun z => hok (hX.2.2 o k ho hkn z)
      refine ih (k + 1) _ Q (by omega) (hX.cong (fun g hg => ⟨u2_k (by decide), u2_k (by decide)⟩)) (by rw [u2_a h2k]; exact h21) (fun i hi g => ?_) (fun i hi hin g => ?_) (fun g => by rw [u2_a hFo]; exact hoo g) (fun x' r1 r2 => hQ x' r1 (fun a i q => by rw [r2 a i q, u2_ne (fun z => q ⟨z.2, k, hkn, z.1⟩)]))
      · by_cases e : i = k
        · subst e
          rw [u2_eq, b_or, b_or, hhi i (Nat.le_refl _) hkn g, hoo g, bF, bb_bit (by omega)]
          unfold lnk
          rcases hc with y | y
          · rw [decide_eq_true y]; simp
          · rw [y]; simp
        · have : hF i ≠ hF k := fun z => e (hX.2.2 i k (by omega) hkn z)
          rw [u2_a this]; exact hlo i (by omega) g
      · have : hF i ≠ hF k := fun z => absurd (hX.2.2 i k hin hkn z) (by omega)
        rw [u2_a this]; exact hhi i (by omega) hin g
    rw [s_94_10]
    by_cases e : k = f
    · have yes := yes (Or.inl e)
      have ee : (some (hF k) = some (hF f)) = True := eq_true (by rw [e])
      simp only [s_94_11, s_94_12, s_94_15, s_94_18, s_94_19, s_94_22, s_94_23, s_94_24, s_94_25, s_94_28, s_94_29, s_94_32, s_94_33, s_94_34, s_94_35, s_94_38, s_94_41, s_94_44, s_94_45, s_94_48, s_94_49, s_94_50, s_94_51, mj_lI_s, mj_lI_0, mj_lA_s, mj_lA_0, mj_sL_s, mj_sL_0, mj_s8_0, mj_s8_1, mj_s8_2, mj_s8_3, mj_bc_n, mj_bc_s, mj_bd_s, u2_eq, u2_a, u2_k, ne_eq, Nat.reduceEqDiff, not_false_eq_true, List.nil_append, List.cons_append, eq_self, true_or, or_true, if_true, if_false, false_or, or_false, not_true_eq_false, Bool.false_eq_true, ie_m1_0, ie_m1_1, ie_m1_2, ie_m1_3, ie_m1_4, ie_m1_5, ie_0_m1, ie_0_1, ie_0_2, ie_0_3, ie_0_4, ie_0_5, ie_1_m1, ie_1_0, ie_1_2, ie_1_3, ie_1_4, ie_1_5, ie_2_m1, ie_2_0, ie_2_1, ie_2_3, ie_2_4, ie_2_5, ie_3_m1, ie_3_0, ie_3_1, ie_3_2, ie_3_4, ie_3_5, ie_4_m1, ie_4_0, ie_4_1, ie_4_2, ie_4_3, ie_4_5, ie_5_m1, ie_5_0, ie_5_1, ie_5_2, ie_5_3, ie_5_4, ct_1, cv_1, ci_1_0, cp_1_0, ci_1_1, cp_1_1, ci_1_2, cp_1_2, ci_1_3, cp_1_3, ci_1_4, cp_1_4, ci_1_5, cp_1_5, ci_1_6, cp_1_6, ci_1_7, cp_1_7, ci_1_8, cp_1_8, ci_1_9, cp_1_9, ci_1_10, cp_1_10, ci_1_11, cp_1_11, ci_1_12, cp_1_12, ci_1_13, cp_1_13, ci_1_14, cp_1_14, ct_5, cv_5, ci_5_0, cp_5_0, ci_5_1, cp_5_1, ci_5_2, cp_5_2, ci_5_3, cp_5_3, h2o, h21, hkc, hy2, xr_102 h3o hk12 (by decide), hyk, ee, hko, c55]
      exact yes
    · have hFne : hF k ≠ hF f := fun z => e (hX.2.2 k f hkn hf z)
      have ee : (some (hF k) = some (hF f)) = False := eq_false (fun z => hFne (Option.some.inj z))
      by_cases c : nb k f = true
      · have yes := yes (Or.inr c)
        rw [if_neg (by rw [hz, c]; decide)] at c54
        have c10 : ¬ ((1 : Int32) = 0) := by decide
        simp only [s_94_11, s_94_12, s_94_15, s_94_18, s_94_19, s_94_22, s_94_23, s_94_24, s_94_25, s_94_28, s_94_29, s_94_32, s_94_33, s_94_34, s_94_35, s_94_38, s_94_41, s_94_44, s_94_45, s_94_48, s_94_49, s_94_50, s_94_51, mj_lI_s, mj_lI_0, mj_lA_s, mj_lA_0, mj_sL_s, mj_sL_0, mj_s8_0, mj_s8_1, mj_s8_2, mj_s8_3, mj_bc_n, mj_bc_s, mj_bd_s, u2_eq, u2_a, u2_k, ne_eq, Nat.reduceEqDiff, not_false_eq_true, List.nil_append, List.cons_append, eq_self, true_or, or_true, if_true, if_false, false_or, or_false, not_true_eq_false, Bool.false_eq_true, ie_m1_0, ie_m1_1, ie_m1_2, ie_m1_3, ie_m1_4, ie_m1_5, ie_0_m1, ie_0_1, ie_0_2, ie_0_3, ie_0_4, ie_0_5, ie_1_m1, ie_1_0, ie_1_2, ie_1_3, ie_1_4, ie_1_5, ie_2_m1, ie_2_0, ie_2_1, ie_2_3, ie_2_4, ie_2_5, ie_3_m1, ie_3_0, ie_3_1, ie_3_2, ie_3_4, ie_3_5, ie_4_m1, ie_4_0, ie_4_1, ie_4_2, ie_4_3, ie_4_5, ie_5_m1, ie_5_0, ie_5_1, ie_5_2, ie_5_3, ie_5_4, ct_1, cv_1, ci_1_0, cp_1_0, ci_1_1, cp_1_1, ci_1_2, cp_1_2, ci_1_3, cp_1_3, ci_1_4, cp_1_4, ci_1_5, cp_1_5, ci_1_6, cp_1_6, ci_1_7, cp_1_7, ci_1_8, cp_1_8, ci_1_9, cp_1_9, ci_1_10, cp_1_10, ci_1_11, cp_1_11, ci_1_12, cp_1_12, ci_1_13, cp_1_13, ci_1_14, cp_1_14, ct_5, cv_5, ci_5_0, cp_5_0, ci_5_1, cp_5_1, ci_5_2, cp_5_2, ci_5_3, cp_5_3, h2o, h21, hkc, hy2, xr_102 h3o hk12 (by decide), hyk, ee, hFne, hfo, hfb, hko, c54, c10, c55]
        exact yes
      · have c' : nb k f = false := by simpa using c
        rw [if_pos (by rw [hz]; exact c')] at c54
        simp only [s_94_11, s_94_12, s_94_15, s_94_18, s_94_19, s_94_22, s_94_23, s_94_24, s_94_25, s_94_28, s_94_29, s_94_32, s_94_33, s_94_34, s_94_35, s_94_38, s_94_41, s_94_44, s_94_45, s_94_48, s_94_49, s_94_50, s_94_51, s_94_54, s_94_57, mj_lI_s, mj_lI_0, mj_lA_s, mj_lA_0, mj_sL_s, mj_sL_0, mj_s8_0, mj_s8_1, mj_s8_2, mj_s8_3, mj_bc_n, mj_bc_s, mj_bd_s, u2_eq, u2_a, u2_k, ne_eq, Nat.reduceEqDiff, not_false_eq_true, List.nil_append, List.cons_append, eq_self, true_or, or_true, if_true, if_false, false_or, or_false, not_true_eq_false, Bool.false_eq_true, ie_m1_0, ie_m1_1, ie_m1_2, ie_m1_3, ie_m1_4, ie_m1_5, ie_0_m1, ie_0_1, ie_0_2, ie_0_3, ie_0_4, ie_0_5, ie_1_m1, ie_1_0, ie_1_2, ie_1_3, ie_1_4, ie_1_5, ie_2_m1, ie_2_0, ie_2_1, ie_2_3, ie_2_4, ie_2_5, ie_3_m1, ie_3_0, ie_3_1, ie_3_2, ie_3_4, ie_3_5, ie_4_m1, ie_4_0, ie_4_1, ie_4_2, ie_4_3, ie_4_5, ie_5_m1, ie_5_0, ie_5_1, ie_5_2, ie_5_3, ie_5_4, ct_1, cv_1, ci_1_0, cp_1_0, ci_1_1, cp_1_1, ci_1_2, cp_1_2, ci_1_3, cp_1_3, ci_1_4, cp_1_4, ci_1_5, cp_1_5, ci_1_6, cp_1_6, ci_1_7, cp_1_7, ci_1_8, cp_1_8, ci_1_9, cp_1_9, ci_1_10, cp_1_10, ci_1_11, cp_1_11, ci_1_12, cp_1_12, ci_1_13, cp_1_13, ci_1_14, cp_1_14, ct_5, cv_5, ci_5_0, cp_5_0, ci_5_1, cp_5_1, ci_5_2, cp_5_2, ci_5_3, cp_5_3, h2o, h21, hkc, hy2, xr_102 h3o hk12 (by decide), hyk, ee, hFne, hfo, hfb, hko, c54, nI_1]
        refine ih (k + 1) x Q (by omega) hX h21 (fun i hi g => ?_) (fun i hi hin g => hhi i (by omega) hin g) hoo hQ
        by_cases e2 : i = k
        · subst e2
          rw [hhi i (Nat.le_refl _) hkn g]
          unfold lnk
          rw [decide_eq_false e, c']
          simp
        · exact hlo i (by omega) g
/-- link -/
theorem rk_94 (d : Nat) {hF hT : Nat → Nat} {w : sW} {nb : Nat → Nat → Bool} {x : Nat → Nat → Int32} {y : Nat → Nat → Option Nat} (hS : suP n sh x y hF hT w nb) {f o : Nat} (hf : f < wF w) (ho : o < wF w) (hno : nb o f = false) (hne : o ≠ f) (hl : (wN w f).length < 6) (hm : o ∉ wN w f) : ∃ x' y', mj_Cl pg (d + 3) 94 [.inr (some 2), .inr (some (hF f)), .inr (some (hF o))] (bl n sh x y) = some (none, bl n sh x' y') ∧ rowP n sh x' y' hF (wF w) (hF f + 1) (hF f + 2) 6 (wN w f ++ [o]) ∧ (∀ i, i < wF w → ∀ g, bt (x' (hF i) 7) g = lnk nb f o i g) ∧ (∀ a k, ¬ (k = 7 ∧ ∃ g, g < wF w ∧ a = hF g) → ¬ (a = hF f + 1 ∧ (k = 1 ∨ k = 2)) → x' a k = x a k) ∧ fY1 y y' (hF f + 2) := by
  obtain ⟨a1, a2, a3, a4, a5, a6, a7, a8⟩ := hS.1
  have hX := hS.2.1
  have hfo := (hX.2.1 f hf).1
  have hoo := (hX.2.1 o ho).1
  obtain ⟨d1, d2⟩ := hS.2.2.2.1 f hf
  obtain ⟨x1, y1, p1, p2, p3, p4⟩ := rk_71 d d2 hX ho hl hm
  have hro := d2.1.1
  have h127 := hS.2.2.2.2.2.1 f hf
  have hX1 := hX.fr1 hro p3
  have nf1 : ∀ i, i < wF w → hF i ≠ hF f + 1 := fun i hi => ob_ne (hX.2.1 i hi).1 hro (by decide)
  rw [e_94]
  simp only [s_94_0, s_94_1, s_94_4, s_94_5, s_94_8, s_94_9, mj_lI_s, mj_lI_0, mj_lA_s, mj_lA_0, mj_sL_s, mj_sL_0, mj_s8_0, mj_s8_1, mj_s8_2, mj_s8_3, mj_bc_n, mj_bc_s, mj_bd_s, u2_eq, u2_a, u2_k, ne_eq, Nat.reduceEqDiff, not_false_eq_true, List.nil_append, List.cons_append, eq_self, true_or, or_true, if_true, if_false, false_or, or_false, not_true_eq_false, Bool.false_eq_true, ie_m1_0, ie_m1_1, ie_m1_2, ie_m1_3, ie_m1_4, ie_m1_5, ie_0_m1, ie_0_1, ie_0_2, ie_0_3, ie_0_4, ie_0_5, ie_1_m1, ie_1_0, ie_1_2, ie_1_3, ie_1_4, ie_1_5, ie_2_m1, ie_2_0, ie_2_1, ie_2_3, ie_2_4, ie_2_5, ie_3_m1, ie_3_0, ie_3_1, ie_3_2, ie_3_4, ie_3_5, ie_4_m1, ie_4_0, ie_4_1, ie_4_2, ie_4_3, ie_4_5, ie_5_m1, ie_5_0, ie_5_1, ie_5_2, ie_5_3, ie_5_4, ct_1, cv_1, ci_1_0, cp_1_0, ci_1_1, cp_1_1, ci_1_2, cp_1_2, ci_1_3, cp_1_3, ci_1_4, cp_1_4, ci_1_5, cp_1_5, ci_1_6, cp_1_6, ci_1_7, cp_1_7, ci_1_8, cp_1_8, ci_1_9, cp_1_9, ci_1_10, cp_1_10, ci_1_11, cp_1_11, ci_1_12, cp_1_12, ci_1_13, cp_1_13, ci_1_14, cp_1_14, ct_3, cv_3, ci_3_0, cp_3_0, ci_3_1, cp_3_1, ci_3_2, cp_3_2, ci_3_3, cp_3_3, hfo, d1, hro, p1]
  refine rk_94L (d + 1) (hF := hF) (nf := wF w) (nb := nb) hX.1 hf ho a1 a2 (by rw [p4 _ _ (by omega)]; exact a4) (fun k hk => by rw [p4 _ _ (by omega)]; exact (hS.2.2.1 k hk).1.1) hno hne (wF w) 0 x1 (fun r => ∃ x' y', r = some (none, bl n sh x' y') ∧ rowP n sh x' y' hF (wF w) (hF f + 1) (hF f + 2) 6 (wN w f ++ [o]) ∧ (∀ i, i < wF w → ∀ g, bt (x' (hF i) 7) g = lnk nb f o i g) ∧ (∀ a k, ¬ (k = 7 ∧ ∃ g, g < wF w ∧ a = hF g) → ¬ (a = hF f + 1 ∧ (k = 1 ∨ k = 2)) → x' a k = x a k) ∧ fY1 y y' (hF f + 2)) (by omega) hX1 (by rw [p3 _ _ (by omega)]; exact a5) (fun i hi => absurd hi (Nat.not_lt_zero i)) (fun i _ hi g => by rw [p3 _ _ (fun z => nf1 i hi z.1)]; exact (hS.2.2.1 i hi).1.2.2.2.2.2 g) (fun g => by rw [p3 _ _ (fun z => nf1 o ho z.1)]; exact (hS.2.2.1 o ho).1.2.2.2.2.2 g) (fun x' r1 r2 => ⟨x', y1, rfl, p2.cong (fun k => r2 _ _ (fun ⟨_, g, hg, z⟩ => nf1 g hg z.symm)) rfl (fun _ => rfl), r1, fun a k q1 q2 => by rw [r2 a k q1, p3 a k q2], p4⟩)
/-- one need more -/
theorem INV.need {x : Nat → Nat → Int32} {y : Nat → Nat → Option Nat} {hF hT cc : Nat → Nat} {w : sW} {nb : Nat → Nat → Bool} {nfT : Nat} {L : rq × List re3 × List (Nat → Int32)} (h : INV n sh x y hF hT w nb cc nfT L) {f o : Nat} (hf : f < wF w) (ho : o < wF w) (hno : nb o f = false) (hne : o ≠ f) (hl : (wN w f).length < 6) (hsc : ¬ wI w 0 o < wI w 0 f) {x1 : Nat → Nat → Int32} {y1 : Nat → Nat → Option Nat} (hR1 : rowP n sh x1 y1 hF (wF w) (hF f + 1) (hF f + 2) 6 (wN w f ++ [o])) (hnb : ∀ i, i < wF w → ∀ g, bt (x1 (hF i) 7) g = lnk nb f o i g) (hfx : ∀ a k, ¬ (k = 7 ∧ ∃ g, g < wF w ∧ a = hF g) → ¬ (a = hF f + 1 ∧ (k = 1 ∨ k = 2)) → x1 a k = x a k) (hfy : fY1 y y1 (hF f + 2)) :
    INV n sh (u2 (u2 (u2 x1 91 0 0) 95 (6 * f + (wN w f).length) (nI o)) 94 f (nI ((wN w f).length + 1))) y1 hF hT (w.1, up1 w.2.1 f (wN w f ++ [o]), w.2.2.1, w.2.2.2.1, w.2.2.2.2) (lnk nb f o) cc nfT L := by
  obtain ⟨hS, hJ, hR, hX, hn⟩ := h
  have l127 : ∀ t, t < wT w → 127 ≤ hT t := hS.2.2.2.2.2.2.1
  have h127 : ∀ f, f < wF w → 127 ≤ hF f := hS.2.2.2.2.2.1
  have hf127 := h127 f hf
  have h12 := hS.2.1.1
  have l5 := hS.2.2.2.2.2.2.2.2.2
  have l3 := hS.2.2.2.2.2.2.2.1
  have nf1 : ∀ i, i < wF w → hF i ≠ hF f + 1 := fun i hi => ob_ne (hS.2.1.2.1 i hi).1 hR1.1.1 (by decide)
  have fxk : ∀ i k, i < wF w → k ≠ 7 → x1 (hF i) k = x (hF i) k := fun i k hi hk => hfx _ _ (fun z => hk z.1) (fun z => nf1 i hi z.1)
  have hS1 : suP n sh x1 y1 hF hT (w.1, up1 w.2.1 f (wN w f ++ [o]), w.2.2.1, w.2.2.2.1, w.2.2.2.2) (lnk nb f o) := by
    obtain ⟨a1, a2, a3, _⟩ := hS.1
    refine hS.re (fun c j q => ⟨hfx c j (fun z => ?_) (by omega), hfy c j (by omega)⟩) (fun g hg => ?_) (fun g hg => ?_) (fun u hu => ?_)
    · obtain ⟨_, g, hg, e⟩ := z
      have := h127 g hg
      omega
    · refine ⟨fun j hj => fxk g j hg (by omega), hfy _ _ ?_, hnb g hg, rfl⟩
      exact ob_ne (hS.2.1.2.1 g hg).1 hR1.1.2.1 (by decide)
    · by_cases c : g = f
      · subst c; rw [up1_eq]; exact hR1
      · have := l3 g f hg hf c
        rw [up1_ne c]
        have hr := (hS.2.2.2.1 g hg).2
        exact hr.cong (fun j => hfx _ _ (fun ⟨_, g', hg', z⟩ => ob_ne hr.1.1 (hS.2.1.2.1 g' hg').1 (by decide) z) (by omega)) (hfy _ _ (by omega)) (fun j => hfy _ _ (by omega))
    · obtain ⟨e1, ⟨e2, e3, e4, e5, e6⟩, ⟨g1, g2, g3, g4, g5, g6⟩, e7⟩ := hS.2.2.2.2.1 u hu
      have := l5 f u hf hu
      have tx : ∀ k, x1 (hT u) k = x (hT u) k := fun k => hfx _ _ (fun ⟨_, g', hg', z⟩ => ob_ne e2 (hS.2.1.2.1 g' hg').1 (by decide) z) (by omega)
      refine ⟨fun j _ => hfy _ _ (by omega), tx 0, tx 1, rfl, e5.cong (fun j => hfx _ _ (fun ⟨_, g', hg', z⟩ => ob_ne e5.1.1 (hS.2.1.2.1 g' hg').1 (by decide) z) (by omega)) (hfy _ _ (by omega)) (fun j => hfy _ _ (by omega)), ⟨e6.1, e6.2.1, by rw [hfy _ _ (by omega)]; exact e6.2.2.1, by rw [hfx _ _ (fun ⟨_, g', hg', z⟩ => ob_ne e6.1 (hS.2.1.2.1 g' hg').1 (by decide) z) (by omega)]; exact e6.2.2.2.1, e6.2.2.2.2⟩, (tx 4).trans g3, (tx 5).trans g4, (tx 6).trans g5, (tx 7).trans g6, e7⟩
  have xlo : ∀ a k, 91 ≤ a → a ≤ 126 → x1 a k = x a k := fun a k h1 h2 => hfx a k (fun ⟨_, g, hg, z⟩ => by have := h127 g hg; omega) (by omega)
  have hJ1 : cJ n sh x1 y1 hF hT cc (wT w) nfT L := by
    exact hJ.cong (fun c j q1 q2 => hfx _ _ (fun ⟨_, g, hg, z⟩ => by have := h127 g hg; omega) (by omega)) (fun c j q1 q2 q3 q4 => hfy _ _ (by omega)) (fun g j q1 q2 => fxk g j (by omega) (by omega))
  have hR2 : rI n sh x1 y1 w nfT L := hR.cong (fun c j q1 q2 => ⟨xlo c j q1 q2, hfy _ _ (by omega)⟩)
  have hsC : sC x1 (u2 (u2 (u2 x1 91 0 0) 95 (6 * f + (wN w f).length) (nI o)) 94 f (nI ((wN w f).length + 1))) := fun c j q => by rw [u2_a (by omega), u2_a (by omega), u2_a (by omega)]
  have hxm : ∀ c j, ¬ (c = 94 ∧ j = f) → ¬ (c = 95 ∧ j = 6 * f + (wN w f).length) → ¬ (c = 91 ∧ j = 0) → (u2 (u2 (u2 x1 91 0 0) 95 (6 * f + (wN w f).length) (nI o)) 94 f (nI ((wN w f).length + 1))) c j = x1 c j := fun c j h3 h4 h5 => by rw [u2_ne h3, u2_ne h4, u2_ne h5]
  have h94 : (u2 (u2 (u2 x1 91 0 0) 95 (6 * f + (wN w f).length) (nI o)) 94 f (nI ((wN w f).length + 1))) 94 f = nI ((wN w f).length + 1) := u2_eq _ _ _ _
  have h95 : (u2 (u2 (u2 x1 91 0 0) 95 (6 * f + (wN w f).length) (nI o)) 94 f (nI ((wN w f).length + 1))) 95 (6 * f + (wN w f).length) = nI o := by rw [u2_a (by decide), u2_eq]
  generalize (u2 (u2 (u2 x1 91 0 0) 95 (6 * f + (wN w f).length) (nI o)) 94 f (nI ((wN w f).length + 1))) = X at hsC hxm h94 h95
  refine ⟨hS1.sC hsC, hJ1.sC (fun g hg => h127 g (by omega)) hsC, ⟨hR2.1, hR2.2.1, ?_, ⟨fun g z1 z2 => ?_, fun u z1 z2 => ?_⟩, hR2.2.2.2.2.cong (fun j q => hxm 91 j (by omega) (by omega) (by omega)) (fun c j q1 q2 => hxm c j (by omega) (by omega) (by omega))⟩, ⟨hX.1.link hf ho hne hno, hX.2.1, fun g hg g' hg' => ?_⟩, hn⟩
  · obtain ⟨m1, m2, m3, m4, m5⟩ := hR2.2.2.1
    refine ⟨⟨?_, m1.2.1, fun g hg => ?_⟩, fun g hg => ?_, ⟨?_, m3.2.1, fun u hu => ?_⟩, fun g hg => ?_, fun u hu => ?_⟩
    · rw [hxm _ _ (by omega) (by omega) (by omega)]; exact m1.1
    · obtain ⟨z1, z2, z3, z4⟩ := m1.2.2 g hg
      show X 94 g = nI (up1 w.2.1 f (wN w f ++ [o]) g).length ∧ (up1 w.2.1 f (wN w f ++ [o]) g).length ≤ 6 ∧ nums (X 95) (6 * g) (up1 w.2.1 f (wN w f ++ [o]) g) ∧ ∀ h ∈ up1 w.2.1 f (wN w f ++ [o]) g, h < wF w
      by_cases c : g = f
      · subst c
        rw [up1_eq, h94, List.length_append]
        refine ⟨rfl, hl, nums_app z3 (fun j hj => hxm _ _ (by omega) (by omega) (by omega)) h95 (by omega), fun h hh => ?_⟩
        rcases List.mem_append.mp hh with q | q
        · exact z4 h q
        · rw [List.mem_singleton.mp q]; exact ho
      · rw [up1_ne c, hxm _ _ (by omega) (by omega) (by omega)]
        refine ⟨z1, z2, fun j q hj => ?_, z4⟩
        have := (List.getElem?_eq_some_iff.mp hj).1
        have z2' : (w.2.1 g).length ≤ 6 := z2
        rw [hxm _ _ (by omega) (by omega) (by omega)]
        exact z3 j q hj
    · rw [hxm _ _ (by omega) (by omega) (by omega)]; exact m2 g hg
    · rw [hxm _ _ (by omega) (by omega) (by omega)]; exact m3.1
    · obtain ⟨z1, z2, z3, z4⟩ := m3.2.2 u hu
      exact ⟨by rw [hxm _ _ (by omega) (by omega) (by omega)]; exact z1, z2, fun j q hj => by rw [hxm _ _ (by omega) (by omega) (by omega)]; exact z3 j q hj, z4⟩
    · rw [hxm _ _ (by omega) (by omega) (by omega), hxm _ _ (by omega) (by omega) (by omega), hxm _ _ (by omega) (by omega) (by omega)]; exact m4 g hg
    · rw [hxm _ _ (by omega) (by omega) (by omega), hxm _ _ (by omega) (by omega) (by omega), hxm _ _ (by omega) (by omega) (by omega), hxm _ _ (by omega) (by omega) (by omega), hxm _ _ (by omega) (by omega) (by omega)]; exact m5 u hu
  · have z1 : wF w ≤ g := z1
    rw [hxm _ _ (by omega) (by omega) (by omega)]; exact hR2.2.2.2.1.1 g z1 z2
  · rw [hxm _ _ (by omega) (by omega) (by omega), hxm _ _ (by omega) (by omega) (by omega), hxm _ _ (by omega) (by omega) (by omega), hxm _ _ (by omega) (by omega) (by omega), hxm _ _ (by omega) (by omega) (by omega)]
    exact hR2.2.2.2.1.2 u z1 z2
  · have hg' : g' ∈ up1 w.2.1 f (wN w f ++ [o]) g := hg'
    show wI w 0 g' = 0 → wI w 0 g = 0
    by_cases c : g = f
    · subst c
      rw [up1_eq] at hg'
      rcases List.mem_append.mp hg' with q | q
      · exact hX.2.2 g hf g' q
      · rw [List.mem_singleton.mp q]
        intro z
        have h1 := Int32.not_lt.mp hsc
        rw [z] at h1
        exact Int32.le_antisymm h1 (hX.2.1 g hf)
    · rw [up1_ne c] at hg'
      exact hX.2.2 g hg g' hg'
theorem op_3 {x : Nat → Nat → Int32} {y : Nat → Nat → Option Nat} (h : GI n sh x y) (a b : Int32) : opR n sh x y 3 22 [.inl a, .inl b] := by
  obtain ⟨hF, hT, w, nb, cc, nfT, L, hI, hr1, hr2, hr3⟩ := h
  obtain ⟨hS, hJ, hR, hX, hn⟩ := id hI
  have h127 : ∀ f, f < nfT → 127 ≤ hF f := fun f hf => hS.2.2.2.2.2.1 f (by omega)
  obtain ⟨a1, a2, a3⟩ := hJ.1
  have h2o := hS.1.1
  have h12 := hS.2.1.1
  have no : (a < 0 ∨ nI (wF w) ≤ a ∨ b < 0 ∨ nI (wF w) ≤ b ∨ b.toNatClampNeg ∈ wN w a.toNatClampNeg ∨ (wN w a.toNatClampNeg).length = 6 ∨ x 92 b.toNatClampNeg < x 92 a.toNatClampNeg) → mj_Cl pg 60 3 [.inr (some 1), .inl a, .inl b] (bl n sh x y) = some (some (.inl (-1)), bl n sh x y) → opR n sh x y 3 22 [.inl a, .inl b] := fun c hc => by
    have q := mm_22 (x := x) (y := y) 58 hR.1 hR.2.1 hR.2.2.1.1 a b
    rw [if_pos c] at q
    exact ⟨n, sh, x, y, u2 x 91 0 0, _, hc, q, ⟨hF, hT, w, nb, cc, nfT, L, ⟨hS.sC (sC.w0 x 0), hJ.sC h127 (sC.w0 x 0), hR.w0 0, hX, hn⟩, hr1, hr2, hr3⟩, rfl, fun k => ⟨rfl, u2_a (by decide)⟩⟩
  rcases i_cs (i := a) (m := wF w) (by omega) with c | ⟨f, hf, e, c⟩
  · refine no (by rcases c with z | z; exact Or.inl z; exact Or.inr (Or.inl z)) ?_
    have c90 := rk_90n 58 hS c
    rcases i_cs (i := b) (m := wF w) (by omega) with d | ⟨o, ho, e2, d⟩
    · have c90b := rk_90n 58 hS d
      show mj_Cl pg (59 + 1) 3 _ _ = _
      rw [e_3]
      simp only [s_3_0, s_3_1, s_3_4, s_3_5, s_3_8, s_3_9, s_3_10, s_3_13, s_3_14, s_3_17, s_3_19, s_3_20_0, s_3_20_1, s_3_23, s_3_25_0, s_3_25_1, s_3_28, s_3_29, s_3_30, s_3_31, s_3_34, s_3_36, s_3_39, s_3_42, s_3_44, s_3_47, s_3_48, s_3_51, s_3_54, s_3_55, s_3_56, s_3_58, s_3_59, s_3_62, s_3_64, s_3_65, s_3_68, s_3_71, s_3_74, s_3_76, s_3_77, s_3_78, s_3_81, s_3_82, s_3_84, s_3_87, s_3_88, mj_lI_s, mj_lI_0, mj_lA_s, mj_lA_0, mj_sL_s, mj_sL_0, mj_s8_0, mj_s8_1, mj_s8_2, mj_s8_3, mj_bc_n, mj_bc_s, mj_bd_s, u2_eq, u2_a, u2_k, ne_eq, Nat.reduceEqDiff, not_false_eq_true, List.nil_append, List.cons_append, eq_self, true_or, or_true, if_true, if_false, false_or, or_false, not_true_eq_false, Bool.false_eq_true, ie_m1_0, ie_m1_1, ie_m1_2, ie_m1_3, ie_m1_4, ie_m1_5, ie_0_m1, ie_0_1, ie_0_2, ie_0_3, ie_0_4, ie_0_5, ie_1_m1, ie_1_0, ie_1_2, ie_1_3, ie_1_4, ie_1_5, ie_2_m1, ie_2_0, ie_2_1, ie_2_3, ie_2_4, ie_2_5, ie_3_m1, ie_3_0, ie_3_1, ie_3_2, ie_3_4, ie_3_5, ie_4_m1, ie_4_0, ie_4_1, ie_4_2, ie_4_3, ie_4_5, ie_5_m1, ie_5_0, ie_5_1, ie_5_2, ie_5_3, ie_5_4, ct_5, cv_5, ci_5_0, cp_5_0, ci_5_1, cp_5_1, ci_5_2, cp_5_2, ci_5_3, cp_5_3, ct_7, cv_7, ci_7_0, cp_7_0, ci_7_1, cp_7_1, a1, a2, h2o, c90, c90b]
    · subst e2
      have c90b := rk_90s 58 hS ho
      show mj_Cl pg (59 + 1) 3 _ _ = _
      rw [e_3]
      simp only [s_3_0, s_3_1, s_3_4, s_3_5, s_3_8, s_3_9, s_3_10, s_3_13, s_3_14, s_3_17, s_3_19, s_3_20_0, s_3_20_1, s_3_23, s_3_25_0, s_3_25_1, s_3_28, s_3_29, s_3_30, s_3_31, s_3_34, s_3_36, s_3_39, s_3_42, s_3_44, s_3_47, s_3_48, s_3_51, s_3_54, s_3_55, s_3_56, s_3_58, s_3_59, s_3_62, s_3_64, s_3_65, s_3_68, s_3_71, s_3_74, s_3_76, s_3_77, s_3_78, s_3_81, s_3_82, s_3_84, s_3_87, s_3_88, mj_lI_s, mj_lI_0, mj_lA_s, mj_lA_0, mj_sL_s, mj_sL_0, mj_s8_0, mj_s8_1, mj_s8_2, mj_s8_3, mj_bc_n, mj_bc_s, mj_bd_s, u2_eq, u2_a, u2_k, ne_eq, Nat.reduceEqDiff, not_false_eq_true, List.nil_append, List.cons_append, eq_self, true_or, or_true, if_true, if_false, false_or, or_false, not_true_eq_false, Bool.false_eq_true, ie_m1_0, ie_m1_1, ie_m1_2, ie_m1_3, ie_m1_4, ie_m1_5, ie_0_m1, ie_0_1, ie_0_2, ie_0_3, ie_0_4, ie_0_5, ie_1_m1, ie_1_0, ie_1_2, ie_1_3, ie_1_4, ie_1_5, ie_2_m1, ie_2_0, ie_2_1, ie_2_3, ie_2_4, ie_2_5, ie_3_m1, ie_3_0, ie_3_1, ie_3_2, ie_3_4, ie_3_5, ie_4_m1, ie_4_0, ie_4_1, ie_4_2, ie_4_3, ie_4_5, ie_5_m1, ie_5_0, ie_5_1, ie_5_2, ie_5_3, ie_5_4, ct_5, cv_5, ci_5_0, cp_5_0, ci_5_1, cp_5_1, ci_5_2, cp_5_2, ci_5_3, cp_5_3, ct_7, cv_7, ci_7_0, cp_7_0, ci_7_1, cp_7_1, a1, a2, h2o, c90, c90b]
  subst e
  have c90 := rk_90s 58 hS hf
  rcases i_cs (i := b) (m := wF w) (by omega) with d | ⟨o, ho, e2, d⟩
  · refine no (Or.inr (Or.inr (by rcases d with z | z; exact Or.inl z; exact Or.inr (Or.inl z)))) ?_
    have c90b := rk_90n 58 hS d
    show mj_Cl pg (59 + 1) 3 _ _ = _
    rw [e_3]
    simp only [s_3_0, s_3_1, s_3_4, s_3_5, s_3_8, s_3_9, s_3_10, s_3_13, s_3_14, s_3_17, s_3_19, s_3_20_0, s_3_20_1, s_3_23, s_3_25_0, s_3_25_1, s_3_28, s_3_29, s_3_30, s_3_31, s_3_34, s_3_36, s_3_39, s_3_42, s_3_44, s_3_47, s_3_48, s_3_51, s_3_54, s_3_55, s_3_56, s_3_58, s_3_59, s_3_62, s_3_64, s_3_65, s_3_68, s_3_71, s_3_74, s_3_76, s_3_77, s_3_78, s_3_81, s_3_82, s_3_84, s_3_87, s_3_88, mj_lI_s, mj_lI_0, mj_lA_s, mj_lA_0, mj_sL_s, mj_sL_0, mj_s8_0, mj_s8_1, mj_s8_2, mj_s8_3, mj_bc_n, mj_bc_s, mj_bd_s, u2_eq, u2_a, u2_k, ne_eq, Nat.reduceEqDiff, not_false_eq_true, List.nil_append, List.cons_append, eq_self, true_or, or_true, if_true, if_false, false_or, or_false, not_true_eq_false, Bool.false_eq_true, ie_m1_0, ie_m1_1, ie_m1_2, ie_m1_3, ie_m1_4, ie_m1_5, ie_0_m1, ie_0_1, ie_0_2, ie_0_3, ie_0_4, ie_0_5, ie_1_m1, ie_1_0, ie_1_2, ie_1_3, ie_1_4, ie_1_5, ie_2_m1, ie_2_0, ie_2_1, ie_2_3, ie_2_4, ie_2_5, ie_3_m1, ie_3_0, ie_3_1, ie_3_2, ie_3_4, ie_3_5, ie_4_m1, ie_4_0, ie_4_1, ie_4_2, ie_4_3, ie_4_5, ie_5_m1, ie_5_0, ie_5_1, ie_5_2, ie_5_3, ie_5_4, ct_5, cv_5, ci_5_0, cp_5_0, ci_5_1, cp_5_1, ci_5_2, cp_5_2, ci_5_3, cp_5_3, ct_7, cv_7, ci_7_0, cp_7_0, ci_7_1, cp_7_1, a1, a2, h2o, c90, c90b]
  subst e2
  have c90b := rk_90s 58 hS ho
  obtain ⟨d1, d2⟩ := hS.2.2.2.1 f hf
  have hro := d2.1.1
  have hfo := (hS.2.1.2.1 f hf).1
  have hoo := (hS.2.1.2.1 o ho).1
  have hfb := (hS.2.1.2.1 f hf).2.2
  have kf2 := (hS.2.2.1 f hf).1.2.1
  have ko2 := (hS.2.2.1 o ho).1.2.1
  have c70 := rk_70 58 d2 hS.2.1 ho
  have hle6 := d2.2.2.2.2.1
  have m92f := (hR.2.2.1.2.2.2.1 f hf).1
  have m92o := (hR.2.2.1.2.2.2.1 o ho).1
  have kf := nI_clamp (show f < 2 ^ 31 by omega)
  have ko := nI_clamp (show o < 2 ^ 31 by omega)
  have c10 : ¬ ((1 : Int32) = 0) := by decide
  by_cases ct : (wN w f).length < 6 ∧ o ∉ wN w f
  · rw [if_pos ct] at c70
    by_cases cs : wI w 0 o < wI w 0 f
    · refine no (by rw [kf, ko, m92f, m92o]; exact Or.inr (Or.inr (Or.inr (Or.inr (Or.inr (Or.inr cs)))))) ?_
      have cs' : ¬ (wI w 0 f ≤ wI w 0 o) := Int32.not_le.mpr cs
      show mj_Cl pg (59 + 1) 3 _ _ = _
      rw [e_3]
      simp only [s_3_0, s_3_1, s_3_4, s_3_5, s_3_8, s_3_9, s_3_10, s_3_13, s_3_14, s_3_17, s_3_19, s_3_20_0, s_3_20_1, s_3_23, s_3_25_0, s_3_25_1, s_3_28, s_3_29, s_3_30, s_3_31, s_3_34, s_3_36, s_3_39, s_3_42, s_3_44, s_3_47, s_3_48, s_3_51, s_3_54, s_3_55, s_3_56, s_3_58, s_3_59, s_3_62, s_3_64, s_3_65, s_3_68, s_3_71, s_3_74, s_3_76, s_3_77, s_3_78, s_3_81, s_3_82, s_3_84, s_3_87, s_3_88, mj_lI_s, mj_lI_0, mj_lA_s, mj_lA_0, mj_sL_s, mj_sL_0, mj_s8_0, mj_s8_1, mj_s8_2, mj_s8_3, mj_bc_n, mj_bc_s, mj_bd_s, u2_eq, u2_a, u2_k, ne_eq, Nat.reduceEqDiff, not_false_eq_true, List.nil_append, List.cons_append, eq_self, true_or, or_true, if_true, if_false, false_or, or_false, not_true_eq_false, Bool.false_eq_true, ie_m1_0, ie_m1_1, ie_m1_2, ie_m1_3, ie_m1_4, ie_m1_5, ie_0_m1, ie_0_1, ie_0_2, ie_0_3, ie_0_4, ie_0_5, ie_1_m1, ie_1_0, ie_1_2, ie_1_3, ie_1_4, ie_1_5, ie_2_m1, ie_2_0, ie_2_1, ie_2_3, ie_2_4, ie_2_5, ie_3_m1, ie_3_0, ie_3_1, ie_3_2, ie_3_4, ie_3_5, ie_4_m1, ie_4_0, ie_4_1, ie_4_2, ie_4_3, ie_4_5, ie_5_m1, ie_5_0, ie_5_1, ie_5_2, ie_5_3, ie_5_4, ct_1, cv_1, ci_1_0, cp_1_0, ci_1_1, cp_1_1, ci_1_2, cp_1_2, ci_1_3, cp_1_3, ci_1_4, cp_1_4, ci_1_5, cp_1_5, ci_1_6, cp_1_6, ci_1_7, cp_1_7, ci_1_8, cp_1_8, ci_1_9, cp_1_9, ci_1_10, cp_1_10, ci_1_11, cp_1_11, ci_1_12, cp_1_12, ci_1_13, cp_1_13, ci_1_14, cp_1_14, ct_3, cv_3, ci_3_0, cp_3_0, ci_3_1, cp_3_1, ci_3_2, cp_3_2, ci_3_3, cp_3_3, ct_5, cv_5, ci_5_0, cp_5_0, ci_5_1, cp_5_1, ci_5_2, cp_5_2, ci_5_3, cp_5_3, ct_7, cv_7, ci_7_0, cp_7_0, ci_7_1, cp_7_1, a1, a2, h2o, c90, c90b, hfo, hoo, d1, hro, c70, c10, kf2, ko2, cs']
    have cs' : wI w 0 f ≤ wI w 0 o := Int32.not_lt.mp cs
    have notc : ∀ {x : Nat → Nat → Int32}, x 92 f = wI w 0 f → x 92 o = wI w 0 o → ¬ (nI f < 0 ∨ nI (wF w) ≤ nI f ∨ nI o < 0 ∨ nI (wF w) ≤ nI o ∨ (nI o).toNatClampNeg ∈ wN w (nI f).toNatClampNeg ∨ (wN w (nI f).toNatClampNeg).length = 6 ∨ x 92 (nI o).toNatClampNeg < x 92 (nI f).toNatClampNeg) := fun q1 q2 z => by
      rw [kf, ko, q1, q2] at z
      rcases z with z | z | z | z | z | z | z
      · exact c (Or.inl z)
      · exact c (Or.inr z)
      · exact d (Or.inl z)
      · exact d (Or.inr z)
      · exact ct.2 z
      · omega
      · exact cs z
    have hld := ld_nb hX.1 h12 ho f
    have c54 := rk_54 (x := x) (y := y) 58 hoo (bF f)
    have hz : (x (hF o) 7 &&& bF f = 0) = (nb o f = false) := by rw [bF, bb_andb _ (by omega), (hS.2.2.1 o ho).1.2.2.2.2.2 f]
    by_cases cr : f = o ∨ nb o f = true
    · have q := mm_22 (x := x) (y := y) 58 hR.1 hR.2.1 hR.2.2.1.1 (nI f) (nI o)
      rw [if_neg (notc m92f m92o), kf, if_pos (hld.mpr cr)] at q
      refine ⟨n, sh, x, y, u2 x 91 0 0, _, ?_, q, ⟨hF, hT, w, nb, cc, nfT, L, ⟨hS.sC (sC.w0 x 0), hJ.sC h127 (sC.w0 x 0), hR.w0 0, hX, hn⟩, hr1, hr2, hr3⟩, rfl, fun k => ⟨rfl, u2_a (by decide)⟩⟩
      show mj_Cl pg (59 + 1) 3 _ _ = _
      rw [e_3]
      by_cases ce : hF o = hF f
      · have ee : (some (hF o) = some (hF f)) = True := eq_true (by rw [ce])
        simp only [s_3_0, s_3_1, s_3_4, s_3_5, s_3_8, s_3_9, s_3_10, s_3_13, s_3_14, s_3_17, s_3_19, s_3_20_0, s_3_20_1, s_3_23, s_3_25_0, s_3_25_1, s_3_28, s_3_29, s_3_30, s_3_31, s_3_34, s_3_36, s_3_39, s_3_42, s_3_44, s_3_47, s_3_48, s_3_51, s_3_54, s_3_55, s_3_56, s_3_58, s_3_59, s_3_62, s_3_64, s_3_65, s_3_68, s_3_71, s_3_74, s_3_76, s_3_77, s_3_78, s_3_81, s_3_82, s_3_84, s_3_87, s_3_88, mj_lI_s, mj_lI_0, mj_lA_s, mj_lA_0, mj_sL_s, mj_sL_0, mj_s8_0, mj_s8_1, mj_s8_2, mj_s8_3, mj_bc_n, mj_bc_s, mj_bd_s, u2_eq, u2_a, u2_k, ne_eq, Nat.reduceEqDiff, not_false_eq_true, List.nil_append, List.cons_append, eq_self, true_or, or_true, if_true, if_false, false_or, or_false, not_true_eq_false, Bool.false_eq_true, ie_m1_0, ie_m1_1, ie_m1_2, ie_m1_3, ie_m1_4, ie_m1_5, ie_0_m1, ie_0_1, ie_0_2, ie_0_3, ie_0_4, ie_0_5, ie_1_m1, ie_1_0, ie_1_2, ie_1_3, ie_1_4, ie_1_5, ie_2_m1, ie_2_0, ie_2_1, ie_2_3, ie_2_4, ie_2_5, ie_3_m1, ie_3_0, ie_3_1, ie_3_2, ie_3_4, ie_3_5, ie_4_m1, ie_4_0, ie_4_1, ie_4_2, ie_4_3, ie_4_5, ie_5_m1, ie_5_0, ie_5_1, ie_5_2, ie_5_3, ie_5_4, ct_1, cv_1, ci_1_0, cp_1_0, ci_1_1, cp_1_1, ci_1_2, cp_1_2, ci_1_3, cp_1_3, ci_1_4, cp_1_4, ci_1_5, cp_1_5, ci_1_6, cp_1_6, ci_1_7, cp_1_7, ci_1_8, cp_1_8, ci_1_9, cp_1_9, ci_1_10, cp_1_10, ci_1_11, cp_1_11, ci_1_12, cp_1_12, ci_1_13, cp_1_13, ci_1_14, cp_1_14, ct_3, cv_3, ci_3_0, cp_3_0, ci_3_1, cp_3_1, ci_3_2, cp_3_2, ci_3_3, cp_3_3, ct_5, cv_5, ci_5_0, cp_5_0, ci_5_1, cp_5_1, ci_5_2, cp_5_2, ci_5_3, cp_5_3, ct_7, cv_7, ci_7_0, cp_7_0, ci_7_1, cp_7_1, a1, a2, h2o, c90, c90b, hfo, hoo, d1, hro, c70, c10, kf2, ko2, cs', ee]
      · have ee : (some (hF o) = some (hF f)) = False := eq_false (fun z => ce (Option.some.inj z))
        have cn : nb o f = true := cr.resolve_left (fun z => ce (by rw [z]))
        rw [if_neg (by rw [hz, cn]; decide)] at c54
        simp only [s_3_0, s_3_1, s_3_4, s_3_5, s_3_8, s_3_9, s_3_10, s_3_13, s_3_14, s_3_17, s_3_19, s_3_20_0, s_3_20_1, s_3_23, s_3_25_0, s_3_25_1, s_3_28, s_3_29, s_3_30, s_3_31, s_3_34, s_3_36, s_3_39, s_3_42, s_3_44, s_3_47, s_3_48, s_3_51, s_3_54, s_3_55, s_3_56, s_3_58, s_3_59, s_3_62, s_3_64, s_3_65, s_3_68, s_3_71, s_3_74, s_3_76, s_3_77, s_3_78, s_3_81, s_3_82, s_3_84, s_3_87, s_3_88, mj_lI_s, mj_lI_0, mj_lA_s, mj_lA_0, mj_sL_s, mj_sL_0, mj_s8_0, mj_s8_1, mj_s8_2, mj_s8_3, mj_bc_n, mj_bc_s, mj_bd_s, u2_eq, u2_a, u2_k, ne_eq, Nat.reduceEqDiff, not_false_eq_true, List.nil_append, List.cons_append, eq_self, true_or, or_true, if_true, if_false, false_or, or_false, not_true_eq_false, Bool.false_eq_true, ie_m1_0, ie_m1_1, ie_m1_2, ie_m1_3, ie_m1_4, ie_m1_5, ie_0_m1, ie_0_1, ie_0_2, ie_0_3, ie_0_4, ie_0_5, ie_1_m1, ie_1_0, ie_1_2, ie_1_3, ie_1_4, ie_1_5, ie_2_m1, ie_2_0, ie_2_1, ie_2_3, ie_2_4, ie_2_5, ie_3_m1, ie_3_0, ie_3_1, ie_3_2, ie_3_4, ie_3_5, ie_4_m1, ie_4_0, ie_4_1, ie_4_2, ie_4_3, ie_4_5, ie_5_m1, ie_5_0, ie_5_1, ie_5_2, ie_5_3, ie_5_4, ct_1, cv_1, ci_1_0, cp_1_0, ci_1_1, cp_1_1, ci_1_2, cp_1_2, ci_1_3, cp_1_3, ci_1_4, cp_1_4, ci_1_5, cp_1_5, ci_1_6, cp_1_6, ci_1_7, cp_1_7, ci_1_8, cp_1_8, ci_1_9, cp_1_9, ci_1_10, cp_1_10, ci_1_11, cp_1_11, ci_1_12, cp_1_12, ci_1_13, cp_1_13, ci_1_14, cp_1_14, ct_3, cv_3, ci_3_0, cp_3_0, ci_3_1, cp_3_1, ci_3_2, cp_3_2, ci_3_3, cp_3_3, ct_5, cv_5, ci_5_0, cp_5_0, ci_5_1, cp_5_1, ci_5_2, cp_5_2, ci_5_3, cp_5_3, ct_7, cv_7, ci_7_0, cp_7_0, ci_7_1, cp_7_1, a1, a2, h2o, c90, c90b, hfo, hoo, d1, hro, c70, c10, kf2, ko2, cs', ee, ce, hfb, c54]
    · have hne : o ≠ f := fun z => cr (Or.inl z.symm)
      have hno : nb o f = false := by
        cases hq : nb o f
        · rfl
        · exact absurd (Or.inr hq) cr
      have ce : ¬ hF o = hF f := fun z => hne (hS.2.1.2.2 o f ho hf z)
      have ee : (some (hF o) = some (hF f)) = False := eq_false (fun z => ce (Option.some.inj z))
      rw [if_pos (by rw [hz]; exact hno)] at c54
      obtain ⟨x1, y1, p1, p2, p3, p4, p5⟩ := rk_94 56 hS hf ho hno hne ct.1 ct.2
      have p1 : mj_Cl pg 59 94 [.inr (some 2), .inr (some (hF f)), .inr (some (hF o))] (bl n sh x y) = some (none, bl n sh x1 y1) := p1
      have hI' := hI.need hf ho hno hne ct.1 cs p2 p3 p4 p5
      have hf127 := hS.2.2.2.2.2.1 f hf
      have xlo : ∀ a k, 91 ≤ a → a ≤ 126 → x1 a k = x a k := fun a k h1 h2 => p4 a k (fun ⟨_, g, hg, z⟩ => by have := hS.2.2.2.2.2.1 g hg; omega) (by omega)
      have hR1 : rI n sh x1 y1 w nfT L := hR.cong (fun c j q1 q2 => ⟨xlo c j q1 q2, p5 _ _ (by omega)⟩)
      have q := mm_22 (x := x1) (y := y1) 58 hR1.1 hR1.2.1 hR1.2.2.1.1 (nI f) (nI o)
      rw [if_neg (notc (hR1.2.2.1.2.2.2.1 f hf).1 (hR1.2.2.1.2.2.2.1 o ho).1), kf, if_neg (fun z => cr (hld.mp z))] at q
      refine ⟨n, sh, x1, y1, _, _, ?_, q, ⟨hF, hT, _, _, cc, nfT, L, hI', hr1, hr2, hr3⟩, rfl, fun i => ⟨p4 _ _ (fun ⟨_, g, hg, z⟩ => by have := hS.2.2.2.2.2.1 g hg; omega) (by omega), by rw [u2_a (by decide), u2_a (by decide), u2_a (by decide)]; exact p4 _ _ (fun ⟨_, g, hg, z⟩ => by have := hS.2.2.2.2.2.1 g hg; omega) (by omega)⟩⟩
      show mj_Cl pg (59 + 1) 3 _ _ = _
      rw [e_3]
      simp only [s_3_0, s_3_1, s_3_4, s_3_5, s_3_8, s_3_9, s_3_10, s_3_13, s_3_14, s_3_17, s_3_19, s_3_20_0, s_3_20_1, s_3_23, s_3_25_0, s_3_25_1, s_3_28, s_3_29, s_3_30, s_3_31, s_3_34, s_3_36, s_3_39, s_3_42, s_3_44, s_3_47, s_3_48, s_3_51, s_3_54, s_3_55, s_3_56, s_3_58, s_3_59, s_3_62, s_3_64, s_3_65, s_3_68, s_3_71, s_3_74, s_3_76, s_3_77, s_3_78, s_3_81, s_3_82, s_3_84, s_3_87, s_3_88, mj_lI_s, mj_lI_0, mj_lA_s, mj_lA_0, mj_sL_s, mj_sL_0, mj_s8_0, mj_s8_1, mj_s8_2, mj_s8_3, mj_bc_n, mj_bc_s, mj_bd_s, u2_eq, u2_a, u2_k, ne_eq, Nat.reduceEqDiff, not_false_eq_true, List.nil_append, List.cons_append, eq_self, true_or, or_true, if_true, if_false, false_or, or_false, not_true_eq_false, Bool.false_eq_true, ie_m1_0, ie_m1_1, ie_m1_2, ie_m1_3, ie_m1_4, ie_m1_5, ie_0_m1, ie_0_1, ie_0_2, ie_0_3, ie_0_4, ie_0_5, ie_1_m1, ie_1_0, ie_1_2, ie_1_3, ie_1_4, ie_1_5, ie_2_m1, ie_2_0, ie_2_1, ie_2_3, ie_2_4, ie_2_5, ie_3_m1, ie_3_0, ie_3_1, ie_3_2, ie_3_4, ie_3_5, ie_4_m1, ie_4_0, ie_4_1, ie_4_2, ie_4_3, ie_4_5, ie_5_m1, ie_5_0, ie_5_1, ie_5_2, ie_5_3, ie_5_4, ct_1, cv_1, ci_1_0, cp_1_0, ci_1_1, cp_1_1, ci_1_2, cp_1_2, ci_1_3, cp_1_3, ci_1_4, cp_1_4, ci_1_5, cp_1_5, ci_1_6, cp_1_6, ci_1_7, cp_1_7, ci_1_8, cp_1_8, ci_1_9, cp_1_9, ci_1_10, cp_1_10, ci_1_11, cp_1_11, ci_1_12, cp_1_12, ci_1_13, cp_1_13, ci_1_14, cp_1_14, ct_3, cv_3, ci_3_0, cp_3_0, ci_3_1, cp_3_1, ci_3_2, cp_3_2, ci_3_3, cp_3_3, ct_5, cv_5, ci_5_0, cp_5_0, ci_5_1, cp_5_1, ci_5_2, cp_5_2, ci_5_3, cp_5_3, ct_7, cv_7, ci_7_0, cp_7_0, ci_7_1, cp_7_1, a1, a2, h2o, c90, c90b, hfo, hoo, d1, hro, c70, c10, kf2, ko2, cs', ee, ce, hfb, c54, p1]
  · rw [if_neg ct] at c70
    refine no ?_ ?_
    · rw [kf, ko]
      by_cases z : o ∈ wN w f
      · exact Or.inr (Or.inr (Or.inr (Or.inr (Or.inl z))))
      · exact Or.inr (Or.inr (Or.inr (Or.inr (Or.inr (Or.inl (by
          have : ¬ (wN w f).length < 6 := fun q => ct ⟨q, z⟩
          omega))))))
    · show mj_Cl pg (59 + 1) 3 _ _ = _
      rw [e_3]
      simp only [s_3_0, s_3_1, s_3_4, s_3_5, s_3_8, s_3_9, s_3_10, s_3_13, s_3_14, s_3_17, s_3_19, s_3_20_0, s_3_20_1, s_3_23, s_3_25_0, s_3_25_1, s_3_28, s_3_29, s_3_30, s_3_31, s_3_34, s_3_36, s_3_39, s_3_42, s_3_44, s_3_47, s_3_48, s_3_51, s_3_54, s_3_55, s_3_56, s_3_58, s_3_59, s_3_62, s_3_64, s_3_65, s_3_68, s_3_71, s_3_74, s_3_76, s_3_77, s_3_78, s_3_81, s_3_82, s_3_84, s_3_87, s_3_88, mj_lI_s, mj_lI_0, mj_lA_s, mj_lA_0, mj_sL_s, mj_sL_0, mj_s8_0, mj_s8_1, mj_s8_2, mj_s8_3, mj_bc_n, mj_bc_s, mj_bd_s, u2_eq, u2_a, u2_k, ne_eq, Nat.reduceEqDiff, not_false_eq_true, List.nil_append, List.cons_append, eq_self, true_or, or_true, if_true, if_false, false_or, or_false, not_true_eq_false, Bool.false_eq_true, ie_m1_0, ie_m1_1, ie_m1_2, ie_m1_3, ie_m1_4, ie_m1_5, ie_0_m1, ie_0_1, ie_0_2, ie_0_3, ie_0_4, ie_0_5, ie_1_m1, ie_1_0, ie_1_2, ie_1_3, ie_1_4, ie_1_5, ie_2_m1, ie_2_0, ie_2_1, ie_2_3, ie_2_4, ie_2_5, ie_3_m1, ie_3_0, ie_3_1, ie_3_2, ie_3_4, ie_3_5, ie_4_m1, ie_4_0, ie_4_1, ie_4_2, ie_4_3, ie_4_5, ie_5_m1, ie_5_0, ie_5_1, ie_5_2, ie_5_3, ie_5_4, ct_1, cv_1, ci_1_0, cp_1_0, ci_1_1, cp_1_1, ci_1_2, cp_1_2, ci_1_3, cp_1_3, ci_1_4, cp_1_4, ci_1_5, cp_1_5, ci_1_6, cp_1_6, ci_1_7, cp_1_7, ci_1_8, cp_1_8, ci_1_9, cp_1_9, ci_1_10, cp_1_10, ci_1_11, cp_1_11, ci_1_12, cp_1_12, ci_1_13, cp_1_13, ci_1_14, cp_1_14, ct_3, cv_3, ci_3_0, cp_3_0, ci_3_1, cp_3_1, ci_3_2, cp_3_2, ci_3_3, cp_3_3, ct_5, cv_5, ci_5_0, cp_5_0, ci_5_1, cp_5_1, ci_5_2, cp_5_2, ci_5_3, cp_5_3, ct_7, cv_7, ci_7_0, cp_7_0, ci_7_1, cp_7_1, a1, a2, h2o, c90, c90b, hfo, hoo, d1, hro, c70]
end NE
