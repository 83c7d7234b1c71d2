/-! forgetting, a try: of the program -/
section TR
variable {n : Nat} {sh : Nat → Nat × Nat} {hF hT : Nat → Nat} {w : sW} {nb : Nat → Nat → Bool}
theorem fqP.forget {x : Nat → Nat → Int32} {nf : Nat} {md : List Nat} {q : rq} {f : Nat} {sc : Nat → Int32} {fi : Int32} (hX : fxP n sh x hF nf) (h : fqP x hF nf md q) (hf : f < nf) (h2 : x (hF f) 2 = sc f) : fqP (if x (hF f) 2 = 1 ∧ ¬ x (hF f) 11 = fi then u2 x (hF f) 10 0 else x) hF nf md (sF sc fi q f) := fun g hg => by
  obtain ⟨h1, h3, h4, h5, h6, h7⟩ := h g hg
  unfold sF
  rw [h2]
  by_cases e : g = f
  · subst e
    by_cases z : q g 10 = 0
    · have k1 : ∀ c : Prop, [Decidable c] → (if c then u2 x (hF g) 10 0 else x) (hF g) 10 = 0 := fun c _ => by
        by_cases cc : c
        · rw [if_pos cc, u2_eq]
        · rw [if_neg cc, h3, z]
      have k2 : ∀ (c : Prop) [Decidable c] (k : Nat), k ≠ 10 → (if c then u2 x (hF g) 10 0 else x) (hF g) k = x (hF g) k := fun c _ k hk => by
        by_cases cc : c
        · rw [if_pos cc, u2_k hk]
        · rw [if_neg cc]
      have k3 : ∀ c : Prop, [Decidable c] → (if c then u2 q g 10 0 else q) g 10 = 0 := fun c _ => by
        by_cases cc : c
        · rw [if_pos cc, u2_eq]
        · rw [if_neg cc, z]
      have k4 : ∀ (c : Prop) [Decidable c] (k : Nat), k ≠ 10 → (if c then u2 q g 10 0 else q) g k = q g k := fun c _ k hk => by
        by_cases cc : c
        · rw [if_pos cc, u2_k hk]
        · rw [if_neg cc]
      rw [k1, k3, k2 _ 8 (by decide), k2 _ 9 (by decide), k2 _ 11 (by decide), k2 _ 12 (by decide), k2 _ 13 (by decide), k2 _ 14 (by decide), k4 _ 8 (by decide), k4 _ 9 (by decide), k4 _ 11 (by decide), k4 _ 12 (by decide), k4 _ 13 (by decide), k4 _ 14 (by decide)]
      exact ⟨h1, rfl, fun z => absurd rfl z, h5, h6, h7⟩
    · rw [h4 z]
      by_cases cc : sc g = 1 ∧ ¬ q g 11 = fi
      · simp only [if_pos cc, mj_lI_s, mj_lI_0, mj_lA_s, mj_lA_0, mj_sL_s, mj_sL_0, mj_s8_0, mj_s8_1, mj_s8_2, mj_s8_3, mj_bc_n, mj_bc_s, mj_bd_s, u2_eq, u2_a, u2_k, ne_eq, Nat.reduceEqDiff, not_false_eq_true, List.nil_append, List.cons_append, eq_self, true_or, or_true, if_true, if_false, false_or, or_false, not_true_eq_false, Bool.false_eq_true, ie_m1_0, ie_m1_1, ie_m1_2, ie_m1_3, ie_m1_4, ie_m1_5, ie_0_m1, ie_0_1, ie_0_2, ie_0_3, ie_0_4, ie_0_5, ie_1_m1, ie_1_0, ie_1_2, ie_1_3, ie_1_4, ie_1_5, ie_2_m1, ie_2_0, ie_2_1, ie_2_3, ie_2_4, ie_2_5, ie_3_m1, ie_3_0, ie_3_1, ie_3_2, ie_3_4, ie_3_5, ie_4_m1, ie_4_0, ie_4_1, ie_4_2, ie_4_3, ie_4_5, ie_5_m1, ie_5_0, ie_5_1, ie_5_2, ie_5_3, ie_5_4]
        exact ⟨h1, trivial, fun z => z.elim, h5, h6, h7⟩
      · simp only [if_neg cc]
        exact ⟨h1, h3, h4, h5, h6, h7⟩
  · have ne : hF g ≠ hF f := fun z => e (hX.2.2 g f hg hf z)
    have k2 : ∀ (c : Prop) [Decidable c] (k : Nat), (if c then u2 x (hF f) 10 0 else x) (hF g) k = x (hF g) k := fun c _ k => by
      by_cases cc : c
      · rw [if_pos cc, u2_a ne]
      · rw [if_neg cc]
    have k4 : ∀ (c : Prop) [Decidable c] (k : Nat), (if c then u2 q f 10 0 else q) g k = q g k := fun c _ k => by
      by_cases cc : c
      · rw [if_pos cc, u2_a e]
      · rw [if_neg cc]
    simp only [k2, k4]
    exact ⟨h1, h3, h4, h5, h6, h7⟩
/-- forgetFailuresOfOtherFiles -/
theorem rk_95 (d : Nat) {x : Nat → Nat → Int32} {y : Nat → Nat → Option Nat} {s : rs} (fi : Int32) (hS : suP n sh x y hF hT w nb) (hM : mdP n sh x y hF (wF w) s) :
    ∃ x', mj_Cl pg (d + 2) 95 [.inr (some 2), .inl fi] (bl n sh x y) = some (none, bl n sh x' y) ∧ mdP n sh x' y hF (wF w) (s.1, (List.range (wF w)).foldl (sF (wI w 0) fi) s.2.1, s.2.2) ∧ fG sh x x' y y := by
  have loop : ∀ (j k : Nat) (x : Nat → Nat → Int32) (q : rq) (Q : Option mj_R → Prop), k + j = wF w → suP n sh x y hF hT w nb → mdP n sh x y hF (wF w) (s.1, q, s.2.2) →
      (∀ x', mdP n sh x' y hF (wF w) (s.1, (List.range' k j).foldl (sF (wI w 0) fi) q, s.2.2) → fG sh x x' y y → Q (some (none, bl n sh x' y))) →
      Q (mj_Rn pg (d + 2) 95 (2, [some (.inr (some 2)), some (.inl fi), some (.inl (nI k))], [], bl n sh x y)) := by
    intro j
    induction j with
    | zero =>
      intro k x q Q hk hS hM hQ
      obtain ⟨a1, a2, a3, a4, a5, a6, a7, a8⟩ := hS.1
      have h12 := hS.2.1.1
      have hkc : (nI (wF w) ≤ nI k) = True := eq_true (nI_le (by omega) (by omega))
      rw [s_95_2]
      simp only [s_95_3, s_95_4, s_95_7, s_95_10, s_95_11, s_95_14, s_95_15, s_95_16, s_95_17, s_95_20, s_95_23, s_95_26, mj_lI_s, mj_lI_0, mj_lA_s, mj_lA_0, mj_sL_s, mj_sL_0, mj_s8_0, mj_s8_1, mj_s8_2, mj_s8_3, mj_bc_n, mj_bc_s, mj_bd_s, u2_eq, u2_a, u2_k, ne_eq, Nat.reduceEqDiff, not_false_eq_true, List.nil_append, List.cons_append, eq_self, true_or, or_true, if_true, if_false, false_or, or_false, not_true_eq_false, Bool.false_eq_true, ie_m1_0, ie_m1_1, ie_m1_2, ie_m1_3, ie_m1_4, ie_m1_5, ie_0_m1, ie_0_1, ie_0_2, ie_0_3, ie_0_4, ie_0_5, ie_1_m1, ie_1_0, ie_1_2, ie_1_3, ie_1_4, ie_1_5, ie_2_m1, ie_2_0, ie_2_1, ie_2_3, ie_2_4, ie_2_5, ie_3_m1, ie_3_0, ie_3_1, ie_3_2, ie_3_4, ie_3_5, ie_4_m1, ie_4_0, ie_4_1, ie_4_2, ie_4_3, ie_4_5, ie_5_m1, ie_5_0, ie_5_1, ie_5_2, ie_5_3, ie_5_4, ct_5, cv_5, ci_5_0, cp_5_0, ci_5_1, cp_5_1, ci_5_2, cp_5_2, ci_5_3, cp_5_3, a1, a5, hkc]
      exact hQ x hM (fG.rf sh x y)
    | succ j ih =>
      intro k x q Q hk hS hM hQ
      obtain ⟨a1, a2, a3, a4, a5, a6, a7, a8⟩ := hS.1
      have hX := hS.2.1
      have h12 := hX.1
      have hkn : k < wF w := by omega
      have hkc : (nI (wF w) ≤ nI k) = False := eq_false (nI_ge (by omega) (by omega))
      have hk12 : k < 12 := by omega
      have ho := (hX.2.1 k hkn).1
      have hy3 := (hS.2.2.1 k hkn).1.1
      have h2 := (hS.2.2.1 k hkn).1.2.1
      have c62 := rk_62 (x := x) (y := y) d ho fi
      have hW : fW x (if x (hF k) 2 = 1 ∧ ¬ x (hF k) 11 = fi then u2 x (hF k) 10 0 else x) (hF k) := fun b i h => by
        by_cases z : x (hF k) 2 = 1 ∧ ¬ x (hF k) 11 = fi
        · rw [if_pos z, u2_ne (fun q => h ⟨q.1, by omega⟩)]
        · rw [if_neg z]
      have hM1 := mdP.fw (md := []) hM ho hW (hM.2.2.forget (fi := fi) hX hkn h2)
      have hG1 : fG sh x _ y y := hW.fG ho
      generalize (if x (hF k) 2 = 1 ∧ ¬ x (hF k) 11 = fi then u2 x (hF k) 10 0 else x) = x1 at c62 hM1 hG1
      rw [s_95_2]
      simp only [s_95_3, s_95_4, s_95_7, s_95_10, s_95_11, s_95_14, s_95_15, s_95_16, s_95_17, s_95_20, s_95_23, mj_lI_s, mj_lI_0, mj_lA_s, mj_lA_0, mj_sL_s, mj_sL_0, mj_s8_0, mj_s8_1, mj_s8_2, mj_s8_3, mj_bc_n, mj_bc_s, mj_bd_s, u2_eq, u2_a, u2_k, ne_eq, Nat.reduceEqDiff, not_false_eq_true, List.nil_append, List.cons_append, eq_self, true_or, or_true, if_true, if_false, false_or, or_false, not_true_eq_false, Bool.false_eq_true, ie_m1_0, ie_m1_1, ie_m1_2, ie_m1_3, ie_m1_4, ie_m1_5, ie_0_m1, ie_0_1, ie_0_2, ie_0_3, ie_0_4, ie_0_5, ie_1_m1, ie_1_0, ie_1_2, ie_1_3, ie_1_4, ie_1_5, ie_2_m1, ie_2_0, ie_2_1, ie_2_3, ie_2_4, ie_2_5, ie_3_m1, ie_3_0, ie_3_1, ie_3_2, ie_3_4, ie_3_5, ie_4_m1, ie_4_0, ie_4_1, ie_4_2, ie_4_3, ie_4_5, ie_5_m1, ie_5_0, ie_5_1, ie_5_2, ie_5_3, ie_5_4, ct_1, cv_1, ci_1_0, cp_1_0, ci_1_1, cp_1_1, ci_1_2, cp_1_2, ci_1_3, cp_1_3, ci_1_4, cp_1_4, ci_1_5, cp_1_5, ci_1_6, cp_1_6, ci_1_7, cp_1_7, ci_1_8, cp_1_8, ci_1_9, cp_1_9, ci_1_10, cp_1_10, ci_1_11, cp_1_11, ci_1_12, cp_1_12, ci_1_13, cp_1_13, ci_1_14, cp_1_14, ct_5, cv_5, ci_5_0, cp_5_0, ci_5_1, cp_5_1, ci_5_2, cp_5_2, ci_5_3, cp_5_3, a1, a5, hkc, a4, xr_102 a2 hk12 (by decide), hy3, ho, c62, nI_1]
      exact ih (k + 1) x1 _ Q (by omega) (hS.cong (hG1.fS hT _)) hM1 (fun x' r1 r2 => hQ x' r1 (hG1.tr r2))
  rw [e_95]
  simp only [s_95_0, s_95_1, mj_lI_s, mj_lI_0, mj_lA_s, mj_lA_0, mj_sL_s, mj_sL_0, mj_s8_0, mj_s8_1, mj_s8_2, mj_s8_3, mj_bc_n, mj_bc_s, mj_bd_s, u2_eq, u2_a, u2_k, ne_eq, Nat.reduceEqDiff, not_false_eq_true, List.nil_append, List.cons_append, eq_self, true_or, or_true, if_true, if_false, false_or, or_false, not_true_eq_false, Bool.false_eq_true, ie_m1_0, ie_m1_1, ie_m1_2, ie_m1_3, ie_m1_4, ie_m1_5, ie_0_m1, ie_0_1, ie_0_2, ie_0_3, ie_0_4, ie_0_5, ie_1_m1, ie_1_0, ie_1_2, ie_1_3, ie_1_4, ie_1_5, ie_2_m1, ie_2_0, ie_2_1, ie_2_3, ie_2_4, ie_2_5, ie_3_m1, ie_3_0, ie_3_1, ie_3_2, ie_3_4, ie_3_5, ie_4_m1, ie_4_0, ie_4_1, ie_4_2, ie_4_3, ie_4_5, ie_5_m1, ie_5_0, ie_5_1, ie_5_2, ie_5_3, ie_5_4]
  have := loop (wF w) 0 x s.2.1 (fun r => ∃ x', r = some (none, bl n sh x' y) ∧ mdP n sh x' y hF (wF w) (s.1, (List.range (wF w)).foldl (sF (wI w 0) fi) s.2.1, s.2.2) ∧ fG sh x x' y y) (by omega) hS hM (fun x' r1 r2 => ⟨x', rfl, by rw [List.range_eq_range']; exact r1, r2⟩)
  exact this
theorem rk_101 (d : Nat) {x : Nat → Nat → Int32} {y : Nat → Nat → Option Nat} {T : Nat} (h : ob n sh T 6 8) (a : Int32) : mj_Cl pg (d + 1) 101 [.inr (some T), .inl a] (bl n sh x y) = some (some (.inl (if x T 5 < x T 4 then 3 else if a < x T 6 then 2 else 1)), bl n sh x y) := by
  rw [e_101]
  by_cases c1 : x T 4 ≤ x T 5
  · have c2 : ¬ x T 5 < x T 4 := Int32.not_lt.mpr c1
    by_cases c3 : x T 6 ≤ a
    · have c4 : ¬ a < x T 6 := Int32.not_lt.mpr c3
      simp only [s_101_0, s_101_1, s_101_4, s_101_5, s_101_8, s_101_11, s_101_12, s_101_13, s_101_14, s_101_15, s_101_18, s_101_21, s_101_22, s_101_25, s_101_26, mj_lI_s, mj_lI_0, mj_lA_s, mj_lA_0, mj_sL_s, mj_sL_0, mj_s8_0, mj_s8_1, mj_s8_2, mj_s8_3, mj_bc_n, mj_bc_s, mj_bd_s, u2_eq, u2_a, u2_k, ne_eq, Nat.reduceEqDiff, not_false_eq_true, List.nil_append, List.cons_append, eq_self, true_or, or_true, if_true, if_false, false_or, or_false, not_true_eq_false, Bool.false_eq_true, ie_m1_0, ie_m1_1, ie_m1_2, ie_m1_3, ie_m1_4, ie_m1_5, ie_0_m1, ie_0_1, ie_0_2, ie_0_3, ie_0_4, ie_0_5, ie_1_m1, ie_1_0, ie_1_2, ie_1_3, ie_1_4, ie_1_5, ie_2_m1, ie_2_0, ie_2_1, ie_2_3, ie_2_4, ie_2_5, ie_3_m1, ie_3_0, ie_3_1, ie_3_2, ie_3_4, ie_3_5, ie_4_m1, ie_4_0, ie_4_1, ie_4_2, ie_4_3, ie_4_5, ie_5_m1, ie_5_0, ie_5_1, ie_5_2, ie_5_3, ie_5_4, ct_6, cv_6, ci_6_0, cp_6_0, ci_6_1, cp_6_1, ci_6_2, cp_6_2, ci_6_3, cp_6_3, ci_6_4, cp_6_4, ci_6_5, cp_6_5, ci_6_6, cp_6_6, ci_6_7, cp_6_7, h, c1, c2, c3, c4]
    · have c4 : a < x T 6 := Int32.not_le.mp c3
      simp only [s_101_0, s_101_1, s_101_4, s_101_5, s_101_8, s_101_11, s_101_12, s_101_13, s_101_14, s_101_15, s_101_18, s_101_21, s_101_22, s_101_25, s_101_26, mj_lI_s, mj_lI_0, mj_lA_s, mj_lA_0, mj_sL_s, mj_sL_0, mj_s8_0, mj_s8_1, mj_s8_2, mj_s8_3, mj_bc_n, mj_bc_s, mj_bd_s, u2_eq, u2_a, u2_k, ne_eq, Nat.reduceEqDiff, not_false_eq_true, List.nil_append, List.cons_append, eq_self, true_or, or_true, if_true, if_false, false_or, or_false, not_true_eq_false, Bool.false_eq_true, ie_m1_0, ie_m1_1, ie_m1_2, ie_m1_3, ie_m1_4, ie_m1_5, ie_0_m1, ie_0_1, ie_0_2, ie_0_3, ie_0_4, ie_0_5, ie_1_m1, ie_1_0, ie_1_2, ie_1_3, ie_1_4, ie_1_5, ie_2_m1, ie_2_0, ie_2_1, ie_2_3, ie_2_4, ie_2_5, ie_3_m1, ie_3_0, ie_3_1, ie_3_2, ie_3_4, ie_3_5, ie_4_m1, ie_4_0, ie_4_1, ie_4_2, ie_4_3, ie_4_5, ie_5_m1, ie_5_0, ie_5_1, ie_5_2, ie_5_3, ie_5_4, ct_6, cv_6, ci_6_0, cp_6_0, ci_6_1, cp_6_1, ci_6_2, cp_6_2, ci_6_3, cp_6_3, ci_6_4, cp_6_4, ci_6_5, cp_6_5, ci_6_6, cp_6_6, ci_6_7, cp_6_7, h, c1, c2, c3, c4]
  · have c2 : x T 5 < x T 4 := Int32.not_le.mp c1
    simp only [s_101_0, s_101_1, s_101_4, s_101_5, s_101_8, s_101_11, s_101_12, s_101_13, s_101_14, s_101_15, s_101_18, s_101_21, s_101_22, s_101_25, s_101_26, mj_lI_s, mj_lI_0, mj_lA_s, mj_lA_0, mj_sL_s, mj_sL_0, mj_s8_0, mj_s8_1, mj_s8_2, mj_s8_3, mj_bc_n, mj_bc_s, mj_bd_s, u2_eq, u2_a, u2_k, ne_eq, Nat.reduceEqDiff, not_false_eq_true, List.nil_append, List.cons_append, eq_self, true_or, or_true, if_true, if_false, false_or, or_false, not_true_eq_false, Bool.false_eq_true, ie_m1_0, ie_m1_1, ie_m1_2, ie_m1_3, ie_m1_4, ie_m1_5, ie_0_m1, ie_0_1, ie_0_2, ie_0_3, ie_0_4, ie_0_5, ie_1_m1, ie_1_0, ie_1_2, ie_1_3, ie_1_4, ie_1_5, ie_2_m1, ie_2_0, ie_2_1, ie_2_3, ie_2_4, ie_2_5, ie_3_m1, ie_3_0, ie_3_1, ie_3_2, ie_3_4, ie_3_5, ie_4_m1, ie_4_0, ie_4_1, ie_4_2, ie_4_3, ie_4_5, ie_5_m1, ie_5_0, ie_5_1, ie_5_2, ie_5_3, ie_5_4, ct_6, cv_6, ci_6_0, cp_6_0, ci_6_1, cp_6_1, ci_6_2, cp_6_2, ci_6_3, cp_6_3, ci_6_4, cp_6_4, ci_6_5, cp_6_5, ci_6_6, cp_6_6, ci_6_7, cp_6_7, h, c1, c2]
/-- what a case may change -/
def fK (sh : Nat → Nat × Nat) (c : Nat) (x x' : Nat → Nat → Int32) (y y' : Nat → Nat → Option Nat) : Prop := (∀ a k, ¬ ((sh a).1 = 1 ∧ 8 ≤ k) → ¬ (a = 6 ∧ k ≠ 3) → a ≠ 8 → a ≠ 9 → ¬ (a = c ∧ 3 ≤ k) → x' a k = x a k) ∧ ∀ a k, a ≠ 7 → y' a k = y a k
theorem fG.fK {x x' : Nat → Nat → Int32} {y y' : Nat → Nat → Option Nat} (h : fG sh x x' y y') (c : Nat) : fK sh c x x' y y' := ⟨fun a k q1 q2 q3 q4 _ => h.1 a k q1 q2 q3 q4, h.2⟩
theorem fK.tr {c : Nat} {x x' x2 : Nat → Nat → Int32} {y y' y2 : Nat → Nat → Option Nat} (h1 : fK sh c x x' y y') (h2 : fK sh c x' x2 y' y2) : fK sh c x x2 y y2 := ⟨fun a k q1 q2 q3 q4 q5 => (h2.1 a k q1 q2 q3 q4 q5).trans (h1.1 a k q1 q2 q3 q4 q5), fun a k h => (h2.2 a k h).trans (h1.2 a k h)⟩
theorem fK.fS {c nt : Nat} {x x' : Nat → Nat → Int32} {y y' : Nat → Nat → Option Nat} (h : fK sh c x x' y y') (hc : 11 ≤ c ∧ c ≤ 90) : fS sh hT nt x x' y y' :=
  ⟨fun a k q => h.1 a k (fun z => q (Or.inl z)) (fun z => q (Or.inr (Or.inl z))) (fun z => q (Or.inr (Or.inr (Or.inr (Or.inl z))))) (fun z => q (Or.inr (Or.inr (Or.inr (Or.inr (Or.inl z)))))) (fun z => q (Or.inr (Or.inr (Or.inr (Or.inr (Or.inr (Or.inl ⟨by omega, by omega⟩))))))), fun a k q => h.2 a k (fun z => q (Or.inl z))⟩
theorem fK.run {c : Nat} {x x' : Nat → Nat → Int32} {y y' : Nat → Nat → Option Nat} (h : fK sh c x x' y y') (hU : runP n sh y) : runP n sh y' := ⟨hU.1, by rw [h.2 5 0 (by decide)]; exact hU.2.1, by rw [h.2 5 1 (by decide)]; exact hU.2.2.1, by rw [h.2 5 2 (by decide)]; exact hU.2.2.2⟩
theorem fK.ca {c t m c0 : Nat} {ps : List (Nat × Nat)} {x x' : Nat → Nat → Int32} {y y' : Nat → Nat → Option Nat} (h : fK sh c x x' y y') (hc : c0 + 1 ≠ c) (hC : caP n sh x y hT c0 t m ps) : caP n sh x' y' hT c0 t m ps := by
  obtain ⟨a1, a2, a3, a4, a5, a6, a7, a8⟩ := hC
  refine ⟨a1, a2, by rw [h.2 _ _ (by omega)]; exact a3, ?_, by rw [h.2 _ _ (by omega)]; exact a5, fun f hf => ?_, a7, a8⟩
  · rw [h.1 _ _ (fun z => a1.kd (by decide) z.1) (by omega) (by omega) (by omega) (by omega)]; exact a4
  · rw [h.1 _ _ (fun z => a2.kd (by decide) z.1) (by omega) (by omega) (by omega) (by omega)]; exact a6 f hf
/-- the closure row of a test stays -/
theorem fK.row {c t : Nat} {l : List Nat} {x x' : Nat → Nat → Int32} {y y' : Nat → Nat → Option Nat} (h : fK sh c x x' y y') (hS : suP n sh x y hF hT w nb) (ht : t < wT w) (hc : c ≤ 90) (hR : rowP n sh x y hF (wF w) (hT t + 3) (hT t + 4) 12 l) : rowP n sh x' y' hF (wF w) (hT t + 3) (hT t + 4) 12 l := by
  have h127 := hS.2.2.2.2.2.2.1 t ht
  exact hR.cong (fun k => h.1 _ _ (fun z => hR.1.1.kd (by decide) z.1) (by omega) (by omega) (by omega) (by omega)) (h.2 _ _ (by omega)) (fun k => h.2 _ _ (by omega))
/-- the log is told of the steps, the result -/
theorem rk_86e (d : Nat) {x : Nat → Nat → Int32} {y : Nat → Nat → Option Nat} {s : rs} {c t m : Nat} {ps : List (Nat × Nat)} (hS : suP n sh x y hF hT w nb) (hU : runP n sh y) (hC : caP n sh x y hT c t m ps) (ht : t < wT w) (hM : mdP n sh x y hF (wF w) s) (hl : s.2.2.length < 3492) (p a : Nat) (v4 v5 v6 : Option mj_V) :
    ∃ x', mj_Rn pg (d + 4) 86 (68, [some (.inr (some 5)), some (.inr (some c)), some (.inl (nI p)), some (.inl (nI a)), v4, v5, v6], [], bl n sh x y) = some (some (.inl (if wI w 3 t < wI w 2 t then 3 else if nI a < wI w 4 t then 2 else 1)), bl n sh x' y) ∧ mdP n sh x' y hF (wF w) (s.1, s.2.1, s.2.2 ++ [(4, nI p, nI a)]) ∧ fG sh x x' y y := by
  obtain ⟨hU0, hU1, hU2, hU3⟩ := hU
  have hlog := rk_66 (d + 2) hM.2.1 hl 4 (nI p) (nI a)
  have hlo := hM.2.1.1
  have hM1 := mdP.lg hM hS.2.1 hlog.2.1 (fun a k h8 h9 => by rw [u2_a h8, u2_a h9])
  have hG := hlog.2.2
  have hlog1 := hlog.1
  generalize (u2 (u2 x 9 s.2.2.length (pk (4, nI p, nI a))) 8 1 (nI (s.2.2.length + 1))) = x1 at hlog1 hM1 hG
  have hS1 := hS.cong (hG.fS hT _)
  have hco := hC.1
  have hc0 := hC.2.2.1
  obtain ⟨t1, t2, ⟨t3, t4, t5, t6, t7, t8⟩, t9⟩ := hS1.2.2.2.2.1 t ht
  have hTo := t2.1
  have c101 := rk_101 (x := x1) (y := y) (d + 2) hTo (nI a)
  rw [t5, t6, t7] at c101
  refine ⟨x1, ?_, hM1, hG⟩
  simp only [s_86_68, s_86_69, s_86_72, s_86_73, s_86_74, s_86_75, s_86_78, s_86_79, s_86_82, s_86_83, s_86_86, mj_lI_s, mj_lI_0, mj_lA_s, mj_lA_0, mj_sL_s, mj_sL_0, mj_s8_0, mj_s8_1, mj_s8_2, mj_s8_3, mj_bc_n, mj_bc_s, mj_bd_s, u2_eq, u2_a, u2_k, ne_eq, Nat.reduceEqDiff, not_false_eq_true, List.nil_append, List.cons_append, eq_self, true_or, or_true, if_true, if_false, false_or, or_false, not_true_eq_false, Bool.false_eq_true, ie_m1_0, ie_m1_1, ie_m1_2, ie_m1_3, ie_m1_4, ie_m1_5, ie_0_m1, ie_0_1, ie_0_2, ie_0_3, ie_0_4, ie_0_5, ie_1_m1, ie_1_0, ie_1_2, ie_1_3, ie_1_4, ie_1_5, ie_2_m1, ie_2_0, ie_2_1, ie_2_3, ie_2_4, ie_2_5, ie_3_m1, ie_3_0, ie_3_1, ie_3_2, ie_3_4, ie_3_5, ie_4_m1, ie_4_0, ie_4_1, ie_4_2, ie_4_3, ie_4_5, ie_5_m1, ie_5_0, ie_5_1, ie_5_2, ie_5_3, ie_5_4, ct_0, cv_0, ci_0_0, cp_0_0, ci_0_1, cp_0_1, ci_0_2, cp_0_2, ci_0_3, cp_0_3, ci_0_4, cp_0_4, ci_0_5, cp_0_5, ci_0_6, cp_0_6, ct_2, cv_2, ci_2_0, cp_2_0, ci_2_1, cp_2_1, ct_4, cv_4, ci_4_0, cp_4_0, ci_4_1, cp_4_1, ci_4_2, cp_4_2, ci_4_3, cp_4_3, ci_4_4, cp_4_4, ct_6, cv_6, ci_6_0, cp_6_0, ci_6_1, cp_6_1, ci_6_2, cp_6_2, ci_6_3, cp_6_3, ci_6_4, cp_6_4, ci_6_5, cp_6_5, ci_6_6, cp_6_6, ci_6_7, cp_6_7, hU0, hU2, hlo, hlog1, hco, hc0, hTo, c101]
/-- tryCase: the loop -/
theorem rk_86L (d : Nat) {c t m p a : Nat} {ps : List (Nat × Nat)} (ht : t < wT w) (hps : (ps.map Prod.fst).Nodup) (hlt : ∀ q ∈ ps, q.2 < 4) : ∀ (l : List (Nat × Nat)) (i : Nat) (s : rs) (x : Nat → Nat → Int32) (y : Nat → Nat → Option Nat) (v6 : Option mj_V) (Q : Option mj_R → Prop), i + l.length = ps.length → (∀ j g, l[j]? = some g → ps[i + j]? = some g) → suP n sh x y hF hT w nb → runP n sh y → caP n sh x y hT c t m ps → mdP n sh x y hF (wF w) s → rowP n sh x y hF (wF w) (hT t + 3) (hT t + 4) 12 (ps.map Prod.fst) → s.2.2.length + l.length < 3492 →
    (∀ f s1 x' y', sMk (wA w 1) (wI w 0) (wI w 1 t) l s = (some f, s1) → mdP n sh x' y' hF (wF w) s1 → fK sh c x x' y y' → x' c 4 = nI f → Q (some (some (.inl 4), bl n sh x' y'))) →
    (∀ s1 x' y' v6, sMk (wA w 1) (wI w 0) (wI w 1 t) l s = (none, s1) → mdP n sh x' y' hF (wF w) s1 → fG sh x x' y y' → Q (mj_Rn pg (d + 4) 86 (68, [some (.inr (some 5)), some (.inr (some c)), some (.inl (nI p)), some (.inl (nI a)), some (.inr (some (hT t + 3))), some (.inl (nI ps.length)), v6], [], bl n sh x' y'))) →
    Q (mj_Rn pg (d + 4) 86 (12, [some (.inr (some 5)), some (.inr (some c)), some (.inl (nI p)), some (.inl (nI a)), some (.inr (some (hT t + 3))), some (.inl (nI i)), v6], [], bl n sh x y)) := by
  intro l
  induction l with
  | nil =>
    intro i s x y v6 Q hi hl hS hU hC hM hR hlen hQ1 hQ2
    have h1 := hR.2.1
    rw [List.length_map] at h1
    have hrN := hR.1.1
    have h13 := hR.2.2.2.2.1
    rw [List.length_map] at h13
    have e1 : i = ps.length := by simpa using hi
    have hkc : (nI ps.length ≤ nI i) = True := eq_true (nI_le (by omega) (by omega))
    rw [s_86_12]
    simp only [s_86_14, s_86_16, s_86_19, mj_lI_s, mj_lI_0, mj_lA_s, mj_lA_0, mj_sL_s, mj_sL_0, mj_s8_0, mj_s8_1, mj_s8_2, mj_s8_3, mj_bc_n, mj_bc_s, mj_bd_s, u2_eq, u2_a, u2_k, ne_eq, Nat.reduceEqDiff, not_false_eq_true, List.nil_append, List.cons_append, eq_self, true_or, or_true, if_true, if_false, false_or, or_false, not_true_eq_false, Bool.false_eq_true, ie_m1_0, ie_m1_1, ie_m1_2, ie_m1_3, ie_m1_4, ie_m1_5, ie_0_m1, ie_0_1, ie_0_2, ie_0_3, ie_0_4, ie_0_5, ie_1_m1, ie_1_0, ie_1_2, ie_1_3, ie_1_4, ie_1_5, ie_2_m1, ie_2_0, ie_2_1, ie_2_3, ie_2_4, ie_2_5, ie_3_m1, ie_3_0, ie_3_1, ie_3_2, ie_3_4, ie_3_5, ie_4_m1, ie_4_0, ie_4_1, ie_4_2, ie_4_3, ie_4_5, ie_5_m1, ie_5_0, ie_5_1, ie_5_2, ie_5_3, ie_5_4, ct_3, cv_3, ci_3_0, cp_3_0, ci_3_1, cp_3_1, ci_3_2, cp_3_2, ci_3_3, cp_3_3, hrN, h1, hkc]
    rw [e1]
    exact hQ2 s x y v6 rfl hM (fG.rf sh x y)
  | cons g l ihl =>
    intro i s x y v6 Q hi hl hS hU hC hM hR hlen hQ1 hQ2
    obtain ⟨f, v⟩ := g
    have hX := hS.2.1
    have h1 := hR.2.1
    rw [List.length_map] at h1
    have hrN := hR.1.1
    have hqN := hR.1.2.1
    have h0 := hR.1.2.2.1
    have h13 := hR.2.2.2.2.1
    rw [List.length_map] at h13
    have hlen1 : i + (l.length + 1) = ps.length := by simpa using hi
    have hkc : (nI ps.length ≤ nI i) = False := eq_false (nI_ge (by omega) (by omega))
    have hg0 : ps[i]? = some (f, v) := by simpa using hl 0 (f, v) rfl
    have hmem : (f, v) ∈ ps := List.mem_of_getElem? hg0
    have hg1 : y (hT t + 4) i = some (hF f) := hR.2.2.2.2.2.2 i f (by rw [List.getElem?_map, hg0]; rfl)
    have hfn : f < wF w := hR.2.2.2.2.2.1 f (List.mem_map.mpr ⟨(f, v), hmem, rfl⟩)
    have ho := (hX.2.1 f hfn).1
    have hi12 : i < 12 := by omega
    have hv := gv_mem hps hmem
    have hv4 : v < 4 := hlt (f, v) hmem
    obtain ⟨hU0, hU1, hU2, hU3⟩ := id hU
    have h6o := hM.1.1.1
    have hco := hC.1
    have c69 := rk_69 (d + 2) hM.1 hX hfn
    have c10 : ¬ ((1 : Int32) = 0) := by decide
    have hl' : ∀ j g', l[j]? = some g' → ps[i + 1 + j]? = some g' := fun j g' hj => by
      have := hl (j + 1) g' (by rw [List.getElem?_cons_succ]; exact hj)
      rw [show i + 1 + j = i + (j + 1) by omega]
      exact this
    have hlen2 : s.2.2.length + (l.length + 1) < 3492 := by simpa using hlen
    rw [s_86_12]
    by_cases c1 : f ∈ s.1
    · rw [if_pos c1] at c69
      have e1 : sMk (wA w 1) (wI w 0) (wI w 1 t) ((f, v) :: l) s = sMk (wA w 1) (wI w 0) (wI w 1 t) l s := if_pos c1
      rw [e1] at hQ1 hQ2
      simp only [s_86_14, s_86_16, s_86_19, s_86_22, s_86_24, s_86_27, s_86_29, s_86_30, s_86_32, s_86_33, s_86_36, s_86_38, s_86_41, s_86_44, s_86_45, s_86_47, s_86_48, s_86_51, s_86_54, s_86_55, s_86_57, s_86_60, s_86_61, s_86_62, s_86_65, mj_lI_s, mj_lI_0, mj_lA_s, mj_lA_0, mj_sL_s, mj_sL_0, mj_s8_0, mj_s8_1, mj_s8_2, mj_s8_3, mj_bc_n, mj_bc_s, mj_bd_s, u2_eq, u2_a, u2_k, ne_eq, Nat.reduceEqDiff, not_false_eq_true, List.nil_append, List.cons_append, eq_self, true_or, or_true, if_true, if_false, false_or, or_false, not_true_eq_false, Bool.false_eq_true, ie_m1_0, ie_m1_1, ie_m1_2, ie_m1_3, ie_m1_4, ie_m1_5, ie_0_m1, ie_0_1, ie_0_2, ie_0_3, ie_0_4, ie_0_5, ie_1_m1, ie_1_0, ie_1_2, ie_1_3, ie_1_4, ie_1_5, ie_2_m1, ie_2_0, ie_2_1, ie_2_3, ie_2_4, ie_2_5, ie_3_m1, ie_3_0, ie_3_1, ie_3_2, ie_3_4, ie_3_5, ie_4_m1, ie_4_0, ie_4_1, ie_4_2, ie_4_3, ie_4_5, ie_5_m1, ie_5_0, ie_5_1, ie_5_2, ie_5_3, ie_5_4, ct_1, cv_1, ci_1_0, cp_1_0, ci_1_1, cp_1_1, ci_1_2, cp_1_2, ci_1_3, cp_1_3, ci_1_4, cp_1_4, ci_1_5, cp_1_5, ci_1_6, cp_1_6, ci_1_7, cp_1_7, ci_1_8, cp_1_8, ci_1_9, cp_1_9, ci_1_10, cp_1_10, ci_1_11, cp_1_11, ci_1_12, cp_1_12, ci_1_13, cp_1_13, ci_1_14, cp_1_14, ct_3, cv_3, ci_3_0, cp_3_0, ci_3_1, cp_3_1, ci_3_2, cp_3_2, ci_3_3, cp_3_3, ct_4, cv_4, ci_4_0, cp_4_0, ci_4_1, cp_4_1, ci_4_2, cp_4_2, ci_4_3, cp_4_3, ci_4_4, cp_4_4, hrN, h1, hkc, h0, xr_102 hqN hi12 (by decide), hg1, hU0, hU1, h6o, c69, c10, nI_1]
      exact ihl (i + 1) s x y _ Q (by omega) hl' hS hU hC hM hR (by omega) hQ1 hQ2
    rw [if_neg c1] at c69
    obtain ⟨x1, y1, p1, p2, p3⟩ := rk_87 d hS hU hC ht hM hfn c1 hv (by omega) (by omega)
    have h01 : x1 (hF f) 0 = nI f := by rw [p3.1 _ _ (fun z => absurd z.2 (by decide)) (fun z => ob_ne ho h6o (by decide) z.1) (ob_ne ho hM.2.1.1 (by decide)) (ob_ne ho hM.2.1.2.1 (by decide))]; exact (hX.2.1 f hfn).2.1
    have fail : ∀ s1, sMk (wA w 1) (wI w 0) (wI w 1 t) ((f, v) :: l) s = (some f, s1) → mdP n sh x1 y1 hF (wF w) s1 → mj_Cl pg (d + 3) 87 [.inr (some 5), .inr (some (hF f)), .inr (some c)] (bl n sh x y) = some (some (.inl 0), bl n sh x1 y1) → Q (mj_Rn pg (d + 4) 86 (14, [some (.inr (some 5)), some (.inr (some c)), some (.inl (nI p)), some (.inl (nI a)), some (.inr (some (hT t + 3))), some (.inl (nI i)), v6], [.inl (nI i)], bl n sh x y)) := fun s1 hs1 hm1 hcl => by
      have c50 : mj_Cl pg (d + 3) 50 [.inr (some c), .inr (some (hF f))] (bl n sh x1 y1) = some (none, bl n sh (u2 x1 c 4 (nI f)) y1) := by
        rw [e_50]
        simp only [s_50_0, s_50_1, s_50_2, s_50_5, s_50_8, mj_lI_s, mj_lI_0, mj_lA_s, mj_lA_0, mj_sL_s, mj_sL_0, mj_s8_0, mj_s8_1, mj_s8_2, mj_s8_3, mj_bc_n, mj_bc_s, mj_bd_s, u2_eq, u2_a, u2_k, ne_eq, Nat.reduceEqDiff, not_false_eq_true, List.nil_append, List.cons_append, eq_self, true_or, or_true, if_true, if_false, false_or, or_false, not_true_eq_false, Bool.false_eq_true, ie_m1_0, ie_m1_1, ie_m1_2, ie_m1_3, ie_m1_4, ie_m1_5, ie_0_m1, ie_0_1, ie_0_2, ie_0_3, ie_0_4, ie_0_5, ie_1_m1, ie_1_0, ie_1_2, ie_1_3, ie_1_4, ie_1_5, ie_2_m1, ie_2_0, ie_2_1, ie_2_3, ie_2_4, ie_2_5, ie_3_m1, ie_3_0, ie_3_1, ie_3_2, ie_3_4, ie_3_5, ie_4_m1, ie_4_0, ie_4_1, ie_4_2, ie_4_3, ie_4_5, ie_5_m1, ie_5_0, ie_5_1, ie_5_2, ie_5_3, ie_5_4, ct_0, cv_0, ci_0_0, cp_0_0, ci_0_1, cp_0_1, ci_0_2, cp_0_2, ci_0_3, cp_0_3, ci_0_4, cp_0_4, ci_0_5, cp_0_5, ci_0_6, cp_0_6, ct_1, cv_1, ci_1_0, cp_1_0, ci_1_1, cp_1_1, ci_1_2, cp_1_2, ci_1_3, cp_1_3, ci_1_4, cp_1_4, ci_1_5, cp_1_5, ci_1_6, cp_1_6, ci_1_7, cp_1_7, ci_1_8, cp_1_8, ci_1_9, cp_1_9, ci_1_10, cp_1_10, ci_1_11, cp_1_11, ci_1_12, cp_1_12, ci_1_13, cp_1_13, ci_1_14, cp_1_14, hco, ho, h01]
      simp only [s_86_14, s_86_16, s_86_19, s_86_22, s_86_24, s_86_27, s_86_29, s_86_30, s_86_32, s_86_33, s_86_36, s_86_38, s_86_41, s_86_44, s_86_45, s_86_47, s_86_48, s_86_51, s_86_54, s_86_55, s_86_57, s_86_60, s_86_61, s_86_62, s_86_65, mj_lI_s, mj_lI_0, mj_lA_s, mj_lA_0, mj_sL_s, mj_sL_0, mj_s8_0, mj_s8_1, mj_s8_2, mj_s8_3, mj_bc_n, mj_bc_s, mj_bd_s, u2_eq, u2_a, u2_k, ne_eq, Nat.reduceEqDiff, not_false_eq_true, List.nil_append, List.cons_append, eq_self, true_or, or_true, if_true, if_false, false_or, or_false, not_true_eq_false, Bool.false_eq_true, ie_m1_0, ie_m1_1, ie_m1_2, ie_m1_3, ie_m1_4, ie_m1_5, ie_0_m1, ie_0_1, ie_0_2, ie_0_3, ie_0_4, ie_0_5, ie_1_m1, ie_1_0, ie_1_2, ie_1_3, ie_1_4, ie_1_5, ie_2_m1, ie_2_0, ie_2_1, ie_2_3, ie_2_4, ie_2_5, ie_3_m1, ie_3_0, ie_3_1, ie_3_2, ie_3_4, ie_3_5, ie_4_m1, ie_4_0, ie_4_1, ie_4_2, ie_4_3, ie_4_5, ie_5_m1, ie_5_0, ie_5_1, ie_5_2, ie_5_3, ie_5_4, ct_0, cv_0, ci_0_0, cp_0_0, ci_0_1, cp_0_1, ci_0_2, cp_0_2, ci_0_3, cp_0_3, ci_0_4, cp_0_4, ci_0_5, cp_0_5, ci_0_6, cp_0_6, ct_1, cv_1, ci_1_0, cp_1_0, ci_1_1, cp_1_1, ci_1_2, cp_1_2, ci_1_3, cp_1_3, ci_1_4, cp_1_4, ci_1_5, cp_1_5, ci_1_6, cp_1_6, ci_1_7, cp_1_7, ci_1_8, cp_1_8, ci_1_9, cp_1_9, ci_1_10, cp_1_10, ci_1_11, cp_1_11, ci_1_12, cp_1_12, ci_1_13, cp_1_13, ci_1_14, cp_1_14, ct_3, cv_3, ci_3_0, cp_3_0, ci_3_1, cp_3_1, ci_3_2, cp_3_2, ci_3_3, cp_3_3, ct_4, cv_4, ci_4_0, cp_4_0, ci_4_1, cp_4_1, ci_4_2, cp_4_2, ci_4_3, cp_4_3, ci_4_4, cp_4_4, hrN, h1, hkc, h0, xr_102 hqN hi12 (by decide), hg1, hU0, hU1, h6o, c69, hcl, hco, c50]
      have n6 : (6 : Nat) ≠ c := by have := hC.2.2.2.2.2.2.1; omega
      have hcn : 11 ≤ c := hC.2.2.2.2.2.2.1
      refine hQ1 f s1 _ y1 hs1 ⟨hm1.1.cong (fun k => u2_a n6) rfl (fun _ => rfl), hm1.2.1.cong (fun k => ⟨u2_a (by omega), u2_a (by omega)⟩) rfl, fun g hg => ?_⟩ ⟨fun b k q1 q2 q3 q4 q5 => ?_, p3.2⟩ (u2_eq _ _ _ _)
      · have : hF g ≠ c := ob_ne (hX.2.1 g hg).1 hco (by decide)
        simp only [u2_a this]
        exact hm1.2.2 g hg
      · rw [u2_ne (fun z => q5 ⟨z.1, by omega⟩)]
        exact p3.1 b k q1 q2 q3 q4
    have e2 : sMk (wA w 1) (wI w 0) (wI w 1 t) ((f, v) :: l) s = if bt (s.2.1 f 10) v = true then (some f, s) else if wA w 1 f = 1 then (some f, sM0 (wI w 0) (wI w 1 t) s f v) else sMk (wA w 1) (wI w 0) (wI w 1 t) l (sM1 (wI w 1 t) s f v) := if_neg c1
    by_cases c2 : bt (s.2.1 f 10) v = true
    · simp only [if_pos c2] at p1 p2 e2
      have := fail s e2 p2 p1
      simp only [mj_lI_s, mj_lI_0, mj_lA_s, mj_lA_0, mj_sL_s, mj_sL_0, mj_s8_0, mj_s8_1, mj_s8_2, mj_s8_3, mj_bc_n, mj_bc_s, mj_bd_s, u2_eq, u2_a, u2_k, ne_eq, Nat.reduceEqDiff, not_false_eq_true, List.nil_append, List.cons_append, eq_self, true_or, or_true, if_true, if_false, false_or, or_false, not_true_eq_false, Bool.false_eq_true, ie_m1_0, ie_m1_1, ie_m1_2, ie_m1_3, ie_m1_4, ie_m1_5, ie_0_m1, ie_0_1, ie_0_2, ie_0_3, ie_0_4, ie_0_5, ie_1_m1, ie_1_0, ie_1_2, ie_1_3, ie_1_4, ie_1_5, ie_2_m1, ie_2_0, ie_2_1, ie_2_3, ie_2_4, ie_2_5, ie_3_m1, ie_3_0, ie_3_1, ie_3_2, ie_3_4, ie_3_5, ie_4_m1, ie_4_0, ie_4_1, ie_4_2, ie_4_3, ie_4_5, ie_5_m1, ie_5_0, ie_5_1, ie_5_2, ie_5_3, ie_5_4]
      exact this
    by_cases c3 : wA w 1 f = 1
    · simp only [if_neg c2, if_pos c3] at p1 p2 e2
      have := fail _ e2 p2 p1
      simp only [mj_lI_s, mj_lI_0, mj_lA_s, mj_lA_0, mj_sL_s, mj_sL_0, mj_s8_0, mj_s8_1, mj_s8_2, mj_s8_3, mj_bc_n, mj_bc_s, mj_bd_s, u2_eq, u2_a, u2_k, ne_eq, Nat.reduceEqDiff, not_false_eq_true, List.nil_append, List.cons_append, eq_self, true_or, or_true, if_true, if_false, false_or, or_false, not_true_eq_false, Bool.false_eq_true, ie_m1_0, ie_m1_1, ie_m1_2, ie_m1_3, ie_m1_4, ie_m1_5, ie_0_m1, ie_0_1, ie_0_2, ie_0_3, ie_0_4, ie_0_5, ie_1_m1, ie_1_0, ie_1_2, ie_1_3, ie_1_4, ie_1_5, ie_2_m1, ie_2_0, ie_2_1, ie_2_3, ie_2_4, ie_2_5, ie_3_m1, ie_3_0, ie_3_1, ie_3_2, ie_3_4, ie_3_5, ie_4_m1, ie_4_0, ie_4_1, ie_4_2, ie_4_3, ie_4_5, ie_5_m1, ie_5_0, ie_5_1, ie_5_2, ie_5_3, ie_5_4]
      exact this
    · simp only [if_neg c2, if_neg c3] at p1 p2 e2
      rw [e2] at hQ1 hQ2
      simp only [s_86_14, s_86_16, s_86_19, s_86_22, s_86_24, s_86_27, s_86_29, s_86_30, s_86_32, s_86_33, s_86_36, s_86_38, s_86_41, s_86_44, s_86_45, s_86_47, s_86_48, s_86_51, s_86_54, s_86_55, s_86_57, s_86_60, s_86_61, s_86_62, s_86_65, mj_lI_s, mj_lI_0, mj_lA_s, mj_lA_0, mj_sL_s, mj_sL_0, mj_s8_0, mj_s8_1, mj_s8_2, mj_s8_3, mj_bc_n, mj_bc_s, mj_bd_s, u2_eq, u2_a, u2_k, ne_eq, Nat.reduceEqDiff, not_false_eq_true, List.nil_append, List.cons_append, eq_self, true_or, or_true, if_true, if_false, false_or, or_false, not_true_eq_false, Bool.false_eq_true, ie_m1_0, ie_m1_1, ie_m1_2, ie_m1_3, ie_m1_4, ie_m1_5, ie_0_m1, ie_0_1, ie_0_2, ie_0_3, ie_0_4, ie_0_5, ie_1_m1, ie_1_0, ie_1_2, ie_1_3, ie_1_4, ie_1_5, ie_2_m1, ie_2_0, ie_2_1, ie_2_3, ie_2_4, ie_2_5, ie_3_m1, ie_3_0, ie_3_1, ie_3_2, ie_3_4, ie_3_5, ie_4_m1, ie_4_0, ie_4_1, ie_4_2, ie_4_3, ie_4_5, ie_5_m1, ie_5_0, ie_5_1, ie_5_2, ie_5_3, ie_5_4, ct_0, cv_0, ci_0_0, cp_0_0, ci_0_1, cp_0_1, ci_0_2, cp_0_2, ci_0_3, cp_0_3, ci_0_4, cp_0_4, ci_0_5, cp_0_5, ci_0_6, cp_0_6, ct_1, cv_1, ci_1_0, cp_1_0, ci_1_1, cp_1_1, ci_1_2, cp_1_2, ci_1_3, cp_1_3, ci_1_4, cp_1_4, ci_1_5, cp_1_5, ci_1_6, cp_1_6, ci_1_7, cp_1_7, ci_1_8, cp_1_8, ci_1_9, cp_1_9, ci_1_10, cp_1_10, ci_1_11, cp_1_11, ci_1_12, cp_1_12, ci_1_13, cp_1_13, ci_1_14, cp_1_14, ct_3, cv_3, ci_3_0, cp_3_0, ci_3_1, cp_3_1, ci_3_2, cp_3_2, ci_3_3, cp_3_3, ct_4, cv_4, ci_4_0, cp_4_0, ci_4_1, cp_4_1, ci_4_2, cp_4_2, ci_4_3, cp_4_3, ci_4_4, cp_4_4, hrN, h1, hkc, h0, xr_102 hqN hi12 (by decide), hg1, hU0, hU1, h6o, c69, p1, c10, hco, nI_1]
      refine ihl (i + 1) _ x1 y1 _ Q (by omega) hl' (hS.cong (p3.fS hT _)) (p3.run hU) (p3.ca hC) p2 ((p3.fK c).row hS ht (by have := hC.2.2.2.2.2.2.2; omega) hR) ?_ (fun f s1 x' y' r1 r2 r3 r4 => hQ1 f s1 x' y' r1 r2 ((p3.fK c).tr r3) r4) (fun s1 x' y' v6 r1 r2 r3 => hQ2 s1 x' y' v6 r1 r2 (p3.tr r3))
      show (s.2.2 ++ [(0, nI f, nI v)]).length + l.length < 3492
      rw [List.length_append]
      simp
      omega
end TR
