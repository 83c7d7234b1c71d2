/-! the next case is found and brought forward -/
def caS (n : Nat) (sh : Nat → Nat × Nat) (y : Nat → Nat → Option Nat) (cc : Nat → Nat) : Prop := ob n sh 10 101 40 ∧ (∀ p, p < 40 → y 10 p = some (cc p) ∧ cc p % 2 = 1 ∧ 11 ≤ cc p ∧ cc p ≤ 89 ∧ ob n sh (cc p) 0 7 ∧ ob n sh (cc p + 1) 100 12 ∧ y (cc p) 2 = some (cc p + 1)) ∧ ∀ p r, p < 40 → r < 40 → cc p = cc r → p = r
theorem caS.cong {n : Nat} {sh : Nat → Nat × Nat} {y y' : Nat → Nat → Option Nat} {cc : Nat → Nat} (h : caS n sh y cc) (h1 : ∀ k, y' 10 k = y 10 k) (h2 : ∀ a, 11 ≤ a → a ≤ 89 → y' a 2 = y a 2) : caS n sh y' cc :=
  ⟨h.1, fun p hp => by
    obtain ⟨a1, a2, a3, a4, a5, a6, a7⟩ := h.2.1 p hp
    exact ⟨by rw [h1]; exact a1, a2, a3, a4, a5, a6, by rw [h2 _ a3 a4]; exact a7⟩, h.2.2⟩
def sg (a b p : Nat) : Nat := if p = b then a else if b < p ∧ p ≤ a then p - 1 else p
theorem sg_inj {a b p r : Nat} (hab : b ≤ a) (h : sg a b p = sg a b r) : p = r := by
  unfold sg at h
  by_cases c1 : p = b
  · rw [if_pos c1] at h
    by_cases c2 : r = b
    · omega
    · rw [if_neg c2] at h
      by_cases c3 : b < r ∧ r ≤ a
      · rw [if_pos c3] at h; omega
      · rw [if_neg c3] at h; omega
  · rw [if_neg c1] at h
    by_cases c2 : r = b
    · rw [if_pos c2] at h
      by_cases c3 : b < p ∧ p ≤ a
      · rw [if_pos c3] at h; omega
      · rw [if_neg c3] at h; omega
    · rw [if_neg c2] at h
      by_cases c3 : b < p ∧ p ≤ a
      · rw [if_pos c3] at h
        by_cases c4 : b < r ∧ r ≤ a
        · rw [if_pos c4] at h; omega
        · rw [if_neg c4] at h; omega
      · rw [if_neg c3] at h
        by_cases c4 : b < r ∧ r ≤ a
        · rw [if_pos c4] at h; omega
        · rw [if_neg c4] at h; omega
theorem sg_lt {a b p : Nat} (ha : a < 40) (hp : p < 40) : sg a b p < 40 := by
  unfold sg
  by_cases c1 : p = b
  · rw [if_pos c1]; exact ha
  · rw [if_neg c1]
    by_cases c3 : b < p ∧ p ≤ a
    · rw [if_pos c3]; omega
    · rw [if_neg c3]; exact hp
section PK
variable {n : Nat} {sh : Nat → Nat × Nat} {x : Nat → Nat → Int32} {hF hT : Nat → Nat} {w : sW} {nb : Nat → Nat → Bool}
/-- bringForward -/
theorem rk_82 (d : Nat) {y : Nat → Nat → Option Nat} {cc : Nat → Nat} {a b : Nat} (hU : runP n sh y) (hc : caS n sh y cc) (hab : b ≤ a) (ha : a < 40) : ∃ y', mj_Cl pg (d + 1) 82 [.inr (some 5), .inl (nI a), .inl (nI b)] (bl n sh x y) = some (none, bl n sh x y') ∧ caS n sh y' (fun p => cc (sg a b p)) ∧ ∀ e k, e ≠ 10 → y' e k = y e k := by
  obtain ⟨hU0, hU1, hU2, hU3⟩ := id hU
  have h10 := hc.1
  have loop : ∀ (j i : Nat) (y : Nat → Nat → Option Nat) (v3 : Option mj_V) (Q : Option mj_R → Prop), i = b + j → i < 40 → y 5 2 = some 10 → (∀ p, p < 40 → ∃ g, y 10 p = some g ∧ ob n sh g 0 7) →
      (∀ y' : Nat → Nat → Option Nat, (∀ e k, y' e k = if e = 10 ∧ b < k ∧ k ≤ i then y 10 (k - 1) else y e k) → Q (mj_Rn pg (d + 1) 82 (38, [some (.inr (some 5)), some (.inl (nI a)), some (.inl (nI b)), v3, some (.inl (nI b))], [], bl n sh x y'))) →
      Q (mj_Rn pg (d + 1) 82 (10, [some (.inr (some 5)), some (.inl (nI a)), some (.inl (nI b)), v3, some (.inl (nI i))], [], bl n sh x y)) := by
    intro j
    induction j with
    | zero =>
      intro i y v3 Q hi hi40 h5 hg hQ
      have hkc : (nI i ≤ nI b) = True := eq_true (nI_le (by omega) (by omega))
      rw [s_82_10]
      simp only [s_82_12, s_82_13, mj_lI_s, mj_lI_0, mj_lA_s, mj_lA_0, mj_sL_s, mj_sL_0, mj_s8_0, mj_s8_1, mj_s8_2, mj_s8_3, mj_bc_n, mj_bc_s, mj_bd_s, u2_eq, u2_a, u2_k, ne_eq, Nat.reduceEqDiff, not_false_eq_true, List.nil_append, List.cons_append, eq_self, true_or, or_true, if_true, if_false, false_or, or_false, not_true_eq_false, Bool.false_eq_true, ie_m1_0, ie_m1_1, ie_m1_2, ie_m1_3, ie_m1_4, ie_m1_5, ie_0_m1, ie_0_1, ie_0_2, ie_0_3, ie_0_4, ie_0_5, ie_1_m1, ie_1_0, ie_1_2, ie_1_3, ie_1_4, ie_1_5, ie_2_m1, ie_2_0, ie_2_1, ie_2_3, ie_2_4, ie_2_5, ie_3_m1, ie_3_0, ie_3_1, ie_3_2, ie_3_4, ie_3_5, ie_4_m1, ie_4_0, ie_4_1, ie_4_2, ie_4_3, ie_4_5, ie_5_m1, ie_5_0, ie_5_1, ie_5_2, ie_5_3, ie_5_4, hkc]
      have e1 : i = b := by omega
      subst e1
      exact hQ y (fun e k => by rw [if_neg (by omega)])
    | succ j ih =>
      intro i y v3 Q hi hi40 h5 hg hQ
      obtain ⟨i, rfl⟩ : ∃ i', i = i' + 1 := ⟨i - 1, by omega⟩
      have hkc : (nI (i + 1) ≤ nI b) = False := eq_false (nI_ge (by omega) (by omega))
      have hi1 : i < 40 := by omega
      obtain ⟨g, g1, g2⟩ := hg i hi1
      rw [s_82_10]
      simp only [s_82_12, s_82_13, s_82_16, s_82_17, s_82_20, s_82_22, s_82_23, s_82_26, s_82_28, s_82_29, s_82_30, s_82_31, s_82_32, s_82_35, mj_lI_s, mj_lI_0, mj_lA_s, mj_lA_0, mj_sL_s, mj_sL_0, mj_s8_0, mj_s8_1, mj_s8_2, mj_s8_3, mj_bc_n, mj_bc_s, mj_bd_s, u2_eq, u2_a, u2_k, ne_eq, Nat.reduceEqDiff, not_false_eq_true, List.nil_append, List.cons_append, eq_self, true_or, or_true, if_true, if_false, false_or, or_false, not_true_eq_false, Bool.false_eq_true, ie_m1_0, ie_m1_1, ie_m1_2, ie_m1_3, ie_m1_4, ie_m1_5, ie_0_m1, ie_0_1, ie_0_2, ie_0_3, ie_0_4, ie_0_5, ie_1_m1, ie_1_0, ie_1_2, ie_1_3, ie_1_4, ie_1_5, ie_2_m1, ie_2_0, ie_2_1, ie_2_3, ie_2_4, ie_2_5, ie_3_m1, ie_3_0, ie_3_1, ie_3_2, ie_3_4, ie_3_5, ie_4_m1, ie_4_0, ie_4_1, ie_4_2, ie_4_3, ie_4_5, ie_5_m1, ie_5_0, ie_5_1, ie_5_2, ie_5_3, ie_5_4, ct_0, cv_0, ci_0_0, cp_0_0, ci_0_1, cp_0_1, ci_0_2, cp_0_2, ci_0_3, cp_0_3, ci_0_4, cp_0_4, ci_0_5, cp_0_5, ci_0_6, cp_0_6, ct_4, cv_4, ci_4_0, cp_4_0, ci_4_1, cp_4_1, ci_4_2, cp_4_2, ci_4_3, cp_4_3, ci_4_4, cp_4_4, hkc, hU0, h5, nI_dec', nI_dec, xr_101 h10 hi1 (by decide), g1, g2, xq_101 h10 hi40 (by decide)]
      refine ih i _ v3 Q (by omega) (by omega) (by rw [u2_a (by decide)]; exact h5) (fun p hp => ?_) (fun y' hy => hQ y' (fun e k => ?_))
      · by_cases e : p = i + 1
        · subst e; exact ⟨g, by rw [u2_eq], g2⟩
        · rw [u2_k e]; exact hg p hp
      · rw [hy e k]
        by_cases ee : e = 10
        · subst ee
          by_cases ek : k = i + 1
          · subst ek
            rw [if_neg (by omega), u2_eq, if_pos ⟨rfl, by omega, by omega⟩, Nat.add_sub_cancel, g1]
          · by_cases c1 : b < k ∧ k ≤ i
            · rw [if_pos ⟨rfl, c1⟩, u2_k (by omega), if_pos ⟨rfl, by omega, by omega⟩]
            · rw [if_neg (fun z => c1 z.2), u2_k ek, if_neg (fun z => c1 ⟨z.2.1, by omega⟩)]
        · rw [if_neg (fun z => ee z.1), if_neg (fun z => ee z.1), u2_a ee]
  obtain ⟨k1, k2, k3, k4, k5, k6, k7⟩ := hc.2.1 a ha
  have hb : b < 40 := by omega
  rw [e_82]
  simp only [s_82_0, s_82_1, s_82_4, s_82_5, s_82_6, s_82_7, s_82_8, mj_lI_s, mj_lI_0, mj_lA_s, mj_lA_0, mj_sL_s, mj_sL_0, mj_s8_0, mj_s8_1, mj_s8_2, mj_s8_3, mj_bc_n, mj_bc_s, mj_bd_s, u2_eq, u2_a, u2_k, ne_eq, Nat.reduceEqDiff, not_false_eq_true, List.nil_append, List.cons_append, eq_self, true_or, or_true, if_true, if_false, false_or, or_false, not_true_eq_false, Bool.false_eq_true, ie_m1_0, ie_m1_1, ie_m1_2, ie_m1_3, ie_m1_4, ie_m1_5, ie_0_m1, ie_0_1, ie_0_2, ie_0_3, ie_0_4, ie_0_5, ie_1_m1, ie_1_0, ie_1_2, ie_1_3, ie_1_4, ie_1_5, ie_2_m1, ie_2_0, ie_2_1, ie_2_3, ie_2_4, ie_2_5, ie_3_m1, ie_3_0, ie_3_1, ie_3_2, ie_3_4, ie_3_5, ie_4_m1, ie_4_0, ie_4_1, ie_4_2, ie_4_3, ie_4_5, ie_5_m1, ie_5_0, ie_5_1, ie_5_2, ie_5_3, ie_5_4, ct_4, cv_4, ci_4_0, cp_4_0, ci_4_1, cp_4_1, ci_4_2, cp_4_2, ci_4_3, cp_4_3, ci_4_4, cp_4_4, hU0, hU3, xr_101 h10 ha (by decide), k1]
  refine loop (a - b) a y _ (fun r => ∃ y', r = some (none, bl n sh x y') ∧ caS n sh y' (fun p => cc (sg a b p)) ∧ ∀ e k, e ≠ 10 → y' e k = y e k) (by omega) ha hU3 (fun p hp => ⟨_, (hc.2.1 p hp).1, (hc.2.1 p hp).2.2.2.2.1⟩) (fun y' hy => ?_)
  have hy5 : y' 5 2 = some 10 := by rw [hy 5 2, if_neg (fun z => absurd z.1 (by decide))]; exact hU3
  refine ⟨u2 y' 10 b (some (cc a)), ?_, ⟨h10, fun p hp => ?_, fun p r hp hr h => ?_⟩, fun e k h => ?_⟩
  · simp only [s_82_38, s_82_39, s_82_42, s_82_43, s_82_44, s_82_45, mj_lI_s, mj_lI_0, mj_lA_s, mj_lA_0, mj_sL_s, mj_sL_0, mj_s8_0, mj_s8_1, mj_s8_2, mj_s8_3, mj_bc_n, mj_bc_s, mj_bd_s, u2_eq, u2_a, u2_k, ne_eq, Nat.reduceEqDiff, not_false_eq_true, List.nil_append, List.cons_append, eq_self, true_or, or_true, if_true, if_false, false_or, or_false, not_true_eq_false, Bool.false_eq_true, ie_m1_0, ie_m1_1, ie_m1_2, ie_m1_3, ie_m1_4, ie_m1_5, ie_0_m1, ie_0_1, ie_0_2, ie_0_3, ie_0_4, ie_0_5, ie_1_m1, ie_1_0, ie_1_2, ie_1_3, ie_1_4, ie_1_5, ie_2_m1, ie_2_0, ie_2_1, ie_2_3, ie_2_4, ie_2_5, ie_3_m1, ie_3_0, ie_3_1, ie_3_2, ie_3_4, ie_3_5, ie_4_m1, ie_4_0, ie_4_1, ie_4_2, ie_4_3, ie_4_5, ie_5_m1, ie_5_0, ie_5_1, ie_5_2, ie_5_3, ie_5_4, ct_0, cv_0, ci_0_0, cp_0_0, ci_0_1, cp_0_1, ci_0_2, cp_0_2, ci_0_3, cp_0_3, ci_0_4, cp_0_4, ci_0_5, cp_0_5, ci_0_6, cp_0_6, ct_4, cv_4, ci_4_0, cp_4_0, ci_4_1, cp_4_1, ci_4_2, cp_4_2, ci_4_3, cp_4_3, ci_4_4, cp_4_4, hU0, hy5, k5, xq_101 h10 hb (by decide)]
  · obtain ⟨m1, m2, m3, m4, m5, m6, m7⟩ := hc.2.1 (sg a b p) (sg_lt ha hp)
    refine ⟨?_, m2, m3, m4, m5, m6, ?_⟩
    · show u2 y' 10 b (some (cc a)) 10 p = some (cc (sg a b p))
      unfold sg at m1 ⊢
      by_cases c1 : p = b
      · subst c1; rw [if_pos rfl, u2_eq]
      · rw [u2_k c1, hy 10 p, if_neg c1]
        rw [if_neg c1] at m1
        by_cases c2 : b < p ∧ p ≤ a
        · rw [if_pos ⟨rfl, c2⟩, if_pos c2]
          rw [if_pos c2] at m1
          exact m1
        · rw [if_neg (fun z => c2 z.2), if_neg c2]
          rw [if_neg c2] at m1
          exact m1
    · show u2 y' 10 b (some (cc a)) (cc (sg a b p)) 2 = some (cc (sg a b p) + 1)
      rw [u2_a (by omega), hy _ 2, if_neg (fun z => by omega)]; exact m7
  · exact sg_inj hab (hc.2.2 _ _ (sg_lt ha hp) (sg_lt ha hr) h)
  · rw [u2_a h, hy e k, if_neg (fun z => h z.1)]
/-- placeOfFewestUnmade -/
theorem rk_80 (d : Nat) {y : Nat → Nat → Option Nat} {cc : Nat → Nat} {q0 : Nat} {g : Nat × Nat → Nat} {R : List (Nat × Nat)} (hU : runP n sh y) (hc : caS n sh y cc) (hR : R ≠ []) (h40 : q0 + R.length ≤ 40) (hcn : x 5 3 = nI (q0 + R.length)) (h81 : ∀ j c, R[j]? = some c → mj_Cl pg (d + 3) 81 [.inr (some 5), .inr (some (cc (q0 + j)))] (bl n sh x y) = some (some (.inl (nI (g c))), bl n sh x y)) (hg12 : ∀ c ∈ R, g c ≤ 12) :
    ∃ A c B, R = A ++ c :: B ∧ R.foldl (bst g) none = some c ∧ mj_Cl pg (d + 4) 80 [.inr (some 5), .inl (nI q0)] (bl n sh x y) = some (some (.inl (nI (q0 + A.length))), bl n sh x y) := by
  obtain ⟨hU0, hU1, hU2, hU3⟩ := id hU
  have h10 := hc.1
  have loop : ∀ (l A : List (Nat × Nat)) (c : Nat × Nat) (B : List (Nat × Nat)) (v5 : Option mj_V), (A ++ c :: B) ++ l = R → (A ++ c :: B).foldl (bst g) none = some c →
      ∃ A' c' B', R = A' ++ c' :: B' ∧ R.foldl (bst g) none = some c' ∧ mj_Rn pg (d + 4) 80 (8, [some (.inr (some 5)), some (.inl (nI q0)), some (.inl (nI (q0 + A.length))), some (.inl (nI (g c))), some (.inl (nI (q0 + (A ++ c :: B).length))), v5], [], bl n sh x y) = some (some (.inl (nI (q0 + A'.length))), bl n sh x y) := by
    intro l
    induction l with
    | nil =>
      intro A c B v5 hl hb
      rw [List.append_nil] at hl
      refine ⟨A, c, B, hl.symm, by rw [← hl]; exact hb, ?_⟩
      rw [hl]
      have hkc : (nI (q0 + R.length) ≤ nI (q0 + R.length)) = True := eq_true (nI_le (by omega) (by omega))
      rw [s_80_8]
      simp only [s_80_10, s_80_11, s_80_14, s_80_17, s_80_18, s_80_19, s_80_22, s_80_24, s_80_25, s_80_28, s_80_30, s_80_32, s_80_33, s_80_36, s_80_38, s_80_39, s_80_41, s_80_42, s_80_45, s_80_48, s_80_49, mj_lI_s, mj_lI_0, mj_lA_s, mj_lA_0, mj_sL_s, mj_sL_0, mj_s8_0, mj_s8_1, mj_s8_2, mj_s8_3, mj_bc_n, mj_bc_s, mj_bd_s, u2_eq, u2_a, u2_k, ne_eq, Nat.reduceEqDiff, not_false_eq_true, List.nil_append, List.cons_append, eq_self, true_or, or_true, if_true, if_false, false_or, or_false, not_true_eq_false, Bool.false_eq_true, ie_m1_0, ie_m1_1, ie_m1_2, ie_m1_3, ie_m1_4, ie_m1_5, ie_0_m1, ie_0_1, ie_0_2, ie_0_3, ie_0_4, ie_0_5, ie_1_m1, ie_1_0, ie_1_2, ie_1_3, ie_1_4, ie_1_5, ie_2_m1, ie_2_0, ie_2_1, ie_2_3, ie_2_4, ie_2_5, ie_3_m1, ie_3_0, ie_3_1, ie_3_2, ie_3_4, ie_3_5, ie_4_m1, ie_4_0, ie_4_1, ie_4_2, ie_4_3, ie_4_5, ie_5_m1, ie_5_0, ie_5_1, ie_5_2, ie_5_3, ie_5_4, ct_4, cv_4, ci_4_0, cp_4_0, ci_4_1, cp_4_1, ci_4_2, cp_4_2, ci_4_3, cp_4_3, ci_4_4, cp_4_4, hU0, hcn, hkc]
    | cons e l ih =>
      intro A c B v5 hl hb
      have hlen : (A ++ c :: B).length + (l.length + 1) = R.length := by rw [← hl]; simp; omega
      have hget : R[(A ++ c :: B).length]? = some e := by rw [← hl]; simp
      have hk40 : q0 + (A ++ c :: B).length < 40 := by omega
      have hkc : (nI (q0 + R.length) ≤ nI (q0 + (A ++ c :: B).length)) = False := eq_false (nI_ge (by omega) (by omega))
      have c81 := h81 _ e hget
      obtain ⟨k1, k2, k3, k4, k5, k6, k7⟩ := hc.2.1 _ hk40
      have he12 := hg12 e (List.mem_of_getElem? hget)
      have hc12 := hg12 c (by rw [← hl]; simp)
      have hle : (nI (g c) ≤ nI (g e)) = (g c ≤ g e) := nI_lep (by omega) (by omega)
      rw [s_80_8]
      by_cases c1 : g c ≤ g e
      · have hb' : (A ++ c :: (B ++ [e])).foldl (bst g) none = some c := by
          rw [show A ++ c :: (B ++ [e]) = (A ++ c :: B) ++ [e] by simp, List.foldl_append, hb]
          show (if g e < g c then some e else some c) = some c
          rw [if_neg (by omega)]
        obtain ⟨A', c', B', r1, r2, r3⟩ := ih A c (B ++ [e]) (some (.inl (nI (g e)))) (by rw [← hl]; simp) hb'
        refine ⟨A', c', B', r1, r2, ?_⟩
        rw [← r3]
        simp only [s_80_10, s_80_11, s_80_14, s_80_17, s_80_18, s_80_19, s_80_22, s_80_24, s_80_25, s_80_28, s_80_30, s_80_32, s_80_33, s_80_36, s_80_38, s_80_39, s_80_41, s_80_42, s_80_45, mj_lI_s, mj_lI_0, mj_lA_s, mj_lA_0, mj_sL_s, mj_sL_0, mj_s8_0, mj_s8_1, mj_s8_2, mj_s8_3, mj_bc_n, mj_bc_s, mj_bd_s, u2_eq, u2_a, u2_k, ne_eq, Nat.reduceEqDiff, not_false_eq_true, List.nil_append, List.cons_append, eq_self, true_or, or_true, if_true, if_false, false_or, or_false, not_true_eq_false, Bool.false_eq_true, ie_m1_0, ie_m1_1, ie_m1_2, ie_m1_3, ie_m1_4, ie_m1_5, ie_0_m1, ie_0_1, ie_0_2, ie_0_3, ie_0_4, ie_0_5, ie_1_m1, ie_1_0, ie_1_2, ie_1_3, ie_1_4, ie_1_5, ie_2_m1, ie_2_0, ie_2_1, ie_2_3, ie_2_4, ie_2_5, ie_3_m1, ie_3_0, ie_3_1, ie_3_2, ie_3_4, ie_3_5, ie_4_m1, ie_4_0, ie_4_1, ie_4_2, ie_4_3, ie_4_5, ie_5_m1, ie_5_0, ie_5_1, ie_5_2, ie_5_3, ie_5_4, ct_4, cv_4, ci_4_0, cp_4_0, ci_4_1, cp_4_1, ci_4_2, cp_4_2, ci_4_3, cp_4_3, ci_4_4, cp_4_4, hU0, hcn, hkc, hU3, xr_101 h10 hk40 (by decide), k1, c81, hle, c1, nI_1]
        rw [show q0 + (A ++ c :: (B ++ [e])).length = q0 + (A ++ c :: B).length + 1 by simp; omega]
      · have hb' : ((A ++ c :: B) ++ e :: []).foldl (bst g) none = some e := by
          rw [List.foldl_append, hb]
          show (if g e < g c then some e else some c) = some e
          rw [if_pos (by omega)]
        obtain ⟨A', c', B', r1, r2, r3⟩ := ih (A ++ c :: B) e [] (some (.inl (nI (g e)))) (by rw [← hl]; simp) hb'
        refine ⟨A', c', B', r1, r2, ?_⟩
        rw [← r3]
        simp only [s_80_10, s_80_11, s_80_14, s_80_17, s_80_18, s_80_19, s_80_22, s_80_24, s_80_25, s_80_28, s_80_30, s_80_32, s_80_33, s_80_36, s_80_38, s_80_39, s_80_41, s_80_42, s_80_45, mj_lI_s, mj_lI_0, mj_lA_s, mj_lA_0, mj_sL_s, mj_sL_0, mj_s8_0, mj_s8_1, mj_s8_2, mj_s8_3, mj_bc_n, mj_bc_s, mj_bd_s, u2_eq, u2_a, u2_k, ne_eq, Nat.reduceEqDiff, not_false_eq_true, List.nil_append, List.cons_append, eq_self, true_or, or_true, if_true, if_false, false_or, or_false, not_true_eq_false, Bool.false_eq_true, ie_m1_0, ie_m1_1, ie_m1_2, ie_m1_3, ie_m1_4, ie_m1_5, ie_0_m1, ie_0_1, ie_0_2, ie_0_3, ie_0_4, ie_0_5, ie_1_m1, ie_1_0, ie_1_2, ie_1_3, ie_1_4, ie_1_5, ie_2_m1, ie_2_0, ie_2_1, ie_2_3, ie_2_4, ie_2_5, ie_3_m1, ie_3_0, ie_3_1, ie_3_2, ie_3_4, ie_3_5, ie_4_m1, ie_4_0, ie_4_1, ie_4_2, ie_4_3, ie_4_5, ie_5_m1, ie_5_0, ie_5_1, ie_5_2, ie_5_3, ie_5_4, ct_4, cv_4, ci_4_0, cp_4_0, ci_4_1, cp_4_1, ci_4_2, cp_4_2, ci_4_3, cp_4_3, ci_4_4, cp_4_4, hU0, hcn, hkc, hU3, xr_101 h10 hk40 (by decide), k1, c81, hle, c1, nI_1]
        rw [show q0 + (A ++ c :: B ++ [e]).length = q0 + (A ++ c :: B).length + 1 by simp; omega]
  cases R with
  | nil => exact absurd rfl hR
  | cons c R =>
    have hlc : (c :: R).length = R.length + 1 := rfl
    obtain ⟨A', c', B', r1, r2, r3⟩ := loop R [] c [] (some (.inl (nI (g c)))) rfl rfl
    refine ⟨A', c', B', r1, r2, ?_⟩
    have hq40 : q0 < 40 := by omega
    have hkc : (nI (q0 + (R.length + 1)) ≤ nI q0) = False := eq_false (nI_ge (by omega) (by omega))
    have c81 : mj_Cl pg (d + 3) 81 [.inr (some 5), .inr (some (cc q0))] (bl n sh x y) = some (some (.inl (nI (g c))), bl n sh x y) := h81 0 c rfl
    obtain ⟨k1, k2, k3, k4, k5, k6, k7⟩ := hc.2.1 _ hq40
    have hc12 := hg12 c List.mem_cons_self
    have hle : ((13 : Int32) ≤ nI (g c)) = False := eq_false (nI_ge (a := g c) (b := 13) (by omega) (by decide))
    rw [e_80]
    simp only [s_80_0, s_80_1, s_80_2, s_80_4, s_80_5, s_80_6, mj_lI_s, mj_lI_0, mj_lA_s, mj_lA_0, mj_sL_s, mj_sL_0, mj_s8_0, mj_s8_1, mj_s8_2, mj_s8_3, mj_bc_n, mj_bc_s, mj_bd_s, u2_eq, u2_a, u2_k, ne_eq, Nat.reduceEqDiff, not_false_eq_true, List.nil_append, List.cons_append, eq_self, true_or, or_true, if_true, if_false, false_or, or_false, not_true_eq_false, Bool.false_eq_true, ie_m1_0, ie_m1_1, ie_m1_2, ie_m1_3, ie_m1_4, ie_m1_5, ie_0_m1, ie_0_1, ie_0_2, ie_0_3, ie_0_4, ie_0_5, ie_1_m1, ie_1_0, ie_1_2, ie_1_3, ie_1_4, ie_1_5, ie_2_m1, ie_2_0, ie_2_1, ie_2_3, ie_2_4, ie_2_5, ie_3_m1, ie_3_0, ie_3_1, ie_3_2, ie_3_4, ie_3_5, ie_4_m1, ie_4_0, ie_4_1, ie_4_2, ie_4_3, ie_4_5, ie_5_m1, ie_5_0, ie_5_1, ie_5_2, ie_5_3, ie_5_4]
    rw [s_80_8]
    simp only [s_80_10, s_80_11, s_80_14, s_80_17, s_80_18, s_80_19, s_80_22, s_80_24, s_80_25, s_80_28, s_80_30, s_80_32, s_80_33, s_80_36, s_80_38, s_80_39, s_80_41, s_80_42, s_80_45, mj_lI_s, mj_lI_0, mj_lA_s, mj_lA_0, mj_sL_s, mj_sL_0, mj_s8_0, mj_s8_1, mj_s8_2, mj_s8_3, mj_bc_n, mj_bc_s, mj_bd_s, u2_eq, u2_a, u2_k, ne_eq, Nat.reduceEqDiff, not_false_eq_true, List.nil_append, List.cons_append, eq_self, true_or, or_true, if_true, if_false, false_or, or_false, not_true_eq_false, Bool.false_eq_true, ie_m1_0, ie_m1_1, ie_m1_2, ie_m1_3, ie_m1_4, ie_m1_5, ie_0_m1, ie_0_1, ie_0_2, ie_0_3, ie_0_4, ie_0_5, ie_1_m1, ie_1_0, ie_1_2, ie_1_3, ie_1_4, ie_1_5, ie_2_m1, ie_2_0, ie_2_1, ie_2_3, ie_2_4, ie_2_5, ie_3_m1, ie_3_0, ie_3_1, ie_3_2, ie_3_4, ie_3_5, ie_4_m1, ie_4_0, ie_4_1, ie_4_2, ie_4_3, ie_4_5, ie_5_m1, ie_5_0, ie_5_1, ie_5_2, ie_5_3, ie_5_4, ct_4, cv_4, ci_4_0, cp_4_0, ci_4_1, cp_4_1, ci_4_2, cp_4_2, ci_4_3, cp_4_3, ci_4_4, cp_4_4, hU0, hcn, hlc, hkc, hU3, xr_101 h10 hq40 (by decide), k1, c81, hle, nI_1]
    exact r3
end PK
