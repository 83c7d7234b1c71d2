/-! startRun, listCases: of the program -/
section LS
variable {n : Nat} {sh : Nat → Nat × Nat} {hF hT : Nat → Nat} {w : sW} {nb : Nat → Nat → Bool}
/-- startRun -/
theorem rk_78 (d : Nat) {x : Nat → Nat → Int32} {y : Nat → Nat → Option Nat} (hS : suP n sh x y hF hT w nb) (hU : runP n sh y) (h6 : rowS n sh x y 6 7 12) (h8 : ob n sh 8 2 2) (h9 : ob n sh 9 100 3492) (h80 : y 8 0 = some 9) :
    ∃ x', mj_Cl pg (d + 2) 78 [.inr (some 5), .inr (some 2)] (bl n sh x y) = some (none, bl n sh x' y) ∧ mdP n sh x' y hF (wF w) ([], fun _ _ => 0, []) ∧ x' 5 4 = nI (wF w) ∧ fS sh hT (wT w) x x' y y := by
  have loop : ∀ (j k : Nat) (x : Nat → Nat → Int32) (Q : Option mj_R → Prop), k + j = wF w → suP n sh x y hF hT w nb → x 5 4 = nI (wF w) → (∀ f, f < k → x (hF f) 10 = 0 ∧ x (hF f) 12 = 0 ∧ x (hF f) 13 = 0 ∧ x (hF f) 14 = 0) →
      (∀ x', (∀ f, f < wF w → x' (hF f) 10 = 0 ∧ x' (hF f) 12 = 0 ∧ x' (hF f) 13 = 0 ∧ x' (hF f) 14 = 0) → (∀ a k, ¬ ((sh a).1 = 1 ∧ 8 ≤ k) → x' a k = x a k) → Q (some (none, bl n sh x' y))) →
      Q (mj_Rn pg (d + 2) 78 (24, [some (.inr (some 5)), some (.inr (some 2)), some (.inl (nI k))], [], bl n sh x y)) := by
    obtain ⟨hU0, hU1, hU2, hU3⟩ := id hU
    intro j
    induction j with
    | zero =>
      intro k x Q hk hS h54 hz hQ
      have h12 := hS.2.1.1
      have hkc : (nI (wF w) ≤ nI k) = True := eq_true (nI_le (by omega) (by omega))
      rw [s_78_24]
      simp only [s_78_25, s_78_26, s_78_29, s_78_32, s_78_33, s_78_36, s_78_37, s_78_38, s_78_41, s_78_44, s_78_47, mj_lI_s, mj_lI_0, mj_lA_s, mj_lA_0, mj_sL_s, mj_sL_0, mj_s8_0, mj_s8_1, mj_s8_2, mj_s8_3, mj_bc_n, mj_bc_s, mj_bd_s, u2_eq, u2_a, u2_k, ne_eq, Nat.reduceEqDiff, not_false_eq_true, List.nil_append, List.cons_append, eq_self, true_or, or_true, if_true, if_false, false_or, or_false, not_true_eq_false, Bool.false_eq_true, ie_m1_0, ie_m1_1, ie_m1_2, ie_m1_3, ie_m1_4, ie_m1_5, ie_0_m1, ie_0_1, ie_0_2, ie_0_3, ie_0_4, ie_0_5, ie_1_m1, ie_1_0, ie_1_2, ie_1_3, ie_1_4, ie_1_5, ie_2_m1, ie_2_0, ie_2_1, ie_2_3, ie_2_4, ie_2_5, ie_3_m1, ie_3_0, ie_3_1, ie_3_2, ie_3_4, ie_3_5, ie_4_m1, ie_4_0, ie_4_1, ie_4_2, ie_4_3, ie_4_5, ie_5_m1, ie_5_0, ie_5_1, ie_5_2, ie_5_3, ie_5_4, ct_4, cv_4, ci_4_0, cp_4_0, ci_4_1, cp_4_1, ci_4_2, cp_4_2, ci_4_3, cp_4_3, ci_4_4, cp_4_4, hU0, h54, hkc]
      exact hQ x (fun f hf => hz f (by omega)) (fun _ _ _ => rfl)
    | succ j ih =>
      intro k x Q hk hS h54 hz hQ
      obtain ⟨a1, a2, a3, a4, a5, a6, a7, a8⟩ := hS.1
      have hX := hS.2.1
      have h12 := hX.1
      have hkn : k < wF w := by omega
      have hkc : (nI (wF w) ≤ nI k) = False := eq_false (nI_ge (by omega) (by omega))
      have hk12 : k < 12 := by omega
      have ho := (hX.2.1 k hkn).1
      have hy3 := (hS.2.2.1 k hkn).1.1
      have c57 := rk_57 (x := x) (y := y) d ho
      have hW : fW x (u2 (u2 (u2 (u2 x (hF k) 10 0) (hF k) 12 0) (hF k) 13 0) (hF k) 14 0) (hF k) := fun b i h => by
        rw [u2_ne (fun q => h ⟨q.1, by omega⟩), u2_ne (fun q => h ⟨q.1, by omega⟩), u2_ne (fun q => h ⟨q.1, by omega⟩), u2_ne (fun q => h ⟨q.1, by omega⟩)]
      have hG : fG sh x (u2 (u2 (u2 (u2 x (hF k) 10 0) (hF k) 12 0) (hF k) 13 0) (hF k) 14 0) y y := hW.fG ho
      have n5 : (5 : Nat) ≠ hF k := ob_ne hU0 ho (by decide)
      rw [s_78_24]
      simp only [s_78_25, s_78_26, s_78_29, s_78_32, s_78_33, s_78_36, s_78_37, s_78_38, s_78_41, s_78_44, mj_lI_s, mj_lI_0, mj_lA_s, mj_lA_0, mj_sL_s, mj_sL_0, mj_s8_0, mj_s8_1, mj_s8_2, mj_s8_3, mj_bc_n, mj_bc_s, mj_bd_s, u2_eq, u2_a, u2_k, ne_eq, Nat.reduceEqDiff, not_false_eq_true, List.nil_append, List.cons_append, eq_self, true_or, or_true, if_true, if_false, false_or, or_false, not_true_eq_false, Bool.false_eq_true, ie_m1_0, ie_m1_1, ie_m1_2, ie_m1_3, ie_m1_4, ie_m1_5, ie_0_m1, ie_0_1, ie_0_2, ie_0_3, ie_0_4, ie_0_5, ie_1_m1, ie_1_0, ie_1_2, ie_1_3, ie_1_4, ie_1_5, ie_2_m1, ie_2_0, ie_2_1, ie_2_3, ie_2_4, ie_2_5, ie_3_m1, ie_3_0, ie_3_1, ie_3_2, ie_3_4, ie_3_5, ie_4_m1, ie_4_0, ie_4_1, ie_4_2, ie_4_3, ie_4_5, ie_5_m1, ie_5_0, ie_5_1, ie_5_2, ie_5_3, ie_5_4, ct_1, cv_1, ci_1_0, cp_1_0, ci_1_1, cp_1_1, ci_1_2, cp_1_2, ci_1_3, cp_1_3, ci_1_4, cp_1_4, ci_1_5, cp_1_5, ci_1_6, cp_1_6, ci_1_7, cp_1_7, ci_1_8, cp_1_8, ci_1_9, cp_1_9, ci_1_10, cp_1_10, ci_1_11, cp_1_11, ci_1_12, cp_1_12, ci_1_13, cp_1_13, ci_1_14, cp_1_14, ct_4, cv_4, ci_4_0, cp_4_0, ci_4_1, cp_4_1, ci_4_2, cp_4_2, ci_4_3, cp_4_3, ci_4_4, cp_4_4, ct_5, cv_5, ci_5_0, cp_5_0, ci_5_1, cp_5_1, ci_5_2, cp_5_2, ci_5_3, cp_5_3, hU0, h54, hkc, a1, a4, xr_102 a2 hk12 (by decide), hy3, ho, c57, nI_1]
      refine ih (k + 1) _ Q (by omega) (hS.cong (hG.fS hT _)) ?_ (fun f hf => ?_) (fun x' r1 r2 => hQ x' r1 (fun a i h => by rw [r2 a i h]; exact hW a i (fun z => h ⟨by rw [z.1, ho.2.2], z.2⟩)))
      · rw [hW _ _ (fun z => n5 z.1)]; exact h54
      · by_cases e : f = k
        · subst e; simp only [mj_lI_s, mj_lI_0, mj_lA_s, mj_lA_0, mj_sL_s, mj_sL_0, mj_s8_0, mj_s8_1, mj_s8_2, mj_s8_3, mj_bc_n, mj_bc_s, mj_bd_s, u2_eq, u2_a, u2_k, ne_eq, Nat.reduceEqDiff, not_false_eq_true, List.nil_append, List.cons_append, eq_self, true_or, or_true, if_true, if_false, false_or, or_false, not_true_eq_false, Bool.false_eq_true, ie_m1_0, ie_m1_1, ie_m1_2, ie_m1_3, ie_m1_4, ie_m1_5, ie_0_m1, ie_0_1, ie_0_2, ie_0_3, ie_0_4, ie_0_5, ie_1_m1, ie_1_0, ie_1_2, ie_1_3, ie_1_4, ie_1_5, ie_2_m1, ie_2_0, ie_2_1, ie_2_3, ie_2_4, ie_2_5, ie_3_m1, ie_3_0, ie_3_1, ie_3_2, ie_3_4, ie_3_5, ie_4_m1, ie_4_0, ie_4_1, ie_4_2, ie_4_3, ie_4_5, ie_5_m1, ie_5_0, ie_5_1, ie_5_2, ie_5_3, ie_5_4]; exact ⟨trivial, trivial, trivial, trivial⟩
        · have ne : hF f ≠ hF k := fun z => e (hX.2.2 f k (by omega) hkn z)
          simp only [u2_a ne]
          exact hz f (by omega)
  have hU' := hU
  obtain ⟨hU0, hU1, hU2, hU3⟩ := hU
  have c65 : mj_Cl pg (d + 1) 65 [.inr (some 8)] (bl n sh x y) = some (none, bl n sh (u2 x 8 1 0) y) := by
    rw [e_65]
    simp only [s_65_0, s_65_1, s_65_2, s_65_5, mj_lI_s, mj_lI_0, mj_lA_s, mj_lA_0, mj_sL_s, mj_sL_0, mj_s8_0, mj_s8_1, mj_s8_2, mj_s8_3, mj_bc_n, mj_bc_s, mj_bd_s, u2_eq, u2_a, u2_k, ne_eq, Nat.reduceEqDiff, not_false_eq_true, List.nil_append, List.cons_append, eq_self, true_or, or_true, if_true, if_false, false_or, or_false, not_true_eq_false, Bool.false_eq_true, ie_m1_0, ie_m1_1, ie_m1_2, ie_m1_3, ie_m1_4, ie_m1_5, ie_0_m1, ie_0_1, ie_0_2, ie_0_3, ie_0_4, ie_0_5, ie_1_m1, ie_1_0, ie_1_2, ie_1_3, ie_1_4, ie_1_5, ie_2_m1, ie_2_0, ie_2_1, ie_2_3, ie_2_4, ie_2_5, ie_3_m1, ie_3_0, ie_3_1, ie_3_2, ie_3_4, ie_3_5, ie_4_m1, ie_4_0, ie_4_1, ie_4_2, ie_4_3, ie_4_5, ie_5_m1, ie_5_0, ie_5_1, ie_5_2, ie_5_3, ie_5_4, ct_2, cv_2, ci_2_0, cp_2_0, ci_2_1, cp_2_1, h8]
  have h6' : rowS n sh (u2 x 8 1 0) y 6 7 12 := ⟨h6.1, h6.2.1, h6.2.2.1, by rw [u2_a (by decide)]; exact h6.2.2.2.1, h6.2.2.2.2⟩
  obtain ⟨x1, c74, q2, q3⟩ := rk_74 (hF := hF) (nf := wF w) d h6'
  have h6o := h6.1
  have hfs : fS sh hT (wT w) x (u2 x1 5 4 (nI (wF w))) y y := ⟨fun a k h => by
    rw [u2_ne (fun z => h (Or.inr (Or.inr (Or.inl ⟨z.1, by omega⟩)))), q3 a k (fun z => h (Or.inr (Or.inl ⟨z.1, by omega⟩))), u2_ne (fun z => h (Or.inr (Or.inr (Or.inr (Or.inl z.1)))))], fun _ _ _ => rfl⟩
  have a1 := hS.1.1
  have a5 : x1 2 1 = nI (wF w) := by rw [q3 _ _ (by omega), u2_a (by decide)]; exact hS.1.2.2.2.2.1
  rw [e_78]
  simp only [s_78_0, s_78_1, s_78_4, s_78_7, s_78_8, s_78_11, s_78_14, s_78_15, s_78_16, s_78_19, s_78_22, s_78_23, mj_lI_s, mj_lI_0, mj_lA_s, mj_lA_0, mj_sL_s, mj_sL_0, mj_s8_0, mj_s8_1, mj_s8_2, mj_s8_3, mj_bc_n, mj_bc_s, mj_bd_s, u2_eq, u2_a, u2_k, ne_eq, Nat.reduceEqDiff, not_false_eq_true, List.nil_append, List.cons_append, eq_self, true_or, or_true, if_true, if_false, false_or, or_false, not_true_eq_false, Bool.false_eq_true, ie_m1_0, ie_m1_1, ie_m1_2, ie_m1_3, ie_m1_4, ie_m1_5, ie_0_m1, ie_0_1, ie_0_2, ie_0_3, ie_0_4, ie_0_5, ie_1_m1, ie_1_0, ie_1_2, ie_1_3, ie_1_4, ie_1_5, ie_2_m1, ie_2_0, ie_2_1, ie_2_3, ie_2_4, ie_2_5, ie_3_m1, ie_3_0, ie_3_1, ie_3_2, ie_3_4, ie_3_5, ie_4_m1, ie_4_0, ie_4_1, ie_4_2, ie_4_3, ie_4_5, ie_5_m1, ie_5_0, ie_5_1, ie_5_2, ie_5_3, ie_5_4, ct_2, cv_2, ci_2_0, cp_2_0, ci_2_1, cp_2_1, ct_3, cv_3, ci_3_0, cp_3_0, ci_3_1, cp_3_1, ci_3_2, cp_3_2, ci_3_3, cp_3_3, ct_4, cv_4, ci_4_0, cp_4_0, ci_4_1, cp_4_1, ci_4_2, cp_4_2, ci_4_3, cp_4_3, ci_4_4, cp_4_4, ct_5, cv_5, ci_5_0, cp_5_0, ci_5_1, cp_5_1, ci_5_2, cp_5_2, ci_5_3, cp_5_3, hU0, hU2, h8, c65, hU1, h6o, c74, a1, a5]
  refine loop (wF w) 0 (u2 x1 5 4 (nI (wF w))) (fun r => ∃ x', r = some (none, bl n sh x' y) ∧ mdP n sh x' y hF (wF w) ([], fun _ _ => 0, []) ∧ x' 5 4 = nI (wF w) ∧ fS sh hT (wT w) x x' y y) (by omega) (hS.cong hfs) (u2_eq _ _ _ _) (fun f hf => absurd hf (Nat.not_lt_zero f)) (fun x' r1 r2 => ⟨x', rfl, ⟨q2.cong (fun k => ?_) rfl (fun _ => rfl), ⟨h8, h9, h80, ?_, by decide, fun e t he => by simp at he⟩, fun f hf => ?_⟩, ?_, hfs.tr ⟨fun a k h => r2 a k (fun z => h (Or.inl z)), fun _ _ _ => rfl⟩⟩)
  · rw [r2 _ _ (fun z => h6o.kd (by decide) z.1), u2_a (by decide)]
  · rw [r2 _ _ (fun z => h8.kd (by decide) z.1), u2_a (by decide), q3 _ _ (by omega), u2_eq]; rfl
  · obtain ⟨z1, z2, z3, z4⟩ := r1 f hf
    exact ⟨fun z => (by cases z), z1, fun z => absurd rfl z, z2, z3, z4⟩
  · rw [r2 _ _ (fun z => hU0.kd (by decide) z.1), u2_eq]
/-- the cases as they are listed -/
def liP (n : Nat) (sh : Nat → Nat × Nat) (x : Nat → Nat → Int32) (y : Nat → Nat → Option Nat) (hT : Nat → Nat) (w : sW) (cc : Nat → Nat) (q0 : Nat) (D : List (Nat × Nat)) : Prop := ∀ p c, D[p]? = some c → caP n sh x y hT (cc (q0 + p)) c.1 c.2 (wPs w c.1 c.2) ∧ x (cc (q0 + p)) 4 = -1
def clP (n : Nat) (sh : Nat → Nat × Nat) (x : Nat → Nat → Int32) (y : Nat → Nat → Option Nat) (hF hT : Nat → Nat) (w : sW) (k : Nat) : Prop := ∀ t, t < k → rowP n sh x y hF (wF w) (hT t + 3) (hT t + 4) 12 (clo (wN w) (wU w t))
/-- what listing leaves -/
def fL (hT : Nat → Nat) (nt : Nat) (x x' : Nat → Nat → Int32) (y y' : Nat → Nat → Option Nat) : Prop := (∀ a k, ¬ (a = 5 ∧ k = 3) → ¬ (11 ≤ a ∧ a ≤ 90) → ¬ (∃ t, t < nt ∧ a = hT t + 3 ∧ k ≠ 3) → x' a k = x a k) ∧ ∀ a k, ¬ (11 ≤ a ∧ a ≤ 90 ∧ k = 0) → ¬ (∃ t, t < nt ∧ a = hT t + 4) → y' a k = y a k
theorem fL.rf (nt : Nat) (x : Nat → Nat → Int32) (y : Nat → Nat → Option Nat) : fL hT nt x x y y := ⟨fun _ _ _ _ _ => rfl, fun _ _ _ _ => rfl⟩
theorem fL.tr {nt : Nat} {x x' x2 : Nat → Nat → Int32} {y y' y2 : Nat → Nat → Option Nat} (h1 : fL hT nt x x' y y') (h2 : fL hT nt x' x2 y' y2) : fL hT nt x x2 y y2 := ⟨fun a k q1 q2 q3 => (h2.1 a k q1 q2 q3).trans (h1.1 a k q1 q2 q3), fun a k q1 q2 => (h2.2 a k q1 q2).trans (h1.2 a k q1 q2)⟩
theorem fL.fS {nt : Nat} {x x' : Nat → Nat → Int32} {y y' : Nat → Nat → Option Nat} (h : fL hT nt x x' y y') : fS sh hT nt x x' y y' :=
  ⟨fun a k q => h.1 a k (fun z => q (Or.inr (Or.inr (Or.inl ⟨z.1, by omega⟩)))) (fun z => q (Or.inr (Or.inr (Or.inr (Or.inr (Or.inr (Or.inl z))))))) (fun z => q (Or.inr (Or.inr (Or.inr (Or.inr (Or.inr (Or.inr z))))))), fun a k q => h.2 a k (fun z => q (Or.inr (Or.inr (Or.inl z)))) (fun z => q (Or.inr (Or.inr (Or.inr z))))⟩
theorem fL.run {nt : Nat} {x x' : Nat → Nat → Int32} {y y' : Nat → Nat → Option Nat} (h : fL hT nt x x' y y') (hl : ∀ t, t < nt → 127 ≤ hT t) (hU : runP n sh y) : runP n sh y' := by
  have e : ∀ k, y' 5 k = y 5 k := fun k => h.2 5 k (by omega) (fun ⟨t, ht, z⟩ => by have := hl t ht; omega)
  exact ⟨hU.1, by rw [e]; exact hU.2.1, by rw [e]; exact hU.2.2.1, by rw [e]; exact hU.2.2.2⟩
theorem fL.caS {nt : Nat} {x x' : Nat → Nat → Int32} {y y' : Nat → Nat → Option Nat} {cc : Nat → Nat} (h : fL hT nt x x' y y') (hl : ∀ t, t < nt → 127 ≤ hT t) (hU : caS n sh y cc) : caS n sh y' cc :=
  hU.cong (fun k => h.2 10 k (by omega) (fun ⟨t, ht, z⟩ => by have := hl t ht; omega)) (fun a h1 h2 => h.2 a 2 (by omega) (fun ⟨t, ht, z⟩ => by have := hl t ht; omega))
theorem fL.md {nt nf : Nat} {x x' : Nat → Nat → Int32} {y y' : Nat → Nat → Option Nat} {s : rs} (h : fL hT nt x x' y y') (hl : ∀ t, t < nt → 127 ≤ hT t) (hf : ∀ f, f < nf → 127 ≤ hF f ∧ ∀ t, t < nt → hF f ≠ hT t + 3) (hM : mdP n sh x y hF nf s) : mdP n sh x' y' hF nf s := by
  have e : ∀ a k, a < 11 → a ≠ 5 → x' a k = x a k := fun a k h1 h2 => h.1 a k (by omega) (by omega) (fun ⟨t, ht, z, _⟩ => by have := hl t ht; omega)
  have ey : ∀ a k, a < 11 → y' a k = y a k := fun a k h1 => h.2 a k (by omega) (fun ⟨t, ht, z⟩ => by have := hl t ht; omega)
  refine ⟨hM.1.cong (fun k => e _ _ (by decide) (by decide)) (ey _ _ (by decide)) (fun k => ey _ _ (by decide)), hM.2.1.cong (fun k => ⟨e _ _ (by decide) (by decide), e _ _ (by decide) (by decide)⟩) (ey _ _ (by decide)), fun g hg => ?_⟩
  have eg : ∀ k, x' (hF g) k = x (hF g) k := fun k => h.1 _ k (by have := (hf g hg).1; omega) (by have := (hf g hg).1; omega) (fun ⟨t, ht, z, _⟩ => (hf g hg).2 t ht z)
  rw [eg, eg, eg, eg, eg, eg, eg]
  exact hM.2.2 g hg
theorem caP.cong {x x' : Nat → Nat → Int32} {y y' : Nat → Nat → Option Nat} {c t m : Nat} {ps : List (Nat × Nat)} (hC : caP n sh x y hT c t m ps) (h1 : x' c 1 = x c 1) (h2 : ∀ k, x' (c + 1) k = x (c + 1) k) (h3 : y' c 0 = y c 0) (h4 : y' c 2 = y c 2) : caP n sh x' y' hT c t m ps := by
  obtain ⟨a1, a2, a3, a4, a5, a6, a7⟩ := hC
  exact ⟨a1, a2, by rw [h3]; exact a3, by rw [h1]; exact a4, by rw [h4]; exact a5, fun f hf => by rw [h2]; exact a6 f hf, a7⟩
end LS
