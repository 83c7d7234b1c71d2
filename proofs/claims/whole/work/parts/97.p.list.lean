/-! listCases, countAllCases -/
section LP
variable {n : Nat} {sh : Nat → Nat × Nat} {hF hT : Nat → Nat} {w : sW} {nb : Nat → Nat → Bool}
theorem suP.nr {x : Nat → Nat → Int32} {y : Nat → Nat → Option Nat} (hS : suP n sh x y hF hT w nb) {t : Nat} (ht : t < wT w) : (∀ f, f < wF w → hF f + 1 ≠ hT t + 3) ∧ ∀ f, f < wF w → hF f + 2 ≠ hT t + 4 :=
  ⟨fun f hf => by have := hS.2.2.2.2.2.2.2.2.2 f t hf ht; omega, fun f hf => by have := hS.2.2.2.2.2.2.2.2.2 f t hf ht; omega⟩
theorem rk_98s (d : Nat) {x : Nat → Nat → Int32} {y : Nat → Nat → Option Nat} (hK : wR w) (hS : suP n sh x y hF hT w nb) {t : Nat} (ht : t < wT w) : ∃ x' y', mj_Cl pg (d + 15) 98 [.inr (some (hT t))] (bl n sh x y) = some (none, bl n sh x' y') ∧ rowP n sh x' y' hF (wF w) (hT t + 3) (hT t + 4) 12 (clo (wN w) (wU w t)) ∧ fX1 x x' (hT t + 3) ∧ fY1 y y' (hT t + 4) := by
  obtain ⟨rk, hrk, hrb⟩ := hK
  obtain ⟨r1, r2⟩ := hS.nr ht
  exact rk_98 hrk d r1 r2 hS.2.1 hS.2.2.2.1 (hS.2.2.2.2.1 t ht).2.1
theorem rk_100s (d : Nat) {x : Nat → Nat → Int32} {y : Nat → Nat → Option Nat} (hK : wR w) (hS : suP n sh x y hF hT w nb) {t : Nat} (ht : t < wT w) : ∃ x' y', mj_Cl pg (d + 16) 100 [.inr (some (hT t))] (bl n sh x y) = some (some (.inl (nI (wCas w t))), bl n sh x' y') ∧ rowP n sh x' y' hF (wF w) (hT t + 3) (hT t + 4) 12 (clo (wN w) (wU w t)) ∧ fX1 x x' (hT t + 3) ∧ fY1 y y' (hT t + 4) := by
  obtain ⟨rk, hrk, hrb⟩ := hK
  obtain ⟨r1, r2⟩ := hS.nr ht
  exact rk_100 hrk d r1 r2 hS.2.1 hS.2.2.2.1 (hS.2.2.2.2.1 t ht).2.1 (fun f hf => ⟨(hS.2.2.1 f hf).1.2.2.1, (hS.2.2.1 f hf).2.1, (hS.2.2.1 f hf).2.2.1⟩)
theorem fL.clo {nt t : Nat} {x x' : Nat → Nat → Int32} {y y' : Nat → Nat → Option Nat} (ht : t < nt) (h1 : fX1 x x' (hT t + 3)) (h2 : fY1 y y' (hT t + 4)) : fL hT nt x x' y y' :=
  ⟨fun a k _ _ q => h1 a k (fun z => q ⟨t, ht, z.1, by omega⟩), fun a k _ q => h2 a k (fun z => q ⟨t, ht, z⟩)⟩
/-- what beginning the cases leaves -/
def fB (x x' : Nat → Nat → Int32) (y y' : Nat → Nat → Option Nat) : Prop := (∀ a k, ¬ (a = 5 ∧ k = 3) → ¬ (11 ≤ a ∧ a ≤ 90) → x' a k = x a k) ∧ ∀ a k, ¬ (11 ≤ a ∧ a ≤ 90 ∧ k = 0) → y' a k = y a k
theorem fB.tr {x x' x2 : Nat → Nat → Int32} {y y' y2 : Nat → Nat → Option Nat} (h1 : fB x x' y y') (h2 : fB x' x2 y' y2) : fB x x2 y y2 := ⟨fun a k q1 q2 => (h2.1 a k q1 q2).trans (h1.1 a k q1 q2), fun a k q1 => (h2.2 a k q1).trans (h1.2 a k q1)⟩
theorem fB.fL {nt : Nat} {x x' : Nat → Nat → Int32} {y y' : Nat → Nat → Option Nat} (h : fB x x' y y') : fL hT nt x x' y y' := ⟨fun a k q1 q2 _ => h.1 a k q1 q2, fun a k q1 _ => h.2 a k q1⟩
theorem fB.cl {x x' : Nat → Nat → Int32} {y y' : Nat → Nat → Option Nat} {k : Nat} (h : fB x x' y y') (hl : ∀ t, t < k → 127 ≤ hT t) (hC : clP n sh x y hF hT w k) : clP n sh x' y' hF hT w k := fun t ht => by
  have := hl t ht
  exact (hC t ht).cong (fun k => h.1 _ _ (by omega) (by omega)) (h.2 _ _ (by omega)) (fun k => h.2 _ _ (by omega))
/-- the cases of one test -/
theorem rk_79i (d : Nat) (hK : wR w) {cc : Nat → Nat} {t : Nat} (ht : t < wT w) : ∀ (i m : Nat) (D : List (Nat × Nat)) (x : Nat → Nat → Int32) (y : Nat → Nat → Option Nat) (Q : Option mj_R → Prop), m + i = wCas w t → D.length + i ≤ 40 → suP n sh x y hF hT w nb → runP n sh y → caS n sh y cc → clP n sh x y hF hT w (t + 1) → liP n sh x y hT w cc 0 D → x 5 3 = nI D.length →
    (∀ x' y', liP n sh x' y' hT w cc 0 (D ++ wRg t i m) → x' 5 3 = nI (D ++ wRg t i m).length → fB x x' y y' → Q (mj_Rn pg (d + 17) 79 (78, [some (.inr (some 5)), some (.inr (some 2)), some (.inl (nI t)), some (.inr (some (hT t))), some (.inl (nI (wCas w t))), some (.inl (nI (wCas w t)))], [], bl n sh x' y'))) →
    Q (mj_Rn pg (d + 17) 79 (31, [some (.inr (some 5)), some (.inr (some 2)), some (.inl (nI t)), some (.inr (some (hT t))), some (.inl (nI (wCas w t))), some (.inl (nI m))], [], bl n sh x y)) := by
  intro i
  induction i with
  | zero =>
    intro m D x y Q hm h40 hS hU hc hC hD h53 hQ
    have h8 := wCas_le w t
    have e1 : m = wCas w t := by omega
    subst e1
    have hkc : (nI (wCas w t) ≤ nI (wCas w t)) = True := eq_true (nI_le (by omega) (by omega))
    rw [s_79_31]
    simp only [s_79_33, s_79_35, mj_lI_s, mj_lI_0, mj_lA_s, mj_lA_0, mj_sL_s, mj_sL_0, mj_s8_0, mj_s8_1, mj_s8_2, mj_s8_3, mj_bc_n, mj_bc_s, mj_bd_s, u2_eq, u2_a, u2_k, ne_eq, Nat.reduceEqDiff, not_false_eq_true, List.nil_append, List.cons_append, eq_self, true_or, or_true, if_true, if_false, false_or, or_false, not_true_eq_false, Bool.false_eq_true, ie_m1_0, ie_m1_1, ie_m1_2, ie_m1_3, ie_m1_4, ie_m1_5, ie_0_m1, ie_0_1, ie_0_2, ie_0_3, ie_0_4, ie_0_5, ie_1_m1, ie_1_0, ie_1_2, ie_1_3, ie_1_4, ie_1_5, ie_2_m1, ie_2_0, ie_2_1, ie_2_3, ie_2_4, ie_2_5, ie_3_m1, ie_3_0, ie_3_1, ie_3_2, ie_3_4, ie_3_5, ie_4_m1, ie_4_0, ie_4_1, ie_4_2, ie_4_3, ie_4_5, ie_5_m1, ie_5_0, ie_5_1, ie_5_2, ie_5_3, ie_5_4, hkc]
    have := hQ x y
    rw [show wRg t 0 (wCas w t) = [] from rfl, List.append_nil] at this
    exact this hD h53 ⟨fun _ _ _ _ => rfl, fun _ _ _ => rfl⟩
  | succ i ih =>
    intro m D x y Q hm h40 hS hU hc hC hD h53 hQ
    have h8 := wCas_le w t
    have hl : ∀ t, t < wT w → 127 ≤ hT t := hS.2.2.2.2.2.2.1
    have hkc : (nI (wCas w t) ≤ nI m) = False := eq_false (nI_ge (by omega) (by omega))
    have hkd : ((40 : Int32) ≤ nI D.length) = False := eq_false (nI_ge (a := D.length) (b := 40) (by omega) (by decide))
    have hD40 : D.length < 40 := by omega
    obtain ⟨k1, k2, k3, k4, k5, k6, k7⟩ := hc.2.1 D.length hD40
    obtain ⟨hU0, hU1, hU2, hU3⟩ := id hU
    have h10 := hc.1
    obtain ⟨x1, y1, p1, p2, p3, p4, p5⟩ := rk_47 (d + 14) (m := m) hS ht k5 k6 k7 ⟨k3, by omega⟩ (hC t (by omega)) (by omega)
    have h531 : x1 5 3 = nI D.length := by rw [p4 _ _ (by omega) (by omega)]; exact h53
    have hB : fB x (u2 x1 5 3 (nI (D.length + 1))) y y1 := ⟨fun a k q1 q2 => by rw [u2_ne q1, p4 a k (by omega) (by omega)], fun a k q => p5 a k (fun z => q ⟨by omega, by omega, z.2⟩)⟩
    rw [s_79_31]
    simp only [s_79_33, s_79_35, s_79_38, s_79_39, s_79_42, s_79_44, s_79_47, s_79_48, s_79_51, s_79_52, s_79_55, s_79_56, s_79_57, s_79_59, s_79_62, s_79_63, s_79_64, s_79_67, s_79_68, s_79_69, s_79_72, s_79_75, mj_lI_s, mj_lI_0, mj_lA_s, mj_lA_0, mj_sL_s, mj_sL_0, mj_s8_0, mj_s8_1, mj_s8_2, mj_s8_3, mj_bc_n, mj_bc_s, mj_bd_s, u2_eq, u2_a, u2_k, ne_eq, Nat.reduceEqDiff, not_false_eq_true, List.nil_append, List.cons_append, eq_self, true_or, or_true, if_true, if_false, false_or, or_false, not_true_eq_false, Bool.false_eq_true, ie_m1_0, ie_m1_1, ie_m1_2, ie_m1_3, ie_m1_4, ie_m1_5, ie_0_m1, ie_0_1, ie_0_2, ie_0_3, ie_0_4, ie_0_5, ie_1_m1, ie_1_0, ie_1_2, ie_1_3, ie_1_4, ie_1_5, ie_2_m1, ie_2_0, ie_2_1, ie_2_3, ie_2_4, ie_2_5, ie_3_m1, ie_3_0, ie_3_1, ie_3_2, ie_3_4, ie_3_5, ie_4_m1, ie_4_0, ie_4_1, ie_4_2, ie_4_3, ie_4_5, ie_5_m1, ie_5_0, ie_5_1, ie_5_2, ie_5_3, ie_5_4, ct_0, cv_0, ci_0_0, cp_0_0, ci_0_1, cp_0_1, ci_0_2, cp_0_2, ci_0_3, cp_0_3, ci_0_4, cp_0_4, ci_0_5, cp_0_5, ci_0_6, cp_0_6, ct_4, cv_4, ci_4_0, cp_4_0, ci_4_1, cp_4_1, ci_4_2, cp_4_2, ci_4_3, cp_4_3, ci_4_4, cp_4_4, hkc, hkd, hU0, h53, hU3, xr_101 h10 hD40 (by decide), k1, k5, p1, h531, nI_1]
    have hfs := (hB.fL (hT := hT) (nt := wT w))
    refine ih (m + 1) (D ++ [(t, m)]) _ y1 Q (by omega) (by rw [List.length_append]; simp; omega) (hS.cong hfs.fS) (hfs.run hl hU) (hfs.caS hl hc) (hB.cl (fun u hu => hl u (by omega)) hC) (fun p c hp => ?_) (by rw [u2_eq, List.length_append]; rfl) (fun x' y' r1 r2 r3 => by
      have := hQ x' y'
      rw [show D ++ wRg t (i + 1) m = D ++ [(t, m)] ++ wRg t i (m + 1) by rw [List.append_assoc]; rfl] at this
      exact this r1 r2 (hB.tr r3))
    rw [Nat.zero_add]
    rcases Nat.lt_or_ge p D.length with g | g
    · rw [List.getElem?_append_left g] at hp
      obtain ⟨q1, q2⟩ := hD p c hp
      rw [Nat.zero_add] at q1 q2
      obtain ⟨m1, m2, m3, m4, m5, m6, m7⟩ := hc.2.1 p (by omega)
      have hne : cc p ≠ cc D.length := fun z => absurd (hc.2.2 p D.length (by omega) hD40 z) (by omega)
      refine ⟨q1.cong ?_ (fun k => ?_) ?_ ?_, ?_⟩
      · rw [u2_a (by omega), p4 _ _ hne (by omega)]
      · rw [u2_a (by omega), p4 _ _ (by omega) (by omega)]
      · exact p5 _ _ (fun z => hne z.1)
      · exact p5 _ _ (fun z => hne z.1)
      · rw [u2_a (by omega), p4 _ _ hne (by omega)]; exact q2
    · rw [List.getElem?_append_right g] at hp
      have g2 : p - D.length < 1 := (List.getElem?_eq_some_iff.mp hp).1
      have g3 : p = D.length := by omega
      subst g3
      rw [Nat.sub_self] at hp
      cases hp
      refine ⟨p2.cong ?_ (fun k => ?_) rfl rfl, ?_⟩
      · rw [u2_a (by omega)]
      · rw [u2_a (by omega)]
      · rw [u2_a (by omega)]; exact p3
theorem clP.next {x x' : Nat → Nat → Int32} {y y' : Nat → Nat → Option Nat} {k : Nat} (hS : suP n sh x y hF hT w nb) (hk : k < wT w) (hC : clP n sh x y hF hT w k) (hR : rowP n sh x' y' hF (wF w) (hT k + 3) (hT k + 4) 12 (clo (wN w) (wU w k))) (h1 : fX1 x x' (hT k + 3)) (h2 : fY1 y y' (hT k + 4)) : clP n sh x' y' hF hT w (k + 1) := fun t ht => by
  rcases Nat.lt_or_ge t k with g | g
  · have := hS.2.2.2.2.2.2.2.2.1 t k (by omega) hk (by omega)
    exact (hC t g).cong (fun i => h1 _ _ (by omega)) (h2 _ _ (by omega)) (fun i => h2 _ _ (by omega))
  · have : t = k := by omega
    subst this
    exact hR
/-- listCases -/
theorem rk_79 (d : Nat) (hK : wR w) {cc : Nat → Nat} {x : Nat → Nat → Int32} {y : Nat → Nat → Option Nat} (hS : suP n sh x y hF hT w nb) (hU : runP n sh y) (hc : caS n sh y cc) (h40 : (wAll w).length ≤ 40) :
    ∃ x' y', mj_Cl pg (d + 17) 79 [.inr (some 5), .inr (some 2)] (bl n sh x y) = some (none, bl n sh x' y') ∧ clP n sh x' y' hF hT w (wT w) ∧ liP n sh x' y' hT w cc 0 (wAll w) ∧ x' 5 3 = nI (wAll w).length ∧ fL hT (wT w) x x' y y' := by
  have loop : ∀ (j k : Nat) (D : List (Nat × Nat)) (x : Nat → Nat → Int32) (y : Nat → Nat → Option Nat) (v3 v4 v5 : Option mj_V) (Q : Option mj_R → Prop), k + j = wT w → D.length + wSum w j k ≤ 40 → suP n sh x y hF hT w nb → runP n sh y → caS n sh y cc → clP n sh x y hF hT w k → liP n sh x y hT w cc 0 D → x 5 3 = nI D.length →
      (∀ x' y', clP n sh x' y' hF hT w (wT w) → liP n sh x' y' hT w cc 0 (D ++ wAf w j k) → x' 5 3 = nI (D ++ wAf w j k).length → fL hT (wT w) x x' y y' → Q (some (none, bl n sh x' y'))) →
      Q (mj_Rn pg (d + 17) 79 (7, [some (.inr (some 5)), some (.inr (some 2)), some (.inl (nI k)), v3, v4, v5], [], bl n sh x y)) := by
    intro j
    induction j with
    | zero =>
      intro k D x y v3 v4 v5 Q hk h40 hS hU hc hC hD h53 hQ
      obtain ⟨a1, a2, a3, a4, a5, a6, a7, a8⟩ := hS.1
      have hkc : (nI (wT w) ≤ nI k) = True := eq_true (nI_le (by omega) (by omega))
      rw [s_79_7]
      simp only [s_79_8, s_79_9, s_79_12, s_79_15, s_79_16, s_79_19, s_79_20, s_79_21, s_79_22, s_79_23, s_79_26, s_79_28, s_79_29, s_79_31, s_79_33, s_79_35, s_79_38, s_79_39, s_79_42, s_79_44, s_79_47, s_79_48, s_79_51, s_79_52, s_79_55, s_79_56, s_79_57, s_79_59, s_79_62, s_79_63, s_79_64, s_79_67, s_79_68, s_79_69, s_79_72, s_79_75, s_79_78, s_79_81, s_79_84, mj_lI_s, mj_lI_0, mj_lA_s, mj_lA_0, mj_sL_s, mj_sL_0, mj_s8_0, mj_s8_1, mj_s8_2, mj_s8_3, mj_bc_n, mj_bc_s, mj_bd_s, u2_eq, u2_a, u2_k, ne_eq, Nat.reduceEqDiff, not_false_eq_true, List.nil_append, List.cons_append, eq_self, true_or, or_true, if_true, if_false, false_or, or_false, not_true_eq_false, Bool.false_eq_true, ie_m1_0, ie_m1_1, ie_m1_2, ie_m1_3, ie_m1_4, ie_m1_5, ie_0_m1, ie_0_1, ie_0_2, ie_0_3, ie_0_4, ie_0_5, ie_1_m1, ie_1_0, ie_1_2, ie_1_3, ie_1_4, ie_1_5, ie_2_m1, ie_2_0, ie_2_1, ie_2_3, ie_2_4, ie_2_5, ie_3_m1, ie_3_0, ie_3_1, ie_3_2, ie_3_4, ie_3_5, ie_4_m1, ie_4_0, ie_4_1, ie_4_2, ie_4_3, ie_4_5, ie_5_m1, ie_5_0, ie_5_1, ie_5_2, ie_5_3, ie_5_4, ct_5, cv_5, ci_5_0, cp_5_0, ci_5_1, cp_5_1, ci_5_2, cp_5_2, ci_5_3, cp_5_3, a1, a7, hkc]
      have e1 : k = wT w := by omega
      subst e1
      have := hQ x y
      rw [show wAf w 0 (wT w) = [] from rfl, List.append_nil] at this
      exact this hC hD h53 (fL.rf _ x y)
    | succ j ih =>
      intro k D x y v3 v4 v5 Q hk h40 hS hU hc hC hD h53 hQ
      obtain ⟨a1, a2, a3, a4, a5, a6, a7, a8⟩ := hS.1
      have hl : ∀ t, t < wT w → 127 ≤ hT t := hS.2.2.2.2.2.2.1
      have hkn : k < wT w := by omega
      have hk20 : k < 20 := by omega
      have hkc : (nI (wT w) ≤ nI k) = False := eq_false (nI_ge (by omega) (by omega))
      have hy4 := (hS.2.2.2.2.1 k hkn).1
      have hTo := (hS.2.2.2.2.1 k hkn).2.1.1
      obtain ⟨x1, y1, p1, p2, p3, p4⟩ := rk_100s d hK hS hkn
      have hf1 : fL hT (wT w) x x1 y y1 := fL.clo hkn p3 p4
      have h40' : D.length + (wCas w k + wSum w j (k + 1)) ≤ 40 := h40
      have hs1 : D.length + wCas w k ≤ 40 := by omega
      rw [s_79_7]
      simp only [s_79_8, s_79_9, s_79_12, s_79_15, s_79_16, s_79_19, s_79_20, s_79_21, s_79_22, s_79_23, s_79_26, s_79_28, s_79_29, mj_lI_s, mj_lI_0, mj_lA_s, mj_lA_0, mj_sL_s, mj_sL_0, mj_s8_0, mj_s8_1, mj_s8_2, mj_s8_3, mj_bc_n, mj_bc_s, mj_bd_s, u2_eq, u2_a, u2_k, ne_eq, Nat.reduceEqDiff, not_false_eq_true, List.nil_append, List.cons_append, eq_self, true_or, or_true, if_true, if_false, false_or, or_false, not_true_eq_false, Bool.false_eq_true, ie_m1_0, ie_m1_1, ie_m1_2, ie_m1_3, ie_m1_4, ie_m1_5, ie_0_m1, ie_0_1, ie_0_2, ie_0_3, ie_0_4, ie_0_5, ie_1_m1, ie_1_0, ie_1_2, ie_1_3, ie_1_4, ie_1_5, ie_2_m1, ie_2_0, ie_2_1, ie_2_3, ie_2_4, ie_2_5, ie_3_m1, ie_3_0, ie_3_1, ie_3_2, ie_3_4, ie_3_5, ie_4_m1, ie_4_0, ie_4_1, ie_4_2, ie_4_3, ie_4_5, ie_5_m1, ie_5_0, ie_5_1, ie_5_2, ie_5_3, ie_5_4, ct_5, cv_5, ci_5_0, cp_5_0, ci_5_1, cp_5_1, ci_5_2, cp_5_2, ci_5_3, cp_5_3, ct_6, cv_6, ci_6_0, cp_6_0, ci_6_1, cp_6_1, ci_6_2, cp_6_2, ci_6_3, cp_6_3, ci_6_4, cp_6_4, ci_6_5, cp_6_5, ci_6_6, cp_6_6, ci_6_7, cp_6_7, a1, a7, hkc, a6, xr_107 a3 hk20 (by decide), hy4, hTo, p1]
      have hD1 : liP n sh x1 y1 hT w cc 0 D := fun p c hp => by
        obtain ⟨q1, q2⟩ := hD p c hp
        have hp40 : 0 + p < 40 := by have := (List.getElem?_eq_some_iff.mp hp).1; omega
        obtain ⟨m1, m2, m3, m4, m5, m6, m7⟩ := hc.2.1 _ hp40
        have := hl k hkn
        exact ⟨q1.cong (p3 _ _ (by omega)) (fun i => p3 _ _ (by omega)) (p4 _ _ (by omega)) (p4 _ _ (by omega)), by rw [p3 _ _ (by omega)]; exact q2⟩
      have h531 : x1 5 3 = nI D.length := by rw [p3 _ _ (by have := hl k hkn; omega)]; exact h53
      refine rk_79i d hK hkn (wCas w k) 0 D x1 y1 Q (by omega) hs1 (hS.cong hf1.fS) (hf1.run hl hU) (hf1.caS hl hc) (hC.next hS hkn p2 p3 p4) hD1 h531 (fun x2 y2 r1 r2 r3 => ?_)
      simp only [s_79_78, s_79_81, mj_lI_s, mj_lI_0, mj_lA_s, mj_lA_0, mj_sL_s, mj_sL_0, mj_s8_0, mj_s8_1, mj_s8_2, mj_s8_3, mj_bc_n, mj_bc_s, mj_bd_s, u2_eq, u2_a, u2_k, ne_eq, Nat.reduceEqDiff, not_false_eq_true, List.nil_append, List.cons_append, eq_self, true_or, or_true, if_true, if_false, false_or, or_false, not_true_eq_false, Bool.false_eq_true, ie_m1_0, ie_m1_1, ie_m1_2, ie_m1_3, ie_m1_4, ie_m1_5, ie_0_m1, ie_0_1, ie_0_2, ie_0_3, ie_0_4, ie_0_5, ie_1_m1, ie_1_0, ie_1_2, ie_1_3, ie_1_4, ie_1_5, ie_2_m1, ie_2_0, ie_2_1, ie_2_3, ie_2_4, ie_2_5, ie_3_m1, ie_3_0, ie_3_1, ie_3_2, ie_3_4, ie_3_5, ie_4_m1, ie_4_0, ie_4_1, ie_4_2, ie_4_3, ie_4_5, ie_5_m1, ie_5_0, ie_5_1, ie_5_2, ie_5_3, ie_5_4, nI_1]
      have hf2 := hf1.tr (r3.fL (hT := hT) (nt := wT w))
      refine ih (k + 1) _ x2 y2 _ _ _ Q (by omega) (by rw [List.length_append, wRg_len]; omega) (hS.cong hf2.fS) (hf2.run hl hU) (hf2.caS hl hc) (r3.cl (fun t ht => hl t (by omega)) (hC.next hS hkn p2 p3 p4)) r1 r2 (fun x' y' g1 g2 g3 g4 => ?_)
      have := hQ x' y'
      rw [show D ++ wAf w (j + 1) k = D ++ wRg k (wCas w k) 0 ++ wAf w j (k + 1) by rw [List.append_assoc]; rfl] at this
      exact this g1 g2 g3 (hf2.tr g4)
  obtain ⟨hU0, hU1, hU2, hU3⟩ := id hU
  have hf0 : fL hT (wT w) x (u2 x 5 3 0) y y := ⟨fun a k q _ _ => u2_ne q, fun _ _ _ _ => rfl⟩
  rw [e_79]
  simp only [s_79_0, s_79_1, s_79_2, s_79_5, s_79_6, mj_lI_s, mj_lI_0, mj_lA_s, mj_lA_0, mj_sL_s, mj_sL_0, mj_s8_0, mj_s8_1, mj_s8_2, mj_s8_3, mj_bc_n, mj_bc_s, mj_bd_s, u2_eq, u2_a, u2_k, ne_eq, Nat.reduceEqDiff, not_false_eq_true, List.nil_append, List.cons_append, eq_self, true_or, or_true, if_true, if_false, false_or, or_false, not_true_eq_false, Bool.false_eq_true, ie_m1_0, ie_m1_1, ie_m1_2, ie_m1_3, ie_m1_4, ie_m1_5, ie_0_m1, ie_0_1, ie_0_2, ie_0_3, ie_0_4, ie_0_5, ie_1_m1, ie_1_0, ie_1_2, ie_1_3, ie_1_4, ie_1_5, ie_2_m1, ie_2_0, ie_2_1, ie_2_3, ie_2_4, ie_2_5, ie_3_m1, ie_3_0, ie_3_1, ie_3_2, ie_3_4, ie_3_5, ie_4_m1, ie_4_0, ie_4_1, ie_4_2, ie_4_3, ie_4_5, ie_5_m1, ie_5_0, ie_5_1, ie_5_2, ie_5_3, ie_5_4, ct_4, cv_4, ci_4_0, cp_4_0, ci_4_1, cp_4_1, ci_4_2, cp_4_2, ci_4_3, cp_4_3, ci_4_4, cp_4_4, hU0]
  have := loop (wT w) 0 [] (u2 x 5 3 0) y none none none (fun r => ∃ x' y', r = some (none, bl n sh x' y') ∧ clP n sh x' y' hF hT w (wT w) ∧ liP n sh x' y' hT w cc 0 (wAll w) ∧ x' 5 3 = nI (wAll w).length ∧ fL hT (wT w) x x' y y') (by omega) (by rw [← wAf_len, List.length_nil, Nat.zero_add]; exact h40) (hS.cong hf0.fS) hU hc (fun t ht => absurd ht (Nat.not_lt_zero t)) (fun p c hp => by simp at hp) (by rw [u2_eq]; rfl) (fun x' y' g1 g2 g3 g4 => ⟨x', y', rfl, g1, by rw [List.nil_append] at g2; exact g2, by rw [List.nil_append] at g3; exact g3, hf0.tr g4⟩)
  exact this
/-- closure rows alone -/
def fCl (hT : Nat → Nat) (nt : Nat) (x x' : Nat → Nat → Int32) (y y' : Nat → Nat → Option Nat) : Prop := (∀ a k, ¬ (∃ t, t < nt ∧ a = hT t + 3 ∧ k ≠ 3) → x' a k = x a k) ∧ ∀ a k, ¬ (∃ t, t < nt ∧ a = hT t + 4) → y' a k = y a k
theorem fCl.rf (nt : Nat) (x : Nat → Nat → Int32) (y : Nat → Nat → Option Nat) : fCl hT nt x x y y := ⟨fun _ _ _ => rfl, fun _ _ _ => rfl⟩
theorem fCl.tr {nt : Nat} {x x' x2 : Nat → Nat → Int32} {y y' y2 : Nat → Nat → Option Nat} (h1 : fCl hT nt x x' y y') (h2 : fCl hT nt x' x2 y' y2) : fCl hT nt x x2 y y2 := ⟨fun a k q => (h2.1 a k q).trans (h1.1 a k q), fun a k q => (h2.2 a k q).trans (h1.2 a k q)⟩
theorem fCl.fL {nt : Nat} {x x' : Nat → Nat → Int32} {y y' : Nat → Nat → Option Nat} (h : fCl hT nt x x' y y') : fL hT nt x x' y y' := ⟨fun a k _ _ q => h.1 a k q, fun a k _ q => h.2 a k q⟩
theorem fCl.clo {nt t : Nat} {x x' : Nat → Nat → Int32} {y y' : Nat → Nat → Option Nat} (ht : t < nt) (h1 : fX1 x x' (hT t + 3)) (h2 : fY1 y y' (hT t + 4)) : fCl hT nt x x' y y' :=
  ⟨fun a k q => h1 a k (fun z => q ⟨t, ht, z.1, by omega⟩), fun a k q => h2 a k (fun z => q ⟨t, ht, z⟩)⟩
/-- countAllCases -/
theorem rk_96 (d : Nat) (hK : wR w) {x : Nat → Nat → Int32} {y : Nat → Nat → Option Nat} (hS : suP n sh x y hF hT w nb) :
    ∃ x' y', mj_Cl pg (d + 17) 96 [.inr (some 2)] (bl n sh x y) = some (some (.inl (nI (wAll w).length)), bl n sh x' y') ∧ fCl hT (wT w) x x' y y' := by
  have loop : ∀ (j k a : Nat) (x : Nat → Nat → Int32) (y : Nat → Nat → Option Nat) (Q : Option mj_R → Prop), k + j = wT w → suP n sh x y hF hT w nb →
      (∀ x' y', fCl hT (wT w) x x' y y' → Q (some (some (.inl (nI (a + wSum w j k))), bl n sh x' y'))) →
      Q (mj_Rn pg (d + 17) 96 (4, [some (.inr (some 2)), some (.inl (nI a)), some (.inl (nI k))], [], bl n sh x y)) := by
    intro j
    induction j with
    | zero =>
      intro k a x y Q hk hS hQ
      obtain ⟨a1, a2, a3, a4, a5, a6, a7, a8⟩ := hS.1
      have hkc : (nI (wT w) ≤ nI k) = True := eq_true (nI_le (by omega) (by omega))
      rw [s_96_4]
      simp only [s_96_5, s_96_6, s_96_9, s_96_12, s_96_13, s_96_14, s_96_17, s_96_18, s_96_19, s_96_22, s_96_23, s_96_24, s_96_27, s_96_30, s_96_31, mj_lI_s, mj_lI_0, mj_lA_s, mj_lA_0, mj_sL_s, mj_sL_0, mj_s8_0, mj_s8_1, mj_s8_2, mj_s8_3, mj_bc_n, mj_bc_s, mj_bd_s, u2_eq, u2_a, u2_k, ne_eq, Nat.reduceEqDiff, not_false_eq_true, List.nil_append, List.cons_append, eq_self, true_or, or_true, if_true, if_false, false_or, or_false, not_true_eq_false, Bool.false_eq_true, ie_m1_0, ie_m1_1, ie_m1_2, ie_m1_3, ie_m1_4, ie_m1_5, ie_0_m1, ie_0_1, ie_0_2, ie_0_3, ie_0_4, ie_0_5, ie_1_m1, ie_1_0, ie_1_2, ie_1_3, ie_1_4, ie_1_5, ie_2_m1, ie_2_0, ie_2_1, ie_2_3, ie_2_4, ie_2_5, ie_3_m1, ie_3_0, ie_3_1, ie_3_2, ie_3_4, ie_3_5, ie_4_m1, ie_4_0, ie_4_1, ie_4_2, ie_4_3, ie_4_5, ie_5_m1, ie_5_0, ie_5_1, ie_5_2, ie_5_3, ie_5_4, ct_5, cv_5, ci_5_0, cp_5_0, ci_5_1, cp_5_1, ci_5_2, cp_5_2, ci_5_3, cp_5_3, a1, a7, hkc]
      exact hQ x y (fCl.rf _ x y)
    | succ j ih =>
      intro k a x y Q hk hS hQ
      obtain ⟨a1, a2, a3, a4, a5, a6, a7, a8⟩ := hS.1
      have hkn : k < wT w := by omega
      have hk20 : k < 20 := by omega
      have hkc : (nI (wT w) ≤ nI k) = False := eq_false (nI_ge (by omega) (by omega))
      have hy4 := (hS.2.2.2.2.1 k hkn).1
      have hTo := (hS.2.2.2.2.1 k hkn).2.1.1
      obtain ⟨x1, y1, p1, p2, p3, p4⟩ := rk_100s d hK hS hkn
      have hf1 : fCl hT (wT w) x x1 y y1 := fCl.clo hkn p3 p4
      rw [s_96_4]
      simp only [s_96_5, s_96_6, s_96_9, s_96_12, s_96_13, s_96_14, s_96_17, s_96_18, s_96_19, s_96_22, s_96_23, s_96_24, s_96_27, mj_lI_s, mj_lI_0, mj_lA_s, mj_lA_0, mj_sL_s, mj_sL_0, mj_s8_0, mj_s8_1, mj_s8_2, mj_s8_3, mj_bc_n, mj_bc_s, mj_bd_s, u2_eq, u2_a, u2_k, ne_eq, Nat.reduceEqDiff, not_false_eq_true, List.nil_append, List.cons_append, eq_self, true_or, or_true, if_true, if_false, false_or, or_false, not_true_eq_false, Bool.false_eq_true, ie_m1_0, ie_m1_1, ie_m1_2, ie_m1_3, ie_m1_4, ie_m1_5, ie_0_m1, ie_0_1, ie_0_2, ie_0_3, ie_0_4, ie_0_5, ie_1_m1, ie_1_0, ie_1_2, ie_1_3, ie_1_4, ie_1_5, ie_2_m1, ie_2_0, ie_2_1, ie_2_3, ie_2_4, ie_2_5, ie_3_m1, ie_3_0, ie_3_1, ie_3_2, ie_3_4, ie_3_5, ie_4_m1, ie_4_0, ie_4_1, ie_4_2, ie_4_3, ie_4_5, ie_5_m1, ie_5_0, ie_5_1, ie_5_2, ie_5_3, ie_5_4, ct_5, cv_5, ci_5_0, cp_5_0, ci_5_1, cp_5_1, ci_5_2, cp_5_2, ci_5_3, cp_5_3, ct_6, cv_6, ci_6_0, cp_6_0, ci_6_1, cp_6_1, ci_6_2, cp_6_2, ci_6_3, cp_6_3, ci_6_4, cp_6_4, ci_6_5, cp_6_5, ci_6_6, cp_6_6, ci_6_7, cp_6_7, a1, a7, hkc, a6, xr_107 a3 hk20 (by decide), hy4, hTo, p1, nI_1, nI_add]
      refine ih (k + 1) (a + wCas w k) x1 y1 Q (by omega) (hS.cong hf1.fL.fS) (fun x' y' g => ?_)
      have := hQ x' y' (hf1.tr g)
      rw [show a + wSum w (j + 1) k = a + wCas w k + wSum w j (k + 1) by show a + (wCas w k + wSum w j (k + 1)) = _; omega] at this
      exact this
  rw [e_96]
  simp only [s_96_0, s_96_1, s_96_2, s_96_3, mj_lI_s, mj_lI_0, mj_lA_s, mj_lA_0, mj_sL_s, mj_sL_0, mj_s8_0, mj_s8_1, mj_s8_2, mj_s8_3, mj_bc_n, mj_bc_s, mj_bd_s, u2_eq, u2_a, u2_k, ne_eq, Nat.reduceEqDiff, not_false_eq_true, List.nil_append, List.cons_append, eq_self, true_or, or_true, if_true, if_false, false_or, or_false, not_true_eq_false, Bool.false_eq_true, ie_m1_0, ie_m1_1, ie_m1_2, ie_m1_3, ie_m1_4, ie_m1_5, ie_0_m1, ie_0_1, ie_0_2, ie_0_3, ie_0_4, ie_0_5, ie_1_m1, ie_1_0, ie_1_2, ie_1_3, ie_1_4, ie_1_5, ie_2_m1, ie_2_0, ie_2_1, ie_2_3, ie_2_4, ie_2_5, ie_3_m1, ie_3_0, ie_3_1, ie_3_2, ie_3_4, ie_3_5, ie_4_m1, ie_4_0, ie_4_1, ie_4_2, ie_4_3, ie_4_5, ie_5_m1, ie_5_0, ie_5_1, ie_5_2, ie_5_3, ie_5_4]
  have := loop (wT w) 0 0 x y (fun r => ∃ x' y', r = some (some (.inl (nI (wAll w).length)), bl n sh x' y') ∧ fCl hT (wT w) x x' y y') (by omega) hS (fun x' y' g => ⟨x', y', by rw [Nat.zero_add]; unfold wAll; rw [wAf_len], g⟩)
  exact this
end LP
