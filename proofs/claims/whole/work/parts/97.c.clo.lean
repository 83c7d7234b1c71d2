/-! the closure and the number of cases: the class -/
section CB
variable {n : Nat} {sh : Nat → Nat × Nat} {hF hT : Nat → Nat} {nf : Nat} {nd : Nat → List Nat}
theorem fxP.fr1 {x x' : Nat → Nat → Int32} {r : Nat} (h : fxP n sh x hF nf) (hr : ob n sh r 3 4) (h1 : fX1 x x' r) : fxP n sh x' hF nf := h.cong (fun f hf => by
  have hne : hF f ≠ r := ob_ne (h.2.1 f hf).1 hr (by decide)
  exact ⟨h1 _ 0 (fun q => hne q.1), h1 _ 1 (fun q => hne q.1)⟩)
theorem neP.fr1 {x x' : Nat → Nat → Int32} {y y' : Nat → Nat → Option Nat} {r q : Nat} (h : neP n sh x y hF nf nd) (hX : fxP n sh x hF nf) (hr : ∀ f, f < nf → hF f + 1 ≠ r) (hq : ∀ f, f < nf → hF f + 2 ≠ q) (ho : ob n sh q 102 12) (h1 : fX1 x x' r) (h2 : fY1 y y' q) : neP n sh x' y' hF nf nd := fun f hf => by
  obtain ⟨d1, d2⟩ := h f hf
  have n1 : hF f ≠ q := ob_ne (hX.2.1 f hf).1 ho (by decide)
  have n2 : hF f + 1 ≠ q := ob_ne d2.1.1 ho (by decide)
  exact ⟨by rw [h2 _ _ n1]; exact d1, d2.cong (fun k => h1 _ _ (fun z => hr f hf z.1)) (h2 _ _ n2) (fun k => h2 _ _ (hq f hf))⟩
/-- includeBehindItsNeeds -/
theorem rk_99 {rk : Nat → Nat} (hrk : rkd nf nd rk) {r q : Nat} (hr : ∀ f, f < nf → hF f + 1 ≠ r) (hq : ∀ f, f < nf → hF f + 2 ≠ q) : ∀ (k D dp f : Nat) (acc : List Nat) (x : Nat → Nat → Int32) (y : Nat → Nat → Option Nat), k + 2 ≤ D → dp + k = 13 → f < nf → fxP n sh x hF nf → neP n sh x y hF nf nd → rowP n sh x y hF nf r q 12 acc →
    ∃ x' y', mj_Cl pg D 99 [.inr (some r), .inr (some (hF f)), .inl (nI dp)] (bl n sh x y) = some (none, bl n sh x' y') ∧ rowP n sh x' y' hF nf r q 12 (inc nd k acc f) ∧ fX1 x x' r ∧ fY1 y y' q := by
  intro k
  induction k with
  | zero =>
    intro D dp f acc x y hD hdp hf hX hN hR
    obtain ⟨D, rfl⟩ : ∃ D', D = D' + 1 := ⟨D - 1, by omega⟩
    have e13 : dp = 13 := by omega
    subst e13
    have c1 : ((12 : Int32) < nI 13) = True := eq_true (by decide)
    refine ⟨x, y, ?_, hR, fX1.rf x r, fY1.rf y q⟩
    rw [e_99]
    simp only [s_99_0, s_99_1, s_99_3, s_99_6, s_99_7, s_99_8, s_99_11, s_99_14, mj_lI_s, mj_lI_0, mj_lA_s, mj_lA_0, mj_sL_s, mj_sL_0, mj_s8_0, mj_s8_1, mj_s8_2, mj_s8_3, mj_bc_n, mj_bc_s, mj_bd_s, u2_eq, u2_a, u2_k, ne_eq, Nat.reduceEqDiff, not_false_eq_true, List.nil_append, List.cons_append, eq_self, true_or, or_true, if_true, if_false, false_or, or_false, not_true_eq_false, Bool.false_eq_true, ie_m1_0, ie_m1_1, ie_m1_2, ie_m1_3, ie_m1_4, ie_m1_5, ie_0_m1, ie_0_1, ie_0_2, ie_0_3, ie_0_4, ie_0_5, ie_1_m1, ie_1_0, ie_1_2, ie_1_3, ie_1_4, ie_1_5, ie_2_m1, ie_2_0, ie_2_1, ie_2_3, ie_2_4, ie_2_5, ie_3_m1, ie_3_0, ie_3_1, ie_3_2, ie_3_4, ie_3_5, ie_4_m1, ie_4_0, ie_4_1, ie_4_2, ie_4_3, ie_4_5, ie_5_m1, ie_5_0, ie_5_1, ie_5_2, ie_5_3, ie_5_4, c1]
  | succ k ih =>
    intro D dp f acc x y hD hdp hf hX hN hR
    obtain ⟨D, rfl⟩ : ∃ D', D = D' + 3 := ⟨D - 3, by omega⟩
    have c1 : ((12 : Int32) < nI dp) = False := eq_false (fun z => absurd ((nI_ltI (a := 12) (b := dp) (by decide) (by omega)).mp z) (by omega))
    have c69 := rk_69 (D + 1) hR hX hf
    have hro := hR.1.1
    have hqo := hR.1.2.1
    rw [e_99]
    by_cases e : f ∈ acc
    · refine ⟨x, y, ?_, ?_, fX1.rf x r, fY1.rf y q⟩
      · rw [if_pos e] at c69
        have c10 : ((1 : Int32) = 0) = False := eq_false (by decide)
        simp only [s_99_0, s_99_1, s_99_3, s_99_6, s_99_7, s_99_8, s_99_11, s_99_14, mj_lI_s, mj_lI_0, mj_lA_s, mj_lA_0, mj_sL_s, mj_sL_0, mj_s8_0, mj_s8_1, mj_s8_2, mj_s8_3, mj_bc_n, mj_bc_s, mj_bd_s, u2_eq, u2_a, u2_k, ne_eq, Nat.reduceEqDiff, not_false_eq_true, List.nil_append, List.cons_append, eq_self, true_or, or_true, if_true, if_false, false_or, or_false, not_true_eq_false, Bool.false_eq_true, ie_m1_0, ie_m1_1, ie_m1_2, ie_m1_3, ie_m1_4, ie_m1_5, ie_0_m1, ie_0_1, ie_0_2, ie_0_3, ie_0_4, ie_0_5, ie_1_m1, ie_1_0, ie_1_2, ie_1_3, ie_1_4, ie_1_5, ie_2_m1, ie_2_0, ie_2_1, ie_2_3, ie_2_4, ie_2_5, ie_3_m1, ie_3_0, ie_3_1, ie_3_2, ie_3_4, ie_3_5, ie_4_m1, ie_4_0, ie_4_1, ie_4_2, ie_4_3, ie_4_5, ie_5_m1, ie_5_0, ie_5_1, ie_5_2, ie_5_3, ie_5_4, ct_1, cv_1, ci_1_0, cp_1_0, ci_1_1, cp_1_1, ci_1_2, cp_1_2, ci_1_3, cp_1_3, ci_1_4, cp_1_4, ci_1_5, cp_1_5, ci_1_6, cp_1_6, ci_1_7, cp_1_7, ci_1_8, cp_1_8, ci_1_9, cp_1_9, ci_1_10, cp_1_10, ci_1_11, cp_1_11, ci_1_12, cp_1_12, ci_1_13, cp_1_13, ci_1_14, cp_1_14, ct_3, cv_3, ci_3_0, cp_3_0, ci_3_1, cp_3_1, ci_3_2, cp_3_2, ci_3_3, cp_3_3, hro, c1, c69, c10]
      · rw [show inc nd (k + 1) acc f = acc from if_pos e]; exact hR
    · rw [if_neg e] at c69
      obtain ⟨d1, d2⟩ := hN f hf
      have hfo := (hX.2.1 f hf).1
      simp only [s_99_0, s_99_1, s_99_3, s_99_6, s_99_7, s_99_8, s_99_11, s_99_14, s_99_15, s_99_16, s_99_19, s_99_20, s_99_21, mj_lI_s, mj_lI_0, mj_lA_s, mj_lA_0, mj_sL_s, mj_sL_0, mj_s8_0, mj_s8_1, mj_s8_2, mj_s8_3, mj_bc_n, mj_bc_s, mj_bd_s, u2_eq, u2_a, u2_k, ne_eq, Nat.reduceEqDiff, not_false_eq_true, List.nil_append, List.cons_append, eq_self, true_or, or_true, if_true, if_false, false_or, or_false, not_true_eq_false, Bool.false_eq_true, ie_m1_0, ie_m1_1, ie_m1_2, ie_m1_3, ie_m1_4, ie_m1_5, ie_0_m1, ie_0_1, ie_0_2, ie_0_3, ie_0_4, ie_0_5, ie_1_m1, ie_1_0, ie_1_2, ie_1_3, ie_1_4, ie_1_5, ie_2_m1, ie_2_0, ie_2_1, ie_2_3, ie_2_4, ie_2_5, ie_3_m1, ie_3_0, ie_3_1, ie_3_2, ie_3_4, ie_3_5, ie_4_m1, ie_4_0, ie_4_1, ie_4_2, ie_4_3, ie_4_5, ie_5_m1, ie_5_0, ie_5_1, ie_5_2, ie_5_3, ie_5_4, ct_1, cv_1, ci_1_0, cp_1_0, ci_1_1, cp_1_1, ci_1_2, cp_1_2, ci_1_3, cp_1_3, ci_1_4, cp_1_4, ci_1_5, cp_1_5, ci_1_6, cp_1_6, ci_1_7, cp_1_7, ci_1_8, cp_1_8, ci_1_9, cp_1_9, ci_1_10, cp_1_10, ci_1_11, cp_1_11, ci_1_12, cp_1_12, ci_1_13, cp_1_13, ci_1_14, cp_1_14, ct_3, cv_3, ci_3_0, cp_3_0, ci_3_1, cp_3_1, ci_3_2, cp_3_2, ci_3_3, cp_3_3, hro, hfo, c1, c69, d1]
      have loop : ∀ (l : List Nat) (i : Nat) (acc : List Nat) (x : Nat → Nat → Int32) (y : Nat → Nat → Option Nat) (Q : Option mj_R → Prop), i + l.length = (nd f).length → (∀ j g, l[j]? = some g → (nd f)[i + j]? = some g) → fxP n sh x hF nf → neP n sh x y hF nf nd → rowP n sh x y hF nf r q 12 acc →
          (∀ x' y', rowP n sh x' y' hF nf r q 12 (l.foldl (inc nd k) acc) → fX1 x x' r → fY1 y y' q → fxP n sh x' hF nf → Q (mj_Rn pg (D + 3) 99 (52, [some (.inr (some r)), some (.inr (some (hF f))), some (.inl (nI dp)), some (.inr (some (hF f + 1))), some (.inl (nI (nd f).length))], [], bl n sh x' y'))) →
          Q (mj_Rn pg (D + 3) 99 (23, [some (.inr (some r)), some (.inr (some (hF f))), some (.inl (nI dp)), some (.inr (some (hF f + 1))), some (.inl (nI i))], [], bl n sh x y)) := by
        intro l
        induction l with
        | nil =>
          intro i acc x y Q hi hl hX hN hR hQ
          obtain ⟨d1, d2⟩ := hN f hf
          have h1 := d2.2.1
          have h6 := d2.2.2.2.2.1
          have hrN := d2.1.1
          have e1 : i = (nd f).length := by simpa using hi
          have hkc : (nI (nd f).length ≤ nI i) = True := eq_true (nI_le (by omega) (by omega))
          rw [s_99_23]
          simp only [s_99_25, s_99_26, s_99_29, mj_lI_s, mj_lI_0, mj_lA_s, mj_lA_0, mj_sL_s, mj_sL_0, mj_s8_0, mj_s8_1, mj_s8_2, mj_s8_3, mj_bc_n, mj_bc_s, mj_bd_s, u2_eq, u2_a, u2_k, ne_eq, Nat.reduceEqDiff, not_false_eq_true, List.nil_append, List.cons_append, eq_self, true_or, or_true, if_true, if_false, false_or, or_false, not_true_eq_false, Bool.false_eq_true, ie_m1_0, ie_m1_1, ie_m1_2, ie_m1_3, ie_m1_4, ie_m1_5, ie_0_m1, ie_0_1, ie_0_2, ie_0_3, ie_0_4, ie_0_5, ie_1_m1, ie_1_0, ie_1_2, ie_1_3, ie_1_4, ie_1_5, ie_2_m1, ie_2_0, ie_2_1, ie_2_3, ie_2_4, ie_2_5, ie_3_m1, ie_3_0, ie_3_1, ie_3_2, ie_3_4, ie_3_5, ie_4_m1, ie_4_0, ie_4_1, ie_4_2, ie_4_3, ie_4_5, ie_5_m1, ie_5_0, ie_5_1, ie_5_2, ie_5_3, ie_5_4, ct_3, cv_3, ci_3_0, cp_3_0, ci_3_1, cp_3_1, ci_3_2, cp_3_2, ci_3_3, cp_3_3, hrN, h1, hkc]
          rw [e1]
          exact hQ x y hR (fX1.rf x r) (fY1.rf y q) hX
        | cons g l ihl =>
          intro i acc x y Q hi hl hX hN hR hQ
          obtain ⟨d1, d2⟩ := hN f hf
          have h1 := d2.2.1
          have h6 := d2.2.2.2.2.1
          have h0 := d2.1.2.2.1
          have hrN := d2.1.1
          have hqN := d2.1.2.1
          have hlen : i + (l.length + 1) = (nd f).length := by simpa using hi
          have hkc : (nI (nd f).length ≤ nI i) = False := eq_false (nI_ge (by omega) (by omega))
          have hg0 : (nd f)[i]? = some g := by simpa using hl 0 g rfl
          have hg1 : y (hF f + 2) i = some (hF g) := d2.2.2.2.2.2.2 i g hg0
          have hgn : g < nf := d2.2.2.2.2.2.1 g (List.mem_of_getElem? hg0)
          have hi12 : i < 12 := by omega
          obtain ⟨x1, y1, q1, q2, q3, q4⟩ := ih (D + 2) (dp + 1) g acc x y (by omega) (by omega) hgn hX hN hR
          rw [s_99_23]
          simp only [s_99_25, s_99_26, s_99_29, s_99_32, s_99_33, s_99_34, s_99_37, s_99_39, s_99_40, s_99_41, s_99_42, s_99_43, s_99_46, s_99_49, mj_lI_s, mj_lI_0, mj_lA_s, mj_lA_0, mj_sL_s, mj_sL_0, mj_s8_0, mj_s8_1, mj_s8_2, mj_s8_3, mj_bc_n, mj_bc_s, mj_bd_s, u2_eq, u2_a, u2_k, ne_eq, Nat.reduceEqDiff, not_false_eq_true, List.nil_append, List.cons_append, eq_self, true_or, or_true, if_true, if_false, false_or, or_false, not_true_eq_false, Bool.false_eq_true, ie_m1_0, ie_m1_1, ie_m1_2, ie_m1_3, ie_m1_4, ie_m1_5, ie_0_m1, ie_0_1, ie_0_2, ie_0_3, ie_0_4, ie_0_5, ie_1_m1, ie_1_0, ie_1_2, ie_1_3, ie_1_4, ie_1_5, ie_2_m1, ie_2_0, ie_2_1, ie_2_3, ie_2_4, ie_2_5, ie_3_m1, ie_3_0, ie_3_1, ie_3_2, ie_3_4, ie_3_5, ie_4_m1, ie_4_0, ie_4_1, ie_4_2, ie_4_3, ie_4_5, ie_5_m1, ie_5_0, ie_5_1, ie_5_2, ie_5_3, ie_5_4, ct_3, cv_3, ci_3_0, cp_3_0, ci_3_1, cp_3_1, ci_3_2, cp_3_2, ci_3_3, cp_3_3, hrN, h1, hkc, h0, xr_102 hqN hi12 (by decide), hg1, nI_1, q1]
          refine ihl (i + 1) _ x1 y1 Q (by omega) (fun j g' hj => ?_) (hX.fr1 hR.1.1 q3) (hN.fr1 hX hr hq hR.1.2.1 q3 q4) q2 (fun x2 y2 p1 p2 p3 p4 => hQ x2 y2 p1 (q3.tr p2) (q4.tr p3) p4)
          have := hl (j + 1) g' (by rw [List.getElem?_cons_succ]; exact hj)
          rw [show i + 1 + j = i + (j + 1) by omega]
          exact this
      refine loop (nd f) 0 acc x y (fun z => ∃ x' y', z = some (none, bl n sh x' y') ∧ rowP n sh x' y' hF nf r q 12 (inc nd (k + 1) acc f) ∧ fX1 x x' r ∧ fY1 y y' q) (by omega) (fun j g hj => by rw [Nat.zero_add]; exact hj) hX hN hR (fun x1 y1 q1 q2 q3 q4 => ?_)
      have hnot : f ∉ (nd f).foldl (inc nd k) acc := fun z => by
        rcases inc_fm hrk k (rk f) (nd f) acc (fun g hg => hrk f hf g hg) f z with a | a
        · exact e a
        · omega
      have hlen : ((nd f).foldl (inc nd k) acc).length < 12 := by
        have := nd_len nf ((nd f).foldl (inc nd k) acc ++ [f]) (by
          rw [List.nodup_append]
          exact ⟨q1.2.2.2.1, by simp, fun p hp s hs => by rw [List.mem_singleton.mp hs]; exact fun z => hnot (z ▸ hp)⟩) (fun g hg => by
          rcases List.mem_append.mp hg with a | a
          · exact q1.2.2.2.2.2.1 g a
          · rw [List.mem_singleton.mp a]; exact hf)
        rw [List.length_append] at this
        have h12 := hX.1
        simp at this
        omega
      obtain ⟨x2, y2, p1, p2, p3, p4⟩ := rk_71 D q1 q4 hf hlen hnot
      refine ⟨x2, y2, ?_, ?_, q2.tr p3, q3.tr p4⟩
      · simp only [s_99_52, s_99_53, s_99_54, s_99_57, mj_lI_s, mj_lI_0, mj_lA_s, mj_lA_0, mj_sL_s, mj_sL_0, mj_s8_0, mj_s8_1, mj_s8_2, mj_s8_3, mj_bc_n, mj_bc_s, mj_bd_s, u2_eq, u2_a, u2_k, ne_eq, Nat.reduceEqDiff, not_false_eq_true, List.nil_append, List.cons_append, eq_self, true_or, or_true, if_true, if_false, false_or, or_false, not_true_eq_false, Bool.false_eq_true, ie_m1_0, ie_m1_1, ie_m1_2, ie_m1_3, ie_m1_4, ie_m1_5, ie_0_m1, ie_0_1, ie_0_2, ie_0_3, ie_0_4, ie_0_5, ie_1_m1, ie_1_0, ie_1_2, ie_1_3, ie_1_4, ie_1_5, ie_2_m1, ie_2_0, ie_2_1, ie_2_3, ie_2_4, ie_2_5, ie_3_m1, ie_3_0, ie_3_1, ie_3_2, ie_3_4, ie_3_5, ie_4_m1, ie_4_0, ie_4_1, ie_4_2, ie_4_3, ie_4_5, ie_5_m1, ie_5_0, ie_5_1, ie_5_2, ie_5_3, ie_5_4, ct_1, cv_1, ci_1_0, cp_1_0, ci_1_1, cp_1_1, ci_1_2, cp_1_2, ci_1_3, cp_1_3, ci_1_4, cp_1_4, ci_1_5, cp_1_5, ci_1_6, cp_1_6, ci_1_7, cp_1_7, ci_1_8, cp_1_8, ci_1_9, cp_1_9, ci_1_10, cp_1_10, ci_1_11, cp_1_11, ci_1_12, cp_1_12, ci_1_13, cp_1_13, ci_1_14, cp_1_14, ct_3, cv_3, ci_3_0, cp_3_0, ci_3_1, cp_3_1, ci_3_2, cp_3_2, ci_3_3, cp_3_3, hro, p1]
      · rw [show inc nd (k + 1) acc f = (nd f).foldl (inc nd k) acc ++ [f] from if_neg e]; exact p2
/-- findClosure -/
theorem rk_98 {rk : Nat → Nat} (hrk : rkd nf nd rk) (d : Nat) {T : Nat} {us : List Nat} (hr : ∀ f, f < nf → hF f + 1 ≠ T + 3) (hq : ∀ f, f < nf → hF f + 2 ≠ T + 4) {x : Nat → Nat → Int32} {y : Nat → Nat → Option Nat} (hX : fxP n sh x hF nf) (hN : neP n sh x y hF nf nd) (hT : teP n sh x y hF nf T us) : ∃ x' y', mj_Cl pg (d + 15) 98 [.inr (some T)] (bl n sh x y) = some (none, bl n sh x' y') ∧ rowP n sh x' y' hF nf (T + 3) (T + 4) 12 (clo nd us) ∧ fX1 x x' (T + 3) ∧ fY1 y y' (T + 4) := by
  have hTo := hT.1
  obtain ⟨x1, q1, q2, q3⟩ := rk_74 (hF := hF) (nf := nf) (d + 13) hT.2.2.2.2
  have hro := q2.1.1
  have hqo := q2.1.2.1
  rw [e_98]
  have hy3 := hT.2.2.1
  simp only [s_98_0, s_98_1, s_98_4, s_98_7, s_98_8, mj_lI_s, mj_lI_0, mj_lA_s, mj_lA_0, mj_sL_s, mj_sL_0, mj_s8_0, mj_s8_1, mj_s8_2, mj_s8_3, mj_bc_n, mj_bc_s, mj_bd_s, u2_eq, u2_a, u2_k, ne_eq, Nat.reduceEqDiff, not_false_eq_true, List.nil_append, List.cons_append, eq_self, true_or, or_true, if_true, if_false, false_or, or_false, not_true_eq_false, Bool.false_eq_true, ie_m1_0, ie_m1_1, ie_m1_2, ie_m1_3, ie_m1_4, ie_m1_5, ie_0_m1, ie_0_1, ie_0_2, ie_0_3, ie_0_4, ie_0_5, ie_1_m1, ie_1_0, ie_1_2, ie_1_3, ie_1_4, ie_1_5, ie_2_m1, ie_2_0, ie_2_1, ie_2_3, ie_2_4, ie_2_5, ie_3_m1, ie_3_0, ie_3_1, ie_3_2, ie_3_4, ie_3_5, ie_4_m1, ie_4_0, ie_4_1, ie_4_2, ie_4_3, ie_4_5, ie_5_m1, ie_5_0, ie_5_1, ie_5_2, ie_5_3, ie_5_4, ct_3, cv_3, ci_3_0, cp_3_0, ci_3_1, cp_3_1, ci_3_2, cp_3_2, ci_3_3, cp_3_3, ct_6, cv_6, ci_6_0, cp_6_0, ci_6_1, cp_6_1, ci_6_2, cp_6_2, ci_6_3, cp_6_3, ci_6_4, cp_6_4, ci_6_5, cp_6_5, ci_6_6, cp_6_6, ci_6_7, cp_6_7, hTo, hy3, hro, q1]
  have loop : ∀ (l : List Nat) (i : Nat) (acc : List Nat) (x : Nat → Nat → Int32) (y : Nat → Nat → Option Nat) (Q : Option mj_R → Prop), i + l.length = us.length → (∀ j g, l[j]? = some g → us[i + j]? = some g) → fxP n sh x hF nf → neP n sh x y hF nf nd → y T 2 = some (T + 1) → y T 3 = some (T + 3) → rowP n sh x y hF nf (T + 1) (T + 2) 6 us → rowP n sh x y hF nf (T + 3) (T + 4) 12 acc →
      (∀ x' y', rowP n sh x' y' hF nf (T + 3) (T + 4) 12 (l.foldl (inc nd 12) acc) → fX1 x x' (T + 3) → fY1 y y' (T + 4) → Q (some (none, bl n sh x' y'))) →
      Q (mj_Rn pg (d + 15) 98 (9, [some (.inr (some T)), some (.inl (nI i))], [], bl n sh x y)) := by
    intro l
    induction l with
    | nil =>
      intro i acc x y Q hi hl hX hN h2 h3 hU hR hQ
      have h1 := hU.2.1
      have h6 := hU.2.2.2.2.1
      have hrN := hU.1.1
      have e1 : i = us.length := by simpa using hi
      have hkc : (nI us.length ≤ nI i) = True := eq_true (nI_le (by omega) (by omega))
      rw [s_98_9]
      simp only [s_98_10, s_98_11, s_98_14, s_98_17, s_98_20, s_98_21, s_98_24, s_98_25, s_98_28, s_98_31, s_98_32, s_98_33, s_98_34, s_98_37, s_98_40, s_98_43, mj_lI_s, mj_lI_0, mj_lA_s, mj_lA_0, mj_sL_s, mj_sL_0, mj_s8_0, mj_s8_1, mj_s8_2, mj_s8_3, mj_bc_n, mj_bc_s, mj_bd_s, u2_eq, u2_a, u2_k, ne_eq, Nat.reduceEqDiff, not_false_eq_true, List.nil_append, List.cons_append, eq_self, true_or, or_true, if_true, if_false, false_or, or_false, not_true_eq_false, Bool.false_eq_true, ie_m1_0, ie_m1_1, ie_m1_2, ie_m1_3, ie_m1_4, ie_m1_5, ie_0_m1, ie_0_1, ie_0_2, ie_0_3, ie_0_4, ie_0_5, ie_1_m1, ie_1_0, ie_1_2, ie_1_3, ie_1_4, ie_1_5, ie_2_m1, ie_2_0, ie_2_1, ie_2_3, ie_2_4, ie_2_5, ie_3_m1, ie_3_0, ie_3_1, ie_3_2, ie_3_4, ie_3_5, ie_4_m1, ie_4_0, ie_4_1, ie_4_2, ie_4_3, ie_4_5, ie_5_m1, ie_5_0, ie_5_1, ie_5_2, ie_5_3, ie_5_4, ct_3, cv_3, ci_3_0, cp_3_0, ci_3_1, cp_3_1, ci_3_2, cp_3_2, ci_3_3, cp_3_3, ct_6, cv_6, ci_6_0, cp_6_0, ci_6_1, cp_6_1, ci_6_2, cp_6_2, ci_6_3, cp_6_3, ci_6_4, cp_6_4, ci_6_5, cp_6_5, ci_6_6, cp_6_6, ci_6_7, cp_6_7, hTo, h2, hrN, h1, hkc]
      exact hQ x y hR (fX1.rf x _) (fY1.rf y _)
    | cons g l ihl =>
      intro i acc x y Q hi hl hX hN h2 h3 hU hR hQ
      have h1 := hU.2.1
      have h6 := hU.2.2.2.2.1
      have h0 := hU.1.2.2.1
      have hrN := hU.1.1
      have hqN := hU.1.2.1
      have hlen : i + (l.length + 1) = us.length := by simpa using hi
      have hkc : (nI us.length ≤ nI i) = False := eq_false (nI_ge (by omega) (by omega))
      have hg0 : us[i]? = some g := by simpa using hl 0 g rfl
      have hg1 : y (T + 2) i = some (hF g) := hU.2.2.2.2.2.2 i g hg0
      have hgn : g < nf := hU.2.2.2.2.2.1 g (List.mem_of_getElem? hg0)
      have hi12 : i < 12 := by omega
      obtain ⟨x1, y1, q1, q2, q3, q4⟩ := rk_99 hrk hr hq 12 (d + 14) 1 g acc x y (by omega) (by omega) hgn hX hN hR
      have q1 : mj_Cl pg (d + 14) 99 [.inr (some (T + 3)), .inr (some (hF g)), .inl 1] (bl n sh x y) = some (none, bl n sh x1 y1) := q1
      have nT : T ≠ T + 4 := by omega
      rw [s_98_9]
      simp only [s_98_10, s_98_11, s_98_14, s_98_17, s_98_20, s_98_21, s_98_24, s_98_25, s_98_28, s_98_31, s_98_32, s_98_33, s_98_34, s_98_37, s_98_40, mj_lI_s, mj_lI_0, mj_lA_s, mj_lA_0, mj_sL_s, mj_sL_0, mj_s8_0, mj_s8_1, mj_s8_2, mj_s8_3, mj_bc_n, mj_bc_s, mj_bd_s, u2_eq, u2_a, u2_k, ne_eq, Nat.reduceEqDiff, not_false_eq_true, List.nil_append, List.cons_append, eq_self, true_or, or_true, if_true, if_false, false_or, or_false, not_true_eq_false, Bool.false_eq_true, ie_m1_0, ie_m1_1, ie_m1_2, ie_m1_3, ie_m1_4, ie_m1_5, ie_0_m1, ie_0_1, ie_0_2, ie_0_3, ie_0_4, ie_0_5, ie_1_m1, ie_1_0, ie_1_2, ie_1_3, ie_1_4, ie_1_5, ie_2_m1, ie_2_0, ie_2_1, ie_2_3, ie_2_4, ie_2_5, ie_3_m1, ie_3_0, ie_3_1, ie_3_2, ie_3_4, ie_3_5, ie_4_m1, ie_4_0, ie_4_1, ie_4_2, ie_4_3, ie_4_5, ie_5_m1, ie_5_0, ie_5_1, ie_5_2, ie_5_3, ie_5_4, ct_3, cv_3, ci_3_0, cp_3_0, ci_3_1, cp_3_1, ci_3_2, cp_3_2, ci_3_3, cp_3_3, ct_6, cv_6, ci_6_0, cp_6_0, ci_6_1, cp_6_1, ci_6_2, cp_6_2, ci_6_3, cp_6_3, ci_6_4, cp_6_4, ci_6_5, cp_6_5, ci_6_6, cp_6_6, ci_6_7, cp_6_7, hTo, h2, h3, hrN, h1, hkc, h0, xr_102 hqN hi12 (by decide), hg1, nI_1, q1]
      refine ihl (i + 1) _ x1 y1 Q (by omega) (fun j g' hj => ?_) (hX.fr1 hR.1.1 q3) (hN.fr1 hX hr hq hR.1.2.1 q3 q4) (by rw [q4 _ _ nT]; exact h2) (by rw [q4 _ _ nT]; exact h3) (hU.cong (fun k => q3 _ _ (by omega)) (q4 _ _ (by omega)) (fun k => q4 _ _ (by omega))) q2 (fun x2 y2 p1 p2 p3 => hQ x2 y2 p1 (q3.tr p2) (q4.tr p3))
      have := hl (j + 1) g' (by rw [List.getElem?_cons_succ]; exact hj)
      rw [show i + 1 + j = i + (j + 1) by omega]
      exact this
  have n0 : (0 : Int32) = nI 0 := rfl
  rw [n0]
  exact loop us 0 [] x1 y (fun z => ∃ x' y', z = some (none, bl n sh x' y') ∧ rowP n sh x' y' hF nf (T + 3) (T + 4) 12 (clo nd us) ∧ fX1 x x' (T + 3) ∧ fY1 y y' (T + 4)) (by omega) (fun j g hj => by rw [Nat.zero_add]; exact hj) (hX.fr1 hro q3) (hN.fr1 hX hr hq hqo q3 (fY1.rf y _)) hT.2.1 hy3 (hT.2.2.2.1.cong (fun k => q3 _ _ (by omega)) rfl (fun k => rfl)) q2 (fun x' y' p1 p2 p3 => ⟨x', y', rfl, p1, q3.tr p2, p3⟩)
/-- the product, cut at 8 -/
theorem cas_min (va : Nat → Nat) : ∀ (l : List Nat) (m : Nat), (∀ f ∈ l, 0 < va f) → l.foldl (fun m f => min 8 (m * va f)) (min m 8) = min (wl va m l) 8 := by
  intro l
  induction l with
  | nil => intro m _; rfl
  | cons f l ih =>
    intro m h
    have hf := h f List.mem_cons_self
    show l.foldl _ (min 8 (min m 8 * va f)) = min (wl va (if 8 < m then m else m * va f) l) 8
    rw [← ih _ (fun g hg => h g (List.mem_cons_of_mem _ hg))]
    congr 1
    by_cases c : 8 < m
    · rw [if_pos c, Nat.min_eq_right (by omega : 8 ≤ m)]
      have : 8 * 1 ≤ 8 * va f := Nat.mul_le_mul_left 8 hf
      omega
    · rw [if_neg c, Nat.min_eq_left (by omega : m ≤ 8), Nat.min_comm]
/-- countCases -/
theorem rk_100 {rk : Nat → Nat} (hrk : rkd nf nd rk) (d : Nat) {T : Nat} {us : List Nat} {va : Nat → Nat} (hr : ∀ f, f < nf → hF f + 1 ≠ T + 3) (hq : ∀ f, f < nf → hF f + 2 ≠ T + 4) {x : Nat → Nat → Int32} {y : Nat → Nat → Option Nat} (hX : fxP n sh x hF nf) (hN : neP n sh x y hF nf nd) (hT : teP n sh x y hF nf T us) (hV : ∀ f, f < nf → x (hF f) 3 = nI (va f) ∧ 0 < va f ∧ va f < 4) : ∃ x' y', mj_Cl pg (d + 16) 100 [.inr (some T)] (bl n sh x y) = some (some (.inl (nI (cas nd va us))), bl n sh x' y') ∧ rowP n sh x' y' hF nf (T + 3) (T + 4) 12 (clo nd us) ∧ fX1 x x' (T + 3) ∧ fY1 y y' (T + 4) := by
  obtain ⟨x1, y1, q1, q2, q3, q4⟩ := rk_98 hrk d hr hq hX hN hT
  refine ⟨x1, y1, ?_, q2, q3, q4⟩
  have hTo := hT.1
  have hy3 : y1 T 3 = some (T + 3) := by rw [q4 _ _ (by omega)]; exact hT.2.2.1
  have hX1 := hX.fr1 q2.1.1 q3
  have hV1 : ∀ f, f < nf → x1 (hF f) 3 = nI (va f) := fun f hf => by rw [q3 _ _ (by omega)]; exact (hV f hf).1
  rw [e_100]
  simp only [s_100_0, s_100_1, s_100_4, s_100_5, s_100_6, s_100_7, mj_lI_s, mj_lI_0, mj_lA_s, mj_lA_0, mj_sL_s, mj_sL_0, mj_s8_0, mj_s8_1, mj_s8_2, mj_s8_3, mj_bc_n, mj_bc_s, mj_bd_s, u2_eq, u2_a, u2_k, ne_eq, Nat.reduceEqDiff, not_false_eq_true, List.nil_append, List.cons_append, eq_self, true_or, or_true, if_true, if_false, false_or, or_false, not_true_eq_false, Bool.false_eq_true, ie_m1_0, ie_m1_1, ie_m1_2, ie_m1_3, ie_m1_4, ie_m1_5, ie_0_m1, ie_0_1, ie_0_2, ie_0_3, ie_0_4, ie_0_5, ie_1_m1, ie_1_0, ie_1_2, ie_1_3, ie_1_4, ie_1_5, ie_2_m1, ie_2_0, ie_2_1, ie_2_3, ie_2_4, ie_2_5, ie_3_m1, ie_3_0, ie_3_1, ie_3_2, ie_3_4, ie_3_5, ie_4_m1, ie_4_0, ie_4_1, ie_4_2, ie_4_3, ie_4_5, ie_5_m1, ie_5_0, ie_5_1, ie_5_2, ie_5_3, ie_5_4, ct_3, cv_3, ci_3_0, cp_3_0, ci_3_1, cp_3_1, ci_3_2, cp_3_2, ci_3_3, cp_3_3, ct_6, cv_6, ci_6_0, cp_6_0, ci_6_1, cp_6_1, ci_6_2, cp_6_2, ci_6_3, cp_6_3, ci_6_4, cp_6_4, ci_6_5, cp_6_5, ci_6_6, cp_6_6, ci_6_7, cp_6_7, hTo, q1]
  have loop : ∀ (l : List Nat) (i m : Nat), i + l.length = (clo nd us).length → (∀ j g, l[j]? = some g → (clo nd us)[i + j]? = some g) → m ≤ 8 →
      mj_Rn pg (d + 16) 100 (8, [some (.inr (some T)), some (.inl (nI m)), some (.inl (nI i))], [], bl n sh x1 y1) = some (some (.inl (nI (l.foldl (fun m f => min 8 (m * va f)) m))), bl n sh x1 y1) := by
    have h1 := q2.2.1
    have h6 := q2.2.2.2.2.1
    have h0 := q2.1.2.2.1
    have hrN := q2.1.1
    have hqN := q2.1.2.1
    intro l
    induction l with
    | nil =>
      intro i m hi hl hm
      have e1 : i = (clo nd us).length := by simpa using hi
      have hkc : (nI (clo nd us).length ≤ nI i) = True := eq_true (nI_le (by omega) (by omega))
      rw [s_100_8]
      simp only [s_100_9, s_100_10, s_100_13, s_100_16, s_100_19, s_100_21, s_100_22, s_100_23, s_100_26, s_100_29, s_100_30, s_100_31, s_100_34, s_100_35, s_100_38, s_100_39, s_100_42, s_100_45, s_100_46, mj_lI_s, mj_lI_0, mj_lA_s, mj_lA_0, mj_sL_s, mj_sL_0, mj_s8_0, mj_s8_1, mj_s8_2, mj_s8_3, mj_bc_n, mj_bc_s, mj_bd_s, u2_eq, u2_a, u2_k, ne_eq, Nat.reduceEqDiff, not_false_eq_true, List.nil_append, List.cons_append, eq_self, true_or, or_true, if_true, if_false, false_or, or_false, not_true_eq_false, Bool.false_eq_true, ie_m1_0, ie_m1_1, ie_m1_2, ie_m1_3, ie_m1_4, ie_m1_5, ie_0_m1, ie_0_1, ie_0_2, ie_0_3, ie_0_4, ie_0_5, ie_1_m1, ie_1_0, ie_1_2, ie_1_3, ie_1_4, ie_1_5, ie_2_m1, ie_2_0, ie_2_1, ie_2_3, ie_2_4, ie_2_5, ie_3_m1, ie_3_0, ie_3_1, ie_3_2, ie_3_4, ie_3_5, ie_4_m1, ie_4_0, ie_4_1, ie_4_2, ie_4_3, ie_4_5, ie_5_m1, ie_5_0, ie_5_1, ie_5_2, ie_5_3, ie_5_4, ct_3, cv_3, ci_3_0, cp_3_0, ci_3_1, cp_3_1, ci_3_2, cp_3_2, ci_3_3, cp_3_3, ct_6, cv_6, ci_6_0, cp_6_0, ci_6_1, cp_6_1, ci_6_2, cp_6_2, ci_6_3, cp_6_3, ci_6_4, cp_6_4, ci_6_5, cp_6_5, ci_6_6, cp_6_6, ci_6_7, cp_6_7, hTo, hy3, hrN, h1, hkc, List.foldl_nil]
    | cons g l ihl =>
      intro i m hi hl hm
      have hlen : i + (l.length + 1) = (clo nd us).length := by simpa using hi
      have hkc : (nI (clo nd us).length ≤ nI i) = False := eq_false (nI_ge (by omega) (by omega))
      have hg0 : (clo nd us)[i]? = some g := by simpa using hl 0 g rfl
      have hg1 : y1 (T + 4) i = some (hF g) := q2.2.2.2.2.2.2 i g hg0
      have hgn : g < nf := q2.2.2.2.2.2.1 g (List.mem_of_getElem? hg0)
      have hgo := (hX1.2.1 g hgn).1
      have hgv := hV1 g hgn
      have hi12 : i < 12 := by omega
      have hmv : m * va g ≤ 24 := Nat.le_trans (Nat.mul_le_mul_left m (show va g ≤ 3 by have := (hV g hgn).2.2; omega)) (by omega)
      have hlt : (nI (m * va g) < 8) = (m * va g < 8) := nI_ltp (b := 8) (by omega) (by decide)
      have hi8 := ihl (i + 1) (min 8 (m * va g)) (by omega) (fun j g' hj => by
        have := hl (j + 1) g' (by rw [List.getElem?_cons_succ]; exact hj)
        rw [show i + 1 + j = i + (j + 1) by omega]
        exact this) (Nat.min_le_left _ _)
      rw [s_100_8]
      by_cases c : m * va g < 8
      · rw [Nat.min_eq_right (by omega)] at hi8
        simp only [s_100_9, s_100_10, s_100_13, s_100_16, s_100_19, s_100_21, s_100_22, s_100_23, s_100_26, s_100_29, s_100_30, s_100_31, s_100_34, s_100_35, s_100_38, s_100_39, s_100_42, mj_lI_s, mj_lI_0, mj_lA_s, mj_lA_0, mj_sL_s, mj_sL_0, mj_s8_0, mj_s8_1, mj_s8_2, mj_s8_3, mj_bc_n, mj_bc_s, mj_bd_s, u2_eq, u2_a, u2_k, ne_eq, Nat.reduceEqDiff, not_false_eq_true, List.nil_append, List.cons_append, eq_self, true_or, or_true, if_true, if_false, false_or, or_false, not_true_eq_false, Bool.false_eq_true, ie_m1_0, ie_m1_1, ie_m1_2, ie_m1_3, ie_m1_4, ie_m1_5, ie_0_m1, ie_0_1, ie_0_2, ie_0_3, ie_0_4, ie_0_5, ie_1_m1, ie_1_0, ie_1_2, ie_1_3, ie_1_4, ie_1_5, ie_2_m1, ie_2_0, ie_2_1, ie_2_3, ie_2_4, ie_2_5, ie_3_m1, ie_3_0, ie_3_1, ie_3_2, ie_3_4, ie_3_5, ie_4_m1, ie_4_0, ie_4_1, ie_4_2, ie_4_3, ie_4_5, ie_5_m1, ie_5_0, ie_5_1, ie_5_2, ie_5_3, ie_5_4, ct_1, cv_1, ci_1_0, cp_1_0, ci_1_1, cp_1_1, ci_1_2, cp_1_2, ci_1_3, cp_1_3, ci_1_4, cp_1_4, ci_1_5, cp_1_5, ci_1_6, cp_1_6, ci_1_7, cp_1_7, ci_1_8, cp_1_8, ci_1_9, cp_1_9, ci_1_10, cp_1_10, ci_1_11, cp_1_11, ci_1_12, cp_1_12, ci_1_13, cp_1_13, ci_1_14, cp_1_14, ct_3, cv_3, ci_3_0, cp_3_0, ci_3_1, cp_3_1, ci_3_2, cp_3_2, ci_3_3, cp_3_3, ct_6, cv_6, ci_6_0, cp_6_0, ci_6_1, cp_6_1, ci_6_2, cp_6_2, ci_6_3, cp_6_3, ci_6_4, cp_6_4, ci_6_5, cp_6_5, ci_6_6, cp_6_6, ci_6_7, cp_6_7, hTo, hy3, hrN, h1, hkc, h0, xr_102 hqN hi12 (by decide), hg1, hgo, hgv, nI_1, nI_mul, hlt, c, hi8, List.foldl_cons, Nat.min_eq_right (Nat.le_of_lt c)]
      · rw [Nat.min_eq_left (by omega)] at hi8
        have hi9 : mj_Rn pg (d + 16) 100 (8, [some (.inr (some T)), some (.inl 8), some (.inl (nI (i + 1)))], [], bl n sh x1 y1) = some (some (.inl (nI (l.foldl (fun m f => min 8 (m * va f)) 8))), bl n sh x1 y1) := hi8
        simp only [s_100_9, s_100_10, s_100_13, s_100_16, s_100_19, s_100_21, s_100_22, s_100_23, s_100_26, s_100_29, s_100_30, s_100_31, s_100_34, s_100_35, s_100_38, s_100_39, s_100_42, mj_lI_s, mj_lI_0, mj_lA_s, mj_lA_0, mj_sL_s, mj_sL_0, mj_s8_0, mj_s8_1, mj_s8_2, mj_s8_3, mj_bc_n, mj_bc_s, mj_bd_s, u2_eq, u2_a, u2_k, ne_eq, Nat.reduceEqDiff, not_false_eq_true, List.nil_append, List.cons_append, eq_self, true_or, or_true, if_true, if_false, false_or, or_false, not_true_eq_false, Bool.false_eq_true, ie_m1_0, ie_m1_1, ie_m1_2, ie_m1_3, ie_m1_4, ie_m1_5, ie_0_m1, ie_0_1, ie_0_2, ie_0_3, ie_0_4, ie_0_5, ie_1_m1, ie_1_0, ie_1_2, ie_1_3, ie_1_4, ie_1_5, ie_2_m1, ie_2_0, ie_2_1, ie_2_3, ie_2_4, ie_2_5, ie_3_m1, ie_3_0, ie_3_1, ie_3_2, ie_3_4, ie_3_5, ie_4_m1, ie_4_0, ie_4_1, ie_4_2, ie_4_3, ie_4_5, ie_5_m1, ie_5_0, ie_5_1, ie_5_2, ie_5_3, ie_5_4, ct_1, cv_1, ci_1_0, cp_1_0, ci_1_1, cp_1_1, ci_1_2, cp_1_2, ci_1_3, cp_1_3, ci_1_4, cp_1_4, ci_1_5, cp_1_5, ci_1_6, cp_1_6, ci_1_7, cp_1_7, ci_1_8, cp_1_8, ci_1_9, cp_1_9, ci_1_10, cp_1_10, ci_1_11, cp_1_11, ci_1_12, cp_1_12, ci_1_13, cp_1_13, ci_1_14, cp_1_14, ct_3, cv_3, ci_3_0, cp_3_0, ci_3_1, cp_3_1, ci_3_2, cp_3_2, ci_3_3, cp_3_3, ct_6, cv_6, ci_6_0, cp_6_0, ci_6_1, cp_6_1, ci_6_2, cp_6_2, ci_6_3, cp_6_3, ci_6_4, cp_6_4, ci_6_5, cp_6_5, ci_6_6, cp_6_6, ci_6_7, cp_6_7, hTo, hy3, hrN, h1, hkc, h0, xr_102 hqN hi12 (by decide), hg1, hgo, hgv, nI_1, nI_mul, hlt, c, hi9, List.foldl_cons, Nat.min_eq_left (Nat.le_of_not_lt c)]
  have := loop (clo nd us) 0 1 (by omega) (fun j g hj => by rw [Nat.zero_add]; exact hj) (by decide)
  have e9 : cas nd va us = (clo nd us).foldl (fun m f => min 8 (m * va f)) 1 := by
    have := cas_min va (clo nd us) 1 (fun f hf => (hV f (q2.2.2.2.2.2.1 f hf)).2.1)
    unfold cas
    rw [← this]
    rfl
  rw [e9]
  exact this
end CB
