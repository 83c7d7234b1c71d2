/-! both sides: takes, fails, uses, needs -/
theorem up1_eq {α : Type} (h : Nat → α) (a : Nat) (v : α) : up1 h a v a = v := if_pos rfl
theorem up1_ne {α : Type} {h : Nat → α} {a b : Nat} {v : α} (q : b ≠ a) : up1 h a v b = h b := if_neg q
theorem nums_app {g g' : Nat → Int32} {i f : Nat} {l : List Nat} (h : nums g i l) (h1 : ∀ j, j < l.length → g' (i + j) = g (i + j)) (h2 : g' (i + l.length) = nI f) (hf : f < 1000) : nums g' i (l ++ [f]) := by
  intro j q hj
  rcases Nat.lt_or_ge j l.length with z | z
  · rw [List.getElem?_append_left z] at hj
    rw [h1 j z]; exact h j q hj
  · rw [List.getElem?_append_right z] at hj
    have g2 : j - l.length < 1 := (List.getElem?_eq_some_iff.mp hj).1
    have g3 : j = l.length := by omega
    subst g3
    rw [Nat.sub_self] at hj
    cases hj
    exact ⟨h2, hf⟩
section TM
variable {n : Nat} {sh : Nat → Nat × Nat} {x : Nat → Nat → Int32} {y : Nat → Nat → Option Nat}
theorem op_6 (h : GI n sh x y) (t a b : Int32) : opR n sh x y 6 25 [.inl t, .inl a, .inl b] := by
  obtain ⟨hF, hT, w, nb, cc, nfT, L, hI, hr1, hr2, hr3⟩ := h
  obtain ⟨hS, hJ, hR, hX, hn⟩ := id hI
  have h127 : ∀ f, f < nfT → 127 ≤ hF f := fun f hf => hS.2.2.2.2.2.1 f (by omega)
  obtain ⟨a1, a2, a3⟩ := hJ.1
  have h2o := hS.1.1
  have h20 := hS.1.2.2.2.2.2.2.2
  have no : (t < 0 ∨ nI (wT w) ≤ t ∨ a < 0 ∨ b < 0) → mj_Cl pg 60 6 [.inr (some 1), .inl t, .inl a, .inl b] (bl n sh x y) = some (some (.inl 0), bl n sh x y) → opR n sh x y 6 25 [.inl t, .inl a, .inl b] := fun c hc => by
    have q := mm_25 (x := x) (y := y) 58 hR.1 hR.2.1 hR.2.2.1.2.2.1.1 hR.2.2.1.2.2.1.2.1 t a b
    rw [if_pos c] at q
    exact ⟨n, sh, x, y, u2 x 91 0 0, _, hc, q, ⟨hF, hT, w, nb, cc, nfT, L, ⟨hS.sC (sC.w0 x 0), hJ.sC h127 (sC.w0 x 0), hR.w0 0, hX, hn⟩, hr1, hr2, hr3⟩, rfl, fun k => ⟨rfl, u2_a (by decide)⟩⟩
  rcases i_cs (i := t) (m := wT w) (by omega) with c | ⟨k, hk, e, c⟩
  · refine no (by rcases c with z | z; exact Or.inl z; exact Or.inr (Or.inl z)) ?_
    have c91 := rk_91n 58 hS c
    show mj_Cl pg (59 + 1) 6 _ _ = _
    rw [e_6]
    simp only [s_6_0, s_6_1, s_6_4, s_6_5, s_6_8, s_6_10, s_6_12_0, s_6_12_1, s_6_15, s_6_16, s_6_19, s_6_20, s_6_23, s_6_24, s_6_25, s_6_27, s_6_28, s_6_31, s_6_33, s_6_34, s_6_37, s_6_38, mj_lI_s, mj_lI_0, mj_lA_s, mj_lA_0, mj_sL_s, mj_sL_0, mj_s8_0, mj_s8_1, mj_s8_2, mj_s8_3, mj_bc_n, mj_bc_s, mj_bd_s, u2_eq, u2_a, u2_k, ne_eq, Nat.reduceEqDiff, not_false_eq_true, List.nil_append, List.cons_append, eq_self, true_or, or_true, if_true, if_false, false_or, or_false, not_true_eq_false, Bool.false_eq_true, ie_m1_0, ie_m1_1, ie_m1_2, ie_m1_3, ie_m1_4, ie_m1_5, ie_0_m1, ie_0_1, ie_0_2, ie_0_3, ie_0_4, ie_0_5, ie_1_m1, ie_1_0, ie_1_2, ie_1_3, ie_1_4, ie_1_5, ie_2_m1, ie_2_0, ie_2_1, ie_2_3, ie_2_4, ie_2_5, ie_3_m1, ie_3_0, ie_3_1, ie_3_2, ie_3_4, ie_3_5, ie_4_m1, ie_4_0, ie_4_1, ie_4_2, ie_4_3, ie_4_5, ie_5_m1, ie_5_0, ie_5_1, ie_5_2, ie_5_3, ie_5_4, ct_5, cv_5, ci_5_0, cp_5_0, ci_5_1, cp_5_1, ci_5_2, cp_5_2, ci_5_3, cp_5_3, ct_7, cv_7, ci_7_0, cp_7_0, ci_7_1, cp_7_1, a1, a2, h2o, c91]
  · subst e
    have c91 := rk_91s 58 hS hk
    have hTo := (hS.2.2.2.2.1 k hk).2.1.1
    have hk127 := hS.2.2.2.2.2.2.1 k hk
    by_cases ca : a < 0
    · refine no (Or.inr (Or.inr (Or.inl ca))) ?_
      show mj_Cl pg (59 + 1) 6 _ _ = _
      rw [e_6]
      simp only [s_6_0, s_6_1, s_6_4, s_6_5, s_6_8, s_6_10, s_6_12_0, s_6_12_1, s_6_15, s_6_16, s_6_19, s_6_20, s_6_23, s_6_24, s_6_25, s_6_27, s_6_28, s_6_31, s_6_33, s_6_34, s_6_37, s_6_38, mj_lI_s, mj_lI_0, mj_lA_s, mj_lA_0, mj_sL_s, mj_sL_0, mj_s8_0, mj_s8_1, mj_s8_2, mj_s8_3, mj_bc_n, mj_bc_s, mj_bd_s, u2_eq, u2_a, u2_k, ne_eq, Nat.reduceEqDiff, not_false_eq_true, List.nil_append, List.cons_append, eq_self, true_or, or_true, if_true, if_false, false_or, or_false, not_true_eq_false, Bool.false_eq_true, ie_m1_0, ie_m1_1, ie_m1_2, ie_m1_3, ie_m1_4, ie_m1_5, ie_0_m1, ie_0_1, ie_0_2, ie_0_3, ie_0_4, ie_0_5, ie_1_m1, ie_1_0, ie_1_2, ie_1_3, ie_1_4, ie_1_5, ie_2_m1, ie_2_0, ie_2_1, ie_2_3, ie_2_4, ie_2_5, ie_3_m1, ie_3_0, ie_3_1, ie_3_2, ie_3_4, ie_3_5, ie_4_m1, ie_4_0, ie_4_1, ie_4_2, ie_4_3, ie_4_5, ie_5_m1, ie_5_0, ie_5_1, ie_5_2, ie_5_3, ie_5_4, ct_5, cv_5, ci_5_0, cp_5_0, ci_5_1, cp_5_1, ci_5_2, cp_5_2, ci_5_3, cp_5_3, ct_6, cv_6, ci_6_0, cp_6_0, ci_6_1, cp_6_1, ci_6_2, cp_6_2, ci_6_3, cp_6_3, ci_6_4, cp_6_4, ci_6_5, cp_6_5, ci_6_6, cp_6_6, ci_6_7, cp_6_7, ct_7, cv_7, ci_7_0, cp_7_0, ci_7_1, cp_7_1, a1, a2, h2o, c91, ca]
    by_cases cb : b < 0
    · refine no (Or.inr (Or.inr (Or.inr cb))) ?_
      have cb' : ¬ (0 ≤ b) := Int32.not_le.mpr cb
      show mj_Cl pg (59 + 1) 6 _ _ = _
      rw [e_6]
      simp only [s_6_0, s_6_1, s_6_4, s_6_5, s_6_8, s_6_10, s_6_12_0, s_6_12_1, s_6_15, s_6_16, s_6_19, s_6_20, s_6_23, s_6_24, s_6_25, s_6_27, s_6_28, s_6_31, s_6_33, s_6_34, s_6_37, s_6_38, mj_lI_s, mj_lI_0, mj_lA_s, mj_lA_0, mj_sL_s, mj_sL_0, mj_s8_0, mj_s8_1, mj_s8_2, mj_s8_3, mj_bc_n, mj_bc_s, mj_bd_s, u2_eq, u2_a, u2_k, ne_eq, Nat.reduceEqDiff, not_false_eq_true, List.nil_append, List.cons_append, eq_self, true_or, or_true, if_true, if_false, false_or, or_false, not_true_eq_false, Bool.false_eq_true, ie_m1_0, ie_m1_1, ie_m1_2, ie_m1_3, ie_m1_4, ie_m1_5, ie_0_m1, ie_0_1, ie_0_2, ie_0_3, ie_0_4, ie_0_5, ie_1_m1, ie_1_0, ie_1_2, ie_1_3, ie_1_4, ie_1_5, ie_2_m1, ie_2_0, ie_2_1, ie_2_3, ie_2_4, ie_2_5, ie_3_m1, ie_3_0, ie_3_1, ie_3_2, ie_3_4, ie_3_5, ie_4_m1, ie_4_0, ie_4_1, ie_4_2, ie_4_3, ie_4_5, ie_5_m1, ie_5_0, ie_5_1, ie_5_2, ie_5_3, ie_5_4, ct_5, cv_5, ci_5_0, cp_5_0, ci_5_1, cp_5_1, ci_5_2, cp_5_2, ci_5_3, cp_5_3, ct_6, cv_6, ci_6_0, cp_6_0, ci_6_1, cp_6_1, ci_6_2, cp_6_2, ci_6_3, cp_6_3, ci_6_4, cp_6_4, ci_6_5, cp_6_5, ci_6_6, cp_6_6, ci_6_7, cp_6_7, ct_7, cv_7, ci_7_0, cp_7_0, ci_7_1, cp_7_1, a1, a2, h2o, c91, ca, cb, cb']
    have cb' : 0 ≤ b := Int32.not_lt.mp cb
    have hI' := hI.num hk (Or.inl rfl) a b (fun z => absurd z (by decide))
    have hR1 : rI n sh (u2 (u2 x (hT k) 4 a) (hT k) 5 b) y w nfT L := hR.cong (fun c j z1 z2 => ⟨by rw [u2_a (by omega), u2_a (by omega)], rfl⟩)
    have q := mm_25 (x := u2 (u2 x (hT k) 4 a) (hT k) 5 b) (y := y) 58 hR1.1 hR1.2.1 hR1.2.2.1.2.2.1.1 hR1.2.2.1.2.2.1.2.1 (nI k) a b
    rw [if_neg (fun z => by rcases z with z | z | z | z; exact c (Or.inl z); exact c (Or.inr z); exact ca z; exact cb z), nI_clamp (show k < 2 ^ 31 by omega)] at q
    refine ⟨n, sh, _, y, _, _, ?_, q, ⟨hF, hT, _, nb, cc, nfT, L, hI', hr1, hr2, hr3⟩, rfl, fun j => ⟨by rw [u2_a (by omega), u2_a (by omega)], by rw [u2_a (by decide), u2_a (by decide), u2_a (by decide), u2_a (by omega), u2_a (by omega)]⟩⟩
    show mj_Cl pg (59 + 1) 6 _ _ = _
    rw [e_6]
    simp only [s_6_0, s_6_1, s_6_4, s_6_5, s_6_8, s_6_10, s_6_12_0, s_6_12_1, s_6_15, s_6_16, s_6_19, s_6_20, s_6_23, s_6_24, s_6_25, s_6_27, s_6_28, s_6_31, s_6_33, s_6_34, s_6_37, s_6_38, mj_lI_s, mj_lI_0, mj_lA_s, mj_lA_0, mj_sL_s, mj_sL_0, mj_s8_0, mj_s8_1, mj_s8_2, mj_s8_3, mj_bc_n, mj_bc_s, mj_bd_s, u2_eq, u2_a, u2_k, ne_eq, Nat.reduceEqDiff, not_false_eq_true, List.nil_append, List.cons_append, eq_self, true_or, or_true, if_true, if_false, false_or, or_false, not_true_eq_false, Bool.false_eq_true, ie_m1_0, ie_m1_1, ie_m1_2, ie_m1_3, ie_m1_4, ie_m1_5, ie_0_m1, ie_0_1, ie_0_2, ie_0_3, ie_0_4, ie_0_5, ie_1_m1, ie_1_0, ie_1_2, ie_1_3, ie_1_4, ie_1_5, ie_2_m1, ie_2_0, ie_2_1, ie_2_3, ie_2_4, ie_2_5, ie_3_m1, ie_3_0, ie_3_1, ie_3_2, ie_3_4, ie_3_5, ie_4_m1, ie_4_0, ie_4_1, ie_4_2, ie_4_3, ie_4_5, ie_5_m1, ie_5_0, ie_5_1, ie_5_2, ie_5_3, ie_5_4, ct_5, cv_5, ci_5_0, cp_5_0, ci_5_1, cp_5_1, ci_5_2, cp_5_2, ci_5_3, cp_5_3, ct_6, cv_6, ci_6_0, cp_6_0, ci_6_1, cp_6_1, ci_6_2, cp_6_2, ci_6_3, cp_6_3, ci_6_4, cp_6_4, ci_6_5, cp_6_5, ci_6_6, cp_6_6, ci_6_7, cp_6_7, ct_7, cv_7, ci_7_0, cp_7_0, ci_7_1, cp_7_1, a1, a2, h2o, c91, hTo, ca, cb, cb']
theorem op_7 (h : GI n sh x y) (t a b : Int32) : opR n sh x y 7 26 [.inl t, .inl a, .inl b] := by
  obtain ⟨hF, hT, w, nb, cc, nfT, L, hI, hr1, hr2, hr3⟩ := h
  obtain ⟨hS, hJ, hR, hX, hn⟩ := id hI
  have h127 : ∀ f, f < nfT → 127 ≤ hF f := fun f hf => hS.2.2.2.2.2.1 f (by omega)
  obtain ⟨a1, a2, a3⟩ := hJ.1
  have h2o := hS.1.1
  have h20 := hS.1.2.2.2.2.2.2.2
  have no : (t < 0 ∨ nI (wT w) ≤ t ∨ a < 0 ∨ 2 < a ∨ b < 0 ∨ 2 < b) → mj_Cl pg 60 7 [.inr (some 1), .inl t, .inl a, .inl b] (bl n sh x y) = some (some (.inl 0), bl n sh x y) → opR n sh x y 7 26 [.inl t, .inl a, .inl b] := fun c hc => by
    have q := mm_26 (x := x) (y := y) 58 hR.1 hR.2.1 hR.2.2.1.2.2.1.1 hR.2.2.1.2.2.1.2.1 t a b
    rw [if_pos c] at q
    exact ⟨n, sh, x, y, u2 x 91 0 0, _, hc, q, ⟨hF, hT, w, nb, cc, nfT, L, ⟨hS.sC (sC.w0 x 0), hJ.sC h127 (sC.w0 x 0), hR.w0 0, hX, hn⟩, hr1, hr2, hr3⟩, rfl, fun k => ⟨rfl, u2_a (by decide)⟩⟩
  rcases i_cs (i := t) (m := wT w) (by omega) with c | ⟨k, hk, e, c⟩
  · refine no (by rcases c with z | z; exact Or.inl z; exact Or.inr (Or.inl z)) ?_
    have c91 := rk_91n 58 hS c
    show mj_Cl pg (59 + 1) 7 _ _ = _
    rw [e_7]
    simp only [s_7_0, s_7_1, s_7_4, s_7_5, s_7_8, s_7_10, s_7_12_0, s_7_12_1, s_7_15, s_7_16, s_7_17, s_7_18, s_7_21, s_7_24, s_7_25, s_7_26, s_7_27, s_7_30, s_7_33, s_7_34, s_7_35, s_7_37, s_7_38, s_7_41, s_7_43, s_7_44, s_7_47, s_7_48, mj_lI_s, mj_lI_0, mj_lA_s, mj_lA_0, mj_sL_s, mj_sL_0, mj_s8_0, mj_s8_1, mj_s8_2, mj_s8_3, mj_bc_n, mj_bc_s, mj_bd_s, u2_eq, u2_a, u2_k, ne_eq, Nat.reduceEqDiff, not_false_eq_true, List.nil_append, List.cons_append, eq_self, true_or, or_true, if_true, if_false, false_or, or_false, not_true_eq_false, Bool.false_eq_true, ie_m1_0, ie_m1_1, ie_m1_2, ie_m1_3, ie_m1_4, ie_m1_5, ie_0_m1, ie_0_1, ie_0_2, ie_0_3, ie_0_4, ie_0_5, ie_1_m1, ie_1_0, ie_1_2, ie_1_3, ie_1_4, ie_1_5, ie_2_m1, ie_2_0, ie_2_1, ie_2_3, ie_2_4, ie_2_5, ie_3_m1, ie_3_0, ie_3_1, ie_3_2, ie_3_4, ie_3_5, ie_4_m1, ie_4_0, ie_4_1, ie_4_2, ie_4_3, ie_4_5, ie_5_m1, ie_5_0, ie_5_1, ie_5_2, ie_5_3, ie_5_4, ct_5, cv_5, ci_5_0, cp_5_0, ci_5_1, cp_5_1, ci_5_2, cp_5_2, ci_5_3, cp_5_3, ct_7, cv_7, ci_7_0, cp_7_0, ci_7_1, cp_7_1, a1, a2, h2o, c91]
  · subst e
    have c91 := rk_91s 58 hS hk
    have hTo := (hS.2.2.2.2.1 k hk).2.1.1
    have hk127 := hS.2.2.2.2.2.2.1 k hk
    have ca15 := fun h => rk_15 58 a 0 2 h
    have cb15 := fun h => rk_15 58 b 0 2 h
    have c10 : ¬ ((1 : Int32) = 0) := by decide
    by_cases ca : a < 0 ∨ 2 < a
    · refine no (by rcases ca with z | z; exact Or.inr (Or.inr (Or.inl z)); exact Or.inr (Or.inr (Or.inr (Or.inl z)))) ?_
      simp only [if_pos ca] at ca15
      show mj_Cl pg (59 + 1) 7 _ _ = _
      rw [e_7]
      simp only [s_7_0, s_7_1, s_7_4, s_7_5, s_7_8, s_7_10, s_7_12_0, s_7_12_1, s_7_15, s_7_16, s_7_17, s_7_18, s_7_21, s_7_24, s_7_25, s_7_26, s_7_27, s_7_30, s_7_33, s_7_34, s_7_35, s_7_37, s_7_38, s_7_41, s_7_43, s_7_44, s_7_47, s_7_48, mj_lI_s, mj_lI_0, mj_lA_s, mj_lA_0, mj_sL_s, mj_sL_0, mj_s8_0, mj_s8_1, mj_s8_2, mj_s8_3, mj_bc_n, mj_bc_s, mj_bd_s, u2_eq, u2_a, u2_k, ne_eq, Nat.reduceEqDiff, not_false_eq_true, List.nil_append, List.cons_append, eq_self, true_or, or_true, if_true, if_false, false_or, or_false, not_true_eq_false, Bool.false_eq_true, ie_m1_0, ie_m1_1, ie_m1_2, ie_m1_3, ie_m1_4, ie_m1_5, ie_0_m1, ie_0_1, ie_0_2, ie_0_3, ie_0_4, ie_0_5, ie_1_m1, ie_1_0, ie_1_2, ie_1_3, ie_1_4, ie_1_5, ie_2_m1, ie_2_0, ie_2_1, ie_2_3, ie_2_4, ie_2_5, ie_3_m1, ie_3_0, ie_3_1, ie_3_2, ie_3_4, ie_3_5, ie_4_m1, ie_4_0, ie_4_1, ie_4_2, ie_4_3, ie_4_5, ie_5_m1, ie_5_0, ie_5_1, ie_5_2, ie_5_3, ie_5_4, ct_5, cv_5, ci_5_0, cp_5_0, ci_5_1, cp_5_1, ci_5_2, cp_5_2, ci_5_3, cp_5_3, ct_6, cv_6, ci_6_0, cp_6_0, ci_6_1, cp_6_1, ci_6_2, cp_6_2, ci_6_3, cp_6_3, ci_6_4, cp_6_4, ci_6_5, cp_6_5, ci_6_6, cp_6_6, ci_6_7, cp_6_7, ct_7, cv_7, ci_7_0, cp_7_0, ci_7_1, cp_7_1, a1, a2, h2o, c91, ca15]
    simp only [if_neg ca] at ca15
    by_cases cb : b < 0 ∨ 2 < b
    · refine no (Or.inr (Or.inr (Or.inr (Or.inr cb)))) ?_
      simp only [if_pos cb] at cb15
      show mj_Cl pg (59 + 1) 7 _ _ = _
      rw [e_7]
      simp only [s_7_0, s_7_1, s_7_4, s_7_5, s_7_8, s_7_10, s_7_12_0, s_7_12_1, s_7_15, s_7_16, s_7_17, s_7_18, s_7_21, s_7_24, s_7_25, s_7_26, s_7_27, s_7_30, s_7_33, s_7_34, s_7_35, s_7_37, s_7_38, s_7_41, s_7_43, s_7_44, s_7_47, s_7_48, mj_lI_s, mj_lI_0, mj_lA_s, mj_lA_0, mj_sL_s, mj_sL_0, mj_s8_0, mj_s8_1, mj_s8_2, mj_s8_3, mj_bc_n, mj_bc_s, mj_bd_s, u2_eq, u2_a, u2_k, ne_eq, Nat.reduceEqDiff, not_false_eq_true, List.nil_append, List.cons_append, eq_self, true_or, or_true, if_true, if_false, false_or, or_false, not_true_eq_false, Bool.false_eq_true, ie_m1_0, ie_m1_1, ie_m1_2, ie_m1_3, ie_m1_4, ie_m1_5, ie_0_m1, ie_0_1, ie_0_2, ie_0_3, ie_0_4, ie_0_5, ie_1_m1, ie_1_0, ie_1_2, ie_1_3, ie_1_4, ie_1_5, ie_2_m1, ie_2_0, ie_2_1, ie_2_3, ie_2_4, ie_2_5, ie_3_m1, ie_3_0, ie_3_1, ie_3_2, ie_3_4, ie_3_5, ie_4_m1, ie_4_0, ie_4_1, ie_4_2, ie_4_3, ie_4_5, ie_5_m1, ie_5_0, ie_5_1, ie_5_2, ie_5_3, ie_5_4, ct_5, cv_5, ci_5_0, cp_5_0, ci_5_1, cp_5_1, ci_5_2, cp_5_2, ci_5_3, cp_5_3, ct_6, cv_6, ci_6_0, cp_6_0, ci_6_1, cp_6_1, ci_6_2, cp_6_2, ci_6_3, cp_6_3, ci_6_4, cp_6_4, ci_6_5, cp_6_5, ci_6_6, cp_6_6, ci_6_7, cp_6_7, ct_7, cv_7, ci_7_0, cp_7_0, ci_7_1, cp_7_1, a1, a2, h2o, c91, ca15, cb15, c10]
    simp only [if_neg cb] at cb15
    have hI' := hI.num hk (Or.inr rfl) a b (fun _ => ⟨Int32.not_lt.mp (fun z => cb (Or.inl z)), Int32.not_lt.mp (fun z => cb (Or.inr z))⟩)
    have hR1 : rI n sh (u2 (u2 x (hT k) 6 a) (hT k) 7 b) y w nfT L := hR.cong (fun c j z1 z2 => ⟨by rw [u2_a (by omega), u2_a (by omega)], rfl⟩)
    have q := mm_26 (x := u2 (u2 x (hT k) 6 a) (hT k) 7 b) (y := y) 58 hR1.1 hR1.2.1 hR1.2.2.1.2.2.1.1 hR1.2.2.1.2.2.1.2.1 (nI k) a b
    rw [if_neg (fun z => by rcases z with z | z | z | z | z | z; exact c (Or.inl z); exact c (Or.inr z); exact ca (Or.inl z); exact ca (Or.inr z); exact cb (Or.inl z); exact cb (Or.inr z)), nI_clamp (show k < 2 ^ 31 by omega)] at q
    refine ⟨n, sh, _, y, _, _, ?_, q, ⟨hF, hT, _, nb, cc, nfT, L, hI', hr1, hr2, hr3⟩, rfl, fun j => ⟨by rw [u2_a (by omega), u2_a (by omega)], by rw [u2_a (by decide), u2_a (by decide), u2_a (by decide), u2_a (by omega), u2_a (by omega)]⟩⟩
    show mj_Cl pg (59 + 1) 7 _ _ = _
    rw [e_7]
    simp only [s_7_0, s_7_1, s_7_4, s_7_5, s_7_8, s_7_10, s_7_12_0, s_7_12_1, s_7_15, s_7_16, s_7_17, s_7_18, s_7_21, s_7_24, s_7_25, s_7_26, s_7_27, s_7_30, s_7_33, s_7_34, s_7_35, s_7_37, s_7_38, s_7_41, s_7_43, s_7_44, s_7_47, s_7_48, mj_lI_s, mj_lI_0, mj_lA_s, mj_lA_0, mj_sL_s, mj_sL_0, mj_s8_0, mj_s8_1, mj_s8_2, mj_s8_3, mj_bc_n, mj_bc_s, mj_bd_s, u2_eq, u2_a, u2_k, ne_eq, Nat.reduceEqDiff, not_false_eq_true, List.nil_append, List.cons_append, eq_self, true_or, or_true, if_true, if_false, false_or, or_false, not_true_eq_false, Bool.false_eq_true, ie_m1_0, ie_m1_1, ie_m1_2, ie_m1_3, ie_m1_4, ie_m1_5, ie_0_m1, ie_0_1, ie_0_2, ie_0_3, ie_0_4, ie_0_5, ie_1_m1, ie_1_0, ie_1_2, ie_1_3, ie_1_4, ie_1_5, ie_2_m1, ie_2_0, ie_2_1, ie_2_3, ie_2_4, ie_2_5, ie_3_m1, ie_3_0, ie_3_1, ie_3_2, ie_3_4, ie_3_5, ie_4_m1, ie_4_0, ie_4_1, ie_4_2, ie_4_3, ie_4_5, ie_5_m1, ie_5_0, ie_5_1, ie_5_2, ie_5_3, ie_5_4, ct_5, cv_5, ci_5_0, cp_5_0, ci_5_1, cp_5_1, ci_5_2, cp_5_2, ci_5_3, cp_5_3, ct_6, cv_6, ci_6_0, cp_6_0, ci_6_1, cp_6_1, ci_6_2, cp_6_2, ci_6_3, cp_6_3, ci_6_4, cp_6_4, ci_6_5, cp_6_5, ci_6_6, cp_6_6, ci_6_7, cp_6_7, ct_7, cv_7, ci_7_0, cp_7_0, ci_7_1, cp_7_1, a1, a2, h2o, c91, hTo, ca15, cb15, c10]
/-- one use more -/
theorem INV.use {hF hT cc : Nat → Nat} {w : sW} {nb : Nat → Nat → Bool} {nfT : Nat} {L : rq × List re3 × List (Nat → Int32)} (h : INV n sh x y hF hT w nb cc nfT L) {t f : Nat} (ht : t < wT w) (hf : f < wF w) (hl : (wU w t).length < 6) {x1 : Nat → Nat → Int32} {y1 : Nat → Nat → Option Nat} (hR1 : rowP n sh x1 y1 hF (wF w) (hT t + 1) (hT t + 2) 6 (wU w t ++ [f])) (hfx : fX1 x x1 (hT t + 1)) (hfy : fY1 y y1 (hT t + 2)) :
    INV n sh (u2 (u2 (u2 x1 91 0 0) 100 (6 * t + (wU w t).length) (nI f)) 99 t (nI ((wU w t).length + 1))) y1 hF hT (w.1, w.2.1, up1 w.2.2.1 t (wU w t ++ [f]), w.2.2.2.1, w.2.2.2.2) nb cc nfT L := by
  obtain ⟨hS, hJ, hR, hX, hn⟩ := h
  have l127 : ∀ t, t < wT w → 127 ≤ hT t := hS.2.2.2.2.2.2.1
  have h127 : ∀ f, f < wF w → 127 ≤ hF f := hS.2.2.2.2.2.1
  have ht127 := l127 t ht
  have h12 := hS.2.1.1
  have hS1 : suP n sh x1 y1 hF hT (w.1, w.2.1, up1 w.2.2.1 t (wU w t ++ [f]), w.2.2.2.1, w.2.2.2.2) nb := by
    have l5 := hS.2.2.2.2.2.2.2.2.2
    have l4 := hS.2.2.2.2.2.2.2.2.1
    refine hS.re (fun c j q => ⟨hfx c j (by omega), hfy c j (by omega)⟩) (fun g hg => ?_) (fun g hg => ?_) (fun u hu => ?_)
    · have := l5 g t hg ht
      exact ⟨fun j _ => hfx _ _ (by omega), hfy _ _ (by omega), fun i => by rw [hfx _ _ (by omega)]; exact (hS.2.2.1 g hg).1.2.2.2.2.2 i, rfl⟩
    · have := l5 g t hg ht
      exact (hS.2.2.2.1 g hg).2.cong (fun j => hfx _ _ (by omega)) (hfy _ _ (by omega)) (fun j => hfy _ _ (by omega))
    · obtain ⟨e1, ⟨e2, e3, e4, e5, e6⟩, ⟨g1, g2, g3, g4, g5, g6⟩, e7⟩ := hS.2.2.2.2.1 u hu
      by_cases c : u = t
      · subst c
        refine ⟨fun j _ => hfy _ _ (by omega), hfx _ _ (by omega), hfx _ _ (by omega), rfl, by rw [up1_eq]; exact hR1, ⟨e6.1, e6.2.1, by rw [hfy _ _ (by omega)]; exact e6.2.2.1, by rw [hfx _ _ (by omega)]; exact e6.2.2.2.1, e6.2.2.2.2⟩, ?_, ?_, ?_, ?_, e7⟩
        · rw [hfx _ _ (by omega)]; exact g3
        · rw [hfx _ _ (by omega)]; exact g4
        · rw [hfx _ _ (by omega)]; exact g5
        · rw [hfx _ _ (by omega)]; exact g6
      · have := l4 u t hu ht c
        refine ⟨fun j _ => hfy _ _ (by omega), hfx _ _ (by omega), hfx _ _ (by omega), rfl, by rw [up1_ne c]; exact e5.cong (fun j => hfx _ _ (by omega)) (hfy _ _ (by omega)) (fun j => hfy _ _ (by omega)), ⟨e6.1, e6.2.1, by rw [hfy _ _ (by omega)]; exact e6.2.2.1, by rw [hfx _ _ (by omega)]; exact e6.2.2.2.1, e6.2.2.2.2⟩, ?_, ?_, ?_, ?_, e7⟩
        · rw [hfx _ _ (by omega)]; exact g3
        · rw [hfx _ _ (by omega)]; exact g4
        · rw [hfx _ _ (by omega)]; exact g5
        · rw [hfx _ _ (by omega)]; exact g6
  have hJ1 : cJ n sh x1 y1 hF hT cc (wT w) nfT L := hJ.cong (fun c j q1 q2 => hfx _ _ (by omega)) (fun c j q1 q2 q3 q4 => hfy _ _ (by omega)) (fun g j q1 q2 => hfx _ _ (by have := hS.2.2.2.2.2.2.2.2.2 g t (by omega) ht; omega))
  have hR2 : rI n sh x1 y1 w nfT L := hR.cong (fun c j q1 q2 => ⟨hfx _ _ (by omega), hfy _ _ (by omega)⟩)
  have hsC : sC x1 (u2 (u2 (u2 x1 91 0 0) 100 (6 * t + (wU w t).length) (nI f)) 99 t (nI ((wU w t).length + 1))) := fun c j q => by rw [u2_a (by omega), u2_a (by omega), u2_a (by omega)]
  have hxm : ∀ c j, ¬ (c = 99 ∧ j = t) → ¬ (c = 100 ∧ j = 6 * t + (wU w t).length) → ¬ (c = 91 ∧ j = 0) → (u2 (u2 (u2 x1 91 0 0) 100 (6 * t + (wU w t).length) (nI f)) 99 t (nI ((wU w t).length + 1))) c j = x1 c j := fun c j h3 h4 h5 => by rw [u2_ne h3, u2_ne h4, u2_ne h5]
  have h99 : (u2 (u2 (u2 x1 91 0 0) 100 (6 * t + (wU w t).length) (nI f)) 99 t (nI ((wU w t).length + 1))) 99 t = nI ((wU w t).length + 1) := u2_eq _ _ _ _
  have h100 : (u2 (u2 (u2 x1 91 0 0) 100 (6 * t + (wU w t).length) (nI f)) 99 t (nI ((wU w t).length + 1))) 100 (6 * t + (wU w t).length) = nI f := by rw [u2_a (by decide), u2_eq]
  generalize (u2 (u2 (u2 x1 91 0 0) 100 (6 * t + (wU w t).length) (nI f)) 99 t (nI ((wU w t).length + 1))) = X at hsC hxm h99 h100
  refine ⟨hS1.sC hsC, hJ1.sC (fun g hg => h127 g (by omega)) hsC, ⟨hR2.1, hR2.2.1, ?_, ⟨fun g z1 z2 => ?_, fun u z1 z2 => ?_⟩, hR2.2.2.2.2.cong (fun j q => hxm 91 j (by omega) (by omega) (by omega)) (fun c j q1 q2 => hxm c j (by omega) (by omega) (by omega))⟩, hX, hn⟩
  · obtain ⟨m1, m2, m3, m4, m5⟩ := hR2.2.2.1
    refine ⟨⟨?_, m1.2.1, fun g hg => ?_⟩, fun g hg => ?_, ⟨?_, m3.2.1, fun u hu => ?_⟩, fun g hg => ?_, fun u hu => ?_⟩
    · rw [hxm _ _ (by omega) (by omega) (by omega)]; exact m1.1
    · obtain ⟨z1, z2, z3, z4⟩ := m1.2.2 g hg
      exact ⟨by rw [hxm _ _ (by omega) (by omega) (by omega)]; exact z1, z2, fun j q hj => by rw [hxm _ _ (by omega) (by omega) (by omega)]; exact z3 j q hj, z4⟩
    · rw [hxm _ _ (by omega) (by omega) (by omega)]; exact m2 g hg
    · rw [hxm _ _ (by omega) (by omega) (by omega)]; exact m3.1
    · obtain ⟨z1, z2, z3, z4⟩ := m3.2.2 u hu
      show X 99 u = nI (up1 w.2.2.1 t (wU w t ++ [f]) u).length ∧ (up1 w.2.2.1 t (wU w t ++ [f]) u).length ≤ 6 ∧ nums (X 100) (6 * u) (up1 w.2.2.1 t (wU w t ++ [f]) u) ∧ ∀ g ∈ up1 w.2.2.1 t (wU w t ++ [f]) u, g < wF w
      by_cases c : u = t
      · subst c
        rw [up1_eq, h99, List.length_append]
        refine ⟨rfl, hl, nums_app z3 (fun j hj => hxm _ _ (by omega) (by omega) (by omega)) h100 (by omega), fun g hg => ?_⟩
        rcases List.mem_append.mp hg with q | q
        · exact z4 g q
        · rw [List.mem_singleton.mp q]; exact hf
      · rw [up1_ne c, hxm _ _ (by omega) (by omega) (by omega)]
        refine ⟨z1, z2, fun j q hj => ?_, z4⟩
        have := (List.getElem?_eq_some_iff.mp hj).1
        have z2' : (w.2.2.1 u).length ≤ 6 := z2
        rw [hxm _ _ (by omega) (by omega) (by omega)]
        exact z3 j q hj
    · rw [hxm _ _ (by omega) (by omega) (by omega), hxm _ _ (by omega) (by omega) (by omega), hxm _ _ (by omega) (by omega) (by omega)]; exact m4 g hg
    · rw [hxm _ _ (by omega) (by omega) (by omega), hxm _ _ (by omega) (by omega) (by omega), hxm _ _ (by omega) (by omega) (by omega), hxm _ _ (by omega) (by omega) (by omega), hxm _ _ (by omega) (by omega) (by omega)]; exact m5 u hu
  · rw [hxm _ _ (by omega) (by omega) (by omega)]; exact hR2.2.2.2.1.1 g z1 z2
  · have z1 : wT w ≤ u := z1
    rw [hxm _ _ (by omega) (by omega) (by omega), hxm _ _ (by omega) (by omega) (by omega), hxm _ _ (by omega) (by omega) (by omega), hxm _ _ (by omega) (by omega) (by omega), hxm _ _ (by omega) (by omega) (by omega)]
    exact hR2.2.2.2.1.2 u z1 z2
theorem op_5 (h : GI n sh x y) (t i : Int32) : opR n sh x y 5 24 [.inl t, .inl i] := by
  obtain ⟨hF, hT, w, nb, cc, nfT, L, hI, hr1, hr2, hr3⟩ := h
  obtain ⟨hS, hJ, hR, hX, hn⟩ := id hI
  have h127 : ∀ f, f < nfT → 127 ≤ hF f := fun f hf => hS.2.2.2.2.2.1 f (by omega)
  obtain ⟨a1, a2, a3⟩ := hJ.1
  have h2o := hS.1.1
  have h20 := hS.1.2.2.2.2.2.2.2
  have h12 := hS.2.1.1
  have hus : ∀ {x : Nat → Nat → Int32}, mW x w → ∀ t, t < wT w → x 99 t = nI (wU w t).length ∧ (wU w t).length ≤ 6 ∧ nums (x 100) (6 * t) (wU w t) := fun hW t ht => ⟨(hW.2.2.1.2.2 t ht).1, (hW.2.2.1.2.2 t ht).2.1, (hW.2.2.1.2.2 t ht).2.2.1⟩
  have no : (t < 0 ∨ nI (wT w) ≤ t ∨ i < 0 ∨ nI (wF w) ≤ i ∨ (wU w t.toNatClampNeg).length = 6 ∨ i.toNatClampNeg ∈ wU w t.toNatClampNeg) → mj_Cl pg 60 5 [.inr (some 1), .inl t, .inl i] (bl n sh x y) = some (some (.inl 0), bl n sh x y) → opR n sh x y 5 24 [.inl t, .inl i] := fun c hc => by
    have q := mm_24 (x := x) (y := y) 58 hR.1 hR.2.1 hR.2.2.1.1.1 h12 hR.2.2.1.2.2.1.1 hR.2.2.1.2.2.1.2.1 (hus hR.2.2.1) t i
    rw [if_pos c] at q
    exact ⟨n, sh, x, y, u2 x 91 0 0, _, hc, q, ⟨hF, hT, w, nb, cc, nfT, L, ⟨hS.sC (sC.w0 x 0), hJ.sC h127 (sC.w0 x 0), hR.w0 0, hX, hn⟩, hr1, hr2, hr3⟩, rfl, fun k => ⟨rfl, u2_a (by decide)⟩⟩
  rcases i_cs (i := t) (m := wT w) (by omega) with c | ⟨k, hk, e, c⟩
  · refine no (by rcases c with z | z; exact Or.inl z; exact Or.inr (Or.inl z)) ?_
    have c91 := rk_91n 58 hS c
    rcases i_cs (i := i) (m := wF w) (by omega) with d | ⟨j, hj, e2, d⟩
    · have c90 := rk_90n 58 hS d
      show mj_Cl pg (59 + 1) 5 _ _ = _
      rw [e_5]
      simp only [s_5_0, s_5_1, s_5_4, s_5_5, s_5_8, s_5_9, s_5_10, s_5_13, s_5_14, s_5_17, s_5_19, s_5_20_0, s_5_20_1, s_5_23, s_5_25_0, s_5_25_1, s_5_28, s_5_29, s_5_32, s_5_34, s_5_37, s_5_40, s_5_41, s_5_42, s_5_43, s_5_46, s_5_48, s_5_51, s_5_52, mj_lI_s, mj_lI_0, mj_lA_s, mj_lA_0, mj_sL_s, mj_sL_0, mj_s8_0, mj_s8_1, mj_s8_2, mj_s8_3, mj_bc_n, mj_bc_s, mj_bd_s, u2_eq, u2_a, u2_k, ne_eq, Nat.reduceEqDiff, not_false_eq_true, List.nil_append, List.cons_append, eq_self, true_or, or_true, if_true, if_false, false_or, or_false, not_true_eq_false, Bool.false_eq_true, ie_m1_0, ie_m1_1, ie_m1_2, ie_m1_3, ie_m1_4, ie_m1_5, ie_0_m1, ie_0_1, ie_0_2, ie_0_3, ie_0_4, ie_0_5, ie_1_m1, ie_1_0, ie_1_2, ie_1_3, ie_1_4, ie_1_5, ie_2_m1, ie_2_0, ie_2_1, ie_2_3, ie_2_4, ie_2_5, ie_3_m1, ie_3_0, ie_3_1, ie_3_2, ie_3_4, ie_3_5, ie_4_m1, ie_4_0, ie_4_1, ie_4_2, ie_4_3, ie_4_5, ie_5_m1, ie_5_0, ie_5_1, ie_5_2, ie_5_3, ie_5_4, ct_5, cv_5, ci_5_0, cp_5_0, ci_5_1, cp_5_1, ci_5_2, cp_5_2, ci_5_3, cp_5_3, ct_7, cv_7, ci_7_0, cp_7_0, ci_7_1, cp_7_1, a1, a2, h2o, c91, c90]
    · subst e2
      have c90 := rk_90s 58 hS hj
      show mj_Cl pg (59 + 1) 5 _ _ = _
      rw [e_5]
      simp only [s_5_0, s_5_1, s_5_4, s_5_5, s_5_8, s_5_9, s_5_10, s_5_13, s_5_14, s_5_17, s_5_19, s_5_20_0, s_5_20_1, s_5_23, s_5_25_0, s_5_25_1, s_5_28, s_5_29, s_5_32, s_5_34, s_5_37, s_5_40, s_5_41, s_5_42, s_5_43, s_5_46, s_5_48, s_5_51, s_5_52, mj_lI_s, mj_lI_0, mj_lA_s, mj_lA_0, mj_sL_s, mj_sL_0, mj_s8_0, mj_s8_1, mj_s8_2, mj_s8_3, mj_bc_n, mj_bc_s, mj_bd_s, u2_eq, u2_a, u2_k, ne_eq, Nat.reduceEqDiff, not_false_eq_true, List.nil_append, List.cons_append, eq_self, true_or, or_true, if_true, if_false, false_or, or_false, not_true_eq_false, Bool.false_eq_true, ie_m1_0, ie_m1_1, ie_m1_2, ie_m1_3, ie_m1_4, ie_m1_5, ie_0_m1, ie_0_1, ie_0_2, ie_0_3, ie_0_4, ie_0_5, ie_1_m1, ie_1_0, ie_1_2, ie_1_3, ie_1_4, ie_1_5, ie_2_m1, ie_2_0, ie_2_1, ie_2_3, ie_2_4, ie_2_5, ie_3_m1, ie_3_0, ie_3_1, ie_3_2, ie_3_4, ie_3_5, ie_4_m1, ie_4_0, ie_4_1, ie_4_2, ie_4_3, ie_4_5, ie_5_m1, ie_5_0, ie_5_1, ie_5_2, ie_5_3, ie_5_4, ct_5, cv_5, ci_5_0, cp_5_0, ci_5_1, cp_5_1, ci_5_2, cp_5_2, ci_5_3, cp_5_3, ct_7, cv_7, ci_7_0, cp_7_0, ci_7_1, cp_7_1, a1, a2, h2o, c91, c90]
  · subst e
    have c91 := rk_91s 58 hS hk
    have hTo := (hS.2.2.2.2.1 k hk).2.1.1
    have hk127 := hS.2.2.2.2.2.2.1 k hk
    rcases i_cs (i := i) (m := wF w) (by omega) with d | ⟨j, hj, e2, d⟩
    · refine no (Or.inr (Or.inr (by rcases d with z | z; exact Or.inl z; exact Or.inr (Or.inl z)))) ?_
      have c90 := rk_90n 58 hS d
      show mj_Cl pg (59 + 1) 5 _ _ = _
      rw [e_5]
      simp only [s_5_0, s_5_1, s_5_4, s_5_5, s_5_8, s_5_9, s_5_10, s_5_13, s_5_14, s_5_17, s_5_19, s_5_20_0, s_5_20_1, s_5_23, s_5_25_0, s_5_25_1, s_5_28, s_5_29, s_5_32, s_5_34, s_5_37, s_5_40, s_5_41, s_5_42, s_5_43, s_5_46, s_5_48, s_5_51, s_5_52, mj_lI_s, mj_lI_0, mj_lA_s, mj_lA_0, mj_sL_s, mj_sL_0, mj_s8_0, mj_s8_1, mj_s8_2, mj_s8_3, mj_bc_n, mj_bc_s, mj_bd_s, u2_eq, u2_a, u2_k, ne_eq, Nat.reduceEqDiff, not_false_eq_true, List.nil_append, List.cons_append, eq_self, true_or, or_true, if_true, if_false, false_or, or_false, not_true_eq_false, Bool.false_eq_true, ie_m1_0, ie_m1_1, ie_m1_2, ie_m1_3, ie_m1_4, ie_m1_5, ie_0_m1, ie_0_1, ie_0_2, ie_0_3, ie_0_4, ie_0_5, ie_1_m1, ie_1_0, ie_1_2, ie_1_3, ie_1_4, ie_1_5, ie_2_m1, ie_2_0, ie_2_1, ie_2_3, ie_2_4, ie_2_5, ie_3_m1, ie_3_0, ie_3_1, ie_3_2, ie_3_4, ie_3_5, ie_4_m1, ie_4_0, ie_4_1, ie_4_2, ie_4_3, ie_4_5, ie_5_m1, ie_5_0, ie_5_1, ie_5_2, ie_5_3, ie_5_4, ct_5, cv_5, ci_5_0, cp_5_0, ci_5_1, cp_5_1, ci_5_2, cp_5_2, ci_5_3, cp_5_3, ct_6, cv_6, ci_6_0, cp_6_0, ci_6_1, cp_6_1, ci_6_2, cp_6_2, ci_6_3, cp_6_3, ci_6_4, cp_6_4, ci_6_5, cp_6_5, ci_6_6, cp_6_6, ci_6_7, cp_6_7, ct_7, cv_7, ci_7_0, cp_7_0, ci_7_1, cp_7_1, a1, a2, h2o, c91, c90]
    · subst e2
      have c90 := rk_90s 58 hS hj
      have hT2 := (hS.2.2.2.2.1 k hk).2.1.2.1
      have hRu := (hS.2.2.2.2.1 k hk).2.1.2.2.2.1
      have hru := hRu.1.1
      have hfo := (hS.2.1.2.1 j hj).1
      have c70 := rk_70 58 hRu hS.2.1 hj
      have hle6 := hRu.2.2.2.2.1
      by_cases ct : (wU w k).length < 6 ∧ j ∉ wU w k
      · rw [if_pos ct] at c70
        have c10 : ¬ ((1 : Int32) = 0) := by decide
        obtain ⟨x1, y1, p1, p2, p3, p4⟩ := rk_71 57 hRu hS.2.1 hj ct.1 ct.2
        have p1 : mj_Cl pg 59 71 [.inr (some (hT k + 1)), .inr (some (hF j))] (bl n sh x y) = some (none, bl n sh x1 y1) := p1
        have hI' := hI.use hk hj ct.1 p2 p3 p4
        have hR1 : rI n sh x1 y1 w nfT L := hR.cong (fun c j q1 q2 => ⟨p3 _ _ (by omega), p4 _ _ (by omega)⟩)
        have q := mm_24 (x := x1) (y := y1) 58 hR1.1 hR1.2.1 hR1.2.2.1.1.1 h12 hR1.2.2.1.2.2.1.1 hR1.2.2.1.2.2.1.2.1 (hus hR1.2.2.1) (nI k) (nI j)
        rw [nI_clamp (show k < 2 ^ 31 by omega), nI_clamp (show j < 2 ^ 31 by omega), if_neg (fun z => by rcases z with z | z | z | z | z | z; exact c (Or.inl z); exact c (Or.inr z); exact d (Or.inl z); exact d (Or.inr z); omega; exact ct.2 z)] at q
        refine ⟨n, sh, x1, y1, _, _, ?_, q, ⟨hF, hT, _, nb, cc, nfT, L, hI', hr1, hr2, hr3⟩, rfl, fun i => ⟨p3 _ _ (by omega), by rw [u2_a (by decide), u2_a (by decide), u2_a (by decide)]; exact p3 _ _ (by omega)⟩⟩
        show mj_Cl pg (59 + 1) 5 _ _ = _
        rw [e_5]
        simp only [s_5_0, s_5_1, s_5_4, s_5_5, s_5_8, s_5_9, s_5_10, s_5_13, s_5_14, s_5_17, s_5_19, s_5_20_0, s_5_20_1, s_5_23, s_5_25_0, s_5_25_1, s_5_28, s_5_29, s_5_32, s_5_34, s_5_37, s_5_40, s_5_41, s_5_42, s_5_43, s_5_46, s_5_48, s_5_51, s_5_52, mj_lI_s, mj_lI_0, mj_lA_s, mj_lA_0, mj_sL_s, mj_sL_0, mj_s8_0, mj_s8_1, mj_s8_2, mj_s8_3, mj_bc_n, mj_bc_s, mj_bd_s, u2_eq, u2_a, u2_k, ne_eq, Nat.reduceEqDiff, not_false_eq_true, List.nil_append, List.cons_append, eq_self, true_or, or_true, if_true, if_false, false_or, or_false, not_true_eq_false, Bool.false_eq_true, ie_m1_0, ie_m1_1, ie_m1_2, ie_m1_3, ie_m1_4, ie_m1_5, ie_0_m1, ie_0_1, ie_0_2, ie_0_3, ie_0_4, ie_0_5, ie_1_m1, ie_1_0, ie_1_2, ie_1_3, ie_1_4, ie_1_5, ie_2_m1, ie_2_0, ie_2_1, ie_2_3, ie_2_4, ie_2_5, ie_3_m1, ie_3_0, ie_3_1, ie_3_2, ie_3_4, ie_3_5, ie_4_m1, ie_4_0, ie_4_1, ie_4_2, ie_4_3, ie_4_5, ie_5_m1, ie_5_0, ie_5_1, ie_5_2, ie_5_3, ie_5_4, ct_3, cv_3, ci_3_0, cp_3_0, ci_3_1, cp_3_1, ci_3_2, cp_3_2, ci_3_3, cp_3_3, ct_5, cv_5, ci_5_0, cp_5_0, ci_5_1, cp_5_1, ci_5_2, cp_5_2, ci_5_3, cp_5_3, ct_6, cv_6, ci_6_0, cp_6_0, ci_6_1, cp_6_1, ci_6_2, cp_6_2, ci_6_3, cp_6_3, ci_6_4, cp_6_4, ci_6_5, cp_6_5, ci_6_6, cp_6_6, ci_6_7, cp_6_7, ct_7, cv_7, ci_7_0, cp_7_0, ci_7_1, cp_7_1, a1, a2, h2o, c91, c90, hTo, hT2, hru, c70, c10, p1]
      · rw [if_neg ct] at c70
        refine no ?_ ?_
        · rw [nI_clamp (show k < 2 ^ 31 by omega), nI_clamp (show j < 2 ^ 31 by omega)]
          by_cases z : j ∈ wU w k
          · exact Or.inr (Or.inr (Or.inr (Or.inr (Or.inr z))))
          · exact Or.inr (Or.inr (Or.inr (Or.inr (Or.inl (by
              have : ¬ (wU w k).length < 6 := fun q => ct ⟨q, z⟩
              omega)))))
        · show mj_Cl pg (59 + 1) 5 _ _ = _
          rw [e_5]
          simp only [s_5_0, s_5_1, s_5_4, s_5_5, s_5_8, s_5_9, s_5_10, s_5_13, s_5_14, s_5_17, s_5_19, s_5_20_0, s_5_20_1, s_5_23, s_5_25_0, s_5_25_1, s_5_28, s_5_29, s_5_32, s_5_34, s_5_37, s_5_40, s_5_41, s_5_42, s_5_43, s_5_46, s_5_48, s_5_51, s_5_52, mj_lI_s, mj_lI_0, mj_lA_s, mj_lA_0, mj_sL_s, mj_sL_0, mj_s8_0, mj_s8_1, mj_s8_2, mj_s8_3, mj_bc_n, mj_bc_s, mj_bd_s, u2_eq, u2_a, u2_k, ne_eq, Nat.reduceEqDiff, not_false_eq_true, List.nil_append, List.cons_append, eq_self, true_or, or_true, if_true, if_false, false_or, or_false, not_true_eq_false, Bool.false_eq_true, ie_m1_0, ie_m1_1, ie_m1_2, ie_m1_3, ie_m1_4, ie_m1_5, ie_0_m1, ie_0_1, ie_0_2, ie_0_3, ie_0_4, ie_0_5, ie_1_m1, ie_1_0, ie_1_2, ie_1_3, ie_1_4, ie_1_5, ie_2_m1, ie_2_0, ie_2_1, ie_2_3, ie_2_4, ie_2_5, ie_3_m1, ie_3_0, ie_3_1, ie_3_2, ie_3_4, ie_3_5, ie_4_m1, ie_4_0, ie_4_1, ie_4_2, ie_4_3, ie_4_5, ie_5_m1, ie_5_0, ie_5_1, ie_5_2, ie_5_3, ie_5_4, ct_3, cv_3, ci_3_0, cp_3_0, ci_3_1, cp_3_1, ci_3_2, cp_3_2, ci_3_3, cp_3_3, ct_5, cv_5, ci_5_0, cp_5_0, ci_5_1, cp_5_1, ci_5_2, cp_5_2, ci_5_3, cp_5_3, ct_6, cv_6, ci_6_0, cp_6_0, ci_6_1, cp_6_1, ci_6_2, cp_6_2, ci_6_3, cp_6_3, ci_6_4, cp_6_4, ci_6_5, cp_6_5, ci_6_6, cp_6_6, ci_6_7, cp_6_7, ct_7, cv_7, ci_7_0, cp_7_0, ci_7_1, cp_7_1, a1, a2, h2o, c91, c90, hTo, hT2, hru, c70]
end TM
