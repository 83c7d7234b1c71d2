/-! both sides: fixture -/
section MF
variable {n : Nat} {sh : Nat → Nat × Nat} {x : Nat → Nat → Int32} {y : Nat → Nat → Option Nat}
/-- one fixture more: the reference -/
theorem rI.addF {w : sW} {nfT : Nat} {L : rq × List re3 × List (Nat → Int32)} (hR : rI n sh x y w nfT L) (hnf : wF w < 12) {sc : Int32} {va mf ef : Nat} (hva : 0 < va ∧ va < 4 ∧ mf ≤ 1 ∧ ef ≤ 1) :
    rI n sh (u2 (u2 (u2 (u2 (u2 (u2 x 91 0 0) 92 (wF w) sc) 93 (wF w) (nI va)) 96 (wF w) (nI mf)) 97 (wF w) (nI ef)) 91 1 (nI (wF w + 1))) y ((wF w + 1, wT w), up1 w.2.1 (wF w) [], w.2.2.1, u2 (u2 (u2 w.2.2.2.1 0 (wF w) va) 1 (wF w) mf) 2 (wF w) ef, u2 w.2.2.2.2 0 (wF w) sc) nfT L := by
  have hx : ∀ a k, ¬ (a = 91 ∧ (k = 0 ∨ k = 1)) → ¬ ((a = 92 ∨ a = 93 ∨ a = 96 ∨ a = 97) ∧ k = wF w) → (u2 (u2 (u2 (u2 (u2 (u2 x 91 0 0) 92 (wF w) sc) 93 (wF w) (nI va)) 96 (wF w) (nI mf)) 97 (wF w) (nI ef)) 91 1 (nI (wF w + 1))) a k = x a k := fun a k h1 h2 => by
    rw [u2_ne (fun z => h1 ⟨z.1, Or.inr z.2⟩), u2_ne (fun z => h2 ⟨by omega, z.2⟩), u2_ne (fun z => h2 ⟨by omega, z.2⟩), u2_ne (fun z => h2 ⟨by omega, z.2⟩), u2_ne (fun z => h2 ⟨by omega, z.2⟩), u2_ne (fun z => h1 ⟨z.1, Or.inl z.2⟩)]
  have h91 : (u2 (u2 (u2 (u2 (u2 (u2 x 91 0 0) 92 (wF w) sc) 93 (wF w) (nI va)) 96 (wF w) (nI mf)) 97 (wF w) (nI ef)) 91 1 (nI (wF w + 1))) 91 1 = nI (wF w + 1) := u2_eq _ _ _ _
  have h92 : (u2 (u2 (u2 (u2 (u2 (u2 x 91 0 0) 92 (wF w) sc) 93 (wF w) (nI va)) 96 (wF w) (nI mf)) 97 (wF w) (nI ef)) 91 1 (nI (wF w + 1))) 92 (wF w) = sc := by rw [u2_a (by decide), u2_a (by decide), u2_a (by decide), u2_a (by decide), u2_eq]
  have h93 : (u2 (u2 (u2 (u2 (u2 (u2 x 91 0 0) 92 (wF w) sc) 93 (wF w) (nI va)) 96 (wF w) (nI mf)) 97 (wF w) (nI ef)) 91 1 (nI (wF w + 1))) 93 (wF w) = nI va := by rw [u2_a (by decide), u2_a (by decide), u2_a (by decide), u2_eq]
  have h96 : (u2 (u2 (u2 (u2 (u2 (u2 x 91 0 0) 92 (wF w) sc) 93 (wF w) (nI va)) 96 (wF w) (nI mf)) 97 (wF w) (nI ef)) 91 1 (nI (wF w + 1))) 96 (wF w) = nI mf := by rw [u2_a (by decide), u2_a (by decide), u2_eq]
  have h97 : (u2 (u2 (u2 (u2 (u2 (u2 x 91 0 0) 92 (wF w) sc) 93 (wF w) (nI va)) 96 (wF w) (nI mf)) 97 (wF w) (nI ef)) 91 1 (nI (wF w + 1))) 97 (wF w) = nI ef := by rw [u2_a (by decide), u2_eq]
  generalize (u2 (u2 (u2 (u2 (u2 (u2 x 91 0 0) 92 (wF w) sc) 93 (wF w) (nI va)) 96 (wF w) (nI mf)) 97 (wF w) (nI ef)) 91 1 (nI (wF w + 1))) = X at hx h91 h92 h93 h96 h97
  obtain ⟨H, Y, ⟨m1, m2, m3, m4, m5⟩, ⟨f1, f2⟩, hL⟩ := hR
  have cas : ∀ f, f < wF w + 1 → f = wF w ∨ f < wF w := fun f hf => by omega
  have hA : ∀ k f, f ≠ wF w → u2 (u2 (u2 w.2.2.2.1 0 (wF w) va) 1 (wF w) mf) 2 (wF w) ef k f = wA w k f := fun k f hk => by rw [u2_k hk, u2_k hk, u2_k hk]
  have hA0 : u2 (u2 (u2 w.2.2.2.1 0 (wF w) va) 1 (wF w) mf) 2 (wF w) ef 0 (wF w) = va := by rw [u2_a (by decide), u2_a (by decide), u2_eq]
  have hA1 : u2 (u2 (u2 w.2.2.2.1 0 (wF w) va) 1 (wF w) mf) 2 (wF w) ef 1 (wF w) = mf := by rw [u2_a (by decide), u2_eq]
  have hA2 : u2 (u2 (u2 w.2.2.2.1 0 (wF w) va) 1 (wF w) mf) 2 (wF w) ef 2 (wF w) = ef := by rw [u2_eq]
  have hI : ∀ k f, ¬ (k = 0 ∧ f = wF w) → u2 w.2.2.2.2 0 (wF w) sc k f = wI w k f := fun k f hk => u2_ne hk
  have hI0 : u2 w.2.2.2.2 0 (wF w) sc 0 (wF w) = sc := u2_eq _ _ _ _
  refine ⟨H, Y, ⟨⟨h91, hnf, fun f hf => ?_⟩, fun f hf => ?_, ⟨?_, m3.2.1, fun t ht => ?_⟩, fun f hf => ?_, fun t ht => ?_⟩, ⟨fun f z1 z2 => ?_, fun t z1 z2 => ?_⟩, hL.cong (fun k hk => hx 91 k (by omega) (by omega)) (fun a k z1 z2 => hx a k (by omega) (by omega))⟩
  · show X 94 f = nI (up1 w.2.1 (wF w) [] f).length ∧ (up1 w.2.1 (wF w) [] f).length ≤ 6 ∧ nums (X 95) (6 * f) (up1 w.2.1 (wF w) [] f) ∧ ∀ g ∈ up1 w.2.1 (wF w) [] f, g < wF w + 1
    rcases cas f hf with z | z
    · rw [z, up1_eq, hx 94 (wF w) (by omega) (by omega), f1 (wF w) (Nat.le_refl _) hnf]
      exact ⟨rfl, by decide, fun j q hj => (by simp at hj), fun g hg => (by cases hg)⟩
    · obtain ⟨z1, z2, z3, z4⟩ := m1.2.2 f z
      rw [up1_ne (by omega), hx 94 f (by omega) (by omega)]
      exact ⟨z1, z2, fun j q hj => by rw [hx 95 _ (by omega) (by omega)]; exact z3 j q hj, fun g hg => Nat.lt_succ_of_lt (z4 g hg)⟩
  · show X 93 f = nI (u2 (u2 (u2 w.2.2.2.1 0 (wF w) va) 1 (wF w) mf) 2 (wF w) ef 0 f) ∧ 0 < u2 (u2 (u2 w.2.2.2.1 0 (wF w) va) 1 (wF w) mf) 2 (wF w) ef 0 f ∧ u2 (u2 (u2 w.2.2.2.1 0 (wF w) va) 1 (wF w) mf) 2 (wF w) ef 0 f < 4
    rcases cas f hf with z | z
    · rw [z, hA0, h93]; exact ⟨rfl, hva.1, hva.2.1⟩
    · rw [hA 0 f (by omega), hx 93 f (by omega) (by omega)]; exact m2 f z
  · rw [hx 91 2 (by omega) (by omega)]; exact m3.1
  · obtain ⟨z1, z2, z3, z4⟩ := m3.2.2 t ht
    exact ⟨by rw [hx 99 t (by omega) (by omega)]; exact z1, z2, fun j q hj => by rw [hx 100 _ (by omega) (by omega)]; exact z3 j q hj, fun g hg => Nat.lt_succ_of_lt (z4 g hg)⟩
  · show X 92 f = u2 w.2.2.2.2 0 (wF w) sc 0 f ∧ X 96 f = nI (u2 (u2 (u2 w.2.2.2.1 0 (wF w) va) 1 (wF w) mf) 2 (wF w) ef 1 f) ∧ u2 (u2 (u2 w.2.2.2.1 0 (wF w) va) 1 (wF w) mf) 2 (wF w) ef 1 f ≤ 1 ∧ X 97 f = nI (u2 (u2 (u2 w.2.2.2.1 0 (wF w) va) 1 (wF w) mf) 2 (wF w) ef 2 f) ∧ u2 (u2 (u2 w.2.2.2.1 0 (wF w) va) 1 (wF w) mf) 2 (wF w) ef 2 f ≤ 1
    rcases cas f hf with z | z
    · rw [z, hA1, hA2, hI0, h92, h96, h97]; exact ⟨rfl, rfl, hva.2.2.1, rfl, hva.2.2.2⟩
    · rw [hA 1 f (by omega), hA 2 f (by omega), hI 0 f (by omega), hx 92 f (by omega) (by omega), hx 96 f (by omega) (by omega), hx 97 f (by omega) (by omega)]; exact m4 f z
  · show X 98 t = u2 w.2.2.2.2 0 (wF w) sc 1 t ∧ X 101 t = u2 w.2.2.2.2 0 (wF w) sc 2 t ∧ X 102 t = u2 w.2.2.2.2 0 (wF w) sc 3 t ∧ X 103 t = u2 w.2.2.2.2 0 (wF w) sc 4 t ∧ X 104 t = u2 w.2.2.2.2 0 (wF w) sc 5 t ∧ u2 w.2.2.2.2 0 (wF w) sc 5 t ≤ 2
    rw [hI 1 t (by omega), hI 2 t (by omega), hI 3 t (by omega), hI 4 t (by omega), hI 5 t (by omega), hx 98 t (by omega) (by omega), hx 101 t (by omega) (by omega), hx 102 t (by omega) (by omega), hx 103 t (by omega) (by omega), hx 104 t (by omega) (by omega)]; exact m5 t ht
  · have z1 : wF w + 1 ≤ f := z1
    rw [hx 94 f (by omega) (by omega)]; exact f1 f (by omega) z2
  · rw [hx 99 t (by omega) (by omega), hx 101 t (by omega) (by omega), hx 102 t (by omega) (by omega), hx 103 t (by omega) (by omega), hx 104 t (by omega) (by omega)]; exact f2 t z1 z2
theorem op_2 (h : GI n sh x y) (its vv b1 b2 : Int32) (hb1 : b1 = 0 ∨ b1 = 1) (hb2 : b2 = 0 ∨ b2 = 1) : opR n sh x y 2 19 [.inl its, .inl vv, .inl b1, .inl b2] := by
  obtain ⟨hF, hT, w, nb, cc, nfT, L, hI, hr1, hr2, hr3⟩ := h
  obtain ⟨hS, hJ, hR, hX, hn⟩ := id hI
  have h127 : ∀ f, f < nfT → 127 ≤ hF f := fun f hf => hS.2.2.2.2.2.1 f (by omega)
  obtain ⟨a1, a2, a3⟩ := hJ.1
  have h2o := hS.1.1
  have h12 := hS.2.1.1
  have h21 := hS.1.2.2.2.2.1
  have no : (wF w = 12 ∨ its < 0 ∨ 2 < its ∨ vv < 1 ∨ 3 < vv) → mj_Cl pg 60 2 [.inr (some 1), .inl its, .inl vv, .inl b1, .inl b2] (bl n sh x y) = some (some (.inl (-1)), bl n sh x y) → opR n sh x y 2 19 [.inl its, .inl vv, .inl b1, .inl b2] := fun c hc => by
    have q := mm_19 (x := x) (y := y) 59 hR.1 hR.2.1 hR.2.2.1.1.1 h12 its vv b1 b2 hb1 hb2
    rw [if_pos c] at q
    exact ⟨n, sh, x, y, u2 x 91 0 0, _, hc, q, ⟨hF, hT, w, nb, cc, nfT, L, ⟨hS.sC (sC.w0 x 0), hJ.sC h127 (sC.w0 x 0), hR.w0 0, hX, hn⟩, hr1, hr2, hr3⟩, rfl, fun k => ⟨rfl, u2_a (by decide)⟩⟩
  have c15a := fun h => rk_15 58 its 0 2 h
  have c15b := fun h => rk_15 58 vv 1 3 h
  have c10 : ¬ ((1 : Int32) = 0) := by decide
  by_cases ca : its < 0 ∨ 2 < its
  · refine no (by rcases ca with z | z; exact Or.inr (Or.inl z); exact Or.inr (Or.inr (Or.inl z))) ?_
    simp only [if_pos ca] at c15a
    show mj_Cl pg (59 + 1) 2 _ _ = _
    rw [e_2]
    simp only [s_2_0, s_2_1, s_2_2, s_2_3, s_2_6, s_2_9, s_2_10, s_2_11, s_2_12, s_2_15, s_2_18, s_2_19, s_2_20, s_2_21, s_2_24, s_2_25, s_2_26, s_2_27, s_2_29, s_2_32, mj_lI_s, mj_lI_0, mj_lA_s, mj_lA_0, mj_sL_s, mj_sL_0, mj_s8_0, mj_s8_1, mj_s8_2, mj_s8_3, mj_bc_n, mj_bc_s, mj_bd_s, u2_eq, u2_a, u2_k, ne_eq, Nat.reduceEqDiff, not_false_eq_true, List.nil_append, List.cons_append, eq_self, true_or, or_true, if_true, if_false, false_or, or_false, not_true_eq_false, Bool.false_eq_true, ie_m1_0, ie_m1_1, ie_m1_2, ie_m1_3, ie_m1_4, ie_m1_5, ie_0_m1, ie_0_1, ie_0_2, ie_0_3, ie_0_4, ie_0_5, ie_1_m1, ie_1_0, ie_1_2, ie_1_3, ie_1_4, ie_1_5, ie_2_m1, ie_2_0, ie_2_1, ie_2_3, ie_2_4, ie_2_5, ie_3_m1, ie_3_0, ie_3_1, ie_3_2, ie_3_4, ie_3_5, ie_4_m1, ie_4_0, ie_4_1, ie_4_2, ie_4_3, ie_4_5, ie_5_m1, ie_5_0, ie_5_1, ie_5_2, ie_5_3, ie_5_4, ct_5, cv_5, ci_5_0, cp_5_0, ci_5_1, cp_5_1, ci_5_2, cp_5_2, ci_5_3, cp_5_3, ct_7, cv_7, ci_7_0, cp_7_0, ci_7_1, cp_7_1, c15a]
  simp only [if_neg ca] at c15a
  by_cases cb : vv < 1 ∨ 3 < vv
  · refine no (Or.inr (Or.inr (Or.inr cb))) ?_
    simp only [if_pos cb] at c15b
    show mj_Cl pg (59 + 1) 2 _ _ = _
    rw [e_2]
    simp only [s_2_0, s_2_1, s_2_2, s_2_3, s_2_6, s_2_9, s_2_10, s_2_11, s_2_12, s_2_15, s_2_18, s_2_19, s_2_20, s_2_21, s_2_24, s_2_25, s_2_26, s_2_27, s_2_29, s_2_32, mj_lI_s, mj_lI_0, mj_lA_s, mj_lA_0, mj_sL_s, mj_sL_0, mj_s8_0, mj_s8_1, mj_s8_2, mj_s8_3, mj_bc_n, mj_bc_s, mj_bd_s, u2_eq, u2_a, u2_k, ne_eq, Nat.reduceEqDiff, not_false_eq_true, List.nil_append, List.cons_append, eq_self, true_or, or_true, if_true, if_false, false_or, or_false, not_true_eq_false, Bool.false_eq_true, ie_m1_0, ie_m1_1, ie_m1_2, ie_m1_3, ie_m1_4, ie_m1_5, ie_0_m1, ie_0_1, ie_0_2, ie_0_3, ie_0_4, ie_0_5, ie_1_m1, ie_1_0, ie_1_2, ie_1_3, ie_1_4, ie_1_5, ie_2_m1, ie_2_0, ie_2_1, ie_2_3, ie_2_4, ie_2_5, ie_3_m1, ie_3_0, ie_3_1, ie_3_2, ie_3_4, ie_3_5, ie_4_m1, ie_4_0, ie_4_1, ie_4_2, ie_4_3, ie_4_5, ie_5_m1, ie_5_0, ie_5_1, ie_5_2, ie_5_3, ie_5_4, ct_5, cv_5, ci_5_0, cp_5_0, ci_5_1, cp_5_1, ci_5_2, cp_5_2, ci_5_3, cp_5_3, ct_7, cv_7, ci_7_0, cp_7_0, ci_7_1, cp_7_1, c15a, c15b, c10]
  simp only [if_neg cb] at c15b
  by_cases cf : wF w = 12
  · refine no (Or.inl cf) ?_
    have c92 : mj_Cl pg 59 92 [.inr (some 2), .inl its, .inl vv, .inl b1, .inl b2] (bl n sh x y) = some (some (.inl (-1)), bl n sh x y) := by
      have c1 : (nI (wF w) < 12) = False := by rw [cf]; exact eq_false (by decide)
      show mj_Cl pg (58 + 1) 92 _ _ = _
      rw [e_92]
      simp only [s_92_0, s_92_1, s_92_4, s_92_6, s_92_9, s_92_10, s_92_11, s_92_12, s_92_15, s_92_16, s_92_19, s_92_22, s_92_23, s_92_24, s_92_27, s_92_28, s_92_29, s_92_30, s_92_32, s_92_35, s_92_36, s_92_37, s_92_38, s_92_41, s_92_42, s_92_43, s_92_44, s_92_47, mj_lI_s, mj_lI_0, mj_lA_s, mj_lA_0, mj_sL_s, mj_sL_0, mj_s8_0, mj_s8_1, mj_s8_2, mj_s8_3, mj_bc_n, mj_bc_s, mj_bd_s, u2_eq, u2_a, u2_k, ne_eq, Nat.reduceEqDiff, not_false_eq_true, List.nil_append, List.cons_append, eq_self, true_or, or_true, if_true, if_false, false_or, or_false, not_true_eq_false, Bool.false_eq_true, ie_m1_0, ie_m1_1, ie_m1_2, ie_m1_3, ie_m1_4, ie_m1_5, ie_0_m1, ie_0_1, ie_0_2, ie_0_3, ie_0_4, ie_0_5, ie_1_m1, ie_1_0, ie_1_2, ie_1_3, ie_1_4, ie_1_5, ie_2_m1, ie_2_0, ie_2_1, ie_2_3, ie_2_4, ie_2_5, ie_3_m1, ie_3_0, ie_3_1, ie_3_2, ie_3_4, ie_3_5, ie_4_m1, ie_4_0, ie_4_1, ie_4_2, ie_4_3, ie_4_5, ie_5_m1, ie_5_0, ie_5_1, ie_5_2, ie_5_3, ie_5_4, ct_5, cv_5, ci_5_0, cp_5_0, ci_5_1, cp_5_1, ci_5_2, cp_5_2, ci_5_3, cp_5_3, h2o, h21, c1]
    show mj_Cl pg (59 + 1) 2 _ _ = _
    rw [e_2]
    simp only [s_2_0, s_2_1, s_2_2, s_2_3, s_2_6, s_2_9, s_2_10, s_2_11, s_2_12, s_2_15, s_2_18, s_2_19, s_2_20, s_2_21, s_2_24, s_2_25, s_2_26, s_2_27, s_2_29, s_2_32, mj_lI_s, mj_lI_0, mj_lA_s, mj_lA_0, mj_sL_s, mj_sL_0, mj_s8_0, mj_s8_1, mj_s8_2, mj_s8_3, mj_bc_n, mj_bc_s, mj_bd_s, u2_eq, u2_a, u2_k, ne_eq, Nat.reduceEqDiff, not_false_eq_true, List.nil_append, List.cons_append, eq_self, true_or, or_true, if_true, if_false, false_or, or_false, not_true_eq_false, Bool.false_eq_true, ie_m1_0, ie_m1_1, ie_m1_2, ie_m1_3, ie_m1_4, ie_m1_5, ie_0_m1, ie_0_1, ie_0_2, ie_0_3, ie_0_4, ie_0_5, ie_1_m1, ie_1_0, ie_1_2, ie_1_3, ie_1_4, ie_1_5, ie_2_m1, ie_2_0, ie_2_1, ie_2_3, ie_2_4, ie_2_5, ie_3_m1, ie_3_0, ie_3_1, ie_3_2, ie_3_4, ie_3_5, ie_4_m1, ie_4_0, ie_4_1, ie_4_2, ie_4_3, ie_4_5, ie_5_m1, ie_5_0, ie_5_1, ie_5_2, ie_5_3, ie_5_4, ct_5, cv_5, ci_5_0, cp_5_0, ci_5_1, cp_5_1, ci_5_2, cp_5_2, ci_5_3, cp_5_3, ct_7, cv_7, ci_7_0, cp_7_0, ci_7_1, cp_7_1, c15a, c15b, c10, a1, a2, h2o, c92]
  have hnf : wF w < 12 := by omega
  obtain ⟨va, hva, e⟩ := i_in (x := vv) (n := 4) (by decide) (fun z => cb (Or.inl (Int32.lt_trans z (by decide)))) (fun z => cb (Or.inr (Int32.lt_of_lt_of_le (by decide) z)))
  have hv0 : 0 < va := by
    rcases Nat.eq_zero_or_pos va with z | z
    · exfalso
      exact cb (Or.inl (by rw [e, z]; decide))
    · exact z
  have bit : ∀ b : Int32, b = 0 ∨ b = 1 → ∃ m, m ≤ 1 ∧ b = nI m := fun b hb => by
    rcases hb with z | z
    · exact ⟨0, by decide, z⟩
    · exact ⟨1, by decide, z⟩
  obtain ⟨mf, hmf, e1⟩ := bit b1 hb1
  obtain ⟨ef, hef, e2⟩ := bit b2 hb2
  obtain ⟨x1, y1, p1, p2, p3, ⟨p4, p5⟩, p6, p7⟩ := rk_92 56 h2o hS.1.2.1 hS.1.2.2.2.1 h21 hnf its vv b1 b2 hb1 hb2
  have p1 : mj_Cl pg 59 92 [.inr (some 2), .inl its, .inl vv, .inl b1, .inl b2] (bl n sh x y) = _ := p1
  have n127 := hR.1.1
  have hgw : gw n (n + 3) sh (uS (uS (uS sh n (1, 15)) (n + 1) (3, 4)) (n + 2) (102, 12)) x x1 y y1 := ⟨by omega, fun a ha => by rw [uS_lt (by omega), uS_lt (by omega), uS_lt ha], fun a k h1 h2 => p6 a k h1 (fun z => h2 z.1), fun a k h1 h2 h3 => p7 a k h1 (fun z => h2 z.1)⟩
  rw [e, e1, e2] at p2
  have hS1 := hS.addF (sc := its) (va := va) (mf := mf) (ef := ef) hX.1 hgw hnf n127 (by rw [uS_lt (by omega), uS_lt (by omega)]; exact if_pos rfl) (by rw [uS_lt (by omega)]; exact if_pos rfl) (if_pos rfl) p2 p3 ⟨hv0, hva, hmf, hef⟩ p4 (p6 _ _ (by omega) (by omega)) p5 (fun k hk => p7 _ _ (by omega) (fun z => hk z.2)) (fun k => p7 _ _ (by omega) (by omega))
  have hFlt : ∀ f, f < wF w → hF f < n := fun f hf => (hS.2.1.2.1 f hf).1.1
  have hJ1 := hgw.cJ (hF' := up1 hF (wF w) n) (hT' := hT) hJ (Nat.le_refl _) (fun f hf => ⟨up1_ne (by omega), hFlt f (by omega), by have := h127 f hf; omega⟩) (fun _ _ => rfl)
  have hR1 := hgw.ref hR
  have hR2 := hR1.addF (sc := its) (va := va) (mf := mf) (ef := ef) hnf ⟨hv0, hva, hmf, hef⟩
  have q := mm_19 (x := x1) (y := y1) 59 hR1.1 hR1.2.1 hR1.2.2.1.1.1 h12 its vv b1 b2 hb1 hb2
  rw [if_neg (fun z => by rcases z with z | z | z | z | z; exact cf z; exact ca (Or.inl z); exact ca (Or.inr z); exact cb (Or.inl z); exact cb (Or.inr z)), e, e1, e2] at q
  have hsC : sC x1 (u2 (u2 (u2 (u2 (u2 (u2 x1 91 0 0) 92 (wF w) its) 93 (wF w) (nI va)) 96 (wF w) (nI mf)) 97 (wF w) (nI ef)) 91 1 (nI (wF w + 1))) := fun c j z => by rw [u2_a (by omega), u2_a (by omega), u2_a (by omega), u2_a (by omega), u2_a (by omega), u2_a (by omega)]
  have hFn : ∀ f, f < nfT → 127 ≤ up1 hF (wF w) n f := fun f hf => by rw [up1_ne (by omega)]; exact h127 f hf
  rw [e, e1, e2]
  refine ⟨n + 3, _, x1, y1, _, nI (wF w), ?_, q, ⟨up1 hF (wF w) n, hT, _, nb, cc, nfT, L, ⟨hS1.sC hsC, hJ1.sC hFn hsC, hR2, ⟨hX.1.more, fun f hf => ?_, fun f hf g hg => ?_⟩, Nat.le_succ_of_le hn⟩, ?_, ?_, ?_⟩, ?_, fun k => ?_⟩
  · show mj_Cl pg (59 + 1) 2 _ _ = _
    rw [e_2]
    rw [e, e1, e2] at p1
    rw [e] at c15b
    simp only [s_2_0, s_2_1, s_2_2, s_2_3, s_2_6, s_2_9, s_2_10, s_2_11, s_2_12, s_2_15, s_2_18, s_2_19, s_2_20, s_2_21, s_2_24, s_2_25, s_2_26, s_2_27, s_2_29, s_2_32, mj_lI_s, mj_lI_0, mj_lA_s, mj_lA_0, mj_sL_s, mj_sL_0, mj_s8_0, mj_s8_1, mj_s8_2, mj_s8_3, mj_bc_n, mj_bc_s, mj_bd_s, u2_eq, u2_a, u2_k, ne_eq, Nat.reduceEqDiff, not_false_eq_true, List.nil_append, List.cons_append, eq_self, true_or, or_true, if_true, if_false, false_or, or_false, not_true_eq_false, Bool.false_eq_true, ie_m1_0, ie_m1_1, ie_m1_2, ie_m1_3, ie_m1_4, ie_m1_5, ie_0_m1, ie_0_1, ie_0_2, ie_0_3, ie_0_4, ie_0_5, ie_1_m1, ie_1_0, ie_1_2, ie_1_3, ie_1_4, ie_1_5, ie_2_m1, ie_2_0, ie_2_1, ie_2_3, ie_2_4, ie_2_5, ie_3_m1, ie_3_0, ie_3_1, ie_3_2, ie_3_4, ie_3_5, ie_4_m1, ie_4_0, ie_4_1, ie_4_2, ie_4_3, ie_4_5, ie_5_m1, ie_5_0, ie_5_1, ie_5_2, ie_5_3, ie_5_4, ct_5, cv_5, ci_5_0, cp_5_0, ci_5_1, cp_5_1, ci_5_2, cp_5_2, ci_5_3, cp_5_3, ct_7, cv_7, ci_7_0, cp_7_0, ci_7_1, cp_7_1, c15a, c15b, c10, a1, a2, h2o, p1]
  · show 0 ≤ u2 w.2.2.2.2 0 (wF w) its 0 f
    have hf : f < wF w + 1 := hf
    by_cases z : f = wF w
    · rw [z, u2_eq]; exact Int32.not_lt.mp (fun q => ca (Or.inl q))
    · rw [u2_k z]; exact hX.2.1 f (by omega)
  · have hf : f < wF w + 1 := hf
    have hg : g ∈ up1 w.2.1 (wF w) [] f := hg
    show u2 w.2.2.2.2 0 (wF w) its 0 g = 0 → u2 w.2.2.2.2 0 (wF w) its 0 f = 0
    by_cases z : f = wF w
    · rw [z, up1_eq] at hg; cases hg
    · rw [up1_ne z] at hg
      have hgn := hX.1.2.2.2.2 f (by omega) g hg
      rw [u2_k z, u2_k (by omega)]
      exact hX.2.2 f (by omega) g hg
  · show n + 3 = 127 + 3 * (wF w + 1) + 5 * wT w
    omega
  · show ((List.range (n + 2 + 1)).map (fun a => (uS (uS (uS sh n (1, 15)) (n + 1) (3, 4)) (n + 2) (102, 12) a).2)).sum ≤ (uS (uS (uS sh n (1, 15)) (n + 1) (3, 4)) (n + 2) (102, 12) 0).2 + 40000 + 31 * (wF w + 1) + 40 * wT w
    rw [szU, szU, szU, uS_lt (by omega), uS_lt (by omega), uS_lt (by omega)]
    show _ + 15 + 4 + 12 ≤ _
    omega
  · rw [uS_lt (by omega), uS_lt (by omega), uS_lt (by omega)]; exact hr3
  · rw [uS_lt (by omega), uS_lt (by omega), uS_lt (by omega)]
  · have h0 := p6 0 k (by omega) (by omega)
    exact ⟨h0, by rw [hsC 0 k (by decide)]; exact h0⟩
end MF
