/-! both sides: the calls that ask -/
def opR (n : Nat) (sh : Nat → Nat × Nat) (x : Nat → Nat → Int32) (y : Nat → Nat → Option Nat) (Mc Mr : Nat) (as : List mj_V) : Prop := ∃ n' sh' x1 y1 x2 r, mj_Cl pg 60 Mc (.inr (some 1) :: as) (bl n sh x y) = some (some (.inl r), bl n' sh' x1 y1) ∧ mj_Cl pg 60 Mr (.inr (some 91) :: as) (bl n' sh' x1 y1) = some (some (.inl r), bl n' sh' x2 y1) ∧ GI n' sh' x2 y1 ∧ sh' 0 = sh 0 ∧ ∀ k, x1 0 k = x 0 k ∧ x2 0 k = x 0 k
section BA
variable {n : Nat} {sh : Nat → Nat × Nat} {x : Nat → Nat → Int32} {y : Nat → Nat → Option Nat}
theorem op_9 (h : GI n sh x y) : opR n sh x y 9 42 [] := by
  obtain ⟨hF, hT, w, nb, cc, nfT, L, ⟨hS, hJ, hR, hX, hn⟩, hr1, hr2, hr3⟩ := h
  have hm := hR.2.2.2.2.2.2.2.1.1
  have h127 : ∀ f, f < nfT → 127 ≤ hF f := fun f hf => hS.2.2.2.2.2.1 f (by omega)
  refine ⟨n, sh, x, y, u2 x 91 0 0, nI L.2.1.length, rk_9 59 hJ, ?_, ⟨hF, hT, w, nb, cc, nfT, L, ⟨hS.sC (sC.w0 x 0), hJ.sC h127 (sC.w0 x 0), hR.w0 0, hX, hn⟩, hr1, hr2, hr3⟩, rfl, fun k => ⟨rfl, u2_a (by decide)⟩⟩
  have := mm_42 (x := x) (y := y) 59 hR.1
  rw [hm] at this
  exact this
theorem op_10 (h : GI n sh x y) (i v : Int32) : opR n sh x y 10 43 [.inl i, .inl v] := by
  obtain ⟨hF, hT, w, nb, cc, nfT, L, ⟨hS, hJ, hR, hX, hn⟩, hr1, hr2, hr3⟩ := h
  obtain ⟨m1, m2, m3⟩ := hR.2.2.2.2.2.2.2.1
  have h127 : ∀ f, f < nfT → 127 ≤ hF f := fun f hf => hS.2.2.2.2.2.1 f (by omega)
  refine ⟨n, sh, x, y, u2 x 91 0 0, _, rk_10 58 hJ i v, ?_, ⟨hF, hT, w, nb, cc, nfT, L, ⟨hS.sC (sC.w0 x 0), hJ.sC h127 (sC.w0 x 0), hR.w0 0, hX, hn⟩, hr1, hr2, hr3⟩, rfl, fun k => ⟨rfl, u2_a (by decide)⟩⟩
  refine (mm_43 (x := x) (y := y) 59 hR.1 hR.2.1 m1 (by omega) i v).trans ?_
  rcases i_cs (i := i) (m := L.2.1.length) (by omega) with c | ⟨k, hk, e, c⟩
  · rw [if_pos c, if_pos c]
  · rw [if_neg c, if_neg c]
    subst e
    obtain ⟨q1, q2, q3⟩ := m3 k _ (List.getElem?_eq_getElem hk)
    have hd : L.2.1.getD k (0, 0, 0) = L.2.1[k] := by rw [List.getD_eq_getElem?_getD, List.getElem?_eq_getElem hk]; rfl
    rw [nI_clamp (show k < 2 ^ 31 by omega), hd, q1, q2, q3]
theorem op_11 (h : GI n sh x y) (i v : Int32) : opR n sh x y 11 44 [.inl i, .inl v] := by
  obtain ⟨hF, hT, w, nb, cc, nfT, L, ⟨hS, hJ, hR, hX, hn⟩, hr1, hr2, hr3⟩ := h
  obtain ⟨m1, m2, m3⟩ := hR.2.2.2.2.2.2.2.2
  have h127 : ∀ f, f < nfT → 127 ≤ hF f := fun f hf => hS.2.2.2.2.2.1 f (by omega)
  refine ⟨n, sh, x, y, u2 x 91 0 0, _, rk_11 58 hS hJ i v, ?_, ⟨hF, hT, w, nb, cc, nfT, L, ⟨hS.sC (sC.w0 x 0), hJ.sC h127 (sC.w0 x 0), hR.w0 0, hX, hn⟩, hr1, hr2, hr3⟩, rfl, fun k => ⟨rfl, u2_a (by decide)⟩⟩
  refine (mm_44 (x := x) (y := y) 59 hR.1 hR.2.1 m1 (by omega) i v).trans ?_
  rcases i_cs (i := i) (m := L.2.2.length) (by omega) with c | ⟨k, hk, e, c⟩
  · rw [if_pos c, if_pos c]
  · rw [if_neg c, if_neg c]
    subst e
    have q := m3 k _ (List.getElem?_eq_getElem hk)
    have hd : L.2.2.getD k (fun _ => 0) = L.2.2[k] := by rw [List.getD_eq_getElem?_getD, List.getElem?_eq_getElem hk]; rfl
    rw [nI_clamp (show k < 2 ^ 31 by omega), hd, ← q 0 (by decide), ← q 1 (by decide), ← q 2 (by decide), ← q 3 (by decide), ← q 4 (by decide), ← q 5 (by decide)]
theorem op_12 (h : GI n sh x y) (i v : Int32) : opR n sh x y 12 45 [.inl i, .inl v] := by
  obtain ⟨hF, hT, w, nb, cc, nfT, L, ⟨hS, hJ, hR, hX, hn⟩, hr1, hr2, hr3⟩ := h
  obtain ⟨m1, m2, m3, m4⟩ := hR.2.2.2.2
  have h127 : ∀ f, f < nfT → 127 ≤ hF f := fun f hf => hS.2.2.2.2.2.1 f (by omega)
  refine ⟨n, sh, x, y, u2 x 91 0 0, _, rk_12 58 hS hJ hn i v, ?_, ⟨hF, hT, w, nb, cc, nfT, L, ⟨hS.sC (sC.w0 x 0), hJ.sC h127 (sC.w0 x 0), hR.w0 0, hX, hn⟩, hr1, hr2, hr3⟩, rfl, fun k => ⟨rfl, u2_a (by decide)⟩⟩
  refine (mm_45 (x := x) (y := y) 59 hR.1 hR.2.1 m1 m2 i v).trans ?_
  rcases i_cs (i := i) (m := nfT) (by omega) with c | ⟨k, hk, e, c⟩
  · rw [if_pos c, if_pos c]
  · rw [if_neg c, if_neg c]
    subst e
    obtain ⟨q1, q2, q3⟩ := m3 k hk
    rw [nI_clamp (show k < 2 ^ 31 by omega), q1, q2, q3]
/-- closure -/
theorem op_13 (h : GI n sh x y) (t i : Int32) : opR n sh x y 13 30 [.inl t, .inl i] := by
  obtain ⟨hF, hT, w, nb, cc, nfT, L, ⟨hS, hJ, hR, hX, hn⟩, hr1, hr2, hr3⟩ := h
  have h127 : ∀ f, f < nfT → 127 ≤ hF f := fun f hf => hS.2.2.2.2.2.1 f (by omega)
  have l127 : ∀ t, t < wT w → 127 ≤ hT t := hS.2.2.2.2.2.2.1
  have hK : wR w := hX.R hS.2.1.1
  obtain ⟨a1, a2, a3⟩ := hJ.1
  have h2o := hS.1.1
  have h20 := hS.1.2.2.2.2.2.2.2
  obtain ⟨rk, hrk, hrb⟩ := id hK
  rcases i_cs (i := t) (m := wT w) (by omega) with c | ⟨k, hk, e, c⟩
  · obtain ⟨x2, q1, q2⟩ := mm_30 (x := x) (y := y) 56 hR.1 hR.2.1 hrk hrb hR.2.2.1.1 hR.2.2.1.2.2.1 t i
    rw [if_pos c] at q1
    refine ⟨n, sh, x, y, x2, _, ?_, q1, ⟨hF, hT, w, nb, cc, nfT, L, ⟨hS.sC q2.sC, hJ.sC h127 q2.sC, hR.fr q2, hX, hn⟩, hr1, hr2, hr3⟩, rfl, fun k => ⟨rfl, q2.sC 0 k (by decide)⟩⟩
    have c91 := rk_91n 58 hS c
    show mj_Cl pg (59 + 1) 13 _ _ = _
    rw [e_13]
    simp only [s_13_0, s_13_1, s_13_4, s_13_5, s_13_8, s_13_9, s_13_10_0, s_13_10_1, s_13_13, s_13_14, s_13_15, s_13_16, s_13_19, s_13_20, s_13_23, s_13_24, s_13_27, s_13_29, s_13_31_0, s_13_31_1, s_13_34, s_13_35, s_13_38, s_13_40, s_13_43, mj_lI_s, mj_lI_0, mj_lA_s, mj_lA_0, mj_sL_s, mj_sL_0, mj_s8_0, mj_s8_1, mj_s8_2, mj_s8_3, mj_bc_n, mj_bc_s, mj_bd_s, u2_eq, u2_a, u2_k, ne_eq, Nat.reduceEqDiff, not_false_eq_true, List.nil_append, List.cons_append, eq_self, true_or, or_true, if_true, if_false, false_or, or_false, not_true_eq_false, Bool.false_eq_true, ie_m1_0, ie_m1_1, ie_m1_2, ie_m1_3, ie_m1_4, ie_m1_5, ie_0_m1, ie_0_1, ie_0_2, ie_0_3, ie_0_4, ie_0_5, ie_1_m1, ie_1_0, ie_1_2, ie_1_3, ie_1_4, ie_1_5, ie_2_m1, ie_2_0, ie_2_1, ie_2_3, ie_2_4, ie_2_5, ie_3_m1, ie_3_0, ie_3_1, ie_3_2, ie_3_4, ie_3_5, ie_4_m1, ie_4_0, ie_4_1, ie_4_2, ie_4_3, ie_4_5, ie_5_m1, ie_5_0, ie_5_1, ie_5_2, ie_5_3, ie_5_4, ct_5, cv_5, ci_5_0, cp_5_0, ci_5_1, cp_5_1, ci_5_2, cp_5_2, ci_5_3, cp_5_3, ct_7, cv_7, ci_7_0, cp_7_0, ci_7_1, cp_7_1, a1, a2, h2o, c91]
  · subst e
    obtain ⟨x1, y1, p1, p2, p3, p4⟩ := rk_98s 44 hK hS hk
    have hfl : fL hT (wT w) x x1 y y1 := fL.clo hk p3 p4
    have hR1 := hR.cong (hfl.sR l127)
    have hS1 := hS.cong hfl.fS
    have hk127 := l127 k hk
    have hJ1 := hJ.fL hS hn (p3 _ _ (by omega)) (fun a j b1 b2 => ⟨p3 _ _ (by omega), p4 _ _ (by omega)⟩) hfl
    obtain ⟨x2, q1, q2⟩ := mm_30 (x := x1) (y := y1) 56 hR1.1 hR1.2.1 hrk hrb hR1.2.2.1.1 hR1.2.2.1.2.2.1 (nI k) i
    rw [if_neg c, nI_clamp (show k < 2 ^ 31 by omega)] at q1
    refine ⟨n, sh, x1, y1, x2, _, ?_, q1, ⟨hF, hT, w, nb, cc, nfT, L, ⟨hS1.sC q2.sC, hJ1.sC h127 q2.sC, hR1.fr q2, hX, hn⟩, hr1, hr2, hr3⟩, rfl, fun j => ⟨p3 _ _ (by omega), by rw [q2.sC 0 j (by decide)]; exact p3 _ _ (by omega)⟩⟩
    have c91 := rk_91s 58 hS hk
    have hTo := (hS.2.2.2.2.1 k hk).2.1.1
    have hT3 := (hS1.2.2.2.2.1 k hk).2.1.2.2.1
    have hro := p2.1.1
    have c73 := rk_73 58 p2 i
    have hl12 := p2.2.2.2.2.1
    have p1 : mj_Cl pg 59 98 [.inr (some (hT k))] (bl n sh x y) = some (none, bl n sh x1 y1) := p1
    show mj_Cl pg (59 + 1) 13 _ _ = _
    rw [e_13]
    rcases i_cs (i := i) (m := (clo (wN w) (wU w k)).length) (by omega) with c2 | ⟨j, hj, e2, c2⟩
    · rw [if_pos c2] at c73 ⊢
      simp only [s_13_0, s_13_1, s_13_4, s_13_5, s_13_8, s_13_9, s_13_10_0, s_13_10_1, s_13_13, s_13_14, s_13_15, s_13_16, s_13_19, s_13_20, s_13_23, s_13_24, s_13_27, s_13_29, s_13_31_0, s_13_31_1, s_13_34, s_13_35, s_13_38, s_13_40, s_13_43, mj_lI_s, mj_lI_0, mj_lA_s, mj_lA_0, mj_sL_s, mj_sL_0, mj_s8_0, mj_s8_1, mj_s8_2, mj_s8_3, mj_bc_n, mj_bc_s, mj_bd_s, u2_eq, u2_a, u2_k, ne_eq, Nat.reduceEqDiff, not_false_eq_true, List.nil_append, List.cons_append, eq_self, true_or, or_true, if_true, if_false, false_or, or_false, not_true_eq_false, Bool.false_eq_true, ie_m1_0, ie_m1_1, ie_m1_2, ie_m1_3, ie_m1_4, ie_m1_5, ie_0_m1, ie_0_1, ie_0_2, ie_0_3, ie_0_4, ie_0_5, ie_1_m1, ie_1_0, ie_1_2, ie_1_3, ie_1_4, ie_1_5, ie_2_m1, ie_2_0, ie_2_1, ie_2_3, ie_2_4, ie_2_5, ie_3_m1, ie_3_0, ie_3_1, ie_3_2, ie_3_4, ie_3_5, ie_4_m1, ie_4_0, ie_4_1, ie_4_2, ie_4_3, ie_4_5, ie_5_m1, ie_5_0, ie_5_1, ie_5_2, ie_5_3, ie_5_4, ct_3, cv_3, ci_3_0, cp_3_0, ci_3_1, cp_3_1, ci_3_2, cp_3_2, ci_3_3, cp_3_3, ct_5, cv_5, ci_5_0, cp_5_0, ci_5_1, cp_5_1, ci_5_2, cp_5_2, ci_5_3, cp_5_3, ct_6, cv_6, ci_6_0, cp_6_0, ci_6_1, cp_6_1, ci_6_2, cp_6_2, ci_6_3, cp_6_3, ci_6_4, cp_6_4, ci_6_5, cp_6_5, ci_6_6, cp_6_6, ci_6_7, cp_6_7, ct_7, cv_7, ci_7_0, cp_7_0, ci_7_1, cp_7_1, a1, a2, h2o, c91, hTo, p1, hT3, hro, c73]
    · subst e2
      rw [if_neg c2, nI_clamp (show j < 2 ^ 31 by omega), List.getElem?_eq_getElem hj, Option.map_some] at c73
      rw [if_neg c2, nI_clamp (show j < 2 ^ 31 by omega)]
      have hfn := p2.2.2.2.2.2.1 _ (List.getElem_mem hj)
      have ho := (hS1.2.1.2.1 _ hfn).1
      have h0 := (hS1.2.1.2.1 _ hfn).2.1
      have hd : (clo (wN w) (wU w k)).getD j 0 = (clo (wN w) (wU w k))[j] := by rw [List.getD_eq_getElem?_getD, List.getElem?_eq_getElem hj]; rfl
      rw [hd]
      simp only [s_13_0, s_13_1, s_13_4, s_13_5, s_13_8, s_13_9, s_13_10_0, s_13_10_1, s_13_13, s_13_14, s_13_15, s_13_16, s_13_19, s_13_20, s_13_23, s_13_24, s_13_27, s_13_29, s_13_31_0, s_13_31_1, s_13_34, s_13_35, s_13_38, s_13_40, s_13_43, mj_lI_s, mj_lI_0, mj_lA_s, mj_lA_0, mj_sL_s, mj_sL_0, mj_s8_0, mj_s8_1, mj_s8_2, mj_s8_3, mj_bc_n, mj_bc_s, mj_bd_s, u2_eq, u2_a, u2_k, ne_eq, Nat.reduceEqDiff, not_false_eq_true, List.nil_append, List.cons_append, eq_self, true_or, or_true, if_true, if_false, false_or, or_false, not_true_eq_false, Bool.false_eq_true, ie_m1_0, ie_m1_1, ie_m1_2, ie_m1_3, ie_m1_4, ie_m1_5, ie_0_m1, ie_0_1, ie_0_2, ie_0_3, ie_0_4, ie_0_5, ie_1_m1, ie_1_0, ie_1_2, ie_1_3, ie_1_4, ie_1_5, ie_2_m1, ie_2_0, ie_2_1, ie_2_3, ie_2_4, ie_2_5, ie_3_m1, ie_3_0, ie_3_1, ie_3_2, ie_3_4, ie_3_5, ie_4_m1, ie_4_0, ie_4_1, ie_4_2, ie_4_3, ie_4_5, ie_5_m1, ie_5_0, ie_5_1, ie_5_2, ie_5_3, ie_5_4, ct_1, cv_1, ci_1_0, cp_1_0, ci_1_1, cp_1_1, ci_1_2, cp_1_2, ci_1_3, cp_1_3, ci_1_4, cp_1_4, ci_1_5, cp_1_5, ci_1_6, cp_1_6, ci_1_7, cp_1_7, ci_1_8, cp_1_8, ci_1_9, cp_1_9, ci_1_10, cp_1_10, ci_1_11, cp_1_11, ci_1_12, cp_1_12, ci_1_13, cp_1_13, ci_1_14, cp_1_14, ct_3, cv_3, ci_3_0, cp_3_0, ci_3_1, cp_3_1, ci_3_2, cp_3_2, ci_3_3, cp_3_3, ct_5, cv_5, ci_5_0, cp_5_0, ci_5_1, cp_5_1, ci_5_2, cp_5_2, ci_5_3, cp_5_3, ct_6, cv_6, ci_6_0, cp_6_0, ci_6_1, cp_6_1, ci_6_2, cp_6_2, ci_6_3, cp_6_3, ci_6_4, cp_6_4, ci_6_5, cp_6_5, ci_6_6, cp_6_6, ci_6_7, cp_6_7, ct_7, cv_7, ci_7_0, cp_7_0, ci_7_1, cp_7_1, a1, a2, h2o, c91, hTo, p1, hT3, hro, c73, ho, h0]
/-- cases -/
theorem op_14 (h : GI n sh x y) (t : Int32) : opR n sh x y 14 32 [.inl t] := by
  obtain ⟨hF, hT, w, nb, cc, nfT, L, ⟨hS, hJ, hR, hX, hn⟩, hr1, hr2, hr3⟩ := h
  have h127 : ∀ f, f < nfT → 127 ≤ hF f := fun f hf => hS.2.2.2.2.2.1 f (by omega)
  have l127 : ∀ t, t < wT w → 127 ≤ hT t := hS.2.2.2.2.2.2.1
  have hK : wR w := hX.R hS.2.1.1
  obtain ⟨a1, a2, a3⟩ := hJ.1
  have h2o := hS.1.1
  have h20 := hS.1.2.2.2.2.2.2.2
  obtain ⟨rk, hrk, hrb⟩ := id hK
  rcases i_cs (i := t) (m := wT w) (by omega) with c | ⟨k, hk, e, c⟩
  · obtain ⟨x2, q1, q2⟩ := mm_32 (x := x) (y := y) 55 hR.1 hR.2.1 hrk hrb hR.2.2.1.1 hR.2.2.1.2.1 hR.2.2.1.2.2.1 t
    rw [if_pos c] at q1
    refine ⟨n, sh, x, y, x2, _, ?_, q1, ⟨hF, hT, w, nb, cc, nfT, L, ⟨hS.sC q2.sC, hJ.sC h127 q2.sC, hR.fr q2, hX, hn⟩, hr1, hr2, hr3⟩, rfl, fun k => ⟨rfl, q2.sC 0 k (by decide)⟩⟩
    have c91 := rk_91n 58 hS c
    show mj_Cl pg (59 + 1) 14 _ _ = _
    rw [e_14]
    simp only [s_14_0, s_14_1, s_14_4, s_14_5, s_14_8, s_14_9, s_14_10_0, s_14_10_1, s_14_13, s_14_14, s_14_17, s_14_18, s_14_21, mj_lI_s, mj_lI_0, mj_lA_s, mj_lA_0, mj_sL_s, mj_sL_0, mj_s8_0, mj_s8_1, mj_s8_2, mj_s8_3, mj_bc_n, mj_bc_s, mj_bd_s, u2_eq, u2_a, u2_k, ne_eq, Nat.reduceEqDiff, not_false_eq_true, List.nil_append, List.cons_append, eq_self, true_or, or_true, if_true, if_false, false_or, or_false, not_true_eq_false, Bool.false_eq_true, ie_m1_0, ie_m1_1, ie_m1_2, ie_m1_3, ie_m1_4, ie_m1_5, ie_0_m1, ie_0_1, ie_0_2, ie_0_3, ie_0_4, ie_0_5, ie_1_m1, ie_1_0, ie_1_2, ie_1_3, ie_1_4, ie_1_5, ie_2_m1, ie_2_0, ie_2_1, ie_2_3, ie_2_4, ie_2_5, ie_3_m1, ie_3_0, ie_3_1, ie_3_2, ie_3_4, ie_3_5, ie_4_m1, ie_4_0, ie_4_1, ie_4_2, ie_4_3, ie_4_5, ie_5_m1, ie_5_0, ie_5_1, ie_5_2, ie_5_3, ie_5_4, ct_5, cv_5, ci_5_0, cp_5_0, ci_5_1, cp_5_1, ci_5_2, cp_5_2, ci_5_3, cp_5_3, ct_7, cv_7, ci_7_0, cp_7_0, ci_7_1, cp_7_1, a1, a2, h2o, c91]
  · subst e
    obtain ⟨x1, y1, p1, p2, p3, p4⟩ := rk_100s 43 hK hS hk
    have hfl : fL hT (wT w) x x1 y y1 := fL.clo hk p3 p4
    have hR1 := hR.cong (hfl.sR l127)
    have hS1 := hS.cong hfl.fS
    have hk127 := l127 k hk
    have hJ1 := hJ.fL hS hn (p3 _ _ (by omega)) (fun a j b1 b2 => ⟨p3 _ _ (by omega), p4 _ _ (by omega)⟩) hfl
    obtain ⟨x2, q1, q2⟩ := mm_32 (x := x1) (y := y1) 55 hR1.1 hR1.2.1 hrk hrb hR1.2.2.1.1 hR1.2.2.1.2.1 hR1.2.2.1.2.2.1 (nI k)
    rw [if_neg c, nI_clamp (show k < 2 ^ 31 by omega)] at q1
    refine ⟨n, sh, x1, y1, x2, _, ?_, q1, ⟨hF, hT, w, nb, cc, nfT, L, ⟨hS1.sC q2.sC, hJ1.sC h127 q2.sC, hR1.fr q2, hX, hn⟩, hr1, hr2, hr3⟩, rfl, fun j => ⟨p3 _ _ (by omega), by rw [q2.sC 0 j (by decide)]; exact p3 _ _ (by omega)⟩⟩
    have c91 := rk_91s 58 hS hk
    have hTo := (hS.2.2.2.2.1 k hk).2.1.1
    have p1 : mj_Cl pg 59 100 [.inr (some (hT k))] (bl n sh x y) = some (some (.inl (nI (wCas w k))), bl n sh x1 y1) := p1
    show mj_Cl pg (59 + 1) 14 _ _ = _
    rw [e_14]
    simp only [s_14_0, s_14_1, s_14_4, s_14_5, s_14_8, s_14_9, s_14_10_0, s_14_10_1, s_14_13, s_14_14, s_14_17, s_14_18, s_14_21, mj_lI_s, mj_lI_0, mj_lA_s, mj_lA_0, mj_sL_s, mj_sL_0, mj_s8_0, mj_s8_1, mj_s8_2, mj_s8_3, mj_bc_n, mj_bc_s, mj_bd_s, u2_eq, u2_a, u2_k, ne_eq, Nat.reduceEqDiff, not_false_eq_true, List.nil_append, List.cons_append, eq_self, true_or, or_true, if_true, if_false, false_or, or_false, not_true_eq_false, Bool.false_eq_true, ie_m1_0, ie_m1_1, ie_m1_2, ie_m1_3, ie_m1_4, ie_m1_5, ie_0_m1, ie_0_1, ie_0_2, ie_0_3, ie_0_4, ie_0_5, ie_1_m1, ie_1_0, ie_1_2, ie_1_3, ie_1_4, ie_1_5, ie_2_m1, ie_2_0, ie_2_1, ie_2_3, ie_2_4, ie_2_5, ie_3_m1, ie_3_0, ie_3_1, ie_3_2, ie_3_4, ie_3_5, ie_4_m1, ie_4_0, ie_4_1, ie_4_2, ie_4_3, ie_4_5, ie_5_m1, ie_5_0, ie_5_1, ie_5_2, ie_5_3, ie_5_4, ct_5, cv_5, ci_5_0, cp_5_0, ci_5_1, cp_5_1, ci_5_2, cp_5_2, ci_5_3, cp_5_3, ct_6, cv_6, ci_6_0, cp_6_0, ci_6_1, cp_6_1, ci_6_2, cp_6_2, ci_6_3, cp_6_3, ci_6_4, cp_6_4, ci_6_5, cp_6_5, ci_6_6, cp_6_6, ci_6_7, cp_6_7, ct_7, cv_7, ci_7_0, cp_7_0, ci_7_1, cp_7_1, a1, a2, h2o, c91, hTo, p1]
    rfl
theorem wGo_len (w : sW) (o : Int32) : ∀ (k : Nat) (R : List (Nat × Nat)) (s : rs) (rows : List (Nat → Int32)), R.length = k → (wGo w o k R s rows).2.length = rows.length + k := by
  intro k
  induction k with
  | zero => intro R s rows _; rfl
  | succ k ih =>
    intro R s rows hk
    obtain ⟨c, hc⟩ := bst_some (wLk w o s) R none (Or.inr (fun z => by rw [z] at hk; cases hk))
    have hcm : c ∈ R := (bst_mem _ R none c hc).resolve_left (fun z => by cases z)
    show ((match R.foldl (bst (wLk w o s)) none with | none => (s, rows) | some c => wGo w o k (R.erase c) (wCs w rows.length c.1 c.2 s).2.2.2.2.1 (rows ++ [wRow w rows.length c.1 c.2 s])) : rs × List (Nat → Int32)).2.length = _
    rw [hc]
    show (wGo w o k (R.erase c) _ _).2.length = _
    rw [ih _ _ _ (by rw [List.length_erase_of_mem hcm]; omega), List.length_append]
    simp
    omega
/-- run -/
theorem op_8 (h : GI n sh x y) (o : Int32) : opR n sh x y 8 41 [.inl o] := by
  obtain ⟨hF, hT, w, nb, cc, nfT, L, ⟨hS, hJ, hR, hX, hn⟩, hr1, hr2, hr3⟩ := h
  have h127 : ∀ f, f < wF w → 127 ≤ hF f := hS.2.2.2.2.2.1
  have h127' : ∀ f, f < nfT → 127 ≤ hF f := fun f hf => h127 f (by omega)
  have l127 : ∀ t, t < wT w → 127 ≤ hT t := hS.2.2.2.2.2.2.1
  have hK : wR w := hX.R hS.2.1.1
  obtain ⟨a1, a2, a3⟩ := hJ.1
  have h2o := hS.1.1
  have h20 := hS.1.2.2.2.2.2.2.2
  have h12 := hS.2.1.1
  have c15 := rk_15 58 o 0 1 (bl n sh x y)
  by_cases c : o < 0 ∨ 1 < o
  · obtain ⟨x2, q1, q2, q3⟩ := mm_41 (x := x) (y := y) 54 hR.1 hR.2.1 hK hR.2.2.1 o
    have c' : o < 0 ∨ 1 < o ∨ 40 < (wAll w).length := by
      rcases c with z | z
      · exact Or.inl z
      · exact Or.inr (Or.inl z)
    have q2 := q2 c'
    rw [if_pos c'] at q1
    refine ⟨n, sh, x, y, x2, _, ?_, q1, ⟨hF, hT, w, nb, cc, nfT, L, ⟨hS.sC q2.sC, hJ.sC h127' q2.sC, hR.fr q2, hX, hn⟩, hr1, hr2, hr3⟩, rfl, fun k => ⟨rfl, q2.sC 0 k (by decide)⟩⟩
    rw [if_pos c] at c15
    show mj_Cl pg (59 + 1) 8 _ _ = _
    rw [e_8]
    simp only [s_8_0, s_8_1, s_8_2, s_8_3, s_8_6, s_8_9, s_8_10, s_8_11, s_8_12, s_8_15, s_8_18, s_8_20, s_8_23, s_8_24, s_8_25, s_8_26, s_8_29, s_8_30, s_8_33, s_8_34, s_8_37, s_8_38, s_8_41, s_8_44, mj_lI_s, mj_lI_0, mj_lA_s, mj_lA_0, mj_sL_s, mj_sL_0, mj_s8_0, mj_s8_1, mj_s8_2, mj_s8_3, mj_bc_n, mj_bc_s, mj_bd_s, u2_eq, u2_a, u2_k, ne_eq, Nat.reduceEqDiff, not_false_eq_true, List.nil_append, List.cons_append, eq_self, true_or, or_true, if_true, if_false, false_or, or_false, not_true_eq_false, Bool.false_eq_true, ie_m1_0, ie_m1_1, ie_m1_2, ie_m1_3, ie_m1_4, ie_m1_5, ie_0_m1, ie_0_1, ie_0_2, ie_0_3, ie_0_4, ie_0_5, ie_1_m1, ie_1_0, ie_1_2, ie_1_3, ie_1_4, ie_1_5, ie_2_m1, ie_2_0, ie_2_1, ie_2_3, ie_2_4, ie_2_5, ie_3_m1, ie_3_0, ie_3_1, ie_3_2, ie_3_4, ie_3_5, ie_4_m1, ie_4_0, ie_4_1, ie_4_2, ie_4_3, ie_4_5, ie_5_m1, ie_5_0, ie_5_1, ie_5_2, ie_5_3, ie_5_4, ct_5, cv_5, ci_5_0, cp_5_0, ci_5_1, cp_5_1, ci_5_2, cp_5_2, ci_5_3, cp_5_3, ct_7, cv_7, ci_7_0, cp_7_0, ci_7_1, cp_7_1, c15]
  rw [if_neg c] at c15
  have c10 : ¬ ((1 : Int32) = 0) := by decide
  obtain ⟨x1, y1, p1, hfl0⟩ := rk_96 42 hK hS
  have p1 : mj_Cl pg 59 96 [.inr (some 2)] (bl n sh x y) = some (some (.inl (nI (wAll w).length)), bl n sh x1 y1) := p1
  have hs9 : (wAll w).length ≤ 160 := by
    unfold wAll
    rw [wAf_len]
    have : ∀ j k, wSum w j k ≤ 8 * j := by
      intro j
      induction j with
      | zero => intro k; exact Nat.le_refl _
      | succ j ih => intro k; have := ih (k + 1); have := wCas_le w k; show wCas w k + wSum w j (k + 1) ≤ _; omega
    have := this (wT w) 0
    omega
  have hcmp : (nI (wAll w).length ≤ 40) = ((wAll w).length ≤ 40) := nI_lep (b := 40) (by omega) (by decide)
  have hfl := hfl0.fL
  have hS1 := hS.cong hfl.fS
  have hR1 := hR.cong (hfl.sR l127)
  have hJ1 := hJ.fL hS hn (hfl0.1 5 3 (fun ⟨t, ht, z, _⟩ => by have := l127 t ht; omega)) (fun a j b1 b2 => ⟨hfl0.1 _ _ (fun ⟨t, ht, z, _⟩ => by have := l127 t ht; omega), hfl0.2 _ _ (fun ⟨t, ht, z⟩ => by have := l127 t ht; omega)⟩) hfl
  have x10 : ∀ k, x1 0 k = x 0 k := fun k => hfl0.1 0 k (fun ⟨t, ht, z, _⟩ => by have := l127 t ht; omega)
  by_cases c4 : (wAll w).length ≤ 40
  · have ho : o = 0 ∨ o = 1 := by
      obtain ⟨k, hk, e⟩ := i_in (x := o) (n := 2) (by decide) (fun z => c (Or.inl z)) (fun z => c (Or.inr (Int32.lt_of_lt_of_le (by decide) z)))
      rw [e]
      have : k = 0 ∨ k = 1 := by omega
      rcases this with z | z
      · exact Or.inl (by rw [z]; rfl)
      · exact Or.inr (by rw [z]; rfl)
    obtain ⟨x2, y2, cc2, p2, hS2, hU2, hc2, h62, hL2, hf2⟩ := rk_77 41 hK hX.1.1 hX.2.2 ho hS1 hJ1.2.1 hJ1.2.2.1 hJ1.2.2.2.1 hJ1.2.2.2.2.2.2.2.1.1 hJ1.2.2.2.2.2.2.2.1.2.1 hJ1.2.2.2.2.2.2.2.1.2.2.1 c4
    have p2 : mj_Cl pg 59 77 [.inr (some 5), .inr (some 2), .inl o] (bl n sh x1 y1) = some (none, bl n sh x2 y2) := p2
    have hR2 := hR1.cong (fS.sR hR1.1 hf2 l127)
    obtain ⟨x3, q1, q2, q3⟩ := mm_41 (x := x2) (y := y2) 54 hR2.1 hR2.2.1 hK hR2.2.2.1 o
    have c' : ¬ (o < 0 ∨ 1 < o ∨ 40 < (wAll w).length) := fun z => by
      rcases z with z | z | z
      · exact c (Or.inl z)
      · exact c (Or.inr z)
      · omega
    obtain ⟨q3, q4⟩ := q3 c'
    rw [if_neg c'] at q1
    have hsC : sC x2 x3 := fun a k z => q4 a k (by omega) (by omega)
    have hlen : (wRun w o).2.2.length = (wAll w).length := by
      have := wGo_len w o (wAll w).length (wAll w) ([], fun _ _ => 0, []) [] rfl
      rw [List.length_nil, Nat.zero_add] at this
      exact this
    have h53 : x2 5 3 = nI (wAll w).length := by rw [hL2.2.2.2.2.2.1, hlen]
    have y2l : ∀ a k, a < 7 → y2 a k = y1 a k := fun a k z => hf2.2 a k (dY_no (Or.inl z) (fun t ht => by have := l127 t ht; omega))
    have b1 := hJ1.1.1
    have b2 := hJ1.1.2.1
    have b3 := hJ1.1.2.2
    have b4 : y2 1 1 = some 5 := (y2l 1 1 (by decide)).trans b3
    have hU0 := hU2.1
    have hJ2 : cJ n sh x2 y2 hF hT cc2 (wT w) (wF w) (wRun w o) := ⟨⟨b1, (y2l 1 0 (by decide)).trans b2, b4⟩, hU2, hc2, h62, hL2⟩
    have x20 : ∀ k, x2 0 k = x1 0 k := fun k => hf2.1 0 k (dX_no (Or.inl (by rw [hr3]; decide)) (by omega) (fun t ht => Or.inl (by have := l127 t ht; omega)))
    refine ⟨n, sh, x2, y2, x3, _, ?_, q1, ⟨hF, hT, w, nb, cc2, wF w, wRun w o, ⟨hS2.sC hsC, hJ2.sC h127 hsC, ⟨hR2.1, hR2.2.1, hR2.2.2.1.cong (fun a k z => q4 a k (by omega) (by omega)), hR2.2.2.2.1.cong (fun a k z1 z2 => q4 a k (by omega) (by omega)), q3⟩, hX, Nat.le_refl _⟩, hr1, hr2, hr3⟩, rfl, fun k => ⟨by rw [x20, x10], by rw [hsC 0 k (by decide), x20, x10]⟩⟩
    show mj_Cl pg (59 + 1) 8 _ _ = _
    rw [e_8]
    simp only [s_8_0, s_8_1, s_8_2, s_8_3, s_8_6, s_8_9, s_8_10, s_8_11, s_8_12, s_8_15, s_8_18, s_8_20, s_8_23, s_8_24, s_8_25, s_8_26, s_8_29, s_8_30, s_8_33, s_8_34, s_8_37, s_8_38, s_8_41, s_8_44, mj_lI_s, mj_lI_0, mj_lA_s, mj_lA_0, mj_sL_s, mj_sL_0, mj_s8_0, mj_s8_1, mj_s8_2, mj_s8_3, mj_bc_n, mj_bc_s, mj_bd_s, u2_eq, u2_a, u2_k, ne_eq, Nat.reduceEqDiff, not_false_eq_true, List.nil_append, List.cons_append, eq_self, true_or, or_true, if_true, if_false, false_or, or_false, not_true_eq_false, Bool.false_eq_true, ie_m1_0, ie_m1_1, ie_m1_2, ie_m1_3, ie_m1_4, ie_m1_5, ie_0_m1, ie_0_1, ie_0_2, ie_0_3, ie_0_4, ie_0_5, ie_1_m1, ie_1_0, ie_1_2, ie_1_3, ie_1_4, ie_1_5, ie_2_m1, ie_2_0, ie_2_1, ie_2_3, ie_2_4, ie_2_5, ie_3_m1, ie_3_0, ie_3_1, ie_3_2, ie_3_4, ie_3_5, ie_4_m1, ie_4_0, ie_4_1, ie_4_2, ie_4_3, ie_4_5, ie_5_m1, ie_5_0, ie_5_1, ie_5_2, ie_5_3, ie_5_4, ct_4, cv_4, ci_4_0, cp_4_0, ci_4_1, cp_4_1, ci_4_2, cp_4_2, ci_4_3, cp_4_3, ci_4_4, cp_4_4, ct_5, cv_5, ci_5_0, cp_5_0, ci_5_1, cp_5_1, ci_5_2, cp_5_2, ci_5_3, cp_5_3, ct_7, cv_7, ci_7_0, cp_7_0, ci_7_1, cp_7_1, c15, c10, a1, a2, h2o, p1, hcmp, c4, b1, b2, b3, hU0, p2, b4, h53]
  · obtain ⟨x2, q1, q2, q3⟩ := mm_41 (x := x1) (y := y1) 54 hR1.1 hR1.2.1 hK hR1.2.2.1 o
    have c' : o < 0 ∨ 1 < o ∨ 40 < (wAll w).length := Or.inr (Or.inr (by omega))
    have q2 := q2 c'
    rw [if_pos c'] at q1
    refine ⟨n, sh, x1, y1, x2, _, ?_, q1, ⟨hF, hT, w, nb, cc, nfT, L, ⟨hS1.sC q2.sC, hJ1.sC h127' q2.sC, hR1.fr q2, hX, hn⟩, hr1, hr2, hr3⟩, rfl, fun k => ⟨x10 k, by rw [q2.sC 0 k (by decide), x10]⟩⟩
    show mj_Cl pg (59 + 1) 8 _ _ = _
    rw [e_8]
    simp only [s_8_0, s_8_1, s_8_2, s_8_3, s_8_6, s_8_9, s_8_10, s_8_11, s_8_12, s_8_15, s_8_18, s_8_20, s_8_23, s_8_24, s_8_25, s_8_26, s_8_29, s_8_30, s_8_33, s_8_34, s_8_37, s_8_38, s_8_41, s_8_44, mj_lI_s, mj_lI_0, mj_lA_s, mj_lA_0, mj_sL_s, mj_sL_0, mj_s8_0, mj_s8_1, mj_s8_2, mj_s8_3, mj_bc_n, mj_bc_s, mj_bd_s, u2_eq, u2_a, u2_k, ne_eq, Nat.reduceEqDiff, not_false_eq_true, List.nil_append, List.cons_append, eq_self, true_or, or_true, if_true, if_false, false_or, or_false, not_true_eq_false, Bool.false_eq_true, ie_m1_0, ie_m1_1, ie_m1_2, ie_m1_3, ie_m1_4, ie_m1_5, ie_0_m1, ie_0_1, ie_0_2, ie_0_3, ie_0_4, ie_0_5, ie_1_m1, ie_1_0, ie_1_2, ie_1_3, ie_1_4, ie_1_5, ie_2_m1, ie_2_0, ie_2_1, ie_2_3, ie_2_4, ie_2_5, ie_3_m1, ie_3_0, ie_3_1, ie_3_2, ie_3_4, ie_3_5, ie_4_m1, ie_4_0, ie_4_1, ie_4_2, ie_4_3, ie_4_5, ie_5_m1, ie_5_0, ie_5_1, ie_5_2, ie_5_3, ie_5_4, ct_4, cv_4, ci_4_0, cp_4_0, ci_4_1, cp_4_1, ci_4_2, cp_4_2, ci_4_3, cp_4_3, ci_4_4, cp_4_4, ct_5, cv_5, ci_5_0, cp_5_0, ci_5_1, cp_5_1, ci_5_2, cp_5_2, ci_5_3, cp_5_3, ct_7, cv_7, ci_7_0, cp_7_0, ci_7_1, cp_7_1, c15, c10, a1, a2, h2o, p1, hcmp, c4]
end BA
