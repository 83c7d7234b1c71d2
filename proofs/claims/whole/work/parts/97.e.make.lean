/-! make, end, what can't stay: the class -/
/-- the value that a case gives to a fixture -/
def gv : List (Nat × Nat) → Nat → Int32
  | [], _ => -1
  | (g, v) :: l, f => if f = g then nI v else gv l f
/-- a case object -/
def caP (n : Nat) (sh : Nat → Nat × Nat) (x : Nat → Nat → Int32) (y : Nat → Nat → Option Nat) (hT : Nat → Nat) (c t m : Nat) (ps : List (Nat × Nat)) : Prop := ob n sh c 0 7 ∧ ob n sh (c + 1) 100 12 ∧ y c 0 = some (hT t) ∧ x c 1 = nI m ∧ y c 2 = some (c + 1) ∧ (∀ f, f < 12 → x (c + 1) f = gv ps f) ∧ 11 ≤ c ∧ c + 1 ≤ 90
theorem gv_mem : ∀ {ps : List (Nat × Nat)}, (ps.map Prod.fst).Nodup → ∀ {f v : Nat}, (f, v) ∈ ps → gv ps f = nI v := by
  intro ps
  induction ps with
  | nil => intro _ f v h; cases h
  | cons p ps ih =>
    intro hn f v h
    obtain ⟨g, u⟩ := p
    rw [List.map_cons, List.nodup_cons] at hn
    rcases List.mem_cons.mp h with e | e
    · cases e
      exact if_pos rfl
    · have : f ≠ g := fun z => hn.1 (z ▸ List.mem_map.mpr ⟨(f, v), e, rfl⟩)
      show (if f = g then nI u else gv ps f) = nI v
      rw [if_neg this]
      exact ih hn.2 e
theorem gv_no : ∀ {ps : List (Nat × Nat)} {f : Nat}, f ∉ ps.map Prod.fst → gv ps f = -1 := by
  intro ps
  induction ps with
  | nil => intro f _; rfl
  | cons p ps ih =>
    intro f h
    obtain ⟨g, u⟩ := p
    rw [List.map_cons, List.mem_cons, not_or] at h
    show (if f = g then nI u else gv ps f) = -1
    rw [if_neg h.1]
    exact ih h.2
section ME
variable {n : Nat} {sh : Nat → Nat × Nat} {x : Nat → Nat → Int32} {y : Nat → Nat → Option Nat} {hF hT : Nat → Nat} {w : sW} {nb : Nat → Nat → Bool}
theorem fG.ca {x' : Nat → Nat → Int32} {y' : Nat → Nat → Option Nat} {c t m : Nat} {ps : List (Nat × Nat)} (h : fG sh x x' y y') (hC : caP n sh x y hT c t m ps) : caP n sh x' y' hT c t m ps := by
  obtain ⟨a1, a2, a3, a4, a5, a6, a7, a8⟩ := hC
  refine ⟨a1, a2, by rw [h.2 _ _ (by omega)]; exact a3, ?_, by rw [h.2 _ _ (by omega)]; exact a5, fun f hf => ?_, a7, a8⟩
  · rw [h.1 _ _ (fun z => a1.kd (by decide) z.1) (by omega) (by omega) (by omega)]; exact a4
  · rw [h.1 _ _ (fun z => a2.kd (by decide) z.1) (by omega) (by omega) (by omega)]; exact a6 f hf
theorem rk_48 (d : Nat) {c t m f : Nat} {ps : List (Nat × Nat)} (hX : fxP n sh x hF (wF w)) (hC : caP n sh x y hT c t m ps) (hf : f < wF w) : mj_Cl pg (d + 1) 48 [.inr (some c), .inr (some (hF f))] (bl n sh x y) = some (some (.inl (gv ps f)), bl n sh x y) := by
  obtain ⟨a1, a2, a3, a4, a5, a6, a7, a8⟩ := hC
  have hf12 : f < 12 := by have := hX.1; omega
  have ho := (hX.2.1 f hf).1
  have h0 := (hX.2.1 f hf).2.1
  rw [e_48]
  simp only [s_48_0, s_48_1, s_48_4, s_48_5, s_48_8, s_48_9, mj_lI_s, mj_lI_0, mj_lA_s, mj_lA_0, mj_sL_s, mj_sL_0, mj_s8_0, mj_s8_1, mj_s8_2, mj_s8_3, mj_bc_n, mj_bc_s, mj_bd_s, u2_eq, u2_a, u2_k, ne_eq, Nat.reduceEqDiff, not_false_eq_true, List.nil_append, List.cons_append, eq_self, true_or, or_true, if_true, if_false, false_or, or_false, not_true_eq_false, Bool.false_eq_true, ie_m1_0, ie_m1_1, ie_m1_2, ie_m1_3, ie_m1_4, ie_m1_5, ie_0_m1, ie_0_1, ie_0_2, ie_0_3, ie_0_4, ie_0_5, ie_1_m1, ie_1_0, ie_1_2, ie_1_3, ie_1_4, ie_1_5, ie_2_m1, ie_2_0, ie_2_1, ie_2_3, ie_2_4, ie_2_5, ie_3_m1, ie_3_0, ie_3_1, ie_3_2, ie_3_4, ie_3_5, ie_4_m1, ie_4_0, ie_4_1, ie_4_2, ie_4_3, ie_4_5, ie_5_m1, ie_5_0, ie_5_1, ie_5_2, ie_5_3, ie_5_4, ct_0, cv_0, ci_0_0, cp_0_0, ci_0_1, cp_0_1, ci_0_2, cp_0_2, ci_0_3, cp_0_3, ci_0_4, cp_0_4, ci_0_5, cp_0_5, ci_0_6, cp_0_6, ct_1, cv_1, ci_1_0, cp_1_0, ci_1_1, cp_1_1, ci_1_2, cp_1_2, ci_1_3, cp_1_3, ci_1_4, cp_1_4, ci_1_5, cp_1_5, ci_1_6, cp_1_6, ci_1_7, cp_1_7, ci_1_8, cp_1_8, ci_1_9, cp_1_9, ci_1_10, cp_1_10, ci_1_11, cp_1_11, ci_1_12, cp_1_12, ci_1_13, cp_1_13, ci_1_14, cp_1_14, a1, a5, ho, h0, xi_100 a2 hf12 (by decide), a6 f hf12]
/-- does it leave one standing -/
def lvs (ps : List (Nat × Nat)) (sc : Nat → Int32) (fi : Int32) (q : rq) (f : Nat) : Bool := decide (¬ (sc f = 1 ∧ ¬ q f 9 = fi) ∧ (gv ps f = -1 ∨ gv ps f = q f 8))
theorem rk_49 (d : Nat) {c t m f : Nat} {ps : List (Nat × Nat)} {s : rs} (hS : suP n sh x y hF hT w nb) (hC : caP n sh x y hT c t m ps) (ht : t < wT w) (hM : mdP n sh x y hF (wF w) s) (hf : f ∈ s.1) : mj_Cl pg (d + 2) 49 [.inr (some c), .inr (some (hF f))] (bl n sh x y) = some (some (.inl (if lvs ps (wI w 0) (wI w 1 t) s.2.1 f = true then 1 else 0)), bl n sh x y) := by
  have hfn : f < wF w := hM.1.2.2.2.2.2.1 f hf
  have hX := hS.2.1
  obtain ⟨a1, a2, a3, a4, a5, a6, a7, a8⟩ := hC
  have hf12 : f < 12 := by have := hX.1; omega
  have ho := (hX.2.1 f hfn).1
  have h0 := (hX.2.1 f hfn).2.1
  obtain ⟨k8, k9⟩ := (hM.2.2 f hfn).1 hf
  have k2 := (hS.2.2.1 f hfn).1.2.1
  have hTo := (hS.2.2.2.2.1 t ht).2.1.1
  have hT1 := (hS.2.2.2.2.1 t ht).2.2.1.2.1
  have c56 := rk_56 (x := x) (y := y) d ho (wI w 1 t)
  rw [k2, k9] at c56
  rw [e_49]
  by_cases c1 : wI w 0 f = 1 ∧ ¬ s.2.1 f 9 = wI w 1 t
  · have e9 : lvs ps (wI w 0) (wI w 1 t) s.2.1 f = false := decide_eq_false (fun z => z.1 c1)
    have c10 : ¬ ((1 : Int32) = 0) := by decide
    rw [if_pos c1] at c56
    simp only [s_49_0, s_49_1, s_49_4, s_49_5, s_49_8, s_49_9, s_49_10, s_49_11, s_49_12, s_49_15, s_49_18, s_49_21, s_49_24, s_49_25, s_49_26, s_49_29, s_49_30, s_49_31, s_49_34, s_49_37, s_49_38, s_49_41, s_49_42, mj_lI_s, mj_lI_0, mj_lA_s, mj_lA_0, mj_sL_s, mj_sL_0, mj_s8_0, mj_s8_1, mj_s8_2, mj_s8_3, mj_bc_n, mj_bc_s, mj_bd_s, u2_eq, u2_a, u2_k, ne_eq, Nat.reduceEqDiff, not_false_eq_true, List.nil_append, List.cons_append, eq_self, true_or, or_true, if_true, if_false, false_or, or_false, not_true_eq_false, Bool.false_eq_true, ie_m1_0, ie_m1_1, ie_m1_2, ie_m1_3, ie_m1_4, ie_m1_5, ie_0_m1, ie_0_1, ie_0_2, ie_0_3, ie_0_4, ie_0_5, ie_1_m1, ie_1_0, ie_1_2, ie_1_3, ie_1_4, ie_1_5, ie_2_m1, ie_2_0, ie_2_1, ie_2_3, ie_2_4, ie_2_5, ie_3_m1, ie_3_0, ie_3_1, ie_3_2, ie_3_4, ie_3_5, ie_4_m1, ie_4_0, ie_4_1, ie_4_2, ie_4_3, ie_4_5, ie_5_m1, ie_5_0, ie_5_1, ie_5_2, ie_5_3, ie_5_4, ct_0, cv_0, ci_0_0, cp_0_0, ci_0_1, cp_0_1, ci_0_2, cp_0_2, ci_0_3, cp_0_3, ci_0_4, cp_0_4, ci_0_5, cp_0_5, ci_0_6, cp_0_6, ct_1, cv_1, ci_1_0, cp_1_0, ci_1_1, cp_1_1, ci_1_2, cp_1_2, ci_1_3, cp_1_3, ci_1_4, cp_1_4, ci_1_5, cp_1_5, ci_1_6, cp_1_6, ci_1_7, cp_1_7, ci_1_8, cp_1_8, ci_1_9, cp_1_9, ci_1_10, cp_1_10, ci_1_11, cp_1_11, ci_1_12, cp_1_12, ci_1_13, cp_1_13, ci_1_14, cp_1_14, ct_6, cv_6, ci_6_0, cp_6_0, ci_6_1, cp_6_1, ci_6_2, cp_6_2, ci_6_3, cp_6_3, ci_6_4, cp_6_4, ci_6_5, cp_6_5, ci_6_6, cp_6_6, ci_6_7, cp_6_7, a1, a3, a5, ho, h0, xi_100 a2 hf12 (by decide), a6 f hf12, hTo, hT1, c56, c10, e9]
  · rw [if_neg c1] at c56
    by_cases c2 : gv ps f = -1
    · have e9 : lvs ps (wI w 0) (wI w 1 t) s.2.1 f = true := decide_eq_true ⟨c1, Or.inl c2⟩
      simp only [s_49_0, s_49_1, s_49_4, s_49_5, s_49_8, s_49_9, s_49_10, s_49_11, s_49_12, s_49_15, s_49_18, s_49_21, s_49_24, s_49_25, s_49_26, s_49_29, s_49_30, s_49_31, s_49_34, s_49_37, s_49_38, s_49_41, s_49_42, mj_lI_s, mj_lI_0, mj_lA_s, mj_lA_0, mj_sL_s, mj_sL_0, mj_s8_0, mj_s8_1, mj_s8_2, mj_s8_3, mj_bc_n, mj_bc_s, mj_bd_s, u2_eq, u2_a, u2_k, ne_eq, Nat.reduceEqDiff, not_false_eq_true, List.nil_append, List.cons_append, eq_self, true_or, or_true, if_true, if_false, false_or, or_false, not_true_eq_false, Bool.false_eq_true, ie_m1_0, ie_m1_1, ie_m1_2, ie_m1_3, ie_m1_4, ie_m1_5, ie_0_m1, ie_0_1, ie_0_2, ie_0_3, ie_0_4, ie_0_5, ie_1_m1, ie_1_0, ie_1_2, ie_1_3, ie_1_4, ie_1_5, ie_2_m1, ie_2_0, ie_2_1, ie_2_3, ie_2_4, ie_2_5, ie_3_m1, ie_3_0, ie_3_1, ie_3_2, ie_3_4, ie_3_5, ie_4_m1, ie_4_0, ie_4_1, ie_4_2, ie_4_3, ie_4_5, ie_5_m1, ie_5_0, ie_5_1, ie_5_2, ie_5_3, ie_5_4, ct_0, cv_0, ci_0_0, cp_0_0, ci_0_1, cp_0_1, ci_0_2, cp_0_2, ci_0_3, cp_0_3, ci_0_4, cp_0_4, ci_0_5, cp_0_5, ci_0_6, cp_0_6, ct_1, cv_1, ci_1_0, cp_1_0, ci_1_1, cp_1_1, ci_1_2, cp_1_2, ci_1_3, cp_1_3, ci_1_4, cp_1_4, ci_1_5, cp_1_5, ci_1_6, cp_1_6, ci_1_7, cp_1_7, ci_1_8, cp_1_8, ci_1_9, cp_1_9, ci_1_10, cp_1_10, ci_1_11, cp_1_11, ci_1_12, cp_1_12, ci_1_13, cp_1_13, ci_1_14, cp_1_14, ct_6, cv_6, ci_6_0, cp_6_0, ci_6_1, cp_6_1, ci_6_2, cp_6_2, ci_6_3, cp_6_3, ci_6_4, cp_6_4, ci_6_5, cp_6_5, ci_6_6, cp_6_6, ci_6_7, cp_6_7, a1, a3, a5, ho, h0, xi_100 a2 hf12 (by decide), a6 f hf12, hTo, hT1, c56, c2, e9]
    · by_cases c3 : gv ps f = s.2.1 f 8
      · have e9 : lvs ps (wI w 0) (wI w 1 t) s.2.1 f = true := decide_eq_true ⟨c1, Or.inr c3⟩
        have c4 : ¬ s.2.1 f 8 = -1 := c3 ▸ c2
        simp only [s_49_0, s_49_1, s_49_4, s_49_5, s_49_8, s_49_9, s_49_10, s_49_11, s_49_12, s_49_15, s_49_18, s_49_21, s_49_24, s_49_25, s_49_26, s_49_29, s_49_30, s_49_31, s_49_34, s_49_37, s_49_38, s_49_41, s_49_42, mj_lI_s, mj_lI_0, mj_lA_s, mj_lA_0, mj_sL_s, mj_sL_0, mj_s8_0, mj_s8_1, mj_s8_2, mj_s8_3, mj_bc_n, mj_bc_s, mj_bd_s, u2_eq, u2_a, u2_k, ne_eq, Nat.reduceEqDiff, not_false_eq_true, List.nil_append, List.cons_append, eq_self, true_or, or_true, if_true, if_false, false_or, or_false, not_true_eq_false, Bool.false_eq_true, ie_m1_0, ie_m1_1, ie_m1_2, ie_m1_3, ie_m1_4, ie_m1_5, ie_0_m1, ie_0_1, ie_0_2, ie_0_3, ie_0_4, ie_0_5, ie_1_m1, ie_1_0, ie_1_2, ie_1_3, ie_1_4, ie_1_5, ie_2_m1, ie_2_0, ie_2_1, ie_2_3, ie_2_4, ie_2_5, ie_3_m1, ie_3_0, ie_3_1, ie_3_2, ie_3_4, ie_3_5, ie_4_m1, ie_4_0, ie_4_1, ie_4_2, ie_4_3, ie_4_5, ie_5_m1, ie_5_0, ie_5_1, ie_5_2, ie_5_3, ie_5_4, ct_0, cv_0, ci_0_0, cp_0_0, ci_0_1, cp_0_1, ci_0_2, cp_0_2, ci_0_3, cp_0_3, ci_0_4, cp_0_4, ci_0_5, cp_0_5, ci_0_6, cp_0_6, ct_1, cv_1, ci_1_0, cp_1_0, ci_1_1, cp_1_1, ci_1_2, cp_1_2, ci_1_3, cp_1_3, ci_1_4, cp_1_4, ci_1_5, cp_1_5, ci_1_6, cp_1_6, ci_1_7, cp_1_7, ci_1_8, cp_1_8, ci_1_9, cp_1_9, ci_1_10, cp_1_10, ci_1_11, cp_1_11, ci_1_12, cp_1_12, ci_1_13, cp_1_13, ci_1_14, cp_1_14, ct_6, cv_6, ci_6_0, cp_6_0, ci_6_1, cp_6_1, ci_6_2, cp_6_2, ci_6_3, cp_6_3, ci_6_4, cp_6_4, ci_6_5, cp_6_5, ci_6_6, cp_6_6, ci_6_7, cp_6_7, a1, a3, a5, ho, h0, xi_100 a2 hf12 (by decide), a6 f hf12, hTo, hT1, c56, c4, k8, c3, e9]
      · have e9 : lvs ps (wI w 0) (wI w 1 t) s.2.1 f = false := decide_eq_false (fun z => by
          rcases z.2 with q | q
          · exact c2 q
          · exact c3 q)
        simp only [s_49_0, s_49_1, s_49_4, s_49_5, s_49_8, s_49_9, s_49_10, s_49_11, s_49_12, s_49_15, s_49_18, s_49_21, s_49_24, s_49_25, s_49_26, s_49_29, s_49_30, s_49_31, s_49_34, s_49_37, s_49_38, s_49_41, s_49_42, mj_lI_s, mj_lI_0, mj_lA_s, mj_lA_0, mj_sL_s, mj_sL_0, mj_s8_0, mj_s8_1, mj_s8_2, mj_s8_3, mj_bc_n, mj_bc_s, mj_bd_s, u2_eq, u2_a, u2_k, ne_eq, Nat.reduceEqDiff, not_false_eq_true, List.nil_append, List.cons_append, eq_self, true_or, or_true, if_true, if_false, false_or, or_false, not_true_eq_false, Bool.false_eq_true, ie_m1_0, ie_m1_1, ie_m1_2, ie_m1_3, ie_m1_4, ie_m1_5, ie_0_m1, ie_0_1, ie_0_2, ie_0_3, ie_0_4, ie_0_5, ie_1_m1, ie_1_0, ie_1_2, ie_1_3, ie_1_4, ie_1_5, ie_2_m1, ie_2_0, ie_2_1, ie_2_3, ie_2_4, ie_2_5, ie_3_m1, ie_3_0, ie_3_1, ie_3_2, ie_3_4, ie_3_5, ie_4_m1, ie_4_0, ie_4_1, ie_4_2, ie_4_3, ie_4_5, ie_5_m1, ie_5_0, ie_5_1, ie_5_2, ie_5_3, ie_5_4, ct_0, cv_0, ci_0_0, cp_0_0, ci_0_1, cp_0_1, ci_0_2, cp_0_2, ci_0_3, cp_0_3, ci_0_4, cp_0_4, ci_0_5, cp_0_5, ci_0_6, cp_0_6, ct_1, cv_1, ci_1_0, cp_1_0, ci_1_1, cp_1_1, ci_1_2, cp_1_2, ci_1_3, cp_1_3, ci_1_4, cp_1_4, ci_1_5, cp_1_5, ci_1_6, cp_1_6, ci_1_7, cp_1_7, ci_1_8, cp_1_8, ci_1_9, cp_1_9, ci_1_10, cp_1_10, ci_1_11, cp_1_11, ci_1_12, cp_1_12, ci_1_13, cp_1_13, ci_1_14, cp_1_14, ct_6, cv_6, ci_6_0, cp_6_0, ci_6_1, cp_6_1, ci_6_2, cp_6_2, ci_6_3, cp_6_3, ci_6_4, cp_6_4, ci_6_5, cp_6_5, ci_6_6, cp_6_6, ci_6_7, cp_6_7, a1, a3, a5, ho, h0, xi_100 a2 hf12 (by decide), a6 f hf12, hTo, hT1, c56, c2, k8, c3, e9]
/-- make -/
theorem rk_87 (d : Nat) {c t m f v : Nat} {ps : List (Nat × Nat)} {s : rs} (hS : suP n sh x y hF hT w nb) (hU : runP n sh y) (hC : caP n sh x y hT c t m ps) (ht : t < wT w) (hM : mdP n sh x y hF (wF w) s) (hf : f < wF w) (hfm : f ∉ s.1) (hv : gv ps f = nI v) (hv8 : v < 32) (hl : s.2.2.length < 3492) :
    ∃ x' y', mj_Cl pg (d + 3) 87 [.inr (some 5), .inr (some (hF f)), .inr (some c)] (bl n sh x y) = some (some (.inl (if bt (s.2.1 f 10) v = true then 0 else if wA w 1 f = 1 then 0 else 1)), bl n sh x' y') ∧ mdP n sh x' y' hF (wF w) (if bt (s.2.1 f 10) v = true then s else if wA w 1 f = 1 then sM0 (wI w 0) (wI w 1 t) s f v else sM1 (wI w 1 t) s f v) ∧ fG sh x x' y y' := by
  have hX := hS.2.1
  have ho := (hX.2.1 f hf).1
  have h0 := (hX.2.1 f hf).2.1
  have hco := hC.1
  have hc0 := hC.2.2.1
  have hTo := (hS.2.2.2.2.1 t ht).2.1.1
  have hT1 := (hS.2.2.2.2.1 t ht).2.2.1.2.1
  have k2 := (hS.2.2.1 f hf).1.2.1
  have k4 := (hS.2.2.1 f hf).1.2.2.2.1
  have hm1 := (hS.2.2.1 f hf).2.2.2.1
  obtain ⟨hU0, hU1, hU2, hU3⟩ := hU
  have hq10 := (hM.2.2 f hf).2.1
  have c48 := rk_48 (w := w) (d + 1) hX hC hf
  rw [hv] at c48
  have c61 := rk_61 (x := x) (y := y) (d + 1) ho (nI v)
  rw [hq10] at c61
  have hb61 := bb_andb (s.2.1 f 10) hv8
  have c10 : ¬ ((1 : Int32) = 0) := by decide
  rw [e_87]
  by_cases c1 : bt (s.2.1 f 10) v = true
  · refine ⟨x, y, ?_, by rw [if_pos c1]; exact hM, fG.rf sh x y⟩
    rw [if_neg (by rw [hb61, c1]; decide)] at c61
    simp only [s_87_0, s_87_1, s_87_2, s_87_5, s_87_6, s_87_7, s_87_10, s_87_13, s_87_15, s_87_16, s_87_17, s_87_20, s_87_23, s_87_24, s_87_25, s_87_26, s_87_29, s_87_32, s_87_33, s_87_34, s_87_36, s_87_39, s_87_40, s_87_43, s_87_44, s_87_45, s_87_48, s_87_49, s_87_52, s_87_53, s_87_54, s_87_55, s_87_56, s_87_58, s_87_61, s_87_62, s_87_65, s_87_66, s_87_69, s_87_70, s_87_73, s_87_74, s_87_75, s_87_78, s_87_79, s_87_82, s_87_83, mj_lI_s, mj_lI_0, mj_lA_s, mj_lA_0, mj_sL_s, mj_sL_0, mj_s8_0, mj_s8_1, mj_s8_2, mj_s8_3, mj_bc_n, mj_bc_s, mj_bd_s, u2_eq, u2_a, u2_k, ne_eq, Nat.reduceEqDiff, not_false_eq_true, List.nil_append, List.cons_append, eq_self, true_or, or_true, if_true, if_false, false_or, or_false, not_true_eq_false, Bool.false_eq_true, ie_m1_0, ie_m1_1, ie_m1_2, ie_m1_3, ie_m1_4, ie_m1_5, ie_0_m1, ie_0_1, ie_0_2, ie_0_3, ie_0_4, ie_0_5, ie_1_m1, ie_1_0, ie_1_2, ie_1_3, ie_1_4, ie_1_5, ie_2_m1, ie_2_0, ie_2_1, ie_2_3, ie_2_4, ie_2_5, ie_3_m1, ie_3_0, ie_3_1, ie_3_2, ie_3_4, ie_3_5, ie_4_m1, ie_4_0, ie_4_1, ie_4_2, ie_4_3, ie_4_5, ie_5_m1, ie_5_0, ie_5_1, ie_5_2, ie_5_3, ie_5_4, ct_0, cv_0, ci_0_0, cp_0_0, ci_0_1, cp_0_1, ci_0_2, cp_0_2, ci_0_3, cp_0_3, ci_0_4, cp_0_4, ci_0_5, cp_0_5, ci_0_6, cp_0_6, ct_1, cv_1, ci_1_0, cp_1_0, ci_1_1, cp_1_1, ci_1_2, cp_1_2, ci_1_3, cp_1_3, ci_1_4, cp_1_4, ci_1_5, cp_1_5, ci_1_6, cp_1_6, ci_1_7, cp_1_7, ci_1_8, cp_1_8, ci_1_9, cp_1_9, ci_1_10, cp_1_10, ci_1_11, cp_1_11, ci_1_12, cp_1_12, ci_1_13, cp_1_13, ci_1_14, cp_1_14, ct_6, cv_6, ci_6_0, cp_6_0, ci_6_1, cp_6_1, ci_6_2, cp_6_2, ci_6_3, cp_6_3, ci_6_4, cp_6_4, ci_6_5, cp_6_5, ci_6_6, cp_6_6, ci_6_7, cp_6_7, hco, hc0, hTo, hT1, ho, c48, c61, c10, c1]
  have c1f : bt (s.2.1 f 10) v = false := by simpa using c1
  rw [if_pos (by rw [hb61]; exact c1f)] at c61
  by_cases c2 : wA w 1 f = 1
  · simp only [if_neg c1, if_pos c2]
    have hk : (nI (wA w 1 f) = 0) = False := by rw [(nI_01 hm1).2]; exact eq_false (by omega)
    have c60 := rk_60 (x := x) (y := y) (d + 1) ho (nI v) (wI w 1 t)
    rw [k2] at c60
    have hM1 : mdP n sh (if wI w 0 f = 0 then x else u2 (u2 x (hF f) 10 (x (hF f) 10 ||| (1 <<< (nI v &&& 31)))) (hF f) 11 (wI w 1 t)) y hF (wF w) (s.1, (if wI w 0 f = 0 then s.2.1 else u2 (u2 s.2.1 f 10 (s.2.1 f 10 ||| (1 <<< (nI v &&& 31)))) f 11 (wI w 1 t)), s.2.2) := by
      by_cases z : wI w 0 f = 0
      · rw [if_pos z, if_pos z]; exact hM
      · rw [if_neg z, if_neg z]
        refine mdP.fw (md := []) hM ho (fun b k h => by rw [u2_ne (fun q => h ⟨q.1, by omega⟩), u2_ne (fun q => h ⟨q.1, by omega⟩)]) (fqP.fail hX hM.2.2 hf _ _ (fun q => ?_))
        have q2 := congrArg (fun z => bt z v) q
        simp only [b_or, bb_bit hv8, b_0] at q2
        simp at q2
    have hG1 : fG sh x (if wI w 0 f = 0 then x else u2 (u2 x (hF f) 10 (x (hF f) 10 ||| (1 <<< (nI v &&& 31)))) (hF f) 11 (wI w 1 t)) y y := by
      by_cases z : wI w 0 f = 0
      · rw [if_pos z]; exact fG.rf sh x y
      · rw [if_neg z]
        exact fW.fG (fun b k h => by rw [u2_ne (fun q => h ⟨q.1, by omega⟩), u2_ne (fun q => h ⟨q.1, by omega⟩)]) ho
    generalize (if wI w 0 f = 0 then x else u2 (u2 x (hF f) 10 (x (hF f) 10 ||| (1 <<< (nI v &&& 31)))) (hF f) 11 (wI w 1 t)) = x1 at c60 hM1 hG1
    have hlog := rk_66 (d + 1) hM1.2.1 hl 1 (nI f) (nI v)
    have h01 : x1 (hF f) 0 = nI f := by rw [hG1.1 _ _ (fun z => absurd z.2 (by decide)) (fun z => absurd (hM1.1.1.1.2.2.symm.trans (z.1 ▸ ho.2.2)) (by decide)) (ob_ne ho hM1.2.1.1 (by decide)) (ob_ne ho hM1.2.1.2.1 (by decide))]; exact h0
    have hlo := hM1.2.1.1
    refine ⟨_, y, ?_, mdP.lg hM1 (hX.cong (fun g hg => ?_)) hlog.2.1 (fun a k h8 h9 => by rw [u2_a h8, u2_a h9]), hG1.tr hlog.2.2⟩
    · simp only [s_87_0, s_87_1, s_87_2, s_87_5, s_87_6, s_87_7, s_87_10, s_87_13, s_87_15, s_87_16, s_87_17, s_87_20, s_87_23, s_87_24, s_87_25, s_87_26, s_87_29, s_87_32, s_87_33, s_87_34, s_87_36, s_87_39, s_87_40, s_87_43, s_87_44, s_87_45, s_87_48, s_87_49, s_87_52, s_87_53, s_87_54, s_87_55, s_87_56, s_87_58, s_87_61, s_87_62, s_87_65, s_87_66, s_87_69, s_87_70, s_87_73, s_87_74, s_87_75, s_87_78, s_87_79, s_87_82, s_87_83, mj_lI_s, mj_lI_0, mj_lA_s, mj_lA_0, mj_sL_s, mj_sL_0, mj_s8_0, mj_s8_1, mj_s8_2, mj_s8_3, mj_bc_n, mj_bc_s, mj_bd_s, u2_eq, u2_a, u2_k, ne_eq, Nat.reduceEqDiff, not_false_eq_true, List.nil_append, List.cons_append, eq_self, true_or, or_true, if_true, if_false, false_or, or_false, not_true_eq_false, Bool.false_eq_true, ie_m1_0, ie_m1_1, ie_m1_2, ie_m1_3, ie_m1_4, ie_m1_5, ie_0_m1, ie_0_1, ie_0_2, ie_0_3, ie_0_4, ie_0_5, ie_1_m1, ie_1_0, ie_1_2, ie_1_3, ie_1_4, ie_1_5, ie_2_m1, ie_2_0, ie_2_1, ie_2_3, ie_2_4, ie_2_5, ie_3_m1, ie_3_0, ie_3_1, ie_3_2, ie_3_4, ie_3_5, ie_4_m1, ie_4_0, ie_4_1, ie_4_2, ie_4_3, ie_4_5, ie_5_m1, ie_5_0, ie_5_1, ie_5_2, ie_5_3, ie_5_4, ct_0, cv_0, ci_0_0, cp_0_0, ci_0_1, cp_0_1, ci_0_2, cp_0_2, ci_0_3, cp_0_3, ci_0_4, cp_0_4, ci_0_5, cp_0_5, ci_0_6, cp_0_6, ct_1, cv_1, ci_1_0, cp_1_0, ci_1_1, cp_1_1, ci_1_2, cp_1_2, ci_1_3, cp_1_3, ci_1_4, cp_1_4, ci_1_5, cp_1_5, ci_1_6, cp_1_6, ci_1_7, cp_1_7, ci_1_8, cp_1_8, ci_1_9, cp_1_9, ci_1_10, cp_1_10, ci_1_11, cp_1_11, ci_1_12, cp_1_12, ci_1_13, cp_1_13, ci_1_14, cp_1_14, ct_2, cv_2, ci_2_0, cp_2_0, ci_2_1, cp_2_1, ct_4, cv_4, ci_4_0, cp_4_0, ci_4_1, cp_4_1, ci_4_2, cp_4_2, ci_4_3, cp_4_3, ci_4_4, cp_4_4, ct_6, cv_6, ci_6_0, cp_6_0, ci_6_1, cp_6_1, ci_6_2, cp_6_2, ci_6_3, cp_6_3, ci_6_4, cp_6_4, ci_6_5, cp_6_5, ci_6_6, cp_6_6, ci_6_7, cp_6_7, hco, hc0, hTo, hT1, ho, c48, c61, k4, hk, c60, hU0, hU2, h01, hlo, hlog.1]
    · have hgo := (hX.2.1 g hg).1
      exact ⟨hG1.1 _ _ (fun z => absurd z.2 (by decide)) (fun z => absurd (hM1.1.1.1.2.2.symm.trans (z.1 ▸ hgo.2.2)) (by decide)) (ob_ne hgo hM1.2.1.1 (by decide)) (ob_ne hgo hM1.2.1.2.1 (by decide)), hG1.1 _ _ (fun z => absurd z.2 (by decide)) (fun z => absurd (hM1.1.1.1.2.2.symm.trans (z.1 ▸ hgo.2.2)) (by decide)) (ob_ne hgo hM1.2.1.1 (by decide)) (ob_ne hgo hM1.2.1.2.1 (by decide))⟩
  · simp only [if_neg c1, if_neg c2]
    have hk : (nI (wA w 1 f) = 0) = True := by rw [(nI_01 hm1).2]; exact eq_true (by omega)
    have c58 := rk_58 (x := x) (y := y) (d + 1) ho (nI v) (wI w 1 t)
    have hlen : s.1.length < 12 := by
      have := nd_len (wF w) (s.1 ++ [f]) (by
        rw [List.nodup_append]
        exact ⟨hM.1.2.2.2.1, by simp, fun p hp r hr => by rw [List.mem_singleton.mp hr]; exact fun z => hfm (z ▸ hp)⟩) (fun g hg => by
        rcases List.mem_append.mp hg with a | a
        · exact hM.1.2.2.2.2.2.1 g a
        · rw [List.mem_singleton.mp a]; exact hf)
      rw [List.length_append] at this
      have h12 := hX.1
      simp at this
      omega
    have hW : fW x (u2 (u2 (u2 x (hF f) 8 (nI v)) (hF f) 9 (wI w 1 t)) (hF f) 12 (x (hF f) 12 + 1)) (hF f) := fun b k h => by rw [u2_ne (fun q => h ⟨q.1, by omega⟩), u2_ne (fun q => h ⟨q.1, by omega⟩), u2_ne (fun q => h ⟨q.1, by omega⟩)]
    have hM1 := mdP.fw (md := []) hM ho hW (fqP.made hX hM.2.2 hf (nI v) (wI w 1 t) s.1 (fun g hg => Or.inr hg))
    have hq1 := fqP.made hX hM.2.2 hf (nI v) (wI w 1 t) (s.1 ++ [f]) (fun g hg => by
      rcases List.mem_append.mp hg with a | a
      · exact Or.inr a
      · exact Or.inl (List.mem_singleton.mp a))
    have hG1 : fG sh x _ y y := hW.fG ho
    generalize (u2 (u2 (u2 x (hF f) 8 (nI v)) (hF f) 9 (wI w 1 t)) (hF f) 12 (x (hF f) 12 + 1)) = x1 at c58 hM1 hG1 hW hq1
    have hX1 : fxP n sh x1 hF (wF w) := hX.cong (fun g hg => ⟨hW _ _ (fun z => absurd z.2 (by decide)), hW _ _ (fun z => absurd z.2 (by decide))⟩)
    obtain ⟨x2, y2, p1, p2, p3, p4⟩ := rk_71 d hM1.1 hX1 hf hlen hfm
    have h6o := hM1.1.1.1
    have hlo := hM1.2.1.1
    have h7o := hM1.1.1.2.1
    have h02 : x2 (hF f) 0 = nI f := by rw [p3 _ _ (fun z => by omega)]; exact (hX1.2.1 f hf).2.1
    have hy2 : ∀ k, y2 5 k = y 5 k := fun k => p4 _ _ (by decide)
    have hL2 : lgP n sh x2 y2 s.2.2 := hM1.2.1.cong (fun k => ⟨p3 _ _ (by omega), p3 _ _ (by omega)⟩) (p4 _ _ (by decide))
    have hlog := rk_66 (d + 1) hL2 hl 0 (nI f) (nI v)
    have e52 : y2 5 1 = some 8 := (hy2 1).trans hU2
    have hne : ∀ g, g < wF w → hF g ≠ 6 := fun g hg => ob_ne (hX.2.1 g hg).1 h6o (by decide)
    have hM2 : mdP n sh x2 y2 hF (wF w) (s.1 ++ [f], u2 (u2 (u2 s.2.1 f 8 (nI v)) f 9 (wI w 1 t)) f 12 (s.2.1 f 12 + 1), s.2.2) := ⟨p2, hL2, fun g hg => by
      have e : ∀ k, x2 (hF g) k = x1 (hF g) k := fun k => p3 _ _ (fun z => hne g hg z.1)
      rw [e, e, e, e, e, e, e]
      exact hq1 g hg⟩
    have hX2 : fxP n sh x2 hF (wF w) := hX1.cong (fun g hg => ⟨p3 _ _ (fun z => hne g hg z.1), p3 _ _ (fun z => hne g hg z.1)⟩)
    have hG2 : fG sh x1 x2 y y2 := ⟨fun a k _ q2 _ _ => p3 a k (fun z => q2 ⟨z.1, by omega⟩), p4⟩
    refine ⟨_, y2, ?_, mdP.lg hM2 hX2 hlog.2.1 (fun a k h8 h9 => by rw [u2_a h8, u2_a h9]), (hG1.tr hG2).tr hlog.2.2⟩
    simp only [s_87_0, s_87_1, s_87_2, s_87_5, s_87_6, s_87_7, s_87_10, s_87_13, s_87_15, s_87_16, s_87_17, s_87_20, s_87_23, s_87_24, s_87_25, s_87_26, s_87_29, s_87_32, s_87_33, s_87_34, s_87_36, s_87_39, s_87_40, s_87_43, s_87_44, s_87_45, s_87_48, s_87_49, s_87_52, s_87_53, s_87_54, s_87_55, s_87_56, s_87_58, s_87_61, s_87_62, s_87_65, s_87_66, s_87_69, s_87_70, s_87_73, s_87_74, s_87_75, s_87_78, s_87_79, s_87_82, s_87_83, mj_lI_s, mj_lI_0, mj_lA_s, mj_lA_0, mj_sL_s, mj_sL_0, mj_s8_0, mj_s8_1, mj_s8_2, mj_s8_3, mj_bc_n, mj_bc_s, mj_bd_s, u2_eq, u2_a, u2_k, ne_eq, Nat.reduceEqDiff, not_false_eq_true, List.nil_append, List.cons_append, eq_self, true_or, or_true, if_true, if_false, false_or, or_false, not_true_eq_false, Bool.false_eq_true, ie_m1_0, ie_m1_1, ie_m1_2, ie_m1_3, ie_m1_4, ie_m1_5, ie_0_m1, ie_0_1, ie_0_2, ie_0_3, ie_0_4, ie_0_5, ie_1_m1, ie_1_0, ie_1_2, ie_1_3, ie_1_4, ie_1_5, ie_2_m1, ie_2_0, ie_2_1, ie_2_3, ie_2_4, ie_2_5, ie_3_m1, ie_3_0, ie_3_1, ie_3_2, ie_3_4, ie_3_5, ie_4_m1, ie_4_0, ie_4_1, ie_4_2, ie_4_3, ie_4_5, ie_5_m1, ie_5_0, ie_5_1, ie_5_2, ie_5_3, ie_5_4, ct_0, cv_0, ci_0_0, cp_0_0, ci_0_1, cp_0_1, ci_0_2, cp_0_2, ci_0_3, cp_0_3, ci_0_4, cp_0_4, ci_0_5, cp_0_5, ci_0_6, cp_0_6, ct_1, cv_1, ci_1_0, cp_1_0, ci_1_1, cp_1_1, ci_1_2, cp_1_2, ci_1_3, cp_1_3, ci_1_4, cp_1_4, ci_1_5, cp_1_5, ci_1_6, cp_1_6, ci_1_7, cp_1_7, ci_1_8, cp_1_8, ci_1_9, cp_1_9, ci_1_10, cp_1_10, ci_1_11, cp_1_11, ci_1_12, cp_1_12, ci_1_13, cp_1_13, ci_1_14, cp_1_14, ct_2, cv_2, ci_2_0, cp_2_0, ci_2_1, cp_2_1, ct_3, cv_3, ci_3_0, cp_3_0, ci_3_1, cp_3_1, ci_3_2, cp_3_2, ci_3_3, cp_3_3, ct_4, cv_4, ci_4_0, cp_4_0, ci_4_1, cp_4_1, ci_4_2, cp_4_2, ci_4_3, cp_4_3, ci_4_4, cp_4_4, ct_6, cv_6, ci_6_0, cp_6_0, ci_6_1, cp_6_1, ci_6_2, cp_6_2, ci_6_3, cp_6_3, ci_6_4, cp_6_4, ci_6_5, cp_6_5, ci_6_6, cp_6_6, ci_6_7, cp_6_7, hco, hc0, hTo, hT1, ho, c48, c61, k4, hk, c58, hU0, hU1, h6o, p1, e52, h02, hlo, hlog.1]
end ME
