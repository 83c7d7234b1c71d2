/-! the class's rows -/
def bF (f : Nat) : Int32 := 1 <<< (nI f &&& 31)
/-- the fixtures' objects, their numbers and bits -/
def fxP (n : Nat) (sh : Nat → Nat × Nat) (x : Nat → Nat → Int32) (hF : Nat → Nat) (nf : Nat) : Prop := nf ≤ 12 ∧ (∀ f, f < nf → ob n sh (hF f) 1 15 ∧ x (hF f) 0 = nI f ∧ x (hF f) 1 = bF f) ∧ ∀ f g, f < nf → g < nf → hF f = hF g → f = g
/-- a row r with its places q -/
def rowS (n : Nat) (sh : Nat → Nat × Nat) (x : Nat → Nat → Int32) (y : Nat → Nat → Option Nat) (r q most : Nat) : Prop := ob n sh r 3 4 ∧ ob n sh q 102 12 ∧ y r 0 = some q ∧ x r 3 = nI most ∧ most ≤ 12
/-- what it holds -/
def rowC (x : Nat → Nat → Int32) (y : Nat → Nat → Option Nat) (hF : Nat → Nat) (nf r q most : Nat) (l : List Nat) : Prop := x r 1 = nI l.length ∧ (∀ i, bt (x r 2) i = decide (i ∈ l)) ∧ l.Nodup ∧ l.length ≤ most ∧ (∀ f ∈ l, f < nf) ∧ ∀ j f, l[j]? = some f → y q j = some (hF f)
def rowP (n : Nat) (sh : Nat → Nat × Nat) (x : Nat → Nat → Int32) (y : Nat → Nat → Option Nat) (hF : Nat → Nat) (nf r q most : Nat) (l : List Nat) : Prop := rowS n sh x y r q most ∧ rowC x y hF nf r q most l
def fX1 (x x' : Nat → Nat → Int32) (r : Nat) : Prop := ∀ a k, ¬ (a = r ∧ (k = 1 ∨ k = 2)) → x' a k = x a k
def fY1 (y y' : Nat → Nat → Option Nat) (q : Nat) : Prop := ∀ a k, a ≠ q → y' a k = y a k
theorem fX1.rf (x : Nat → Nat → Int32) (r : Nat) : fX1 x x r := fun _ _ _ => rfl
theorem fY1.rf (y : Nat → Nat → Option Nat) (q : Nat) : fY1 y y q := fun _ _ _ => rfl
theorem fX1.tr {x y z : Nat → Nat → Int32} {r : Nat} (h1 : fX1 x y r) (h2 : fX1 y z r) : fX1 x z r := fun a k h => (h2 a k h).trans (h1 a k h)
theorem fY1.tr {x y z : Nat → Nat → Option Nat} {r : Nat} (h1 : fY1 x y r) (h2 : fY1 y z r) : fY1 x z r := fun a k h => (h2 a k h).trans (h1 a k h)
theorem ob_ne {n : Nat} {sh : Nat → Nat × Nat} {a b c m c' m' : Nat} (h1 : ob n sh a c m) (h2 : ob n sh b c' m') (h : c ≠ c') : a ≠ b := fun e => by
  subst e
  have h3 := h1.2.2.symm.trans h2.2.2
  exact h (congrArg Prod.fst h3)
section R1
variable {n : Nat} {sh : Nat → Nat × Nat} {x : Nat → Nat → Int32} {y : Nat → Nat → Option Nat} {hF : Nat → Nat} {nf : Nat}
theorem rowP.cong {x' : Nat → Nat → Int32} {y' : Nat → Nat → Option Nat} {r q most : Nat} {l : List Nat} (h : rowP n sh x y hF nf r q most l) (h1 : ∀ k, x' r k = x r k) (h2 : y' r 0 = y r 0) (h3 : ∀ k, y' q k = y q k) : rowP n sh x' y' hF nf r q most l := by
  obtain ⟨⟨a1, a2, a3, a4, a5⟩, b1, b2, b3, b4, b5, b6⟩ := h
  refine ⟨⟨a1, a2, by rw [h2]; exact a3, by rw [h1]; exact a4, a5⟩, by rw [h1]; exact b1, fun i => by rw [h1]; exact b2 i, b3, b4, b5, fun j f hj => by rw [h3]; exact b6 j f hj⟩
theorem fxP.cong {x' : Nat → Nat → Int32} (h : fxP n sh x hF nf) (h1 : ∀ f, f < nf → x' (hF f) 0 = x (hF f) 0 ∧ x' (hF f) 1 = x (hF f) 1) : fxP n sh x' hF nf :=
  ⟨h.1, fun f hf => ⟨(h.2.1 f hf).1, by rw [(h1 f hf).1]; exact (h.2.1 f hf).2.1, by rw [(h1 f hf).2]; exact (h.2.1 f hf).2.2⟩, h.2.2⟩
theorem rk_bit {r q most f : Nat} {l : List Nat} (hR : rowP n sh x y hF nf r q most l) (hX : fxP n sh x hF nf) (hf : f < nf) : (x r 2 &&& x (hF f) 1 = 0) = (f ∉ l) := by
  rw [(hX.2.1 f hf).2.2]
  unfold bF
  rw [bb_andb _ (by have := hX.1; omega), hR.2.2.1 f]
  simp
theorem rk_69 (d : Nat) {r q most f : Nat} {l : List Nat} (hR : rowP n sh x y hF nf r q most l) (hX : fxP n sh x hF nf) (hf : f < nf) : mj_Cl pg (d + 1) 69 [.inr (some r), .inr (some (hF f))] (bl n sh x y) = some (some (.inl (if f ∈ l then 1 else 0)), bl n sh x y) := by
  rw [e_69]
  have hr := hR.1.1
  have ho := (hX.2.1 f hf).1
  have hb := rk_bit hR hX hf
  by_cases e : f ∈ l
  · have hb' : (x r 2 &&& x (hF f) 1 = 0) = False := by rw [hb]; exact eq_false (fun q => q e)
    simp only [s_69_0, s_69_1, s_69_4, s_69_5, s_69_8, s_69_9, s_69_12, s_69_13, s_69_16, s_69_17, mj_lI_s, mj_lI_0, mj_lA_s, mj_lA_0, mj_sL_s, mj_sL_0, mj_s8_0, mj_s8_1, mj_s8_2, mj_s8_3, mj_bc_n, mj_bc_s, mj_bd_s, u2_eq, u2_a, u2_k, ne_eq, Nat.reduceEqDiff, not_false_eq_true, List.nil_append, List.cons_append, eq_self, true_or, or_true, if_true, if_false, false_or, or_false, not_true_eq_false, Bool.false_eq_true, ie_m1_0, ie_m1_1, ie_m1_2, ie_m1_3, ie_m1_4, ie_m1_5, ie_0_m1, ie_0_1, ie_0_2, ie_0_3, ie_0_4, ie_0_5, ie_1_m1, ie_1_0, ie_1_2, ie_1_3, ie_1_4, ie_1_5, ie_2_m1, ie_2_0, ie_2_1, ie_2_3, ie_2_4, ie_2_5, ie_3_m1, ie_3_0, ie_3_1, ie_3_2, ie_3_4, ie_3_5, ie_4_m1, ie_4_0, ie_4_1, ie_4_2, ie_4_3, ie_4_5, ie_5_m1, ie_5_0, ie_5_1, ie_5_2, ie_5_3, ie_5_4, ct_1, cv_1, ci_1_0, cp_1_0, ci_1_1, cp_1_1, ci_1_2, cp_1_2, ci_1_3, cp_1_3, ci_1_4, cp_1_4, ci_1_5, cp_1_5, ci_1_6, cp_1_6, ci_1_7, cp_1_7, ci_1_8, cp_1_8, ci_1_9, cp_1_9, ci_1_10, cp_1_10, ci_1_11, cp_1_11, ci_1_12, cp_1_12, ci_1_13, cp_1_13, ci_1_14, cp_1_14, ct_3, cv_3, ci_3_0, cp_3_0, ci_3_1, cp_3_1, ci_3_2, cp_3_2, ci_3_3, cp_3_3, hr, ho, hb', e]
  · have hb' : (x r 2 &&& x (hF f) 1 = 0) = True := by rw [hb]; exact eq_true e
    simp only [s_69_0, s_69_1, s_69_4, s_69_5, s_69_8, s_69_9, s_69_12, s_69_13, s_69_16, s_69_17, mj_lI_s, mj_lI_0, mj_lA_s, mj_lA_0, mj_sL_s, mj_sL_0, mj_s8_0, mj_s8_1, mj_s8_2, mj_s8_3, mj_bc_n, mj_bc_s, mj_bd_s, u2_eq, u2_a, u2_k, ne_eq, Nat.reduceEqDiff, not_false_eq_true, List.nil_append, List.cons_append, eq_self, true_or, or_true, if_true, if_false, false_or, or_false, not_true_eq_false, Bool.false_eq_true, ie_m1_0, ie_m1_1, ie_m1_2, ie_m1_3, ie_m1_4, ie_m1_5, ie_0_m1, ie_0_1, ie_0_2, ie_0_3, ie_0_4, ie_0_5, ie_1_m1, ie_1_0, ie_1_2, ie_1_3, ie_1_4, ie_1_5, ie_2_m1, ie_2_0, ie_2_1, ie_2_3, ie_2_4, ie_2_5, ie_3_m1, ie_3_0, ie_3_1, ie_3_2, ie_3_4, ie_3_5, ie_4_m1, ie_4_0, ie_4_1, ie_4_2, ie_4_3, ie_4_5, ie_5_m1, ie_5_0, ie_5_1, ie_5_2, ie_5_3, ie_5_4, ct_1, cv_1, ci_1_0, cp_1_0, ci_1_1, cp_1_1, ci_1_2, cp_1_2, ci_1_3, cp_1_3, ci_1_4, cp_1_4, ci_1_5, cp_1_5, ci_1_6, cp_1_6, ci_1_7, cp_1_7, ci_1_8, cp_1_8, ci_1_9, cp_1_9, ci_1_10, cp_1_10, ci_1_11, cp_1_11, ci_1_12, cp_1_12, ci_1_13, cp_1_13, ci_1_14, cp_1_14, ct_3, cv_3, ci_3_0, cp_3_0, ci_3_1, cp_3_1, ci_3_2, cp_3_2, ci_3_3, cp_3_3, hr, ho, hb', e]
theorem rk_70 (d : Nat) {r q most f : Nat} {l : List Nat} (hR : rowP n sh x y hF nf r q most l) (hX : fxP n sh x hF nf) (hf : f < nf) : mj_Cl pg (d + 1) 70 [.inr (some r), .inr (some (hF f))] (bl n sh x y) = some (some (.inl (if l.length < most ∧ f ∉ l then 1 else 0)), bl n sh x y) := by
  rw [e_70]
  have hr := hR.1.1
  have ho := (hX.2.1 f hf).1
  have hb := rk_bit hR hX hf
  have h1 := hR.2.1
  have h3 := hR.1.2.2.2.1
  have h12 := hR.1.2.2.2.2
  have h13 := hR.2.2.2.2.1
  have hc : (nI most ≤ nI l.length) = (most ≤ l.length) := nI_lep (by omega) (by omega)
  by_cases c : most ≤ l.length
  · have c1 : ¬ (l.length < most ∧ f ∉ l) := fun q => by omega
    simp only [s_70_0, s_70_1, s_70_4, s_70_5, s_70_8, s_70_11, s_70_12, s_70_15, s_70_16, s_70_19, s_70_20, s_70_23, s_70_24, s_70_27, s_70_28, mj_lI_s, mj_lI_0, mj_lA_s, mj_lA_0, mj_sL_s, mj_sL_0, mj_s8_0, mj_s8_1, mj_s8_2, mj_s8_3, mj_bc_n, mj_bc_s, mj_bd_s, u2_eq, u2_a, u2_k, ne_eq, Nat.reduceEqDiff, not_false_eq_true, List.nil_append, List.cons_append, eq_self, true_or, or_true, if_true, if_false, false_or, or_false, not_true_eq_false, Bool.false_eq_true, ie_m1_0, ie_m1_1, ie_m1_2, ie_m1_3, ie_m1_4, ie_m1_5, ie_0_m1, ie_0_1, ie_0_2, ie_0_3, ie_0_4, ie_0_5, ie_1_m1, ie_1_0, ie_1_2, ie_1_3, ie_1_4, ie_1_5, ie_2_m1, ie_2_0, ie_2_1, ie_2_3, ie_2_4, ie_2_5, ie_3_m1, ie_3_0, ie_3_1, ie_3_2, ie_3_4, ie_3_5, ie_4_m1, ie_4_0, ie_4_1, ie_4_2, ie_4_3, ie_4_5, ie_5_m1, ie_5_0, ie_5_1, ie_5_2, ie_5_3, ie_5_4, ct_1, cv_1, ci_1_0, cp_1_0, ci_1_1, cp_1_1, ci_1_2, cp_1_2, ci_1_3, cp_1_3, ci_1_4, cp_1_4, ci_1_5, cp_1_5, ci_1_6, cp_1_6, ci_1_7, cp_1_7, ci_1_8, cp_1_8, ci_1_9, cp_1_9, ci_1_10, cp_1_10, ci_1_11, cp_1_11, ci_1_12, cp_1_12, ci_1_13, cp_1_13, ci_1_14, cp_1_14, ct_3, cv_3, ci_3_0, cp_3_0, ci_3_1, cp_3_1, ci_3_2, cp_3_2, ci_3_3, cp_3_3, hr, ho, h1, h3, hc, c, c1]
  · by_cases e : f ∈ l
    · have hb' : (x r 2 &&& x (hF f) 1 = 0) = False := by rw [hb]; exact eq_false (fun q => q e)
      have c1 : ¬ (l.length < most ∧ f ∉ l) := fun q => q.2 e
      simp only [s_70_0, s_70_1, s_70_4, s_70_5, s_70_8, s_70_11, s_70_12, s_70_15, s_70_16, s_70_19, s_70_20, s_70_23, s_70_24, s_70_27, s_70_28, mj_lI_s, mj_lI_0, mj_lA_s, mj_lA_0, mj_sL_s, mj_sL_0, mj_s8_0, mj_s8_1, mj_s8_2, mj_s8_3, mj_bc_n, mj_bc_s, mj_bd_s, u2_eq, u2_a, u2_k, ne_eq, Nat.reduceEqDiff, not_false_eq_true, List.nil_append, List.cons_append, eq_self, true_or, or_true, if_true, if_false, false_or, or_false, not_true_eq_false, Bool.false_eq_true, ie_m1_0, ie_m1_1, ie_m1_2, ie_m1_3, ie_m1_4, ie_m1_5, ie_0_m1, ie_0_1, ie_0_2, ie_0_3, ie_0_4, ie_0_5, ie_1_m1, ie_1_0, ie_1_2, ie_1_3, ie_1_4, ie_1_5, ie_2_m1, ie_2_0, ie_2_1, ie_2_3, ie_2_4, ie_2_5, ie_3_m1, ie_3_0, ie_3_1, ie_3_2, ie_3_4, ie_3_5, ie_4_m1, ie_4_0, ie_4_1, ie_4_2, ie_4_3, ie_4_5, ie_5_m1, ie_5_0, ie_5_1, ie_5_2, ie_5_3, ie_5_4, ct_1, cv_1, ci_1_0, cp_1_0, ci_1_1, cp_1_1, ci_1_2, cp_1_2, ci_1_3, cp_1_3, ci_1_4, cp_1_4, ci_1_5, cp_1_5, ci_1_6, cp_1_6, ci_1_7, cp_1_7, ci_1_8, cp_1_8, ci_1_9, cp_1_9, ci_1_10, cp_1_10, ci_1_11, cp_1_11, ci_1_12, cp_1_12, ci_1_13, cp_1_13, ci_1_14, cp_1_14, ct_3, cv_3, ci_3_0, cp_3_0, ci_3_1, cp_3_1, ci_3_2, cp_3_2, ci_3_3, cp_3_3, hr, ho, h1, h3, hc, c, c1, hb']
    · have hb' : (x r 2 &&& x (hF f) 1 = 0) = True := by rw [hb]; exact eq_true e
      have c1 : l.length < most ∧ f ∉ l := ⟨by omega, e⟩
      simp only [s_70_0, s_70_1, s_70_4, s_70_5, s_70_8, s_70_11, s_70_12, s_70_15, s_70_16, s_70_19, s_70_20, s_70_23, s_70_24, s_70_27, s_70_28, mj_lI_s, mj_lI_0, mj_lA_s, mj_lA_0, mj_sL_s, mj_sL_0, mj_s8_0, mj_s8_1, mj_s8_2, mj_s8_3, mj_bc_n, mj_bc_s, mj_bd_s, u2_eq, u2_a, u2_k, ne_eq, Nat.reduceEqDiff, not_false_eq_true, List.nil_append, List.cons_append, eq_self, true_or, or_true, if_true, if_false, false_or, or_false, not_true_eq_false, Bool.false_eq_true, ie_m1_0, ie_m1_1, ie_m1_2, ie_m1_3, ie_m1_4, ie_m1_5, ie_0_m1, ie_0_1, ie_0_2, ie_0_3, ie_0_4, ie_0_5, ie_1_m1, ie_1_0, ie_1_2, ie_1_3, ie_1_4, ie_1_5, ie_2_m1, ie_2_0, ie_2_1, ie_2_3, ie_2_4, ie_2_5, ie_3_m1, ie_3_0, ie_3_1, ie_3_2, ie_3_4, ie_3_5, ie_4_m1, ie_4_0, ie_4_1, ie_4_2, ie_4_3, ie_4_5, ie_5_m1, ie_5_0, ie_5_1, ie_5_2, ie_5_3, ie_5_4, ct_1, cv_1, ci_1_0, cp_1_0, ci_1_1, cp_1_1, ci_1_2, cp_1_2, ci_1_3, cp_1_3, ci_1_4, cp_1_4, ci_1_5, cp_1_5, ci_1_6, cp_1_6, ci_1_7, cp_1_7, ci_1_8, cp_1_8, ci_1_9, cp_1_9, ci_1_10, cp_1_10, ci_1_11, cp_1_11, ci_1_12, cp_1_12, ci_1_13, cp_1_13, ci_1_14, cp_1_14, ct_3, cv_3, ci_3_0, cp_3_0, ci_3_1, cp_3_1, ci_3_2, cp_3_2, ci_3_3, cp_3_3, hr, ho, h1, h3, hc, c, c1, hb', and_self]
theorem rk_71 (d : Nat) {r q most f : Nat} {l : List Nat} (hR : rowP n sh x y hF nf r q most l) (hX : fxP n sh x hF nf) (hf : f < nf) (hm : l.length < most) (hn : f ∉ l) : ∃ x' y', mj_Cl pg (d + 2) 71 [.inr (some r), .inr (some (hF f))] (bl n sh x y) = some (none, bl n sh x' y') ∧ rowP n sh x' y' hF nf r q most (l ++ [f]) ∧ fX1 x x' r ∧ fY1 y y' q := by
  have c70 := rk_70 d hR hX hf
  rw [if_pos ⟨hm, hn⟩] at c70
  obtain ⟨⟨hr, hq, h0, h3, h12⟩, h1, h2, h4, h5, h6, h7⟩ := hR
  have ho := (hX.2.1 f hf).1
  have hbf := (hX.2.1 f hf).2.2
  have hl : l.length < 12 := by omega
  have hne : r ≠ q := ob_ne hr hq (by decide)
  have hX12 := hX.1
  refine ⟨u2 (u2 x r 2 (x r 2 ||| bF f)) r 1 (nI (l.length + 1)), u2 y q l.length (some (hF f)), ?_, ⟨⟨hr, hq, ?_, ?_, h12⟩, ?_, fun i => ?_, ?_, ?_, fun g hg => ?_, fun j g hj => ?_⟩, fun a k h => ?_, fun a k h => u2_a h⟩
  · rw [e_71]
    simp only [s_71_0, s_71_1, s_71_2, s_71_5, s_71_8, s_71_9, s_71_12, s_71_13, s_71_16, s_71_17, s_71_18, s_71_19, s_71_20, s_71_23, s_71_24, s_71_27, s_71_28, s_71_31, s_71_32, s_71_33, s_71_36, s_71_37, s_71_38, s_71_41, mj_lI_s, mj_lI_0, mj_lA_s, mj_lA_0, mj_sL_s, mj_sL_0, mj_s8_0, mj_s8_1, mj_s8_2, mj_s8_3, mj_bc_n, mj_bc_s, mj_bd_s, u2_eq, u2_a, u2_k, ne_eq, Nat.reduceEqDiff, not_false_eq_true, List.nil_append, List.cons_append, eq_self, true_or, or_true, if_true, if_false, false_or, or_false, not_true_eq_false, Bool.false_eq_true, ie_m1_0, ie_m1_1, ie_m1_2, ie_m1_3, ie_m1_4, ie_m1_5, ie_0_m1, ie_0_1, ie_0_2, ie_0_3, ie_0_4, ie_0_5, ie_1_m1, ie_1_0, ie_1_2, ie_1_3, ie_1_4, ie_1_5, ie_2_m1, ie_2_0, ie_2_1, ie_2_3, ie_2_4, ie_2_5, ie_3_m1, ie_3_0, ie_3_1, ie_3_2, ie_3_4, ie_3_5, ie_4_m1, ie_4_0, ie_4_1, ie_4_2, ie_4_3, ie_4_5, ie_5_m1, ie_5_0, ie_5_1, ie_5_2, ie_5_3, ie_5_4, ct_1, cv_1, ci_1_0, cp_1_0, ci_1_1, cp_1_1, ci_1_2, cp_1_2, ci_1_3, cp_1_3, ci_1_4, cp_1_4, ci_1_5, cp_1_5, ci_1_6, cp_1_6, ci_1_7, cp_1_7, ci_1_8, cp_1_8, ci_1_9, cp_1_9, ci_1_10, cp_1_10, ci_1_11, cp_1_11, ci_1_12, cp_1_12, ci_1_13, cp_1_13, ci_1_14, cp_1_14, ct_3, cv_3, ci_3_0, cp_3_0, ci_3_1, cp_3_1, ci_3_2, cp_3_2, ci_3_3, cp_3_3, c70, hr, ho, hbf, h0, h1, xq_102 hq hl (by decide), nI_1]
  · rw [u2_a hne]; exact h0
  · rw [u2_k (by decide), u2_k (by decide)]; exact h3
  · rw [u2_eq, List.length_append]; rfl
  · rw [u2_k (by decide), u2_eq, b_or, h2 i, bF, bb_bit (by omega)]
    simp
  · rw [List.nodup_append]
    exact ⟨h4, by simp, fun p hp s hs => by rw [List.mem_singleton.mp hs]; exact fun z => hn (z ▸ hp)⟩
  · rw [List.length_append]; exact hm
  · rcases List.mem_append.mp hg with e | e
    · exact h6 g e
    · rw [List.mem_singleton.mp e]; exact hf
  · rcases Nat.lt_or_ge j l.length with g1 | g1
    · rw [List.getElem?_append_left g1] at hj
      rw [u2_k (by omega)]; exact h7 j g hj
    · rw [List.getElem?_append_right g1] at hj
      have g2 : j - l.length < 1 := (List.getElem?_eq_some_iff.mp hj).1
      have g3 : j = l.length := by omega
      subst g3
      rw [Nat.sub_self] at hj
      cases hj
      rw [u2_eq]
  · rw [u2_ne (fun z => h ⟨z.1, Or.inl z.2⟩), u2_ne (fun z => h ⟨z.1, Or.inr z.2⟩)]
theorem rk_74 (d : Nat) {r q most : Nat} (hR : rowS n sh x y r q most) : ∃ x', mj_Cl pg (d + 1) 74 [.inr (some r)] (bl n sh x y) = some (none, bl n sh x' y) ∧ rowP n sh x' y hF nf r q most [] ∧ fX1 x x' r := by
  obtain ⟨hr, hq, h0, h3, h12⟩ := hR
  refine ⟨u2 (u2 x r 1 0) r 2 0, ?_, ⟨⟨hr, hq, h0, ?_, h12⟩, ?_, fun i => ?_, List.nodup_nil, Nat.zero_le _, fun g hg => (by cases hg), fun j g hj => (by simp at hj)⟩, fun a k h => ?_⟩
  · rw [e_74]
    simp only [s_74_0, s_74_1, s_74_2, s_74_5, s_74_6, s_74_7, s_74_10, mj_lI_s, mj_lI_0, mj_lA_s, mj_lA_0, mj_sL_s, mj_sL_0, mj_s8_0, mj_s8_1, mj_s8_2, mj_s8_3, mj_bc_n, mj_bc_s, mj_bd_s, u2_eq, u2_a, u2_k, ne_eq, Nat.reduceEqDiff, not_false_eq_true, List.nil_append, List.cons_append, eq_self, true_or, or_true, if_true, if_false, false_or, or_false, not_true_eq_false, Bool.false_eq_true, ie_m1_0, ie_m1_1, ie_m1_2, ie_m1_3, ie_m1_4, ie_m1_5, ie_0_m1, ie_0_1, ie_0_2, ie_0_3, ie_0_4, ie_0_5, ie_1_m1, ie_1_0, ie_1_2, ie_1_3, ie_1_4, ie_1_5, ie_2_m1, ie_2_0, ie_2_1, ie_2_3, ie_2_4, ie_2_5, ie_3_m1, ie_3_0, ie_3_1, ie_3_2, ie_3_4, ie_3_5, ie_4_m1, ie_4_0, ie_4_1, ie_4_2, ie_4_3, ie_4_5, ie_5_m1, ie_5_0, ie_5_1, ie_5_2, ie_5_3, ie_5_4, ct_3, cv_3, ci_3_0, cp_3_0, ci_3_1, cp_3_1, ci_3_2, cp_3_2, ci_3_3, cp_3_3, hr]
  · rw [u2_k (by decide), u2_k (by decide)]; exact h3
  · rw [u2_k (by decide), u2_eq]; rfl
  · rw [u2_eq, b_0]; simp
  · rw [u2_ne (fun z => h ⟨z.1, Or.inr z.2⟩), u2_ne (fun z => h ⟨z.1, Or.inl z.2⟩)]
theorem rk_73 (d : Nat) {r q most : Nat} {l : List Nat} (hR : rowP n sh x y hF nf r q most l) (i : Int32) : mj_Cl pg (d + 1) 73 [.inr (some r), .inl i] (bl n sh x y) = some (some (.inr (if i < 0 ∨ nI l.length ≤ i then none else (l[i.toNatClampNeg]?).map hF)), bl n sh x y) := by
  obtain ⟨⟨hr, hq, h0, h3, h12⟩, h1, h2, h4, h5, h6, h7⟩ := hR
  rw [e_73]
  by_cases c1 : i < 0
  · simp only [s_73_0, s_73_1, s_73_4, s_73_5, s_73_6, s_73_9, s_73_12, s_73_13, s_73_16, s_73_17, s_73_18, s_73_21, s_73_22, mj_lI_s, mj_lI_0, mj_lA_s, mj_lA_0, mj_sL_s, mj_sL_0, mj_s8_0, mj_s8_1, mj_s8_2, mj_s8_3, mj_bc_n, mj_bc_s, mj_bd_s, u2_eq, u2_a, u2_k, ne_eq, Nat.reduceEqDiff, not_false_eq_true, List.nil_append, List.cons_append, eq_self, true_or, or_true, if_true, if_false, false_or, or_false, not_true_eq_false, Bool.false_eq_true, ie_m1_0, ie_m1_1, ie_m1_2, ie_m1_3, ie_m1_4, ie_m1_5, ie_0_m1, ie_0_1, ie_0_2, ie_0_3, ie_0_4, ie_0_5, ie_1_m1, ie_1_0, ie_1_2, ie_1_3, ie_1_4, ie_1_5, ie_2_m1, ie_2_0, ie_2_1, ie_2_3, ie_2_4, ie_2_5, ie_3_m1, ie_3_0, ie_3_1, ie_3_2, ie_3_4, ie_3_5, ie_4_m1, ie_4_0, ie_4_1, ie_4_2, ie_4_3, ie_4_5, ie_5_m1, ie_5_0, ie_5_1, ie_5_2, ie_5_3, ie_5_4, ct_3, cv_3, ci_3_0, cp_3_0, ci_3_1, cp_3_1, ci_3_2, cp_3_2, ci_3_3, cp_3_3, hr, c1]
  by_cases c2 : nI l.length ≤ i
  · simp only [s_73_0, s_73_1, s_73_4, s_73_5, s_73_6, s_73_9, s_73_12, s_73_13, s_73_16, s_73_17, s_73_18, s_73_21, s_73_22, mj_lI_s, mj_lI_0, mj_lA_s, mj_lA_0, mj_sL_s, mj_sL_0, mj_s8_0, mj_s8_1, mj_s8_2, mj_s8_3, mj_bc_n, mj_bc_s, mj_bd_s, u2_eq, u2_a, u2_k, ne_eq, Nat.reduceEqDiff, not_false_eq_true, List.nil_append, List.cons_append, eq_self, true_or, or_true, if_true, if_false, false_or, or_false, not_true_eq_false, Bool.false_eq_true, ie_m1_0, ie_m1_1, ie_m1_2, ie_m1_3, ie_m1_4, ie_m1_5, ie_0_m1, ie_0_1, ie_0_2, ie_0_3, ie_0_4, ie_0_5, ie_1_m1, ie_1_0, ie_1_2, ie_1_3, ie_1_4, ie_1_5, ie_2_m1, ie_2_0, ie_2_1, ie_2_3, ie_2_4, ie_2_5, ie_3_m1, ie_3_0, ie_3_1, ie_3_2, ie_3_4, ie_3_5, ie_4_m1, ie_4_0, ie_4_1, ie_4_2, ie_4_3, ie_4_5, ie_5_m1, ie_5_0, ie_5_1, ie_5_2, ie_5_3, ie_5_4, ct_3, cv_3, ci_3_0, cp_3_0, ci_3_1, cp_3_1, ci_3_2, cp_3_2, ci_3_3, cp_3_3, hr, c1, h1, c2]
  obtain ⟨k, hk, rfl⟩ := i_in (by omega) c1 c2
  have hk12 : k < 12 := by omega
  have hg := h7 k _ (List.getElem?_eq_getElem hk)
  rw [nI_clamp (show k < 2 ^ 31 by omega), List.getElem?_eq_getElem hk]
  simp only [s_73_0, s_73_1, s_73_4, s_73_5, s_73_6, s_73_9, s_73_12, s_73_13, s_73_16, s_73_17, s_73_18, s_73_21, s_73_22, mj_lI_s, mj_lI_0, mj_lA_s, mj_lA_0, mj_sL_s, mj_sL_0, mj_s8_0, mj_s8_1, mj_s8_2, mj_s8_3, mj_bc_n, mj_bc_s, mj_bd_s, u2_eq, u2_a, u2_k, ne_eq, Nat.reduceEqDiff, not_false_eq_true, List.nil_append, List.cons_append, eq_self, true_or, or_true, if_true, if_false, false_or, or_false, not_true_eq_false, Bool.false_eq_true, ie_m1_0, ie_m1_1, ie_m1_2, ie_m1_3, ie_m1_4, ie_m1_5, ie_0_m1, ie_0_1, ie_0_2, ie_0_3, ie_0_4, ie_0_5, ie_1_m1, ie_1_0, ie_1_2, ie_1_3, ie_1_4, ie_1_5, ie_2_m1, ie_2_0, ie_2_1, ie_2_3, ie_2_4, ie_2_5, ie_3_m1, ie_3_0, ie_3_1, ie_3_2, ie_3_4, ie_3_5, ie_4_m1, ie_4_0, ie_4_1, ie_4_2, ie_4_3, ie_4_5, ie_5_m1, ie_5_0, ie_5_1, ie_5_2, ie_5_3, ie_5_4, ct_3, cv_3, ci_3_0, cp_3_0, ci_3_1, cp_3_1, ci_3_2, cp_3_2, ci_3_3, cp_3_3, hr, c1, h1, c2, h0, xr_102 hq hk12 (by decide), hg, Option.map_some]
/-- removeAt: the loop -/
theorem rk_72L (d : Nat) {r q p c : Nat} (hr : ob n sh r 3 4) (hq : ob n sh q 102 12) (hc : c ≤ 12) (hx1 : x r 1 = nI c) (Q : Option mj_R → Prop) : ∀ (j i : Nat) (y : Nat → Nat → Option Nat), i + 1 + j = c → y r 0 = some q → (∀ k, i < k → k < c → ∃ g, y q k = some g ∧ ob n sh g 1 15) →
    (∀ y' : Nat → Nat → Option Nat, (∀ a k, y' a k = if a = q ∧ i ≤ k ∧ k + 1 < c then y q (k + 1) else y a k) → Q (mj_Rn pg (d + 1) 72 (65, [some (.inr (some r)), some (.inl (nI p)), some (.inl (nI (c - 1)))], [], bl n sh x y'))) →
    Q (mj_Rn pg (d + 1) 72 (35, [some (.inr (some r)), some (.inl (nI p)), some (.inl (nI i))], [], bl n sh x y)) := by
  intro j
  induction j with
  | zero =>
    intro i y hi h0 hg hX
    have hkc : (nI c ≤ nI (i + 1)) = True := eq_true (nI_le (by omega) (by omega))
    rw [s_72_35]
    simp only [s_72_36, s_72_37, s_72_38, s_72_39, s_72_42, s_72_45, s_72_46, s_72_49, s_72_50, s_72_51, s_72_54, s_72_55, s_72_56, s_72_57, s_72_58, s_72_59, s_72_62, mj_lI_s, mj_lI_0, mj_lA_s, mj_lA_0, mj_sL_s, mj_sL_0, mj_s8_0, mj_s8_1, mj_s8_2, mj_s8_3, mj_bc_n, mj_bc_s, mj_bd_s, u2_eq, u2_a, u2_k, ne_eq, Nat.reduceEqDiff, not_false_eq_true, List.nil_append, List.cons_append, eq_self, true_or, or_true, if_true, if_false, false_or, or_false, not_true_eq_false, Bool.false_eq_true, ie_m1_0, ie_m1_1, ie_m1_2, ie_m1_3, ie_m1_4, ie_m1_5, ie_0_m1, ie_0_1, ie_0_2, ie_0_3, ie_0_4, ie_0_5, ie_1_m1, ie_1_0, ie_1_2, ie_1_3, ie_1_4, ie_1_5, ie_2_m1, ie_2_0, ie_2_1, ie_2_3, ie_2_4, ie_2_5, ie_3_m1, ie_3_0, ie_3_1, ie_3_2, ie_3_4, ie_3_5, ie_4_m1, ie_4_0, ie_4_1, ie_4_2, ie_4_3, ie_4_5, ie_5_m1, ie_5_0, ie_5_1, ie_5_2, ie_5_3, ie_5_4, ct_3, cv_3, ci_3_0, cp_3_0, ci_3_1, cp_3_1, ci_3_2, cp_3_2, ci_3_3, cp_3_3, hr, hx1, nI_1, hkc]
    have e1 : c - 1 = i := by omega
    have := hX y (fun a k => by rw [if_neg (by omega)])
    rw [e1] at this
    exact this
  | succ j ih =>
    intro i y hi h0 hg hX
    have hkc : (nI c ≤ nI (i + 1)) = False := eq_false (nI_ge (by omega) (by omega))
    obtain ⟨g, g1, g2⟩ := hg (i + 1) (by omega) (by omega)
    have hi12 : i < 12 := by omega
    have hj12 : i + 1 < 12 := by omega
    have hne : r ≠ q := ob_ne hr hq (by decide)
    rw [s_72_35]
    simp only [s_72_36, s_72_37, s_72_38, s_72_39, s_72_42, s_72_45, s_72_46, s_72_49, s_72_50, s_72_51, s_72_54, s_72_55, s_72_56, s_72_57, s_72_58, s_72_59, s_72_62, mj_lI_s, mj_lI_0, mj_lA_s, mj_lA_0, mj_sL_s, mj_sL_0, mj_s8_0, mj_s8_1, mj_s8_2, mj_s8_3, mj_bc_n, mj_bc_s, mj_bd_s, u2_eq, u2_a, u2_k, ne_eq, Nat.reduceEqDiff, not_false_eq_true, List.nil_append, List.cons_append, eq_self, true_or, or_true, if_true, if_false, false_or, or_false, not_true_eq_false, Bool.false_eq_true, ie_m1_0, ie_m1_1, ie_m1_2, ie_m1_3, ie_m1_4, ie_m1_5, ie_0_m1, ie_0_1, ie_0_2, ie_0_3, ie_0_4, ie_0_5, ie_1_m1, ie_1_0, ie_1_2, ie_1_3, ie_1_4, ie_1_5, ie_2_m1, ie_2_0, ie_2_1, ie_2_3, ie_2_4, ie_2_5, ie_3_m1, ie_3_0, ie_3_1, ie_3_2, ie_3_4, ie_3_5, ie_4_m1, ie_4_0, ie_4_1, ie_4_2, ie_4_3, ie_4_5, ie_5_m1, ie_5_0, ie_5_1, ie_5_2, ie_5_3, ie_5_4, ct_1, cv_1, ci_1_0, cp_1_0, ci_1_1, cp_1_1, ci_1_2, cp_1_2, ci_1_3, cp_1_3, ci_1_4, cp_1_4, ci_1_5, cp_1_5, ci_1_6, cp_1_6, ci_1_7, cp_1_7, ci_1_8, cp_1_8, ci_1_9, cp_1_9, ci_1_10, cp_1_10, ci_1_11, cp_1_11, ci_1_12, cp_1_12, ci_1_13, cp_1_13, ci_1_14, cp_1_14, ct_3, cv_3, ci_3_0, cp_3_0, ci_3_1, cp_3_1, ci_3_2, cp_3_2, ci_3_3, cp_3_3, hr, hx1, nI_1, hkc, h0, xr_102 hq hj12 (by decide), g1, g2, xq_102 hq hi12 (by decide)]
    refine ih (i + 1) _ (by omega) (by rw [u2_a hne]; exact h0) (fun k k1 k2 => by rw [u2_k (by omega)]; exact hg k (by omega) k2) (fun y' hy => hX y' (fun a k => ?_))
    rw [hy a k]
    by_cases ea : a = q
    · subst ea
      by_cases ek : k = i
      · subst ek
        rw [if_neg (by omega), u2_eq, if_pos ⟨rfl, Nat.le_refl _, by omega⟩, g1]
      · by_cases c1 : i + 1 ≤ k ∧ k + 1 < c
        · rw [if_pos ⟨rfl, c1⟩, u2_k (by omega), if_pos ⟨rfl, by omega, c1.2⟩]
        · rw [if_neg (fun z => c1 z.2), u2_k ek, if_neg (fun z => c1 ⟨by omega, z.2.2⟩)]
    · rw [if_neg (fun z => ea z.1), if_neg (fun z => ea z.1), u2_a ea]
/-- removeAt -/
theorem rk_72 (d : Nat) {r q most f : Nat} {a b : List Nat} (hR : rowP n sh x y hF nf r q most (a ++ f :: b)) (hX : fxP n sh x hF nf) : ∃ x' y', mj_Cl pg (d + 1) 72 [.inr (some r), .inl (nI a.length)] (bl n sh x y) = some (none, bl n sh x' y') ∧ rowP n sh x' y' hF nf r q most (a ++ b) ∧ fX1 x x' r ∧ fY1 y y' q := by
  obtain ⟨⟨hr, hq, h0, h3, h12⟩, h1, h2, h4, h5, h6, h7⟩ := hR
  have hlen : (a ++ f :: b).length = a.length + 1 + b.length := by simp; omega
  rw [hlen] at h1 h5
  have hf : f < nf := h6 f (by simp)
  have ho := (hX.2.1 f hf).1
  have hbf := (hX.2.1 f hf).2.2
  have hne : r ≠ q := ob_ne hr hq (by decide)
  have hX12 := hX.1
  have ha12 : a.length < 12 := by omega
  have hya : y q a.length = some (hF f) := h7 a.length f (by simp)
  have c1 : (nI a.length < 0) = False := eq_false (nI_pos (by omega))
  have c2 : (nI a.length < nI (a.length + 1 + b.length)) = True := by rw [nI_ltp (by omega) (by omega)]; exact eq_true (by omega)
  have hnd := h4
  rw [List.nodup_append] at hnd
  obtain ⟨n1, n2, n3⟩ := hnd
  have nb : f ∉ b := (List.nodup_cons.mp n2).1
  have na : f ∉ a := fun z => n3 f z f List.mem_cons_self rfl
  rw [e_72]
  simp only [s_72_0, s_72_1, s_72_4, s_72_5, s_72_6, s_72_9, s_72_12, s_72_13, s_72_14, s_72_15, s_72_18, s_72_19, s_72_22, s_72_23, s_72_24, s_72_27, s_72_28, s_72_29, s_72_30, s_72_33, s_72_34, mj_lI_s, mj_lI_0, mj_lA_s, mj_lA_0, mj_sL_s, mj_sL_0, mj_s8_0, mj_s8_1, mj_s8_2, mj_s8_3, mj_bc_n, mj_bc_s, mj_bd_s, u2_eq, u2_a, u2_k, ne_eq, Nat.reduceEqDiff, not_false_eq_true, List.nil_append, List.cons_append, eq_self, true_or, or_true, if_true, if_false, false_or, or_false, not_true_eq_false, Bool.false_eq_true, ie_m1_0, ie_m1_1, ie_m1_2, ie_m1_3, ie_m1_4, ie_m1_5, ie_0_m1, ie_0_1, ie_0_2, ie_0_3, ie_0_4, ie_0_5, ie_1_m1, ie_1_0, ie_1_2, ie_1_3, ie_1_4, ie_1_5, ie_2_m1, ie_2_0, ie_2_1, ie_2_3, ie_2_4, ie_2_5, ie_3_m1, ie_3_0, ie_3_1, ie_3_2, ie_3_4, ie_3_5, ie_4_m1, ie_4_0, ie_4_1, ie_4_2, ie_4_3, ie_4_5, ie_5_m1, ie_5_0, ie_5_1, ie_5_2, ie_5_3, ie_5_4, ct_1, cv_1, ci_1_0, cp_1_0, ci_1_1, cp_1_1, ci_1_2, cp_1_2, ci_1_3, cp_1_3, ci_1_4, cp_1_4, ci_1_5, cp_1_5, ci_1_6, cp_1_6, ci_1_7, cp_1_7, ci_1_8, cp_1_8, ci_1_9, cp_1_9, ci_1_10, cp_1_10, ci_1_11, cp_1_11, ci_1_12, cp_1_12, ci_1_13, cp_1_13, ci_1_14, cp_1_14, ct_3, cv_3, ci_3_0, cp_3_0, ci_3_1, cp_3_1, ci_3_2, cp_3_2, ci_3_3, cp_3_3, hr, c1, h1, c2, h0, xr_102 hq ha12 (by decide), hya, ho, hbf]
  refine rk_72L (x := u2 x r 2 (x r 2 &&& (bF f ^^^ -1))) d hr hq (c := a.length + 1 + b.length) (by omega) (by rw [u2_k (by decide)]; exact h1) (fun z => ∃ x' y', z = some (none, bl n sh x' y') ∧ rowP n sh x' y' hF nf r q most (a ++ b) ∧ fX1 x x' r ∧ fY1 y y' q) b.length a.length y (by omega) h0 (fun k k1 k2 => ?_) (fun y' hy => ?_)
  · have : k < (a ++ f :: b).length := by rw [hlen]; exact k2
    have g1 := h7 k _ (List.getElem?_eq_getElem this)
    exact ⟨_, g1, (hX.2.1 _ (h6 _ (List.getElem_mem this))).1⟩
  · refine ⟨u2 (u2 x r 2 (x r 2 &&& (bF f ^^^ -1))) r 1 (nI (a.length + b.length)), y', ?_, ⟨⟨hr, hq, ?_, ?_, h12⟩, ?_, fun i => ?_, ?_, ?_, fun g hg => ?_, fun j g hj => ?_⟩, fun a k h => ?_, fun c k h => ?_⟩
    · have e9 : nI (a.length + 1 + b.length) - 1 = nI (a.length + b.length) := by rw [show a.length + 1 + b.length = a.length + b.length + 1 by omega]; exact nI_dec' _
      simp only [s_72_65, s_72_66, s_72_67, s_72_70, s_72_71, s_72_72, s_72_75, mj_lI_s, mj_lI_0, mj_lA_s, mj_lA_0, mj_sL_s, mj_sL_0, mj_s8_0, mj_s8_1, mj_s8_2, mj_s8_3, mj_bc_n, mj_bc_s, mj_bd_s, u2_eq, u2_a, u2_k, ne_eq, Nat.reduceEqDiff, not_false_eq_true, List.nil_append, List.cons_append, eq_self, true_or, or_true, if_true, if_false, false_or, or_false, not_true_eq_false, Bool.false_eq_true, ie_m1_0, ie_m1_1, ie_m1_2, ie_m1_3, ie_m1_4, ie_m1_5, ie_0_m1, ie_0_1, ie_0_2, ie_0_3, ie_0_4, ie_0_5, ie_1_m1, ie_1_0, ie_1_2, ie_1_3, ie_1_4, ie_1_5, ie_2_m1, ie_2_0, ie_2_1, ie_2_3, ie_2_4, ie_2_5, ie_3_m1, ie_3_0, ie_3_1, ie_3_2, ie_3_4, ie_3_5, ie_4_m1, ie_4_0, ie_4_1, ie_4_2, ie_4_3, ie_4_5, ie_5_m1, ie_5_0, ie_5_1, ie_5_2, ie_5_3, ie_5_4, ct_1, cv_1, ci_1_0, cp_1_0, ci_1_1, cp_1_1, ci_1_2, cp_1_2, ci_1_3, cp_1_3, ci_1_4, cp_1_4, ci_1_5, cp_1_5, ci_1_6, cp_1_6, ci_1_7, cp_1_7, ci_1_8, cp_1_8, ci_1_9, cp_1_9, ci_1_10, cp_1_10, ci_1_11, cp_1_11, ci_1_12, cp_1_12, ci_1_13, cp_1_13, ci_1_14, cp_1_14, ct_3, cv_3, ci_3_0, cp_3_0, ci_3_1, cp_3_1, ci_3_2, cp_3_2, ci_3_3, cp_3_3, hr, h1, e9]
    · rw [hy r 0, if_neg (fun z => hne z.1)]; exact h0
    · rw [u2_k (by decide), u2_k (by decide)]; exact h3
    · rw [u2_eq, List.length_append]
    · rw [u2_k (by decide), u2_eq, b_and, b_xor, h2 i]
      by_cases hi : i < 32
      · rw [b_m1 i hi, bF, bb_bit (by omega)]
        by_cases e : i = f
        · subst e; simp [na, nb]
        · simp [e]
      · have hz : ∀ l : List Nat, (∀ g ∈ l, g < nf) → decide (i ∈ l) = false := fun l hl => decide_eq_false (fun z => by have := hl i z; omega)
        rw [hz _ h6, hz (a ++ b) (fun g hg => h6 g (by rcases List.mem_append.mp hg with e | e <;> simp [e]))]
        rfl
    · rw [List.nodup_append]
      exact ⟨n1, (List.nodup_cons.mp n2).2, fun p hp s hs => n3 p hp s (List.mem_cons_of_mem _ hs)⟩
    · rw [List.length_append]; omega
    · exact h6 g (by rcases List.mem_append.mp hg with e | e <;> simp [e])
    · rw [hy q j]
      rcases Nat.lt_or_ge j a.length with g1 | g1
      · rw [if_neg (by omega)]
        rw [List.getElem?_append_left g1] at hj
        exact h7 j g (by rw [List.getElem?_append_left g1]; exact hj)
      · rw [List.getElem?_append_right g1] at hj
        have g2 : j - a.length < b.length := (List.getElem?_eq_some_iff.mp hj).1
        rw [if_pos ⟨rfl, g1, by omega⟩]
        refine h7 (j + 1) g ?_
        rw [List.getElem?_append_right (by omega), show j + 1 - a.length = (j - a.length) + 1 by omega, List.getElem?_cons_succ]
        exact hj
    · rw [u2_ne (fun z => h ⟨z.1, Or.inl z.2⟩), u2_ne (fun z => h ⟨z.1, Or.inr z.2⟩)]
    · rw [hy c k, if_neg (fun z => h z.1)]
end R1
