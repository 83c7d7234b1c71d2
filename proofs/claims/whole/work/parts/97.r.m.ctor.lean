/-! the program's constructor -/
section KC
variable {n : Nat} {sh : Nat → Nat × Nat} {x : Nat → Nat → Int32} {y : Nat → Nat → Option Nat}
theorem k20a : ((20 : Int32) < 0 ∨ 100000 < (20 : Nat)) = False := eq_false (by decide)
theorem k20b : (20 : Int32).toNatClampNeg = 20 := by decide
theorem k40a : ((40 : Int32) < 0 ∨ 100000 < (40 : Nat)) = False := eq_false (by decide)
theorem k40b : (40 : Int32).toNatClampNeg = 40 := by decide
theorem k34a : ((3492 : Int32) < 0 ∨ 100000 < (3492 : Nat)) = False := eq_false (by decide)
theorem k34b : (3492 : Int32).toNatClampNeg = 3492 := by decide
theorem rk_89 (d : Nat) {s : Nat} (hs : ob n sh s 5 4) : mj_Cl pg (d + 1) 89 [.inr (some s)] (bl n sh x y) = some (none, bl (n + 1 + 1) (uS (uS sh n (102, 12)) (n + 1) (107, 20)) (uz (uz x n 0) (n + 1) 0) (u2 (uz (u2 (uz y n none) s 0 (some n)) (n + 1) none) s 2 (some (n + 1)))) := by
  have h1 := hs.up (102, 12)
  have h2 := h1.up (107, 20)
  rw [e_89]
  simp only [s_89_0, s_89_1, s_89_4, s_89_5, s_89_7, s_89_10, s_89_13, s_89_14, s_89_16, s_89_19, s_89_22, mj_lI_s, mj_lI_0, mj_lA_s, mj_lA_0, mj_sL_s, mj_sL_0, mj_s8_0, mj_s8_1, mj_s8_2, mj_s8_3, mj_bc_n, mj_bc_s, mj_bd_s, u2_eq, u2_a, u2_k, ne_eq, Nat.reduceEqDiff, not_false_eq_true, List.nil_append, List.cons_append, eq_self, true_or, or_true, if_true, if_false, false_or, or_false, not_true_eq_false, Bool.false_eq_true, ie_m1_0, ie_m1_1, ie_m1_2, ie_m1_3, ie_m1_4, ie_m1_5, ie_0_m1, ie_0_1, ie_0_2, ie_0_3, ie_0_4, ie_0_5, ie_1_m1, ie_1_0, ie_1_2, ie_1_3, ie_1_4, ie_1_5, ie_2_m1, ie_2_0, ie_2_1, ie_2_3, ie_2_4, ie_2_5, ie_3_m1, ie_3_0, ie_3_1, ie_3_2, ie_3_4, ie_3_5, ie_4_m1, ie_4_0, ie_4_1, ie_4_2, ie_4_3, ie_4_5, ie_5_m1, ie_5_0, ie_5_1, ie_5_2, ie_5_3, ie_5_4, k12a, k12b, k20a, k20b, bl_len, al_102, al_107, ct_5, cv_5, ci_5_0, cp_5_0, ci_5_1, cp_5_1, ci_5_2, cp_5_2, ci_5_3, cp_5_3, h1, h2]
theorem rk_64 (d : Nat) {s : Nat} (hs : ob n sh s 2 2) : mj_Cl pg (d + 1) 64 [.inr (some s)] (bl n sh x y) = some (none, bl (n + 1) (uS sh n (100, 3492)) (uz x n 0) (u2 (uz y n none) s 0 (some n))) := by
  have h1 := hs.up (100, 3492)
  rw [e_64]
  simp only [s_64_0, s_64_1, s_64_4, s_64_5, s_64_8, s_64_10, s_64_13, mj_lI_s, mj_lI_0, mj_lA_s, mj_lA_0, mj_sL_s, mj_sL_0, mj_s8_0, mj_s8_1, mj_s8_2, mj_s8_3, mj_bc_n, mj_bc_s, mj_bd_s, u2_eq, u2_a, u2_k, ne_eq, Nat.reduceEqDiff, not_false_eq_true, List.nil_append, List.cons_append, eq_self, true_or, or_true, if_true, if_false, false_or, or_false, not_true_eq_false, Bool.false_eq_true, ie_m1_0, ie_m1_1, ie_m1_2, ie_m1_3, ie_m1_4, ie_m1_5, ie_0_m1, ie_0_1, ie_0_2, ie_0_3, ie_0_4, ie_0_5, ie_1_m1, ie_1_0, ie_1_2, ie_1_3, ie_1_4, ie_1_5, ie_2_m1, ie_2_0, ie_2_1, ie_2_3, ie_2_4, ie_2_5, ie_3_m1, ie_3_0, ie_3_1, ie_3_2, ie_3_4, ie_3_5, ie_4_m1, ie_4_0, ie_4_1, ie_4_2, ie_4_3, ie_4_5, ie_5_m1, ie_5_0, ie_5_1, ie_5_2, ie_5_3, ie_5_4, k34a, k34b, bl_len, al_100, ct_2, cv_2, ci_2_0, cp_2_0, ci_2_1, cp_2_1, h1]
theorem rk_46 (d : Nat) {s : Nat} (hs : ob n sh s 0 7) : mj_Cl pg (d + 1) 46 [.inr (some s)] (bl n sh x y) = some (none, bl (n + 1) (uS sh n (100, 12)) (uz x n 0) (u2 (uz y n none) s 2 (some n))) := by
  have h1 := hs.up (100, 12)
  rw [e_46]
  simp only [s_46_0, s_46_1, s_46_4, s_46_5, s_46_7, s_46_9, s_46_12, mj_lI_s, mj_lI_0, mj_lA_s, mj_lA_0, mj_sL_s, mj_sL_0, mj_s8_0, mj_s8_1, mj_s8_2, mj_s8_3, mj_bc_n, mj_bc_s, mj_bd_s, u2_eq, u2_a, u2_k, ne_eq, Nat.reduceEqDiff, not_false_eq_true, List.nil_append, List.cons_append, eq_self, true_or, or_true, if_true, if_false, false_or, or_false, not_true_eq_false, Bool.false_eq_true, ie_m1_0, ie_m1_1, ie_m1_2, ie_m1_3, ie_m1_4, ie_m1_5, ie_0_m1, ie_0_1, ie_0_2, ie_0_3, ie_0_4, ie_0_5, ie_1_m1, ie_1_0, ie_1_2, ie_1_3, ie_1_4, ie_1_5, ie_2_m1, ie_2_0, ie_2_1, ie_2_3, ie_2_4, ie_2_5, ie_3_m1, ie_3_0, ie_3_1, ie_3_2, ie_3_4, ie_3_5, ie_4_m1, ie_4_0, ie_4_1, ie_4_2, ie_4_3, ie_4_5, ie_5_m1, ie_5_0, ie_5_1, ie_5_2, ie_5_3, ie_5_4, k12a, k12b, bl_len, al_100, ct_0, cv_0, ci_0_0, cp_0_0, ci_0_1, cp_0_1, ci_0_2, cp_0_2, ci_0_3, cp_0_3, ci_0_4, cp_0_4, ci_0_5, cp_0_5, ci_0_6, cp_0_6, h1]
/-- the cases' objects -/
theorem rk_75L (d : Nat) : ∀ (j i : Nat) (sh : Nat → Nat × Nat) (x : Nat → Nat → Int32) (y : Nat → Nat → Option Nat) (Q : Option mj_R → Prop), i + j = 40 → ob (11 + 2 * i) sh 5 4 5 → ob (11 + 2 * i) sh 10 101 40 → y 5 2 = some 10 → (∀ p, p < i → y 10 p = some (11 + 2 * p) ∧ sh (11 + 2 * p) = (0, 7) ∧ sh (12 + 2 * p) = (100, 12) ∧ y (11 + 2 * p) 2 = some (12 + 2 * p)) →
    (∀ sh' x' y', (∀ p, p < 40 → y' 10 p = some (11 + 2 * p) ∧ sh' (11 + 2 * p) = (0, 7) ∧ sh' (12 + 2 * p) = (100, 12) ∧ y' (11 + 2 * p) 2 = some (12 + 2 * p)) → (∀ a, a < 11 → sh' a = sh a) → (∀ a k, a < 11 → x' a k = x a k) → (∀ a k, a < 11 → a ≠ 10 → y' a k = y a k) → szs 91 sh' = szs (11 + 2 * i) sh + 19 * j → Q (some (none, bl 91 sh' x' y'))) →
    Q (mj_Rn pg (d + 2) 75 (39, [some (.inr (some 5)), some (.inl (nI i))], [], bl (11 + 2 * i) sh x y)) := by
  intro j
  induction j with
  | zero =>
    intro i sh x y Q hi h5 h10 hy hp hQ
    have e : i = 40 := by omega
    subst e
    have hkc : ((40 : Int32) ≤ nI 40) = True := eq_true (by decide)
    rw [s_75_39]
    simp only [s_75_40, s_75_42, s_75_45, s_75_46, s_75_49, s_75_50, s_75_53, s_75_54, s_75_57, s_75_58, s_75_61, s_75_64, mj_lI_s, mj_lI_0, mj_lA_s, mj_lA_0, mj_sL_s, mj_sL_0, mj_s8_0, mj_s8_1, mj_s8_2, mj_s8_3, mj_bc_n, mj_bc_s, mj_bd_s, u2_eq, u2_a, u2_k, ne_eq, Nat.reduceEqDiff, not_false_eq_true, List.nil_append, List.cons_append, eq_self, true_or, or_true, if_true, if_false, false_or, or_false, not_true_eq_false, Bool.false_eq_true, ie_m1_0, ie_m1_1, ie_m1_2, ie_m1_3, ie_m1_4, ie_m1_5, ie_0_m1, ie_0_1, ie_0_2, ie_0_3, ie_0_4, ie_0_5, ie_1_m1, ie_1_0, ie_1_2, ie_1_3, ie_1_4, ie_1_5, ie_2_m1, ie_2_0, ie_2_1, ie_2_3, ie_2_4, ie_2_5, ie_3_m1, ie_3_0, ie_3_1, ie_3_2, ie_3_4, ie_3_5, ie_4_m1, ie_4_0, ie_4_1, ie_4_2, ie_4_3, ie_4_5, ie_5_m1, ie_5_0, ie_5_1, ie_5_2, ie_5_3, ie_5_4, hkc]
    have e9 : szs 91 sh = szs (11 + 2 * 40) sh + 19 * 0 := by simp only [Nat.mul_zero, Nat.add_zero, Nat.reduceMul, Nat.reduceAdd]
    have := hQ sh x y hp (fun _ _ => rfl) (fun _ _ _ => rfl) (fun _ _ _ _ => rfl) e9
    simp only [Nat.reduceMul, Nat.reduceAdd]
    exact this
  | succ j ih =>
    intro i sh x y Q hi h5 h10 hy hp hQ
    have hi40 : i < 40 := by omega
    have hkc : ((40 : Int32) ≤ nI i) = False := eq_false (nI_ge (a := i) (b := 40) hi40 (by decide))
    have hc : ob (11 + 2 * i + 1) (uS sh (11 + 2 * i) (0, 7)) (11 + 2 * i) 0 7 := ob_new (by omega) 0 7
    have h5a := h5.up (0, 7)
    have h10a := h10.up (0, 7)
    have c46 := rk_46 (x := uz x (11 + 2 * i) 0) (y := uz y (11 + 2 * i) none) d hc
    have hcb := hc.up (100, 12)
    have h10b := h10a.up (100, 12)
    rw [s_75_39]
    simp only [s_75_40, s_75_42, s_75_45, s_75_46, s_75_49, s_75_50, s_75_53, s_75_54, s_75_57, s_75_58, s_75_61, mj_lI_s, mj_lI_0, mj_lA_s, mj_lA_0, mj_sL_s, mj_sL_0, mj_s8_0, mj_s8_1, mj_s8_2, mj_s8_3, mj_bc_n, mj_bc_s, mj_bd_s, u2_eq, u2_a, u2_k, ne_eq, Nat.reduceEqDiff, not_false_eq_true, List.nil_append, List.cons_append, eq_self, true_or, or_true, if_true, if_false, false_or, or_false, not_true_eq_false, Bool.false_eq_true, ie_m1_0, ie_m1_1, ie_m1_2, ie_m1_3, ie_m1_4, ie_m1_5, ie_0_m1, ie_0_1, ie_0_2, ie_0_3, ie_0_4, ie_0_5, ie_1_m1, ie_1_0, ie_1_2, ie_1_3, ie_1_4, ie_1_5, ie_2_m1, ie_2_0, ie_2_1, ie_2_3, ie_2_4, ie_2_5, ie_3_m1, ie_3_0, ie_3_1, ie_3_2, ie_3_4, ie_3_5, ie_4_m1, ie_4_0, ie_4_1, ie_4_2, ie_4_3, ie_4_5, ie_5_m1, ie_5_0, ie_5_1, ie_5_2, ie_5_3, ie_5_4, hkc, ct_0, cv_0, ci_0_0, cp_0_0, ci_0_1, cp_0_1, ci_0_2, cp_0_2, ci_0_3, cp_0_3, ci_0_4, cp_0_4, ci_0_5, cp_0_5, ci_0_6, cp_0_6, ct_4, cv_4, ci_4_0, cp_4_0, ci_4_1, cp_4_1, ci_4_2, cp_4_2, ci_4_3, cp_4_3, ci_4_4, cp_4_4, h5, hy, bl_len, al_0, hc, c46, hcb, xq_101 h10b hi40 (by decide), nI_1]
    have e2 : 11 + 2 * i + 1 + 1 = 11 + 2 * (i + 1) := by omega
    have e3 : 11 + 2 * i + 1 = 12 + 2 * i := by omega
    rw [e2]
    have h5b := h5a.up (100, 12)
    rw [e2] at h5b h10b
    refine ih (i + 1) _ _ _ Q (by omega) h5b h10b ?_ (fun p hp2 => ?_) (fun sh' x' y' r1 r2 r3 r4 r5 => hQ sh' x' y' r1 (fun a ha => ?_) (fun a k ha => ?_) (fun a k ha hb => ?_) ?_)
    · rw [u2_a (by decide), u2_a (by omega), uz_lt (by omega), uz_lt (by omega)]; exact hy
    · rcases Nat.lt_or_ge p i with g | g
      · obtain ⟨z1, z2, z3, z4⟩ := hp p g
        refine ⟨?_, ?_, ?_, ?_⟩
        · rw [u2_k (by omega), u2_a (by omega), uz_lt (by omega), uz_lt (by omega)]; exact z1
        · rw [uS_lt (by omega), uS_lt (by omega)]; exact z2
        · rw [uS_lt (by omega), uS_lt (by omega)]; exact z3
        · rw [u2_a (by omega), u2_a (by omega), uz_lt (by omega), uz_lt (by omega)]; exact z4
      · have : p = i := by omega
        subst this
        refine ⟨u2_eq _ _ _ _, ?_, ?_, ?_⟩
        · rw [uS_lt (by omega)]; exact if_pos rfl
        · rw [← e3]; exact if_pos rfl
        · rw [u2_a (by omega), u2_eq, e3]
    · rw [r2 a ha, uS_lt (by omega), uS_lt (by omega)]
    · rw [r3 a k ha, uz_lt (by omega), uz_lt (by omega)]
    · rw [r4 a k ha hb, u2_a hb, u2_a (by omega), uz_lt (by omega), uz_lt (by omega)]
    · rw [r5, ← e2, szs_U, szs_U]
      show szs (11 + 2 * i) sh + 7 + 12 + 19 * j = _
      omega
theorem rk_75 (h5 : ob 6 sh 5 4 5) : ∃ sh' x' y', mj_Cl pg 59 75 [.inr (some 5)] (bl 6 sh x y) = some (none, bl 91 sh' x' y') ∧ (runP 91 sh' y' ∧ caS 91 sh' y' (fun p => 11 + 2 * p) ∧ rowS 91 sh' x' y' 6 7 12 ∧ (ob 91 sh' 8 2 2 ∧ ob 91 sh' 9 100 3492 ∧ y' 8 0 = some 9 ∧ x' 8 1 = 0)) ∧ (∀ a, a < 6 → sh' a = sh a) ∧ (∀ a k, a < 6 → x' a k = x a k) ∧ (∀ a k, a < 5 → y' a k = y a k) ∧ szs 91 sh' = szs 6 sh + 4310 := by
  have o6 : ob 7 (uS sh 6 (3, 4)) 6 3 4 := ob_new (n := 6) (by decide) 3 4
  have c68 : mj_Cl pg 58 68 [.inr (some 6), .inl 12] (bl 7 (uS sh 6 (3, 4)) (uz x 6 0) (uz y 6 none)) = some (none, bl 8 (uS (uS sh 6 (3, 4)) 7 (102, 12)) (u2 (uz (uz x 6 0) 7 0) 6 3 12) (u2 (uz (uz y 6 none) 7 none) 6 0 (some 7))) := rk_68 (n := 7) 57 o6 (most := 12) (by decide)
  have h5a : ob 7 (uS sh 6 (3, 4)) 5 4 5 := h5.up (n := 6) (3, 4)
  have h5b : ob 8 (uS (uS sh 6 (3, 4)) 7 (102, 12)) 5 4 5 := h5a.up (n := 7) (102, 12)
  have o8 : ob 9 (uS (uS (uS sh 6 (3, 4)) 7 (102, 12)) 8 (2, 2)) 8 2 2 := ob_new (n := 8) (by decide) 2 2
  have c64 : mj_Cl pg 58 64 [.inr (some 8)] (bl 9 (uS (uS (uS sh 6 (3, 4)) 7 (102, 12)) 8 (2, 2)) (uz (u2 (uz (uz x 6 0) 7 0) 6 3 12) 8 0) (uz (u2 (u2 (uz (uz y 6 none) 7 none) 6 0 (some 7)) 5 0 (some 6)) 8 none)) = some (none, bl 10 (uS (uS (uS (uS sh 6 (3, 4)) 7 (102, 12)) 8 (2, 2)) 9 (100, 3492)) (uz (uz (u2 (uz (uz x 6 0) 7 0) 6 3 12) 8 0) 9 0) (u2 (uz (uz (u2 (u2 (uz (uz y 6 none) 7 none) 6 0 (some 7)) 5 0 (some 6)) 8 none) 9 none) 8 0 (some 9))) := rk_64 (n := 9) 57 o8
  have h5c : ob 9 (uS (uS (uS sh 6 (3, 4)) 7 (102, 12)) 8 (2, 2)) 5 4 5 := h5b.up (n := 8) (2, 2)
  have h5d : ob 10 (uS (uS (uS (uS sh 6 (3, 4)) 7 (102, 12)) 8 (2, 2)) 9 (100, 3492)) 5 4 5 := h5c.up (n := 9) (100, 3492)
  have h5e : ob 11 (uS (uS (uS (uS (uS sh 6 (3, 4)) 7 (102, 12)) 8 (2, 2)) 9 (100, 3492)) 10 (101, 40)) 5 4 5 := h5d.up (n := 10) (101, 40)
  have o10 : ob 11 (uS (uS (uS (uS (uS sh 6 (3, 4)) 7 (102, 12)) 8 (2, 2)) 9 (100, 3492)) 10 (101, 40)) 10 101 40 := ob_new (n := 10) (by decide) 101 40
  have entry : mj_Cl pg 59 75 [.inr (some 5)] (bl 6 sh x y) = mj_Rn pg (57 + 2) 75 (39, [some (.inr (some 5)), some (.inl (nI 0))], [], bl (11 + 2 * 0) (uS (uS (uS (uS (uS sh 6 (3, 4)) 7 (102, 12)) 8 (2, 2)) 9 (100, 3492)) 10 (101, 40)) (uz (uz (uz (u2 (uz (uz x 6 0) 7 0) 6 3 12) 8 0) 9 0) 10 0) (u2 (uz (u2 (u2 (uz (uz (u2 (u2 (uz (uz y 6 none) 7 none) 6 0 (some 7)) 5 0 (some 6)) 8 none) 9 none) 8 0 (some 9)) 5 1 (some 8)) 10 none) 5 2 (some 10))) := by
    show mj_Cl pg (58 + 1) 75 _ _ = _
    rw [e_75]
    simp only [s_75_0, s_75_1, s_75_4, s_75_5, s_75_8, s_75_9, s_75_11, s_75_14, s_75_17, s_75_18, s_75_21, s_75_22, s_75_25, s_75_28, s_75_29, s_75_31, s_75_34, s_75_37, s_75_38, mj_lI_s, mj_lI_0, mj_lA_s, mj_lA_0, mj_sL_s, mj_sL_0, mj_s8_0, mj_s8_1, mj_s8_2, mj_s8_3, mj_bc_n, mj_bc_s, mj_bd_s, u2_eq, u2_a, u2_k, ne_eq, Nat.reduceEqDiff, not_false_eq_true, List.nil_append, List.cons_append, eq_self, true_or, or_true, if_true, if_false, false_or, or_false, not_true_eq_false, Bool.false_eq_true, ie_m1_0, ie_m1_1, ie_m1_2, ie_m1_3, ie_m1_4, ie_m1_5, ie_0_m1, ie_0_1, ie_0_2, ie_0_3, ie_0_4, ie_0_5, ie_1_m1, ie_1_0, ie_1_2, ie_1_3, ie_1_4, ie_1_5, ie_2_m1, ie_2_0, ie_2_1, ie_2_3, ie_2_4, ie_2_5, ie_3_m1, ie_3_0, ie_3_1, ie_3_2, ie_3_4, ie_3_5, ie_4_m1, ie_4_0, ie_4_1, ie_4_2, ie_4_3, ie_4_5, ie_5_m1, ie_5_0, ie_5_1, ie_5_2, ie_5_3, ie_5_4, bl_len, al_3, al_2, al_101, Nat.reduceAdd, k40a, k40b, ct_2, cv_2, ci_2_0, cp_2_0, ci_2_1, cp_2_1, ct_3, cv_3, ci_3_0, cp_3_0, ci_3_1, cp_3_1, ci_3_2, cp_3_2, ci_3_3, cp_3_3, ct_4, cv_4, ci_4_0, cp_4_0, ci_4_1, cp_4_1, ci_4_2, cp_4_2, ci_4_3, cp_4_3, ci_4_4, cp_4_4, o6, c68, h5b, o8, c64, h5d, h5e]
    rfl
  have z1 : szs 7 (uS sh 6 (3, 4)) = szs 6 sh + 4 := szs_U 6 sh (3, 4)
  have z2 : szs 8 (uS (uS sh 6 (3, 4)) 7 (102, 12)) = szs 7 (uS sh 6 (3, 4)) + 12 := szs_U 7 _ (102, 12)
  have z3 : szs 9 (uS (uS (uS sh 6 (3, 4)) 7 (102, 12)) 8 (2, 2)) = szs 8 (uS (uS sh 6 (3, 4)) 7 (102, 12)) + 2 := szs_U 8 _ (2, 2)
  have z4 : szs 10 (uS (uS (uS (uS sh 6 (3, 4)) 7 (102, 12)) 8 (2, 2)) 9 (100, 3492)) = szs 9 (uS (uS (uS sh 6 (3, 4)) 7 (102, 12)) 8 (2, 2)) + 3492 := szs_U 9 _ (100, 3492)
  have z5 : szs 11 (uS (uS (uS (uS (uS sh 6 (3, 4)) 7 (102, 12)) 8 (2, 2)) 9 (100, 3492)) 10 (101, 40)) = szs 10 (uS (uS (uS (uS sh 6 (3, 4)) 7 (102, 12)) 8 (2, 2)) 9 (100, 3492)) + 40 := szs_U 10 _ (101, 40)
  rw [entry]
  refine rk_75L 57 40 0 (uS (uS (uS (uS (uS sh 6 (3, 4)) 7 (102, 12)) 8 (2, 2)) 9 (100, 3492)) 10 (101, 40)) (uz (uz (uz (u2 (uz (uz x 6 0) 7 0) 6 3 12) 8 0) 9 0) 10 0) (u2 (uz (u2 (u2 (uz (uz (u2 (u2 (uz (uz y 6 none) 7 none) 6 0 (some 7)) 5 0 (some 6)) 8 none) 9 none) 8 0 (some 9)) 5 1 (some 8)) 10 none) 5 2 (some 10)) (fun r => ∃ sh' x' y', r = some (none, bl 91 sh' x' y') ∧ (runP 91 sh' y' ∧ caS 91 sh' y' (fun p => 11 + 2 * p) ∧ rowS 91 sh' x' y' 6 7 12 ∧ (ob 91 sh' 8 2 2 ∧ ob 91 sh' 9 100 3492 ∧ y' 8 0 = some 9 ∧ x' 8 1 = 0)) ∧ (∀ a, a < 6 → sh' a = sh a) ∧ (∀ a k, a < 6 → x' a k = x a k) ∧ (∀ a k, a < 5 → y' a k = y a k) ∧ szs 91 sh' = szs 6 sh + 4310) (by omega) h5e o10 rfl (fun p hp => absurd hp (Nat.not_lt_zero p)) (fun sh' x' y' r1 r2 r3 r4 r5 => ?_)
  have r5 : szs 91 sh' = szs 11 (uS (uS (uS (uS (uS sh 6 (3, 4)) 7 (102, 12)) 8 (2, 2)) 9 (100, 3492)) 10 (101, 40)) + 19 * 40 := r5
  refine ⟨sh', x', y', rfl, ⟨⟨⟨by decide, by decide, (r2 5 (by decide)).trans h5.2.2⟩, r4 5 0 (by decide) (by decide), r4 5 1 (by decide) (by decide), r4 5 2 (by decide) (by decide)⟩, ⟨⟨by decide, by decide, r2 10 (by decide)⟩, fun p hp => ?_, fun p r hp hr h => ?_⟩, ⟨⟨by decide, by decide, r2 6 (by decide)⟩, ⟨by decide, by decide, r2 7 (by decide)⟩, r4 6 0 (by decide) (by decide), r3 6 3 (by decide), by decide⟩, ⟨by decide, by decide, r2 8 (by decide)⟩, ⟨by decide, by decide, r2 9 (by decide)⟩, r4 8 0 (by decide) (by decide), r3 8 1 (by decide)⟩, fun a ha => ?_, fun a k ha => ?_, fun a k ha => ?_, ?_⟩
  · obtain ⟨q1, q2, q3, q4⟩ := r1 p hp
    have e3 : 11 + 2 * p + 1 = 12 + 2 * p := by omega
    show y' 10 p = some (11 + 2 * p) ∧ (11 + 2 * p) % 2 = 1 ∧ 11 ≤ 11 + 2 * p ∧ 11 + 2 * p ≤ 89 ∧ ob 91 sh' (11 + 2 * p) 0 7 ∧ ob 91 sh' (11 + 2 * p + 1) 100 12 ∧ y' (11 + 2 * p) 2 = some (11 + 2 * p + 1)
    refine ⟨q1, by omega, by omega, by omega, ⟨by omega, by omega, q2⟩, ⟨by omega, by omega, ?_⟩, ?_⟩
    · rw [e3]; exact q3
    · rw [e3]; exact q4
  · have h : 11 + 2 * p = 11 + 2 * r := h
    omega
  · rw [r2 a (by omega), uS_lt (by omega), uS_lt (by omega), uS_lt (by omega), uS_lt (by omega), uS_lt (by omega)]
  · rw [r3 a k (by omega), uz_lt (by omega), uz_lt (by omega), uz_lt (by omega), u2_a (by omega), uz_lt (by omega), uz_lt (by omega)]
  · rw [r4 a k (by omega) (by omega), u2_a (by omega), uz_lt (by omega), u2_a (by omega), u2_a (by omega), uz_lt (by omega), uz_lt (by omega), u2_a (by omega), u2_a (by omega), uz_lt (by omega), uz_lt (by omega)]
  · omega
/-- the program's object: handles 1 to 90 -/
theorem rk_1 (h0 : ob 2 sh 1 7 2) : ∃ sh' x' y', mj_Cl pg 60 1 [.inr (some 1)] (bl 2 sh x y) = some (none, bl 91 sh' x' y') ∧ ((ob 91 sh' 1 7 2 ∧ y' 1 0 = some 2 ∧ y' 1 1 = some 5) ∧ (ob 91 sh' 2 5 4 ∧ ob 91 sh' 3 102 12 ∧ ob 91 sh' 4 107 20 ∧ y' 2 0 = some 3 ∧ x' 2 1 = 0 ∧ y' 2 2 = some 4 ∧ x' 2 3 = 0) ∧ runP 91 sh' y' ∧ caS 91 sh' y' (fun p => 11 + 2 * p) ∧ rowS 91 sh' x' y' 6 7 12 ∧ (ob 91 sh' 8 2 2 ∧ ob 91 sh' 9 100 3492 ∧ y' 8 0 = some 9 ∧ x' 8 1 = 0) ∧ x' 5 3 = 0 ∧ x' 5 4 = 0) ∧ sh' 0 = sh 0 ∧ (∀ k, x' 0 k = x 0 k) ∧ szs 91 sh' = szs 2 sh + 4351 := by
  have o2 : ob 3 (uS sh 2 (5, 4)) 2 5 4 := ob_new (n := 2) (by decide) 5 4
  have c89 : mj_Cl pg 59 89 [.inr (some 2)] (bl 3 (uS sh 2 (5, 4)) (uz x 2 0) (uz y 2 none)) = some (none, bl 5 (uS (uS (uS sh 2 (5, 4)) 3 (102, 12)) 4 (107, 20)) (uz (uz (uz x 2 0) 3 0) 4 0) (u2 (uz (u2 (uz (uz y 2 none) 3 none) 2 0 (some 3)) 4 none) 2 2 (some 4))) := rk_89 (n := 3) (x := uz x 2 0) (y := uz y 2 none) 58 o2
  have o1 : ob 5 (uS (uS (uS sh 2 (5, 4)) 3 (102, 12)) 4 (107, 20)) 1 7 2 := ((h0.up (n := 2) (5, 4)).up (n := 3) (102, 12)).up (n := 4) (107, 20)
  have o5 : ob 6 (uS (uS (uS (uS sh 2 (5, 4)) 3 (102, 12)) 4 (107, 20)) 5 (4, 5)) 5 4 5 := ob_new (n := 5) (by decide) 4 5
  obtain ⟨sh', x', y', p1, ⟨q1, q2, q3, q4⟩, p2, p3, p4, p5⟩ := rk_75 (x := uz (uz (uz (uz x 2 0) 3 0) 4 0) 5 0) (y := uz (u2 (u2 (uz (u2 (uz (uz y 2 none) 3 none) 2 0 (some 3)) 4 none) 2 2 (some 4)) 1 0 (some 2)) 5 none) o5
  have s1 : ob 91 sh' 1 7 2 := ⟨by decide, by decide, (p2 1 (by decide)).trans h0.2.2⟩
  have yq : ∀ a k, a ≠ 1 → (u2 y' 1 1 (some 5)) a k = y' a k := fun a k h => u2_a h
  have z1 : szs 3 (uS sh 2 (5, 4)) = szs 2 sh + 4 := szs_U 2 sh (5, 4)
  have z2 : szs 4 (uS (uS sh 2 (5, 4)) 3 (102, 12)) = szs 3 (uS sh 2 (5, 4)) + 12 := szs_U 3 _ (102, 12)
  have z3 : szs 5 (uS (uS (uS sh 2 (5, 4)) 3 (102, 12)) 4 (107, 20)) = szs 4 (uS (uS sh 2 (5, 4)) 3 (102, 12)) + 20 := szs_U 4 _ (107, 20)
  have z4 : szs 6 (uS (uS (uS (uS sh 2 (5, 4)) 3 (102, 12)) 4 (107, 20)) 5 (4, 5)) = szs 5 (uS (uS (uS sh 2 (5, 4)) 3 (102, 12)) 4 (107, 20)) + 5 := szs_U 5 _ (4, 5)
  refine ⟨sh', x', u2 y' 1 1 (some 5), ?_, ⟨⟨s1, ?_, u2_eq _ _ _ _⟩, ⟨⟨by decide, by decide, p2 2 (by decide)⟩, ⟨by decide, by decide, p2 3 (by decide)⟩, ⟨by decide, by decide, p2 4 (by decide)⟩, ?_, p3 2 1 (by decide), ?_, p3 2 3 (by decide)⟩, ?_, q2.cong (fun k => yq _ _ (by decide)) (fun a h1 h2 => yq _ _ (by omega)), ⟨q3.1, q3.2.1, ?_, q3.2.2.2.1, q3.2.2.2.2⟩, ⟨q4.1, q4.2.1, ?_, q4.2.2.2⟩, p3 5 3 (by decide), p3 5 4 (by decide)⟩, p2 0 (by decide), fun k => p3 0 k (by decide), by omega⟩
  · show mj_Cl pg (59 + 1) 1 _ _ = _
    rw [e_1]
    simp only [s_1_0, s_1_1, s_1_4, s_1_5, s_1_8, s_1_9, s_1_12, s_1_15, s_1_16, s_1_19, s_1_20, s_1_23, s_1_26, mj_lI_s, mj_lI_0, mj_lA_s, mj_lA_0, mj_sL_s, mj_sL_0, mj_s8_0, mj_s8_1, mj_s8_2, mj_s8_3, mj_bc_n, mj_bc_s, mj_bd_s, u2_eq, u2_a, u2_k, ne_eq, Nat.reduceEqDiff, not_false_eq_true, List.nil_append, List.cons_append, eq_self, true_or, or_true, if_true, if_false, false_or, or_false, not_true_eq_false, Bool.false_eq_true, ie_m1_0, ie_m1_1, ie_m1_2, ie_m1_3, ie_m1_4, ie_m1_5, ie_0_m1, ie_0_1, ie_0_2, ie_0_3, ie_0_4, ie_0_5, ie_1_m1, ie_1_0, ie_1_2, ie_1_3, ie_1_4, ie_1_5, ie_2_m1, ie_2_0, ie_2_1, ie_2_3, ie_2_4, ie_2_5, ie_3_m1, ie_3_0, ie_3_1, ie_3_2, ie_3_4, ie_3_5, ie_4_m1, ie_4_0, ie_4_1, ie_4_2, ie_4_3, ie_4_5, ie_5_m1, ie_5_0, ie_5_1, ie_5_2, ie_5_3, ie_5_4, bl_len, al_5, al_4, Nat.reduceAdd, ct_4, cv_4, ci_4_0, cp_4_0, ci_4_1, cp_4_1, ci_4_2, cp_4_2, ci_4_3, cp_4_3, ci_4_4, cp_4_4, ct_5, cv_5, ci_5_0, cp_5_0, ci_5_1, cp_5_1, ci_5_2, cp_5_2, ci_5_3, cp_5_3, ct_7, cv_7, ci_7_0, cp_7_0, ci_7_1, cp_7_1, o2, c89, o1, o5, p1, s1]
  · rw [u2_k (by decide), p4 1 0 (by decide)]; rfl
  · rw [yq _ _ (by decide), p4 2 0 (by decide)]; rfl
  · rw [yq _ _ (by decide), p4 2 2 (by decide)]; rfl
  · exact ⟨q1.1, by rw [yq _ _ (by decide)]; exact q1.2.1, by rw [yq _ _ (by decide)]; exact q1.2.2.1, by rw [yq _ _ (by decide)]; exact q1.2.2.2⟩
  · rw [yq _ _ (by decide)]; exact q3.2.2.1
  · rw [yq _ _ (by decide)]; exact q4.2.2.1
end KC
