/-! new cells -/
section NW
variable {n : Nat} {sh : Nat → Nat × Nat} {x : Nat → Nat → Int32} {y : Nat → Nat → Option Nat}
theorem al_0 : bl n sh x y ++ [(0, pg_df 0)] = bl (n + 1) (uS sh n (0, 7)) (uz x n 0) (uz y n none) := bl_push n sh x y 0 7 _ (by decide)
theorem al_1 : bl n sh x y ++ [(1, pg_df 1)] = bl (n + 1) (uS sh n (1, 15)) (uz x n 0) (uz y n none) := bl_push n sh x y 1 15 _ (by decide)
theorem al_2 : bl n sh x y ++ [(2, pg_df 2)] = bl (n + 1) (uS sh n (2, 2)) (uz x n 0) (uz y n none) := bl_push n sh x y 2 2 _ (by decide)
theorem al_3 : bl n sh x y ++ [(3, pg_df 3)] = bl (n + 1) (uS sh n (3, 4)) (uz x n 0) (uz y n none) := bl_push n sh x y 3 4 _ (by decide)
theorem al_4 : bl n sh x y ++ [(4, pg_df 4)] = bl (n + 1) (uS sh n (4, 5)) (uz x n 0) (uz y n none) := bl_push n sh x y 4 5 _ (by decide)
theorem al_5 : bl n sh x y ++ [(5, pg_df 5)] = bl (n + 1) (uS sh n (5, 4)) (uz x n 0) (uz y n none) := bl_push n sh x y 5 4 _ (by decide)
theorem al_6 : bl n sh x y ++ [(6, pg_df 6)] = bl (n + 1) (uS sh n (6, 8)) (uz x n 0) (uz y n none) := bl_push n sh x y 6 8 _ (by decide)
theorem al_7 : bl n sh x y ++ [(7, pg_df 7)] = bl (n + 1) (uS sh n (7, 2)) (uz x n 0) (uz y n none) := bl_push n sh x y 7 2 _ (by decide)
theorem al_8 : bl n sh x y ++ [(8, pg_df 8)] = bl (n + 1) (uS sh n (8, 44)) (uz x n 0) (uz y n none) := bl_push n sh x y 8 44 _ (by decide)
theorem al_100 (m : Nat) : bl n sh x y ++ [(100, List.replicate m (.inl 0))] = bl (n + 1) (uS sh n (100, m)) (uz x n 0) (uz y n none) := bl_push n sh x y 100 m _ (bl_rep 100 m _ (fun k _ => rfl))
theorem al_200 (m : Nat) : bl n sh x y ++ [(200, List.replicate m (.inl 0))] = bl (n + 1) (uS sh n (200, m)) (uz x n 0) (uz y n none) := bl_push n sh x y 200 m _ (bl_rep 200 m _ (fun k _ => rfl))
theorem al_101 (m : Nat) : bl n sh x y ++ [(101, List.replicate m (.inr none))] = bl (n + 1) (uS sh n (101, m)) (uz x n 0) (uz y n none) := bl_push n sh x y 101 m _ (bl_rep 101 m _ (fun k _ => rfl))
theorem al_102 (m : Nat) : bl n sh x y ++ [(102, List.replicate m (.inr none))] = bl (n + 1) (uS sh n (102, m)) (uz x n 0) (uz y n none) := bl_push n sh x y 102 m _ (bl_rep 102 m _ (fun k _ => rfl))
theorem al_107 (m : Nat) : bl n sh x y ++ [(107, List.replicate m (.inr none))] = bl (n + 1) (uS sh n (107, m)) (uz x n 0) (uz y n none) := bl_push n sh x y 107 m _ (bl_rep 107 m _ (fun k _ => rfl))
theorem ob.up {a c m : Nat} (h : ob n sh a c m) (q : Nat × Nat) : ob (n + 1) (uS sh n q) a c m := ⟨Nat.lt_succ_of_lt h.1, h.2.1, by unfold uS; rw [if_neg (Nat.ne_of_lt h.1)]; exact h.2.2⟩
theorem ob_new (hn : n ≠ 0) (c m : Nat) : ob (n + 1) (uS sh n (c, m)) n c m := ⟨Nat.lt_succ_self n, hn, if_pos rfl⟩
theorem uS_lt {a : Nat} (h : a < n) (q : Nat × Nat) : uS sh n q a = sh a := if_neg (Nat.ne_of_lt h)
theorem uz_lt {α : Type} {z : Nat → Nat → α} {a k : Nat} {v : α} (h : a < n) : uz z n v a k = z a k := if_neg (Nat.ne_of_lt h)
theorem uz_eq {α : Type} (z : Nat → Nat → α) (n k : Nat) (v : α) : uz z n v n k = v := if_pos rfl
theorem k12a : ((12 : Int32) < 0 ∨ 100000 < (12 : Nat)) = False := eq_false (by decide)
theorem k12b : (12 : Int32).toNatClampNeg = 12 := by decide
/-- Row -/
theorem rk_68 (d : Nat) {r most : Nat} (hr : ob n sh r 3 4) (hm : most ≤ 12) : mj_Cl pg (d + 1) 68 [.inr (some r), .inl (nI most)] (bl n sh x y) = some (none, bl (n + 1) (uS sh n (102, 12)) (u2 (uz x n 0) r 3 (nI most)) (u2 (uz y n none) r 0 (some n))) := by
  have hr' := hr.up (102, 12)
  have c1 : ((12 : Int32) < nI most) = False := eq_false (fun z => absurd ((nI_ltI (a := 12) (b := most) (by decide) (by omega)).mp z) (by omega))
  rw [e_68]
  simp only [s_68_0, s_68_1, s_68_4, s_68_5, s_68_7, s_68_10, s_68_13, s_68_14, s_68_15, s_68_17, s_68_20, s_68_23, mj_lI_s, mj_lI_0, mj_lA_s, mj_lA_0, mj_sL_s, mj_sL_0, mj_s8_0, mj_s8_1, mj_s8_2, mj_s8_3, mj_bc_n, mj_bc_s, mj_bd_s, u2_eq, u2_a, u2_k, ne_eq, Nat.reduceEqDiff, not_false_eq_true, List.nil_append, List.cons_append, eq_self, true_or, or_true, if_true, if_false, false_or, or_false, not_true_eq_false, Bool.false_eq_true, ie_m1_0, ie_m1_1, ie_m1_2, ie_m1_3, ie_m1_4, ie_m1_5, ie_0_m1, ie_0_1, ie_0_2, ie_0_3, ie_0_4, ie_0_5, ie_1_m1, ie_1_0, ie_1_2, ie_1_3, ie_1_4, ie_1_5, ie_2_m1, ie_2_0, ie_2_1, ie_2_3, ie_2_4, ie_2_5, ie_3_m1, ie_3_0, ie_3_1, ie_3_2, ie_3_4, ie_3_5, ie_4_m1, ie_4_0, ie_4_1, ie_4_2, ie_4_3, ie_4_5, ie_5_m1, ie_5_0, ie_5_1, ie_5_2, ie_5_3, ie_5_4, k12a, k12b, bl_len, al_102, ct_3, cv_3, ci_3_0, cp_3_0, ci_3_1, cp_3_1, ci_3_2, cp_3_2, ci_3_3, cp_3_3, hr', c1]
/-- Fixture -/
theorem rk_53 (d : Nat) {a f : Nat} (ha : ob n sh a 1 15) (sc va mf ef : Int32) (hmf : mf = 0 ∨ mf = 1) (hef : ef = 0 ∨ ef = 1) : ∃ x' y', mj_Cl pg (d + 2) 53 [.inr (some a), .inl (nI f), .inl sc, .inl va, .inl mf, .inl ef] (bl n sh x y) = some (none, bl (n + 2) (uS (uS sh n (3, 4)) (n + 1) (102, 12)) x' y') ∧ (x' a 0 = nI f ∧ x' a 1 = bF f ∧ x' a 2 = sc ∧ x' a 3 = va ∧ x' a 4 = mf ∧ x' a 5 = ef ∧ (∀ k, 6 ≤ k → x' a k = x a k) ∧ y' a 6 = some n) ∧ (y' n 0 = some (n + 1) ∧ x' n 1 = 0 ∧ x' n 2 = 0 ∧ x' n 3 = nI 6) ∧ (∀ b k, b < n → b ≠ a → x' b k = x b k ∧ y' b k = y b k) := by
  have hn0 : n ≠ 0 := by have := ha.1; omega
  have han : a < n := ha.1
  have han1 : a ≠ n := by omega
  have han2 : a ≠ n + 1 := by omega
  have hr : ob (n + 1) (uS sh n (3, 4)) n 3 4 := ob_new hn0 3 4
  have ha1 := ha.up (3, 4)
  have ha2 := ha1.up (102, 12)
  have c68 := rk_68 (x := uz (u2 (u2 (u2 (u2 (u2 (u2 x a 0 (nI f)) a 1 (bF f)) a 2 sc) a 3 va) a 4 mf) a 5 ef) n 0) (y := uz y n none) d hr (most := 6) (by decide)
  have c68 : mj_Cl pg (d + 1) 68 [.inr (some n), .inl 6] (bl (n + 1) (uS sh n (3, 4)) (uz (u2 (u2 (u2 (u2 (u2 (u2 x a 0 (nI f)) a 1 (1 <<< (nI f &&& 31))) a 2 sc) a 3 va) a 4 mf) a 5 ef) n 0) (uz y n none)) = _ := c68
  refine ⟨u2 (uz (uz (u2 (u2 (u2 (u2 (u2 (u2 x a 0 (nI f)) a 1 (bF f)) a 2 sc) a 3 va) a 4 mf) a 5 ef) n 0) (n + 1) 0) n 3 (nI 6), u2 (u2 (uz (uz y n none) (n + 1) none) n 0 (some (n + 1))) a 6 (some n), ?_, ⟨?_, ?_, ?_, ?_, ?_, ?_, fun k hk => ?_, u2_eq _ _ _ _⟩, ⟨?_, ?_, ?_, u2_eq _ _ _ _⟩, fun b k hb hba => ⟨?_, ?_⟩⟩
  · rw [e_53]
    simp only [s_53_0, s_53_1, s_53_4, s_53_5, s_53_6, s_53_9, s_53_10, s_53_11, s_53_12, s_53_13, s_53_16, s_53_17, s_53_18, s_53_21, s_53_22, s_53_23, s_53_26, s_53_27, s_53_29, s_53_32, s_53_33, s_53_35, s_53_38, s_53_39, s_53_42, s_53_43, s_53_45, s_53_48, s_53_51, mj_lI_s, mj_lI_0, mj_lA_s, mj_lA_0, mj_sL_s, mj_sL_0, mj_s8_0, mj_s8_1, mj_s8_2, mj_s8_3, mj_bc_n, mj_bc_s, mj_bd_s, u2_eq, u2_a, u2_k, ne_eq, Nat.reduceEqDiff, not_false_eq_true, List.nil_append, List.cons_append, eq_self, true_or, or_true, if_true, if_false, false_or, or_false, not_true_eq_false, Bool.false_eq_true, ie_m1_0, ie_m1_1, ie_m1_2, ie_m1_3, ie_m1_4, ie_m1_5, ie_0_m1, ie_0_1, ie_0_2, ie_0_3, ie_0_4, ie_0_5, ie_1_m1, ie_1_0, ie_1_2, ie_1_3, ie_1_4, ie_1_5, ie_2_m1, ie_2_0, ie_2_1, ie_2_3, ie_2_4, ie_2_5, ie_3_m1, ie_3_0, ie_3_1, ie_3_2, ie_3_4, ie_3_5, ie_4_m1, ie_4_0, ie_4_1, ie_4_2, ie_4_3, ie_4_5, ie_5_m1, ie_5_0, ie_5_1, ie_5_2, ie_5_3, ie_5_4, bl_len, al_3, ct_1, cv_1, ci_1_0, cp_1_0, ci_1_1, cp_1_1, ci_1_2, cp_1_2, ci_1_3, cp_1_3, ci_1_4, cp_1_4, ci_1_5, cp_1_5, ci_1_6, cp_1_6, ci_1_7, cp_1_7, ci_1_8, cp_1_8, ci_1_9, cp_1_9, ci_1_10, cp_1_10, ci_1_11, cp_1_11, ci_1_12, cp_1_12, ci_1_13, cp_1_13, ci_1_14, cp_1_14, ct_3, cv_3, ci_3_0, cp_3_0, ci_3_1, cp_3_1, ci_3_2, cp_3_2, ci_3_3, cp_3_3, ha, hr, c68, ha2, hmf, hef]
  all_goals first
    | (rw [u2_a han1, uz_lt (by omega), uz_lt han]; simp only [mj_lI_s, mj_lI_0, mj_lA_s, mj_lA_0, mj_sL_s, mj_sL_0, mj_s8_0, mj_s8_1, mj_s8_2, mj_s8_3, mj_bc_n, mj_bc_s, mj_bd_s, u2_eq, u2_a, u2_k, ne_eq, Nat.reduceEqDiff, not_false_eq_true, List.nil_append, List.cons_append, eq_self, true_or, or_true, if_true, if_false, false_or, or_false, not_true_eq_false, Bool.false_eq_true, ie_m1_0, ie_m1_1, ie_m1_2, ie_m1_3, ie_m1_4, ie_m1_5, ie_0_m1, ie_0_1, ie_0_2, ie_0_3, ie_0_4, ie_0_5, ie_1_m1, ie_1_0, ie_1_2, ie_1_3, ie_1_4, ie_1_5, ie_2_m1, ie_2_0, ie_2_1, ie_2_3, ie_2_4, ie_2_5, ie_3_m1, ie_3_0, ie_3_1, ie_3_2, ie_3_4, ie_3_5, ie_4_m1, ie_4_0, ie_4_1, ie_4_2, ie_4_3, ie_4_5, ie_5_m1, ie_5_0, ie_5_1, ie_5_2, ie_5_3, ie_5_4]; done)
    | (rw [u2_a han1, uz_lt (by omega), uz_lt han]; simp only [mj_lI_s, mj_lI_0, mj_lA_s, mj_lA_0, mj_sL_s, mj_sL_0, mj_s8_0, mj_s8_1, mj_s8_2, mj_s8_3, mj_bc_n, mj_bc_s, mj_bd_s, u2_eq, u2_a, u2_k, ne_eq, Nat.reduceEqDiff, not_false_eq_true, List.nil_append, List.cons_append, eq_self, true_or, or_true, if_true, if_false, false_or, or_false, not_true_eq_false, Bool.false_eq_true, ie_m1_0, ie_m1_1, ie_m1_2, ie_m1_3, ie_m1_4, ie_m1_5, ie_0_m1, ie_0_1, ie_0_2, ie_0_3, ie_0_4, ie_0_5, ie_1_m1, ie_1_0, ie_1_2, ie_1_3, ie_1_4, ie_1_5, ie_2_m1, ie_2_0, ie_2_1, ie_2_3, ie_2_4, ie_2_5, ie_3_m1, ie_3_0, ie_3_1, ie_3_2, ie_3_4, ie_3_5, ie_4_m1, ie_4_0, ie_4_1, ie_4_2, ie_4_3, ie_4_5, ie_5_m1, ie_5_0, ie_5_1, ie_5_2, ie_5_3, ie_5_4]; rfl)
    | (rw [u2_a han1, uz_lt (by omega), uz_lt han, u2_k (by omega), u2_k (by omega), u2_k (by omega), u2_k (by omega), u2_k (by omega), u2_k (by omega)])
    | (rw [u2_a (fun z => han1 z.symm), u2_eq])
    | (rw [u2_k (by decide), uz_lt (by omega), uz_eq])
    | (rw [u2_a (by omega), uz_lt (by omega), uz_lt hb, u2_a hba, u2_a hba, u2_a hba, u2_a hba, u2_a hba, u2_a hba])
    | (rw [u2_a hba, u2_a (by omega), uz_lt (by omega), uz_lt hb])
/-- addFixture -/
theorem rk_92 (d : Nat) {nf : Nat} (h2 : ob n sh 2 5 4) (h3 : ob n sh 3 102 12) (hy : y 2 0 = some 3) (hx : x 2 1 = nI nf) (hnf : nf < 12) (sc va mf ef : Int32) (hmf : mf = 0 ∨ mf = 1) (hef : ef = 0 ∨ ef = 1) : ∃ x' y', mj_Cl pg (d + 3) 92 [.inr (some 2), .inl sc, .inl va, .inl mf, .inl ef] (bl n sh x y) = some (some (.inl (nI nf)), bl (n + 3) (uS (uS (uS sh n (1, 15)) (n + 1) (3, 4)) (n + 2) (102, 12)) x' y') ∧ (x' n 0 = nI nf ∧ x' n 1 = bF nf ∧ x' n 2 = sc ∧ x' n 3 = va ∧ x' n 4 = mf ∧ x' n 5 = ef ∧ (∀ k, 6 ≤ k → x' n k = 0) ∧ y' n 6 = some (n + 1)) ∧ (y' (n + 1) 0 = some (n + 2) ∧ x' (n + 1) 1 = 0 ∧ x' (n + 1) 2 = 0 ∧ x' (n + 1) 3 = nI 6) ∧ (x' 2 1 = nI (nf + 1) ∧ y' 3 nf = some n) ∧ (∀ b k, b < n → ¬ (b = 2 ∧ k = 1) → x' b k = x b k) ∧ ∀ b k, b < n → ¬ (b = 3 ∧ k = nf) → y' b k = y b k := by
  have h2n := h2.1
  have h3n := h3.1
  have hn0 : n ≠ 0 := by omega
  have h2a := h2.up (1, 15)
  have h3a := h3.up (1, 15)
  have hna : ob (n + 1) (uS sh n (1, 15)) n 1 15 := ob_new hn0 1 15
  obtain ⟨x1, y1, p1, ⟨q0, q1, q2, q3, q4, q5, q6, q7⟩, ⟨r0, r1, r2, r3⟩, p4⟩ := rk_53 (x := uz x n 0) (y := uz y n none) (f := nf) d hna sc va mf ef hmf hef
  have h2b := (h2a.up (3, 4)).up (102, 12)
  have h3b := (h3a.up (3, 4)).up (102, 12)
  have hnb := (hna.up (3, 4)).up (102, 12)
  have hx1 : (uz x n 0) 2 1 = nI nf := by rw [uz_lt h2n]; exact hx
  have hx2 : x1 2 1 = nI nf := by rw [(p4 2 1 (by omega) (by omega)).1]; exact hx1
  have c1 : (nI nf < 12) = True := eq_true ((nI_ltI (b := 12) (by omega) (by decide)).mpr hnf)
  refine ⟨u2 x1 2 1 (nI (nf + 1)), u2 y1 3 nf (some n), ?_, ⟨?_, ?_, ?_, ?_, ?_, ?_, fun k hk => ?_, ?_⟩, ⟨?_, ?_, ?_, ?_⟩, ⟨u2_eq _ _ _ _, u2_eq _ _ _ _⟩, fun b k hb hq => ?_, fun b k hb hq => ?_⟩
  · rw [e_92]
    simp only [s_92_0, s_92_1, s_92_4, s_92_6, s_92_9, s_92_10, s_92_11, s_92_12, s_92_15, s_92_16, s_92_19, s_92_22, s_92_23, s_92_24, s_92_27, s_92_28, s_92_29, s_92_30, s_92_32, s_92_35, s_92_36, s_92_37, s_92_38, s_92_41, s_92_42, s_92_43, s_92_44, s_92_47, mj_lI_s, mj_lI_0, mj_lA_s, mj_lA_0, mj_sL_s, mj_sL_0, mj_s8_0, mj_s8_1, mj_s8_2, mj_s8_3, mj_bc_n, mj_bc_s, mj_bd_s, u2_eq, u2_a, u2_k, ne_eq, Nat.reduceEqDiff, not_false_eq_true, List.nil_append, List.cons_append, eq_self, true_or, or_true, if_true, if_false, false_or, or_false, not_true_eq_false, Bool.false_eq_true, ie_m1_0, ie_m1_1, ie_m1_2, ie_m1_3, ie_m1_4, ie_m1_5, ie_0_m1, ie_0_1, ie_0_2, ie_0_3, ie_0_4, ie_0_5, ie_1_m1, ie_1_0, ie_1_2, ie_1_3, ie_1_4, ie_1_5, ie_2_m1, ie_2_0, ie_2_1, ie_2_3, ie_2_4, ie_2_5, ie_3_m1, ie_3_0, ie_3_1, ie_3_2, ie_3_4, ie_3_5, ie_4_m1, ie_4_0, ie_4_1, ie_4_2, ie_4_3, ie_4_5, ie_5_m1, ie_5_0, ie_5_1, ie_5_2, ie_5_3, ie_5_4, bl_len, al_1, ct_1, cv_1, ci_1_0, cp_1_0, ci_1_1, cp_1_1, ci_1_2, cp_1_2, ci_1_3, cp_1_3, ci_1_4, cp_1_4, ci_1_5, cp_1_5, ci_1_6, cp_1_6, ci_1_7, cp_1_7, ci_1_8, cp_1_8, ci_1_9, cp_1_9, ci_1_10, cp_1_10, ci_1_11, cp_1_11, ci_1_12, cp_1_12, ci_1_13, cp_1_13, ci_1_14, cp_1_14, ct_5, cv_5, ci_5_0, cp_5_0, ci_5_1, cp_5_1, ci_5_2, cp_5_2, ci_5_3, cp_5_3, h2, hx, hy, c1, h2a, hx1, hna, p1, hnb, xq_102 h3b hnf (by decide), h2b, hx2, nI_1]
  · rw [u2_a (by omega)]; exact q0
  · rw [u2_a (by omega)]; exact q1
  · rw [u2_a (by omega)]; exact q2
  · rw [u2_a (by omega)]; exact q3
  · rw [u2_a (by omega)]; exact q4
  · rw [u2_a (by omega)]; exact q5
  · rw [u2_a (by omega), q6 k hk, uz_eq]
  · rw [u2_a (by omega)]; exact q7
  · rw [u2_a (by omega)]; exact r0
  · rw [u2_a (by omega)]; exact r1
  · rw [u2_a (by omega)]; exact r2
  · rw [u2_a (by omega)]; exact r3
  · rw [u2_ne hq, (p4 b k (by omega) (by omega)).1, uz_lt hb]
  · rw [u2_ne hq, (p4 b k (by omega) (by omega)).2, uz_lt hb]
/-- Test -/
theorem rk_97 (d : Nat) {a t : Nat} (ha : ob n sh a 6 8) (fi : Int32) : ∃ x' y', mj_Cl pg (d + 2) 97 [.inr (some a), .inl (nI t), .inl fi] (bl n sh x y) = some (none, bl (n + 4) (uS (uS (uS (uS sh n (3, 4)) (n + 1) (102, 12)) (n + 2) (3, 4)) (n + 3) (102, 12)) x' y') ∧ (x' a 0 = nI t ∧ x' a 1 = fi ∧ (∀ k, 2 ≤ k → x' a k = x a k) ∧ y' a 2 = some n ∧ y' a 3 = some (n + 2)) ∧ (y' n 0 = some (n + 1) ∧ x' n 1 = 0 ∧ x' n 2 = 0 ∧ x' n 3 = nI 6) ∧ (y' (n + 2) 0 = some (n + 3) ∧ x' (n + 2) 3 = nI 12) ∧ (∀ b k, b < n → b ≠ a → x' b k = x b k ∧ y' b k = y b k) := by
  have hn0 : n ≠ 0 := by have := ha.1; omega
  have han : a < n := ha.1
  have hr : ob (n + 1) (uS sh n (3, 4)) n 3 4 := ob_new hn0 3 4
  have ha1 := ha.up (3, 4)
  have ha2 := ha1.up (102, 12)
  have c68 := rk_68 (x := uz (u2 (u2 x a 0 (nI t)) a 1 fi) n 0) (y := uz y n none) d hr (most := 6) (by decide)
  have c68 : mj_Cl pg (d + 1) 68 [.inr (some n), .inl 6] (bl (n + 1) (uS sh n (3, 4)) (uz (u2 (u2 x a 0 (nI t)) a 1 fi) n 0) (uz y n none)) = _ := c68
  have hr2 : ob (n + 2 + 1) (uS (uS (uS sh n (3, 4)) (n + 1) (102, 12)) (n + 2) (3, 4)) (n + 2) 3 4 := ob_new (by omega) 3 4
  have ha3 := ha2.up (3, 4)
  have ha4 := ha3.up (102, 12)
  have c68b := rk_68 (x := uz (u2 (uz (uz (u2 (u2 x a 0 (nI t)) a 1 fi) n 0) (n + 1) 0) n 3 (nI 6)) (n + 2) 0) (y := uz (u2 (u2 (uz (uz y n none) (n + 1) none) n 0 (some (n + 1))) a 2 (some n)) (n + 2) none) d hr2 (most := 12) (by decide)
  have c68b : mj_Cl pg (d + 1) 68 [.inr (some (n + 2)), .inl 12] (bl (n + 2 + 1) (uS (uS (uS sh n (3, 4)) (n + 1) (102, 12)) (n + 2) (3, 4)) (uz (u2 (uz (uz (u2 (u2 x a 0 (nI t)) a 1 fi) n 0) (n + 1) 0) n 3 (nI 6)) (n + 2) 0) (uz (u2 (u2 (uz (uz y n none) (n + 1) none) n 0 (some (n + 1))) a 2 (some n)) (n + 2) none)) = _ := c68b
  refine ⟨u2 (uz (uz (u2 (uz (uz (u2 (u2 x a 0 (nI t)) a 1 fi) n 0) (n + 1) 0) n 3 (nI 6)) (n + 2) 0) (n + 3) 0) (n + 2) 3 (nI 12), u2 (u2 (uz (uz (u2 (u2 (uz (uz y n none) (n + 1) none) n 0 (some (n + 1))) a 2 (some n)) (n + 2) none) (n + 3) none) (n + 2) 0 (some (n + 3))) a 3 (some (n + 2)), ?_, ⟨?_, ?_, fun k hk => ?_, ?_, u2_eq _ _ _ _⟩, ⟨?_, ?_, ?_, ?_⟩, ⟨?_, u2_eq _ _ _ _⟩, fun b k hb hba => ⟨?_, ?_⟩⟩
  · rw [e_97]
    simp only [s_97_0, s_97_1, s_97_4, s_97_5, s_97_6, s_97_9, s_97_10, s_97_11, s_97_14, s_97_15, s_97_18, s_97_19, s_97_21, s_97_24, s_97_27, s_97_28, s_97_31, s_97_32, s_97_34, s_97_37, s_97_40, mj_lI_s, mj_lI_0, mj_lA_s, mj_lA_0, mj_sL_s, mj_sL_0, mj_s8_0, mj_s8_1, mj_s8_2, mj_s8_3, mj_bc_n, mj_bc_s, mj_bd_s, u2_eq, u2_a, u2_k, ne_eq, Nat.reduceEqDiff, not_false_eq_true, List.nil_append, List.cons_append, eq_self, true_or, or_true, if_true, if_false, false_or, or_false, not_true_eq_false, Bool.false_eq_true, ie_m1_0, ie_m1_1, ie_m1_2, ie_m1_3, ie_m1_4, ie_m1_5, ie_0_m1, ie_0_1, ie_0_2, ie_0_3, ie_0_4, ie_0_5, ie_1_m1, ie_1_0, ie_1_2, ie_1_3, ie_1_4, ie_1_5, ie_2_m1, ie_2_0, ie_2_1, ie_2_3, ie_2_4, ie_2_5, ie_3_m1, ie_3_0, ie_3_1, ie_3_2, ie_3_4, ie_3_5, ie_4_m1, ie_4_0, ie_4_1, ie_4_2, ie_4_3, ie_4_5, ie_5_m1, ie_5_0, ie_5_1, ie_5_2, ie_5_3, ie_5_4, bl_len, al_3, ct_3, cv_3, ci_3_0, cp_3_0, ci_3_1, cp_3_1, ci_3_2, cp_3_2, ci_3_3, cp_3_3, ct_6, cv_6, ci_6_0, cp_6_0, ci_6_1, cp_6_1, ci_6_2, cp_6_2, ci_6_3, cp_6_3, ci_6_4, cp_6_4, ci_6_5, cp_6_5, ci_6_6, cp_6_6, ci_6_7, cp_6_7, ha, hr, c68, ha2, hr2, c68b, ha4]
  · rw [u2_a (by omega), uz_lt (by omega), uz_lt (by omega), u2_a (by omega), uz_lt (by omega), uz_lt han, u2_k (by decide), u2_eq]
  · rw [u2_a (by omega), uz_lt (by omega), uz_lt (by omega), u2_a (by omega), uz_lt (by omega), uz_lt han, u2_eq]
  · rw [u2_a (by omega), uz_lt (by omega), uz_lt (by omega), u2_a (by omega), uz_lt (by omega), uz_lt han, u2_k (by omega), u2_k (by omega)]
  · rw [u2_k (by decide), u2_a (by omega), uz_lt (by omega), uz_lt (by omega), u2_eq]
  · rw [u2_a (by omega), u2_a (by omega), uz_lt (by omega), uz_lt (by omega), u2_a (by omega), u2_eq]
  · rw [u2_a (by omega), uz_lt (by omega), uz_lt (by omega), u2_k (by decide), uz_lt (by omega), uz_eq]
  · rw [u2_a (by omega), uz_lt (by omega), uz_lt (by omega), u2_k (by decide), uz_lt (by omega), uz_eq]
  · rw [u2_a (by omega), uz_lt (by omega), uz_lt (by omega), u2_eq]
  · rw [u2_a (by omega), u2_eq]
  · rw [u2_a (by omega), uz_lt (by omega), uz_lt (by omega), u2_a (by omega), uz_lt (by omega), uz_lt hb, u2_a hba, u2_a hba]
  · rw [u2_a hba, u2_a (by omega), uz_lt (by omega), uz_lt (by omega), u2_a hba, u2_a (by omega), uz_lt (by omega), uz_lt hb]
/-- addTest -/
theorem rk_93 (d : Nat) {nt : Nat} (h2 : ob n sh 2 5 4) (h4 : ob n sh 4 107 20) (hy : y 2 2 = some 4) (hx : x 2 3 = nI nt) (hnt : nt < 20) (fi : Int32) : ∃ x' y', mj_Cl pg (d + 3) 93 [.inr (some 2), .inl fi] (bl n sh x y) = some (some (.inl (nI nt)), bl (n + 5) (uS (uS (uS (uS (uS sh n (6, 8)) (n + 1) (3, 4)) (n + 2) (102, 12)) (n + 3) (3, 4)) (n + 4) (102, 12)) x' y') ∧ (x' n 0 = nI nt ∧ x' n 1 = fi ∧ (∀ k, 2 ≤ k → x' n k = 0) ∧ y' n 2 = some (n + 1) ∧ y' n 3 = some (n + 3)) ∧ (y' (n + 1) 0 = some (n + 2) ∧ x' (n + 1) 1 = 0 ∧ x' (n + 1) 2 = 0 ∧ x' (n + 1) 3 = nI 6) ∧ (y' (n + 3) 0 = some (n + 4) ∧ x' (n + 3) 3 = nI 12) ∧ (x' 2 3 = nI (nt + 1) ∧ y' 4 nt = some n) ∧ (∀ b k, b < n → ¬ (b = 2 ∧ k = 3) → x' b k = x b k) ∧ ∀ b k, b < n → ¬ (b = 4 ∧ k = nt) → y' b k = y b k := by
  have h2n := h2.1
  have h4n := h4.1
  have hn0 : n ≠ 0 := by omega
  have h2a := h2.up (6, 8)
  have h4a := h4.up (6, 8)
  have hna : ob (n + 1) (uS sh n (6, 8)) n 6 8 := ob_new hn0 6 8
  obtain ⟨x1, y1, p1, ⟨q0, q1, q2, q3, q4⟩, ⟨r0, r1, r2, r3⟩, ⟨r4, r5⟩, p4⟩ := rk_97 (x := uz x n 0) (y := uz y n none) (t := nt) d hna fi
  have h2b := (((h2a.up (3, 4)).up (102, 12)).up (3, 4)).up (102, 12)
  have h4b := (((h4a.up (3, 4)).up (102, 12)).up (3, 4)).up (102, 12)
  have hnb := (((hna.up (3, 4)).up (102, 12)).up (3, 4)).up (102, 12)
  have hx1 : (uz x n 0) 2 3 = nI nt := by rw [uz_lt h2n]; exact hx
  have hx2 : x1 2 3 = nI nt := by rw [(p4 2 3 (by omega) (by omega)).1]; exact hx1
  have c1 : (nI nt < 20) = True := eq_true ((nI_ltI (b := 20) (by omega) (by decide)).mpr hnt)
  refine ⟨u2 x1 2 3 (nI (nt + 1)), u2 y1 4 nt (some n), ?_, ⟨?_, ?_, fun k hk => ?_, ?_, ?_⟩, ⟨?_, ?_, ?_, ?_⟩, ⟨?_, ?_⟩, ⟨u2_eq _ _ _ _, u2_eq _ _ _ _⟩, fun b k hb hq => ?_, fun b k hb hq => ?_⟩
  · rw [e_93]
    simp only [s_93_0, s_93_1, s_93_4, s_93_6, s_93_9, s_93_10, s_93_11, s_93_12, s_93_15, s_93_16, s_93_19, s_93_22, s_93_23, s_93_24, s_93_27, s_93_28, s_93_31, s_93_32, s_93_33, s_93_34, s_93_37, s_93_38, s_93_39, s_93_40, s_93_43, mj_lI_s, mj_lI_0, mj_lA_s, mj_lA_0, mj_sL_s, mj_sL_0, mj_s8_0, mj_s8_1, mj_s8_2, mj_s8_3, mj_bc_n, mj_bc_s, mj_bd_s, u2_eq, u2_a, u2_k, ne_eq, Nat.reduceEqDiff, not_false_eq_true, List.nil_append, List.cons_append, eq_self, true_or, or_true, if_true, if_false, false_or, or_false, not_true_eq_false, Bool.false_eq_true, ie_m1_0, ie_m1_1, ie_m1_2, ie_m1_3, ie_m1_4, ie_m1_5, ie_0_m1, ie_0_1, ie_0_2, ie_0_3, ie_0_4, ie_0_5, ie_1_m1, ie_1_0, ie_1_2, ie_1_3, ie_1_4, ie_1_5, ie_2_m1, ie_2_0, ie_2_1, ie_2_3, ie_2_4, ie_2_5, ie_3_m1, ie_3_0, ie_3_1, ie_3_2, ie_3_4, ie_3_5, ie_4_m1, ie_4_0, ie_4_1, ie_4_2, ie_4_3, ie_4_5, ie_5_m1, ie_5_0, ie_5_1, ie_5_2, ie_5_3, ie_5_4, bl_len, al_6, ct_5, cv_5, ci_5_0, cp_5_0, ci_5_1, cp_5_1, ci_5_2, cp_5_2, ci_5_3, cp_5_3, ct_6, cv_6, ci_6_0, cp_6_0, ci_6_1, cp_6_1, ci_6_2, cp_6_2, ci_6_3, cp_6_3, ci_6_4, cp_6_4, ci_6_5, cp_6_5, ci_6_6, cp_6_6, ci_6_7, cp_6_7, h2, hx, hy, c1, h2a, hx1, hna, p1, hnb, xq_107 h4b hnt (by decide), h2b, hx2, nI_1]
  · rw [u2_a (by omega)]; exact q0
  · rw [u2_a (by omega)]; exact q1
  · rw [u2_a (by omega), q2 k hk, uz_eq]
  · rw [u2_a (by omega)]; exact q3
  · rw [u2_a (by omega)]; exact q4
  · rw [u2_a (by omega)]; exact r0
  · rw [u2_a (by omega)]; exact r1
  · rw [u2_a (by omega)]; exact r2
  · rw [u2_a (by omega)]; exact r3
  · rw [u2_a (by omega)]; exact r4
  · rw [u2_a (by omega)]; exact r5
  · rw [u2_ne hq, (p4 b k (by omega) (by omega)).1, uz_lt hb]
  · rw [u2_ne hq, (p4 b k (by omega) (by omega)).2, uz_lt hb]
end NW
