/-! the pure claim -/
theorem bl_start (L : Nat) (xs : Nat → Int32) : [mj_z L xs] = bl 1 (fun _ => (100, L)) (fun _ k => xs k) (fun _ _ => none) := rfl
theorem mj_sz_bl (n : Nat) (sh : Nat → Nat × Nat) (x : Nat → Nat → Int32) (y : Nat → Nat → Option Nat) : mj_sz (bl n sh x y) = szs n sh := by
  unfold mj_sz szs bl
  rw [List.map_map]
  congr 1
  apply List.map_congr_left
  intro a _
  exact bl_cl sh x y a
/-- the law's loop -/
theorem lw_L {L : Nat} {xs : Nat → Int32} (hL9 : L ≤ 2560) (Q : Option mj_R → Prop) (hQ : ∀ n sh x y, GI n sh x y → sh 0 = (100, L) → Q (some (some (.inl 1), bl n sh x y))) : ∀ (k i n : Nat) (sh : Nat → Nat × Nat) (x : Nat → Nat → Int32) (y : Nat → Nat → Option Nat), L < i + 5 * k + 5 → (L < 5 → i = 0) → i ≤ L + 5 → GI n sh x y → sh 0 = (100, L) → (∀ k, x 0 k = xs k) → Q (mj_Rn pg 61 0 (18, [some (.inr (some 0)), some (.inr (some 1)), some (.inr (some 91)), some (.inl (nI i))], [], bl n sh x y)) := by
  intro k
  have out : ∀ (i n : Nat) (sh : Nat → Nat × Nat) (x : Nat → Nat → Int32) (y : Nat → Nat → Option Nat), L < i + 5 → (L < 5 → i = 0) → i ≤ L + 5 → GI n sh x y → sh 0 = (100, L) → Q (mj_Rn pg 61 0 (18, [some (.inr (some 0)), some (.inr (some 1)), some (.inr (some 91)), some (.inl (nI i))], [], bl n sh x y)) := fun i n sh x y h1 h2 h3 hG h0 => by
    have hn0 := hG.tg.2.2
    have hln := bl_ln n sh x y hn0 h0
    have hc : (Int32.ofNat L - 5 < nI i) = True := eq_true (by
      show nI L - 5 < nI i
      rcases Nat.lt_or_ge L 5 with c | c
      · rw [h2 c]; exact lw_sm L c
      · have : nI L - 5 = nI (L - 5) := nI_subn c
        rw [this]
        exact (nI_ltI (by omega) (by omega)).mpr (by omega))
    show Q (mj_Rn pg (60 + 1) 0 _)
    rw [s_0_18]
    simp only [s_0_19, s_0_20, s_0_21, s_0_22, s_0_23, s_0_557, s_0_558, mj_lI_s, mj_lI_0, mj_lA_s, mj_lA_0, mj_sL_s, mj_sL_0, mj_s8_0, mj_s8_1, mj_s8_2, mj_s8_3, mj_bc_n, mj_bc_s, mj_bd_s, u2_eq, u2_a, u2_k, ne_eq, Nat.reduceEqDiff, not_false_eq_true, List.nil_append, List.cons_append, eq_self, true_or, or_true, if_true, if_false, false_or, or_false, not_true_eq_false, Bool.false_eq_true, ie_m1_0, ie_m1_1, ie_m1_2, ie_m1_3, ie_m1_4, ie_m1_5, ie_0_m1, ie_0_1, ie_0_2, ie_0_3, ie_0_4, ie_0_5, ie_1_m1, ie_1_0, ie_1_2, ie_1_3, ie_1_4, ie_1_5, ie_2_m1, ie_2_0, ie_2_1, ie_2_3, ie_2_4, ie_2_5, ie_3_m1, ie_3_0, ie_3_1, ie_3_2, ie_3_4, ie_3_5, ie_4_m1, ie_4_0, ie_4_1, ie_4_2, ie_4_3, ie_4_5, ie_5_m1, ie_5_0, ie_5_1, ie_5_2, ie_5_3, ie_5_4, hln, hc]
    exact hQ n sh x y hG h0
  induction k with
  | zero => intro i n sh x y h1 h2 h3 hG h0 hx; exact out i n sh x y (by omega) h2 h3 hG h0
  | succ k ih =>
    intro i n sh x y h1 h2 h3 hG h0 hx
    rcases Nat.lt_or_ge L (i + 5) with c | c
    · exact out i n sh x y c h2 h3 hG h0
    · have hn0 := hG.tg.2.2
      have hln := bl_ln n sh x y hn0 h0
      have hc : (Int32.ofNat L - 5 < nI i) = False := eq_false (by
        show ¬ nI L - 5 < nI i
        have : nI L - 5 = nI (L - 5) := nI_subn (a := L) (b := 5) (by omega)
        rw [this]
        exact fun z => absurd ((nI_ltI (by omega) (by omega)).mp z) (by omega))
      have a0 : i < L := by omega
      have nx : ∀ n' sh' x2 y1, GI n' sh' x2 y1 → sh' 0 = (100, L) → (∀ k, x2 0 k = xs k) → Q (mj_Rn pg 61 0 (18, [some (.inr (some 0)), some (.inr (some 1)), some (.inr (some 91)), some (.inl (nI (i + 5)))], [], bl n' sh' x2 y1)) := fun n' sh' x2 y1 g e ex => ih (i + 5) n' sh' x2 y1 (by omega) (fun z => by omega) (by omega) g e ex
      have skip : Q (mj_Rn pg 61 0 (551, [some (.inr (some 0)), some (.inr (some 1)), some (.inr (some 91)), some (.inl (nI i))], [], bl n sh x y)) := by
        have := nx n sh x y hG h0 hx
        show Q (mj_Rn pg (60 + 1) 0 _)
        simp only [s_0_551, s_0_554, mj_lI_s, mj_lI_0, mj_lA_s, mj_lA_0, mj_sL_s, mj_sL_0, mj_s8_0, mj_s8_1, mj_s8_2, mj_s8_3, mj_bc_n, mj_bc_s, mj_bd_s, u2_eq, u2_a, u2_k, ne_eq, Nat.reduceEqDiff, not_false_eq_true, List.nil_append, List.cons_append, eq_self, true_or, or_true, if_true, if_false, false_or, or_false, not_true_eq_false, Bool.false_eq_true, ie_m1_0, ie_m1_1, ie_m1_2, ie_m1_3, ie_m1_4, ie_m1_5, ie_0_m1, ie_0_1, ie_0_2, ie_0_3, ie_0_4, ie_0_5, ie_1_m1, ie_1_0, ie_1_2, ie_1_3, ie_1_4, ie_1_5, ie_2_m1, ie_2_0, ie_2_1, ie_2_3, ie_2_4, ie_2_5, ie_3_m1, ie_3_0, ie_3_1, ie_3_2, ie_3_4, ie_3_5, ie_4_m1, ie_4_0, ie_4_1, ie_4_2, ie_4_3, ie_4_5, ie_5_m1, ie_5_0, ie_5_1, ie_5_2, ie_5_3, ie_5_4, n5]
        exact this
      have w0 := lw_0 (Q := Q) c hL9 hG h0 hx nx
      have w1 := lw_1 (Q := Q) c hL9 hG h0 hx nx
      have w2 := lw_2 (Q := Q) c hL9 hG h0 hx nx
      have w3 := lw_3 (Q := Q) c hL9 hG h0 hx nx
      have w4 := lw_4 (Q := Q) c hL9 hG h0 hx nx
      have w5 := lw_5 (Q := Q) c hL9 hG h0 hx nx
      have w6 := lw_6 (Q := Q) c hL9 hG h0 hx nx
      have w7 := lw_7 (Q := Q) c hL9 hG h0 hx nx
      have w8 := lw_8 (Q := Q) c hL9 hG h0 hx nx
      have w9 := lw_9 (Q := Q) c hL9 hG h0 hx nx
      have w10 := lw_10 (Q := Q) c hL9 hG h0 hx nx
      have w11 := lw_11 (Q := Q) c hL9 hG h0 hx nx
      have w12 := lw_12 (Q := Q) c hL9 hG h0 hx nx
      show Q (mj_Rn pg (60 + 1) 0 _)
      rw [s_0_18]
      simp only [s_0_19, s_0_20, s_0_21, s_0_22, s_0_23, s_0_26, s_0_27, s_0_28, s_0_29, s_0_31, s_0_32, mj_lI_s, mj_lI_0, mj_lA_s, mj_lA_0, mj_sL_s, mj_sL_0, mj_s8_0, mj_s8_1, mj_s8_2, mj_s8_3, mj_bc_n, mj_bc_s, mj_bd_s, u2_eq, u2_a, u2_k, ne_eq, Nat.reduceEqDiff, not_false_eq_true, List.nil_append, List.cons_append, eq_self, true_or, or_true, if_true, if_false, false_or, or_false, not_true_eq_false, Bool.false_eq_true, ie_m1_0, ie_m1_1, ie_m1_2, ie_m1_3, ie_m1_4, ie_m1_5, ie_0_m1, ie_0_1, ie_0_2, ie_0_3, ie_0_4, ie_0_5, ie_1_m1, ie_1_0, ie_1_2, ie_1_3, ie_1_4, ie_1_5, ie_2_m1, ie_2_0, ie_2_1, ie_2_3, ie_2_4, ie_2_5, ie_3_m1, ie_3_0, ie_3_1, ie_3_2, ie_3_4, ie_3_5, ie_4_m1, ie_4_0, ie_4_1, ie_4_2, ie_4_3, ie_4_5, ie_5_m1, ie_5_0, ie_5_1, ie_5_2, ie_5_3, ie_5_4, hln, hc, xi_0 hn0 h0 a0 (by omega), hx]
      generalize xs i &&& 15 = v
      by_cases v0 : v = 0
      · rw [if_pos v0]; exact w0
      rw [if_neg v0]
      by_cases v1 : v = 1
      · rw [if_pos v1]; exact w1
      rw [if_neg v1]
      by_cases v2 : v = 2
      · rw [if_pos v2]; exact w2
      rw [if_neg v2]
      by_cases v3 : v = 3
      · rw [if_pos v3]; exact w3
      rw [if_neg v3]
      by_cases v4 : v = 4
      · rw [if_pos v4]; exact w4
      rw [if_neg v4]
      by_cases v5 : v = 5
      · rw [if_pos v5]; exact w5
      rw [if_neg v5]
      by_cases v6 : v = 6
      · rw [if_pos v6]; exact w6
      rw [if_neg v6]
      by_cases v7 : v = 7
      · rw [if_pos v7]; exact w7
      rw [if_neg v7]
      by_cases v8 : v = 8
      · rw [if_pos v8]; exact w8
      rw [if_neg v8]
      by_cases v9 : v = 9
      · rw [if_pos v9]; exact w9
      rw [if_neg v9]
      by_cases v10 : v = 10
      · rw [if_pos v10]; exact w10
      rw [if_neg v10]
      by_cases v11 : v = 11
      · rw [if_pos v11]; exact w11
      rw [if_neg v11]
      by_cases v12 : v = 12
      · rw [if_pos v12]; exact w12
      rw [if_neg v12]
      exact skip
/-- the start -/
theorem GI_start {sh : Nat → Nat × Nat} {x : Nat → Nat → Int32} {y : Nat → Nat → Option Nat} (h91 : sh 91 = (8, 44)) (hx91 : ∀ k, x 91 k = 0) (hC : (ob 91 sh 1 7 2 ∧ y 1 0 = some 2 ∧ y 1 1 = some 5) ∧ (ob 91 sh 2 5 4 ∧ ob 91 sh 3 102 12 ∧ ob 91 sh 4 107 20 ∧ y 2 0 = some 3 ∧ x 2 1 = 0 ∧ y 2 2 = some 4 ∧ x 2 3 = 0) ∧ runP 91 sh y ∧ caS 91 sh y (fun p => 11 + 2 * p) ∧ rowS 91 sh x y 6 7 12 ∧ (ob 91 sh 8 2 2 ∧ ob 91 sh 9 100 3492 ∧ y 8 0 = some 9 ∧ x 8 1 = 0) ∧ x 5 3 = 0 ∧ x 5 4 = 0) (h0 : (sh 0).1 = 100) (hz : szs 92 sh ≤ (sh 0).2 + 10000) : GI 127 (sk_35 sh) (xk_35 x) (yk_35 y) := by
  obtain ⟨⟨a1, a2, a3⟩, ⟨b1, b2, b3, b4, b5, b6, b7⟩, hU, hc, h6, ⟨l1, l2, l3, l4⟩, l5, l6⟩ := hC
  have up : ∀ {a c m : Nat}, ob 91 sh a c m → ob 127 (sk_35 sh) a c m := fun h => ⟨Nat.lt_trans h.1 (by decide), h.2.1, by rw [sk_lt (Nat.lt_succ_of_lt h.1)]; exact h.2.2⟩
  have ex : ∀ a k, a < 92 → xk_35 x a k = x a k := fun a k h => xk_lt h
  have ey : ∀ a k, a < 91 → yk_35 y a k = y a k := fun a k h => yk_lt h
  have hz2 := sz_16 (sh := sh)
  refine ⟨fun _ => 0, fun _ => 0, ((0, 0), fun _ => [], fun _ => [], fun _ _ => 0, fun _ _ => 0), fun _ _ => false, fun p => 11 + 2 * p, 0, (fun _ _ => 0, [], []), ⟨⟨⟨up b1, up b2, up b3, by rw [ey _ _ (by decide)]; exact b4, by rw [ex _ _ (by decide)]; exact b5, by rw [ey _ _ (by decide)]; exact b6, by rw [ex _ _ (by decide)]; exact b7, by decide⟩, ⟨by decide, fun f hf => absurd hf (Nat.not_lt_zero f), fun f g hf => absurd hf (Nat.not_lt_zero f)⟩, fun f hf => absurd hf (Nat.not_lt_zero f), fun f hf => absurd hf (Nat.not_lt_zero f), fun t ht => absurd ht (Nat.not_lt_zero t), fun f hf => absurd hf (Nat.not_lt_zero f), fun t ht => absurd ht (Nat.not_lt_zero t), fun f g hf => absurd hf (Nat.not_lt_zero f), fun t u ht => absurd ht (Nat.not_lt_zero t), fun f t hf => absurd hf (Nat.not_lt_zero f)⟩, ⟨⟨up a1, by rw [ey _ _ (by decide)]; exact a2, by rw [ey _ _ (by decide)]; exact a3⟩, ⟨up hU.1, by rw [ey _ _ (by decide)]; exact hU.2.1, by rw [ey _ _ (by decide)]; exact hU.2.2.1, by rw [ey _ _ (by decide)]; exact hU.2.2.2⟩, ⟨up hc.1, fun p hp => ?_, hc.2.2⟩, ⟨up h6.1, up h6.2.1, by rw [ey _ _ (by decide)]; exact h6.2.2.1, by rw [ex _ _ (by decide)]; exact h6.2.2.2.1, h6.2.2.2.2⟩, by rw [ex _ _ (by decide)]; exact l6, by decide, fun f hf => absurd hf (Nat.not_lt_zero f), ⟨up l1, up l2, by rw [ey _ _ (by decide)]; exact l3, by rw [ex _ _ (by decide)]; exact l4, by decide, fun e t he => (by simp at he)⟩, fun e he => (by cases he), by rw [ex _ _ (by decide)]; exact l5, by decide, fun p r hp => (by simp at hp)⟩, ⟨mo_16 h91, my_16, ⟨⟨by rw [ex _ _ (by decide)]; exact hx91 1, by decide, fun f hf => absurd hf (Nat.not_lt_zero f)⟩, fun f hf => absurd hf (Nat.not_lt_zero f), ⟨by rw [ex _ _ (by decide)]; exact hx91 2, by decide, fun t ht => absurd ht (Nat.not_lt_zero t)⟩, fun f hf => absurd hf (Nat.not_lt_zero f), fun t ht => absurd ht (Nat.not_lt_zero t)⟩, ⟨fun f _ _ => rfl, fun t _ _ => ⟨rfl, rfl, rfl, rfl, rfl⟩⟩, ⟨by rw [ex _ _ (by decide)]; exact hx91 20, by decide, fun f hf => absurd hf (Nat.not_lt_zero f), ⟨by rw [ex _ _ (by decide)]; exact hx91 21, by decide, fun e t he => (by simp at he)⟩, by rw [ex _ _ (by decide)]; exact hx91 22, by decide, fun p r hp => (by simp at hp)⟩⟩, ⟨⟨fun f hf => absurd hf (Nat.not_lt_zero f), fun a b c h => (by cases h), fun _ => rfl, fun a b h => (by cases h), fun f hf => absurd hf (Nat.not_lt_zero f)⟩, fun f hf => absurd hf (Nat.not_lt_zero f), fun f hf => absurd hf (Nat.not_lt_zero f)⟩, Nat.le_refl _⟩, rfl, ?_, ?_⟩
  · obtain ⟨m1, m2, m3, m4, m5, m6, m7⟩ := hc.2.1 p hp
    exact ⟨by rw [ey _ _ (by decide)]; exact m1, m2, m3, m4, up m5, up m6, by rw [ey _ _ m5.1]; exact m7⟩
  · show szs 127 (sk_35 sh) ≤ (sk_35 sh 0).2 + 40000 + 31 * 0 + 40 * 0
    rw [sk_lt (by decide), hz2]
    omega
  · rw [sk_lt (by decide)]; exact h0
theorem pl_law : pl_claim := by
  intro L xs hL
  have o1 : ob 2 (uS (fun _ => (100, L)) 1 (7, 2)) 1 7 2 := ob_new (n := 1) (by decide) 7 2
  obtain ⟨sh, x, y, c1, hC, e0, ex0, hz⟩ := rk_1 (x := uz (fun _ k => xs k) 1 0) (y := uz (fun _ _ => none) 1 none) o1
  have o91 : ob 92 (uS sh 91 (8, 44)) 91 8 44 := ob_new (n := 91) (by decide) 8 44
  have c16 : mj_Cl pg 60 16 [.inr (some 91)] (bl 92 (uS sh 91 (8, 44)) (uz x 91 0) (uz y 91 none)) = some (none, bl 127 (sk_35 (uS sh 91 (8, 44))) (xk_35 (uz x 91 0)) (yk_35 (uz y 91 none))) := rk_16 59 o91
  have z1 : szs 2 (uS (fun _ => (100, L)) 1 (7, 2)) = szs 1 (fun _ => (100, L)) + 2 := szs_U 1 _ (7, 2)
  have z2 : szs 92 (uS sh 91 (8, 44)) = szs 91 sh + 44 := szs_U 91 _ (8, 44)
  have z3 : szs 1 (fun _ => (100, L)) = L := by
    show L + 0 = L
    omega
  have e00 : sh 0 = (100, L) := e0
  have u0 : uS sh 91 (8, 44) 0 = (100, L) := e00
  have hG : GI 127 (sk_35 (uS sh 91 (8, 44))) (xk_35 (uz x 91 0)) (yk_35 (uz y 91 none)) := by
    have up : ∀ {a c m : Nat}, ob 91 sh a c m → ob 91 (uS sh 91 (8, 44)) a c m := fun h => ⟨h.1, h.2.1, by rw [uS_lt h.1]; exact h.2.2⟩
    have lx : ∀ a k, a < 91 → uz x 91 0 a k = x a k := fun a k h => uz_lt h
    have ly : ∀ a k, a < 91 → uz y 91 none a k = y a k := fun a k h => uz_lt h
    obtain ⟨⟨a1, a2, a3⟩, ⟨b1, b2, b3, b4, b5, b6, b7⟩, hU, hc, h6, ⟨l1, l2, l3, l4⟩, l5, l6⟩ := hC
    refine GI_start (if_pos rfl) (fun k => if_pos rfl) ⟨⟨up a1, by rw [ly _ _ (by decide)]; exact a2, by rw [ly _ _ (by decide)]; exact a3⟩, ⟨up b1, up b2, up b3, by rw [ly _ _ (by decide)]; exact b4, by rw [lx _ _ (by decide)]; exact b5, by rw [ly _ _ (by decide)]; exact b6, by rw [lx _ _ (by decide)]; exact b7⟩, ⟨up hU.1, by rw [ly _ _ (by decide)]; exact hU.2.1, by rw [ly _ _ (by decide)]; exact hU.2.2.1, by rw [ly _ _ (by decide)]; exact hU.2.2.2⟩, ⟨up hc.1, fun p hp => ?_, hc.2.2⟩, ⟨up h6.1, up h6.2.1, by rw [ly _ _ (by decide)]; exact h6.2.2.1, by rw [lx _ _ (by decide)]; exact h6.2.2.2.1, h6.2.2.2.2⟩, ⟨up l1, up l2, by rw [ly _ _ (by decide)]; exact l3, by rw [lx _ _ (by decide)]; exact l4⟩, by rw [lx _ _ (by decide)]; exact l5, by rw [lx _ _ (by decide)]; exact l6⟩ (by rw [u0]) (by rw [u0]; show _ ≤ L + 10000; omega)
    obtain ⟨m1, m2, m3, m4, m5, m6, m7⟩ := hc.2.1 p hp
    exact ⟨by rw [ly _ _ (by decide)]; exact m1, m2, m3, m4, up m5, up m6, by rw [ly _ _ m5.1]; exact m7⟩
  have hx : ∀ k, xk_35 (uz x 91 0) 0 k = xs k := fun k => by rw [xk_lt (by decide), uz_lt (by decide), ex0]; rfl
  have h0 : sk_35 (uS sh 91 (8, 44)) 0 = (100, L) := by rw [sk_lt (by decide)]; exact u0
  have o1b : ob 91 sh 1 7 2 := hC.1.1
  have entry : mj_Rn pg 61 0 (mj_en pg 0 [.inr (some 0)] [mj_z L xs]) = mj_Rn pg 61 0 (18, [some (.inr (some 0)), some (.inr (some 1)), some (.inr (some 91)), some (.inl (nI 0))], [], bl 127 (sk_35 (uS sh 91 (8, 44))) (xk_35 (uz x 91 0)) (yk_35 (uz y 91 none))) := by
    have mt : mj_tg (bl 92 (uS sh 91 (8, 44)) (uz x 91 0) (uz y 91 none)) 91 8 = true := bl_tg' 92 _ _ _ (by decide) rfl
    show mj_Rn pg (60 + 1) 0 (0, [some (.inr (some 0)), none, none, none], [], [mj_z L xs]) = _
    rw [bl_start]
    simp only [s_0_0, s_0_3, s_0_4, s_0_7, s_0_8, s_0_11, s_0_12, s_0_15, s_0_16, s_0_17, mj_lI_s, mj_lI_0, mj_lA_s, mj_lA_0, mj_sL_s, mj_sL_0, mj_s8_0, mj_s8_1, mj_s8_2, mj_s8_3, mj_bc_n, mj_bc_s, mj_bd_s, u2_eq, u2_a, u2_k, ne_eq, Nat.reduceEqDiff, not_false_eq_true, List.nil_append, List.cons_append, eq_self, true_or, or_true, if_true, if_false, false_or, or_false, not_true_eq_false, Bool.false_eq_true, ie_m1_0, ie_m1_1, ie_m1_2, ie_m1_3, ie_m1_4, ie_m1_5, ie_0_m1, ie_0_1, ie_0_2, ie_0_3, ie_0_4, ie_0_5, ie_1_m1, ie_1_0, ie_1_2, ie_1_3, ie_1_4, ie_1_5, ie_2_m1, ie_2_0, ie_2_1, ie_2_3, ie_2_4, ie_2_5, ie_3_m1, ie_3_0, ie_3_1, ie_3_2, ie_3_4, ie_3_5, ie_4_m1, ie_4_0, ie_4_1, ie_4_2, ie_4_3, ie_4_5, ie_5_m1, ie_5_0, ie_5_1, ie_5_2, ie_5_3, ie_5_4, bl_len, al_7, al_8, Nat.reduceAdd, ct_7, cv_7, ci_7_0, cp_7_0, ci_7_1, cp_7_1, o1, c1, mt, c16]
    rfl
  rw [entry]
  refine lw_L hL (fun r => ∃ h', r = some (some (.inl 1), h') ∧ h'.length ≤ 600001 ∧ mj_sz h' ≤ mj_sz [mj_z L xs] + 7302250) (fun n sh x y hG h0 => ⟨_, rfl, ?_, ?_⟩) 512 0 127 _ _ _ (by omega) (fun _ => rfl) (by omega) hG h0 hx
  · obtain ⟨hF, hT, w, nb, cc, nfT, L', ⟨hS, hJ, hR, hX, hn⟩, hr1, hr2, hr3⟩ := hG
    have h12 := hS.2.1.1
    have h20 := hS.1.2.2.2.2.2.2.2
    rw [bl_len]
    omega
  · obtain ⟨hF, hT, w, nb, cc, nfT, L', ⟨hS, hJ, hR, hX, hn⟩, hr1, hr2, hr3⟩ := hG
    have h12 := hS.2.1.1
    have h20 := hS.1.2.2.2.2.2.2.2
    have hr2 : szs n sh ≤ (sh 0).2 + 40000 + 31 * wF w + 40 * wT w := hr2
    rw [bl_start, mj_sz_bl, mj_sz_bl, z3]
    rw [h0] at hr2
    have hr2 : szs n sh ≤ L + 40000 + 31 * wF w + 40 * wT w := hr2
    omega
