/-! the law -/
section LW
variable {n : Nat} {sh : Nat → Nat × Nat} {x : Nat → Nat → Int32} {y : Nat → Nat → Option Nat}
theorem xi_0 {m i : Nat} (hn : 0 < n) (h : sh 0 = (100, m)) (hi : i < m) (hm : m ≤ 10000) (F : Int32 → Option mj_R) : mj_aI (bl n sh x y) 0 100 (nI i) F = F (x 0 i) := by
  unfold mj_aI
  rw [if_neg (nI_pos (by omega)), nI_clamp (by omega), bl_gf, if_pos ⟨hn, by rw [h], by rw [h]; exact hi⟩]
  rfl
theorem n2 (i : Nat) : nI i + 2 = nI (i + 2) := nI_add i 2
theorem n3 (i : Nat) : nI i + 3 = nI (i + 3) := nI_add i 3
theorem n4 (i : Nat) : nI i + 4 = nI (i + 4) := nI_add i 4
theorem n5 (i : Nat) : nI i + 5 = nI (i + 5) := nI_add i 5
theorem lw_sm : ∀ m, m < 5 → nI m - 5 < nI 0 := by decide
theorem GI.tg (h : GI n sh x y) : ob n sh 1 7 2 ∧ moK n sh ∧ 0 < n := by
  obtain ⟨hF, hT, w, nb, cc, nfT, L, ⟨hS, hJ, hR, hX, hn⟩, hr1, hr2, hr3⟩ := h
  exact ⟨hJ.1.1, hR.1, by omega⟩
/-- the class of the program's object stays -/
theorem GI.ob1 (h : GI n sh x y) : ob n sh 1 7 2 := h.tg.1
theorem lw_arm {L i Mc Mr a b : Nat} {xs : Nat → Int32} {as : List mj_V} {Q : Option mj_R → Prop} (hL : i + 5 ≤ L) (hG : GI n sh x y) (h0 : sh 0 = (100, L)) (hx : ∀ k, x 0 k = xs k) (op : opR n sh x y Mc Mr as)
    (go : ∀ n' sh' x1 y1 x2 r, mj_Cl pg 60 Mc (.inr (some 1) :: as) (bl n sh x y) = some (some (.inl r), bl n' sh' x1 y1) → mj_Cl pg 60 Mr (.inr (some 91) :: as) (bl n' sh' x1 y1) = some (some (.inl r), bl n' sh' x2 y1) → 0 < n' → moK n' sh' → sh' 0 = (100, L) → (∀ k, x1 0 k = xs k) → (mj_Rn pg 61 0 (551, [some (.inr (some 0)), some (.inr (some 1)), some (.inr (some 91)), some (.inl (nI i))], [], bl n' sh' x2 y1) = mj_Rn pg 61 0 (18, [some (.inr (some 0)), some (.inr (some 1)), some (.inr (some 91)), some (.inl (nI (i + 5)))], [], bl n' sh' x2 y1)) → Q (mj_Rn pg 61 0 (551, [some (.inr (some 0)), some (.inr (some 1)), some (.inr (some 91)), some (.inl (nI i))], [], bl n' sh' x2 y1)) → Q (mj_Rn pg 61 0 (a, [some (.inr (some 0)), some (.inr (some 1)), some (.inr (some 91)), some (.inl (nI i))], [], bl n sh x y)))
    (nx : ∀ n' sh' x2 y1, GI n' sh' x2 y1 → sh' 0 = (100, L) → (∀ k, x2 0 k = xs k) → Q (mj_Rn pg 61 0 (18, [some (.inr (some 0)), some (.inr (some 1)), some (.inr (some 91)), some (.inl (nI (i + 5)))], [], bl n' sh' x2 y1))) :
    Q (mj_Rn pg 61 0 (a, [some (.inr (some 0)), some (.inr (some 1)), some (.inr (some 91)), some (.inl (nI i))], [], bl n sh x y)) := by
  obtain ⟨n', sh', x1, y1, x2, r, c1, c2, g, e0, ex⟩ := op
  have st : mj_Rn pg 61 0 (551, [some (.inr (some 0)), some (.inr (some 1)), some (.inr (some 91)), some (.inl (nI i))], [], bl n' sh' x2 y1) = mj_Rn pg 61 0 (18, [some (.inr (some 0)), some (.inr (some 1)), some (.inr (some 91)), some (.inl (nI (i + 5)))], [], bl n' sh' x2 y1) := by
    show mj_Rn pg (60 + 1) 0 _ = _
    simp only [s_0_551, s_0_554, mj_lI_s, mj_lI_0, mj_lA_s, mj_lA_0, mj_sL_s, mj_sL_0, mj_s8_0, mj_s8_1, mj_s8_2, mj_s8_3, mj_bc_n, mj_bc_s, mj_bd_s, u2_eq, u2_a, u2_k, ne_eq, Nat.reduceEqDiff, not_false_eq_true, List.nil_append, List.cons_append, eq_self, true_or, or_true, if_true, if_false, false_or, or_false, not_true_eq_false, Bool.false_eq_true, ie_m1_0, ie_m1_1, ie_m1_2, ie_m1_3, ie_m1_4, ie_m1_5, ie_0_m1, ie_0_1, ie_0_2, ie_0_3, ie_0_4, ie_0_5, ie_1_m1, ie_1_0, ie_1_2, ie_1_3, ie_1_4, ie_1_5, ie_2_m1, ie_2_0, ie_2_1, ie_2_3, ie_2_4, ie_2_5, ie_3_m1, ie_3_0, ie_3_1, ie_3_2, ie_3_4, ie_3_5, ie_4_m1, ie_4_0, ie_4_1, ie_4_2, ie_4_3, ie_4_5, ie_5_m1, ie_5_0, ie_5_1, ie_5_2, ie_5_3, ie_5_4, n5]
  obtain ⟨t1, t2, t3⟩ := g.tg
  refine go n' sh' x1 y1 x2 r c1 c2 t3 t2 (e0.trans h0) (fun k => (ex k).1.trans (hx k)) st ?_
  rw [st]
  exact nx n' sh' x2 y1 g (e0.trans h0) (fun k => (ex k).2.trans (hx k))
theorem lw_1 {L i : Nat} {xs : Nat → Int32} {Q : Option mj_R → Prop} (hL : i + 5 ≤ L) (hL9 : L ≤ 2560) (hG : GI n sh x y) (h0 : sh 0 = (100, L)) (hx : ∀ k, x 0 k = xs k)
    (nx : ∀ n' sh' x2 y1, GI n' sh' x2 y1 → sh' 0 = (100, L) → (∀ k, x2 0 k = xs k) → Q (mj_Rn pg 61 0 (18, [some (.inr (some 0)), some (.inr (some 1)), some (.inr (some 91)), some (.inl (nI (i + 5)))], [], bl n' sh' x2 y1))) :
    Q (mj_Rn pg 61 0 (185, [some (.inr (some 0)), some (.inr (some 1)), some (.inr (some 91)), some (.inl (nI i))], [], bl n sh x y)) := by
  obtain ⟨o1, hK, hn0⟩ := hG.tg
  refine lw_arm (b := 0) hL hG h0 hx (op_3 hG (xs (i + 1)) (xs (i + 2))) (fun n' sh' x1 y1 x2 r c1 c2 t3 t2 e0 ex st q => ?_) nx
  have a1 : i + 1 < L := by omega
  have a2 : i + 2 < L := by omega
  have a3 : i + 3 < L := by omega
  have a4 : i + 4 < L := by omega
  show Q (mj_Rn pg (60 + 1) 0 _)
  simp only [s_0_185, s_0_186, s_0_187, s_0_188, s_0_189, s_0_190, s_0_191, s_0_192, s_0_193, s_0_194, s_0_195, s_0_196, s_0_199, s_0_200, s_0_201, s_0_202, s_0_203, s_0_204, s_0_205, s_0_206, s_0_207, s_0_208, s_0_209, s_0_210, s_0_213, s_0_216, s_0_217, mj_lI_s, mj_lI_0, mj_lA_s, mj_lA_0, mj_sL_s, mj_sL_0, mj_s8_0, mj_s8_1, mj_s8_2, mj_s8_3, mj_bc_n, mj_bc_s, mj_bd_s, u2_eq, u2_a, u2_k, ne_eq, Nat.reduceEqDiff, not_false_eq_true, List.nil_append, List.cons_append, eq_self, true_or, or_true, if_true, if_false, false_or, or_false, not_true_eq_false, Bool.false_eq_true, ie_m1_0, ie_m1_1, ie_m1_2, ie_m1_3, ie_m1_4, ie_m1_5, ie_0_m1, ie_0_1, ie_0_2, ie_0_3, ie_0_4, ie_0_5, ie_1_m1, ie_1_0, ie_1_2, ie_1_3, ie_1_4, ie_1_5, ie_2_m1, ie_2_0, ie_2_1, ie_2_3, ie_2_4, ie_2_5, ie_3_m1, ie_3_0, ie_3_1, ie_3_2, ie_3_4, ie_3_5, ie_4_m1, ie_4_0, ie_4_1, ie_4_2, ie_4_3, ie_4_5, ie_5_m1, ie_5_0, ie_5_1, ie_5_2, ie_5_3, ie_5_4, ct_7, cv_7, ci_7_0, cp_7_0, ci_7_1, cp_7_1, nI_1, n2, n3, n4, xi_0 hn0 h0 a1 (by omega), xi_0 hn0 h0 a2 (by omega), xi_0 hn0 h0 a3 (by omega), xi_0 hn0 h0 a4 (by omega), hx, o1, c1, xi_0 t3 e0 a1 (by omega), xi_0 t3 e0 a2 (by omega), xi_0 t3 e0 a3 (by omega), xi_0 t3 e0 a4 (by omega), ex, mt_91 t2, c2]
  exact q
theorem lw_2 {L i : Nat} {xs : Nat → Int32} {Q : Option mj_R → Prop} (hL : i + 5 ≤ L) (hL9 : L ≤ 2560) (hG : GI n sh x y) (h0 : sh 0 = (100, L)) (hx : ∀ k, x 0 k = xs k)
    (nx : ∀ n' sh' x2 y1, GI n' sh' x2 y1 → sh' 0 = (100, L) → (∀ k, x2 0 k = xs k) → Q (mj_Rn pg 61 0 (18, [some (.inr (some 0)), some (.inr (some 1)), some (.inr (some 91)), some (.inl (nI (i + 5)))], [], bl n' sh' x2 y1))) :
    Q (mj_Rn pg 61 0 (218, [some (.inr (some 0)), some (.inr (some 1)), some (.inr (some 91)), some (.inl (nI i))], [], bl n sh x y)) := by
  obtain ⟨o1, hK, hn0⟩ := hG.tg
  refine lw_arm (b := 0) hL hG h0 hx (op_4 hG (xs (i + 1))) (fun n' sh' x1 y1 x2 r c1 c2 t3 t2 e0 ex st q => ?_) nx
  have a1 : i + 1 < L := by omega
  have a2 : i + 2 < L := by omega
  have a3 : i + 3 < L := by omega
  have a4 : i + 4 < L := by omega
  show Q (mj_Rn pg (60 + 1) 0 _)
  simp only [s_0_218, s_0_219, s_0_220, s_0_221, s_0_222, s_0_223, s_0_224, s_0_227, s_0_228, s_0_229, s_0_230, s_0_231, s_0_232, s_0_233, s_0_236, s_0_239, s_0_240, mj_lI_s, mj_lI_0, mj_lA_s, mj_lA_0, mj_sL_s, mj_sL_0, mj_s8_0, mj_s8_1, mj_s8_2, mj_s8_3, mj_bc_n, mj_bc_s, mj_bd_s, u2_eq, u2_a, u2_k, ne_eq, Nat.reduceEqDiff, not_false_eq_true, List.nil_append, List.cons_append, eq_self, true_or, or_true, if_true, if_false, false_or, or_false, not_true_eq_false, Bool.false_eq_true, ie_m1_0, ie_m1_1, ie_m1_2, ie_m1_3, ie_m1_4, ie_m1_5, ie_0_m1, ie_0_1, ie_0_2, ie_0_3, ie_0_4, ie_0_5, ie_1_m1, ie_1_0, ie_1_2, ie_1_3, ie_1_4, ie_1_5, ie_2_m1, ie_2_0, ie_2_1, ie_2_3, ie_2_4, ie_2_5, ie_3_m1, ie_3_0, ie_3_1, ie_3_2, ie_3_4, ie_3_5, ie_4_m1, ie_4_0, ie_4_1, ie_4_2, ie_4_3, ie_4_5, ie_5_m1, ie_5_0, ie_5_1, ie_5_2, ie_5_3, ie_5_4, ct_7, cv_7, ci_7_0, cp_7_0, ci_7_1, cp_7_1, nI_1, n2, n3, n4, xi_0 hn0 h0 a1 (by omega), xi_0 hn0 h0 a2 (by omega), xi_0 hn0 h0 a3 (by omega), xi_0 hn0 h0 a4 (by omega), hx, o1, c1, xi_0 t3 e0 a1 (by omega), xi_0 t3 e0 a2 (by omega), xi_0 t3 e0 a3 (by omega), xi_0 t3 e0 a4 (by omega), ex, mt_91 t2, c2]
  exact q
theorem lw_3 {L i : Nat} {xs : Nat → Int32} {Q : Option mj_R → Prop} (hL : i + 5 ≤ L) (hL9 : L ≤ 2560) (hG : GI n sh x y) (h0 : sh 0 = (100, L)) (hx : ∀ k, x 0 k = xs k)
    (nx : ∀ n' sh' x2 y1, GI n' sh' x2 y1 → sh' 0 = (100, L) → (∀ k, x2 0 k = xs k) → Q (mj_Rn pg 61 0 (18, [some (.inr (some 0)), some (.inr (some 1)), some (.inr (some 91)), some (.inl (nI (i + 5)))], [], bl n' sh' x2 y1))) :
    Q (mj_Rn pg 61 0 (241, [some (.inr (some 0)), some (.inr (some 1)), some (.inr (some 91)), some (.inl (nI i))], [], bl n sh x y)) := by
  obtain ⟨o1, hK, hn0⟩ := hG.tg
  refine lw_arm (b := 0) hL hG h0 hx (op_5 hG (xs (i + 1)) (xs (i + 2))) (fun n' sh' x1 y1 x2 r c1 c2 t3 t2 e0 ex st q => ?_) nx
  have a1 : i + 1 < L := by omega
  have a2 : i + 2 < L := by omega
  have a3 : i + 3 < L := by omega
  have a4 : i + 4 < L := by omega
  show Q (mj_Rn pg (60 + 1) 0 _)
  simp only [s_0_241, s_0_242, s_0_243, s_0_244, s_0_245, s_0_246, s_0_247, s_0_248, s_0_249, s_0_250, s_0_251, s_0_252, s_0_255, s_0_256, s_0_257, s_0_258, s_0_259, s_0_260, s_0_261, s_0_262, s_0_263, s_0_264, s_0_265, s_0_266, s_0_269, s_0_272, s_0_273, mj_lI_s, mj_lI_0, mj_lA_s, mj_lA_0, mj_sL_s, mj_sL_0, mj_s8_0, mj_s8_1, mj_s8_2, mj_s8_3, mj_bc_n, mj_bc_s, mj_bd_s, u2_eq, u2_a, u2_k, ne_eq, Nat.reduceEqDiff, not_false_eq_true, List.nil_append, List.cons_append, eq_self, true_or, or_true, if_true, if_false, false_or, or_false, not_true_eq_false, Bool.false_eq_true, ie_m1_0, ie_m1_1, ie_m1_2, ie_m1_3, ie_m1_4, ie_m1_5, ie_0_m1, ie_0_1, ie_0_2, ie_0_3, ie_0_4, ie_0_5, ie_1_m1, ie_1_0, ie_1_2, ie_1_3, ie_1_4, ie_1_5, ie_2_m1, ie_2_0, ie_2_1, ie_2_3, ie_2_4, ie_2_5, ie_3_m1, ie_3_0, ie_3_1, ie_3_2, ie_3_4, ie_3_5, ie_4_m1, ie_4_0, ie_4_1, ie_4_2, ie_4_3, ie_4_5, ie_5_m1, ie_5_0, ie_5_1, ie_5_2, ie_5_3, ie_5_4, ct_7, cv_7, ci_7_0, cp_7_0, ci_7_1, cp_7_1, nI_1, n2, n3, n4, xi_0 hn0 h0 a1 (by omega), xi_0 hn0 h0 a2 (by omega), xi_0 hn0 h0 a3 (by omega), xi_0 hn0 h0 a4 (by omega), hx, o1, c1, xi_0 t3 e0 a1 (by omega), xi_0 t3 e0 a2 (by omega), xi_0 t3 e0 a3 (by omega), xi_0 t3 e0 a4 (by omega), ex, mt_91 t2, c2]
  exact q
theorem lw_4 {L i : Nat} {xs : Nat → Int32} {Q : Option mj_R → Prop} (hL : i + 5 ≤ L) (hL9 : L ≤ 2560) (hG : GI n sh x y) (h0 : sh 0 = (100, L)) (hx : ∀ k, x 0 k = xs k)
    (nx : ∀ n' sh' x2 y1, GI n' sh' x2 y1 → sh' 0 = (100, L) → (∀ k, x2 0 k = xs k) → Q (mj_Rn pg 61 0 (18, [some (.inr (some 0)), some (.inr (some 1)), some (.inr (some 91)), some (.inl (nI (i + 5)))], [], bl n' sh' x2 y1))) :
    Q (mj_Rn pg 61 0 (274, [some (.inr (some 0)), some (.inr (some 1)), some (.inr (some 91)), some (.inl (nI i))], [], bl n sh x y)) := by
  obtain ⟨o1, hK, hn0⟩ := hG.tg
  refine lw_arm (b := 0) hL hG h0 hx (op_6 hG (xs (i + 1)) (xs (i + 2)) (xs (i + 3))) (fun n' sh' x1 y1 x2 r c1 c2 t3 t2 e0 ex st q => ?_) nx
  have a1 : i + 1 < L := by omega
  have a2 : i + 2 < L := by omega
  have a3 : i + 3 < L := by omega
  have a4 : i + 4 < L := by omega
  show Q (mj_Rn pg (60 + 1) 0 _)
  simp only [s_0_274, s_0_275, s_0_276, s_0_277, s_0_278, s_0_279, s_0_280, s_0_281, s_0_282, s_0_283, s_0_284, s_0_285, s_0_286, s_0_287, s_0_288, s_0_289, s_0_290, s_0_293, s_0_294, s_0_295, s_0_296, s_0_297, s_0_298, s_0_299, s_0_300, s_0_301, s_0_302, s_0_303, s_0_304, s_0_305, s_0_306, s_0_307, s_0_308, s_0_309, s_0_312, s_0_315, s_0_316, mj_lI_s, mj_lI_0, mj_lA_s, mj_lA_0, mj_sL_s, mj_sL_0, mj_s8_0, mj_s8_1, mj_s8_2, mj_s8_3, mj_bc_n, mj_bc_s, mj_bd_s, u2_eq, u2_a, u2_k, ne_eq, Nat.reduceEqDiff, not_false_eq_true, List.nil_append, List.cons_append, eq_self, true_or, or_true, if_true, if_false, false_or, or_false, not_true_eq_false, Bool.false_eq_true, ie_m1_0, ie_m1_1, ie_m1_2, ie_m1_3, ie_m1_4, ie_m1_5, ie_0_m1, ie_0_1, ie_0_2, ie_0_3, ie_0_4, ie_0_5, ie_1_m1, ie_1_0, ie_1_2, ie_1_3, ie_1_4, ie_1_5, ie_2_m1, ie_2_0, ie_2_1, ie_2_3, ie_2_4, ie_2_5, ie_3_m1, ie_3_0, ie_3_1, ie_3_2, ie_3_4, ie_3_5, ie_4_m1, ie_4_0, ie_4_1, ie_4_2, ie_4_3, ie_4_5, ie_5_m1, ie_5_0, ie_5_1, ie_5_2, ie_5_3, ie_5_4, ct_7, cv_7, ci_7_0, cp_7_0, ci_7_1, cp_7_1, nI_1, n2, n3, n4, xi_0 hn0 h0 a1 (by omega), xi_0 hn0 h0 a2 (by omega), xi_0 hn0 h0 a3 (by omega), xi_0 hn0 h0 a4 (by omega), hx, o1, c1, xi_0 t3 e0 a1 (by omega), xi_0 t3 e0 a2 (by omega), xi_0 t3 e0 a3 (by omega), xi_0 t3 e0 a4 (by omega), ex, mt_91 t2, c2]
  exact q
theorem lw_5 {L i : Nat} {xs : Nat → Int32} {Q : Option mj_R → Prop} (hL : i + 5 ≤ L) (hL9 : L ≤ 2560) (hG : GI n sh x y) (h0 : sh 0 = (100, L)) (hx : ∀ k, x 0 k = xs k)
    (nx : ∀ n' sh' x2 y1, GI n' sh' x2 y1 → sh' 0 = (100, L) → (∀ k, x2 0 k = xs k) → Q (mj_Rn pg 61 0 (18, [some (.inr (some 0)), some (.inr (some 1)), some (.inr (some 91)), some (.inl (nI (i + 5)))], [], bl n' sh' x2 y1))) :
    Q (mj_Rn pg 61 0 (317, [some (.inr (some 0)), some (.inr (some 1)), some (.inr (some 91)), some (.inl (nI i))], [], bl n sh x y)) := by
  obtain ⟨o1, hK, hn0⟩ := hG.tg
  refine lw_arm (b := 0) hL hG h0 hx (op_7 hG (xs (i + 1)) (xs (i + 2)) (xs (i + 3))) (fun n' sh' x1 y1 x2 r c1 c2 t3 t2 e0 ex st q => ?_) nx
  have a1 : i + 1 < L := by omega
  have a2 : i + 2 < L := by omega
  have a3 : i + 3 < L := by omega
  have a4 : i + 4 < L := by omega
  show Q (mj_Rn pg (60 + 1) 0 _)
  simp only [s_0_317, s_0_318, s_0_319, s_0_320, s_0_321, s_0_322, s_0_323, s_0_324, s_0_325, s_0_326, s_0_327, s_0_328, s_0_329, s_0_330, s_0_331, s_0_332, s_0_333, s_0_336, s_0_337, s_0_338, s_0_339, s_0_340, s_0_341, s_0_342, s_0_343, s_0_344, s_0_345, s_0_346, s_0_347, s_0_348, s_0_349, s_0_350, s_0_351, s_0_352, s_0_355, s_0_358, s_0_359, mj_lI_s, mj_lI_0, mj_lA_s, mj_lA_0, mj_sL_s, mj_sL_0, mj_s8_0, mj_s8_1, mj_s8_2, mj_s8_3, mj_bc_n, mj_bc_s, mj_bd_s, u2_eq, u2_a, u2_k, ne_eq, Nat.reduceEqDiff, not_false_eq_true, List.nil_append, List.cons_append, eq_self, true_or, or_true, if_true, if_false, false_or, or_false, not_true_eq_false, Bool.false_eq_true, ie_m1_0, ie_m1_1, ie_m1_2, ie_m1_3, ie_m1_4, ie_m1_5, ie_0_m1, ie_0_1, ie_0_2, ie_0_3, ie_0_4, ie_0_5, ie_1_m1, ie_1_0, ie_1_2, ie_1_3, ie_1_4, ie_1_5, ie_2_m1, ie_2_0, ie_2_1, ie_2_3, ie_2_4, ie_2_5, ie_3_m1, ie_3_0, ie_3_1, ie_3_2, ie_3_4, ie_3_5, ie_4_m1, ie_4_0, ie_4_1, ie_4_2, ie_4_3, ie_4_5, ie_5_m1, ie_5_0, ie_5_1, ie_5_2, ie_5_3, ie_5_4, ct_7, cv_7, ci_7_0, cp_7_0, ci_7_1, cp_7_1, nI_1, n2, n3, n4, xi_0 hn0 h0 a1 (by omega), xi_0 hn0 h0 a2 (by omega), xi_0 hn0 h0 a3 (by omega), xi_0 hn0 h0 a4 (by omega), hx, o1, c1, xi_0 t3 e0 a1 (by omega), xi_0 t3 e0 a2 (by omega), xi_0 t3 e0 a3 (by omega), xi_0 t3 e0 a4 (by omega), ex, mt_91 t2, c2]
  exact q
theorem lw_6 {L i : Nat} {xs : Nat → Int32} {Q : Option mj_R → Prop} (hL : i + 5 ≤ L) (hL9 : L ≤ 2560) (hG : GI n sh x y) (h0 : sh 0 = (100, L)) (hx : ∀ k, x 0 k = xs k)
    (nx : ∀ n' sh' x2 y1, GI n' sh' x2 y1 → sh' 0 = (100, L) → (∀ k, x2 0 k = xs k) → Q (mj_Rn pg 61 0 (18, [some (.inr (some 0)), some (.inr (some 1)), some (.inr (some 91)), some (.inl (nI (i + 5)))], [], bl n' sh' x2 y1))) :
    Q (mj_Rn pg 61 0 (360, [some (.inr (some 0)), some (.inr (some 1)), some (.inr (some 91)), some (.inl (nI i))], [], bl n sh x y)) := by
  obtain ⟨o1, hK, hn0⟩ := hG.tg
  refine lw_arm (b := 0) hL hG h0 hx (op_8 hG (xs (i + 1))) (fun n' sh' x1 y1 x2 r c1 c2 t3 t2 e0 ex st q => ?_) nx
  have a1 : i + 1 < L := by omega
  have a2 : i + 2 < L := by omega
  have a3 : i + 3 < L := by omega
  have a4 : i + 4 < L := by omega
  show Q (mj_Rn pg (60 + 1) 0 _)
  simp only [s_0_360, s_0_361, s_0_362, s_0_363, s_0_364, s_0_365, s_0_366, s_0_369, s_0_370, s_0_371, s_0_372, s_0_373, s_0_374, s_0_375, s_0_378, s_0_381, s_0_382, mj_lI_s, mj_lI_0, mj_lA_s, mj_lA_0, mj_sL_s, mj_sL_0, mj_s8_0, mj_s8_1, mj_s8_2, mj_s8_3, mj_bc_n, mj_bc_s, mj_bd_s, u2_eq, u2_a, u2_k, ne_eq, Nat.reduceEqDiff, not_false_eq_true, List.nil_append, List.cons_append, eq_self, true_or, or_true, if_true, if_false, false_or, or_false, not_true_eq_false, Bool.false_eq_true, ie_m1_0, ie_m1_1, ie_m1_2, ie_m1_3, ie_m1_4, ie_m1_5, ie_0_m1, ie_0_1, ie_0_2, ie_0_3, ie_0_4, ie_0_5, ie_1_m1, ie_1_0, ie_1_2, ie_1_3, ie_1_4, ie_1_5, ie_2_m1, ie_2_0, ie_2_1, ie_2_3, ie_2_4, ie_2_5, ie_3_m1, ie_3_0, ie_3_1, ie_3_2, ie_3_4, ie_3_5, ie_4_m1, ie_4_0, ie_4_1, ie_4_2, ie_4_3, ie_4_5, ie_5_m1, ie_5_0, ie_5_1, ie_5_2, ie_5_3, ie_5_4, ct_7, cv_7, ci_7_0, cp_7_0, ci_7_1, cp_7_1, nI_1, n2, n3, n4, xi_0 hn0 h0 a1 (by omega), xi_0 hn0 h0 a2 (by omega), xi_0 hn0 h0 a3 (by omega), xi_0 hn0 h0 a4 (by omega), hx, o1, c1, xi_0 t3 e0 a1 (by omega), xi_0 t3 e0 a2 (by omega), xi_0 t3 e0 a3 (by omega), xi_0 t3 e0 a4 (by omega), ex, mt_91 t2, c2]
  exact q
theorem lw_7 {L i : Nat} {xs : Nat → Int32} {Q : Option mj_R → Prop} (hL : i + 5 ≤ L) (hL9 : L ≤ 2560) (hG : GI n sh x y) (h0 : sh 0 = (100, L)) (hx : ∀ k, x 0 k = xs k)
    (nx : ∀ n' sh' x2 y1, GI n' sh' x2 y1 → sh' 0 = (100, L) → (∀ k, x2 0 k = xs k) → Q (mj_Rn pg 61 0 (18, [some (.inr (some 0)), some (.inr (some 1)), some (.inr (some 91)), some (.inl (nI (i + 5)))], [], bl n' sh' x2 y1))) :
    Q (mj_Rn pg 61 0 (383, [some (.inr (some 0)), some (.inr (some 1)), some (.inr (some 91)), some (.inl (nI i))], [], bl n sh x y)) := by
  obtain ⟨o1, hK, hn0⟩ := hG.tg
  refine lw_arm (b := 0) hL hG h0 hx (op_9 hG ) (fun n' sh' x1 y1 x2 r c1 c2 t3 t2 e0 ex st q => ?_) nx
  have a1 : i + 1 < L := by omega
  have a2 : i + 2 < L := by omega
  have a3 : i + 3 < L := by omega
  have a4 : i + 4 < L := by omega
  show Q (mj_Rn pg (60 + 1) 0 _)
  simp only [s_0_383, s_0_384, s_0_387, s_0_388, s_0_391, s_0_394, s_0_395, mj_lI_s, mj_lI_0, mj_lA_s, mj_lA_0, mj_sL_s, mj_sL_0, mj_s8_0, mj_s8_1, mj_s8_2, mj_s8_3, mj_bc_n, mj_bc_s, mj_bd_s, u2_eq, u2_a, u2_k, ne_eq, Nat.reduceEqDiff, not_false_eq_true, List.nil_append, List.cons_append, eq_self, true_or, or_true, if_true, if_false, false_or, or_false, not_true_eq_false, Bool.false_eq_true, ie_m1_0, ie_m1_1, ie_m1_2, ie_m1_3, ie_m1_4, ie_m1_5, ie_0_m1, ie_0_1, ie_0_2, ie_0_3, ie_0_4, ie_0_5, ie_1_m1, ie_1_0, ie_1_2, ie_1_3, ie_1_4, ie_1_5, ie_2_m1, ie_2_0, ie_2_1, ie_2_3, ie_2_4, ie_2_5, ie_3_m1, ie_3_0, ie_3_1, ie_3_2, ie_3_4, ie_3_5, ie_4_m1, ie_4_0, ie_4_1, ie_4_2, ie_4_3, ie_4_5, ie_5_m1, ie_5_0, ie_5_1, ie_5_2, ie_5_3, ie_5_4, ct_7, cv_7, ci_7_0, cp_7_0, ci_7_1, cp_7_1, nI_1, n2, n3, n4, xi_0 hn0 h0 a1 (by omega), xi_0 hn0 h0 a2 (by omega), xi_0 hn0 h0 a3 (by omega), xi_0 hn0 h0 a4 (by omega), hx, o1, c1, xi_0 t3 e0 a1 (by omega), xi_0 t3 e0 a2 (by omega), xi_0 t3 e0 a3 (by omega), xi_0 t3 e0 a4 (by omega), ex, mt_91 t2, c2]
  exact q
theorem lw_8 {L i : Nat} {xs : Nat → Int32} {Q : Option mj_R → Prop} (hL : i + 5 ≤ L) (hL9 : L ≤ 2560) (hG : GI n sh x y) (h0 : sh 0 = (100, L)) (hx : ∀ k, x 0 k = xs k)
    (nx : ∀ n' sh' x2 y1, GI n' sh' x2 y1 → sh' 0 = (100, L) → (∀ k, x2 0 k = xs k) → Q (mj_Rn pg 61 0 (18, [some (.inr (some 0)), some (.inr (some 1)), some (.inr (some 91)), some (.inl (nI (i + 5)))], [], bl n' sh' x2 y1))) :
    Q (mj_Rn pg 61 0 (396, [some (.inr (some 0)), some (.inr (some 1)), some (.inr (some 91)), some (.inl (nI i))], [], bl n sh x y)) := by
  obtain ⟨o1, hK, hn0⟩ := hG.tg
  refine lw_arm (b := 0) hL hG h0 hx (op_10 hG (xs (i + 1)) (xs (i + 2))) (fun n' sh' x1 y1 x2 r c1 c2 t3 t2 e0 ex st q => ?_) nx
  have a1 : i + 1 < L := by omega
  have a2 : i + 2 < L := by omega
  have a3 : i + 3 < L := by omega
  have a4 : i + 4 < L := by omega
  show Q (mj_Rn pg (60 + 1) 0 _)
  simp only [s_0_396, s_0_397, s_0_398, s_0_399, s_0_400, s_0_401, s_0_402, s_0_403, s_0_404, s_0_405, s_0_406, s_0_407, s_0_410, s_0_411, s_0_412, s_0_413, s_0_414, s_0_415, s_0_416, s_0_417, s_0_418, s_0_419, s_0_420, s_0_421, s_0_424, s_0_427, s_0_428, mj_lI_s, mj_lI_0, mj_lA_s, mj_lA_0, mj_sL_s, mj_sL_0, mj_s8_0, mj_s8_1, mj_s8_2, mj_s8_3, mj_bc_n, mj_bc_s, mj_bd_s, u2_eq, u2_a, u2_k, ne_eq, Nat.reduceEqDiff, not_false_eq_true, List.nil_append, List.cons_append, eq_self, true_or, or_true, if_true, if_false, false_or, or_false, not_true_eq_false, Bool.false_eq_true, ie_m1_0, ie_m1_1, ie_m1_2, ie_m1_3, ie_m1_4, ie_m1_5, ie_0_m1, ie_0_1, ie_0_2, ie_0_3, ie_0_4, ie_0_5, ie_1_m1, ie_1_0, ie_1_2, ie_1_3, ie_1_4, ie_1_5, ie_2_m1, ie_2_0, ie_2_1, ie_2_3, ie_2_4, ie_2_5, ie_3_m1, ie_3_0, ie_3_1, ie_3_2, ie_3_4, ie_3_5, ie_4_m1, ie_4_0, ie_4_1, ie_4_2, ie_4_3, ie_4_5, ie_5_m1, ie_5_0, ie_5_1, ie_5_2, ie_5_3, ie_5_4, ct_7, cv_7, ci_7_0, cp_7_0, ci_7_1, cp_7_1, nI_1, n2, n3, n4, xi_0 hn0 h0 a1 (by omega), xi_0 hn0 h0 a2 (by omega), xi_0 hn0 h0 a3 (by omega), xi_0 hn0 h0 a4 (by omega), hx, o1, c1, xi_0 t3 e0 a1 (by omega), xi_0 t3 e0 a2 (by omega), xi_0 t3 e0 a3 (by omega), xi_0 t3 e0 a4 (by omega), ex, mt_91 t2, c2]
  exact q
theorem lw_9 {L i : Nat} {xs : Nat → Int32} {Q : Option mj_R → Prop} (hL : i + 5 ≤ L) (hL9 : L ≤ 2560) (hG : GI n sh x y) (h0 : sh 0 = (100, L)) (hx : ∀ k, x 0 k = xs k)
    (nx : ∀ n' sh' x2 y1, GI n' sh' x2 y1 → sh' 0 = (100, L) → (∀ k, x2 0 k = xs k) → Q (mj_Rn pg 61 0 (18, [some (.inr (some 0)), some (.inr (some 1)), some (.inr (some 91)), some (.inl (nI (i + 5)))], [], bl n' sh' x2 y1))) :
    Q (mj_Rn pg 61 0 (429, [some (.inr (some 0)), some (.inr (some 1)), some (.inr (some 91)), some (.inl (nI i))], [], bl n sh x y)) := by
  obtain ⟨o1, hK, hn0⟩ := hG.tg
  refine lw_arm (b := 0) hL hG h0 hx (op_11 hG (xs (i + 1)) (xs (i + 2))) (fun n' sh' x1 y1 x2 r c1 c2 t3 t2 e0 ex st q => ?_) nx
  have a1 : i + 1 < L := by omega
  have a2 : i + 2 < L := by omega
  have a3 : i + 3 < L := by omega
  have a4 : i + 4 < L := by omega
  show Q (mj_Rn pg (60 + 1) 0 _)
  simp only [s_0_429, s_0_430, s_0_431, s_0_432, s_0_433, s_0_434, s_0_435, s_0_436, s_0_437, s_0_438, s_0_439, s_0_440, s_0_443, s_0_444, s_0_445, s_0_446, s_0_447, s_0_448, s_0_449, s_0_450, s_0_451, s_0_452, s_0_453, s_0_454, s_0_457, s_0_460, s_0_461, mj_lI_s, mj_lI_0, mj_lA_s, mj_lA_0, mj_sL_s, mj_sL_0, mj_s8_0, mj_s8_1, mj_s8_2, mj_s8_3, mj_bc_n, mj_bc_s, mj_bd_s, u2_eq, u2_a, u2_k, ne_eq, Nat.reduceEqDiff, not_false_eq_true, List.nil_append, List.cons_append, eq_self, true_or, or_true, if_true, if_false, false_or, or_false, not_true_eq_false, Bool.false_eq_true, ie_m1_0, ie_m1_1, ie_m1_2, ie_m1_3, ie_m1_4, ie_m1_5, ie_0_m1, ie_0_1, ie_0_2, ie_0_3, ie_0_4, ie_0_5, ie_1_m1, ie_1_0, ie_1_2, ie_1_3, ie_1_4, ie_1_5, ie_2_m1, ie_2_0, ie_2_1, ie_2_3, ie_2_4, ie_2_5, ie_3_m1, ie_3_0, ie_3_1, ie_3_2, ie_3_4, ie_3_5, ie_4_m1, ie_4_0, ie_4_1, ie_4_2, ie_4_3, ie_4_5, ie_5_m1, ie_5_0, ie_5_1, ie_5_2, ie_5_3, ie_5_4, ct_7, cv_7, ci_7_0, cp_7_0, ci_7_1, cp_7_1, nI_1, n2, n3, n4, xi_0 hn0 h0 a1 (by omega), xi_0 hn0 h0 a2 (by omega), xi_0 hn0 h0 a3 (by omega), xi_0 hn0 h0 a4 (by omega), hx, o1, c1, xi_0 t3 e0 a1 (by omega), xi_0 t3 e0 a2 (by omega), xi_0 t3 e0 a3 (by omega), xi_0 t3 e0 a4 (by omega), ex, mt_91 t2, c2]
  exact q
theorem lw_10 {L i : Nat} {xs : Nat → Int32} {Q : Option mj_R → Prop} (hL : i + 5 ≤ L) (hL9 : L ≤ 2560) (hG : GI n sh x y) (h0 : sh 0 = (100, L)) (hx : ∀ k, x 0 k = xs k)
    (nx : ∀ n' sh' x2 y1, GI n' sh' x2 y1 → sh' 0 = (100, L) → (∀ k, x2 0 k = xs k) → Q (mj_Rn pg 61 0 (18, [some (.inr (some 0)), some (.inr (some 1)), some (.inr (some 91)), some (.inl (nI (i + 5)))], [], bl n' sh' x2 y1))) :
    Q (mj_Rn pg 61 0 (462, [some (.inr (some 0)), some (.inr (some 1)), some (.inr (some 91)), some (.inl (nI i))], [], bl n sh x y)) := by
  obtain ⟨o1, hK, hn0⟩ := hG.tg
  refine lw_arm (b := 0) hL hG h0 hx (op_12 hG (xs (i + 1)) (xs (i + 2))) (fun n' sh' x1 y1 x2 r c1 c2 t3 t2 e0 ex st q => ?_) nx
  have a1 : i + 1 < L := by omega
  have a2 : i + 2 < L := by omega
  have a3 : i + 3 < L := by omega
  have a4 : i + 4 < L := by omega
  show Q (mj_Rn pg (60 + 1) 0 _)
  simp only [s_0_462, s_0_463, s_0_464, s_0_465, s_0_466, s_0_467, s_0_468, s_0_469, s_0_470, s_0_471, s_0_472, s_0_473, s_0_476, s_0_477, s_0_478, s_0_479, s_0_480, s_0_481, s_0_482, s_0_483, s_0_484, s_0_485, s_0_486, s_0_487, s_0_490, s_0_493, s_0_494, mj_lI_s, mj_lI_0, mj_lA_s, mj_lA_0, mj_sL_s, mj_sL_0, mj_s8_0, mj_s8_1, mj_s8_2, mj_s8_3, mj_bc_n, mj_bc_s, mj_bd_s, u2_eq, u2_a, u2_k, ne_eq, Nat.reduceEqDiff, not_false_eq_true, List.nil_append, List.cons_append, eq_self, true_or, or_true, if_true, if_false, false_or, or_false, not_true_eq_false, Bool.false_eq_true, ie_m1_0, ie_m1_1, ie_m1_2, ie_m1_3, ie_m1_4, ie_m1_5, ie_0_m1, ie_0_1, ie_0_2, ie_0_3, ie_0_4, ie_0_5, ie_1_m1, ie_1_0, ie_1_2, ie_1_3, ie_1_4, ie_1_5, ie_2_m1, ie_2_0, ie_2_1, ie_2_3, ie_2_4, ie_2_5, ie_3_m1, ie_3_0, ie_3_1, ie_3_2, ie_3_4, ie_3_5, ie_4_m1, ie_4_0, ie_4_1, ie_4_2, ie_4_3, ie_4_5, ie_5_m1, ie_5_0, ie_5_1, ie_5_2, ie_5_3, ie_5_4, ct_7, cv_7, ci_7_0, cp_7_0, ci_7_1, cp_7_1, nI_1, n2, n3, n4, xi_0 hn0 h0 a1 (by omega), xi_0 hn0 h0 a2 (by omega), xi_0 hn0 h0 a3 (by omega), xi_0 hn0 h0 a4 (by omega), hx, o1, c1, xi_0 t3 e0 a1 (by omega), xi_0 t3 e0 a2 (by omega), xi_0 t3 e0 a3 (by omega), xi_0 t3 e0 a4 (by omega), ex, mt_91 t2, c2]
  exact q
theorem lw_11 {L i : Nat} {xs : Nat → Int32} {Q : Option mj_R → Prop} (hL : i + 5 ≤ L) (hL9 : L ≤ 2560) (hG : GI n sh x y) (h0 : sh 0 = (100, L)) (hx : ∀ k, x 0 k = xs k)
    (nx : ∀ n' sh' x2 y1, GI n' sh' x2 y1 → sh' 0 = (100, L) → (∀ k, x2 0 k = xs k) → Q (mj_Rn pg 61 0 (18, [some (.inr (some 0)), some (.inr (some 1)), some (.inr (some 91)), some (.inl (nI (i + 5)))], [], bl n' sh' x2 y1))) :
    Q (mj_Rn pg 61 0 (495, [some (.inr (some 0)), some (.inr (some 1)), some (.inr (some 91)), some (.inl (nI i))], [], bl n sh x y)) := by
  obtain ⟨o1, hK, hn0⟩ := hG.tg
  refine lw_arm (b := 0) hL hG h0 hx (op_13 hG (xs (i + 1)) (xs (i + 2))) (fun n' sh' x1 y1 x2 r c1 c2 t3 t2 e0 ex st q => ?_) nx
  have a1 : i + 1 < L := by omega
  have a2 : i + 2 < L := by omega
  have a3 : i + 3 < L := by omega
  have a4 : i + 4 < L := by omega
  show Q (mj_Rn pg (60 + 1) 0 _)
  simp only [s_0_495, s_0_496, s_0_497, s_0_498, s_0_499, s_0_500, s_0_501, s_0_502, s_0_503, s_0_504, s_0_505, s_0_506, s_0_509, s_0_510, s_0_511, s_0_512, s_0_513, s_0_514, s_0_515, s_0_516, s_0_517, s_0_518, s_0_519, s_0_520, s_0_523, s_0_526, s_0_527, mj_lI_s, mj_lI_0, mj_lA_s, mj_lA_0, mj_sL_s, mj_sL_0, mj_s8_0, mj_s8_1, mj_s8_2, mj_s8_3, mj_bc_n, mj_bc_s, mj_bd_s, u2_eq, u2_a, u2_k, ne_eq, Nat.reduceEqDiff, not_false_eq_true, List.nil_append, List.cons_append, eq_self, true_or, or_true, if_true, if_false, false_or, or_false, not_true_eq_false, Bool.false_eq_true, ie_m1_0, ie_m1_1, ie_m1_2, ie_m1_3, ie_m1_4, ie_m1_5, ie_0_m1, ie_0_1, ie_0_2, ie_0_3, ie_0_4, ie_0_5, ie_1_m1, ie_1_0, ie_1_2, ie_1_3, ie_1_4, ie_1_5, ie_2_m1, ie_2_0, ie_2_1, ie_2_3, ie_2_4, ie_2_5, ie_3_m1, ie_3_0, ie_3_1, ie_3_2, ie_3_4, ie_3_5, ie_4_m1, ie_4_0, ie_4_1, ie_4_2, ie_4_3, ie_4_5, ie_5_m1, ie_5_0, ie_5_1, ie_5_2, ie_5_3, ie_5_4, ct_7, cv_7, ci_7_0, cp_7_0, ci_7_1, cp_7_1, nI_1, n2, n3, n4, xi_0 hn0 h0 a1 (by omega), xi_0 hn0 h0 a2 (by omega), xi_0 hn0 h0 a3 (by omega), xi_0 hn0 h0 a4 (by omega), hx, o1, c1, xi_0 t3 e0 a1 (by omega), xi_0 t3 e0 a2 (by omega), xi_0 t3 e0 a3 (by omega), xi_0 t3 e0 a4 (by omega), ex, mt_91 t2, c2]
  exact q
theorem lw_12 {L i : Nat} {xs : Nat → Int32} {Q : Option mj_R → Prop} (hL : i + 5 ≤ L) (hL9 : L ≤ 2560) (hG : GI n sh x y) (h0 : sh 0 = (100, L)) (hx : ∀ k, x 0 k = xs k)
    (nx : ∀ n' sh' x2 y1, GI n' sh' x2 y1 → sh' 0 = (100, L) → (∀ k, x2 0 k = xs k) → Q (mj_Rn pg 61 0 (18, [some (.inr (some 0)), some (.inr (some 1)), some (.inr (some 91)), some (.inl (nI (i + 5)))], [], bl n' sh' x2 y1))) :
    Q (mj_Rn pg 61 0 (528, [some (.inr (some 0)), some (.inr (some 1)), some (.inr (some 91)), some (.inl (nI i))], [], bl n sh x y)) := by
  obtain ⟨o1, hK, hn0⟩ := hG.tg
  refine lw_arm (b := 0) hL hG h0 hx (op_14 hG (xs (i + 1))) (fun n' sh' x1 y1 x2 r c1 c2 t3 t2 e0 ex st q => ?_) nx
  have a1 : i + 1 < L := by omega
  have a2 : i + 2 < L := by omega
  have a3 : i + 3 < L := by omega
  have a4 : i + 4 < L := by omega
  show Q (mj_Rn pg (60 + 1) 0 _)
  simp only [s_0_528, s_0_529, s_0_530, s_0_531, s_0_532, s_0_533, s_0_534, s_0_537, s_0_538, s_0_539, s_0_540, s_0_541, s_0_542, s_0_543, s_0_546, s_0_549, s_0_550, mj_lI_s, mj_lI_0, mj_lA_s, mj_lA_0, mj_sL_s, mj_sL_0, mj_s8_0, mj_s8_1, mj_s8_2, mj_s8_3, mj_bc_n, mj_bc_s, mj_bd_s, u2_eq, u2_a, u2_k, ne_eq, Nat.reduceEqDiff, not_false_eq_true, List.nil_append, List.cons_append, eq_self, true_or, or_true, if_true, if_false, false_or, or_false, not_true_eq_false, Bool.false_eq_true, ie_m1_0, ie_m1_1, ie_m1_2, ie_m1_3, ie_m1_4, ie_m1_5, ie_0_m1, ie_0_1, ie_0_2, ie_0_3, ie_0_4, ie_0_5, ie_1_m1, ie_1_0, ie_1_2, ie_1_3, ie_1_4, ie_1_5, ie_2_m1, ie_2_0, ie_2_1, ie_2_3, ie_2_4, ie_2_5, ie_3_m1, ie_3_0, ie_3_1, ie_3_2, ie_3_4, ie_3_5, ie_4_m1, ie_4_0, ie_4_1, ie_4_2, ie_4_3, ie_4_5, ie_5_m1, ie_5_0, ie_5_1, ie_5_2, ie_5_3, ie_5_4, ct_7, cv_7, ci_7_0, cp_7_0, ci_7_1, cp_7_1, nI_1, n2, n3, n4, xi_0 hn0 h0 a1 (by omega), xi_0 hn0 h0 a2 (by omega), xi_0 hn0 h0 a3 (by omega), xi_0 hn0 h0 a4 (by omega), hx, o1, c1, xi_0 t3 e0 a1 (by omega), xi_0 t3 e0 a2 (by omega), xi_0 t3 e0 a3 (by omega), xi_0 t3 e0 a4 (by omega), ex, mt_91 t2, c2]
  exact q
theorem lw_0 {L i : Nat} {xs : Nat → Int32} {Q : Option mj_R → Prop} (hL : i + 5 ≤ L) (hL9 : L ≤ 2560) (hG : GI n sh x y) (h0 : sh 0 = (100, L)) (hx : ∀ k, x 0 k = xs k)
    (nx : ∀ n' sh' x2 y1, GI n' sh' x2 y1 → sh' 0 = (100, L) → (∀ k, x2 0 k = xs k) → Q (mj_Rn pg 61 0 (18, [some (.inr (some 0)), some (.inr (some 1)), some (.inr (some 91)), some (.inl (nI (i + 5)))], [], bl n' sh' x2 y1))) :
    Q (mj_Rn pg 61 0 (100, [some (.inr (some 0)), some (.inr (some 1)), some (.inr (some 91)), some (.inl (nI i))], [], bl n sh x y)) := by
  obtain ⟨o1, hK, hn0⟩ := hG.tg
  have b01 : ∀ v : Int32, (if v = 0 then (0 : Int32) else 1) = 0 ∨ (if v = 0 then (0 : Int32) else 1) = 1 := fun v => by
    by_cases c : v = 0
    · rw [if_pos c]; exact Or.inl rfl
    · rw [if_neg c]; exact Or.inr rfl
  refine lw_arm (b := 0) hL hG h0 hx (op_2 hG (xs (i + 1)) (xs (i + 2)) (if xs (i + 3) = 0 then 0 else 1) (if xs (i + 4) = 0 then 0 else 1) (b01 _) (b01 _)) (fun n' sh' x1 y1 x2 r c1 c2 t3 t2 e0 ex st q => ?_) nx
  have a1 : i + 1 < L := by omega
  have a2 : i + 2 < L := by omega
  have a3 : i + 3 < L := by omega
  have a4 : i + 4 < L := by omega
  show Q (mj_Rn pg (60 + 1) 0 _)
  by_cases z3 : xs (i + 3) = 0
  · by_cases z4 : xs (i + 4) = 0
    · simp only [if_pos z3, if_pos z4] at c1 c2
      simp only [s_0_100, s_0_101, s_0_102, s_0_103, s_0_104, s_0_105, s_0_106, s_0_107, s_0_108, s_0_109, s_0_110, s_0_111, s_0_112, s_0_113, s_0_114, s_0_115, s_0_116, s_0_119, s_0_120, s_0_123, s_0_124, s_0_125, s_0_126, s_0_127, s_0_128, s_0_129, s_0_132, s_0_133, s_0_136, s_0_137, s_0_140, s_0_141, s_0_142, s_0_143, s_0_144, s_0_145, s_0_146, s_0_147, s_0_148, s_0_149, s_0_150, s_0_151, s_0_152, s_0_153, s_0_154, s_0_155, s_0_156, s_0_159, s_0_160, s_0_163, s_0_164, s_0_165, s_0_166, s_0_167, s_0_168, s_0_169, s_0_172, s_0_173, s_0_176, s_0_177, s_0_180, s_0_183, s_0_184, mj_lI_s, mj_lI_0, mj_lA_s, mj_lA_0, mj_sL_s, mj_sL_0, mj_s8_0, mj_s8_1, mj_s8_2, mj_s8_3, mj_bc_n, mj_bc_s, mj_bd_s, u2_eq, u2_a, u2_k, ne_eq, Nat.reduceEqDiff, not_false_eq_true, List.nil_append, List.cons_append, eq_self, true_or, or_true, if_true, if_false, false_or, or_false, not_true_eq_false, Bool.false_eq_true, ie_m1_0, ie_m1_1, ie_m1_2, ie_m1_3, ie_m1_4, ie_m1_5, ie_0_m1, ie_0_1, ie_0_2, ie_0_3, ie_0_4, ie_0_5, ie_1_m1, ie_1_0, ie_1_2, ie_1_3, ie_1_4, ie_1_5, ie_2_m1, ie_2_0, ie_2_1, ie_2_3, ie_2_4, ie_2_5, ie_3_m1, ie_3_0, ie_3_1, ie_3_2, ie_3_4, ie_3_5, ie_4_m1, ie_4_0, ie_4_1, ie_4_2, ie_4_3, ie_4_5, ie_5_m1, ie_5_0, ie_5_1, ie_5_2, ie_5_3, ie_5_4, ct_7, cv_7, ci_7_0, cp_7_0, ci_7_1, cp_7_1, nI_1, n2, n3, n4, xi_0 hn0 h0 a1 (by omega), xi_0 hn0 h0 a2 (by omega), xi_0 hn0 h0 a3 (by omega), xi_0 hn0 h0 a4 (by omega), hx, o1, z3, z4, c1, xi_0 t3 e0 a1 (by omega), xi_0 t3 e0 a2 (by omega), xi_0 t3 e0 a3 (by omega), xi_0 t3 e0 a4 (by omega), ex, mt_91 t2, c2]
      exact q
    · simp only [if_pos z3, if_neg z4] at c1 c2
      simp only [s_0_100, s_0_101, s_0_102, s_0_103, s_0_104, s_0_105, s_0_106, s_0_107, s_0_108, s_0_109, s_0_110, s_0_111, s_0_112, s_0_113, s_0_114, s_0_115, s_0_116, s_0_119, s_0_120, s_0_123, s_0_124, s_0_125, s_0_126, s_0_127, s_0_128, s_0_129, s_0_132, s_0_133, s_0_136, s_0_137, s_0_140, s_0_141, s_0_142, s_0_143, s_0_144, s_0_145, s_0_146, s_0_147, s_0_148, s_0_149, s_0_150, s_0_151, s_0_152, s_0_153, s_0_154, s_0_155, s_0_156, s_0_159, s_0_160, s_0_163, s_0_164, s_0_165, s_0_166, s_0_167, s_0_168, s_0_169, s_0_172, s_0_173, s_0_176, s_0_177, s_0_180, s_0_183, s_0_184, mj_lI_s, mj_lI_0, mj_lA_s, mj_lA_0, mj_sL_s, mj_sL_0, mj_s8_0, mj_s8_1, mj_s8_2, mj_s8_3, mj_bc_n, mj_bc_s, mj_bd_s, u2_eq, u2_a, u2_k, ne_eq, Nat.reduceEqDiff, not_false_eq_true, List.nil_append, List.cons_append, eq_self, true_or, or_true, if_true, if_false, false_or, or_false, not_true_eq_false, Bool.false_eq_true, ie_m1_0, ie_m1_1, ie_m1_2, ie_m1_3, ie_m1_4, ie_m1_5, ie_0_m1, ie_0_1, ie_0_2, ie_0_3, ie_0_4, ie_0_5, ie_1_m1, ie_1_0, ie_1_2, ie_1_3, ie_1_4, ie_1_5, ie_2_m1, ie_2_0, ie_2_1, ie_2_3, ie_2_4, ie_2_5, ie_3_m1, ie_3_0, ie_3_1, ie_3_2, ie_3_4, ie_3_5, ie_4_m1, ie_4_0, ie_4_1, ie_4_2, ie_4_3, ie_4_5, ie_5_m1, ie_5_0, ie_5_1, ie_5_2, ie_5_3, ie_5_4, ct_7, cv_7, ci_7_0, cp_7_0, ci_7_1, cp_7_1, nI_1, n2, n3, n4, xi_0 hn0 h0 a1 (by omega), xi_0 hn0 h0 a2 (by omega), xi_0 hn0 h0 a3 (by omega), xi_0 hn0 h0 a4 (by omega), hx, o1, z3, z4, c1, xi_0 t3 e0 a1 (by omega), xi_0 t3 e0 a2 (by omega), xi_0 t3 e0 a3 (by omega), xi_0 t3 e0 a4 (by omega), ex, mt_91 t2, c2]
      exact q
  · by_cases z4 : xs (i + 4) = 0
    · simp only [if_neg z3, if_pos z4] at c1 c2
      simp only [s_0_100, s_0_101, s_0_102, s_0_103, s_0_104, s_0_105, s_0_106, s_0_107, s_0_108, s_0_109, s_0_110, s_0_111, s_0_112, s_0_113, s_0_114, s_0_115, s_0_116, s_0_119, s_0_120, s_0_123, s_0_124, s_0_125, s_0_126, s_0_127, s_0_128, s_0_129, s_0_132, s_0_133, s_0_136, s_0_137, s_0_140, s_0_141, s_0_142, s_0_143, s_0_144, s_0_145, s_0_146, s_0_147, s_0_148, s_0_149, s_0_150, s_0_151, s_0_152, s_0_153, s_0_154, s_0_155, s_0_156, s_0_159, s_0_160, s_0_163, s_0_164, s_0_165, s_0_166, s_0_167, s_0_168, s_0_169, s_0_172, s_0_173, s_0_176, s_0_177, s_0_180, s_0_183, s_0_184, mj_lI_s, mj_lI_0, mj_lA_s, mj_lA_0, mj_sL_s, mj_sL_0, mj_s8_0, mj_s8_1, mj_s8_2, mj_s8_3, mj_bc_n, mj_bc_s, mj_bd_s, u2_eq, u2_a, u2_k, ne_eq, Nat.reduceEqDiff, not_false_eq_true, List.nil_append, List.cons_append, eq_self, true_or, or_true, if_true, if_false, false_or, or_false, not_true_eq_false, Bool.false_eq_true, ie_m1_0, ie_m1_1, ie_m1_2, ie_m1_3, ie_m1_4, ie_m1_5, ie_0_m1, ie_0_1, ie_0_2, ie_0_3, ie_0_4, ie_0_5, ie_1_m1, ie_1_0, ie_1_2, ie_1_3, ie_1_4, ie_1_5, ie_2_m1, ie_2_0, ie_2_1, ie_2_3, ie_2_4, ie_2_5, ie_3_m1, ie_3_0, ie_3_1, ie_3_2, ie_3_4, ie_3_5, ie_4_m1, ie_4_0, ie_4_1, ie_4_2, ie_4_3, ie_4_5, ie_5_m1, ie_5_0, ie_5_1, ie_5_2, ie_5_3, ie_5_4, ct_7, cv_7, ci_7_0, cp_7_0, ci_7_1, cp_7_1, nI_1, n2, n3, n4, xi_0 hn0 h0 a1 (by omega), xi_0 hn0 h0 a2 (by omega), xi_0 hn0 h0 a3 (by omega), xi_0 hn0 h0 a4 (by omega), hx, o1, z3, z4, c1, xi_0 t3 e0 a1 (by omega), xi_0 t3 e0 a2 (by omega), xi_0 t3 e0 a3 (by omega), xi_0 t3 e0 a4 (by omega), ex, mt_91 t2, c2]
      exact q
    · simp only [if_neg z3, if_neg z4] at c1 c2
      simp only [s_0_100, s_0_101, s_0_102, s_0_103, s_0_104, s_0_105, s_0_106, s_0_107, s_0_108, s_0_109, s_0_110, s_0_111, s_0_112, s_0_113, s_0_114, s_0_115, s_0_116, s_0_119, s_0_120, s_0_123, s_0_124, s_0_125, s_0_126, s_0_127, s_0_128, s_0_129, s_0_132, s_0_133, s_0_136, s_0_137, s_0_140, s_0_141, s_0_142, s_0_143, s_0_144, s_0_145, s_0_146, s_0_147, s_0_148, s_0_149, s_0_150, s_0_151, s_0_152, s_0_153, s_0_154, s_0_155, s_0_156, s_0_159, s_0_160, s_0_163, s_0_164, s_0_165, s_0_166, s_0_167, s_0_168, s_0_169, s_0_172, s_0_173, s_0_176, s_0_177, s_0_180, s_0_183, s_0_184, mj_lI_s, mj_lI_0, mj_lA_s, mj_lA_0, mj_sL_s, mj_sL_0, mj_s8_0, mj_s8_1, mj_s8_2, mj_s8_3, mj_bc_n, mj_bc_s, mj_bd_s, u2_eq, u2_a, u2_k, ne_eq, Nat.reduceEqDiff, not_false_eq_true, List.nil_append, List.cons_append, eq_self, true_or, or_true, if_true, if_false, false_or, or_false, not_true_eq_false, Bool.false_eq_true, ie_m1_0, ie_m1_1, ie_m1_2, ie_m1_3, ie_m1_4, ie_m1_5, ie_0_m1, ie_0_1, ie_0_2, ie_0_3, ie_0_4, ie_0_5, ie_1_m1, ie_1_0, ie_1_2, ie_1_3, ie_1_4, ie_1_5, ie_2_m1, ie_2_0, ie_2_1, ie_2_3, ie_2_4, ie_2_5, ie_3_m1, ie_3_0, ie_3_1, ie_3_2, ie_3_4, ie_3_5, ie_4_m1, ie_4_0, ie_4_1, ie_4_2, ie_4_3, ie_4_5, ie_5_m1, ie_5_0, ie_5_1, ie_5_2, ie_5_3, ie_5_4, ct_7, cv_7, ci_7_0, cp_7_0, ci_7_1, cp_7_1, nI_1, n2, n3, n4, xi_0 hn0 h0 a1 (by omega), xi_0 hn0 h0 a2 (by omega), xi_0 hn0 h0 a3 (by omega), xi_0 hn0 h0 a4 (by omega), hx, o1, z3, z4, c1, xi_0 t3 e0 a1 (by omega), xi_0 t3 e0 a2 (by omega), xi_0 t3 e0 a3 (by omega), xi_0 t3 e0 a4 (by omega), ex, mt_91 t2, c2]
      exact q
end LW
