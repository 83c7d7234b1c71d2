/-! a try of a case: the reference -/
def cs0 (sc : Nat → Int32) (f : Nat) : Bool := decide (sc f = 0)
/-- a try: what was lacking, how it went, the state, the failures in all -/
def sTry (mf : Nat → Nat) (sc : Nat → Int32) (fi st li fa : Int32) (ef : Nat → Nat) (ps : List (Nat × Nat)) (p tries : Nat) (s : rs) (fl : Nat) : Option Nat × Int32 × rs × Nat :=
  match sMk mf sc fi ps s with
  | (some f, s1) => (some f, 4, (s1.1.filter (fun g => !cs0 sc g), (((s1.1.filter (cs0 sc)).reverse).foldl (sE ef) (s1.2.1, s1.2.2, fl)).1, (((s1.1.filter (cs0 sc)).reverse).foldl (sE ef) (s1.2.1, s1.2.2, fl)).2.1), (((s1.1.filter (cs0 sc)).reverse).foldl (sE ef) (s1.2.1, s1.2.2, fl)).2.2)
  | (none, s1) => (none, (if li < st then 3 else if nI tries < fa then 2 else 1), (s1.1.filter (fun g => !cs0 sc g), (((s1.1.filter (cs0 sc)).reverse).foldl (sE ef) (s1.2.1, s1.2.2 ++ [(4, nI p, nI tries)], fl)).1, (((s1.1.filter (cs0 sc)).reverse).foldl (sE ef) (s1.2.1, s1.2.2 ++ [(4, nI p, nI tries)], fl)).2.1), (((s1.1.filter (cs0 sc)).reverse).foldl (sE ef) (s1.2.1, s1.2.2 ++ [(4, nI p, nI tries)], fl)).2.2)
theorem sE_fl (ef : Nat → Nat) : ∀ (l : List Nat) (s : rq × List re3 × Nat), s.2.2 ≤ (l.foldl (sE ef) s).2.2 := by
  intro l
  induction l with
  | nil => intro s; exact Nat.le_refl _
  | cons f l ih => intro s; exact Nat.le_trans (Nat.le_add_right _ _) (ih (sE ef s f))
theorem nI_subn {a b : Nat} (h : b ≤ a) : nI a - nI b = nI (a - b) := by
  obtain ⟨c, rfl⟩ : ∃ c, a = b + c := ⟨a - b, by omega⟩
  rw [Nat.add_sub_cancel_left, ← nI_add, Int32.add_comm, Int32.add_sub_cancel]
theorem sMk_len (mf : Nat → Nat) (sc : Nat → Int32) (fi : Int32) : ∀ (ps : List (Nat × Nat)) (s : rs), (sMk mf sc fi ps s).2.2.2.length ≤ s.2.2.length + ps.length := by
  intro ps
  induction ps with
  | nil => intro s; exact Nat.le_refl _
  | cons p ps ih =>
    intro s
    obtain ⟨f, v⟩ := p
    unfold sMk
    by_cases e1 : f ∈ s.1
    · rw [if_pos e1]; have := ih s; simp only [List.length_cons]; omega
    · rw [if_neg e1]
      by_cases e2 : bt (s.2.1 f 10) v = true
      · rw [if_pos e2]; simp only [List.length_cons]; omega
      · rw [if_neg e2]
        by_cases e3 : mf f = 1
        · rw [if_pos e3]; simp only [sM0, List.length_append, List.length_cons, List.length_nil]; omega
        · rw [if_neg e3]
          have := ih (sM1 fi s f v)
          simp only [sM1, List.length_append, List.length_cons, List.length_nil] at this ⊢
          omega
theorem pvl_len (va : Nat → Nat) (m : Nat) : ∀ l : List Nat, (pvl va m l).length = l.length := by
  intro l
  induction l with
  | nil => rfl
  | cons g l ih => simp only [pvl, List.length_cons, ih]
theorem sMk_mem (mf : Nat → Nat) (sc : Nat → Int32) (fi : Int32) : ∀ (ps : List (Nat × Nat)) (s : rs) (f : Nat), (sMk mf sc fi ps s).1 = some f → ∃ v, (f, v) ∈ ps := by
  intro ps
  induction ps with
  | nil => intro s f h; cases h
  | cons p ps ih =>
    intro s f h
    obtain ⟨g, v⟩ := p
    unfold sMk at h
    by_cases e1 : g ∈ s.1
    · rw [if_pos e1] at h
      obtain ⟨w, hw⟩ := ih s f h
      exact ⟨w, List.mem_cons_of_mem _ hw⟩
    · rw [if_neg e1] at h
      by_cases e2 : bt (s.2.1 g 10) v = true
      · rw [if_pos e2] at h
        cases h
        exact ⟨v, List.mem_cons_self⟩
      · rw [if_neg e2] at h
        by_cases e3 : mf g = 1
        · rw [if_pos e3] at h
          cases h
          exact ⟨v, List.mem_cons_self⟩
        · rw [if_neg e3] at h
          obtain ⟨w, hw⟩ := ih _ f h
          exact ⟨w, List.mem_cons_of_mem _ hw⟩
theorem pvl_mem (va : Nat → Nat) (m : Nat) : ∀ (l : List Nat) (f v : Nat), (f, v) ∈ pvl va m l → f ∈ l := by
  intro l
  induction l with
  | nil => intro f v h; cases h
  | cons g l ih =>
    intro f v h
    rcases List.mem_cons.mp h with q | q
    · cases q; exact List.mem_cons_self
    · exact List.mem_cons_of_mem _ (ih f v q)
/-- an event more -/
theorem rM.tell {x : Nat → Nat → Int32} {nf : Nat} {ef : Nat → Nat} {md : List Nat} {q : rq} {ev : List re3} {fl : Nat} (hR : rM x nf ef md q ev fl) (a b c : Int32) : rM (u2 (u2 (u2 (u2 x 116 ev.length a) 117 ev.length b) 118 ev.length c) 91 21 (nI (ev.length + 1))) nf ef md q (ev ++ [(a, b, c)]) fl := by
  obtain ⟨⟨ts, mk, ⟨m1, m2, m3, m4, m5⟩, hmk, hmk1⟩, hq, ⟨he1, he2⟩, hfl, hef⟩ := hR
  refine ⟨⟨ts, mk, ⟨m1, m2, fun g hg => ?_, m4, m5⟩, ?_, ?_⟩, fun g hg => ?_, ⟨?_, ?_⟩, ?_, fun g hg => ?_⟩
  · simp only [mj_lI_s, mj_lI_0, mj_lA_s, mj_lA_0, mj_sL_s, mj_sL_0, mj_s8_0, mj_s8_1, mj_s8_2, mj_s8_3, mj_bc_n, mj_bc_s, mj_bd_s, u2_eq, u2_a, u2_k, ne_eq, Nat.reduceEqDiff, not_false_eq_true, List.nil_append, List.cons_append, eq_self, true_or, or_true, if_true, if_false, false_or, or_false, not_true_eq_false, Bool.false_eq_true, ie_m1_0, ie_m1_1, ie_m1_2, ie_m1_3, ie_m1_4, ie_m1_5, ie_0_m1, ie_0_1, ie_0_2, ie_0_3, ie_0_4, ie_0_5, ie_1_m1, ie_1_0, ie_1_2, ie_1_3, ie_1_4, ie_1_5, ie_2_m1, ie_2_0, ie_2_1, ie_2_3, ie_2_4, ie_2_5, ie_3_m1, ie_3_0, ie_3_1, ie_3_2, ie_3_4, ie_3_5, ie_4_m1, ie_4_0, ie_4_1, ie_4_2, ie_4_3, ie_4_5, ie_5_m1, ie_5_0, ie_5_1, ie_5_2, ie_5_3, ie_5_4]; exact m3 g hg
  · simp only [mj_lI_s, mj_lI_0, mj_lA_s, mj_lA_0, mj_sL_s, mj_sL_0, mj_s8_0, mj_s8_1, mj_s8_2, mj_s8_3, mj_bc_n, mj_bc_s, mj_bd_s, u2_eq, u2_a, u2_k, ne_eq, Nat.reduceEqDiff, not_false_eq_true, List.nil_append, List.cons_append, eq_self, true_or, or_true, if_true, if_false, false_or, or_false, not_true_eq_false, Bool.false_eq_true, ie_m1_0, ie_m1_1, ie_m1_2, ie_m1_3, ie_m1_4, ie_m1_5, ie_0_m1, ie_0_1, ie_0_2, ie_0_3, ie_0_4, ie_0_5, ie_1_m1, ie_1_0, ie_1_2, ie_1_3, ie_1_4, ie_1_5, ie_2_m1, ie_2_0, ie_2_1, ie_2_3, ie_2_4, ie_2_5, ie_3_m1, ie_3_0, ie_3_1, ie_3_2, ie_3_4, ie_3_5, ie_4_m1, ie_4_0, ie_4_1, ie_4_2, ie_4_3, ie_4_5, ie_5_m1, ie_5_0, ie_5_1, ie_5_2, ie_5_3, ie_5_4]; exact hmk
  · rw [List.length_append]; omega
  · simp only [mj_lI_s, mj_lI_0, mj_lA_s, mj_lA_0, mj_sL_s, mj_sL_0, mj_s8_0, mj_s8_1, mj_s8_2, mj_s8_3, mj_bc_n, mj_bc_s, mj_bd_s, u2_eq, u2_a, u2_k, ne_eq, Nat.reduceEqDiff, not_false_eq_true, List.nil_append, List.cons_append, eq_self, true_or, or_true, if_true, if_false, false_or, or_false, not_true_eq_false, Bool.false_eq_true, ie_m1_0, ie_m1_1, ie_m1_2, ie_m1_3, ie_m1_4, ie_m1_5, ie_0_m1, ie_0_1, ie_0_2, ie_0_3, ie_0_4, ie_0_5, ie_1_m1, ie_1_0, ie_1_2, ie_1_3, ie_1_4, ie_1_5, ie_2_m1, ie_2_0, ie_2_1, ie_2_3, ie_2_4, ie_2_5, ie_3_m1, ie_3_0, ie_3_1, ie_3_2, ie_3_4, ie_3_5, ie_4_m1, ie_4_0, ie_4_1, ie_4_2, ie_4_3, ie_4_5, ie_5_m1, ie_5_0, ie_5_1, ie_5_2, ie_5_3, ie_5_4]; exact hq g hg
  · simp only [mj_lI_s, mj_lI_0, mj_lA_s, mj_lA_0, mj_sL_s, mj_sL_0, mj_s8_0, mj_s8_1, mj_s8_2, mj_s8_3, mj_bc_n, mj_bc_s, mj_bd_s, u2_eq, u2_a, u2_k, ne_eq, Nat.reduceEqDiff, not_false_eq_true, List.nil_append, List.cons_append, eq_self, true_or, or_true, if_true, if_false, false_or, or_false, not_true_eq_false, Bool.false_eq_true, ie_m1_0, ie_m1_1, ie_m1_2, ie_m1_3, ie_m1_4, ie_m1_5, ie_0_m1, ie_0_1, ie_0_2, ie_0_3, ie_0_4, ie_0_5, ie_1_m1, ie_1_0, ie_1_2, ie_1_3, ie_1_4, ie_1_5, ie_2_m1, ie_2_0, ie_2_1, ie_2_3, ie_2_4, ie_2_5, ie_3_m1, ie_3_0, ie_3_1, ie_3_2, ie_3_4, ie_3_5, ie_4_m1, ie_4_0, ie_4_1, ie_4_2, ie_4_3, ie_4_5, ie_5_m1, ie_5_0, ie_5_1, ie_5_2, ie_5_3, ie_5_4, List.length_append, List.length_singleton]
  · refine ev_snoc he2 (fun e h9 => ?_) ?_
    · have hne : e ≠ ev.length := by omega
      simp only [mj_lI_s, mj_lI_0, mj_lA_s, mj_lA_0, mj_sL_s, mj_sL_0, mj_s8_0, mj_s8_1, mj_s8_2, mj_s8_3, mj_bc_n, mj_bc_s, mj_bd_s, u2_eq, u2_a, u2_k, ne_eq, Nat.reduceEqDiff, not_false_eq_true, List.nil_append, List.cons_append, eq_self, true_or, or_true, if_true, if_false, false_or, or_false, not_true_eq_false, Bool.false_eq_true, ie_m1_0, ie_m1_1, ie_m1_2, ie_m1_3, ie_m1_4, ie_m1_5, ie_0_m1, ie_0_1, ie_0_2, ie_0_3, ie_0_4, ie_0_5, ie_1_m1, ie_1_0, ie_1_2, ie_1_3, ie_1_4, ie_1_5, ie_2_m1, ie_2_0, ie_2_1, ie_2_3, ie_2_4, ie_2_5, ie_3_m1, ie_3_0, ie_3_1, ie_3_2, ie_3_4, ie_3_5, ie_4_m1, ie_4_0, ie_4_1, ie_4_2, ie_4_3, ie_4_5, ie_5_m1, ie_5_0, ie_5_1, ie_5_2, ie_5_3, ie_5_4, u2_k hne]
      exact ⟨trivial, trivial, trivial⟩
    · simp only [mj_lI_s, mj_lI_0, mj_lA_s, mj_lA_0, mj_sL_s, mj_sL_0, mj_s8_0, mj_s8_1, mj_s8_2, mj_s8_3, mj_bc_n, mj_bc_s, mj_bd_s, u2_eq, u2_a, u2_k, ne_eq, Nat.reduceEqDiff, not_false_eq_true, List.nil_append, List.cons_append, eq_self, true_or, or_true, if_true, if_false, false_or, or_false, not_true_eq_false, Bool.false_eq_true, ie_m1_0, ie_m1_1, ie_m1_2, ie_m1_3, ie_m1_4, ie_m1_5, ie_0_m1, ie_0_1, ie_0_2, ie_0_3, ie_0_4, ie_0_5, ie_1_m1, ie_1_0, ie_1_2, ie_1_3, ie_1_4, ie_1_5, ie_2_m1, ie_2_0, ie_2_1, ie_2_3, ie_2_4, ie_2_5, ie_3_m1, ie_3_0, ie_3_1, ie_3_2, ie_3_4, ie_3_5, ie_4_m1, ie_4_0, ie_4_1, ie_4_2, ie_4_3, ie_4_5, ie_5_m1, ie_5_0, ie_5_1, ie_5_2, ie_5_3, ie_5_4]
      exact ⟨trivial, trivial, trivial⟩
  · simp only [mj_lI_s, mj_lI_0, mj_lA_s, mj_lA_0, mj_sL_s, mj_sL_0, mj_s8_0, mj_s8_1, mj_s8_2, mj_s8_3, mj_bc_n, mj_bc_s, mj_bd_s, u2_eq, u2_a, u2_k, ne_eq, Nat.reduceEqDiff, not_false_eq_true, List.nil_append, List.cons_append, eq_self, true_or, or_true, if_true, if_false, false_or, or_false, not_true_eq_false, Bool.false_eq_true, ie_m1_0, ie_m1_1, ie_m1_2, ie_m1_3, ie_m1_4, ie_m1_5, ie_0_m1, ie_0_1, ie_0_2, ie_0_3, ie_0_4, ie_0_5, ie_1_m1, ie_1_0, ie_1_2, ie_1_3, ie_1_4, ie_1_5, ie_2_m1, ie_2_0, ie_2_1, ie_2_3, ie_2_4, ie_2_5, ie_3_m1, ie_3_0, ie_3_1, ie_3_2, ie_3_4, ie_3_5, ie_4_m1, ie_4_0, ie_4_1, ie_4_2, ie_4_3, ie_4_5, ie_5_m1, ie_5_0, ie_5_1, ie_5_2, ie_5_3, ie_5_4]; exact hfl
  · simp only [mj_lI_s, mj_lI_0, mj_lA_s, mj_lA_0, mj_sL_s, mj_sL_0, mj_s8_0, mj_s8_1, mj_s8_2, mj_s8_3, mj_bc_n, mj_bc_s, mj_bd_s, u2_eq, u2_a, u2_k, ne_eq, Nat.reduceEqDiff, not_false_eq_true, List.nil_append, List.cons_append, eq_self, true_or, or_true, if_true, if_false, false_or, or_false, not_true_eq_false, Bool.false_eq_true, ie_m1_0, ie_m1_1, ie_m1_2, ie_m1_3, ie_m1_4, ie_m1_5, ie_0_m1, ie_0_1, ie_0_2, ie_0_3, ie_0_4, ie_0_5, ie_1_m1, ie_1_0, ie_1_2, ie_1_3, ie_1_4, ie_1_5, ie_2_m1, ie_2_0, ie_2_1, ie_2_3, ie_2_4, ie_2_5, ie_3_m1, ie_3_0, ie_3_1, ie_3_2, ie_3_4, ie_3_5, ie_4_m1, ie_4_0, ie_4_1, ie_4_2, ie_4_3, ie_4_5, ie_5_m1, ie_5_0, ie_5_1, ie_5_2, ie_5_3, ie_5_4]; exact hef g hg
section TR
variable {n : Nat} {sh : Nat → Nat × Nat} {y : Nat → Nat → Option Nat}
/-- those of case scope are marked -/
theorem mm_39e (d : Nat) (H : moK n sh) (Y : moY y) {nf : Nat} {sc : Nat → Int32} {l0 l1 l2 l3 l4 l5 l6 l7 l8 : Option mj_V} (h12 : nf ≤ 12) : ∀ (j k : Nat) (x : Nat → Nat → Int32) (Q : Option mj_R → Prop), k + j = nf → x 91 1 = nI nf → (∀ f, f < nf → x 92 f = sc f) → mE x k (cs0 sc) →
    (∀ x' w, mE x' nf (cs0 sc) → fQ x x' → Q (mj_Rn pg (d + 1) 39 (189, [some (.inr (some 91)), l0, l1, l2, l3, l4, l5, l6, l7, l8, w], [], bl n sh x' y))) →
    Q (mj_Rn pg (d + 1) 39 (152, [some (.inr (some 91)), l0, l1, l2, l3, l4, l5, l6, l7, l8, some (.inl (nI k))], [], bl n sh x y)) := by
  intro j
  induction j with
  | zero =>
    intro k x Q hk h1 hsc hE hX
    have hle : (nI nf ≤ nI k) = True := eq_true (nI_le (by omega) (by omega))
    have : k = nf := by omega
    subst this
    rw [s_39_152]
    simp only [s_39_0, s_39_1, s_39_4, s_39_5, s_39_6, s_39_9, s_39_10, s_39_11, s_39_12, s_39_13, s_39_16, s_39_17, s_39_18, s_39_19, s_39_20, s_39_21, s_39_24, s_39_25, s_39_26, s_39_29, s_39_30, s_39_31, s_39_32, s_39_35, s_39_36, s_39_39, s_39_41, s_39_42, s_39_44, s_39_45, s_39_47, s_39_48, s_39_50, s_39_51, s_39_53, s_39_55, s_39_58, s_39_60, s_39_61, s_39_64, s_39_66, s_39_67, s_39_70, s_39_72, s_39_73, s_39_76, s_39_77, s_39_78, s_39_81, s_39_82, s_39_83, s_39_84, s_39_87, s_39_89, s_39_90, s_39_92, s_39_94, s_39_95, s_39_98, s_39_99, s_39_100, s_39_101, s_39_103, s_39_106, s_39_107, s_39_110, s_39_111, s_39_112, s_39_113, s_39_116, s_39_117, s_39_118, s_39_121, s_39_122, s_39_125, s_39_127, s_39_128, s_39_131, s_39_132, s_39_133, s_39_136, s_39_137, s_39_140, s_39_141, s_39_143, s_39_144, s_39_147, s_39_149, s_39_150, s_39_154, s_39_155, s_39_158, s_39_161, s_39_162, s_39_165, s_39_167, s_39_168, s_39_171, s_39_173, s_39_174, s_39_177, s_39_178, s_39_181, s_39_182, s_39_183, s_39_186, s_39_190, s_39_193, s_39_194, s_39_197, s_39_199, s_39_200, s_39_202, s_39_205, s_39_208, s_39_210, s_39_211, s_39_214, s_39_216, s_39_218, s_39_219, s_39_222, s_39_223, s_39_226, s_39_227, s_39_229, s_39_230, s_39_233, s_39_234, s_39_236, s_39_239, s_39_240, s_39_243, s_39_245, s_39_246, s_39_247, s_39_250, s_39_251, s_39_253, s_39_254, s_39_255, s_39_258, s_39_259, s_39_260, s_39_263, s_39_265, s_39_268, s_39_269, s_39_272, s_39_273, s_39_274, s_39_275, s_39_276, s_39_279, s_39_280, s_39_282, s_39_283, s_39_284, s_39_285, s_39_288, s_39_289, s_39_290, s_39_293, mj_lI_s, mj_lI_0, mj_lA_s, mj_lA_0, mj_sL_s, mj_sL_0, mj_s8_0, mj_s8_1, mj_s8_2, mj_s8_3, mj_bc_n, mj_bc_s, mj_bd_s, u2_eq, u2_a, u2_k, ne_eq, Nat.reduceEqDiff, not_false_eq_true, List.nil_append, List.cons_append, eq_self, true_or, or_true, if_true, if_false, false_or, or_false, not_true_eq_false, Bool.false_eq_true, ie_m1_0, ie_m1_1, ie_m1_2, ie_m1_3, ie_m1_4, ie_m1_5, ie_0_m1, ie_0_1, ie_0_2, ie_0_3, ie_0_4, ie_0_5, ie_1_m1, ie_1_0, ie_1_2, ie_1_3, ie_1_4, ie_1_5, ie_2_m1, ie_2_0, ie_2_1, ie_2_3, ie_2_4, ie_2_5, ie_3_m1, ie_3_0, ie_3_1, ie_3_2, ie_3_4, ie_3_5, ie_4_m1, ie_4_0, ie_4_1, ie_4_2, ie_4_3, ie_4_5, ie_5_m1, ie_5_0, ie_5_1, ie_5_2, ie_5_3, ie_5_4, mt_91 H, gv_0 H, gv_1 H, gv_2 H, gv_19 H, gv_20 H, gv_21 H, gv_22 H, gv_23 H, gv_43 H, pv_0 H, pv_1 H, pv_2 H, pv_19 H, pv_20 H, pv_21 H, pv_22 H, pv_23 H, pv_43 H, gr_3 H Y, gr_4 H Y, gr_5 H Y, gr_6 H Y, gr_7 H Y, gr_8 H Y, gr_9 H Y, gr_10 H Y, gr_11 H Y, gr_12 H Y, gr_13 H Y, gr_14 H Y, gr_15 H Y, gr_16 H Y, gr_17 H Y, gr_18 H Y, gr_24 H Y, gr_25 H Y, gr_26 H Y, gr_27 H Y, gr_28 H Y, gr_29 H Y, gr_30 H Y, gr_31 H Y, gr_32 H Y, gr_33 H Y, gr_34 H Y, gr_35 H Y, gr_36 H Y, gr_37 H Y, gr_38 H Y, gr_39 H Y, gr_40 H Y, gr_41 H Y, gr_42 H Y, ra_3 H, ra_4 H, ra_5 H, ra_6 H, ra_7 H, ra_8 H, ra_9 H, ra_10 H, ra_11 H, ra_12 H, ra_13 H, ra_14 H, ra_15 H, ra_16 H, ra_17 H, ra_18 H, ra_24 H, ra_25 H, ra_26 H, ra_27 H, ra_28 H, ra_29 H, ra_30 H, ra_31 H, ra_32 H, ra_33 H, ra_34 H, ra_35 H, ra_36 H, ra_37 H, ra_38 H, ra_39 H, ra_40 H, ra_41 H, ra_42 H, pa_3 H, pa_4 H, pa_5 H, pa_6 H, pa_7 H, pa_8 H, pa_9 H, pa_10 H, pa_11 H, pa_12 H, pa_13 H, pa_14 H, pa_15 H, pa_16 H, pa_17 H, pa_18 H, pa_24 H, pa_25 H, pa_26 H, pa_27 H, pa_28 H, pa_29 H, pa_30 H, pa_31 H, pa_32 H, pa_33 H, pa_34 H, pa_35 H, pa_36 H, pa_37 H, pa_38 H, pa_39 H, pa_40 H, pa_41 H, pa_42 H, h1, hle]
    exact hX x _ hE (fQ.rf x)
  | succ j ih =>
    intro k x Q hk h1 hsc hE hX
    have hk1 : k < nf := by omega
    have hk12 : k < 12 := by omega
    have hle : (nI nf ≤ nI k) = False := eq_false (nI_ge hk1 (by omega))
    have c1 := hsc k hk1
    have fin : Q (mj_Rn pg (d + 1) 39 (152, [some (.inr (some 91)), l0, l1, l2, l3, l4, l5, l6, l7, l8, some (.inl (nI (k + 1)))], [], bl n sh (u2 x 126 k (b2i (cs0 sc k))) y)) := by
      have hp := fQ.put x k (b2i (cs0 sc k))
      refine ih (k + 1) _ Q (by omega) ((hp 91 1 (by decide)).trans h1) (fun f hf => (hp 92 f (by decide)).trans (hsc f hf)) (fun f hf => ?_) (fun x' w p1 p2 => hX x' w p1 (hp.tr p2))
      by_cases e : f = k
      · subst e; rw [u2_eq]
      · rw [u2_k e]; exact hE f (by omega)
    rw [s_39_152]
    by_cases e : sc k = 0
    · rw [show b2i (cs0 sc k) = 1 by simp [cs0, e, b2i]] at fin
      simp only [s_39_0, s_39_1, s_39_4, s_39_5, s_39_6, s_39_9, s_39_10, s_39_11, s_39_12, s_39_13, s_39_16, s_39_17, s_39_18, s_39_19, s_39_20, s_39_21, s_39_24, s_39_25, s_39_26, s_39_29, s_39_30, s_39_31, s_39_32, s_39_35, s_39_36, s_39_39, s_39_41, s_39_42, s_39_44, s_39_45, s_39_47, s_39_48, s_39_50, s_39_51, s_39_53, s_39_55, s_39_58, s_39_60, s_39_61, s_39_64, s_39_66, s_39_67, s_39_70, s_39_72, s_39_73, s_39_76, s_39_77, s_39_78, s_39_81, s_39_82, s_39_83, s_39_84, s_39_87, s_39_89, s_39_90, s_39_92, s_39_94, s_39_95, s_39_98, s_39_99, s_39_100, s_39_101, s_39_103, s_39_106, s_39_107, s_39_110, s_39_111, s_39_112, s_39_113, s_39_116, s_39_117, s_39_118, s_39_121, s_39_122, s_39_125, s_39_127, s_39_128, s_39_131, s_39_132, s_39_133, s_39_136, s_39_137, s_39_140, s_39_141, s_39_143, s_39_144, s_39_147, s_39_149, s_39_150, s_39_154, s_39_155, s_39_158, s_39_161, s_39_162, s_39_165, s_39_167, s_39_168, s_39_171, s_39_173, s_39_174, s_39_177, s_39_178, s_39_181, s_39_182, s_39_183, s_39_186, s_39_190, s_39_193, s_39_194, s_39_197, s_39_199, s_39_200, s_39_202, s_39_205, s_39_208, s_39_210, s_39_211, s_39_214, s_39_216, s_39_218, s_39_219, s_39_222, s_39_223, s_39_226, s_39_227, s_39_229, s_39_230, s_39_233, s_39_234, s_39_236, s_39_239, s_39_240, s_39_243, s_39_245, s_39_246, s_39_247, s_39_250, s_39_251, s_39_253, s_39_254, s_39_255, s_39_258, s_39_259, s_39_260, s_39_263, s_39_265, s_39_268, s_39_269, s_39_272, s_39_273, s_39_274, s_39_275, s_39_276, s_39_279, s_39_280, s_39_282, s_39_283, s_39_284, s_39_285, s_39_288, s_39_289, s_39_290, s_39_293, mj_lI_s, mj_lI_0, mj_lA_s, mj_lA_0, mj_sL_s, mj_sL_0, mj_s8_0, mj_s8_1, mj_s8_2, mj_s8_3, mj_bc_n, mj_bc_s, mj_bd_s, u2_eq, u2_a, u2_k, ne_eq, Nat.reduceEqDiff, not_false_eq_true, List.nil_append, List.cons_append, eq_self, true_or, or_true, if_true, if_false, false_or, or_false, not_true_eq_false, Bool.false_eq_true, ie_m1_0, ie_m1_1, ie_m1_2, ie_m1_3, ie_m1_4, ie_m1_5, ie_0_m1, ie_0_1, ie_0_2, ie_0_3, ie_0_4, ie_0_5, ie_1_m1, ie_1_0, ie_1_2, ie_1_3, ie_1_4, ie_1_5, ie_2_m1, ie_2_0, ie_2_1, ie_2_3, ie_2_4, ie_2_5, ie_3_m1, ie_3_0, ie_3_1, ie_3_2, ie_3_4, ie_3_5, ie_4_m1, ie_4_0, ie_4_1, ie_4_2, ie_4_3, ie_4_5, ie_5_m1, ie_5_0, ie_5_1, ie_5_2, ie_5_3, ie_5_4, mt_91 H, gv_0 H, gv_1 H, gv_2 H, gv_19 H, gv_20 H, gv_21 H, gv_22 H, gv_23 H, gv_43 H, pv_0 H, pv_1 H, pv_2 H, pv_19 H, pv_20 H, pv_21 H, pv_22 H, pv_23 H, pv_43 H, gr_3 H Y, gr_4 H Y, gr_5 H Y, gr_6 H Y, gr_7 H Y, gr_8 H Y, gr_9 H Y, gr_10 H Y, gr_11 H Y, gr_12 H Y, gr_13 H Y, gr_14 H Y, gr_15 H Y, gr_16 H Y, gr_17 H Y, gr_18 H Y, gr_24 H Y, gr_25 H Y, gr_26 H Y, gr_27 H Y, gr_28 H Y, gr_29 H Y, gr_30 H Y, gr_31 H Y, gr_32 H Y, gr_33 H Y, gr_34 H Y, gr_35 H Y, gr_36 H Y, gr_37 H Y, gr_38 H Y, gr_39 H Y, gr_40 H Y, gr_41 H Y, gr_42 H Y, ra_3 H, ra_4 H, ra_5 H, ra_6 H, ra_7 H, ra_8 H, ra_9 H, ra_10 H, ra_11 H, ra_12 H, ra_13 H, ra_14 H, ra_15 H, ra_16 H, ra_17 H, ra_18 H, ra_24 H, ra_25 H, ra_26 H, ra_27 H, ra_28 H, ra_29 H, ra_30 H, ra_31 H, ra_32 H, ra_33 H, ra_34 H, ra_35 H, ra_36 H, ra_37 H, ra_38 H, ra_39 H, ra_40 H, ra_41 H, ra_42 H, pa_3 H, pa_4 H, pa_5 H, pa_6 H, pa_7 H, pa_8 H, pa_9 H, pa_10 H, pa_11 H, pa_12 H, pa_13 H, pa_14 H, pa_15 H, pa_16 H, pa_17 H, pa_18 H, pa_24 H, pa_25 H, pa_26 H, pa_27 H, pa_28 H, pa_29 H, pa_30 H, pa_31 H, pa_32 H, pa_33 H, pa_34 H, pa_35 H, pa_36 H, pa_37 H, pa_38 H, pa_39 H, pa_40 H, pa_41 H, pa_42 H, h1, hle, hk12, c1, e, nI_1]
      exact fin
    · rw [show b2i (cs0 sc k) = 0 by simp [cs0, e, b2i]] at fin
      simp only [s_39_0, s_39_1, s_39_4, s_39_5, s_39_6, s_39_9, s_39_10, s_39_11, s_39_12, s_39_13, s_39_16, s_39_17, s_39_18, s_39_19, s_39_20, s_39_21, s_39_24, s_39_25, s_39_26, s_39_29, s_39_30, s_39_31, s_39_32, s_39_35, s_39_36, s_39_39, s_39_41, s_39_42, s_39_44, s_39_45, s_39_47, s_39_48, s_39_50, s_39_51, s_39_53, s_39_55, s_39_58, s_39_60, s_39_61, s_39_64, s_39_66, s_39_67, s_39_70, s_39_72, s_39_73, s_39_76, s_39_77, s_39_78, s_39_81, s_39_82, s_39_83, s_39_84, s_39_87, s_39_89, s_39_90, s_39_92, s_39_94, s_39_95, s_39_98, s_39_99, s_39_100, s_39_101, s_39_103, s_39_106, s_39_107, s_39_110, s_39_111, s_39_112, s_39_113, s_39_116, s_39_117, s_39_118, s_39_121, s_39_122, s_39_125, s_39_127, s_39_128, s_39_131, s_39_132, s_39_133, s_39_136, s_39_137, s_39_140, s_39_141, s_39_143, s_39_144, s_39_147, s_39_149, s_39_150, s_39_154, s_39_155, s_39_158, s_39_161, s_39_162, s_39_165, s_39_167, s_39_168, s_39_171, s_39_173, s_39_174, s_39_177, s_39_178, s_39_181, s_39_182, s_39_183, s_39_186, s_39_190, s_39_193, s_39_194, s_39_197, s_39_199, s_39_200, s_39_202, s_39_205, s_39_208, s_39_210, s_39_211, s_39_214, s_39_216, s_39_218, s_39_219, s_39_222, s_39_223, s_39_226, s_39_227, s_39_229, s_39_230, s_39_233, s_39_234, s_39_236, s_39_239, s_39_240, s_39_243, s_39_245, s_39_246, s_39_247, s_39_250, s_39_251, s_39_253, s_39_254, s_39_255, s_39_258, s_39_259, s_39_260, s_39_263, s_39_265, s_39_268, s_39_269, s_39_272, s_39_273, s_39_274, s_39_275, s_39_276, s_39_279, s_39_280, s_39_282, s_39_283, s_39_284, s_39_285, s_39_288, s_39_289, s_39_290, s_39_293, mj_lI_s, mj_lI_0, mj_lA_s, mj_lA_0, mj_sL_s, mj_sL_0, mj_s8_0, mj_s8_1, mj_s8_2, mj_s8_3, mj_bc_n, mj_bc_s, mj_bd_s, u2_eq, u2_a, u2_k, ne_eq, Nat.reduceEqDiff, not_false_eq_true, List.nil_append, List.cons_append, eq_self, true_or, or_true, if_true, if_false, false_or, or_false, not_true_eq_false, Bool.false_eq_true, ie_m1_0, ie_m1_1, ie_m1_2, ie_m1_3, ie_m1_4, ie_m1_5, ie_0_m1, ie_0_1, ie_0_2, ie_0_3, ie_0_4, ie_0_5, ie_1_m1, ie_1_0, ie_1_2, ie_1_3, ie_1_4, ie_1_5, ie_2_m1, ie_2_0, ie_2_1, ie_2_3, ie_2_4, ie_2_5, ie_3_m1, ie_3_0, ie_3_1, ie_3_2, ie_3_4, ie_3_5, ie_4_m1, ie_4_0, ie_4_1, ie_4_2, ie_4_3, ie_4_5, ie_5_m1, ie_5_0, ie_5_1, ie_5_2, ie_5_3, ie_5_4, mt_91 H, gv_0 H, gv_1 H, gv_2 H, gv_19 H, gv_20 H, gv_21 H, gv_22 H, gv_23 H, gv_43 H, pv_0 H, pv_1 H, pv_2 H, pv_19 H, pv_20 H, pv_21 H, pv_22 H, pv_23 H, pv_43 H, gr_3 H Y, gr_4 H Y, gr_5 H Y, gr_6 H Y, gr_7 H Y, gr_8 H Y, gr_9 H Y, gr_10 H Y, gr_11 H Y, gr_12 H Y, gr_13 H Y, gr_14 H Y, gr_15 H Y, gr_16 H Y, gr_17 H Y, gr_18 H Y, gr_24 H Y, gr_25 H Y, gr_26 H Y, gr_27 H Y, gr_28 H Y, gr_29 H Y, gr_30 H Y, gr_31 H Y, gr_32 H Y, gr_33 H Y, gr_34 H Y, gr_35 H Y, gr_36 H Y, gr_37 H Y, gr_38 H Y, gr_39 H Y, gr_40 H Y, gr_41 H Y, gr_42 H Y, ra_3 H, ra_4 H, ra_5 H, ra_6 H, ra_7 H, ra_8 H, ra_9 H, ra_10 H, ra_11 H, ra_12 H, ra_13 H, ra_14 H, ra_15 H, ra_16 H, ra_17 H, ra_18 H, ra_24 H, ra_25 H, ra_26 H, ra_27 H, ra_28 H, ra_29 H, ra_30 H, ra_31 H, ra_32 H, ra_33 H, ra_34 H, ra_35 H, ra_36 H, ra_37 H, ra_38 H, ra_39 H, ra_40 H, ra_41 H, ra_42 H, pa_3 H, pa_4 H, pa_5 H, pa_6 H, pa_7 H, pa_8 H, pa_9 H, pa_10 H, pa_11 H, pa_12 H, pa_13 H, pa_14 H, pa_15 H, pa_16 H, pa_17 H, pa_18 H, pa_24 H, pa_25 H, pa_26 H, pa_27 H, pa_28 H, pa_29 H, pa_30 H, pa_31 H, pa_32 H, pa_33 H, pa_34 H, pa_35 H, pa_36 H, pa_37 H, pa_38 H, pa_39 H, pa_40 H, pa_41 H, pa_42 H, h1, hle, hk12, c1, e, not_false_eq_true, nI_1]
      exact fin
theorem fQ.rM {x x' : Nat → Nat → Int32} (h : fQ x x') {nf : Nat} {ef : Nat → Nat} {md : List Nat} {q : rq} {ev : List re3} {fl : Nat} (hR : rM x nf ef md q ev fl) : rM x' nf ef md q ev fl := by
  obtain ⟨⟨ts, mk, ⟨m1, m2, m3, m4, m5⟩, hmk, hmk1⟩, hq, ⟨he1, he2⟩, hfl, hef⟩ := hR
  refine ⟨⟨ts, mk, ⟨m1, m2, fun f hf => ?_, m4, m5⟩, ?_, hmk1⟩, fun f hf => ?_, ⟨?_, fun e t ht => ?_⟩, ?_, fun f hf => ?_⟩
  · rw [h 108 f (by decide)]; exact m3 f hf
  · rw [h 91 23 (by decide)]; exact hmk
  · rw [h 109 f (by decide), h 110 f (by decide), h 111 f (by decide), h 112 f (by decide), h 113 f (by decide), h 114 f (by decide), h 115 f (by decide)]
    exact hq f hf
  · rw [h 91 21 (by decide)]; exact he1
  · rw [h 116 e (by decide), h 117 e (by decide), h 118 e (by decide)]; exact he2 e t ht
  · rw [h 91 43 (by decide)]; exact hfl
  · rw [h 97 f (by decide)]; exact hef f hf
/-- what a try leaves -/
def fT (x x' : Nat → Nat → Int32) : Prop := ∀ a k, (a < 108 ∨ 118 < a) → a ≠ 126 → ¬ (a = 91 ∧ (k = 21 ∨ k = 23 ∨ k = 43)) → x' a k = x a k
theorem fT.tr {x y z : Nat → Nat → Int32} (h1 : fT x y) (h2 : fT y z) : fT x z := fun a k q1 q2 q3 => (h2 a k q1 q2 q3).trans (h1 a k q1 q2 q3)
theorem fM.fT {x x' : Nat → Nat → Int32} (h : fM x x') : fT x x' := fun a k q1 q2 q3 => h a k (by omega) (by omega) (by omega) (by omega) (by omega)
theorem fQ.fT {x x' : Nat → Nat → Int32} (h : fQ x x') : fT x x' := fun a k q1 q2 q3 => h a k q2
theorem fE.fT {x x' : Nat → Nat → Int32} (h : fE x x') : fT x x' := fun a k q1 q2 q3 => h a k (by omega) (by omega) (by omega) (by omega) (by omega) (by omega) (by omega)
/-- the end of a try: those of case scope end -/
theorem mm_39z (d : Nat) (H : moK n sh) (Y : moY y) {nf tries : Nat} {ef mf : Nat → Nat} {sc : Nat → Int32} {t : Nat} {fi : Int32} {x : Nat → Nat → Int32} {fl : Nat} {md : List Nat} {q : rq} {ev : List re3} (h12 : nf ≤ 12) (h1 : x 91 1 = nI nf) (hG : cG x nf sc mf t fi) (hR : rM x nf ef md q ev fl) (hlen : ev.length + 12 ≤ 7999) {l0 l1 l2 l3 l5 l6 l7 v9 v10 : Option mj_V} (Q : Option mj_R → Prop)
    (hX : ∀ x' w9 w10, rM x' nf ef (md.filter (fun g => !cs0 sc g)) (((md.filter (cs0 sc)).reverse).foldl (sE ef) (q, ev, fl)).1 (((md.filter (cs0 sc)).reverse).foldl (sE ef) (q, ev, fl)).2.1 (((md.filter (cs0 sc)).reverse).foldl (sE ef) (q, ev, fl)).2.2 → fT x x' → Q (mj_Rn pg (d + 5) 39 (53, [some (.inr (some 91)), l0, l1, l2, l3, some (.inl (nI (tries + 1))), l5, some (.inl (nI ((((md.filter (cs0 sc)).reverse).foldl (sE ef) (q, ev, fl)).2.2 - fl))), l7, w9, w10], [], bl n sh x' y))) :
    Q (mj_Rn pg (d + 5) 39 (143, [some (.inr (some 91)), l0, l1, l2, l3, some (.inl (nI tries)), l5, l6, l7, v9, v10], [], bl n sh x y)) := by
  have hfl := hR.2.2.2.1
  simp only [s_39_143, s_39_144, s_39_147, s_39_149, s_39_150, mj_lI_s, mj_lI_0, mj_lA_s, mj_lA_0, mj_sL_s, mj_sL_0, mj_s8_0, mj_s8_1, mj_s8_2, mj_s8_3, mj_bc_n, mj_bc_s, mj_bd_s, u2_eq, u2_a, u2_k, ne_eq, Nat.reduceEqDiff, not_false_eq_true, List.nil_append, List.cons_append, eq_self, true_or, or_true, if_true, if_false, false_or, or_false, not_true_eq_false, Bool.false_eq_true, ie_m1_0, ie_m1_1, ie_m1_2, ie_m1_3, ie_m1_4, ie_m1_5, ie_0_m1, ie_0_1, ie_0_2, ie_0_3, ie_0_4, ie_0_5, ie_1_m1, ie_1_0, ie_1_2, ie_1_3, ie_1_4, ie_1_5, ie_2_m1, ie_2_0, ie_2_1, ie_2_3, ie_2_4, ie_2_5, ie_3_m1, ie_3_0, ie_3_1, ie_3_2, ie_3_4, ie_3_5, ie_4_m1, ie_4_0, ie_4_1, ie_4_2, ie_4_3, ie_4_5, ie_5_m1, ie_5_0, ie_5_1, ie_5_2, ie_5_3, ie_5_4, gv_43 H, hfl]
  refine mm_39e (d + 4) H Y h12 nf 0 x Q (by omega) h1 (fun f hf => (hG.1 f hf).1) (fun f hf => absurd hf (Nat.not_lt_zero f)) (fun x2 w p1 p2 => ?_)
  obtain ⟨x3, t1, t2, t3⟩ := mm_36 (x := x2) (y := y) (d + 1) H Y (E := cs0 sc) h12 ((p2 91 1 (by decide)).trans h1) (fun f hf => p1 f hf) (p2.rM hR) hlen
  have hfl3 := t2.2.2.2.1
  have hge : fl ≤ (((md.filter (cs0 sc)).reverse).foldl (sE ef) (q, ev, fl)).2.2 := sE_fl ef _ (q, ev, fl)
  simp only [s_39_189, s_39_190, s_39_193, s_39_194, s_39_197, s_39_199, s_39_200, s_39_202, s_39_205, mj_lI_s, mj_lI_0, mj_lA_s, mj_lA_0, mj_sL_s, mj_sL_0, mj_s8_0, mj_s8_1, mj_s8_2, mj_s8_3, mj_bc_n, mj_bc_s, mj_bd_s, u2_eq, u2_a, u2_k, ne_eq, Nat.reduceEqDiff, not_false_eq_true, List.nil_append, List.cons_append, eq_self, true_or, or_true, if_true, if_false, false_or, or_false, not_true_eq_false, Bool.false_eq_true, ie_m1_0, ie_m1_1, ie_m1_2, ie_m1_3, ie_m1_4, ie_m1_5, ie_0_m1, ie_0_1, ie_0_2, ie_0_3, ie_0_4, ie_0_5, ie_1_m1, ie_1_0, ie_1_2, ie_1_3, ie_1_4, ie_1_5, ie_2_m1, ie_2_0, ie_2_1, ie_2_3, ie_2_4, ie_2_5, ie_3_m1, ie_3_0, ie_3_1, ie_3_2, ie_3_4, ie_3_5, ie_4_m1, ie_4_0, ie_4_1, ie_4_2, ie_4_3, ie_4_5, ie_5_m1, ie_5_0, ie_5_1, ie_5_2, ie_5_3, ie_5_4, mt_91 H, t1, gv_43 H, hfl3, nI_subn hge, nI_1]
  exact hX x3 _ _ t2 (p2.fT.tr t3.fT)
set_option maxHeartbeats 2000000 in
theorem mm_39t (d : Nat) (H : moK n sh) (Y : moY y) {nf t m p tries : Nat} {nd : Nat → List Nat} {ef mf va : Nat → Nat} {sc : Nat → Int32} {fi st li fa : Int32} {acc : List Nat} {x : Nat → Nat → Int32} {fl : Nat} {md : List Nat} {q : rq} {ev : List re3} (hF : mF x nf nd) (hC : clS x nf acc) (hV : mV x nf va) (hG : cG x nf sc mf t fi) (hR : rM x nf ef md q ev fl) (hz : ∀ f, f < nf → sc f = 0 → q f 10 = 0) (ht : t < 20) (hm8 : m < 8) (hst : x 101 t = st) (hli : x 102 t = li) (hfa : x 103 t = fa) (hlen : ev.length + 40 ≤ 7999) {v4 o6 l7 l8 v9 v10 : Option mj_V} (Q : Option mj_R → Prop)
    (hX : ∀ x' w9 w10, rM x' nf ef (sTry mf sc fi st li fa ef (pvl va m acc) p tries (md, q, ev) fl).2.2.1.1 (sTry mf sc fi st li fa ef (pvl va m acc) p tries (md, q, ev) fl).2.2.1.2.1 (sTry mf sc fi st li fa ef (pvl va m acc) p tries (md, q, ev) fl).2.2.1.2.2 (sTry mf sc fi st li fa ef (pvl va m acc) p tries (md, q, ev) fl).2.2.2 → fT x x' → Q (mj_Rn pg (d + 5) 39 (53, [some (.inr (some 91)), some (.inl (nI t)), some (.inl (nI m)), some (.inl (nI p)), v4, some (.inl (nI (tries + 1))), some (.inl (sTry mf sc fi st li fa ef (pvl va m acc) p tries (md, q, ev) fl).2.1), some (.inl (nI ((sTry mf sc fi st li fa ef (pvl va m acc) p tries (md, q, ev) fl).2.2.2 - fl))), some (.inl (lB (sTry mf sc fi st li fa ef (pvl va m acc) p tries (md, q, ev) fl).1)), w9, w10], [], bl n sh x' y))) :
    Q (mj_Rn pg (d + 5) 39 (81, [some (.inr (some 91)), some (.inl (nI t)), some (.inl (nI m)), some (.inl (nI p)), v4, some (.inl (nI tries)), o6, l7, l8, v9, v10], [], bl n sh x y)) := by
  obtain ⟨f1, f2, f3⟩ := id hF
  have hal := nd_len nf acc hC.2.2.1 hC.2.2.2
  have hml := sMk_len mf sc fi (pvl va m acc) (md, q, ev)
  rw [pvl_len] at hml
  obtain ⟨x1, q1, q2, q3⟩ := mm_38 (x := x) (y := y) (d + 2) H Y f2 ht hm8 hC hV hG hR hz (by omega)
  simp only [s_39_81, s_39_82, s_39_83, s_39_84, mj_lI_s, mj_lI_0, mj_lA_s, mj_lA_0, mj_sL_s, mj_sL_0, mj_s8_0, mj_s8_1, mj_s8_2, mj_s8_3, mj_bc_n, mj_bc_s, mj_bd_s, u2_eq, u2_a, u2_k, ne_eq, Nat.reduceEqDiff, not_false_eq_true, List.nil_append, List.cons_append, eq_self, true_or, or_true, if_true, if_false, false_or, or_false, not_true_eq_false, Bool.false_eq_true, ie_m1_0, ie_m1_1, ie_m1_2, ie_m1_3, ie_m1_4, ie_m1_5, ie_0_m1, ie_0_1, ie_0_2, ie_0_3, ie_0_4, ie_0_5, ie_1_m1, ie_1_0, ie_1_2, ie_1_3, ie_1_4, ie_1_5, ie_2_m1, ie_2_0, ie_2_1, ie_2_3, ie_2_4, ie_2_5, ie_3_m1, ie_3_0, ie_3_1, ie_3_2, ie_3_4, ie_3_5, ie_4_m1, ie_4_0, ie_4_1, ie_4_2, ie_4_3, ie_4_5, ie_5_m1, ie_5_0, ie_5_1, ie_5_2, ie_5_3, ie_5_4, mt_91 H, q1]
  unfold sTry at hX
  generalize hr : sMk mf sc fi (pvl va m acc) (md, q, ev) = r at hX q2 hml
  obtain ⟨r1, md1, qq1, ev1⟩ := r
  have q2 : rM x1 nf ef md1 qq1 ev1 fl := q2
  have h11 : x1 91 1 = nI nf := (q3 91 1 (by omega) (by decide) (by decide) (by decide) (by omega)).trans f1
  have hG1 := q3.cG hG
  have ev1l : ev1.length + 27 ≤ 7999 := by
    have : ev1.length ≤ ev.length + acc.length := hml
    omega
  cases r1 with
  | some f =>
    have hfn : f < 1000 := by
      obtain ⟨v, hv⟩ := sMk_mem mf sc fi (pvl va m acc) (md, q, ev) f (by rw [hr])
      have := hC.2.2.2 f (pvl_mem va m acc f v hv)
      omega
    simp only [s_39_87, s_39_89, s_39_90, s_39_92, s_39_94, s_39_95, s_39_98, s_39_99, s_39_100, s_39_101, s_39_103, s_39_106, s_39_107, s_39_110, s_39_111, s_39_112, s_39_113, s_39_116, s_39_117, s_39_118, s_39_121, s_39_122, s_39_125, s_39_127, s_39_128, s_39_131, s_39_132, s_39_133, s_39_136, s_39_137, s_39_140, s_39_141, mj_lI_s, mj_lI_0, mj_lA_s, mj_lA_0, mj_sL_s, mj_sL_0, mj_s8_0, mj_s8_1, mj_s8_2, mj_s8_3, mj_bc_n, mj_bc_s, mj_bd_s, u2_eq, u2_a, u2_k, ne_eq, Nat.reduceEqDiff, not_false_eq_true, List.nil_append, List.cons_append, eq_self, true_or, or_true, if_true, if_false, false_or, or_false, not_true_eq_false, Bool.false_eq_true, ie_m1_0, ie_m1_1, ie_m1_2, ie_m1_3, ie_m1_4, ie_m1_5, ie_0_m1, ie_0_1, ie_0_2, ie_0_3, ie_0_4, ie_0_5, ie_1_m1, ie_1_0, ie_1_2, ie_1_3, ie_1_4, ie_1_5, ie_2_m1, ie_2_0, ie_2_1, ie_2_3, ie_2_4, ie_2_5, ie_3_m1, ie_3_0, ie_3_1, ie_3_2, ie_3_4, ie_3_5, ie_4_m1, ie_4_0, ie_4_1, ie_4_2, ie_4_3, ie_4_5, ie_5_m1, ie_5_0, ie_5_1, ie_5_2, ie_5_3, ie_5_4, lB, nI_nm1 hfn, not_false_eq_true]
    exact mm_39z (x := x1) (md := md1) (q := qq1) (ev := ev1) d H Y f2 h11 hG1 q2 (by omega) Q (fun x' w9 w10 p1 p2 => hX x' w9 w10 p1 (q3.fT.tr p2))
  | none =>
    have g1 : x1 101 t = st := (q3 101 t (by omega) (by decide) (by decide) (by decide) (by omega)).trans hst
    have g2 : x1 102 t = li := (q3 102 t (by omega) (by decide) (by decide) (by decide) (by omega)).trans hli
    have g3 : x1 103 t = fa := (q3 103 t (by omega) (by decide) (by decide) (by decide) (by omega)).trans hfa
    have he1 := q2.2.2.1.1
    have h34 := mm_34 (x := x1) (y := y) (d + 3) H Y he1 (show ev1.length < 8000 by omega) 4 (nI p) (nI tries)
    have hte := q2.tell 4 (nI p) (nI tries)
    have hp : fM x1 (u2 (u2 (u2 (u2 x1 116 ev1.length 4) 117 ev1.length (nI p)) 118 ev1.length (nI tries)) 91 21 (nI (ev1.length + 1))) := fun a k z1 z4 z5 z6 z7 => by
      rw [u2_ne (fun z => z7 ⟨z.1, Or.inl z.2⟩), u2_a z6, u2_a z5, u2_a z4]
    have fin := fun (o : Int32) (ho : o = (if li < st then 3 else if nI tries < fa then 2 else 1)) => mm_39z (md := md1) (q := qq1) (ev := ev1 ++ [(4, nI p, nI tries)]) (d := d) (n := n) (sh := sh) (y := y) H Y (tries := tries) (l0 := some (.inl (nI t))) (l1 := some (.inl (nI m))) (l2 := some (.inl (nI p))) (l3 := v4) (l5 := some (.inl o)) (l6 := l7) (l7 := some (.inl (-1))) (v9 := v9) (v10 := v10) f2 ((hp 91 1 (by omega) (by decide) (by decide) (by decide) (by omega)).trans h11) (hp.cG hG1) hte (by rw [List.length_append, List.length_singleton]; omega) Q (fun x' w9 w10 p1 p2 => by
      rw [ho]
      exact hX x' w9 w10 p1 ((q3.fT.tr hp.fT).tr p2))
    by_cases c1 : li < st
    · have c2 : ¬ st ≤ li := Int32.not_le.mpr c1
      have hf9 := fin 3 (by rw [if_pos c1])
      simp only [s_39_87, s_39_89, s_39_90, s_39_92, s_39_94, s_39_95, s_39_98, s_39_99, s_39_100, s_39_101, s_39_103, s_39_106, s_39_107, s_39_110, s_39_111, s_39_112, s_39_113, s_39_116, s_39_117, s_39_118, s_39_121, s_39_122, s_39_125, s_39_127, s_39_128, s_39_131, s_39_132, s_39_133, s_39_136, s_39_137, s_39_140, s_39_141, mj_lI_s, mj_lI_0, mj_lA_s, mj_lA_0, mj_sL_s, mj_sL_0, mj_s8_0, mj_s8_1, mj_s8_2, mj_s8_3, mj_bc_n, mj_bc_s, mj_bd_s, u2_eq, u2_a, u2_k, ne_eq, Nat.reduceEqDiff, not_false_eq_true, List.nil_append, List.cons_append, eq_self, true_or, or_true, if_true, if_false, false_or, or_false, not_true_eq_false, Bool.false_eq_true, ie_m1_0, ie_m1_1, ie_m1_2, ie_m1_3, ie_m1_4, ie_m1_5, ie_0_m1, ie_0_1, ie_0_2, ie_0_3, ie_0_4, ie_0_5, ie_1_m1, ie_1_0, ie_1_2, ie_1_3, ie_1_4, ie_1_5, ie_2_m1, ie_2_0, ie_2_1, ie_2_3, ie_2_4, ie_2_5, ie_3_m1, ie_3_0, ie_3_1, ie_3_2, ie_3_4, ie_3_5, ie_4_m1, ie_4_0, ie_4_1, ie_4_2, ie_4_3, ie_4_5, ie_5_m1, ie_5_0, ie_5_1, ie_5_2, ie_5_3, ie_5_4, mt_91 H, gv_0 H, gv_1 H, gv_2 H, gv_19 H, gv_20 H, gv_21 H, gv_22 H, gv_23 H, gv_43 H, pv_0 H, pv_1 H, pv_2 H, pv_19 H, pv_20 H, pv_21 H, pv_22 H, pv_23 H, pv_43 H, gr_3 H Y, gr_4 H Y, gr_5 H Y, gr_6 H Y, gr_7 H Y, gr_8 H Y, gr_9 H Y, gr_10 H Y, gr_11 H Y, gr_12 H Y, gr_13 H Y, gr_14 H Y, gr_15 H Y, gr_16 H Y, gr_17 H Y, gr_18 H Y, gr_24 H Y, gr_25 H Y, gr_26 H Y, gr_27 H Y, gr_28 H Y, gr_29 H Y, gr_30 H Y, gr_31 H Y, gr_32 H Y, gr_33 H Y, gr_34 H Y, gr_35 H Y, gr_36 H Y, gr_37 H Y, gr_38 H Y, gr_39 H Y, gr_40 H Y, gr_41 H Y, gr_42 H Y, ra_3 H, ra_4 H, ra_5 H, ra_6 H, ra_7 H, ra_8 H, ra_9 H, ra_10 H, ra_11 H, ra_12 H, ra_13 H, ra_14 H, ra_15 H, ra_16 H, ra_17 H, ra_18 H, ra_24 H, ra_25 H, ra_26 H, ra_27 H, ra_28 H, ra_29 H, ra_30 H, ra_31 H, ra_32 H, ra_33 H, ra_34 H, ra_35 H, ra_36 H, ra_37 H, ra_38 H, ra_39 H, ra_40 H, ra_41 H, ra_42 H, pa_3 H, pa_4 H, pa_5 H, pa_6 H, pa_7 H, pa_8 H, pa_9 H, pa_10 H, pa_11 H, pa_12 H, pa_13 H, pa_14 H, pa_15 H, pa_16 H, pa_17 H, pa_18 H, pa_24 H, pa_25 H, pa_26 H, pa_27 H, pa_28 H, pa_29 H, pa_30 H, pa_31 H, pa_32 H, pa_33 H, pa_34 H, pa_35 H, pa_36 H, pa_37 H, pa_38 H, pa_39 H, pa_40 H, pa_41 H, pa_42 H, lB, h34, ht, g1, g2, c2]
      exact hf9
    · have c2 : st ≤ li := Int32.not_lt.mp c1
      by_cases c3 : nI tries < fa
      · have c4 : ¬ fa ≤ nI tries := Int32.not_le.mpr c3
        have hf9 := fin 2 (by rw [if_neg c1, if_pos c3])
        simp only [s_39_87, s_39_89, s_39_90, s_39_92, s_39_94, s_39_95, s_39_98, s_39_99, s_39_100, s_39_101, s_39_103, s_39_106, s_39_107, s_39_110, s_39_111, s_39_112, s_39_113, s_39_116, s_39_117, s_39_118, s_39_121, s_39_122, s_39_125, s_39_127, s_39_128, s_39_131, s_39_132, s_39_133, s_39_136, s_39_137, s_39_140, s_39_141, mj_lI_s, mj_lI_0, mj_lA_s, mj_lA_0, mj_sL_s, mj_sL_0, mj_s8_0, mj_s8_1, mj_s8_2, mj_s8_3, mj_bc_n, mj_bc_s, mj_bd_s, u2_eq, u2_a, u2_k, ne_eq, Nat.reduceEqDiff, not_false_eq_true, List.nil_append, List.cons_append, eq_self, true_or, or_true, if_true, if_false, false_or, or_false, not_true_eq_false, Bool.false_eq_true, ie_m1_0, ie_m1_1, ie_m1_2, ie_m1_3, ie_m1_4, ie_m1_5, ie_0_m1, ie_0_1, ie_0_2, ie_0_3, ie_0_4, ie_0_5, ie_1_m1, ie_1_0, ie_1_2, ie_1_3, ie_1_4, ie_1_5, ie_2_m1, ie_2_0, ie_2_1, ie_2_3, ie_2_4, ie_2_5, ie_3_m1, ie_3_0, ie_3_1, ie_3_2, ie_3_4, ie_3_5, ie_4_m1, ie_4_0, ie_4_1, ie_4_2, ie_4_3, ie_4_5, ie_5_m1, ie_5_0, ie_5_1, ie_5_2, ie_5_3, ie_5_4, mt_91 H, gv_0 H, gv_1 H, gv_2 H, gv_19 H, gv_20 H, gv_21 H, gv_22 H, gv_23 H, gv_43 H, pv_0 H, pv_1 H, pv_2 H, pv_19 H, pv_20 H, pv_21 H, pv_22 H, pv_23 H, pv_43 H, gr_3 H Y, gr_4 H Y, gr_5 H Y, gr_6 H Y, gr_7 H Y, gr_8 H Y, gr_9 H Y, gr_10 H Y, gr_11 H Y, gr_12 H Y, gr_13 H Y, gr_14 H Y, gr_15 H Y, gr_16 H Y, gr_17 H Y, gr_18 H Y, gr_24 H Y, gr_25 H Y, gr_26 H Y, gr_27 H Y, gr_28 H Y, gr_29 H Y, gr_30 H Y, gr_31 H Y, gr_32 H Y, gr_33 H Y, gr_34 H Y, gr_35 H Y, gr_36 H Y, gr_37 H Y, gr_38 H Y, gr_39 H Y, gr_40 H Y, gr_41 H Y, gr_42 H Y, ra_3 H, ra_4 H, ra_5 H, ra_6 H, ra_7 H, ra_8 H, ra_9 H, ra_10 H, ra_11 H, ra_12 H, ra_13 H, ra_14 H, ra_15 H, ra_16 H, ra_17 H, ra_18 H, ra_24 H, ra_25 H, ra_26 H, ra_27 H, ra_28 H, ra_29 H, ra_30 H, ra_31 H, ra_32 H, ra_33 H, ra_34 H, ra_35 H, ra_36 H, ra_37 H, ra_38 H, ra_39 H, ra_40 H, ra_41 H, ra_42 H, pa_3 H, pa_4 H, pa_5 H, pa_6 H, pa_7 H, pa_8 H, pa_9 H, pa_10 H, pa_11 H, pa_12 H, pa_13 H, pa_14 H, pa_15 H, pa_16 H, pa_17 H, pa_18 H, pa_24 H, pa_25 H, pa_26 H, pa_27 H, pa_28 H, pa_29 H, pa_30 H, pa_31 H, pa_32 H, pa_33 H, pa_34 H, pa_35 H, pa_36 H, pa_37 H, pa_38 H, pa_39 H, pa_40 H, pa_41 H, pa_42 H, lB, h34, ht, g1, g2, g3, c2, c4]
        exact hf9
      · have c4 : fa ≤ nI tries := Int32.not_lt.mp c3
        have hf9 := fin 1 (by rw [if_neg c1, if_neg c3])
        simp only [s_39_87, s_39_89, s_39_90, s_39_92, s_39_94, s_39_95, s_39_98, s_39_99, s_39_100, s_39_101, s_39_103, s_39_106, s_39_107, s_39_110, s_39_111, s_39_112, s_39_113, s_39_116, s_39_117, s_39_118, s_39_121, s_39_122, s_39_125, s_39_127, s_39_128, s_39_131, s_39_132, s_39_133, s_39_136, s_39_137, s_39_140, s_39_141, mj_lI_s, mj_lI_0, mj_lA_s, mj_lA_0, mj_sL_s, mj_sL_0, mj_s8_0, mj_s8_1, mj_s8_2, mj_s8_3, mj_bc_n, mj_bc_s, mj_bd_s, u2_eq, u2_a, u2_k, ne_eq, Nat.reduceEqDiff, not_false_eq_true, List.nil_append, List.cons_append, eq_self, true_or, or_true, if_true, if_false, false_or, or_false, not_true_eq_false, Bool.false_eq_true, ie_m1_0, ie_m1_1, ie_m1_2, ie_m1_3, ie_m1_4, ie_m1_5, ie_0_m1, ie_0_1, ie_0_2, ie_0_3, ie_0_4, ie_0_5, ie_1_m1, ie_1_0, ie_1_2, ie_1_3, ie_1_4, ie_1_5, ie_2_m1, ie_2_0, ie_2_1, ie_2_3, ie_2_4, ie_2_5, ie_3_m1, ie_3_0, ie_3_1, ie_3_2, ie_3_4, ie_3_5, ie_4_m1, ie_4_0, ie_4_1, ie_4_2, ie_4_3, ie_4_5, ie_5_m1, ie_5_0, ie_5_1, ie_5_2, ie_5_3, ie_5_4, mt_91 H, gv_0 H, gv_1 H, gv_2 H, gv_19 H, gv_20 H, gv_21 H, gv_22 H, gv_23 H, gv_43 H, pv_0 H, pv_1 H, pv_2 H, pv_19 H, pv_20 H, pv_21 H, pv_22 H, pv_23 H, pv_43 H, gr_3 H Y, gr_4 H Y, gr_5 H Y, gr_6 H Y, gr_7 H Y, gr_8 H Y, gr_9 H Y, gr_10 H Y, gr_11 H Y, gr_12 H Y, gr_13 H Y, gr_14 H Y, gr_15 H Y, gr_16 H Y, gr_17 H Y, gr_18 H Y, gr_24 H Y, gr_25 H Y, gr_26 H Y, gr_27 H Y, gr_28 H Y, gr_29 H Y, gr_30 H Y, gr_31 H Y, gr_32 H Y, gr_33 H Y, gr_34 H Y, gr_35 H Y, gr_36 H Y, gr_37 H Y, gr_38 H Y, gr_39 H Y, gr_40 H Y, gr_41 H Y, gr_42 H Y, ra_3 H, ra_4 H, ra_5 H, ra_6 H, ra_7 H, ra_8 H, ra_9 H, ra_10 H, ra_11 H, ra_12 H, ra_13 H, ra_14 H, ra_15 H, ra_16 H, ra_17 H, ra_18 H, ra_24 H, ra_25 H, ra_26 H, ra_27 H, ra_28 H, ra_29 H, ra_30 H, ra_31 H, ra_32 H, ra_33 H, ra_34 H, ra_35 H, ra_36 H, ra_37 H, ra_38 H, ra_39 H, ra_40 H, ra_41 H, ra_42 H, pa_3 H, pa_4 H, pa_5 H, pa_6 H, pa_7 H, pa_8 H, pa_9 H, pa_10 H, pa_11 H, pa_12 H, pa_13 H, pa_14 H, pa_15 H, pa_16 H, pa_17 H, pa_18 H, pa_24 H, pa_25 H, pa_26 H, pa_27 H, pa_28 H, pa_29 H, pa_30 H, pa_31 H, pa_32 H, pa_33 H, pa_34 H, pa_35 H, pa_36 H, pa_37 H, pa_38 H, pa_39 H, pa_40 H, pa_41 H, pa_42 H, lB, h34, ht, g1, g2, g3, c2, c4]
        exact hf9
end TR
