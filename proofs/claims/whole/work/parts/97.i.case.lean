/-! takeCase -/
theorem sF_u2 (sc : Nat → Int32) (fi : Int32) (f k : Nat) (v : Int32) (h1 : k ≠ 10) (h2 : k ≠ 11) : ∀ (l : List Nat) (q : rq), l.foldl (sF sc fi) (u2 q f k v) = u2 (l.foldl (sF sc fi) q) f k v := by
  intro l
  induction l with
  | nil => intro q; rfl
  | cons g l ih =>
    intro q
    show l.foldl (sF sc fi) (sF sc fi (u2 q f k v) g) = u2 (l.foldl (sF sc fi) (sF sc fi q g)) f k v
    rw [← ih]
    congr 1
    unfold sF
    rw [u2_k (show (11 : Nat) ≠ k from fun z => h2 z.symm)]
    by_cases c : sc g = 1 ∧ ¬ q g 11 = fi
    · rw [if_pos c, if_pos c]
      funext a b
      unfold u2
      by_cases c1 : a = g ∧ b = 10
      · rw [if_pos c1, if_neg (by omega), if_pos c1]
      · rw [if_neg c1]
        by_cases c2 : a = f ∧ b = k
        · rw [if_pos c2, if_pos c2]
        · rw [if_neg c2, if_neg c2, if_neg c1]
    · rw [if_neg c, if_neg c]
/-- forgetting and ending change places -/
theorem sE_sF (ef : Nat → Nat) (sc : Nat → Int32) (fi : Int32) (r : List Nat) : ∀ (l : List Nat) (q : rq) (ev : List re3) (a : Nat), l.foldl (sE ef) (r.foldl (sF sc fi) q, ev, a) = (r.foldl (sF sc fi) (l.foldl (sE ef) (q, ev, a)).1, (l.foldl (sE ef) (q, ev, a)).2) := by
  intro l
  induction l with
  | nil => intro q ev a; rfl
  | cons f l ih =>
    intro q ev a
    show l.foldl (sE ef) (sE ef (r.foldl (sF sc fi) q, ev, a) f) = (r.foldl (sF sc fi) (l.foldl (sE ef) (sE ef (q, ev, a) f)).1, (l.foldl (sE ef) (sE ef (q, ev, a) f)).2)
    have : sE ef (r.foldl (sF sc fi) q, ev, a) f = (r.foldl (sF sc fi) (sE ef (q, ev, a) f).1, (sE ef (q, ev, a) f).2) := by
      unfold sE
      dsimp only
      rw [sF_u2 _ _ _ _ _ (by decide) (by decide), sF_u2 _ _ _ _ _ (by decide) (by decide), sF_9 _ _ _ _ _ 13 (by decide), sF_9 _ _ _ _ _ 14 (by decide), sF_9 _ _ _ _ _ 8 (by decide)]
    rw [this, ih]
section CS
variable {n : Nat} {sh : Nat → Nat × Nat} {hF hT : Nat → Nat} {w : sW} {nb : Nat → Nat → Bool}
/-- (1) of a case: ending, then forgetting -/
theorem rk_83a (d : Nat) {x : Nat → Nat → Int32} {y : Nat → Nat → Option Nat} {s : rs} {c t m : Nat} (ht : t < wT w) (hS : suP n sh x y hF hT w nb) (hU : runP n sh y) (hC : caP n sh x y hT c t m (wPs w t m)) (hM : mdP n sh x y hF (wF w) s) (hl : s.2.2.length + 12 ≤ 3492) (hout : ∀ f ∈ s.1, cOut nb (wPs w t m) (wI w 0) (wI w 1 t) s f = sOut s.1 (wN w) (wF w) (wI w 0) (wI w 1 t) s.2.1 (wPs w t m) f) :
    ∃ z x1 y1 x2, mj_Cl pg (d + 4) 84 [.inr (some 5), .inr (some c)] (bl n sh x y) = some (some (.inl z), bl n sh x y) ∧ mj_Cl pg (d + 4) 88 [.inr (some 5), .inl z] (bl n sh x y) = some (some (.inl (nI (wFst w t m s))), bl n sh x1 y1) ∧ mj_Cl pg (d + 4) 95 [.inr (some 2), .inl (wI w 1 t)] (bl n sh x1 y1) = some (none, bl n sh x2 y1) ∧ mdP n sh x2 y1 hF (wF w) (sPt (wN w) (wF w) (wI w 0) (wI w 1 t) (wA w 2) (wPs w t m) s).1 ∧ fG sh x x2 y y1 ∧ fG sh x x1 y y1 := by
  obtain ⟨z, c84, hz⟩ := rk_84 (d + 1) hS hU hC ht hM
  obtain ⟨x1, y1, q1, q2, q3⟩ := rk_88 (d + 2) (B := sOut s.1 (wN w) (wF w) (wI w 0) (wI w 1 t) s.2.1 (wPs w t m)) hS hU hM (fun f hf => (hz f hf).trans (hout f hf)) (by have := hM.1.2.2.2.2.1; omega)
  obtain ⟨x2, k1, k2, k3⟩ := rk_95 (d + 2) (wI w 1 t) (hS.cong (q3.fS hT _)) q2
  refine ⟨z, x1, y1, x2, c84, ?_, k1, ?_, q3.tr k3, q3⟩
  · rw [q1]
    unfold wFst sPt
    rw [sE_sF]
  · unfold sPt
    rw [sE_sF]
    exact k2
/-- finish -/
theorem rk_51 (d : Nat) {x : Nat → Nat → Int32} {y : Nat → Nat → Option Nat} {c : Nat} (h : ob n sh c 0 7) (o tr fl b : Int32) : mj_Cl pg (d + 1) 51 [.inr (some c), .inl o, .inl tr, .inl fl, .inl b] (bl n sh x y) = some (none, bl n sh (if o = 1 ∧ ¬ b = 0 then u2 (u2 (u2 x c 6 tr) c 3 5) c 5 (fl - 1) else u2 (u2 (u2 x c 6 tr) c 3 o) c 5 fl) y) := by
  rw [e_51]
  by_cases c1 : o = 1
  · by_cases c2 : b = 0
    · simp only [s_51_0, s_51_1, s_51_2, s_51_5, s_51_6, s_51_7, s_51_10, s_51_12, s_51_15, s_51_16, s_51_17, s_51_20, s_51_21, s_51_22, s_51_23, s_51_24, s_51_27, s_51_30, s_51_31, s_51_32, s_51_35, s_51_36, s_51_37, s_51_40, mj_lI_s, mj_lI_0, mj_lA_s, mj_lA_0, mj_sL_s, mj_sL_0, mj_s8_0, mj_s8_1, mj_s8_2, mj_s8_3, mj_bc_n, mj_bc_s, mj_bd_s, u2_eq, u2_a, u2_k, ne_eq, Nat.reduceEqDiff, not_false_eq_true, List.nil_append, List.cons_append, eq_self, true_or, or_true, if_true, if_false, false_or, or_false, not_true_eq_false, Bool.false_eq_true, ie_m1_0, ie_m1_1, ie_m1_2, ie_m1_3, ie_m1_4, ie_m1_5, ie_0_m1, ie_0_1, ie_0_2, ie_0_3, ie_0_4, ie_0_5, ie_1_m1, ie_1_0, ie_1_2, ie_1_3, ie_1_4, ie_1_5, ie_2_m1, ie_2_0, ie_2_1, ie_2_3, ie_2_4, ie_2_5, ie_3_m1, ie_3_0, ie_3_1, ie_3_2, ie_3_4, ie_3_5, ie_4_m1, ie_4_0, ie_4_1, ie_4_2, ie_4_3, ie_4_5, ie_5_m1, ie_5_0, ie_5_1, ie_5_2, ie_5_3, ie_5_4, ct_0, cv_0, ci_0_0, cp_0_0, ci_0_1, cp_0_1, ci_0_2, cp_0_2, ci_0_3, cp_0_3, ci_0_4, cp_0_4, ci_0_5, cp_0_5, ci_0_6, cp_0_6, h, c1, c2, and_false]
    · simp only [s_51_0, s_51_1, s_51_2, s_51_5, s_51_6, s_51_7, s_51_10, s_51_12, s_51_15, s_51_16, s_51_17, s_51_20, s_51_21, s_51_22, s_51_23, s_51_24, s_51_27, s_51_30, s_51_31, s_51_32, s_51_35, s_51_36, s_51_37, s_51_40, mj_lI_s, mj_lI_0, mj_lA_s, mj_lA_0, mj_sL_s, mj_sL_0, mj_s8_0, mj_s8_1, mj_s8_2, mj_s8_3, mj_bc_n, mj_bc_s, mj_bd_s, u2_eq, u2_a, u2_k, ne_eq, Nat.reduceEqDiff, not_false_eq_true, List.nil_append, List.cons_append, eq_self, true_or, or_true, if_true, if_false, false_or, or_false, not_true_eq_false, Bool.false_eq_true, ie_m1_0, ie_m1_1, ie_m1_2, ie_m1_3, ie_m1_4, ie_m1_5, ie_0_m1, ie_0_1, ie_0_2, ie_0_3, ie_0_4, ie_0_5, ie_1_m1, ie_1_0, ie_1_2, ie_1_3, ie_1_4, ie_1_5, ie_2_m1, ie_2_0, ie_2_1, ie_2_3, ie_2_4, ie_2_5, ie_3_m1, ie_3_0, ie_3_1, ie_3_2, ie_3_4, ie_3_5, ie_4_m1, ie_4_0, ie_4_1, ie_4_2, ie_4_3, ie_4_5, ie_5_m1, ie_5_0, ie_5_1, ie_5_2, ie_5_3, ie_5_4, ct_0, cv_0, ci_0_0, cp_0_0, ci_0_1, cp_0_1, ci_0_2, cp_0_2, ci_0_3, cp_0_3, ci_0_4, cp_0_4, ci_0_5, cp_0_5, ci_0_6, cp_0_6, h, c1, c2, and_self]
  · simp only [s_51_0, s_51_1, s_51_2, s_51_5, s_51_6, s_51_7, s_51_10, s_51_12, s_51_15, s_51_16, s_51_17, s_51_20, s_51_21, s_51_22, s_51_23, s_51_24, s_51_27, s_51_30, s_51_31, s_51_32, s_51_35, s_51_36, s_51_37, s_51_40, mj_lI_s, mj_lI_0, mj_lA_s, mj_lA_0, mj_sL_s, mj_sL_0, mj_s8_0, mj_s8_1, mj_s8_2, mj_s8_3, mj_bc_n, mj_bc_s, mj_bd_s, u2_eq, u2_a, u2_k, ne_eq, Nat.reduceEqDiff, not_false_eq_true, List.nil_append, List.cons_append, eq_self, true_or, or_true, if_true, if_false, false_or, or_false, not_true_eq_false, Bool.false_eq_true, ie_m1_0, ie_m1_1, ie_m1_2, ie_m1_3, ie_m1_4, ie_m1_5, ie_0_m1, ie_0_1, ie_0_2, ie_0_3, ie_0_4, ie_0_5, ie_1_m1, ie_1_0, ie_1_2, ie_1_3, ie_1_4, ie_1_5, ie_2_m1, ie_2_0, ie_2_1, ie_2_3, ie_2_4, ie_2_5, ie_3_m1, ie_3_0, ie_3_1, ie_3_2, ie_3_4, ie_3_5, ie_4_m1, ie_4_0, ie_4_1, ie_4_2, ie_4_3, ie_4_5, ie_5_m1, ie_5_0, ie_5_1, ie_5_2, ie_5_3, ie_5_4, ct_0, cv_0, ci_0_0, cp_0_0, ci_0_1, cp_0_1, ci_0_2, cp_0_2, ci_0_3, cp_0_3, ci_0_4, cp_0_4, ci_0_5, cp_0_5, ci_0_6, cp_0_6, h, c1, false_and]
/-- the tries -/
theorem rk_83L (d : Nat) {c t m p fb : Nat} (ht : t < wT w) (h12 : wF w ≤ 12) (hps : ((wPs w t m).map Prod.fst).Nodup) (hlt : ∀ q ∈ wPs w t m, q.2 < 4) (hpn : ∀ q ∈ wPs w t m, q.1 < wF w) (hpl : (wPs w t m).length ≤ wF w) : ∀ (k tries : Nat) (out : Int32) (lf : Nat) (lk : Option Nat) (s : rs) (fl : Nat) (r7 : Int32) (x : Nat → Nat → Int32) (y : Nat → Nat → Option Nat) (Q : Option mj_R → Prop), tries + k = 4 → tries ≤ 3 → (tries ≠ 0 → r7 = out ∧ (out = 2 ∨ out = 3)) → lk = none → x c 4 = -1 → suP n sh x y hF hT w nb → runP n sh y → caP n sh x y hT c t m (wPs w t m) → mdP n sh x y hF (wF w) s → oS (wF w) s.1 → rowP n sh x y hF (wF w) (hT t + 3) (hT t + 4) 12 ((wPs w t m).map Prod.fst) → s.2.2.length + 25 * (3 - tries) ≤ 3492 →
    (∀ x' y' v9, mdP n sh x' y' hF (wF w) (sLp (wI w 5 t) (fun i s fl => sTry (wA w 1) (wI w 0) (wI w 1 t) (wI w 2 t) (wI w 3 t) (wI w 4 t) (wA w 2) (wPs w t m) p i s fl) k tries out lf lk s fl).2.2.2.2.1 → fK sh c x x' y y' → x' c 4 = lB (sLp (wI w 5 t) (fun i s fl => sTry (wA w 1) (wI w 0) (wI w 1 t) (wI w 2 t) (wI w 3 t) (wI w 4 t) (wA w 2) (wPs w t m) p i s fl) k tries out lf lk s fl).2.2.2.1 →
      Q (mj_Rn pg (d + 5) 83 (101, [some (.inr (some 5)), some (.inr (some 2)), some (.inr (some c)), some (.inl (nI p)), some (.inl (nI fb)), some (.inl (nI (sLp (wI w 5 t) (fun i s fl => sTry (wA w 1) (wI w 0) (wI w 1 t) (wI w 2 t) (wI w 3 t) (wI w 4 t) (wA w 2) (wPs w t m) p i s fl) k tries out lf lk s fl).2.2.2.2.2)), some (.inl (nI (sLp (wI w 5 t) (fun i s fl => sTry (wA w 1) (wI w 0) (wI w 1 t) (wI w 2 t) (wI w 3 t) (wI w 4 t) (wA w 2) (wPs w t m) p i s fl) k tries out lf lk s fl).2.2.1)), some (.inl (sLp (wI w 5 t) (fun i s fl => sTry (wA w 1) (wI w 0) (wI w 1 t) (wI w 2 t) (wI w 3 t) (wI w 4 t) (wA w 2) (wPs w t m) p i s fl) k tries out lf lk s fl).2.1), some (.inl (nI (sLp (wI w 5 t) (fun i s fl => sTry (wA w 1) (wI w 0) (wI w 1 t) (wI w 2 t) (wI w 3 t) (wI w 4 t) (wA w 2) (wPs w t m) p i s fl) k tries out lf lk s fl).1)), v9], [], bl n sh x' y'))) →
    Q (mj_Rn pg (d + 5) 83 (38, [some (.inr (some 5)), some (.inr (some 2)), some (.inr (some c)), some (.inl (nI p)), some (.inl (nI fb)), some (.inl (nI fl)), some (.inl (nI lf)), some (.inl r7), some (.inl (nI tries)), some (.inl (nI tries))], [], bl n sh x y)) := by
  intro k
  induction k with
  | zero => intro tries out lf lk s fl r7 x y Q hk ht3; omega
  | succ k ih =>
    intro tries out lf lk s fl r7 x y Q hk ht3 hr7 hlk h4 hS hU hC hM hO hR hlen hQ
    have hco := hC.1
    have hc0 := hC.2.2.1
    have hc11 := hC.2.2.2.2.2.2
    obtain ⟨t1, t2, ⟨t3, t4, t5, t6, t7, t8⟩, t9, t10⟩ := hS.2.2.2.2.1 t ht
    have hTo := t2.1
    obtain ⟨hU0, hU1, hU2, hU3⟩ := id hU
    rw [s_83_38]
    by_cases e : wI w 5 t < nI tries
    · have ht0 : tries ≠ 0 := fun z => by
        subst z
        exact absurd e (Int32.not_lt.mpr t9)
      have hstop : ¬ ((out = 2 ∨ out = 3) ∧ nI tries ≤ wI w 5 t) := fun z => absurd e (Int32.not_lt.mpr z.2)
      rw [sLp_stop ht0 hstop] at hQ
      simp only [s_83_40, s_83_41, s_83_44, s_83_47, mj_lI_s, mj_lI_0, mj_lA_s, mj_lA_0, mj_sL_s, mj_sL_0, mj_s8_0, mj_s8_1, mj_s8_2, mj_s8_3, mj_bc_n, mj_bc_s, mj_bd_s, u2_eq, u2_a, u2_k, ne_eq, Nat.reduceEqDiff, not_false_eq_true, List.nil_append, List.cons_append, eq_self, true_or, or_true, if_true, if_false, false_or, or_false, not_true_eq_false, Bool.false_eq_true, ie_m1_0, ie_m1_1, ie_m1_2, ie_m1_3, ie_m1_4, ie_m1_5, ie_0_m1, ie_0_1, ie_0_2, ie_0_3, ie_0_4, ie_0_5, ie_1_m1, ie_1_0, ie_1_2, ie_1_3, ie_1_4, ie_1_5, ie_2_m1, ie_2_0, ie_2_1, ie_2_3, ie_2_4, ie_2_5, ie_3_m1, ie_3_0, ie_3_1, ie_3_2, ie_3_4, ie_3_5, ie_4_m1, ie_4_0, ie_4_1, ie_4_2, ie_4_3, ie_4_5, ie_5_m1, ie_5_0, ie_5_1, ie_5_2, ie_5_3, ie_5_4, ct_0, cv_0, ci_0_0, cp_0_0, ci_0_1, cp_0_1, ci_0_2, cp_0_2, ci_0_3, cp_0_3, ci_0_4, cp_0_4, ci_0_5, cp_0_5, ci_0_6, cp_0_6, ct_6, cv_6, ci_6_0, cp_6_0, ci_6_1, cp_6_1, ci_6_2, cp_6_2, ci_6_3, cp_6_3, ci_6_4, cp_6_4, ci_6_5, cp_6_5, ci_6_6, cp_6_6, ci_6_7, cp_6_7, hco, hc0, hTo, t8, e]
      have := hQ x y (some (.inl (nI tries))) hM ((fG.rf sh x y).fK c) (by rw [h4, hlk]; rfl)
      rw [(hr7 ht0).1]
      exact this
    · have ht2 : tries ≤ 2 := by
        have h1 : nI tries ≤ nI 2 := Int32.le_trans (Int32.not_lt.mp e) t10
        exact (nI_leI (by omega) (by decide)).mp h1
      have hgo : tries = 0 ∨ ((out = 2 ∨ out = 3) ∧ nI tries ≤ wI w 5 t) := by
        by_cases z : tries = 0
        · exact Or.inl z
        · exact Or.inr ⟨(hr7 z).2, Int32.not_lt.mp e⟩
      obtain ⟨x1, y1, z, x2, y2, f1, g1, g2, g3, g4, g5, g6, g7⟩ := rk_86 d ht hps hlt hS hU hC hM hR (by omega) p tries fl h4
      obtain ⟨o1, o2⟩ := sTry_o (wA w 1) (wI w 0) (wI w 1 t) (wI w 2 t) (wI w 3 t) (wI w 4 t) (wA w 2) (wPs w t m) p tries s fl hpn hpl hO
      have eL : sLp (wI w 5 t) (fun i s fl => sTry (wA w 1) (wI w 0) (wI w 1 t) (wI w 2 t) (wI w 3 t) (wI w 4 t) (wA w 2) (wPs w t m) p i s fl) (k + 1) tries out lf lk s fl = sLp (wI w 5 t) (fun i s fl => sTry (wA w 1) (wI w 0) (wI w 1 t) (wI w 2 t) (wI w 3 t) (wI w 4 t) (wA w 2) (wPs w t m) p i s fl) k (tries + 1) (sTry (wA w 1) (wI w 0) (wI w 1 t) (wI w 2 t) (wI w 3 t) (wI w 4 t) (wA w 2) (wPs w t m) p tries s fl).2.1 ((sTry (wA w 1) (wI w 0) (wI w 1 t) (wI w 2 t) (wI w 3 t) (wI w 4 t) (wA w 2) (wPs w t m) p tries s fl).2.2.2 - fl) (sTry (wA w 1) (wI w 0) (wI w 1 t) (wI w 2 t) (wI w 3 t) (wI w 4 t) (wA w 2) (wPs w t m) p tries s fl).1 (sTry (wA w 1) (wI w 0) (wI w 1 t) (wI w 2 t) (wI w 3 t) (wI w 4 t) (wA w 2) (wPs w t m) p tries s fl).2.2.1 (sTry (wA w 1) (wI w 0) (wI w 1 t) (wI w 2 t) (wI w 3 t) (wI w 4 t) (wA w 2) (wPs w t m) p tries s fl).2.2.2 := if_pos hgo
      rw [eL] at hQ
      have hnone : (sTry (wA w 1) (wI w 0) (wI w 1 t) (wI w 2 t) (wI w 3 t) (wI w 4 t) (wA w 2) (wPs w t m) p tries s fl).2.1 = 2 ∨ (sTry (wA w 1) (wI w 0) (wI w 1 t) (wI w 2 t) (wI w 3 t) (wI w 4 t) (wA w 2) (wPs w t m) p tries s fl).2.1 = 3 → (sTry (wA w 1) (wI w 0) (wI w 1 t) (wI w 2 t) (wI w 3 t) (wI w 4 t) (wA w 2) (wPs w t m) p tries s fl).1 = none := by
        unfold sTry
        rcases sMk (wA w 1) (wI w 0) (wI w 1 t) (wPs w t m) s with ⟨o, s1⟩
        cases o with
        | none => intro _; rfl
        | some f =>
          intro z
          have z : (4 : Int32) = 2 ∨ (4 : Int32) = 3 := z
          exact absurd z (by decide)
      generalize sTry (wA w 1) (wI w 0) (wI w 1 t) (wI w 2 t) (wI w 3 t) (wI w 4 t) (wA w 2) (wPs w t m) p tries s fl = R at g1 g4 g5 g7 o1 o2 hQ hnone
      have e9 : R.2.2.2 - fl = f1 := by omega
      have e8 : nI fl + nI f1 = nI R.2.2.2 := by rw [g4]; exact nI_add fl f1
      rw [e9] at hQ
      have hS2 := hS.cong (g6.fS (hT := hT) (nt := wT w) ⟨hc11.1, by omega⟩)
      have hlen2 : R.2.2.1.2.2.length + 25 * (3 - (tries + 1)) ≤ 3492 := by omega
      by_cases q : R.2.1 = 2 ∨ R.2.1 = 3
      · have fin := ih (tries + 1) R.2.1 f1 R.1 R.2.2.1 R.2.2.2 R.2.1 x2 y2 Q (by omega) (by omega) (fun _ => ⟨rfl, q⟩) (hnone q) (by rw [g7, hnone q]; rfl) hS2 (g6.run hU) (g6.ca (by omega) hC) g5 o1 (g6.row hS ht (by omega) hR) hlen2 (fun x' y' v9 r1 r2 r3 => hQ x' y' v9 r1 (g6.tr r2) r3)
        rcases q with q | q
        · simp only [s_83_40, s_83_41, s_83_44, s_83_47, s_83_50, s_83_51, s_83_52, s_83_53, s_83_55, s_83_58, s_83_60, s_83_61, s_83_62, s_83_65, s_83_68, s_83_70, s_83_72, s_83_74, s_83_75, s_83_77, s_83_80, s_83_82, s_83_83, s_83_86, s_83_88, s_83_89, s_83_92, s_83_95, s_83_98, mj_lI_s, mj_lI_0, mj_lA_s, mj_lA_0, mj_sL_s, mj_sL_0, mj_s8_0, mj_s8_1, mj_s8_2, mj_s8_3, mj_bc_n, mj_bc_s, mj_bd_s, u2_eq, u2_a, u2_k, ne_eq, Nat.reduceEqDiff, not_false_eq_true, List.nil_append, List.cons_append, eq_self, true_or, or_true, if_true, if_false, false_or, or_false, not_true_eq_false, Bool.false_eq_true, ie_m1_0, ie_m1_1, ie_m1_2, ie_m1_3, ie_m1_4, ie_m1_5, ie_0_m1, ie_0_1, ie_0_2, ie_0_3, ie_0_4, ie_0_5, ie_1_m1, ie_1_0, ie_1_2, ie_1_3, ie_1_4, ie_1_5, ie_2_m1, ie_2_0, ie_2_1, ie_2_3, ie_2_4, ie_2_5, ie_3_m1, ie_3_0, ie_3_1, ie_3_2, ie_3_4, ie_3_5, ie_4_m1, ie_4_0, ie_4_1, ie_4_2, ie_4_3, ie_4_5, ie_5_m1, ie_5_0, ie_5_1, ie_5_2, ie_5_3, ie_5_4, ct_0, cv_0, ci_0_0, cp_0_0, ci_0_1, cp_0_1, ci_0_2, cp_0_2, ci_0_3, cp_0_3, ci_0_4, cp_0_4, ci_0_5, cp_0_5, ci_0_6, cp_0_6, ct_4, cv_4, ci_4_0, cp_4_0, ci_4_1, cp_4_1, ci_4_2, cp_4_2, ci_4_3, cp_4_3, ci_4_4, cp_4_4, ct_6, cv_6, ci_6_0, cp_6_0, ci_6_1, cp_6_1, ci_6_2, cp_6_2, ci_6_3, cp_6_3, ci_6_4, cp_6_4, ci_6_5, cp_6_5, ci_6_6, cp_6_6, ci_6_7, cp_6_7, hco, hc0, hTo, t8, e, hU0, g1, g2, g3, e8, nI_1, q]
          rw [q] at fin
          exact fin
        · have n32 : ¬ ((3 : Int32) = 2) := by decide
          simp only [s_83_40, s_83_41, s_83_44, s_83_47, s_83_50, s_83_51, s_83_52, s_83_53, s_83_55, s_83_58, s_83_60, s_83_61, s_83_62, s_83_65, s_83_68, s_83_70, s_83_72, s_83_74, s_83_75, s_83_77, s_83_80, s_83_82, s_83_83, s_83_86, s_83_88, s_83_89, s_83_92, s_83_95, s_83_98, mj_lI_s, mj_lI_0, mj_lA_s, mj_lA_0, mj_sL_s, mj_sL_0, mj_s8_0, mj_s8_1, mj_s8_2, mj_s8_3, mj_bc_n, mj_bc_s, mj_bd_s, u2_eq, u2_a, u2_k, ne_eq, Nat.reduceEqDiff, not_false_eq_true, List.nil_append, List.cons_append, eq_self, true_or, or_true, if_true, if_false, false_or, or_false, not_true_eq_false, Bool.false_eq_true, ie_m1_0, ie_m1_1, ie_m1_2, ie_m1_3, ie_m1_4, ie_m1_5, ie_0_m1, ie_0_1, ie_0_2, ie_0_3, ie_0_4, ie_0_5, ie_1_m1, ie_1_0, ie_1_2, ie_1_3, ie_1_4, ie_1_5, ie_2_m1, ie_2_0, ie_2_1, ie_2_3, ie_2_4, ie_2_5, ie_3_m1, ie_3_0, ie_3_1, ie_3_2, ie_3_4, ie_3_5, ie_4_m1, ie_4_0, ie_4_1, ie_4_2, ie_4_3, ie_4_5, ie_5_m1, ie_5_0, ie_5_1, ie_5_2, ie_5_3, ie_5_4, ct_0, cv_0, ci_0_0, cp_0_0, ci_0_1, cp_0_1, ci_0_2, cp_0_2, ci_0_3, cp_0_3, ci_0_4, cp_0_4, ci_0_5, cp_0_5, ci_0_6, cp_0_6, ct_4, cv_4, ci_4_0, cp_4_0, ci_4_1, cp_4_1, ci_4_2, cp_4_2, ci_4_3, cp_4_3, ci_4_4, cp_4_4, ct_6, cv_6, ci_6_0, cp_6_0, ci_6_1, cp_6_1, ci_6_2, cp_6_2, ci_6_3, cp_6_3, ci_6_4, cp_6_4, ci_6_5, cp_6_5, ci_6_6, cp_6_6, ci_6_7, cp_6_7, hco, hc0, hTo, t8, e, hU0, g1, g2, g3, e8, nI_1, q, n32]
          rw [q] at fin
          exact fin
      · have q1 : ¬ R.2.1 = 2 := fun z => q (Or.inl z)
        have q2 : ¬ R.2.1 = 3 := fun z => q (Or.inr z)
        rw [sLp_stop (Nat.succ_ne_zero tries) (fun z => q z.1)] at hQ
        simp only [s_83_40, s_83_41, s_83_44, s_83_47, s_83_50, s_83_51, s_83_52, s_83_53, s_83_55, s_83_58, s_83_60, s_83_61, s_83_62, s_83_65, s_83_68, s_83_70, s_83_72, s_83_74, s_83_75, s_83_77, s_83_80, s_83_82, s_83_83, s_83_86, s_83_88, s_83_89, s_83_92, s_83_95, s_83_98, mj_lI_s, mj_lI_0, mj_lA_s, mj_lA_0, mj_sL_s, mj_sL_0, mj_s8_0, mj_s8_1, mj_s8_2, mj_s8_3, mj_bc_n, mj_bc_s, mj_bd_s, u2_eq, u2_a, u2_k, ne_eq, Nat.reduceEqDiff, not_false_eq_true, List.nil_append, List.cons_append, eq_self, true_or, or_true, if_true, if_false, false_or, or_false, not_true_eq_false, Bool.false_eq_true, ie_m1_0, ie_m1_1, ie_m1_2, ie_m1_3, ie_m1_4, ie_m1_5, ie_0_m1, ie_0_1, ie_0_2, ie_0_3, ie_0_4, ie_0_5, ie_1_m1, ie_1_0, ie_1_2, ie_1_3, ie_1_4, ie_1_5, ie_2_m1, ie_2_0, ie_2_1, ie_2_3, ie_2_4, ie_2_5, ie_3_m1, ie_3_0, ie_3_1, ie_3_2, ie_3_4, ie_3_5, ie_4_m1, ie_4_0, ie_4_1, ie_4_2, ie_4_3, ie_4_5, ie_5_m1, ie_5_0, ie_5_1, ie_5_2, ie_5_3, ie_5_4, ct_0, cv_0, ci_0_0, cp_0_0, ci_0_1, cp_0_1, ci_0_2, cp_0_2, ci_0_3, cp_0_3, ci_0_4, cp_0_4, ci_0_5, cp_0_5, ci_0_6, cp_0_6, ct_4, cv_4, ci_4_0, cp_4_0, ci_4_1, cp_4_1, ci_4_2, cp_4_2, ci_4_3, cp_4_3, ci_4_4, cp_4_4, ct_6, cv_6, ci_6_0, cp_6_0, ci_6_1, cp_6_1, ci_6_2, cp_6_2, ci_6_3, cp_6_3, ci_6_4, cp_6_4, ci_6_5, cp_6_5, ci_6_6, cp_6_6, ci_6_7, cp_6_7, hco, hc0, hTo, t8, e, hU0, g1, g2, g3, e8, nI_1, q1, q2]
        exact hQ x2 y2 _ g5 g6 g7
end CS
