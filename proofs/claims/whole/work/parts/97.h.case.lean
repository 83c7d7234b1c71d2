/-! a case: of the program -/
theorem sE_add (ef : Nat → Nat) : ∀ (l : List Nat) (q : rq) (ev : List re3) (a : Nat), (l.foldl (sE ef) (q, ev, a)).2.2 = a + (l.foldl (sE ef) (q, ev, 0)).2.2 := by
  intro l
  induction l with
  | nil => intro q ev a; rfl
  | cons f l ih =>
    intro q ev a
    show (l.foldl (sE ef) (_, _, a + ef f)).2.2 = a + (l.foldl (sE ef) (_, _, 0 + ef f)).2.2
    rw [ih _ _ (a + ef f), ih _ _ (0 + ef f)]
    dsimp only
    omega
theorem sLp_stop {re : Int32} {T : Nat → rs → Nat → Option Nat × Int32 × rs × Nat} {k tries : Nat} {out : Int32} {lf : Nat} {lk : Option Nat} {s : rs} {fl : Nat} (h0 : tries ≠ 0) (h : ¬ ((out = 2 ∨ out = 3) ∧ nI tries ≤ re)) : sLp re T k tries out lf lk s fl = (tries, out, lf, lk, s, fl) := by
  cases k with
  | zero => rfl
  | succ k =>
    unfold sLp
    exact if_neg (fun z => by
      rcases z with a | a
      · exact h0 a
      · exact h a)
section CA
variable {n : Nat} {sh : Nat → Nat × Nat} {hF hT : Nat → Nat} {w : sW} {nb : Nat → Nat → Bool}
/-- a try with its ending -/
theorem rk_86 (d : Nat) {x : Nat → Nat → Int32} {y : Nat → Nat → Option Nat} {s : rs} {c t m : Nat} {ps : List (Nat × Nat)} (ht : t < wT w) (hps : (ps.map Prod.fst).Nodup) (hlt : ∀ q ∈ ps, q.2 < 4) (hS : suP n sh x y hF hT w nb) (hU : runP n sh y) (hC : caP n sh x y hT c t m ps) (hM : mdP n sh x y hF (wF w) s) (hR : rowP n sh x y hF (wF w) (hT t + 3) (hT t + 4) 12 (ps.map Prod.fst)) (hl : s.2.2.length + 25 ≤ 3492) (p a fl : Nat) (h4 : x c 4 = -1) :
    ∃ x1 y1 z x' y' e, mj_Cl pg (d + 4) 86 [.inr (some 5), .inr (some c), .inl (nI p), .inl (nI a)] (bl n sh x y) = some (some (.inl (sTry (wA w 1) (wI w 0) (wI w 1 t) (wI w 2 t) (wI w 3 t) (wI w 4 t) (wA w 2) ps p a s fl).2.1), bl n sh x1 y1) ∧
      mj_Cl pg (d + 4) 85 [.inr (some 5)] (bl n sh x1 y1) = some (some (.inl z), bl n sh x1 y1) ∧
      mj_Cl pg (d + 4) 88 [.inr (some 5), .inl z] (bl n sh x1 y1) = some (some (.inl (nI e)), bl n sh x' y') ∧
      (sTry (wA w 1) (wI w 0) (wI w 1 t) (wI w 2 t) (wI w 3 t) (wI w 4 t) (wA w 2) ps p a s fl).2.2.2 = fl + e ∧
      mdP n sh x' y' hF (wF w) (sTry (wA w 1) (wI w 0) (wI w 1 t) (wI w 2 t) (wI w 3 t) (wI w 4 t) (wA w 2) ps p a s fl).2.2.1 ∧ fK sh c x x' y y' ∧ x' c 4 = lB (sTry (wA w 1) (wI w 0) (wI w 1 t) (wI w 2 t) (wI w 3 t) (wI w 4 t) (wA w 2) ps p a s fl).1 := by
  have hlen12 : ps.length ≤ 12 := by have := hR.2.2.2.2.1; rw [List.length_map] at this; exact this
  have hco := hC.1
  have hc0 := hC.2.2.1
  have hc11 := hC.2.2.2.2.2.2
  obtain ⟨t1, t2, t3⟩ := hS.2.2.2.2.1 t ht
  have hTo := t2.1
  have hT3 := t2.2.2.1
  -- what follows a try
  have tail : ∀ (s1 : rs) (x1 : Nat → Nat → Int32) (y1 : Nat → Nat → Option Nat), mdP n sh x1 y1 hF (wF w) s1 → fK sh c x x1 y y1 → s1.2.2.length ≤ s.2.2.length + 13 → ∃ z x' y' e, mj_Cl pg (d + 4) 85 [.inr (some 5)] (bl n sh x1 y1) = some (some (.inl z), bl n sh x1 y1) ∧ mj_Cl pg (d + 4) 88 [.inr (some 5), .inl z] (bl n sh x1 y1) = some (some (.inl (nI e)), bl n sh x' y') ∧ (((s1.1.filter (cs0 (wI w 0))).reverse).foldl (sE (wA w 2)) (s1.2.1, s1.2.2, fl)).2.2 = fl + e ∧
      mdP n sh x' y' hF (wF w) (s1.1.filter (fun g => !cs0 (wI w 0) g), (((s1.1.filter (cs0 (wI w 0))).reverse).foldl (sE (wA w 2)) (s1.2.1, s1.2.2, fl)).1, (((s1.1.filter (cs0 (wI w 0))).reverse).foldl (sE (wA w 2)) (s1.2.1, s1.2.2, fl)).2.1) ∧ fK sh c x x' y y' ∧ x' c 4 = x1 c 4 := fun s1 x1 y1 hM1 hK1 hl1 => by
    have hS1 := hS.cong (hK1.fS (hT := hT) (nt := wT w) ⟨hc11.1, by omega⟩)
    have hU1 := hK1.run hU
    have c85 := rk_85 (d + 3) hS1 hU1 hM1
    have h32 : ∀ f ∈ s1.1, f < 32 := fun f hf => by have := hM1.1.2.2.2.2.2.1 f hf; have := hS.2.1.1; omega
    have hl12 : s1.1.length ≤ 12 := hM1.1.2.2.2.2.1
    obtain ⟨x2, y2, q1, q2, q3⟩ := rk_88 (d + 2) (B := cs0 (wI w 0)) (z := oB (cs0 (wI w 0)) s1.1 0) hS1 hU1 hM1 (fun f hf => by rw [oB_bt _ _ _ h32, b_0]; simp [hf]) (by omega)
    refine ⟨_, x2, y2, _, c85, q1, sE_add _ _ _ _ _, ?_, hK1.tr (q3.fK c), ?_⟩
    · rw [(sE_ind (wA w 2) _ s1.2.1 s1.2.2 fl 0).1, (sE_ind (wA w 2) _ s1.2.1 s1.2.2 fl 0).2]; exact q2
    · exact q3.1 _ _ (fun z => hco.kd (by decide) z.1) (by omega) (by omega) (by omega)
  have hmkl := sMk_len (wA w 1) (wI w 0) (wI w 1 t) ps s
  have key := rk_86L (p := p) (a := a) d ht hps hlt ps 0 s x y none (fun r => ∃ x1 y1 z x' y' e, r = some (some (.inl (sTry (wA w 1) (wI w 0) (wI w 1 t) (wI w 2 t) (wI w 3 t) (wI w 4 t) (wA w 2) ps p a s fl).2.1), bl n sh x1 y1) ∧
      mj_Cl pg (d + 4) 85 [.inr (some 5)] (bl n sh x1 y1) = some (some (.inl z), bl n sh x1 y1) ∧
      mj_Cl pg (d + 4) 88 [.inr (some 5), .inl z] (bl n sh x1 y1) = some (some (.inl (nI e)), bl n sh x' y') ∧
      (sTry (wA w 1) (wI w 0) (wI w 1 t) (wI w 2 t) (wI w 3 t) (wI w 4 t) (wA w 2) ps p a s fl).2.2.2 = fl + e ∧
      mdP n sh x' y' hF (wF w) (sTry (wA w 1) (wI w 0) (wI w 1 t) (wI w 2 t) (wI w 3 t) (wI w 4 t) (wA w 2) ps p a s fl).2.2.1 ∧ fK sh c x x' y y' ∧ x' c 4 = lB (sTry (wA w 1) (wI w 0) (wI w 1 t) (wI w 2 t) (wI w 3 t) (wI w 4 t) (wA w 2) ps p a s fl).1) (by omega) (fun j g hj => by rw [Nat.zero_add]; exact hj) hS hU hC hM hR (by omega) (fun f s1 x1 y1 r1 r2 r3 r4 => by
    rw [r1] at hmkl
    obtain ⟨z, x', y', e, g1, g2, g3, g4, g5, g6⟩ := tail s1 x1 y1 r2 r3 (by have : s1.2.2.length ≤ s.2.2.length + ps.length := hmkl; omega)
    unfold sTry
    rw [r1]
    exact ⟨x1, y1, z, x', y', e, rfl, g1, g2, g3, g4, g5, g6.trans r4⟩) (fun s1 x1 y1 v6 r1 r2 r3 => by
    rw [r1] at hmkl
    have hK1 := r3.fK c
    have hlb : s1.2.2.length ≤ s.2.2.length + ps.length := hmkl
    obtain ⟨x2, k1, k2, k3⟩ := rk_86e d (hS.cong (r3.fS hT _)) (r3.run hU) (r3.ca hC) ht r2 (by omega) p a (some (.inr (some (hT t + 3)))) (some (.inl (nI ps.length))) v6
    obtain ⟨z, x', y', e, g1, g2, g3, g4, g5, g6⟩ := tail _ x2 y1 k2 (hK1.tr (k3.fK c)) (by
      show (s1.2.2 ++ [_]).length ≤ _
      rw [List.length_append]
      simp
      omega)
    unfold sTry
    rw [r1]
    refine ⟨x2, y1, z, x', y', e, k1, g1, g2, g3, g4, g5, ?_⟩
    rw [g6, k3.1 _ _ (fun z => hco.kd (by decide) z.1) (by omega) (by omega) (by omega), r3.1 _ _ (fun z => hco.kd (by decide) z.1) (by omega) (by omega) (by omega)]
    exact h4)
  rw [e_86]
  simp only [s_86_0, s_86_1, s_86_4, s_86_7, s_86_9, s_86_10, mj_lI_s, mj_lI_0, mj_lA_s, mj_lA_0, mj_sL_s, mj_sL_0, mj_s8_0, mj_s8_1, mj_s8_2, mj_s8_3, mj_bc_n, mj_bc_s, mj_bd_s, u2_eq, u2_a, u2_k, ne_eq, Nat.reduceEqDiff, not_false_eq_true, List.nil_append, List.cons_append, eq_self, true_or, or_true, if_true, if_false, false_or, or_false, not_true_eq_false, Bool.false_eq_true, ie_m1_0, ie_m1_1, ie_m1_2, ie_m1_3, ie_m1_4, ie_m1_5, ie_0_m1, ie_0_1, ie_0_2, ie_0_3, ie_0_4, ie_0_5, ie_1_m1, ie_1_0, ie_1_2, ie_1_3, ie_1_4, ie_1_5, ie_2_m1, ie_2_0, ie_2_1, ie_2_3, ie_2_4, ie_2_5, ie_3_m1, ie_3_0, ie_3_1, ie_3_2, ie_3_4, ie_3_5, ie_4_m1, ie_4_0, ie_4_1, ie_4_2, ie_4_3, ie_4_5, ie_5_m1, ie_5_0, ie_5_1, ie_5_2, ie_5_3, ie_5_4, ct_0, cv_0, ci_0_0, cp_0_0, ci_0_1, cp_0_1, ci_0_2, cp_0_2, ci_0_3, cp_0_3, ci_0_4, cp_0_4, ci_0_5, cp_0_5, ci_0_6, cp_0_6, ct_6, cv_6, ci_6_0, cp_6_0, ci_6_1, cp_6_1, ci_6_2, cp_6_2, ci_6_3, cp_6_3, ci_6_4, cp_6_4, ci_6_5, cp_6_5, ci_6_6, cp_6_6, ci_6_7, cp_6_7, hco, hc0, hTo, hT3]
  exact key
end CA
