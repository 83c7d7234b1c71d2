/-! the run: the reference -/
/-- a run under way -/
def rS (x : Nat → Nat → Int32) (w : sW) (R : List (Nat × Nat)) (s : rs) (rows : List (Nat → Int32)) : Prop := mW x w ∧ (∃ fl, rM x (wF w) (wA w 2) s.1 s.2.1 s.2.2 fl) ∧ (∀ f, f < wF w → wI w 0 f = 0 → s.2.1 f 10 = 0) ∧ oS (wF w) s.1 ∧ x 91 22 = nI rows.length ∧ (∀ p r, rows[p]? = some r → ∀ k, k < 6 → x (119 + k) p = r k) ∧ mDn x w R
def fU (x x' : Nat → Nat → Int32) : Prop := ∀ a k, (a < 105 ∨ 126 < a) → ¬ (a = 91 ∧ (k = 19 ∨ k = 21 ∨ k = 22 ∨ k = 23 ∨ k = 43)) → x' a k = x a k
theorem fU.tr {x y z : Nat → Nat → Int32} (h1 : fU x y) (h2 : fU y z) : fU x z := fun a k q1 q2 => (h2 a k q1 q2).trans (h1 a k q1 q2)
theorem cO.row {x' : Nat → Nat → Int32} {w : sW} {p t m : Nat} {s : rs} (h : cO x' p t m (wCs w p t m s) (wFst w t m s)) : ∀ k, k < 6 → x' (119 + k) p = wRow w p t m s k := by
  obtain ⟨h0, h1, h2, h3, h4, h5, -⟩ := h
  intro k hk
  rcases (show k = 0 ∨ k = 1 ∨ k = 2 ∨ k = 3 ∨ k = 4 ∨ k = 5 by omega) with rfl | rfl | rfl | rfl | rfl | rfl
  · exact h0
  · exact h1
  · exact h2
  · exact h3
  · exact h4
  · exact h5
section RW
variable {n : Nat} {sh : Nat → Nat × Nat} {y : Nat → Nat → Option Nat}
set_option maxHeartbeats 2000000 in
theorem mm_41m (d : Nat) (H : moK n sh) (Y : moY y) {w : sW} (hK : wR w) {o : Int32} {tot : Nat} (h40 : tot ≤ 40) (Q : Option mj_R → Prop) : ∀ (j : Nat) (R : List (Nat × Nat)) (s : rs) (rows : List (Nat → Int32)) (x : Nat → Nat → Int32) (v3 v4 v5 v6 v7 v8 v9 : Option mj_V), R.length = j → rows.length + j = tot → R.Sublist (wAll w) → rS x w R s rows → s.2.2.length ≤ 87 * rows.length →
    (∀ x' w3 w4 w5 w6 w7 w8 w9, rS x' w [] (wGo w o j R s rows).1 (wGo w o j R s rows).2 → (wGo w o j R s rows).2.length = tot → (wGo w o j R s rows).1.2.2.length ≤ 87 * tot → fU x x' → Q (mj_Rn pg (d + 6) 41 (284, [some (.inr (some 91)), some (.inl o), some (.inl (nI tot)), w3, w4, w5, w6, w7, w8, w9], [], bl n sh x' y))) →
    Q (mj_Rn pg (d + 6) 41 (142, [some (.inr (some 91)), some (.inl o), some (.inl (nI tot)), v3, v4, v5, v6, v7, v8, v9], [], bl n sh x y)) := by
  intro j
  induction j with
  | zero =>
    intro R s rows x v3 v4 v5 v6 v7 v8 v9 hj ht hsub hS hl hX
    have h22 := hS.2.2.2.2.1
    have hle : (nI tot ≤ nI rows.length) = True := eq_true (nI_le (by omega) (by omega))
    have hR : R = [] := List.eq_nil_of_length_eq_zero hj
    subst hR
    rw [s_41_142]
    simp only [s_41_143, s_41_146, s_41_147, mj_lI_s, mj_lI_0, mj_lA_s, mj_lA_0, mj_sL_s, mj_sL_0, mj_s8_0, mj_s8_1, mj_s8_2, mj_s8_3, mj_bc_n, mj_bc_s, mj_bd_s, u2_eq, u2_a, u2_k, ne_eq, Nat.reduceEqDiff, not_false_eq_true, List.nil_append, List.cons_append, eq_self, true_or, or_true, if_true, if_false, false_or, or_false, not_true_eq_false, Bool.false_eq_true, ie_m1_0, ie_m1_1, ie_m1_2, ie_m1_3, ie_m1_4, ie_m1_5, ie_0_m1, ie_0_1, ie_0_2, ie_0_3, ie_0_4, ie_0_5, ie_1_m1, ie_1_0, ie_1_2, ie_1_3, ie_1_4, ie_1_5, ie_2_m1, ie_2_0, ie_2_1, ie_2_3, ie_2_4, ie_2_5, ie_3_m1, ie_3_0, ie_3_1, ie_3_2, ie_3_4, ie_3_5, ie_4_m1, ie_4_0, ie_4_1, ie_4_2, ie_4_3, ie_4_5, ie_5_m1, ie_5_0, ie_5_1, ie_5_2, ie_5_3, ie_5_4, mt_91 H, gv_0 H, gv_1 H, gv_2 H, gv_19 H, gv_20 H, gv_21 H, gv_22 H, gv_23 H, gv_43 H, pv_0 H, pv_1 H, pv_2 H, pv_19 H, pv_20 H, pv_21 H, pv_22 H, pv_23 H, pv_43 H, gr_3 H Y, gr_4 H Y, gr_5 H Y, gr_6 H Y, gr_7 H Y, gr_8 H Y, gr_9 H Y, gr_10 H Y, gr_11 H Y, gr_12 H Y, gr_13 H Y, gr_14 H Y, gr_15 H Y, gr_16 H Y, gr_17 H Y, gr_18 H Y, gr_24 H Y, gr_25 H Y, gr_26 H Y, gr_27 H Y, gr_28 H Y, gr_29 H Y, gr_30 H Y, gr_31 H Y, gr_32 H Y, gr_33 H Y, gr_34 H Y, gr_35 H Y, gr_36 H Y, gr_37 H Y, gr_38 H Y, gr_39 H Y, gr_40 H Y, gr_41 H Y, gr_42 H Y, ra_3 H, ra_4 H, ra_5 H, ra_6 H, ra_7 H, ra_8 H, ra_9 H, ra_10 H, ra_11 H, ra_12 H, ra_13 H, ra_14 H, ra_15 H, ra_16 H, ra_17 H, ra_18 H, ra_24 H, ra_25 H, ra_26 H, ra_27 H, ra_28 H, ra_29 H, ra_30 H, ra_31 H, ra_32 H, ra_33 H, ra_34 H, ra_35 H, ra_36 H, ra_37 H, ra_38 H, ra_39 H, ra_40 H, ra_41 H, ra_42 H, pa_3 H, pa_4 H, pa_5 H, pa_6 H, pa_7 H, pa_8 H, pa_9 H, pa_10 H, pa_11 H, pa_12 H, pa_13 H, pa_14 H, pa_15 H, pa_16 H, pa_17 H, pa_18 H, pa_24 H, pa_25 H, pa_26 H, pa_27 H, pa_28 H, pa_29 H, pa_30 H, pa_31 H, pa_32 H, pa_33 H, pa_34 H, pa_35 H, pa_36 H, pa_37 H, pa_38 H, pa_39 H, pa_40 H, pa_41 H, pa_42 H, h22, hle]
    exact hX x _ _ _ _ _ _ _ hS (by show rows.length = tot; omega) (by show s.2.2.length ≤ _; rw [show tot = rows.length by omega]; exact hl) (fun _ _ _ _ => rfl)
  | succ j ih =>
    intro R s rows x v3 v4 v5 v6 v7 v8 v9 hj ht hsub hS hl hX
    obtain ⟨hW, ⟨fl, hR⟩, hz, ho, h22, hrows, hD⟩ := hS
    have hle : (nI tot ≤ nI rows.length) = False := eq_false (nI_ge (by omega) (by omega))
    rw [s_41_142]
    simp only [s_41_143, s_41_146, s_41_147, s_41_150, s_41_151, s_41_152, s_41_153, s_41_155, s_41_156, s_41_158, s_41_159, mj_lI_s, mj_lI_0, mj_lA_s, mj_lA_0, mj_sL_s, mj_sL_0, mj_s8_0, mj_s8_1, mj_s8_2, mj_s8_3, mj_bc_n, mj_bc_s, mj_bd_s, u2_eq, u2_a, u2_k, ne_eq, Nat.reduceEqDiff, not_false_eq_true, List.nil_append, List.cons_append, eq_self, true_or, or_true, if_true, if_false, false_or, or_false, not_true_eq_false, Bool.false_eq_true, ie_m1_0, ie_m1_1, ie_m1_2, ie_m1_3, ie_m1_4, ie_m1_5, ie_0_m1, ie_0_1, ie_0_2, ie_0_3, ie_0_4, ie_0_5, ie_1_m1, ie_1_0, ie_1_2, ie_1_3, ie_1_4, ie_1_5, ie_2_m1, ie_2_0, ie_2_1, ie_2_3, ie_2_4, ie_2_5, ie_3_m1, ie_3_0, ie_3_1, ie_3_2, ie_3_4, ie_3_5, ie_4_m1, ie_4_0, ie_4_1, ie_4_2, ie_4_3, ie_4_5, ie_5_m1, ie_5_0, ie_5_1, ie_5_2, ie_5_3, ie_5_4, mt_91 H, gv_0 H, gv_1 H, gv_2 H, gv_19 H, gv_20 H, gv_21 H, gv_22 H, gv_23 H, gv_43 H, pv_0 H, pv_1 H, pv_2 H, pv_19 H, pv_20 H, pv_21 H, pv_22 H, pv_23 H, pv_43 H, gr_3 H Y, gr_4 H Y, gr_5 H Y, gr_6 H Y, gr_7 H Y, gr_8 H Y, gr_9 H Y, gr_10 H Y, gr_11 H Y, gr_12 H Y, gr_13 H Y, gr_14 H Y, gr_15 H Y, gr_16 H Y, gr_17 H Y, gr_18 H Y, gr_24 H Y, gr_25 H Y, gr_26 H Y, gr_27 H Y, gr_28 H Y, gr_29 H Y, gr_30 H Y, gr_31 H Y, gr_32 H Y, gr_33 H Y, gr_34 H Y, gr_35 H Y, gr_36 H Y, gr_37 H Y, gr_38 H Y, gr_39 H Y, gr_40 H Y, gr_41 H Y, gr_42 H Y, ra_3 H, ra_4 H, ra_5 H, ra_6 H, ra_7 H, ra_8 H, ra_9 H, ra_10 H, ra_11 H, ra_12 H, ra_13 H, ra_14 H, ra_15 H, ra_16 H, ra_17 H, ra_18 H, ra_24 H, ra_25 H, ra_26 H, ra_27 H, ra_28 H, ra_29 H, ra_30 H, ra_31 H, ra_32 H, ra_33 H, ra_34 H, ra_35 H, ra_36 H, ra_37 H, ra_38 H, ra_39 H, ra_40 H, ra_41 H, ra_42 H, pa_3 H, pa_4 H, pa_5 H, pa_6 H, pa_7 H, pa_8 H, pa_9 H, pa_10 H, pa_11 H, pa_12 H, pa_13 H, pa_14 H, pa_15 H, pa_16 H, pa_17 H, pa_18 H, pa_24 H, pa_25 H, pa_26 H, pa_27 H, pa_28 H, pa_29 H, pa_30 H, pa_31 H, pa_32 H, pa_33 H, pa_34 H, pa_35 H, pa_36 H, pa_37 H, pa_38 H, pa_39 H, pa_40 H, pa_41 H, pa_42 H, h22, hle]
    refine mm_41t (d + 1) H Y hK (R := R) (s := s) (by omega) Q (wT w) 0 none x v7 v8 v9 (by omega) hW hR hD (fun c hc => by cases hc) (fun x1 w6 w7 w8 w9 p1 => ?_)
    have e1 : (wAf w (wT w) 0).foldl (stp R (wLk w o s)) none = R.foldl (bst (wLk w o s)) none := by
      rw [stp_fold]
      exact congrArg (fun l => List.foldl (bst (wLk w o s)) none l) (sub_filter hsub (wAf_nd w _ 0))
    rw [e1]
    have hne : R ≠ [] := fun e => by rw [e] at hj; simp at hj
    obtain ⟨c, hc⟩ := bst_some (wLk w o s) R none (Or.inr hne)
    rw [hc]
    have hcR : c ∈ R := by
      rcases bst_mem _ R none c hc with q | q
      · cases q
      · exact q
    have hcA := wAf_mem (hsub.subset hcR)
    obtain ⟨t, m⟩ := c
    have htn : t < wT w := by have : t < 0 + wT w := hcA.2.1; omega
    have hmc : m < wCas w t := hcA.2.2
    have h8 := wCas_le w t
    have h20 := hW.2.2.1.2.1
    have h160 : 8 * t + m < 160 := by omega
    have hnd : R.Nodup := hsub.nodup (wAf_nd w _ 0)
    -- the case
    have hW1 := p1.mW hW
    have hWd : mW (u2 x1 125 (8 * t + m) 1) w := hW1.cong (fun a k h => u2_a (by omega))
    have hRd : rM (u2 x1 125 (8 * t + m) 1) (wF w) (wA w 2) s.1 s.2.1 s.2.2 fl := (p1.rM hR).cong (fun a k h => u2_a (by omega)) (by rw [u2_a (by decide)]; exact (p1.rM hR).2.2.2.1)
    have h22d : (u2 x1 125 (8 * t + m) 1) 91 22 = nI rows.length := by rw [u2_a (by decide), p1.2 91 22 (by decide) (by decide) (by decide) (by decide)]; exact h22
    obtain ⟨rk, k1, k2⟩ := id hK
    obtain ⟨s1, s2, s3, s4, s5, s6⟩ := hWd.2.2.2.2 t htn
    have hcs := mm_39 (y := y) (x := u2 x1 125 (8 * t + m) 1) d H Y (m := m) (p := rows.length) k1 k2 hWd.1 hWd.2.1 hWd.2.2.1 htn (by omega) s6 (hWd.cG htn) hRd hz s2 s3 s4 s5 h22d (by omega) (by omega)
    obtain ⟨x2, c1, c2, c3, c4⟩ := hcs
    have c2 : rM x2 (wF w) (wA w 2) (wCs w rows.length t m s).2.2.2.2.1.1 (wCs w rows.length t m s).2.2.2.2.1.2.1 (wCs w rows.length t m s).2.2.2.2.1.2.2 (wCs w rows.length t m s).2.2.2.2.2 := c2
    have c3 : cO x2 rows.length t m (wCs w rows.length t m s) (wFst w t m s) := c3
    have hu : ∀ f ∈ wU w t, f < wF w := (hW.2.2.1.2.2 t htn).2.2.2
    obtain ⟨o1, o2, o3, -⟩ := wCs_o (m := m) (p := rows.length) hK hW.1.2.1 s6 hu s ho hz
    have e2 : wGo w o (j + 1) R s rows = wGo w o j (R.erase (t, m)) (wCs w rows.length t m s).2.2.2.2.1 (rows ++ [wRow w rows.length t m s]) := by
      rw [wGo]
      rw [hc]
    rw [e2] at hX
    have b3e : b3 (some (t, m)) = nI t := rfl
    have b4e : b4 (some (t, m)) = nI m := rfl
    rw [b3e, b4e]
    simp only [s_41_261, s_41_262, s_41_265, s_41_267, s_41_268, s_41_269, s_41_271, s_41_272, s_41_273, s_41_274, s_41_275, s_41_276, s_41_278, s_41_281, mj_lI_s, mj_lI_0, mj_lA_s, mj_lA_0, mj_sL_s, mj_sL_0, mj_s8_0, mj_s8_1, mj_s8_2, mj_s8_3, mj_bc_n, mj_bc_s, mj_bd_s, u2_eq, u2_a, u2_k, ne_eq, Nat.reduceEqDiff, not_false_eq_true, List.nil_append, List.cons_append, eq_self, true_or, or_true, if_true, if_false, false_or, or_false, not_true_eq_false, Bool.false_eq_true, ie_m1_0, ie_m1_1, ie_m1_2, ie_m1_3, ie_m1_4, ie_m1_5, ie_0_m1, ie_0_1, ie_0_2, ie_0_3, ie_0_4, ie_0_5, ie_1_m1, ie_1_0, ie_1_2, ie_1_3, ie_1_4, ie_1_5, ie_2_m1, ie_2_0, ie_2_1, ie_2_3, ie_2_4, ie_2_5, ie_3_m1, ie_3_0, ie_3_1, ie_3_2, ie_3_4, ie_3_5, ie_4_m1, ie_4_0, ie_4_1, ie_4_2, ie_4_3, ie_4_5, ie_5_m1, ie_5_0, ie_5_1, ie_5_2, ie_5_3, ie_5_4, mt_91 H, gv_0 H, gv_1 H, gv_2 H, gv_19 H, gv_20 H, gv_21 H, gv_22 H, gv_23 H, gv_43 H, pv_0 H, pv_1 H, pv_2 H, pv_19 H, pv_20 H, pv_21 H, pv_22 H, pv_23 H, pv_43 H, gr_3 H Y, gr_4 H Y, gr_5 H Y, gr_6 H Y, gr_7 H Y, gr_8 H Y, gr_9 H Y, gr_10 H Y, gr_11 H Y, gr_12 H Y, gr_13 H Y, gr_14 H Y, gr_15 H Y, gr_16 H Y, gr_17 H Y, gr_18 H Y, gr_24 H Y, gr_25 H Y, gr_26 H Y, gr_27 H Y, gr_28 H Y, gr_29 H Y, gr_30 H Y, gr_31 H Y, gr_32 H Y, gr_33 H Y, gr_34 H Y, gr_35 H Y, gr_36 H Y, gr_37 H Y, gr_38 H Y, gr_39 H Y, gr_40 H Y, gr_41 H Y, gr_42 H Y, ra_3 H, ra_4 H, ra_5 H, ra_6 H, ra_7 H, ra_8 H, ra_9 H, ra_10 H, ra_11 H, ra_12 H, ra_13 H, ra_14 H, ra_15 H, ra_16 H, ra_17 H, ra_18 H, ra_24 H, ra_25 H, ra_26 H, ra_27 H, ra_28 H, ra_29 H, ra_30 H, ra_31 H, ra_32 H, ra_33 H, ra_34 H, ra_35 H, ra_36 H, ra_37 H, ra_38 H, ra_39 H, ra_40 H, ra_41 H, ra_42 H, pa_3 H, pa_4 H, pa_5 H, pa_6 H, pa_7 H, pa_8 H, pa_9 H, pa_10 H, pa_11 H, pa_12 H, pa_13 H, pa_14 H, pa_15 H, pa_16 H, pa_17 H, pa_18 H, pa_24 H, pa_25 H, pa_26 H, pa_27 H, pa_28 H, pa_29 H, pa_30 H, pa_31 H, pa_32 H, pa_33 H, pa_34 H, pa_35 H, pa_36 H, pa_37 H, pa_38 H, pa_39 H, pa_40 H, pa_41 H, pa_42 H, nI_mul8, h160, c1]
    refine ih (R.erase (t, m)) _ _ x2 _ _ _ _ _ _ _ ?_ ?_ ?_ ?_ ?_ (fun x' w3 w4 w5 w6 w7 w8 w9 r1 r2 r3 r4 => hX x' w3 w4 w5 w6 w7 w8 w9 r1 r2 r3 ?_)
    · rw [List.length_erase_of_mem hcR]; omega
    · rw [List.length_append, List.length_singleton]; omega
    · exact List.erase_sublist.trans hsub
    · refine ⟨hWd.cong (fun a k h => c4.1 a k (by omega) (by omega)), ⟨_, c2⟩, o1, o2, ?_, fun p r hp k hk => ?_, fun t' m' ht' hm' => ?_⟩
      · rw [List.length_append, List.length_singleton]; exact c3.2.2.2.2.2.2
      · rcases Nat.lt_or_ge p rows.length with q | q
        · rw [List.getElem?_append_left q] at hp
          rw [c4.2 (119 + k) p (by omega) (by omega) (by omega), u2_a (by omega), p1.2 (119 + k) p (by omega) (by omega) (by omega) (by omega)]
          exact hrows p r hp k hk
        · rw [List.getElem?_append_right q] at hp
          have h2 : p - rows.length < 1 := (List.getElem?_eq_some_iff.mp hp).1
          have h3 : p = rows.length := by omega
          subst h3
          rw [Nat.sub_self] at hp
          cases hp
          exact c3.row k hk
      · rw [c4.1 125 _ (by omega) (by omega)]
        by_cases e : (t', m') = (t, m)
        · cases e
          rw [u2_eq, if_neg (fun q => by
            have := (List.Nodup.mem_erase_iff hnd).mp q
            exact this.1 rfl)]
        · have hne2 : 8 * t' + m' ≠ 8 * t + m := fun q => e (by
            have := wCas_le w t'
            have h1 : t' = t := by omega
            have h2 : m' = m := by omega
            rw [h1, h2])
          rw [u2_k hne2, p1.mDn hD t' m' ht' hm']
          by_cases e5 : (t', m') ∈ R
          · rw [if_pos e5, if_pos ((List.mem_erase_of_ne e).mpr e5)]
          · rw [if_neg e5, if_neg (fun q => e5 (List.mem_of_mem_erase q))]
    · rw [List.length_append, List.length_singleton]; omega
    · refine fU.tr (fun a k q1 q2 => ?_) r4
      rw [c4.1 a k (by omega) (by omega), u2_a (by omega), p1.2 a k (by omega) (by omega) (by omega) (by omega)]
/-- all are marked -/
theorem mm_41e (d : Nat) (H : moK n sh) (Y : moY y) {nf : Nat} (h12 : nf ≤ 12) {l1 l2 v4 v5 v6 v7 v8 v9 : Option mj_V} (Q : Option mj_R → Prop) : ∀ (j k : Nat) (x : Nat → Nat → Int32), k + j = nf → x 91 1 = nI nf →
    (∀ x' w3, (∀ f, k ≤ f → f < nf → x' 126 f = 1) → (∀ b i, b ≠ 126 ∨ i < k → x' b i = x b i) → Q (mj_Rn pg (d + 1) 41 (307, [some (.inr (some 91)), l1, l2, w3, v4, v5, v6, v7, v8, v9], [], bl n sh x' y))) →
    Q (mj_Rn pg (d + 1) 41 (286, [some (.inr (some 91)), l1, l2, some (.inl (nI k)), v4, v5, v6, v7, v8, v9], [], bl n sh x y)) := by
  intro j
  induction j with
  | zero =>
    intro k x hk h1 hX
    have hle : (nI nf ≤ nI k) = True := eq_true (nI_le (by omega) (by omega))
    rw [s_41_286]
    simp only [s_41_287, s_41_288, s_41_291, s_41_294, s_41_295, s_41_298, s_41_299, s_41_300, s_41_301, s_41_304, mj_lI_s, mj_lI_0, mj_lA_s, mj_lA_0, mj_sL_s, mj_sL_0, mj_s8_0, mj_s8_1, mj_s8_2, mj_s8_3, mj_bc_n, mj_bc_s, mj_bd_s, u2_eq, u2_a, u2_k, ne_eq, Nat.reduceEqDiff, not_false_eq_true, List.nil_append, List.cons_append, eq_self, true_or, or_true, if_true, if_false, false_or, or_false, not_true_eq_false, Bool.false_eq_true, ie_m1_0, ie_m1_1, ie_m1_2, ie_m1_3, ie_m1_4, ie_m1_5, ie_0_m1, ie_0_1, ie_0_2, ie_0_3, ie_0_4, ie_0_5, ie_1_m1, ie_1_0, ie_1_2, ie_1_3, ie_1_4, ie_1_5, ie_2_m1, ie_2_0, ie_2_1, ie_2_3, ie_2_4, ie_2_5, ie_3_m1, ie_3_0, ie_3_1, ie_3_2, ie_3_4, ie_3_5, ie_4_m1, ie_4_0, ie_4_1, ie_4_2, ie_4_3, ie_4_5, ie_5_m1, ie_5_0, ie_5_1, ie_5_2, ie_5_3, ie_5_4, mt_91 H, gv_0 H, gv_1 H, gv_2 H, gv_19 H, gv_20 H, gv_21 H, gv_22 H, gv_23 H, gv_43 H, pv_0 H, pv_1 H, pv_2 H, pv_19 H, pv_20 H, pv_21 H, pv_22 H, pv_23 H, pv_43 H, gr_3 H Y, gr_4 H Y, gr_5 H Y, gr_6 H Y, gr_7 H Y, gr_8 H Y, gr_9 H Y, gr_10 H Y, gr_11 H Y, gr_12 H Y, gr_13 H Y, gr_14 H Y, gr_15 H Y, gr_16 H Y, gr_17 H Y, gr_18 H Y, gr_24 H Y, gr_25 H Y, gr_26 H Y, gr_27 H Y, gr_28 H Y, gr_29 H Y, gr_30 H Y, gr_31 H Y, gr_32 H Y, gr_33 H Y, gr_34 H Y, gr_35 H Y, gr_36 H Y, gr_37 H Y, gr_38 H Y, gr_39 H Y, gr_40 H Y, gr_41 H Y, gr_42 H Y, ra_3 H, ra_4 H, ra_5 H, ra_6 H, ra_7 H, ra_8 H, ra_9 H, ra_10 H, ra_11 H, ra_12 H, ra_13 H, ra_14 H, ra_15 H, ra_16 H, ra_17 H, ra_18 H, ra_24 H, ra_25 H, ra_26 H, ra_27 H, ra_28 H, ra_29 H, ra_30 H, ra_31 H, ra_32 H, ra_33 H, ra_34 H, ra_35 H, ra_36 H, ra_37 H, ra_38 H, ra_39 H, ra_40 H, ra_41 H, ra_42 H, pa_3 H, pa_4 H, pa_5 H, pa_6 H, pa_7 H, pa_8 H, pa_9 H, pa_10 H, pa_11 H, pa_12 H, pa_13 H, pa_14 H, pa_15 H, pa_16 H, pa_17 H, pa_18 H, pa_24 H, pa_25 H, pa_26 H, pa_27 H, pa_28 H, pa_29 H, pa_30 H, pa_31 H, pa_32 H, pa_33 H, pa_34 H, pa_35 H, pa_36 H, pa_37 H, pa_38 H, pa_39 H, pa_40 H, pa_41 H, pa_42 H, h1, hle]
    exact hX x _ (fun f h1 h2 => by omega) (fun _ _ _ => rfl)
  | succ j ih =>
    intro k x hk h1 hX
    have hle : (nI nf ≤ nI k) = False := eq_false (nI_ge (by omega) (by omega))
    have hk12 : k < 12 := by omega
    rw [s_41_286]
    simp only [s_41_287, s_41_288, s_41_291, s_41_294, s_41_295, s_41_298, s_41_299, s_41_300, s_41_301, s_41_304, mj_lI_s, mj_lI_0, mj_lA_s, mj_lA_0, mj_sL_s, mj_sL_0, mj_s8_0, mj_s8_1, mj_s8_2, mj_s8_3, mj_bc_n, mj_bc_s, mj_bd_s, u2_eq, u2_a, u2_k, ne_eq, Nat.reduceEqDiff, not_false_eq_true, List.nil_append, List.cons_append, eq_self, true_or, or_true, if_true, if_false, false_or, or_false, not_true_eq_false, Bool.false_eq_true, ie_m1_0, ie_m1_1, ie_m1_2, ie_m1_3, ie_m1_4, ie_m1_5, ie_0_m1, ie_0_1, ie_0_2, ie_0_3, ie_0_4, ie_0_5, ie_1_m1, ie_1_0, ie_1_2, ie_1_3, ie_1_4, ie_1_5, ie_2_m1, ie_2_0, ie_2_1, ie_2_3, ie_2_4, ie_2_5, ie_3_m1, ie_3_0, ie_3_1, ie_3_2, ie_3_4, ie_3_5, ie_4_m1, ie_4_0, ie_4_1, ie_4_2, ie_4_3, ie_4_5, ie_5_m1, ie_5_0, ie_5_1, ie_5_2, ie_5_3, ie_5_4, mt_91 H, gv_0 H, gv_1 H, gv_2 H, gv_19 H, gv_20 H, gv_21 H, gv_22 H, gv_23 H, gv_43 H, pv_0 H, pv_1 H, pv_2 H, pv_19 H, pv_20 H, pv_21 H, pv_22 H, pv_23 H, pv_43 H, gr_3 H Y, gr_4 H Y, gr_5 H Y, gr_6 H Y, gr_7 H Y, gr_8 H Y, gr_9 H Y, gr_10 H Y, gr_11 H Y, gr_12 H Y, gr_13 H Y, gr_14 H Y, gr_15 H Y, gr_16 H Y, gr_17 H Y, gr_18 H Y, gr_24 H Y, gr_25 H Y, gr_26 H Y, gr_27 H Y, gr_28 H Y, gr_29 H Y, gr_30 H Y, gr_31 H Y, gr_32 H Y, gr_33 H Y, gr_34 H Y, gr_35 H Y, gr_36 H Y, gr_37 H Y, gr_38 H Y, gr_39 H Y, gr_40 H Y, gr_41 H Y, gr_42 H Y, ra_3 H, ra_4 H, ra_5 H, ra_6 H, ra_7 H, ra_8 H, ra_9 H, ra_10 H, ra_11 H, ra_12 H, ra_13 H, ra_14 H, ra_15 H, ra_16 H, ra_17 H, ra_18 H, ra_24 H, ra_25 H, ra_26 H, ra_27 H, ra_28 H, ra_29 H, ra_30 H, ra_31 H, ra_32 H, ra_33 H, ra_34 H, ra_35 H, ra_36 H, ra_37 H, ra_38 H, ra_39 H, ra_40 H, ra_41 H, ra_42 H, pa_3 H, pa_4 H, pa_5 H, pa_6 H, pa_7 H, pa_8 H, pa_9 H, pa_10 H, pa_11 H, pa_12 H, pa_13 H, pa_14 H, pa_15 H, pa_16 H, pa_17 H, pa_18 H, pa_24 H, pa_25 H, pa_26 H, pa_27 H, pa_28 H, pa_29 H, pa_30 H, pa_31 H, pa_32 H, pa_33 H, pa_34 H, pa_35 H, pa_36 H, pa_37 H, pa_38 H, pa_39 H, pa_40 H, pa_41 H, pa_42 H, h1, hle, hk12, nI_1]
    refine ih (k + 1) _ (by omega) (by rw [u2_a (by decide)]; exact h1) (fun x' w3 h1 h2 => hX x' w3 (fun f q1 q2 => ?_) (fun b i q => ?_))
    · rcases Nat.lt_or_ge k f with q | q
      · exact h1 f q q2
      · have : f = k := by omega
        subst this
        rw [h2 126 f (by omega), u2_eq]
    · rw [h2 b i (by omega), u2_ne (by omega)]
end RW
theorem sE_ind (ef : Nat → Nat) : ∀ (l : List Nat) (q : rq) (ev : List re3) (a b : Nat), (l.foldl (sE ef) (q, ev, a)).1 = (l.foldl (sE ef) (q, ev, b)).1 ∧ (l.foldl (sE ef) (q, ev, a)).2.1 = (l.foldl (sE ef) (q, ev, b)).2.1 := by
  intro l
  induction l with
  | nil => intro q ev a b; exact ⟨rfl, rfl⟩
  | cons f l ih => intro q ev a b; exact ih _ _ _ _
/-- a run: the fixtures' numbers, the events, the rows of its cases -/
def wRun (w : sW) (o : Int32) : rq × List re3 × List (Nat → Int32) :=
  let g := wGo w o (wAll w).length (wAll w) ([], fun _ _ => 0, []) []
  ((g.1.1.reverse.foldl (sE (wA w 2)) (g.1.2.1, g.1.2.2, 0)).1, (g.1.1.reverse.foldl (sE (wA w 2)) (g.1.2.1, g.1.2.2, 0)).2.1, g.2)
/-- the latest run, as the reference tells it -/
def mL (x : Nat → Nat → Int32) (nf : Nat) (L : rq × List re3 × List (Nat → Int32)) : Prop := x 91 20 = nI nf ∧ nf ≤ 12 ∧ (∀ f, f < nf → x 113 f = L.1 f 12 ∧ x 114 f = L.1 f 13 ∧ x 115 f = L.1 f 14) ∧ (x 91 21 = nI L.2.1.length ∧ L.2.1.length ≤ 3492 ∧ ∀ e t, L.2.1[e]? = some t → x 116 e = t.1 ∧ x 117 e = t.2.1 ∧ x 118 e = t.2.2) ∧ x 91 22 = nI L.2.2.length ∧ L.2.2.length ≤ 40 ∧ ∀ p r, L.2.2[p]? = some r → ∀ k, k < 6 → x (119 + k) p = r k
def fV (x x' : Nat → Nat → Int32) : Prop := ∀ a k, (a < 105 ∨ 126 < a) → ¬ (a = 91 ∧ (k = 0 ∨ k = 19 ∨ k = 20 ∨ k = 21 ∨ k = 22 ∨ k = 23 ∨ k = 43)) → x' a k = x a k
theorem nI_all (v : Int32) : ∃ k, v = nI k := by
  refine ⟨v.toBitVec.toNat, ?_⟩
  unfold nI
  apply Int32.toBitVec_inj.mp
  show v.toBitVec = BitVec.ofNat 32 v.toBitVec.toNat
  rw [BitVec.ofNat_toNat, BitVec.setWidth_eq]
section RX
variable {n : Nat} {sh : Nat → Nat × Nat} {x : Nat → Nat → Int32} {y : Nat → Nat → Option Nat}
set_option maxHeartbeats 2000000 in
/-- run -/
theorem mm_41 (d : Nat) (H : moK n sh) (Y : moY y) {w : sW} (hK : wR w) (hW : mW x w) (o : Int32) : ∃ x', mj_Cl pg (d + 6) 41 [.inr (some 91), .inl o] (bl n sh x y) = some (some (.inl (if o < 0 ∨ 1 < o ∨ 40 < (wAll w).length then -1 else nI (wAll w).length)), bl n sh x' y) ∧ ((o < 0 ∨ 1 < o ∨ 40 < (wAll w).length) → fr3 (u2 x 91 0 0) x' 0) ∧ (¬ (o < 0 ∨ 1 < o ∨ 40 < (wAll w).length) → mL x' (wF w) (wRun w o) ∧ fV x x') := by
  have hW0 : mW (u2 x 91 0 0) w := hW.cong (fun a k h => u2_ne (by omega))
  have hs : (wAll w).length = wSum w (wT w) 0 := wAf_len w _ 0
  have h160 : wSum w (wT w) 0 ≤ 160 := by
    have h20 := hW.2.2.1.2.1
    have : ∀ j k, wSum w j k ≤ 8 * j := by
      intro j
      induction j with
      | zero => intro k; exact Nat.le_refl _
      | succ j ih => intro k; have := ih (k + 1); have := wCas_le w k; show wCas w k + wSum w j (k + 1) ≤ _; omega
    have := this (wT w) 0
    omega
  have key : ∀ Q : Option mj_R → Prop, (∀ x', ((o < 0 ∨ 1 < o ∨ 40 < (wAll w).length) → fr3 (u2 x 91 0 0) x' 0) ∧ (¬ (o < 0 ∨ 1 < o ∨ 40 < (wAll w).length) → mL x' (wF w) (wRun w o) ∧ fV x x') → Q (some (some (.inl (if o < 0 ∨ 1 < o ∨ 40 < (wAll w).length then -1 else nI (wAll w).length)), bl n sh x' y))) → Q (mj_Cl pg (d + 6) 41 [.inr (some 91), .inl o] (bl n sh x y)) := by
    intro Q hX
    rw [e_41]
    simp only [s_41_0, s_41_1, s_41_2, s_41_5, s_41_6, s_41_7, s_41_8, mj_lI_s, mj_lI_0, mj_lA_s, mj_lA_0, mj_sL_s, mj_sL_0, mj_s8_0, mj_s8_1, mj_s8_2, mj_s8_3, mj_bc_n, mj_bc_s, mj_bd_s, u2_eq, u2_a, u2_k, ne_eq, Nat.reduceEqDiff, not_false_eq_true, List.nil_append, List.cons_append, eq_self, true_or, or_true, if_true, if_false, false_or, or_false, not_true_eq_false, Bool.false_eq_true, ie_m1_0, ie_m1_1, ie_m1_2, ie_m1_3, ie_m1_4, ie_m1_5, ie_0_m1, ie_0_1, ie_0_2, ie_0_3, ie_0_4, ie_0_5, ie_1_m1, ie_1_0, ie_1_2, ie_1_3, ie_1_4, ie_1_5, ie_2_m1, ie_2_0, ie_2_1, ie_2_3, ie_2_4, ie_2_5, ie_3_m1, ie_3_0, ie_3_1, ie_3_2, ie_3_4, ie_3_5, ie_4_m1, ie_4_0, ie_4_1, ie_4_2, ie_4_3, ie_4_5, ie_5_m1, ie_5_0, ie_5_1, ie_5_2, ie_5_3, ie_5_4, mt_91 H, gv_0 H, gv_1 H, gv_2 H, gv_19 H, gv_20 H, gv_21 H, gv_22 H, gv_23 H, gv_43 H, pv_0 H, pv_1 H, pv_2 H, pv_19 H, pv_20 H, pv_21 H, pv_22 H, pv_23 H, pv_43 H, gr_3 H Y, gr_4 H Y, gr_5 H Y, gr_6 H Y, gr_7 H Y, gr_8 H Y, gr_9 H Y, gr_10 H Y, gr_11 H Y, gr_12 H Y, gr_13 H Y, gr_14 H Y, gr_15 H Y, gr_16 H Y, gr_17 H Y, gr_18 H Y, gr_24 H Y, gr_25 H Y, gr_26 H Y, gr_27 H Y, gr_28 H Y, gr_29 H Y, gr_30 H Y, gr_31 H Y, gr_32 H Y, gr_33 H Y, gr_34 H Y, gr_35 H Y, gr_36 H Y, gr_37 H Y, gr_38 H Y, gr_39 H Y, gr_40 H Y, gr_41 H Y, gr_42 H Y, ra_3 H, ra_4 H, ra_5 H, ra_6 H, ra_7 H, ra_8 H, ra_9 H, ra_10 H, ra_11 H, ra_12 H, ra_13 H, ra_14 H, ra_15 H, ra_16 H, ra_17 H, ra_18 H, ra_24 H, ra_25 H, ra_26 H, ra_27 H, ra_28 H, ra_29 H, ra_30 H, ra_31 H, ra_32 H, ra_33 H, ra_34 H, ra_35 H, ra_36 H, ra_37 H, ra_38 H, ra_39 H, ra_40 H, ra_41 H, ra_42 H, pa_3 H, pa_4 H, pa_5 H, pa_6 H, pa_7 H, pa_8 H, pa_9 H, pa_10 H, pa_11 H, pa_12 H, pa_13 H, pa_14 H, pa_15 H, pa_16 H, pa_17 H, pa_18 H, pa_24 H, pa_25 H, pa_26 H, pa_27 H, pa_28 H, pa_29 H, pa_30 H, pa_31 H, pa_32 H, pa_33 H, pa_34 H, pa_35 H, pa_36 H, pa_37 H, pa_38 H, pa_39 H, pa_40 H, pa_41 H, pa_42 H]
    refine mm_41s (d + 1) H Y hK Q (wT w) 0 0 (u2 x 91 0 0) (by omega) hW0 (fun x1 w3 p1 => ?_)
    rw [Nat.zero_add, ← hs]
    rw [← hs] at h160
    by_cases c1 : o < 0
    · rw [if_pos (Or.inl c1)] at hX
      simp only [s_41_31, s_41_32, s_41_35, s_41_36, s_41_37, s_41_40, s_41_41, s_41_43, s_41_46, s_41_47, mj_lI_s, mj_lI_0, mj_lA_s, mj_lA_0, mj_sL_s, mj_sL_0, mj_s8_0, mj_s8_1, mj_s8_2, mj_s8_3, mj_bc_n, mj_bc_s, mj_bd_s, u2_eq, u2_a, u2_k, ne_eq, Nat.reduceEqDiff, not_false_eq_true, List.nil_append, List.cons_append, eq_self, true_or, or_true, if_true, if_false, false_or, or_false, not_true_eq_false, Bool.false_eq_true, ie_m1_0, ie_m1_1, ie_m1_2, ie_m1_3, ie_m1_4, ie_m1_5, ie_0_m1, ie_0_1, ie_0_2, ie_0_3, ie_0_4, ie_0_5, ie_1_m1, ie_1_0, ie_1_2, ie_1_3, ie_1_4, ie_1_5, ie_2_m1, ie_2_0, ie_2_1, ie_2_3, ie_2_4, ie_2_5, ie_3_m1, ie_3_0, ie_3_1, ie_3_2, ie_3_4, ie_3_5, ie_4_m1, ie_4_0, ie_4_1, ie_4_2, ie_4_3, ie_4_5, ie_5_m1, ie_5_0, ie_5_1, ie_5_2, ie_5_3, ie_5_4, c1]
      exact hX x1 ⟨fun _ => p1, fun q => absurd (Or.inl c1) q⟩
    by_cases c2 : 1 < o
    · rw [if_pos (Or.inr (Or.inl c2))] at hX
      simp only [s_41_31, s_41_32, s_41_35, s_41_36, s_41_37, s_41_40, s_41_41, s_41_43, s_41_46, s_41_47, mj_lI_s, mj_lI_0, mj_lA_s, mj_lA_0, mj_sL_s, mj_sL_0, mj_s8_0, mj_s8_1, mj_s8_2, mj_s8_3, mj_bc_n, mj_bc_s, mj_bd_s, u2_eq, u2_a, u2_k, ne_eq, Nat.reduceEqDiff, not_false_eq_true, List.nil_append, List.cons_append, eq_self, true_or, or_true, if_true, if_false, false_or, or_false, not_true_eq_false, Bool.false_eq_true, ie_m1_0, ie_m1_1, ie_m1_2, ie_m1_3, ie_m1_4, ie_m1_5, ie_0_m1, ie_0_1, ie_0_2, ie_0_3, ie_0_4, ie_0_5, ie_1_m1, ie_1_0, ie_1_2, ie_1_3, ie_1_4, ie_1_5, ie_2_m1, ie_2_0, ie_2_1, ie_2_3, ie_2_4, ie_2_5, ie_3_m1, ie_3_0, ie_3_1, ie_3_2, ie_3_4, ie_3_5, ie_4_m1, ie_4_0, ie_4_1, ie_4_2, ie_4_3, ie_4_5, ie_5_m1, ie_5_0, ie_5_1, ie_5_2, ie_5_3, ie_5_4, c1, c2]
      exact hX x1 ⟨fun _ => p1, fun q => absurd (Or.inr (Or.inl c2)) q⟩
    by_cases c3 : 40 < (wAll w).length
    · rw [if_pos (Or.inr (Or.inr c3))] at hX
      have c4 : (nI (wAll w).length ≤ 40) = False := eq_false (nI_ge (b := (wAll w).length) (a := 40) c3 (by omega))
      simp only [s_41_31, s_41_32, s_41_35, s_41_36, s_41_37, s_41_40, s_41_41, s_41_43, s_41_46, s_41_47, mj_lI_s, mj_lI_0, mj_lA_s, mj_lA_0, mj_sL_s, mj_sL_0, mj_s8_0, mj_s8_1, mj_s8_2, mj_s8_3, mj_bc_n, mj_bc_s, mj_bd_s, u2_eq, u2_a, u2_k, ne_eq, Nat.reduceEqDiff, not_false_eq_true, List.nil_append, List.cons_append, eq_self, true_or, or_true, if_true, if_false, false_or, or_false, not_true_eq_false, Bool.false_eq_true, ie_m1_0, ie_m1_1, ie_m1_2, ie_m1_3, ie_m1_4, ie_m1_5, ie_0_m1, ie_0_1, ie_0_2, ie_0_3, ie_0_4, ie_0_5, ie_1_m1, ie_1_0, ie_1_2, ie_1_3, ie_1_4, ie_1_5, ie_2_m1, ie_2_0, ie_2_1, ie_2_3, ie_2_4, ie_2_5, ie_3_m1, ie_3_0, ie_3_1, ie_3_2, ie_3_4, ie_3_5, ie_4_m1, ie_4_0, ie_4_1, ie_4_2, ie_4_3, ie_4_5, ie_5_m1, ie_5_0, ie_5_1, ie_5_2, ie_5_3, ie_5_4, c1, c2, c4]
      exact hX x1 ⟨fun _ => p1, fun q => absurd (Or.inr (Or.inr c3)) q⟩
    have hn : ¬ (o < 0 ∨ 1 < o ∨ 40 < (wAll w).length) := fun q => by
      rcases q with q | q | q
      · exact c1 q
      · exact c2 q
      · exact c3 q
    rw [if_neg hn] at hX
    have c4 : (nI (wAll w).length ≤ 40) = True := eq_true (nI_le (b := 40) (by omega) (by omega))
    have hW1 := p1.mW hW0
    have h12 := hW.1.2.1
    have hF1 := hW1.1.1
    simp only [s_41_31, s_41_32, s_41_35, s_41_36, s_41_37, s_41_40, s_41_41, s_41_43, s_41_46, s_41_47, s_41_48, s_41_49, s_41_50, s_41_53, s_41_56, s_41_57, s_41_58, s_41_61, s_41_62, s_41_63, s_41_66, s_41_67, s_41_68, s_41_71, s_41_72, mj_lI_s, mj_lI_0, mj_lA_s, mj_lA_0, mj_sL_s, mj_sL_0, mj_s8_0, mj_s8_1, mj_s8_2, mj_s8_3, mj_bc_n, mj_bc_s, mj_bd_s, u2_eq, u2_a, u2_k, ne_eq, Nat.reduceEqDiff, not_false_eq_true, List.nil_append, List.cons_append, eq_self, true_or, or_true, if_true, if_false, false_or, or_false, not_true_eq_false, Bool.false_eq_true, ie_m1_0, ie_m1_1, ie_m1_2, ie_m1_3, ie_m1_4, ie_m1_5, ie_0_m1, ie_0_1, ie_0_2, ie_0_3, ie_0_4, ie_0_5, ie_1_m1, ie_1_0, ie_1_2, ie_1_3, ie_1_4, ie_1_5, ie_2_m1, ie_2_0, ie_2_1, ie_2_3, ie_2_4, ie_2_5, ie_3_m1, ie_3_0, ie_3_1, ie_3_2, ie_3_4, ie_3_5, ie_4_m1, ie_4_0, ie_4_1, ie_4_2, ie_4_3, ie_4_5, ie_5_m1, ie_5_0, ie_5_1, ie_5_2, ie_5_3, ie_5_4, mt_91 H, gv_0 H, gv_1 H, gv_2 H, gv_19 H, gv_20 H, gv_21 H, gv_22 H, gv_23 H, gv_43 H, pv_0 H, pv_1 H, pv_2 H, pv_19 H, pv_20 H, pv_21 H, pv_22 H, pv_23 H, pv_43 H, gr_3 H Y, gr_4 H Y, gr_5 H Y, gr_6 H Y, gr_7 H Y, gr_8 H Y, gr_9 H Y, gr_10 H Y, gr_11 H Y, gr_12 H Y, gr_13 H Y, gr_14 H Y, gr_15 H Y, gr_16 H Y, gr_17 H Y, gr_18 H Y, gr_24 H Y, gr_25 H Y, gr_26 H Y, gr_27 H Y, gr_28 H Y, gr_29 H Y, gr_30 H Y, gr_31 H Y, gr_32 H Y, gr_33 H Y, gr_34 H Y, gr_35 H Y, gr_36 H Y, gr_37 H Y, gr_38 H Y, gr_39 H Y, gr_40 H Y, gr_41 H Y, gr_42 H Y, ra_3 H, ra_4 H, ra_5 H, ra_6 H, ra_7 H, ra_8 H, ra_9 H, ra_10 H, ra_11 H, ra_12 H, ra_13 H, ra_14 H, ra_15 H, ra_16 H, ra_17 H, ra_18 H, ra_24 H, ra_25 H, ra_26 H, ra_27 H, ra_28 H, ra_29 H, ra_30 H, ra_31 H, ra_32 H, ra_33 H, ra_34 H, ra_35 H, ra_36 H, ra_37 H, ra_38 H, ra_39 H, ra_40 H, ra_41 H, ra_42 H, pa_3 H, pa_4 H, pa_5 H, pa_6 H, pa_7 H, pa_8 H, pa_9 H, pa_10 H, pa_11 H, pa_12 H, pa_13 H, pa_14 H, pa_15 H, pa_16 H, pa_17 H, pa_18 H, pa_24 H, pa_25 H, pa_26 H, pa_27 H, pa_28 H, pa_29 H, pa_30 H, pa_31 H, pa_32 H, pa_33 H, pa_34 H, pa_35 H, pa_36 H, pa_37 H, pa_38 H, pa_39 H, pa_40 H, pa_41 H, pa_42 H, c1, c2, c4, hF1]
    refine mm_41z (d + 5) H Y Q 12 0 _ (by omega) (fun x2 w3 q1 q2 => ?_)
    simp only [s_41_120, s_41_121, mj_lI_s, mj_lI_0, mj_lA_s, mj_lA_0, mj_sL_s, mj_sL_0, mj_s8_0, mj_s8_1, mj_s8_2, mj_s8_3, mj_bc_n, mj_bc_s, mj_bd_s, u2_eq, u2_a, u2_k, ne_eq, Nat.reduceEqDiff, not_false_eq_true, List.nil_append, List.cons_append, eq_self, true_or, or_true, if_true, if_false, false_or, or_false, not_true_eq_false, Bool.false_eq_true, ie_m1_0, ie_m1_1, ie_m1_2, ie_m1_3, ie_m1_4, ie_m1_5, ie_0_m1, ie_0_1, ie_0_2, ie_0_3, ie_0_4, ie_0_5, ie_1_m1, ie_1_0, ie_1_2, ie_1_3, ie_1_4, ie_1_5, ie_2_m1, ie_2_0, ie_2_1, ie_2_3, ie_2_4, ie_2_5, ie_3_m1, ie_3_0, ie_3_1, ie_3_2, ie_3_4, ie_3_5, ie_4_m1, ie_4_0, ie_4_1, ie_4_2, ie_4_3, ie_4_5, ie_5_m1, ie_5_0, ie_5_1, ie_5_2, ie_5_3, ie_5_4]
    refine mm_41d (d + 5) H Y Q 160 0 _ (by omega) (fun x3 w3 r1 r2 => ?_)
    have g3 : ∀ b i, b ≠ 108 → b ≠ 111 → b ≠ 113 → b ≠ 114 → b ≠ 115 → b ≠ 125 → ¬ (b = 91 ∧ (i = 20 ∨ i = 21 ∨ i = 22 ∨ i = 23)) → x3 b i = x1 b i := fun b i z1 z2 z3 z4 z5 z6 z7 => by
      rw [r2 b i (by omega), q2 b i (by omega), u2_ne (by omega), u2_ne (by omega), u2_ne (by omega), u2_ne (by omega)]
    have hW3 : mW x3 w := hW1.cong (fun a k h => g3 a k (by omega) (by omega) (by omega) (by omega) (by omega) (by omega) (by omega))
    obtain ⟨fl, hfl⟩ := nI_all (x3 91 43)
    have z3 : ∀ k, k = 21 ∨ k = 22 ∨ k = 23 → x3 91 k = 0 := fun k hk => by
      rw [r2 91 k (by omega), q2 91 k (by omega)]
      rcases hk with rfl | rfl | rfl <;> simp only [mj_lI_s, mj_lI_0, mj_lA_s, mj_lA_0, mj_sL_s, mj_sL_0, mj_s8_0, mj_s8_1, mj_s8_2, mj_s8_3, mj_bc_n, mj_bc_s, mj_bd_s, u2_eq, u2_a, u2_k, ne_eq, Nat.reduceEqDiff, not_false_eq_true, List.nil_append, List.cons_append, eq_self, true_or, or_true, if_true, if_false, false_or, or_false, not_true_eq_false, Bool.false_eq_true, ie_m1_0, ie_m1_1, ie_m1_2, ie_m1_3, ie_m1_4, ie_m1_5, ie_0_m1, ie_0_1, ie_0_2, ie_0_3, ie_0_4, ie_0_5, ie_1_m1, ie_1_0, ie_1_2, ie_1_3, ie_1_4, ie_1_5, ie_2_m1, ie_2_0, ie_2_1, ie_2_3, ie_2_4, ie_2_5, ie_3_m1, ie_3_0, ie_3_1, ie_3_2, ie_3_4, ie_3_5, ie_4_m1, ie_4_0, ie_4_1, ie_4_2, ie_4_3, ie_4_5, ie_5_m1, ie_5_0, ie_5_1, ie_5_2, ie_5_3, ie_5_4]
    have z4 : ∀ f, f < wF w → x3 108 f = 0 ∧ x3 111 f = 0 ∧ x3 113 f = 0 ∧ x3 114 f = 0 ∧ x3 115 f = 0 := fun f hf => by
      rw [r2 108 f (by omega), r2 111 f (by omega), r2 113 f (by omega), r2 114 f (by omega), r2 115 f (by omega)]
      exact q1 f (by omega) (by omega)
    have hS3 : rS x3 w (wAll w) ([], fun _ _ => 0, []) [] := by
      refine ⟨hW3, ⟨fl, ⟨fun _ => 0, 0, ⟨List.nodup_nil, fun f hf => absurd hf (by simp), fun f hf => ⟨(z4 f hf).1, Nat.le_refl _⟩, fun f hf => by simp, List.Pairwise.nil⟩, z3 23 (by omega), Nat.le_refl _⟩, fun f hf => ⟨fun q => absurd q (by simp), (z4 f hf).2.1, fun q => absurd rfl q, (z4 f hf).2.2.1, (z4 f hf).2.2.2.1, (z4 f hf).2.2.2.2⟩, ⟨z3 21 (by omega), fun e t ht => by simp at ht⟩, hfl, fun f hf => (hW3.2.2.2.1 f hf).2.2.2⟩, fun f hf h0 => rfl, ⟨List.nodup_nil, fun f hf => absurd hf (by simp)⟩, z3 22 (by omega), fun p r hp => by simp at hp, fun t m ht hm => ?_⟩
      have h8 := wCas_le w t
      have h20 := hW.2.2.1.2.1
      rw [r1 (8 * t + m) (by omega) (by omega), if_pos]
      have mem : ∀ j k, k ≤ t → t < k + j → (t, m) ∈ wAf w j k := by
        have mr : ∀ i a, a ≤ m → m < a + i → (t, m) ∈ wRg t i a := by
          intro i
          induction i with
          | zero => intro a h1 h2; omega
          | succ i ih =>
            intro a h1 h2
            by_cases e : a = m
            · subst e; exact List.mem_cons_self
            · exact List.mem_cons_of_mem _ (ih (a + 1) (by omega) (by omega))
        intro j
        induction j with
        | zero => intro k h1 h2; omega
        | succ j ih =>
          intro k h1 h2
          by_cases e : k = t
          · subst e; exact List.mem_append_left _ (mr _ 0 (by omega) (by omega))
          · exact List.mem_append_right _ (ih (k + 1) (by omega) (by omega))
      exact mem (wT w) 0 (by omega) (by omega)
    refine mm_41m d H Y hK (tot := (wAll w).length) (by omega) Q (wAll w).length (wAll w) ([], fun _ _ => 0, []) [] x3 _ _ _ _ _ _ _ rfl (by simp) (List.Sublist.refl _) hS3 (by simp) (fun x4 u3 u4 u5 u6 u7 u8 u9 s1 s2 s3 s4 => ?_)
    obtain ⟨hW4, ⟨fl4, hR4⟩, -, ho4, h22, hrows, -⟩ := s1
    have hF4 := hW4.1.1
    simp only [s_41_284, s_41_285, mj_lI_s, mj_lI_0, mj_lA_s, mj_lA_0, mj_sL_s, mj_sL_0, mj_s8_0, mj_s8_1, mj_s8_2, mj_s8_3, mj_bc_n, mj_bc_s, mj_bd_s, u2_eq, u2_a, u2_k, ne_eq, Nat.reduceEqDiff, not_false_eq_true, List.nil_append, List.cons_append, eq_self, true_or, or_true, if_true, if_false, false_or, or_false, not_true_eq_false, Bool.false_eq_true, ie_m1_0, ie_m1_1, ie_m1_2, ie_m1_3, ie_m1_4, ie_m1_5, ie_0_m1, ie_0_1, ie_0_2, ie_0_3, ie_0_4, ie_0_5, ie_1_m1, ie_1_0, ie_1_2, ie_1_3, ie_1_4, ie_1_5, ie_2_m1, ie_2_0, ie_2_1, ie_2_3, ie_2_4, ie_2_5, ie_3_m1, ie_3_0, ie_3_1, ie_3_2, ie_3_4, ie_3_5, ie_4_m1, ie_4_0, ie_4_1, ie_4_2, ie_4_3, ie_4_5, ie_5_m1, ie_5_0, ie_5_1, ie_5_2, ie_5_3, ie_5_4]
    refine mm_41e (d + 5) H Y h12 Q (wF w) 0 x4 (by omega) hF4 (fun x5 w3 t1 t2 => ?_)
    have hR5 : rM x5 (wF w) (wA w 2) _ _ _ fl4 := hR4.cong (fun a k h => t2 a k (by omega)) (by rw [t2 91 43 (by omega)]; exact hR4.2.2.2.1)
    obtain ⟨x6, v1, v2, v3⟩ := mm_36 (x := x5) (y := y) (d + 2) H Y (E := fun _ => true) h12 (by rw [t2 91 1 (by omega)]; exact hF4) (fun f hf => t1 f (by omega) hf) hR5 (by omega)
    simp only [s_41_307, s_41_308, s_41_311, s_41_312, mj_lI_s, mj_lI_0, mj_lA_s, mj_lA_0, mj_sL_s, mj_sL_0, mj_s8_0, mj_s8_1, mj_s8_2, mj_s8_3, mj_bc_n, mj_bc_s, mj_bd_s, u2_eq, u2_a, u2_k, ne_eq, Nat.reduceEqDiff, not_false_eq_true, List.nil_append, List.cons_append, eq_self, true_or, or_true, if_true, if_false, false_or, or_false, not_true_eq_false, Bool.false_eq_true, ie_m1_0, ie_m1_1, ie_m1_2, ie_m1_3, ie_m1_4, ie_m1_5, ie_0_m1, ie_0_1, ie_0_2, ie_0_3, ie_0_4, ie_0_5, ie_1_m1, ie_1_0, ie_1_2, ie_1_3, ie_1_4, ie_1_5, ie_2_m1, ie_2_0, ie_2_1, ie_2_3, ie_2_4, ie_2_5, ie_3_m1, ie_3_0, ie_3_1, ie_3_2, ie_3_4, ie_3_5, ie_4_m1, ie_4_0, ie_4_1, ie_4_2, ie_4_3, ie_4_5, ie_5_m1, ie_5_0, ie_5_1, ie_5_2, ie_5_3, ie_5_4, mt_91 H, gv_0 H, gv_1 H, gv_2 H, gv_19 H, gv_20 H, gv_21 H, gv_22 H, gv_23 H, gv_43 H, pv_0 H, pv_1 H, pv_2 H, pv_19 H, pv_20 H, pv_21 H, pv_22 H, pv_23 H, pv_43 H, gr_3 H Y, gr_4 H Y, gr_5 H Y, gr_6 H Y, gr_7 H Y, gr_8 H Y, gr_9 H Y, gr_10 H Y, gr_11 H Y, gr_12 H Y, gr_13 H Y, gr_14 H Y, gr_15 H Y, gr_16 H Y, gr_17 H Y, gr_18 H Y, gr_24 H Y, gr_25 H Y, gr_26 H Y, gr_27 H Y, gr_28 H Y, gr_29 H Y, gr_30 H Y, gr_31 H Y, gr_32 H Y, gr_33 H Y, gr_34 H Y, gr_35 H Y, gr_36 H Y, gr_37 H Y, gr_38 H Y, gr_39 H Y, gr_40 H Y, gr_41 H Y, gr_42 H Y, ra_3 H, ra_4 H, ra_5 H, ra_6 H, ra_7 H, ra_8 H, ra_9 H, ra_10 H, ra_11 H, ra_12 H, ra_13 H, ra_14 H, ra_15 H, ra_16 H, ra_17 H, ra_18 H, ra_24 H, ra_25 H, ra_26 H, ra_27 H, ra_28 H, ra_29 H, ra_30 H, ra_31 H, ra_32 H, ra_33 H, ra_34 H, ra_35 H, ra_36 H, ra_37 H, ra_38 H, ra_39 H, ra_40 H, ra_41 H, ra_42 H, pa_3 H, pa_4 H, pa_5 H, pa_6 H, pa_7 H, pa_8 H, pa_9 H, pa_10 H, pa_11 H, pa_12 H, pa_13 H, pa_14 H, pa_15 H, pa_16 H, pa_17 H, pa_18 H, pa_24 H, pa_25 H, pa_26 H, pa_27 H, pa_28 H, pa_29 H, pa_30 H, pa_31 H, pa_32 H, pa_33 H, pa_34 H, pa_35 H, pa_36 H, pa_37 H, pa_38 H, pa_39 H, pa_40 H, pa_41 H, pa_42 H, v1]
    refine hX x6 ⟨fun q => absurd q hn, fun _ => ⟨?_, ?_⟩⟩
    · have e1 : (wGo w o (wAll w).length (wAll w) ([], fun _ _ => 0, []) []).1.1.filter (fun _ => true) = (wGo w o (wAll w).length (wAll w) ([], fun _ _ => 0, []) []).1.1 := List.filter_eq_self.mpr (fun _ _ => rfl)
      rw [e1] at v2
      obtain ⟨i1, i2⟩ := sE_ind (wA w 2) (wGo w o (wAll w).length (wAll w) ([], fun _ _ => 0, []) []).1.1.reverse (wGo w o (wAll w).length (wAll w) ([], fun _ _ => 0, []) []).1.2.1 (wGo w o (wAll w).length (wAll w) ([], fun _ _ => 0, []) []).1.2.2 fl4 0
      obtain ⟨-, hq, ⟨he1, he2⟩, -, -⟩ := v2
      rw [i2] at he1 he2
      rw [i1] at hq
      have hlen : (wRun w o).2.1.length ≤ 3492 := by
        show (List.foldl (sE (wA w 2)) _ _).2.1.length ≤ _
        rw [sE_len, List.length_reverse]
        have := ho4.len
        show (wGo w o (wAll w).length (wAll w) ([], fun _ _ => 0, []) []).1.2.2.length + _ ≤ _
        omega
      refine ⟨?_, h12, fun f hf => ⟨(hq f hf).2.2.2.1, (hq f hf).2.2.2.2.1, (hq f hf).2.2.2.2.2⟩, ⟨he1, hlen, he2⟩, ?_, ?_, fun p r hp k hk => ?_⟩
      · rw [v3 91 20 (by omega) (by omega) (by omega) (by omega) (by omega) (by omega) (by omega), t2 91 20 (by omega), s4 91 20 (by omega) (by omega), r2 91 20 (by omega), q2 91 20 (by omega)]
        simp only [mj_lI_s, mj_lI_0, mj_lA_s, mj_lA_0, mj_sL_s, mj_sL_0, mj_s8_0, mj_s8_1, mj_s8_2, mj_s8_3, mj_bc_n, mj_bc_s, mj_bd_s, u2_eq, u2_a, u2_k, ne_eq, Nat.reduceEqDiff, not_false_eq_true, List.nil_append, List.cons_append, eq_self, true_or, or_true, if_true, if_false, false_or, or_false, not_true_eq_false, Bool.false_eq_true, ie_m1_0, ie_m1_1, ie_m1_2, ie_m1_3, ie_m1_4, ie_m1_5, ie_0_m1, ie_0_1, ie_0_2, ie_0_3, ie_0_4, ie_0_5, ie_1_m1, ie_1_0, ie_1_2, ie_1_3, ie_1_4, ie_1_5, ie_2_m1, ie_2_0, ie_2_1, ie_2_3, ie_2_4, ie_2_5, ie_3_m1, ie_3_0, ie_3_1, ie_3_2, ie_3_4, ie_3_5, ie_4_m1, ie_4_0, ie_4_1, ie_4_2, ie_4_3, ie_4_5, ie_5_m1, ie_5_0, ie_5_1, ie_5_2, ie_5_3, ie_5_4]
      · rw [v3 91 22 (by omega) (by omega) (by omega) (by omega) (by omega) (by omega) (by omega), t2 91 22 (by omega)]
        exact h22
      · show (wGo w o (wAll w).length (wAll w) ([], fun _ _ => 0, []) []).2.length ≤ 40
        omega
      · rw [v3 (119 + k) p (by omega) (by omega) (by omega) (by omega) (by omega) (by omega) (by omega), t2 (119 + k) p (by omega)]
        exact hrows p r hp k hk
    · intro a k z1 z2
      rw [v3 a k (by omega) (by omega) (by omega) (by omega) (by omega) (by omega) (by omega), t2 a k (by omega), s4 a k (by omega) (by omega), g3 a k (by omega) (by omega) (by omega) (by omega) (by omega) (by omega) (by omega), p1.2 a k (by omega) (by omega) (by omega) (by omega), u2_ne (by omega)]
  exact key (fun r => ∃ x', r = some (some (.inl (if o < 0 ∨ 1 < o ∨ 40 < (wAll w).length then -1 else nI (wAll w).length)), bl n sh x' y) ∧ ((o < 0 ∨ 1 < o ∨ 40 < (wAll w).length) → fr3 (u2 x 91 0 0) x' 0) ∧ (¬ (o < 0 ∨ 1 < o ∨ 40 < (wAll w).length) → mL x' (wF w) (wRun w o) ∧ fV x x')) (fun x' h => ⟨x', rfl, h⟩)
end RX
