/-! a case: the reference -/
theorem sE_len (ef : Nat → Nat) : ∀ (l : List Nat) (s : rq × List re3 × Nat), (l.foldl (sE ef) s).2.1.length = s.2.1.length + l.length := by
  intro l
  induction l with
  | nil => intro s; rfl
  | cons f l ih =>
    intro s
    rw [List.foldl_cons, ih]
    simp only [sE, List.length_append, List.length_cons, List.length_nil]
    omega
theorem sE_q (ef : Nat → Nat) : ∀ (l : List Nat) (s : rq × List re3 × Nat) (g k : Nat), k ≠ 13 → k ≠ 14 → (l.foldl (sE ef) s).1 g k = s.1 g k := by
  intro l
  induction l with
  | nil => intro s g k _ _; rfl
  | cons f l ih =>
    intro s g k h1 h2
    rw [List.foldl_cons, ih _ g k h1 h2]
    show u2 (u2 s.1 f 13 _) f 14 _ g k = s.1 g k
    rw [u2_k h2, u2_k h1]
theorem sMk_z (mf : Nat → Nat) (sc : Nat → Int32) (fi : Int32) (nf : Nat) : ∀ (ps : List (Nat × Nat)) (s : rs), (∀ f, f < nf → sc f = 0 → s.2.1 f 10 = 0) → ∀ f, f < nf → sc f = 0 → (sMk mf sc fi ps s).2.2.1 f 10 = 0 := by
  intro ps
  induction ps with
  | nil => intro s h; exact h
  | cons p ps ih =>
    intro s h
    obtain ⟨g, v⟩ := p
    unfold sMk
    by_cases e1 : g ∈ s.1
    · rw [if_pos e1]; exact ih s h
    · rw [if_neg e1]
      by_cases e2 : bt (s.2.1 g 10) v = true
      · rw [if_pos e2]; exact h
      · rw [if_neg e2]
        by_cases e3 : mf g = 1
        · rw [if_pos e3]
          intro f hf h0
          show (if sc g = 0 then s.2.1 else u2 (u2 s.2.1 g 10 _) g 11 fi) f 10 = 0
          by_cases e4 : sc g = 0
          · rw [if_pos e4]; exact h f hf h0
          · rw [if_neg e4, u2_k (by decide), u2_a (show f ≠ g from fun z => e4 (by rw [← z]; exact h0))]
            exact h f hf h0
        · rw [if_neg e3]
          refine ih _ (fun f hf h0 => ?_)
          show u2 (u2 (u2 s.2.1 g 8 _) g 9 fi) g 12 _ f 10 = 0
          rw [u2_k (by decide), u2_k (by decide), u2_k (by decide)]
          exact h f hf h0
theorem sTry_z {mf : Nat → Nat} {sc : Nat → Int32} {fi st li fa : Int32} {ef : Nat → Nat} {ps : List (Nat × Nat)} {p tries nf fl : Nat} {s : rs} (h : ∀ f, f < nf → sc f = 0 → s.2.1 f 10 = 0) : ∀ f, f < nf → sc f = 0 → (sTry mf sc fi st li fa ef ps p tries s fl).2.2.1.2.1 f 10 = 0 := by
  intro f hf h0
  have h1 := sMk_z mf sc fi nf ps s h f hf h0
  unfold sTry
  generalize sMk mf sc fi ps s = r at h1
  obtain ⟨r1, s1⟩ := r
  cases r1 with
  | none => show (List.foldl (sE ef) _ _).1 f 10 = 0; rw [sE_q ef _ _ f 10 (by decide) (by decide)]; exact h1
  | some g => show (List.foldl (sE ef) _ _).1 f 10 = 0; rw [sE_q ef _ _ f 10 (by decide) (by decide)]; exact h1
theorem sMk_md (mf : Nat → Nat) (sc : Nat → Int32) (fi : Int32) : ∀ (ps : List (Nat × Nat)) (s : rs), (sMk mf sc fi ps s).2.1.length ≤ s.1.length + ps.length := by
  intro ps
  induction ps with
  | nil => intro s; exact Nat.le_refl _
  | cons p ps ih =>
    intro s
    obtain ⟨f, v⟩ := p
    unfold sMk
    by_cases e1 : f ∈ s.1
    · rw [if_pos e1]; have := ih s; simp only [List.length_cons]; omega
    · rw [if_neg e1]
      by_cases e2 : bt (s.2.1 f 10) v = true
      · rw [if_pos e2]; simp only [List.length_cons]; omega
      · rw [if_neg e2]
        by_cases e3 : mf f = 1
        · rw [if_pos e3]; simp only [sM0, List.length_cons]; omega
        · rw [if_neg e3]
          have := ih (sM1 fi s f v)
          simp only [sM1, List.length_append, List.length_cons, List.length_nil] at this ⊢
          omega
theorem sTry_len (mf : Nat → Nat) (sc : Nat → Int32) (fi st li fa : Int32) (ef : Nat → Nat) (ps : List (Nat × Nat)) (p tries : Nat) (s : rs) (fl : Nat) : (sTry mf sc fi st li fa ef ps p tries s fl).2.2.1.2.2.length ≤ s.2.2.length + 2 * ps.length + s.1.length + 1 := by
  have h1 := sMk_md mf sc fi ps s
  have h2 := sMk_len mf sc fi ps s
  unfold sTry
  generalize sMk mf sc fi ps s = r at h1 h2
  obtain ⟨r1, md1, q1, ev1⟩ := r
  have h1 : md1.length ≤ s.1.length + ps.length := h1
  have h2 : ev1.length ≤ s.2.2.length + ps.length := h2
  have h3 := List.length_filter_le (cs0 sc) md1
  cases r1 with
  | none =>
    show (List.foldl (sE ef) _ _).2.1.length ≤ _
    rw [sE_len, List.length_reverse]
    show (ev1 ++ [_]).length + (md1.filter (cs0 sc)).length ≤ _
    rw [List.length_append, List.length_singleton]
    omega
  | some g =>
    show (List.foldl (sE ef) _ _).2.1.length ≤ _
    rw [sE_len, List.length_reverse]
    show ev1.length + (md1.filter (cs0 sc)).length ≤ _
    omega
/-- tries, as long as there may be another -/
def sLp (re : Int32) (T : Nat → rs → Nat → Option Nat × Int32 × rs × Nat) : Nat → Nat → Int32 → Nat → Option Nat → rs → Nat → Nat × Int32 × Nat × Option Nat × rs × Nat
  | 0, tries, out, lf, lk, s, fl => (tries, out, lf, lk, s, fl)
  | k + 1, tries, out, lf, lk, s, fl => if tries = 0 ∨ ((out = 2 ∨ out = 3) ∧ nI tries ≤ re) then sLp re T k (tries + 1) (T tries s fl).2.1 ((T tries s fl).2.2.2 - fl) (T tries s fl).1 (T tries s fl).2.2.1 (T tries s fl).2.2.2 else (tries, out, lf, lk, s, fl)
section CA
variable {n : Nat} {sh : Nat → Nat × Nat} {y : Nat → Nat → Option Nat}
theorem fT.mF {x x' : Nat → Nat → Int32} (h : fT x x') {nf : Nat} {nd : Nat → List Nat} (hF : mF x nf nd) : mF x' nf nd := by
  obtain ⟨h1, h2, h3⟩ := hF
  refine ⟨(h 91 1 (by omega) (by decide) (by omega)).trans h1, h2, fun f hf => ?_⟩
  obtain ⟨a1, a2, a3, a4⟩ := h3 f hf
  exact ⟨(h 94 f (by omega) (by decide) (by omega)).trans a1, a2, fun j q hj => by rw [h 95 _ (by omega) (by decide) (by omega)]; exact a3 j q hj, a4⟩
theorem fT.clS {x x' : Nat → Nat → Int32} (h : fT x x') {nf : Nat} {acc : List Nat} (hC : clS x nf acc) : clS x' nf acc :=
  ⟨by rw [h 91 19 (by omega) (by decide) (by omega)]; exact hC.1, fun j q hj => by rw [h 105 _ (by omega) (by decide) (by omega)]; exact hC.2.1 j q hj, hC.2.2.1, hC.2.2.2⟩
theorem fT.mV {x x' : Nat → Nat → Int32} (h : fT x x') {nf : Nat} {va : Nat → Nat} (hV : mV x nf va) : mV x' nf va := fun f hf => by
  rw [h 93 f (by omega) (by decide) (by omega)]; exact hV f hf
theorem fT.cG {x x' : Nat → Nat → Int32} (h : fT x x') {nf : Nat} {sc : Nat → Int32} {mf : Nat → Nat} {t : Nat} {fi : Int32} (hG : cG x nf sc mf t fi) : cG x' nf sc mf t fi :=
  ⟨fun f hf => by rw [h 92 f (by omega) (by decide) (by omega), h 96 f (by omega) (by decide) (by omega)]; exact hG.1 f hf, by rw [h 98 t (by omega) (by decide) (by omega)]; exact hG.2⟩
set_option maxHeartbeats 2000000 in
theorem mm_39l (d : Nat) (H : moK n sh) (Y : moY y) {nf t m p : Nat} {nd : Nat → List Nat} {ef mf va : Nat → Nat} {sc : Nat → Int32} {fi st li fa re : Int32} {acc : List Nat} (ht : t < 20) (hm8 : m < 8) (hre : re ≤ 2) {v4 : Option mj_V} : ∀ (k tries : Nat) (out : Int32) (lf : Nat) (lk : Option Nat) (x : Nat → Nat → Int32) (md : List Nat) (q : rq) (ev : List re3) (fl : Nat) (v9 v10 : Option mj_V) (Q : Option mj_R → Prop), tries + k = 4 → tries ≤ 3 → mF x nf nd → clS x nf acc → mV x nf va → cG x nf sc mf t fi → rM x nf ef md q ev fl → (∀ f, f < nf → sc f = 0 → q f 10 = 0) → x 101 t = st → x 102 t = li → x 103 t = fa → x 104 t = re → ev.length + 40 * k ≤ 7999 →
    (∀ x' w9 w10, rM x' nf ef (sLp re (fun i s fl => sTry mf sc fi st li fa ef (pvl va m acc) p i s fl) k tries out lf lk (md, q, ev) fl).2.2.2.2.1.1 (sLp re (fun i s fl => sTry mf sc fi st li fa ef (pvl va m acc) p i s fl) k tries out lf lk (md, q, ev) fl).2.2.2.2.1.2.1 (sLp re (fun i s fl => sTry mf sc fi st li fa ef (pvl va m acc) p i s fl) k tries out lf lk (md, q, ev) fl).2.2.2.2.1.2.2 (sLp re (fun i s fl => sTry mf sc fi st li fa ef (pvl va m acc) p i s fl) k tries out lf lk (md, q, ev) fl).2.2.2.2.2 → fT x x' →
      Q (mj_Rn pg (d + 5) 39 (208, [some (.inr (some 91)), some (.inl (nI t)), some (.inl (nI m)), some (.inl (nI p)), v4, some (.inl (nI (sLp re (fun i s fl => sTry mf sc fi st li fa ef (pvl va m acc) p i s fl) k tries out lf lk (md, q, ev) fl).1)), some (.inl (sLp re (fun i s fl => sTry mf sc fi st li fa ef (pvl va m acc) p i s fl) k tries out lf lk (md, q, ev) fl).2.1), some (.inl (nI (sLp re (fun i s fl => sTry mf sc fi st li fa ef (pvl va m acc) p i s fl) k tries out lf lk (md, q, ev) fl).2.2.1)), some (.inl (lB (sLp re (fun i s fl => sTry mf sc fi st li fa ef (pvl va m acc) p i s fl) k tries out lf lk (md, q, ev) fl).2.2.2.1)), w9, w10], [], bl n sh x' y))) →
    Q (mj_Rn pg (d + 5) 39 (53, [some (.inr (some 91)), some (.inl (nI t)), some (.inl (nI m)), some (.inl (nI p)), v4, some (.inl (nI tries)), some (.inl out), some (.inl (nI lf)), some (.inl (lB lk)), v9, v10], [], bl n sh x y)) := by
  intro k
  induction k with
  | zero => intro tries out lf lk x md q ev fl v9 v10 Q hk ht3; omega
  | succ k ih =>
    intro tries out lf lk x md q ev fl v9 v10 Q hk ht3 hF hC hV hG hR hz hst hli hfa hre1 hlen hX
    have h0 : (nI tries = 0) = (tries = 0) := by
      rw [show (0 : Int32) = nI 0 from rfl]
      exact nI_eqp (by omega) (by decide)
    rw [s_39_53]
    by_cases c : tries = 0 ∨ ((out = 2 ∨ out = 3) ∧ nI tries ≤ re)
    · have hgo : Q (mj_Rn pg (d + 5) 39 (81, [some (.inr (some 91)), some (.inl (nI t)), some (.inl (nI m)), some (.inl (nI p)), v4, some (.inl (nI tries)), some (.inl out), some (.inl (nI lf)), some (.inl (lB lk)), v9, v10], [], bl n sh x y)) := by
        refine mm_39t d H Y hF hC hV hG hR hz ht hm8 hst hli hfa (by omega) Q (fun x1 w9 w10 p1 p2 => ?_)
        have e : sLp re (fun i s fl => sTry mf sc fi st li fa ef (pvl va m acc) p i s fl) (k + 1) tries out lf lk (md, q, ev) fl = _ := if_pos c
        rw [e] at hX
        have ht2 : tries + 1 ≤ 3 := by
          rcases c with c | ⟨-, c⟩
          · omega
          · have h2 : nI tries ≤ nI 2 := Int32.le_trans c hre
            have := (nI_leI (by omega) (by decide)).mp h2
            omega
        refine ih (tries + 1) _ _ _ x1 _ _ _ _ w9 w10 Q (by omega) ht2 (p2.mF hF) (p2.clS hC) (p2.mV hV) (p2.cG hG) p1 (sTry_z (s := (md, q, ev)) hz) ((p2 101 t (by omega) (by decide) (by omega)).trans hst) ((p2 102 t (by omega) (by decide) (by omega)).trans hli) ((p2 103 t (by omega) (by decide) (by omega)).trans hfa) ((p2 104 t (by omega) (by decide) (by omega)).trans hre1) ?_ (fun x' w9 w10 r1 r2 => hX x' w9 w10 r1 (p2.tr r2))
        have hl1 := sTry_len mf sc fi st li fa ef (pvl va m acc) p tries (md, q, ev) fl
        rw [pvl_len] at hl1
        have hal := nd_len nf acc hC.2.2.1 hC.2.2.2
        have hmd : md.length ≤ nf := by
          obtain ⟨⟨ts, mk, ⟨m1, m2, -⟩, -⟩, -⟩ := id hR
          exact nd_len nf md m1 m2
        have hnf := hF.2.1
        have hl2 : (sTry mf sc fi st li fa ef (pvl va m acc) p tries (md, q, ev) fl).2.2.1.2.2.length ≤ ev.length + 2 * acc.length + md.length + 1 := hl1
        show (sTry mf sc fi st li fa ef (pvl va m acc) p tries (md, q, ev) fl).2.2.1.2.2.length + 40 * k ≤ 7999
        omega
      rcases c with c | ⟨c1 | c1, c2⟩
      · simp only [s_39_55, s_39_58, s_39_60, s_39_61, s_39_64, s_39_66, s_39_67, s_39_70, s_39_72, s_39_73, s_39_76, s_39_77, s_39_78, mj_lI_s, mj_lI_0, mj_lA_s, mj_lA_0, mj_sL_s, mj_sL_0, mj_s8_0, mj_s8_1, mj_s8_2, mj_s8_3, mj_bc_n, mj_bc_s, mj_bd_s, u2_eq, u2_a, u2_k, ne_eq, Nat.reduceEqDiff, not_false_eq_true, List.nil_append, List.cons_append, eq_self, true_or, or_true, if_true, if_false, false_or, or_false, not_true_eq_false, Bool.false_eq_true, ie_m1_0, ie_m1_1, ie_m1_2, ie_m1_3, ie_m1_4, ie_m1_5, ie_0_m1, ie_0_1, ie_0_2, ie_0_3, ie_0_4, ie_0_5, ie_1_m1, ie_1_0, ie_1_2, ie_1_3, ie_1_4, ie_1_5, ie_2_m1, ie_2_0, ie_2_1, ie_2_3, ie_2_4, ie_2_5, ie_3_m1, ie_3_0, ie_3_1, ie_3_2, ie_3_4, ie_3_5, ie_4_m1, ie_4_0, ie_4_1, ie_4_2, ie_4_3, ie_4_5, ie_5_m1, ie_5_0, ie_5_1, ie_5_2, ie_5_3, ie_5_4, h0, c]
        rw [c] at hgo
        exact hgo
      · by_cases z : tries = 0
        · simp only [s_39_55, s_39_58, s_39_60, s_39_61, s_39_64, s_39_66, s_39_67, s_39_70, s_39_72, s_39_73, s_39_76, s_39_77, s_39_78, mj_lI_s, mj_lI_0, mj_lA_s, mj_lA_0, mj_sL_s, mj_sL_0, mj_s8_0, mj_s8_1, mj_s8_2, mj_s8_3, mj_bc_n, mj_bc_s, mj_bd_s, u2_eq, u2_a, u2_k, ne_eq, Nat.reduceEqDiff, not_false_eq_true, List.nil_append, List.cons_append, eq_self, true_or, or_true, if_true, if_false, false_or, or_false, not_true_eq_false, Bool.false_eq_true, ie_m1_0, ie_m1_1, ie_m1_2, ie_m1_3, ie_m1_4, ie_m1_5, ie_0_m1, ie_0_1, ie_0_2, ie_0_3, ie_0_4, ie_0_5, ie_1_m1, ie_1_0, ie_1_2, ie_1_3, ie_1_4, ie_1_5, ie_2_m1, ie_2_0, ie_2_1, ie_2_3, ie_2_4, ie_2_5, ie_3_m1, ie_3_0, ie_3_1, ie_3_2, ie_3_4, ie_3_5, ie_4_m1, ie_4_0, ie_4_1, ie_4_2, ie_4_3, ie_4_5, ie_5_m1, ie_5_0, ie_5_1, ie_5_2, ie_5_3, ie_5_4, h0, z]
          rw [z] at hgo
          exact hgo
        · have c3 : ¬ re < nI tries := Int32.not_lt.mpr c2
          simp only [s_39_55, s_39_58, s_39_60, s_39_61, s_39_64, s_39_66, s_39_67, s_39_70, s_39_72, s_39_73, s_39_76, s_39_77, s_39_78, mj_lI_s, mj_lI_0, mj_lA_s, mj_lA_0, mj_sL_s, mj_sL_0, mj_s8_0, mj_s8_1, mj_s8_2, mj_s8_3, mj_bc_n, mj_bc_s, mj_bd_s, u2_eq, u2_a, u2_k, ne_eq, Nat.reduceEqDiff, not_false_eq_true, List.nil_append, List.cons_append, eq_self, true_or, or_true, if_true, if_false, false_or, or_false, not_true_eq_false, Bool.false_eq_true, ie_m1_0, ie_m1_1, ie_m1_2, ie_m1_3, ie_m1_4, ie_m1_5, ie_0_m1, ie_0_1, ie_0_2, ie_0_3, ie_0_4, ie_0_5, ie_1_m1, ie_1_0, ie_1_2, ie_1_3, ie_1_4, ie_1_5, ie_2_m1, ie_2_0, ie_2_1, ie_2_3, ie_2_4, ie_2_5, ie_3_m1, ie_3_0, ie_3_1, ie_3_2, ie_3_4, ie_3_5, ie_4_m1, ie_4_0, ie_4_1, ie_4_2, ie_4_3, ie_4_5, ie_5_m1, ie_5_0, ie_5_1, ie_5_2, ie_5_3, ie_5_4, mt_91 H, gv_0 H, gv_1 H, gv_2 H, gv_19 H, gv_20 H, gv_21 H, gv_22 H, gv_23 H, gv_43 H, pv_0 H, pv_1 H, pv_2 H, pv_19 H, pv_20 H, pv_21 H, pv_22 H, pv_23 H, pv_43 H, gr_3 H Y, gr_4 H Y, gr_5 H Y, gr_6 H Y, gr_7 H Y, gr_8 H Y, gr_9 H Y, gr_10 H Y, gr_11 H Y, gr_12 H Y, gr_13 H Y, gr_14 H Y, gr_15 H Y, gr_16 H Y, gr_17 H Y, gr_18 H Y, gr_24 H Y, gr_25 H Y, gr_26 H Y, gr_27 H Y, gr_28 H Y, gr_29 H Y, gr_30 H Y, gr_31 H Y, gr_32 H Y, gr_33 H Y, gr_34 H Y, gr_35 H Y, gr_36 H Y, gr_37 H Y, gr_38 H Y, gr_39 H Y, gr_40 H Y, gr_41 H Y, gr_42 H Y, ra_3 H, ra_4 H, ra_5 H, ra_6 H, ra_7 H, ra_8 H, ra_9 H, ra_10 H, ra_11 H, ra_12 H, ra_13 H, ra_14 H, ra_15 H, ra_16 H, ra_17 H, ra_18 H, ra_24 H, ra_25 H, ra_26 H, ra_27 H, ra_28 H, ra_29 H, ra_30 H, ra_31 H, ra_32 H, ra_33 H, ra_34 H, ra_35 H, ra_36 H, ra_37 H, ra_38 H, ra_39 H, ra_40 H, ra_41 H, ra_42 H, pa_3 H, pa_4 H, pa_5 H, pa_6 H, pa_7 H, pa_8 H, pa_9 H, pa_10 H, pa_11 H, pa_12 H, pa_13 H, pa_14 H, pa_15 H, pa_16 H, pa_17 H, pa_18 H, pa_24 H, pa_25 H, pa_26 H, pa_27 H, pa_28 H, pa_29 H, pa_30 H, pa_31 H, pa_32 H, pa_33 H, pa_34 H, pa_35 H, pa_36 H, pa_37 H, pa_38 H, pa_39 H, pa_40 H, pa_41 H, pa_42 H, h0, z, c1, ht, hre1, c3]
          rw [c1] at hgo
          exact hgo
      · by_cases z : tries = 0
        · simp only [s_39_55, s_39_58, s_39_60, s_39_61, s_39_64, s_39_66, s_39_67, s_39_70, s_39_72, s_39_73, s_39_76, s_39_77, s_39_78, mj_lI_s, mj_lI_0, mj_lA_s, mj_lA_0, mj_sL_s, mj_sL_0, mj_s8_0, mj_s8_1, mj_s8_2, mj_s8_3, mj_bc_n, mj_bc_s, mj_bd_s, u2_eq, u2_a, u2_k, ne_eq, Nat.reduceEqDiff, not_false_eq_true, List.nil_append, List.cons_append, eq_self, true_or, or_true, if_true, if_false, false_or, or_false, not_true_eq_false, Bool.false_eq_true, ie_m1_0, ie_m1_1, ie_m1_2, ie_m1_3, ie_m1_4, ie_m1_5, ie_0_m1, ie_0_1, ie_0_2, ie_0_3, ie_0_4, ie_0_5, ie_1_m1, ie_1_0, ie_1_2, ie_1_3, ie_1_4, ie_1_5, ie_2_m1, ie_2_0, ie_2_1, ie_2_3, ie_2_4, ie_2_5, ie_3_m1, ie_3_0, ie_3_1, ie_3_2, ie_3_4, ie_3_5, ie_4_m1, ie_4_0, ie_4_1, ie_4_2, ie_4_3, ie_4_5, ie_5_m1, ie_5_0, ie_5_1, ie_5_2, ie_5_3, ie_5_4, h0, z]
          rw [z] at hgo
          exact hgo
        · have c3 : ¬ re < nI tries := Int32.not_lt.mpr c2
          simp only [s_39_55, s_39_58, s_39_60, s_39_61, s_39_64, s_39_66, s_39_67, s_39_70, s_39_72, s_39_73, s_39_76, s_39_77, s_39_78, mj_lI_s, mj_lI_0, mj_lA_s, mj_lA_0, mj_sL_s, mj_sL_0, mj_s8_0, mj_s8_1, mj_s8_2, mj_s8_3, mj_bc_n, mj_bc_s, mj_bd_s, u2_eq, u2_a, u2_k, ne_eq, Nat.reduceEqDiff, not_false_eq_true, List.nil_append, List.cons_append, eq_self, true_or, or_true, if_true, if_false, false_or, or_false, not_true_eq_false, Bool.false_eq_true, ie_m1_0, ie_m1_1, ie_m1_2, ie_m1_3, ie_m1_4, ie_m1_5, ie_0_m1, ie_0_1, ie_0_2, ie_0_3, ie_0_4, ie_0_5, ie_1_m1, ie_1_0, ie_1_2, ie_1_3, ie_1_4, ie_1_5, ie_2_m1, ie_2_0, ie_2_1, ie_2_3, ie_2_4, ie_2_5, ie_3_m1, ie_3_0, ie_3_1, ie_3_2, ie_3_4, ie_3_5, ie_4_m1, ie_4_0, ie_4_1, ie_4_2, ie_4_3, ie_4_5, ie_5_m1, ie_5_0, ie_5_1, ie_5_2, ie_5_3, ie_5_4, mt_91 H, gv_0 H, gv_1 H, gv_2 H, gv_19 H, gv_20 H, gv_21 H, gv_22 H, gv_23 H, gv_43 H, pv_0 H, pv_1 H, pv_2 H, pv_19 H, pv_20 H, pv_21 H, pv_22 H, pv_23 H, pv_43 H, gr_3 H Y, gr_4 H Y, gr_5 H Y, gr_6 H Y, gr_7 H Y, gr_8 H Y, gr_9 H Y, gr_10 H Y, gr_11 H Y, gr_12 H Y, gr_13 H Y, gr_14 H Y, gr_15 H Y, gr_16 H Y, gr_17 H Y, gr_18 H Y, gr_24 H Y, gr_25 H Y, gr_26 H Y, gr_27 H Y, gr_28 H Y, gr_29 H Y, gr_30 H Y, gr_31 H Y, gr_32 H Y, gr_33 H Y, gr_34 H Y, gr_35 H Y, gr_36 H Y, gr_37 H Y, gr_38 H Y, gr_39 H Y, gr_40 H Y, gr_41 H Y, gr_42 H Y, ra_3 H, ra_4 H, ra_5 H, ra_6 H, ra_7 H, ra_8 H, ra_9 H, ra_10 H, ra_11 H, ra_12 H, ra_13 H, ra_14 H, ra_15 H, ra_16 H, ra_17 H, ra_18 H, ra_24 H, ra_25 H, ra_26 H, ra_27 H, ra_28 H, ra_29 H, ra_30 H, ra_31 H, ra_32 H, ra_33 H, ra_34 H, ra_35 H, ra_36 H, ra_37 H, ra_38 H, ra_39 H, ra_40 H, ra_41 H, ra_42 H, pa_3 H, pa_4 H, pa_5 H, pa_6 H, pa_7 H, pa_8 H, pa_9 H, pa_10 H, pa_11 H, pa_12 H, pa_13 H, pa_14 H, pa_15 H, pa_16 H, pa_17 H, pa_18 H, pa_24 H, pa_25 H, pa_26 H, pa_27 H, pa_28 H, pa_29 H, pa_30 H, pa_31 H, pa_32 H, pa_33 H, pa_34 H, pa_35 H, pa_36 H, pa_37 H, pa_38 H, pa_39 H, pa_40 H, pa_41 H, pa_42 H, h0, z, c1, ht, hre1, c3]
          rw [c1] at hgo
          exact hgo
    · have e : sLp re (fun i s fl => sTry mf sc fi st li fa ef (pvl va m acc) p i s fl) (k + 1) tries out lf lk (md, q, ev) fl = (tries, out, lf, lk, (md, q, ev), fl) := if_neg c
      rw [e] at hX
      have hx := hX x v9 v10 hR (fun _ _ _ _ _ => rfl)
      have z : ¬ tries = 0 := fun w => c (Or.inl w)
      by_cases c1 : out = 2
      · have c3 : re < nI tries := Int32.not_le.mp (fun w => c (Or.inr ⟨Or.inl c1, w⟩))
        simp only [s_39_55, s_39_58, s_39_60, s_39_61, s_39_64, s_39_66, s_39_67, s_39_70, s_39_72, s_39_73, s_39_76, s_39_77, s_39_78, mj_lI_s, mj_lI_0, mj_lA_s, mj_lA_0, mj_sL_s, mj_sL_0, mj_s8_0, mj_s8_1, mj_s8_2, mj_s8_3, mj_bc_n, mj_bc_s, mj_bd_s, u2_eq, u2_a, u2_k, ne_eq, Nat.reduceEqDiff, not_false_eq_true, List.nil_append, List.cons_append, eq_self, true_or, or_true, if_true, if_false, false_or, or_false, not_true_eq_false, Bool.false_eq_true, ie_m1_0, ie_m1_1, ie_m1_2, ie_m1_3, ie_m1_4, ie_m1_5, ie_0_m1, ie_0_1, ie_0_2, ie_0_3, ie_0_4, ie_0_5, ie_1_m1, ie_1_0, ie_1_2, ie_1_3, ie_1_4, ie_1_5, ie_2_m1, ie_2_0, ie_2_1, ie_2_3, ie_2_4, ie_2_5, ie_3_m1, ie_3_0, ie_3_1, ie_3_2, ie_3_4, ie_3_5, ie_4_m1, ie_4_0, ie_4_1, ie_4_2, ie_4_3, ie_4_5, ie_5_m1, ie_5_0, ie_5_1, ie_5_2, ie_5_3, ie_5_4, mt_91 H, gv_0 H, gv_1 H, gv_2 H, gv_19 H, gv_20 H, gv_21 H, gv_22 H, gv_23 H, gv_43 H, pv_0 H, pv_1 H, pv_2 H, pv_19 H, pv_20 H, pv_21 H, pv_22 H, pv_23 H, pv_43 H, gr_3 H Y, gr_4 H Y, gr_5 H Y, gr_6 H Y, gr_7 H Y, gr_8 H Y, gr_9 H Y, gr_10 H Y, gr_11 H Y, gr_12 H Y, gr_13 H Y, gr_14 H Y, gr_15 H Y, gr_16 H Y, gr_17 H Y, gr_18 H Y, gr_24 H Y, gr_25 H Y, gr_26 H Y, gr_27 H Y, gr_28 H Y, gr_29 H Y, gr_30 H Y, gr_31 H Y, gr_32 H Y, gr_33 H Y, gr_34 H Y, gr_35 H Y, gr_36 H Y, gr_37 H Y, gr_38 H Y, gr_39 H Y, gr_40 H Y, gr_41 H Y, gr_42 H Y, ra_3 H, ra_4 H, ra_5 H, ra_6 H, ra_7 H, ra_8 H, ra_9 H, ra_10 H, ra_11 H, ra_12 H, ra_13 H, ra_14 H, ra_15 H, ra_16 H, ra_17 H, ra_18 H, ra_24 H, ra_25 H, ra_26 H, ra_27 H, ra_28 H, ra_29 H, ra_30 H, ra_31 H, ra_32 H, ra_33 H, ra_34 H, ra_35 H, ra_36 H, ra_37 H, ra_38 H, ra_39 H, ra_40 H, ra_41 H, ra_42 H, pa_3 H, pa_4 H, pa_5 H, pa_6 H, pa_7 H, pa_8 H, pa_9 H, pa_10 H, pa_11 H, pa_12 H, pa_13 H, pa_14 H, pa_15 H, pa_16 H, pa_17 H, pa_18 H, pa_24 H, pa_25 H, pa_26 H, pa_27 H, pa_28 H, pa_29 H, pa_30 H, pa_31 H, pa_32 H, pa_33 H, pa_34 H, pa_35 H, pa_36 H, pa_37 H, pa_38 H, pa_39 H, pa_40 H, pa_41 H, pa_42 H, h0, z, c1, ht, hre1, c3]
        rw [c1] at hx
        exact hx
      · by_cases c2 : out = 3
        · have c3 : re < nI tries := Int32.not_le.mp (fun w => c (Or.inr ⟨Or.inr c2, w⟩))
          simp only [s_39_55, s_39_58, s_39_60, s_39_61, s_39_64, s_39_66, s_39_67, s_39_70, s_39_72, s_39_73, s_39_76, s_39_77, s_39_78, mj_lI_s, mj_lI_0, mj_lA_s, mj_lA_0, mj_sL_s, mj_sL_0, mj_s8_0, mj_s8_1, mj_s8_2, mj_s8_3, mj_bc_n, mj_bc_s, mj_bd_s, u2_eq, u2_a, u2_k, ne_eq, Nat.reduceEqDiff, not_false_eq_true, List.nil_append, List.cons_append, eq_self, true_or, or_true, if_true, if_false, false_or, or_false, not_true_eq_false, Bool.false_eq_true, ie_m1_0, ie_m1_1, ie_m1_2, ie_m1_3, ie_m1_4, ie_m1_5, ie_0_m1, ie_0_1, ie_0_2, ie_0_3, ie_0_4, ie_0_5, ie_1_m1, ie_1_0, ie_1_2, ie_1_3, ie_1_4, ie_1_5, ie_2_m1, ie_2_0, ie_2_1, ie_2_3, ie_2_4, ie_2_5, ie_3_m1, ie_3_0, ie_3_1, ie_3_2, ie_3_4, ie_3_5, ie_4_m1, ie_4_0, ie_4_1, ie_4_2, ie_4_3, ie_4_5, ie_5_m1, ie_5_0, ie_5_1, ie_5_2, ie_5_3, ie_5_4, mt_91 H, gv_0 H, gv_1 H, gv_2 H, gv_19 H, gv_20 H, gv_21 H, gv_22 H, gv_23 H, gv_43 H, pv_0 H, pv_1 H, pv_2 H, pv_19 H, pv_20 H, pv_21 H, pv_22 H, pv_23 H, pv_43 H, gr_3 H Y, gr_4 H Y, gr_5 H Y, gr_6 H Y, gr_7 H Y, gr_8 H Y, gr_9 H Y, gr_10 H Y, gr_11 H Y, gr_12 H Y, gr_13 H Y, gr_14 H Y, gr_15 H Y, gr_16 H Y, gr_17 H Y, gr_18 H Y, gr_24 H Y, gr_25 H Y, gr_26 H Y, gr_27 H Y, gr_28 H Y, gr_29 H Y, gr_30 H Y, gr_31 H Y, gr_32 H Y, gr_33 H Y, gr_34 H Y, gr_35 H Y, gr_36 H Y, gr_37 H Y, gr_38 H Y, gr_39 H Y, gr_40 H Y, gr_41 H Y, gr_42 H Y, ra_3 H, ra_4 H, ra_5 H, ra_6 H, ra_7 H, ra_8 H, ra_9 H, ra_10 H, ra_11 H, ra_12 H, ra_13 H, ra_14 H, ra_15 H, ra_16 H, ra_17 H, ra_18 H, ra_24 H, ra_25 H, ra_26 H, ra_27 H, ra_28 H, ra_29 H, ra_30 H, ra_31 H, ra_32 H, ra_33 H, ra_34 H, ra_35 H, ra_36 H, ra_37 H, ra_38 H, ra_39 H, ra_40 H, ra_41 H, ra_42 H, pa_3 H, pa_4 H, pa_5 H, pa_6 H, pa_7 H, pa_8 H, pa_9 H, pa_10 H, pa_11 H, pa_12 H, pa_13 H, pa_14 H, pa_15 H, pa_16 H, pa_17 H, pa_18 H, pa_24 H, pa_25 H, pa_26 H, pa_27 H, pa_28 H, pa_29 H, pa_30 H, pa_31 H, pa_32 H, pa_33 H, pa_34 H, pa_35 H, pa_36 H, pa_37 H, pa_38 H, pa_39 H, pa_40 H, pa_41 H, pa_42 H, h0, z, c2, ht, hre1, c3]
          rw [c2] at hx
          exact hx
        · simp only [s_39_55, s_39_58, s_39_60, s_39_61, s_39_64, s_39_66, s_39_67, s_39_70, s_39_72, s_39_73, s_39_76, s_39_77, s_39_78, mj_lI_s, mj_lI_0, mj_lA_s, mj_lA_0, mj_sL_s, mj_sL_0, mj_s8_0, mj_s8_1, mj_s8_2, mj_s8_3, mj_bc_n, mj_bc_s, mj_bd_s, u2_eq, u2_a, u2_k, ne_eq, Nat.reduceEqDiff, not_false_eq_true, List.nil_append, List.cons_append, eq_self, true_or, or_true, if_true, if_false, false_or, or_false, not_true_eq_false, Bool.false_eq_true, ie_m1_0, ie_m1_1, ie_m1_2, ie_m1_3, ie_m1_4, ie_m1_5, ie_0_m1, ie_0_1, ie_0_2, ie_0_3, ie_0_4, ie_0_5, ie_1_m1, ie_1_0, ie_1_2, ie_1_3, ie_1_4, ie_1_5, ie_2_m1, ie_2_0, ie_2_1, ie_2_3, ie_2_4, ie_2_5, ie_3_m1, ie_3_0, ie_3_1, ie_3_2, ie_3_4, ie_3_5, ie_4_m1, ie_4_0, ie_4_1, ie_4_2, ie_4_3, ie_4_5, ie_5_m1, ie_5_0, ie_5_1, ie_5_2, ie_5_3, ie_5_4, mt_91 H, gv_0 H, gv_1 H, gv_2 H, gv_19 H, gv_20 H, gv_21 H, gv_22 H, gv_23 H, gv_43 H, pv_0 H, pv_1 H, pv_2 H, pv_19 H, pv_20 H, pv_21 H, pv_22 H, pv_23 H, pv_43 H, gr_3 H Y, gr_4 H Y, gr_5 H Y, gr_6 H Y, gr_7 H Y, gr_8 H Y, gr_9 H Y, gr_10 H Y, gr_11 H Y, gr_12 H Y, gr_13 H Y, gr_14 H Y, gr_15 H Y, gr_16 H Y, gr_17 H Y, gr_18 H Y, gr_24 H Y, gr_25 H Y, gr_26 H Y, gr_27 H Y, gr_28 H Y, gr_29 H Y, gr_30 H Y, gr_31 H Y, gr_32 H Y, gr_33 H Y, gr_34 H Y, gr_35 H Y, gr_36 H Y, gr_37 H Y, gr_38 H Y, gr_39 H Y, gr_40 H Y, gr_41 H Y, gr_42 H Y, ra_3 H, ra_4 H, ra_5 H, ra_6 H, ra_7 H, ra_8 H, ra_9 H, ra_10 H, ra_11 H, ra_12 H, ra_13 H, ra_14 H, ra_15 H, ra_16 H, ra_17 H, ra_18 H, ra_24 H, ra_25 H, ra_26 H, ra_27 H, ra_28 H, ra_29 H, ra_30 H, ra_31 H, ra_32 H, ra_33 H, ra_34 H, ra_35 H, ra_36 H, ra_37 H, ra_38 H, ra_39 H, ra_40 H, ra_41 H, ra_42 H, pa_3 H, pa_4 H, pa_5 H, pa_6 H, pa_7 H, pa_8 H, pa_9 H, pa_10 H, pa_11 H, pa_12 H, pa_13 H, pa_14 H, pa_15 H, pa_16 H, pa_17 H, pa_18 H, pa_24 H, pa_25 H, pa_26 H, pa_27 H, pa_28 H, pa_29 H, pa_30 H, pa_31 H, pa_32 H, pa_33 H, pa_34 H, pa_35 H, pa_36 H, pa_37 H, pa_38 H, pa_39 H, pa_40 H, pa_41 H, pa_42 H, h0, z, c1, c2, not_false_eq_true]
          exact hx
end CA
