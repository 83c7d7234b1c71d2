/-! both sides: test -/
def nIs (I : Nat → Nat → Int32) (t : Nat) (fi : Int32) : Nat → Nat → Int32 := u2 (u2 (u2 (u2 (u2 I 1 t fi) 2 t 0) 3 t 0) 4 t 0) 5 t 0
theorem nIs_ne {I : Nat → Nat → Int32} {t u k : Nat} {fi : Int32} (h : u ≠ t ∨ k = 0) : nIs I t fi k u = I k u := by
  unfold nIs
  rw [u2_ne (by omega), u2_ne (by omega), u2_ne (by omega), u2_ne (by omega), u2_ne (by omega)]
theorem nIs_1 (I : Nat → Nat → Int32) (t : Nat) (fi : Int32) : nIs I t fi 1 t = fi := by
  unfold nIs
  rw [u2_a (by decide), u2_a (by decide), u2_a (by decide), u2_a (by decide), u2_eq]
theorem nIs_0 (I : Nat → Nat → Int32) (t : Nat) (fi : Int32) {k : Nat} (hk : k = 2 ∨ k = 3 ∨ k = 4 ∨ k = 5) : nIs I t fi k t = 0 := by
  unfold nIs
  rcases hk with e | e | e | e <;> subst e
  · rw [u2_a (by decide), u2_a (by decide), u2_a (by decide), u2_eq]
  · rw [u2_a (by decide), u2_a (by decide), u2_eq]
  · rw [u2_a (by decide), u2_eq]
  · rw [u2_eq]
section MT
variable {n : Nat} {sh sh' : Nat → Nat × Nat} {x x' : Nat → Nat → Int32} {y y' : Nat → Nat → Option Nat} {hF hT : Nat → Nat}
theorem suP.addT {w : sW} {nb : Nat → Nat → Bool} (hS : suP n sh x y hF hT w nb) (hg : gw n (n + 5) sh sh' x x' y y') (hnt : wT w < 20) (h127 : 127 ≤ n) (hs0 : sh' n = (6, 8)) (hs1 : sh' (n + 1) = (3, 4)) (hs2 : sh' (n + 2) = (102, 12)) (hs3 : sh' (n + 3) = (3, 4)) (hs4 : sh' (n + 4) = (102, 12)) {fi : Int32}
    (q : x' n 0 = nI (wT w) ∧ x' n 1 = fi ∧ (∀ k, 2 ≤ k → x' n k = 0) ∧ y' n 2 = some (n + 1) ∧ y' n 3 = some (n + 3)) (r : y' (n + 1) 0 = some (n + 2) ∧ x' (n + 1) 1 = 0 ∧ x' (n + 1) 2 = 0 ∧ x' (n + 1) 3 = nI 6) (r2 : y' (n + 3) 0 = some (n + 4) ∧ x' (n + 3) 3 = nI 12) (h21 : x' 2 1 = x 2 1) (h23 : x' 2 3 = nI (wT w + 1)) (h4n : y' 4 (wT w) = some n) (h4 : ∀ k, k ≠ wT w → y' 4 k = y 4 k) (h3 : ∀ k, y' 3 k = y 3 k) :
    suP (n + 5) sh' x' y' hF (up1 hT (wT w) n) ((wF w, wT w + 1), w.2.1, up1 w.2.2.1 (wT w) [], w.2.2.2.1, nIs w.2.2.2.2 (wT w) fi) nb := by
  obtain ⟨⟨a1, a2, a3, a4, a5, a6, a7, a8⟩, b, c, d, e, l1, l2, l3, l4, l5⟩ := hS
  have hTe : ∀ t, t < wT w → up1 hT (wT w) n t = hT t := fun t ht => up1_ne (by omega)
  have hTn : up1 hT (wT w) n (wT w) = n := up1_eq _ _ _
  have hFlt : ∀ f, f < wF w → hF f + 3 ≤ n := fun f hf => by have := (d f hf).2.1.2.1.1; omega
  have hTlt : ∀ t, t < wT w → hT t + 5 ≤ n := fun t ht => by have := (e t ht).2.1.2.2.2.2.2.1.1; omega
  have fx : ∀ f k, f < wF w → x' (hF f) k = x (hF f) k := fun f k hf => hg.2.2.1 _ _ (by have := hFlt f hf; omega) (by have := l1 f hf; omega)
  have cas : ∀ t, t < wT w + 1 → t = wT w ∨ t < wT w := fun t ht => by omega
  refine ⟨⟨hg.ob a1, hg.ob a2, hg.ob a3, by rw [hg.2.2.2 _ _ a1.1 (by decide) (by decide)]; exact a4, by rw [h21]; exact a5, by rw [hg.2.2.2 _ _ a1.1 (by decide) (by decide)]; exact a6, h23, hnt⟩, ⟨b.1, fun f hf => ?_, b.2.2⟩, fun f hf => ?_, fun f hf => ?_, fun t ht => ?_, l1, fun t ht => ?_, l3, fun t u ht hu hne => ?_, fun f t hf ht => ?_⟩
  · rw [fx f 0 hf, fx f 1 hf]; exact ⟨hg.ob (b.2.1 f hf).1, (b.2.1 f hf).2⟩
  · obtain ⟨⟨c1, c2, c3, c4, c5, c6⟩, c7⟩ := c f hf
    show (y' 3 f = some (hF f) ∧ x' (hF f) 2 = nIs w.2.2.2.2 (wT w) fi 0 f ∧ x' (hF f) 3 = nI (wA w 0 f) ∧ x' (hF f) 4 = nI (wA w 1 f) ∧ x' (hF f) 5 = nI (wA w 2 f) ∧ ∀ g, bt (x' (hF f) 7) g = nb f g) ∧ _
    rw [nIs_ne (Or.inr rfl), fx f 2 hf, fx f 3 hf, fx f 4 hf, fx f 5 hf, fx f 7 hf, h3 f]
    exact ⟨⟨c1, c2, c3, c4, c5, c6⟩, c7⟩
  · obtain ⟨d1, d2⟩ := d f hf
    have := l1 f hf
    have := hFlt f hf
    exact ⟨by rw [hg.2.2.2 _ _ (by omega) (by omega) (by omega)]; exact d1, hg.rowP d2 (by omega) (by omega) (Nat.le_refl _) (fun _ _ => rfl)⟩
  · show y' 4 t = some (up1 hT (wT w) n t) ∧ teP (n + 5) sh' x' y' hF (wF w) (up1 hT (wT w) n t) (up1 w.2.2.1 (wT w) [] t) ∧ (x' (up1 hT (wT w) n t) 0 = nI t ∧ x' (up1 hT (wT w) n t) 1 = nIs w.2.2.2.2 (wT w) fi 1 t ∧ x' (up1 hT (wT w) n t) 4 = nIs w.2.2.2.2 (wT w) fi 2 t ∧ x' (up1 hT (wT w) n t) 5 = nIs w.2.2.2.2 (wT w) fi 3 t ∧ x' (up1 hT (wT w) n t) 6 = nIs w.2.2.2.2 (wT w) fi 4 t ∧ x' (up1 hT (wT w) n t) 7 = nIs w.2.2.2.2 (wT w) fi 5 t) ∧ 0 ≤ nIs w.2.2.2.2 (wT w) fi 5 t ∧ nIs w.2.2.2.2 (wT w) fi 5 t ≤ 2
    rcases cas t ht with z | z
    · subst z
      rw [hTn, up1_eq, nIs_1, nIs_0 _ _ _ (Or.inl rfl), nIs_0 _ _ _ (Or.inr (Or.inl rfl)), nIs_0 _ _ _ (Or.inr (Or.inr (Or.inl rfl))), nIs_0 _ _ _ (Or.inr (Or.inr (Or.inr rfl)))]
      refine ⟨h4n, ⟨⟨by omega, by omega, hs0⟩, q.2.2.2.1, q.2.2.2.2, ⟨⟨⟨by omega, by omega, hs1⟩, ⟨by omega, by omega, hs2⟩, r.1, r.2.2.2, by decide⟩, r.2.1, fun i => by rw [r.2.2.1, b_0]; simp, List.nodup_nil, Nat.zero_le _, fun g hg => (by cases hg), fun j g hj => (by simp at hj)⟩, ⟨⟨by omega, by omega, hs3⟩, ⟨by omega, by omega, hs4⟩, r2.1, r2.2, by decide⟩⟩, ⟨q.1, q.2.1, q.2.2.1 4 (by decide), q.2.2.1 5 (by decide), q.2.2.1 6 (by decide), q.2.2.1 7 (by decide)⟩, by decide, by decide⟩
    · obtain ⟨e1, ⟨e2, e3, e4, e5, e6⟩, ⟨g1, g2, g3, g4, g5, g6⟩, e7⟩ := e t z
      have h1 := l2 t z
      have h2 := hTlt t z
      have hk : t ≠ wT w := by omega
      have tx : ∀ k, x' (hT t) k = x (hT t) k := fun k => hg.2.2.1 _ _ (by omega) (by omega)
      have ty : ∀ k, y' (hT t) k = y (hT t) k := fun k => hg.2.2.2 _ _ (by omega) (by omega) (by omega)
      rw [hTe t z, up1_ne hk, nIs_ne (Or.inl hk), nIs_ne (Or.inl hk), nIs_ne (Or.inl hk), nIs_ne (Or.inl hk), nIs_ne (Or.inl hk), tx, tx, tx, tx, tx, tx, h4 t hk]
      exact ⟨e1, ⟨hg.ob e2, by rw [ty]; exact e3, by rw [ty]; exact e4, hg.rowP e5 (by omega) (by omega) (Nat.le_refl _) (fun _ _ => rfl), hg.rowS e6 (by omega)⟩, ⟨g1, g2, g3, g4, g5, g6⟩, e7⟩
  · rcases cas t ht with z | z
    · subst z; rw [hTn]; exact h127
    · rw [hTe t z]; exact l2 t z
  · rcases cas t ht with z | z
    · rcases cas u hu with v | v
      · omega
      · rw [z, hTn, hTe u v]; have := hTlt u v; omega
    · rcases cas u hu with v | v
      · rw [v, hTn, hTe t z]; have := hTlt t z; omega
      · rw [hTe t z, hTe u v]; exact l4 t u z v hne
  · rcases cas t ht with z | z
    · rw [z, hTn]; have := hFlt f hf; omega
    · rw [hTe t z]; exact l5 f t hf z
/-- one test more: the reference -/
theorem rI.addT {w : sW} {nfT : Nat} {L : rq × List re3 × List (Nat → Int32)} (hR : rI n sh x y w nfT L) (hnt : wT w < 20) {fi : Int32} :
    rI n sh (u2 (u2 (u2 x 91 0 0) 98 (wT w) fi) 91 2 (nI (wT w + 1))) y ((wF w, wT w + 1), w.2.1, up1 w.2.2.1 (wT w) [], w.2.2.2.1, nIs w.2.2.2.2 (wT w) fi) nfT L := by
  have hx : ∀ a k, ¬ (a = 91 ∧ (k = 0 ∨ k = 2)) → ¬ (a = 98 ∧ k = wT w) → (u2 (u2 (u2 x 91 0 0) 98 (wT w) fi) 91 2 (nI (wT w + 1))) a k = x a k := fun a k h1 h2 => by
    rw [u2_ne (fun z => h1 ⟨z.1, Or.inr z.2⟩), u2_ne h2, u2_ne (fun z => h1 ⟨z.1, Or.inl z.2⟩)]
  have h91 : (u2 (u2 (u2 x 91 0 0) 98 (wT w) fi) 91 2 (nI (wT w + 1))) 91 2 = nI (wT w + 1) := u2_eq _ _ _ _
  have h98 : (u2 (u2 (u2 x 91 0 0) 98 (wT w) fi) 91 2 (nI (wT w + 1))) 98 (wT w) = fi := by rw [u2_a (by decide), u2_eq]
  generalize (u2 (u2 (u2 x 91 0 0) 98 (wT w) fi) 91 2 (nI (wT w + 1))) = X at hx h91 h98
  obtain ⟨H, Y, ⟨m1, m2, m3, m4, m5⟩, ⟨f1, f2⟩, hL⟩ := hR
  have cas : ∀ t, t < wT w + 1 → t = wT w ∨ t < wT w := fun t ht => by omega
  refine ⟨H, Y, ⟨⟨?_, m1.2.1, fun f hf => ?_⟩, fun f hf => ?_, ⟨h91, hnt, fun t ht => ?_⟩, fun f hf => ?_, fun t ht => ?_⟩, ⟨fun f z1 z2 => ?_, fun t z1 z2 => ?_⟩, hL.cong (fun k hk => hx 91 k (by omega) (by omega)) (fun a k z1 z2 => hx a k (by omega) (by omega))⟩
  · rw [hx 91 1 (by omega) (by omega)]; exact m1.1
  · obtain ⟨z1, z2, z3, z4⟩ := m1.2.2 f hf
    exact ⟨by rw [hx 94 f (by omega) (by omega)]; exact z1, z2, fun j q hj => by rw [hx 95 _ (by omega) (by omega)]; exact z3 j q hj, z4⟩
  · rw [hx 93 f (by omega) (by omega)]; exact m2 f hf
  · show X 99 t = nI (up1 w.2.2.1 (wT w) [] t).length ∧ (up1 w.2.2.1 (wT w) [] t).length ≤ 6 ∧ nums (X 100) (6 * t) (up1 w.2.2.1 (wT w) [] t) ∧ ∀ g ∈ up1 w.2.2.1 (wT w) [] t, g < wF w
    rcases cas t ht with z | z
    · rw [z, up1_eq, hx 99 (wT w) (by omega) (by omega), (f2 (wT w) (Nat.le_refl _) hnt).1]
      exact ⟨rfl, by decide, fun j q hj => (by simp at hj), fun g hg => (by cases hg)⟩
    · obtain ⟨z1, z2, z3, z4⟩ := m3.2.2 t z
      rw [up1_ne (by omega), hx 99 t (by omega) (by omega)]
      exact ⟨z1, z2, fun j q hj => by rw [hx 100 _ (by omega) (by omega)]; exact z3 j q hj, z4⟩
  · show X 92 f = nIs w.2.2.2.2 (wT w) fi 0 f ∧ X 96 f = nI (wA w 1 f) ∧ _ ∧ X 97 f = nI (wA w 2 f) ∧ _
    rw [nIs_ne (Or.inr rfl), hx 92 f (by omega) (by omega), hx 96 f (by omega) (by omega), hx 97 f (by omega) (by omega)]; exact m4 f hf
  · show X 98 t = nIs w.2.2.2.2 (wT w) fi 1 t ∧ X 101 t = nIs w.2.2.2.2 (wT w) fi 2 t ∧ X 102 t = nIs w.2.2.2.2 (wT w) fi 3 t ∧ X 103 t = nIs w.2.2.2.2 (wT w) fi 4 t ∧ X 104 t = nIs w.2.2.2.2 (wT w) fi 5 t ∧ nIs w.2.2.2.2 (wT w) fi 5 t ≤ 2
    rcases cas t ht with z | z
    · obtain ⟨y1, y2, y3, y4, y5⟩ := f2 (wT w) (Nat.le_refl _) hnt
      rw [z, nIs_1, nIs_0 _ _ _ (Or.inl rfl), nIs_0 _ _ _ (Or.inr (Or.inl rfl)), nIs_0 _ _ _ (Or.inr (Or.inr (Or.inl rfl))), nIs_0 _ _ _ (Or.inr (Or.inr (Or.inr rfl))), h98, hx 101 _ (by omega) (by omega), hx 102 _ (by omega) (by omega), hx 103 _ (by omega) (by omega), hx 104 _ (by omega) (by omega)]
      exact ⟨rfl, y2, y3, y4, y5, by decide⟩
    · have hk : t ≠ wT w := by omega
      rw [nIs_ne (Or.inl hk), nIs_ne (Or.inl hk), nIs_ne (Or.inl hk), nIs_ne (Or.inl hk), nIs_ne (Or.inl hk), hx 98 t (by omega) (by omega), hx 101 t (by omega) (by omega), hx 102 t (by omega) (by omega), hx 103 t (by omega) (by omega), hx 104 t (by omega) (by omega)]
      exact m5 t z
  · rw [hx 94 f (by omega) (by omega)]; exact f1 f z1 z2
  · have z1 : wT w + 1 ≤ t := z1
    rw [hx 99 t (by omega) (by omega), hx 101 t (by omega) (by omega), hx 102 t (by omega) (by omega), hx 103 t (by omega) (by omega), hx 104 t (by omega) (by omega)]; exact f2 t (by omega) z2
theorem op_4 (h : GI n sh x y) (its : Int32) : opR n sh x y 4 23 [.inl its] := by
  obtain ⟨hF, hT, w, nb, cc, nfT, L, hI, hr1, hr2, hr3⟩ := h
  obtain ⟨hS, hJ, hR, hX, hn⟩ := id hI
  have h127 : ∀ f, f < nfT → 127 ≤ hF f := fun f hf => hS.2.2.2.2.2.1 f (by omega)
  obtain ⟨a1, a2, a3⟩ := hJ.1
  have h2o := hS.1.1
  have h20 := hS.1.2.2.2.2.2.2.2
  have h23 := hS.1.2.2.2.2.2.2.1
  have no : (wT w = 20 ∨ its < 0 ∨ 7 < its) → mj_Cl pg 60 4 [.inr (some 1), .inl its] (bl n sh x y) = some (some (.inl (-1)), bl n sh x y) → opR n sh x y 4 23 [.inl its] := fun c hc => by
    have q := mm_23 (x := x) (y := y) 59 hR.1 hR.2.1 hR.2.2.1.2.2.1.1 h20 its
    rw [if_pos c] at q
    exact ⟨n, sh, x, y, u2 x 91 0 0, _, hc, q, ⟨hF, hT, w, nb, cc, nfT, L, ⟨hS.sC (sC.w0 x 0), hJ.sC h127 (sC.w0 x 0), hR.w0 0, hX, hn⟩, hr1, hr2, hr3⟩, rfl, fun k => ⟨rfl, u2_a (by decide)⟩⟩
  have c15a := fun h => rk_15 58 its 0 7 h
  have c10 : ¬ ((1 : Int32) = 0) := by decide
  by_cases ca : its < 0 ∨ 7 < its
  · refine no (Or.inr ca) ?_
    simp only [if_pos ca] at c15a
    show mj_Cl pg (59 + 1) 4 _ _ = _
    rw [e_4]
    simp only [s_4_0, s_4_1, s_4_2, s_4_4, s_4_7, s_4_10, s_4_11, s_4_14, s_4_15, s_4_18, s_4_21, s_4_22, mj_lI_s, mj_lI_0, mj_lA_s, mj_lA_0, mj_sL_s, mj_sL_0, mj_s8_0, mj_s8_1, mj_s8_2, mj_s8_3, mj_bc_n, mj_bc_s, mj_bd_s, u2_eq, u2_a, u2_k, ne_eq, Nat.reduceEqDiff, not_false_eq_true, List.nil_append, List.cons_append, eq_self, true_or, or_true, if_true, if_false, false_or, or_false, not_true_eq_false, Bool.false_eq_true, ie_m1_0, ie_m1_1, ie_m1_2, ie_m1_3, ie_m1_4, ie_m1_5, ie_0_m1, ie_0_1, ie_0_2, ie_0_3, ie_0_4, ie_0_5, ie_1_m1, ie_1_0, ie_1_2, ie_1_3, ie_1_4, ie_1_5, ie_2_m1, ie_2_0, ie_2_1, ie_2_3, ie_2_4, ie_2_5, ie_3_m1, ie_3_0, ie_3_1, ie_3_2, ie_3_4, ie_3_5, ie_4_m1, ie_4_0, ie_4_1, ie_4_2, ie_4_3, ie_4_5, ie_5_m1, ie_5_0, ie_5_1, ie_5_2, ie_5_3, ie_5_4, ct_5, cv_5, ci_5_0, cp_5_0, ci_5_1, cp_5_1, ci_5_2, cp_5_2, ci_5_3, cp_5_3, ct_7, cv_7, ci_7_0, cp_7_0, ci_7_1, cp_7_1, c15a]
  simp only [if_neg ca] at c15a
  by_cases cf : wT w = 20
  · refine no (Or.inl cf) ?_
    have c93 : mj_Cl pg 59 93 [.inr (some 2), .inl its] (bl n sh x y) = some (some (.inl (-1)), bl n sh x y) := by
      have c1 : (nI (wT w) < 20) = False := by rw [cf]; exact eq_false (by decide)
      show mj_Cl pg (58 + 1) 93 _ _ = _
      rw [e_93]
      simp only [s_93_0, s_93_1, s_93_4, s_93_6, s_93_9, s_93_10, s_93_11, s_93_12, s_93_15, s_93_16, s_93_19, s_93_22, s_93_23, s_93_24, s_93_27, s_93_28, s_93_31, s_93_32, s_93_33, s_93_34, s_93_37, s_93_38, s_93_39, s_93_40, s_93_43, mj_lI_s, mj_lI_0, mj_lA_s, mj_lA_0, mj_sL_s, mj_sL_0, mj_s8_0, mj_s8_1, mj_s8_2, mj_s8_3, mj_bc_n, mj_bc_s, mj_bd_s, u2_eq, u2_a, u2_k, ne_eq, Nat.reduceEqDiff, not_false_eq_true, List.nil_append, List.cons_append, eq_self, true_or, or_true, if_true, if_false, false_or, or_false, not_true_eq_false, Bool.false_eq_true, ie_m1_0, ie_m1_1, ie_m1_2, ie_m1_3, ie_m1_4, ie_m1_5, ie_0_m1, ie_0_1, ie_0_2, ie_0_3, ie_0_4, ie_0_5, ie_1_m1, ie_1_0, ie_1_2, ie_1_3, ie_1_4, ie_1_5, ie_2_m1, ie_2_0, ie_2_1, ie_2_3, ie_2_4, ie_2_5, ie_3_m1, ie_3_0, ie_3_1, ie_3_2, ie_3_4, ie_3_5, ie_4_m1, ie_4_0, ie_4_1, ie_4_2, ie_4_3, ie_4_5, ie_5_m1, ie_5_0, ie_5_1, ie_5_2, ie_5_3, ie_5_4, ct_5, cv_5, ci_5_0, cp_5_0, ci_5_1, cp_5_1, ci_5_2, cp_5_2, ci_5_3, cp_5_3, h2o, h23, c1]
    show mj_Cl pg (59 + 1) 4 _ _ = _
    rw [e_4]
    simp only [s_4_0, s_4_1, s_4_2, s_4_4, s_4_7, s_4_10, s_4_11, s_4_14, s_4_15, s_4_18, s_4_21, s_4_22, mj_lI_s, mj_lI_0, mj_lA_s, mj_lA_0, mj_sL_s, mj_sL_0, mj_s8_0, mj_s8_1, mj_s8_2, mj_s8_3, mj_bc_n, mj_bc_s, mj_bd_s, u2_eq, u2_a, u2_k, ne_eq, Nat.reduceEqDiff, not_false_eq_true, List.nil_append, List.cons_append, eq_self, true_or, or_true, if_true, if_false, false_or, or_false, not_true_eq_false, Bool.false_eq_true, ie_m1_0, ie_m1_1, ie_m1_2, ie_m1_3, ie_m1_4, ie_m1_5, ie_0_m1, ie_0_1, ie_0_2, ie_0_3, ie_0_4, ie_0_5, ie_1_m1, ie_1_0, ie_1_2, ie_1_3, ie_1_4, ie_1_5, ie_2_m1, ie_2_0, ie_2_1, ie_2_3, ie_2_4, ie_2_5, ie_3_m1, ie_3_0, ie_3_1, ie_3_2, ie_3_4, ie_3_5, ie_4_m1, ie_4_0, ie_4_1, ie_4_2, ie_4_3, ie_4_5, ie_5_m1, ie_5_0, ie_5_1, ie_5_2, ie_5_3, ie_5_4, ct_5, cv_5, ci_5_0, cp_5_0, ci_5_1, cp_5_1, ci_5_2, cp_5_2, ci_5_3, cp_5_3, ct_7, cv_7, ci_7_0, cp_7_0, ci_7_1, cp_7_1, c15a, c10, a1, a2, h2o, c93]
  have hnt : wT w < 20 := by omega
  obtain ⟨x1, y1, p1, p2, p3, p3b, ⟨p4, p5⟩, p6, p7⟩ := rk_93 56 h2o hS.1.2.2.1 hS.1.2.2.2.2.2.1 h23 hnt its
  have p1 : mj_Cl pg 59 93 [.inr (some 2), .inl its] (bl n sh x y) = _ := p1
  have n127 := hR.1.1
  have hgw : gw n (n + 5) sh (uS (uS (uS (uS (uS sh n (6, 8)) (n + 1) (3, 4)) (n + 2) (102, 12)) (n + 3) (3, 4)) (n + 4) (102, 12)) x x1 y y1 := ⟨by omega, fun a ha => by rw [uS_lt (by omega), uS_lt (by omega), uS_lt (by omega), uS_lt (by omega), uS_lt ha], fun a k h1 h2 => p6 a k h1 (fun z => h2 z.1), fun a k h1 h2 h3 => p7 a k h1 (fun z => h3 z.1)⟩
  have hS1 := hS.addT (fi := its) hgw hnt n127 (by rw [uS_lt (by omega), uS_lt (by omega), uS_lt (by omega), uS_lt (by omega)]; exact if_pos rfl) (by rw [uS_lt (by omega), uS_lt (by omega), uS_lt (by omega)]; exact if_pos rfl) (by rw [uS_lt (by omega), uS_lt (by omega)]; exact if_pos rfl) (by rw [uS_lt (by omega)]; exact if_pos rfl) (if_pos rfl) p2 p3 p3b (p6 _ _ (by omega) (by omega)) p4 p5 (fun k hk => p7 _ _ (by omega) (fun z => hk z.2)) (fun k => p7 _ _ (by omega) (by omega))
  have hFlt : ∀ f, f < wF w → hF f < n := fun f hf => (hS.2.1.2.1 f hf).1.1
  have hJ1 := hgw.cJ (hF' := hF) (hT' := up1 hT (wT w) n) (nt' := wT w + 1) hJ (Nat.le_succ _) (fun f hf => ⟨rfl, hFlt f (by omega), by have := h127 f hf; omega⟩) (fun t ht => up1_ne (by omega))
  have hR1 := hgw.ref hR
  have hR2 := hR1.addT (fi := its) hnt
  have q := mm_23 (x := x1) (y := y1) 59 hR1.1 hR1.2.1 hR1.2.2.1.2.2.1.1 h20 its
  rw [if_neg (fun z => by rcases z with z | z; exact cf z; exact ca z)] at q
  have hsC : sC x1 (u2 (u2 (u2 x1 91 0 0) 98 (wT w) its) 91 2 (nI (wT w + 1))) := fun c j z => by rw [u2_a (by omega), u2_a (by omega), u2_a (by omega)]
  refine ⟨n + 5, _, x1, y1, _, nI (wT w), ?_, q, ⟨hF, up1 hT (wT w) n, _, nb, cc, nfT, L, ⟨hS1.sC hsC, hJ1.sC h127 hsC, hR2, ⟨hX.1, fun f hf => ?_, fun f hf g hg => ?_⟩, hn⟩, ?_, ?_, ?_⟩, ?_, fun k => ?_⟩
  · show mj_Cl pg (59 + 1) 4 _ _ = _
    rw [e_4]
    simp only [s_4_0, s_4_1, s_4_2, s_4_4, s_4_7, s_4_10, s_4_11, s_4_14, s_4_15, s_4_18, s_4_21, s_4_22, mj_lI_s, mj_lI_0, mj_lA_s, mj_lA_0, mj_sL_s, mj_sL_0, mj_s8_0, mj_s8_1, mj_s8_2, mj_s8_3, mj_bc_n, mj_bc_s, mj_bd_s, u2_eq, u2_a, u2_k, ne_eq, Nat.reduceEqDiff, not_false_eq_true, List.nil_append, List.cons_append, eq_self, true_or, or_true, if_true, if_false, false_or, or_false, not_true_eq_false, Bool.false_eq_true, ie_m1_0, ie_m1_1, ie_m1_2, ie_m1_3, ie_m1_4, ie_m1_5, ie_0_m1, ie_0_1, ie_0_2, ie_0_3, ie_0_4, ie_0_5, ie_1_m1, ie_1_0, ie_1_2, ie_1_3, ie_1_4, ie_1_5, ie_2_m1, ie_2_0, ie_2_1, ie_2_3, ie_2_4, ie_2_5, ie_3_m1, ie_3_0, ie_3_1, ie_3_2, ie_3_4, ie_3_5, ie_4_m1, ie_4_0, ie_4_1, ie_4_2, ie_4_3, ie_4_5, ie_5_m1, ie_5_0, ie_5_1, ie_5_2, ie_5_3, ie_5_4, ct_5, cv_5, ci_5_0, cp_5_0, ci_5_1, cp_5_1, ci_5_2, cp_5_2, ci_5_3, cp_5_3, ct_7, cv_7, ci_7_0, cp_7_0, ci_7_1, cp_7_1, c15a, c10, a1, a2, h2o, p1]
  · show 0 ≤ nIs w.2.2.2.2 (wT w) its 0 f
    rw [nIs_ne (Or.inr rfl)]; exact hX.2.1 f hf
  · show nIs w.2.2.2.2 (wT w) its 0 g = 0 → nIs w.2.2.2.2 (wT w) its 0 f = 0
    rw [nIs_ne (Or.inr rfl), nIs_ne (Or.inr rfl)]; exact hX.2.2 f hf g hg
  · show n + 5 = 127 + 3 * wF w + 5 * (wT w + 1)
    omega
  · show ((List.range (n + 4 + 1)).map (fun a => (uS (uS (uS (uS (uS sh n (6, 8)) (n + 1) (3, 4)) (n + 2) (102, 12)) (n + 3) (3, 4)) (n + 4) (102, 12) a).2)).sum ≤ (uS (uS (uS (uS (uS sh n (6, 8)) (n + 1) (3, 4)) (n + 2) (102, 12)) (n + 3) (3, 4)) (n + 4) (102, 12) 0).2 + 40000 + 31 * wF w + 40 * (wT w + 1)
    rw [szU, szU, szU, szU, szU, uS_lt (by omega), uS_lt (by omega), uS_lt (by omega), uS_lt (by omega), uS_lt (by omega)]
    show _ + 8 + 4 + 12 + 4 + 12 ≤ _
    omega
  · rw [uS_lt (by omega), uS_lt (by omega), uS_lt (by omega), uS_lt (by omega), uS_lt (by omega)]; exact hr3
  · rw [uS_lt (by omega), uS_lt (by omega), uS_lt (by omega), uS_lt (by omega), uS_lt (by omega)]
  · have h0 := p6 0 k (by omega) (by omega)
    exact ⟨h0, by rw [hsC 0 k (by decide)]; exact h0⟩
end MT
