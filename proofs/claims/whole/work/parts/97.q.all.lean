/-! runAll -/
def roP (x : Nat → Nat → Int32) (y : Nat → Nat → Option Nat) (hT : Nat → Nat) (nt c : Nat) (r : Nat → Int32) : Prop := ∃ t, t < nt ∧ y c 0 = some (hT t) ∧ r 0 = nI t ∧ x c 1 = r 1 ∧ x c 3 = r 2 ∧ x c 4 = r 3 ∧ x c 5 = r 4 ∧ x c 6 = r 5
/-- a run under way: what is left, the state, the rows that are done -/
def rnP (n : Nat) (sh : Nat → Nat × Nat) (x : Nat → Nat → Int32) (y : Nat → Nat → Option Nat) (hF hT : Nat → Nat) (w : sW) (nb : Nat → Nat → Bool) (cc : Nat → Nat) (R : List (Nat × Nat)) (s : rs) (rows : List (Nat → Int32)) : Prop :=
  (suP n sh x y hF hT w nb ∧ runP n sh y ∧ caS n sh y cc ∧ clP n sh x y hF hT w (wT w)) ∧ (mdP n sh x y hF (wF w) s ∧ kp w s ∧ s.2.2.length ≤ 87 * rows.length) ∧ (x 5 3 = nI (rows.length + R.length) ∧ rows.length + R.length ≤ 40 ∧ x 5 4 = nI (wF w)) ∧ liP n sh x y hT w cc rows.length R ∧ (∀ p r, rows[p]? = some r → roP x y hT (wT w) (cc p) r) ∧ R.Nodup ∧ ∀ c ∈ R, c.1 < wT w ∧ c.2 < 8
theorem er_app {A B : List (Nat × Nat)} {c : Nat × Nat} (h : (A ++ c :: B).Nodup) : (A ++ c :: B).erase c = A ++ B := by
  rw [List.nodup_append] at h
  have hn : c ∉ A := fun z => h.2.2 c z c List.mem_cons_self rfl
  rw [List.erase_append_right _ hn, List.erase_cons_head]
theorem bst_0 {g : Nat × Nat → Nat} (h : ∀ c, g c = 0) : ∀ (l : List (Nat × Nat)) (c : Nat × Nat), l.foldl (bst g) (some c) = some c := by
  intro l
  induction l with
  | nil => intro c; rfl
  | cons a l ih =>
    intro c
    show l.foldl (bst g) (if g a < g c then some a else some c) = some c
    rw [if_neg (by rw [h a, h c]; decide)]
    exact ih c
theorem wCs_len {w : sW} (hK : wR w) {t m p : Nat} (h12 : wF w ≤ 12) (hre : wI w 5 t ≤ 2) (hu : ∀ f ∈ wU w t, f < wF w) (s : rs) (ho : oS (wF w) s.1) : (wCs w p t m s).2.2.2.2.1.2.2.length ≤ s.2.2.length + 87 := by
  obtain ⟨k1, k2⟩ := wPs_ok (m := m) hK hu
  have hT := sLp_o hre (fun i s fl => sTry (wA w 1) (wI w 0) (wI w 1 t) (wI w 2 t) (wI w 3 t) (wI w 4 t) (wA w 2) (wPs w t m) p i s fl) (nf := wF w) (b := 2 * wF w + 1) (P := fun _ => True) (fun i s fl hP h => by
    obtain ⟨a1, a2⟩ := sTry_o (wA w 1) (wI w 0) (wI w 1 t) (wI w 2 t) (wI w 3 t) (wI w 4 t) (wA w 2) (wPs w t m) p i s fl k1 k2 h
    exact ⟨trivial, a1, a2⟩) 4 0 2 0 none (sPt (wN w) (wF w) (wI w 0) (wI w 1 t) (wA w 2) (wPs w t m) s).1 (sPt (wN w) (wF w) (wI w 0) (wI w 1 t) (wA w 2) (wPs w t m) s).2 (by decide) trivial (ho.flt _)
  obtain ⟨c1, c2, c3, c4⟩ := hT
  have h1 : (sPt (wN w) (wF w) (wI w 0) (wI w 1 t) (wA w 2) (wPs w t m) s).1.2.2.length ≤ s.2.2.length + 12 := by
    show (List.foldl (sE (wA w 2)) _ _).2.1.length ≤ _
    rw [sE_len, List.length_reverse]
    have := (ho.flt (sOut s.1 (wN w) (wF w) (wI w 0) (wI w 1 t) s.2.1 (wPs w t m))).len
    show s.2.2.length + (s.1.filter (sOut s.1 (wN w) (wF w) (wI w 0) (wI w 1 t) s.2.1 (wPs w t m))).length ≤ _
    omega
  refine Nat.le_trans c3 ?_
  omega
section RA
variable {n : Nat} {sh : Nat → Nat × Nat} {hF hT : Nat → Nat} {w : sW} {nb : Nat → Nat → Bool}
/-- brought forward -/
theorem rnP.pick (d : Nat) {x : Nat → Nat → Int32} {y : Nat → Nat → Option Nat} {cc : Nat → Nat} {A B : List (Nat × Nat)} {c : Nat × Nat} {s : rs} {rows : List (Nat → Int32)} (h : rnP n sh x y hF hT w nb cc (A ++ c :: B) s rows) : ∃ y' cc', mj_Cl pg (d + 1) 82 [.inr (some 5), .inl (nI (rows.length + A.length)), .inl (nI rows.length)] (bl n sh x y) = some (none, bl n sh x y') ∧ rnP n sh x y' hF hT w nb cc' (c :: (A ++ B)) s rows ∧ fS sh hT (wT w) x x y y' := by
  obtain ⟨⟨hS, hU, hc, hC⟩, ⟨hM, hk, hl⟩, ⟨h53, h40, h54⟩, hD, hr, hnd, hb⟩ := h
  have hlen : (A ++ c :: B).length = A.length + 1 + B.length := by simp; omega
  have hlen2 : (c :: (A ++ B)).length = A.length + 1 + B.length := by simp; omega
  rw [hlen] at h53 h40
  obtain ⟨y', c82, hc', hy⟩ := rk_82 (x := x) d (a := rows.length + A.length) (b := rows.length) hU hc (by omega) (by omega)
  have hl127 : ∀ t, t < wT w → 127 ≤ hT t := hS.2.2.2.2.2.2.1
  have hf127 : ∀ f, f < wF w → 127 ≤ hF f := hS.2.2.2.2.2.1
  have hfs : fS sh hT (wT w) x x y y' := ⟨fun _ _ _ => rfl, fun a k q => hy a k (fun z => q (Or.inr (Or.inl z)))⟩
  have cap : ∀ cN t m ps, caP n sh x y hT cN t m ps → caP n sh x y' hT cN t m ps := fun cN t m ps z => z.cong rfl (fun _ => rfl) (hy _ _ (by have := z.2.2.2.2.2.2.1; omega)) (hy _ _ (by have := z.2.2.2.2.2.2.1; omega))
  refine ⟨y', _, c82, ⟨⟨hS.cong hfs, ⟨hU.1, by rw [hy _ _ (by decide)]; exact hU.2.1, by rw [hy _ _ (by decide)]; exact hU.2.2.1, by rw [hy _ _ (by decide)]; exact hU.2.2.2⟩, hc', fun t ht => ?_⟩, ⟨⟨hM.1.cong (fun _ => rfl) (hy _ _ (by decide)) (fun k => hy _ _ (by decide)), hM.2.1.cong (fun k => ⟨rfl, rfl⟩) (hy _ _ (by decide)), hM.2.2⟩, hk, hl⟩, ⟨by rw [hlen2]; exact h53, by rw [hlen2]; exact h40, h54⟩, fun p e hp => ?_, fun p r hp => ?_, ?_, fun e he => hb e ?_⟩, hfs⟩
  · have := hl127 t ht
    exact (hC t ht).cong (fun _ => rfl) (hy _ _ (by omega)) (fun k => hy _ _ (by omega))
  · have key : ∀ j e, (A ++ c :: B)[j]? = some e → sg (rows.length + A.length) rows.length (rows.length + p) = rows.length + j → caP n sh x y' hT (cc (sg (rows.length + A.length) rows.length (rows.length + p))) e.1 e.2 (wPs w e.1 e.2) ∧ x (cc (sg (rows.length + A.length) rows.length (rows.length + p))) 4 = -1 := fun j e hj he => by
      rw [he]
      obtain ⟨q1, q2⟩ := hD j e hj
      exact ⟨cap _ _ _ _ q1, q2⟩
    cases p with
    | zero =>
      have : e = c := by simpa using hp.symm
      subst this
      exact key A.length e (by simp) (by unfold sg; rw [if_pos (by omega)])
    | succ p =>
      rw [List.getElem?_cons_succ] at hp
      rcases Nat.lt_or_ge p A.length with g | g
      · refine key p e (by rw [List.getElem?_append_left g]; rw [List.getElem?_append_left g] at hp; exact hp) ?_
        unfold sg
        rw [if_neg (by omega), if_pos (by omega)]
        omega
      · refine key (p + 1) e (by
          rw [List.getElem?_append_right (by omega), show p + 1 - A.length = (p - A.length) + 1 by omega, List.getElem?_cons_succ]
          rw [List.getElem?_append_right g] at hp
          exact hp) ?_
        unfold sg
        rw [if_neg (by omega), if_neg (by omega)]
  · have hp40 := (List.getElem?_eq_some_iff.mp hp).1
    have e1 : sg (rows.length + A.length) rows.length p = p := by
      unfold sg
      rw [if_neg (by omega), if_neg (by omega)]
    show roP x y' hT (wT w) (cc (sg (rows.length + A.length) rows.length p)) r
    rw [e1]
    obtain ⟨t, z1, z2, z3⟩ := hr p r hp
    have := (hc.2.1 p (by omega)).2.2.1
    exact ⟨t, z1, by rw [hy _ _ (by omega)]; exact z2, z3⟩
  · rw [List.nodup_append] at hnd
    rw [List.nodup_cons, List.mem_append, List.nodup_append]
    obtain ⟨n1, n2, n3⟩ := hnd
    rw [List.nodup_cons] at n2
    refine ⟨fun z => ?_, n1, n2.2, fun a ha b hb => n3 a ha b (List.mem_cons_of_mem _ hb)⟩
    rcases z with z | z
    · exact n3 c z c List.mem_cons_self rfl
    · exact n2.1 z
  · rcases List.mem_cons.mp he with z | z
    · rw [z]; simp
    · rcases List.mem_append.mp z with y | y <;> simp [y]
/-- taken -/
theorem rnP.take (d : Nat) (hK : wR w) (hE : nbE (wF w) (wN w) nb) (hs : scN w) {x : Nat → Nat → Int32} {y : Nat → Nat → Option Nat} {cc : Nat → Nat} {R : List (Nat × Nat)} {c : Nat × Nat} {s : rs} {rows : List (Nat → Int32)} (h : rnP n sh x y hF hT w nb cc (c :: R) s rows) : ∃ x' y', mj_Cl pg (d + 5) 83 [.inr (some 5), .inr (some 2), .inr (some (cc rows.length)), .inl (nI rows.length)] (bl n sh x y) = some (none, bl n sh x' y') ∧ rnP n sh x' y' hF hT w nb cc R (wCs w rows.length c.1 c.2 s).2.2.2.2.1 (rows ++ [wRow w rows.length c.1 c.2 s]) ∧ fS sh hT (wT w) x x' y y' := by
  obtain ⟨⟨hS, hU, hc, hC⟩, ⟨hM, hk, hl⟩, ⟨h53, h40, h54⟩, hD, hr, hnd, hb⟩ := h
  have hlen : (c :: R).length = R.length + 1 := rfl
  rw [hlen] at h53 h40
  obtain ⟨hct, hc8⟩ := hb c List.mem_cons_self
  obtain ⟨q1, q2⟩ := hD 0 c rfl
  rw [Nat.add_zero] at q1 q2
  obtain ⟨p1, p2, p3, p4, p5⟩ := hS.ps hK (m := c.2) hct
  have h12 := hS.2.1.1
  have hre := (hS.2.2.2.2.1 c.1 hct).2.2.2
  have hu : ∀ f ∈ wU w c.1, f < wF w := (hS.2.2.2.2.1 c.1 hct).2.1.2.2.2.1.2.2.2.2.2.1
  obtain ⟨x', y', g1, g2, g3, g4, g5, g6, g7⟩ := rk_83 (p := rows.length) d hK hct hS hU q1 q2 hM (hC c.1 hct) (by omega) (out_eq hK hE hk.1.2 hk.2.1 p2 p3)
  have hq40 : rows.length < 40 := by omega
  obtain ⟨k1, k2, k3, k4, k5, k6, k7⟩ := hc.2.1 rows.length hq40
  have hfs := g3.fS (hT := hT) (nt := wT w) ⟨k3, by omega⟩
  have hl127 : ∀ t, t < wT w → 127 ≤ hT t := hS.2.2.2.2.2.2.1
  have hU5 := hU.1
  have x5 : ∀ k, x' 5 k = x 5 k := fun k => g3.1 _ _ (fun z => hU5.kd (by decide) z.1) (by omega) (by omega) (by omega) (by omega)
  have hkp := wCs_kp (p := rows.length) (m := c.2) hK hE hs h12 (fun f hf => ⟨(hS.2.2.1 f hf).2.1, (hS.2.2.1 f hf).2.2.1⟩) hq40 hre.2 hu hk
  have hlen9 : (wCs w rows.length c.1 c.2 s).2.2.2.2.1.2.2.length ≤ s.2.2.length + 87 := by
    exact wCs_len hK h12 hre.2 hu s hk.1
  refine ⟨x', y', g1, ⟨⟨hS.cong hfs, g3.run hU, hc.cong (fun k => g3.2 _ _ (by decide)) (fun a h1 h2 => g3.2 _ _ (by omega)), fun t ht => g3.row hS ht (by omega) (hC t ht)⟩, ⟨g2, hkp, ?_⟩, ⟨?_, ?_, by rw [x5]; exact h54⟩, fun p e hp => ?_, fun p r hp => ?_, (List.nodup_cons.mp hnd).2, fun e he => hb e (List.mem_cons_of_mem _ he)⟩, hfs⟩
  · rw [List.length_append]; simp; omega
  · rw [x5, h53, List.length_append]
    congr 1
    simp
    omega
  · rw [List.length_append]; simp; omega
  · obtain ⟨q1, q2⟩ := hD (p + 1) e (by rw [List.getElem?_cons_succ]; exact hp)
    rw [show (rows ++ [wRow w rows.length c.1 c.2 s]).length + p = rows.length + (p + 1) by rw [List.length_append]; simp; omega]
    have hp40 := (List.getElem?_eq_some_iff.mp hp).1
    obtain ⟨m1, m2, m3, m4, m5, m6, m7⟩ := hc.2.1 (rows.length + (p + 1)) (by omega)
    have hne : cc (rows.length + (p + 1)) ≠ cc rows.length := fun z => absurd (hc.2.2 _ _ (by omega) hq40 z) (by omega)
    refine ⟨g3.ca (by omega) q1, ?_⟩
    rw [g3.1 _ _ (fun z => m5.kd (by decide) z.1) (by omega) (by omega) (by omega) (fun z => hne z.1)]
    exact q2
  · rcases Nat.lt_or_ge p rows.length with g | g
    · rw [List.getElem?_append_left g] at hp
      obtain ⟨t, z1, z2, z3, z4, z5, z6, z7, z8⟩ := hr p r hp
      obtain ⟨m1, m2, m3, m4, m5, m6, m7⟩ := hc.2.1 p (by omega)
      have hne : cc p ≠ cc rows.length := fun z => absurd (hc.2.2 _ _ (by omega) hq40 z) (by omega)
      have e : ∀ k, x' (cc p) k = x (cc p) k := fun k => g3.1 _ _ (fun z => m5.kd (by decide) z.1) (by omega) (by omega) (by omega) (fun z => hne z.1)
      exact ⟨t, z1, by rw [g3.2 _ _ (by omega)]; exact z2, z3, by rw [e]; exact z4, by rw [e]; exact z5, by rw [e]; exact z6, by rw [e]; exact z7, by rw [e]; exact z8⟩
    · rw [List.getElem?_append_right g] at hp
      have g8 : p - rows.length < 1 := (List.getElem?_eq_some_iff.mp hp).1
      have g9 : p = rows.length := by omega
      subst g9
      rw [Nat.sub_self] at hp
      cases hp
      have hC2 := g3.ca (by omega) q1
      exact ⟨c.1, hct, hC2.2.2.1, rfl, hC2.2.2.2.1, g4, g5, g6, g7⟩
/-- the latest run, as the program tells it -/
def cL (n : Nat) (sh : Nat → Nat × Nat) (x : Nat → Nat → Int32) (y : Nat → Nat → Option Nat) (hF hT cc : Nat → Nat) (nt nfT : Nat) (L : rq × List re3 × List (Nat → Int32)) : Prop := x 5 4 = nI nfT ∧ nfT ≤ 12 ∧ (∀ f, f < nfT → x (hF f) 12 = L.1 f 12 ∧ x (hF f) 13 = L.1 f 13 ∧ x (hF f) 14 = L.1 f 14) ∧ lgP n sh x y L.2.1 ∧ (∀ e ∈ L.2.1, ∃ a b c, e = (nI a, nI b, nI c) ∧ a < 5 ∧ b < 40 ∧ c < 4) ∧ x 5 3 = nI L.2.2.length ∧ L.2.2.length ≤ 40 ∧ ∀ p r, L.2.2[p]? = some r → roP x y hT nt (cc p) r
/-- the cases, one after another -/
theorem rk_77L (d : Nat) (hK : wR w) (hE : nbE (wF w) (wN w) nb) (hs : scN w) {o : Int32} (ho : o = 0 ∨ o = 1) : ∀ (j : Nat) (R : List (Nat × Nat)) (s : rs) (rows : List (Nat → Int32)) (cc : Nat → Nat) (x : Nat → Nat → Int32) (y : Nat → Nat → Option Nat) (Q : Option mj_R → Prop), R.length = j → rnP n sh x y hF hT w nb cc R s rows →
    (∀ x' y' cc', rnP n sh x' y' hF hT w nb cc' [] (wGo w o j R s rows).1 (wGo w o j R s rows).2 → fS sh hT (wT w) x x' y y' → Q (mj_Rn pg (d + 18) 77 (53, [some (.inr (some 5)), some (.inr (some 2)), some (.inl o), some (.inl (nI (rows.length + j)))], [], bl n sh x' y'))) →
    Q (mj_Rn pg (d + 18) 77 (12, [some (.inr (some 5)), some (.inr (some 2)), some (.inl o), some (.inl (nI rows.length))], [], bl n sh x y)) := by
  intro j
  induction j with
  | zero =>
    intro R s rows cc x y Q hj h hQ
    have e0 : R = [] := List.eq_nil_of_length_eq_zero hj
    subst e0
    obtain ⟨⟨hS, hU, hc, hC⟩, ⟨hM, hk, hl⟩, ⟨h53, h40, h54⟩, hD, hr, hnd, hb⟩ := id h
    rw [List.length_nil, Nat.add_zero] at h53 h40
    have hU0 := hU.1
    have hkc : (nI rows.length ≤ nI rows.length) = True := eq_true (nI_le (by omega) (by omega))
    rw [s_77_12]
    simp only [s_77_13, s_77_14, s_77_17, mj_lI_s, mj_lI_0, mj_lA_s, mj_lA_0, mj_sL_s, mj_sL_0, mj_s8_0, mj_s8_1, mj_s8_2, mj_s8_3, mj_bc_n, mj_bc_s, mj_bd_s, u2_eq, u2_a, u2_k, ne_eq, Nat.reduceEqDiff, not_false_eq_true, List.nil_append, List.cons_append, eq_self, true_or, or_true, if_true, if_false, false_or, or_false, not_true_eq_false, Bool.false_eq_true, ie_m1_0, ie_m1_1, ie_m1_2, ie_m1_3, ie_m1_4, ie_m1_5, ie_0_m1, ie_0_1, ie_0_2, ie_0_3, ie_0_4, ie_0_5, ie_1_m1, ie_1_0, ie_1_2, ie_1_3, ie_1_4, ie_1_5, ie_2_m1, ie_2_0, ie_2_1, ie_2_3, ie_2_4, ie_2_5, ie_3_m1, ie_3_0, ie_3_1, ie_3_2, ie_3_4, ie_3_5, ie_4_m1, ie_4_0, ie_4_1, ie_4_2, ie_4_3, ie_4_5, ie_5_m1, ie_5_0, ie_5_1, ie_5_2, ie_5_3, ie_5_4, ct_4, cv_4, ci_4_0, cp_4_0, ci_4_1, cp_4_1, ci_4_2, cp_4_2, ci_4_3, cp_4_3, ci_4_4, cp_4_4, hU0, h53, hkc]
    exact hQ x y cc h (fS.rf sh hT _ x y)
  | succ j ih =>
    intro R s rows cc x y Q hj h hQ
    have hne : R ≠ [] := fun z => by rw [z] at hj; cases hj
    -- taken from the head
    have tk : ∀ (cc : Nat → Nat) (c : Nat × Nat) (R' : List (Nat × Nat)) (x : Nat → Nat → Int32) (y : Nat → Nat → Option Nat), R'.length = j → rnP n sh x y hF hT w nb cc (c :: R') s rows → (∀ x' y' cc', rnP n sh x' y' hF hT w nb cc' [] (wGo w o j R' (wCs w rows.length c.1 c.2 s).2.2.2.2.1 (rows ++ [wRow w rows.length c.1 c.2 s])).1 (wGo w o j R' (wCs w rows.length c.1 c.2 s).2.2.2.2.1 (rows ++ [wRow w rows.length c.1 c.2 s])).2 → fS sh hT (wT w) x x' y y' → Q (mj_Rn pg (d + 18) 77 (53, [some (.inr (some 5)), some (.inr (some 2)), some (.inl o), some (.inl (nI (rows.length + (j + 1))))], [], bl n sh x' y'))) → Q (mj_Rn pg (d + 18) 77 (35, [some (.inr (some 5)), some (.inr (some 2)), some (.inl o), some (.inl (nI rows.length))], [], bl n sh x y)) := fun cc c R' x y hl1 h1 hQ1 => by
      obtain ⟨x1, y1, c83, h2, hf1⟩ := h1.take (d + 12) hK hE hs
      have hU0 := h1.1.2.1.1
      have hU3 := h1.1.2.1.2.2.2
      have h10 := h1.1.2.2.1.1
      have hq40 : rows.length < 40 := by
        have h9 := h1.2.2.1.2.1
        rw [List.length_cons] at h9
        omega
      have k1 := (h1.1.2.2.1.2.1 rows.length hq40).1
      simp only [s_77_35, s_77_36, s_77_37, s_77_38, s_77_41, s_77_42, s_77_43, s_77_44, s_77_47, s_77_50, mj_lI_s, mj_lI_0, mj_lA_s, mj_lA_0, mj_sL_s, mj_sL_0, mj_s8_0, mj_s8_1, mj_s8_2, mj_s8_3, mj_bc_n, mj_bc_s, mj_bd_s, u2_eq, u2_a, u2_k, ne_eq, Nat.reduceEqDiff, not_false_eq_true, List.nil_append, List.cons_append, eq_self, true_or, or_true, if_true, if_false, false_or, or_false, not_true_eq_false, Bool.false_eq_true, ie_m1_0, ie_m1_1, ie_m1_2, ie_m1_3, ie_m1_4, ie_m1_5, ie_0_m1, ie_0_1, ie_0_2, ie_0_3, ie_0_4, ie_0_5, ie_1_m1, ie_1_0, ie_1_2, ie_1_3, ie_1_4, ie_1_5, ie_2_m1, ie_2_0, ie_2_1, ie_2_3, ie_2_4, ie_2_5, ie_3_m1, ie_3_0, ie_3_1, ie_3_2, ie_3_4, ie_3_5, ie_4_m1, ie_4_0, ie_4_1, ie_4_2, ie_4_3, ie_4_5, ie_5_m1, ie_5_0, ie_5_1, ie_5_2, ie_5_3, ie_5_4, ct_4, cv_4, ci_4_0, cp_4_0, ci_4_1, cp_4_1, ci_4_2, cp_4_2, ci_4_3, cp_4_3, ci_4_4, cp_4_4, hU0, hU3, xr_101 h10 hq40 (by decide), k1, c83, nI_1]
      have fin := ih R' _ _ cc x1 y1 Q hl1 h2 (fun x' y' cc' r1 r2 => by
        have := hQ1 x' y' cc' r1 (hf1.tr r2)
        rw [show (rows ++ [wRow w rows.length c.1 c.2 s]).length + j = rows.length + (j + 1) by rw [List.length_append]; simp; omega]
        exact this)
      rw [show (rows ++ [wRow w rows.length c.1 c.2 s]).length = rows.length + 1 by rw [List.length_append]; rfl] at fin
      exact fin
    obtain ⟨⟨hS, hU, hc, hC⟩, ⟨hM, hk, hl⟩, ⟨h53, h40, h54⟩, hD, hr, hnd, hb⟩ := id h
    have hU0 := hU.1
    have hkc : (nI (rows.length + R.length) ≤ nI rows.length) = False := eq_false (nI_ge (by omega) (by omega))
    rw [s_77_12]
    rcases ho with ho | ho
    · have o1 : ¬ o = 1 := by rw [ho]; decide
      cases R with
      | nil => exact absurd rfl hne
      | cons c R =>
        simp only [s_77_13, s_77_14, s_77_17, s_77_20, s_77_21, s_77_22, mj_lI_s, mj_lI_0, mj_lA_s, mj_lA_0, mj_sL_s, mj_sL_0, mj_s8_0, mj_s8_1, mj_s8_2, mj_s8_3, mj_bc_n, mj_bc_s, mj_bd_s, u2_eq, u2_a, u2_k, ne_eq, Nat.reduceEqDiff, not_false_eq_true, List.nil_append, List.cons_append, eq_self, true_or, or_true, if_true, if_false, false_or, or_false, not_true_eq_false, Bool.false_eq_true, ie_m1_0, ie_m1_1, ie_m1_2, ie_m1_3, ie_m1_4, ie_m1_5, ie_0_m1, ie_0_1, ie_0_2, ie_0_3, ie_0_4, ie_0_5, ie_1_m1, ie_1_0, ie_1_2, ie_1_3, ie_1_4, ie_1_5, ie_2_m1, ie_2_0, ie_2_1, ie_2_3, ie_2_4, ie_2_5, ie_3_m1, ie_3_0, ie_3_1, ie_3_2, ie_3_4, ie_3_5, ie_4_m1, ie_4_0, ie_4_1, ie_4_2, ie_4_3, ie_4_5, ie_5_m1, ie_5_0, ie_5_1, ie_5_2, ie_5_3, ie_5_4, ct_4, cv_4, ci_4_0, cp_4_0, ci_4_1, cp_4_1, ci_4_2, cp_4_2, ci_4_3, cp_4_3, ci_4_4, cp_4_4, hU0, h53, hkc, o1]
        have hl1 : R.length = j := Nat.succ.inj hj
        refine tk cc c R x y hl1 h (fun x' y' cc' r1 r2 => hQ x' y' cc' ?_ r2)
        have eg : wGo w o (j + 1) (c :: R) s rows = wGo w o j R (wCs w rows.length c.1 c.2 s).2.2.2.2.1 (rows ++ [wRow w rows.length c.1 c.2 s]) := by
          have e1 : (c :: R).foldl (bst (wLk w o s)) none = some c := bst_0 (fun e => if_pos ho) R c
          show (match (c :: R).foldl (bst (wLk w o s)) none with | none => (s, rows) | some c' => wGo w o j ((c :: R).erase c') (wCs w rows.length c'.1 c'.2 s).2.2.2.2.1 (rows ++ [wRow w rows.length c'.1 c'.2 s])) = _
          rw [e1]
          show wGo w o j ((c :: R).erase c) _ _ = _
          rw [List.erase_cons_head]
        rw [eg]
        exact r1
    · have h12 := hS.2.1.1
      obtain ⟨A, c, B, r1, r2, c80⟩ := rk_80 (x := x) (d + 13) (g := wLk w o s) (q0 := rows.length) hU hc hne h40 h53 (fun i e he => by
        have hem := hb e (List.mem_of_getElem? he)
        obtain ⟨p1, p2, p3, p4, p5⟩ := hS.ps hK (m := e.2) hem.1
        have hrw := hC e.1 hem.1
        rw [← p1] at hrw
        rw [rk_81 (d + 13) hem.1 p2 p3 hS hU (hD i e he).1 hM hrw]
        have : wLk w o s e = (wPs w e.1 e.2).foldl (sLk s.1 (wI w 0) (wI w 1 e.1) s.2.1) 0 := if_neg (by rw [ho]; decide)
        rw [this]) (fun e he => wLk_le hK o s h12 (hS.2.2.2.2.1 e.1 (hb e he).1).2.1.2.2.2.1.2.2.2.2.2.1)
      subst r1
      obtain ⟨y1, cc1, c82, h1, hf1⟩ := h.pick (d + 16)
      simp only [s_77_13, s_77_14, s_77_17, s_77_20, s_77_21, s_77_22, s_77_25, s_77_26, s_77_27, s_77_28, s_77_31, s_77_32, mj_lI_s, mj_lI_0, mj_lA_s, mj_lA_0, mj_sL_s, mj_sL_0, mj_s8_0, mj_s8_1, mj_s8_2, mj_s8_3, mj_bc_n, mj_bc_s, mj_bd_s, u2_eq, u2_a, u2_k, ne_eq, Nat.reduceEqDiff, not_false_eq_true, List.nil_append, List.cons_append, eq_self, true_or, or_true, if_true, if_false, false_or, or_false, not_true_eq_false, Bool.false_eq_true, ie_m1_0, ie_m1_1, ie_m1_2, ie_m1_3, ie_m1_4, ie_m1_5, ie_0_m1, ie_0_1, ie_0_2, ie_0_3, ie_0_4, ie_0_5, ie_1_m1, ie_1_0, ie_1_2, ie_1_3, ie_1_4, ie_1_5, ie_2_m1, ie_2_0, ie_2_1, ie_2_3, ie_2_4, ie_2_5, ie_3_m1, ie_3_0, ie_3_1, ie_3_2, ie_3_4, ie_3_5, ie_4_m1, ie_4_0, ie_4_1, ie_4_2, ie_4_3, ie_4_5, ie_5_m1, ie_5_0, ie_5_1, ie_5_2, ie_5_3, ie_5_4, ct_4, cv_4, ci_4_0, cp_4_0, ci_4_1, cp_4_1, ci_4_2, cp_4_2, ci_4_3, cp_4_3, ci_4_4, cp_4_4, hU0, h53, hkc, ho, c80, c82]
      have hl1 : (A ++ B).length = j := by
        rw [List.length_append, List.length_cons] at hj
        rw [List.length_append]
        omega
      have tk1 := tk cc1 c (A ++ B) x y1 hl1 h1 (fun x' y' cc' g1 g2 => hQ x' y' cc' (by
        have eg : wGo w o (j + 1) (A ++ c :: B) s rows = wGo w o j (A ++ B) (wCs w rows.length c.1 c.2 s).2.2.2.2.1 (rows ++ [wRow w rows.length c.1 c.2 s]) := by
          show (match (A ++ c :: B).foldl (bst (wLk w o s)) none with | none => (s, rows) | some c' => wGo w o j ((A ++ c :: B).erase c') (wCs w rows.length c'.1 c'.2 s).2.2.2.2.1 (rows ++ [wRow w rows.length c'.1 c'.2 s])) = _
          rw [r2, ← er_app hnd]
        rw [eg]
        exact g1) (hf1.tr g2))
      rw [ho] at tk1
      exact tk1
/-- runAll -/
theorem rk_77 (d : Nat) (hK : wR w) (hE : nbE (wF w) (wN w) nb) (hs : scN w) {o : Int32} (ho : o = 0 ∨ o = 1) {cc : Nat → Nat} {x : Nat → Nat → Int32} {y : Nat → Nat → Option Nat} (hS : suP n sh x y hF hT w nb) (hU : runP n sh y) (hc : caS n sh y cc) (h6 : rowS n sh x y 6 7 12) (h8 : ob n sh 8 2 2) (h9 : ob n sh 9 100 3492) (h80 : y 8 0 = some 9) (h40 : (wAll w).length ≤ 40) :
    ∃ x' y' cc', mj_Cl pg (d + 18) 77 [.inr (some 5), .inr (some 2), .inl o] (bl n sh x y) = some (none, bl n sh x' y') ∧ suP n sh x' y' hF hT w nb ∧ runP n sh y' ∧ caS n sh y' cc' ∧ rowS n sh x' y' 6 7 12 ∧ cL n sh x' y' hF hT cc' (wT w) (wF w) (wRun w o) ∧ fS sh hT (wT w) x x' y y' := by
  obtain ⟨x1, c78, hM1, h541, hf1⟩ := rk_78 (d + 15) hS hU h6 h8 h9 h80
  have hS1 := hS.cong hf1
  obtain ⟨x2, y2, c79, hC2, hD2, h532, hf2⟩ := rk_79 d hK hS1 hU hc h40
  have hl127 : ∀ t, t < wT w → 127 ≤ hT t := hS.2.2.2.2.2.2.1
  have hf127 : ∀ f, f < wF w → 127 ≤ hF f ∧ ∀ t, t < wT w → hF f ≠ hT t + 3 := fun f hf => ⟨hS.2.2.2.2.2.1 f hf, fun t ht => by have := hS.2.2.2.2.2.2.2.2.2 f t hf ht; omega⟩
  have h12 := hS.2.1.1
  have hwm : ∀ c ∈ wAll w, c.1 < wT w ∧ c.2 < 8 := fun c hcm => by
    obtain ⟨z1, z2, z3⟩ := wAf_mem hcm
    have := wCas_le w c.1
    exact ⟨by omega, by omega⟩
  have h0 : rnP n sh x2 y2 hF hT w nb cc (wAll w) ([], fun _ _ => 0, []) [] := ⟨⟨hS1.cong hf2.fS, hf2.run hl127 hU, hf2.caS hl127 hc, hC2⟩, ⟨hf2.md hl127 hf127 hM1, ⟨⟨List.nodup_nil, fun f hf => (by cases hf)⟩, fun f hf => (by cases hf), fun e he => (by cases he), fun f => ⟨0, rfl, by decide⟩⟩, Nat.zero_le _⟩, ⟨by rw [h532, List.length_nil, Nat.zero_add], by rw [List.length_nil, Nat.zero_add]; exact h40, by rw [hf2.1 5 4 (by omega) (by omega) (fun ⟨t, ht, z, _⟩ => by have := hl127 t ht; omega)]; exact h541⟩, hD2, fun p r hp => (by simp at hp), wAf_nd w _ _, hwm⟩
  have hU0 := hU.1
  rw [e_77]
  simp only [s_77_0, s_77_1, s_77_2, s_77_5, s_77_6, s_77_7, s_77_10, s_77_11, mj_lI_s, mj_lI_0, mj_lA_s, mj_lA_0, mj_sL_s, mj_sL_0, mj_s8_0, mj_s8_1, mj_s8_2, mj_s8_3, mj_bc_n, mj_bc_s, mj_bd_s, u2_eq, u2_a, u2_k, ne_eq, Nat.reduceEqDiff, not_false_eq_true, List.nil_append, List.cons_append, eq_self, true_or, or_true, if_true, if_false, false_or, or_false, not_true_eq_false, Bool.false_eq_true, ie_m1_0, ie_m1_1, ie_m1_2, ie_m1_3, ie_m1_4, ie_m1_5, ie_0_m1, ie_0_1, ie_0_2, ie_0_3, ie_0_4, ie_0_5, ie_1_m1, ie_1_0, ie_1_2, ie_1_3, ie_1_4, ie_1_5, ie_2_m1, ie_2_0, ie_2_1, ie_2_3, ie_2_4, ie_2_5, ie_3_m1, ie_3_0, ie_3_1, ie_3_2, ie_3_4, ie_3_5, ie_4_m1, ie_4_0, ie_4_1, ie_4_2, ie_4_3, ie_4_5, ie_5_m1, ie_5_0, ie_5_1, ie_5_2, ie_5_3, ie_5_4, ct_4, cv_4, ci_4_0, cp_4_0, ci_4_1, cp_4_1, ci_4_2, cp_4_2, ci_4_3, cp_4_3, ci_4_4, cp_4_4, hU0, c78, c79]
  have key := rk_77L d hK hE hs ho (wAll w).length (wAll w) ([], fun _ _ => 0, []) [] cc x2 y2 (fun r => ∃ x' y' cc', r = some (none, bl n sh x' y') ∧ suP n sh x' y' hF hT w nb ∧ runP n sh y' ∧ caS n sh y' cc' ∧ rowS n sh x' y' 6 7 12 ∧ cL n sh x' y' hF hT cc' (wT w) (wF w) (wRun w o) ∧ fS sh hT (wT w) x x' y y') rfl h0 (fun x3 y3 cc3 h3 hf3 => ?_)
  · exact key
  obtain ⟨⟨hS3, hU3, hc3, hC3⟩, ⟨hM3, hk3, hl3⟩, ⟨h533, h403, h543⟩, hD3, hr3, hnd3, hb3⟩ := h3
  rw [List.length_nil, Nat.add_zero] at h533 h403
  have hg : wRun w o = (((wGo w o (wAll w).length (wAll w) ([], fun _ _ => 0, []) []).1.1.reverse.foldl (sE (wA w 2)) ((wGo w o (wAll w).length (wAll w) ([], fun _ _ => 0, []) []).1.2.1, (wGo w o (wAll w).length (wAll w) ([], fun _ _ => 0, []) []).1.2.2, 0)).1, ((wGo w o (wAll w).length (wAll w) ([], fun _ _ => 0, []) []).1.1.reverse.foldl (sE (wA w 2)) ((wGo w o (wAll w).length (wAll w) ([], fun _ _ => 0, []) []).1.2.1, (wGo w o (wAll w).length (wAll w) ([], fun _ _ => 0, []) []).1.2.2, 0)).2.1, (wGo w o (wAll w).length (wAll w) ([], fun _ _ => 0, []) []).2) := rfl
  rw [hg]
  generalize wGo w o (wAll w).length (wAll w) ([], fun _ _ => 0, []) [] = G at hM3 hk3 hl3 h533 h403 hr3
  obtain ⟨x4, y4, c88, hM4, hG4⟩ := rk_88 (d + 15) (B := fun _ => true) (z := x3 6 2) hS3 hU3 hM3 (fun f hf => by rw [hM3.1.2.2.1 f]; exact decide_eq_true hf) (by
    have := hM3.1.2.2.2.2.1
    omega)
  have ef : G.1.1.filter (fun _ => true) = G.1.1 := List.filter_eq_self.mpr (fun _ _ => rfl)
  rw [ef] at hM4
  have h6o := hM3.1.1.1
  have hU31 := hU3.2.1
  refine ⟨x4, y4, cc3, ?_, hS3.cong (hG4.fS hT _), hG4.run hU3, hc3.cong (fun k => hG4.2 _ _ (by decide)) (fun a h1 h2 => hG4.2 _ _ (by omega)), hM4.1.1, ⟨?_, h12, fun f hf => ?_, hM4.2.1, ?_, ?_, h403, fun p r hp => ?_⟩, ((hf1.tr hf2.fS).tr hf3).tr (hG4.fS hT _)⟩
  · simp only [s_77_53, s_77_54, s_77_55, s_77_58, s_77_61, s_77_64, s_77_65, mj_lI_s, mj_lI_0, mj_lA_s, mj_lA_0, mj_sL_s, mj_sL_0, mj_s8_0, mj_s8_1, mj_s8_2, mj_s8_3, mj_bc_n, mj_bc_s, mj_bd_s, u2_eq, u2_a, u2_k, ne_eq, Nat.reduceEqDiff, not_false_eq_true, List.nil_append, List.cons_append, eq_self, true_or, or_true, if_true, if_false, false_or, or_false, not_true_eq_false, Bool.false_eq_true, ie_m1_0, ie_m1_1, ie_m1_2, ie_m1_3, ie_m1_4, ie_m1_5, ie_0_m1, ie_0_1, ie_0_2, ie_0_3, ie_0_4, ie_0_5, ie_1_m1, ie_1_0, ie_1_2, ie_1_3, ie_1_4, ie_1_5, ie_2_m1, ie_2_0, ie_2_1, ie_2_3, ie_2_4, ie_2_5, ie_3_m1, ie_3_0, ie_3_1, ie_3_2, ie_3_4, ie_3_5, ie_4_m1, ie_4_0, ie_4_1, ie_4_2, ie_4_3, ie_4_5, ie_5_m1, ie_5_0, ie_5_1, ie_5_2, ie_5_3, ie_5_4, ct_3, cv_3, ci_3_0, cp_3_0, ci_3_1, cp_3_1, ci_3_2, cp_3_2, ci_3_3, cp_3_3, ct_4, cv_4, ci_4_0, cp_4_0, ci_4_1, cp_4_1, ci_4_2, cp_4_2, ci_4_3, cp_4_3, ci_4_4, cp_4_4, hU0, hU31, h6o, c88]
  · rw [hG4.1 _ _ (fun z => hU0.kd (by decide) z.1) (by omega) (by omega) (by omega)]; exact h543
  · exact (hM4.2.2 f hf).2.2.2
  · refine (sE_evS (wA w 2) G.1.1.reverse G.1.1 [] _ _ 0 (fun f hf => ?_) hk3.2.2).1
    have := hk3.1.2 f (by simpa using hf)
    omega
  · rw [hG4.1 _ _ (fun z => hU0.kd (by decide) z.1) (by omega) (by omega) (by omega)]; exact h533
  · have hp40 : p < G.2.length := (List.getElem?_eq_some_iff.mp hp).1
    obtain ⟨t, z1, z2, z3, z4, z5, z6, z7, z8⟩ := hr3 p r hp
    obtain ⟨m1, m2, m3, m4, m5, m6, m7⟩ := hc3.2.1 p (by omega)
    have e : ∀ k, x4 (cc3 p) k = x3 (cc3 p) k := fun k => hG4.1 _ _ (fun z => m5.kd (by decide) z.1) (by omega) (by omega) (by omega)
    exact ⟨t, z1, by rw [hG4.2 _ _ (by omega)]; exact z2, z3, by rw [e]; exact z4, by rw [e]; exact z5, by rw [e]; exact z6, by rw [e]; exact z7, by rw [e]; exact z8⟩
end RA
