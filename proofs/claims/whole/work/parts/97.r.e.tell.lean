/-! both sides: takes, fails, uses -/
section TL
variable {n : Nat} {sh : Nat → Nat × Nat} {x : Nat → Nat → Int32} {y : Nat → Nat → Option Nat}
/-- a test's numbers are changed, both sides -/
theorem INV.num {hF hT cc : Nat → Nat} {w : sW} {nb : Nat → Nat → Bool} {nfT : Nat} {L : rq × List re3 × List (Nat → Int32)} (h : INV n sh x y hF hT w nb cc nfT L) {t k : Nat} (ht : t < wT w) (hk : k = 2 ∨ k = 4) (a b : Int32) (hre : k = 4 → 0 ≤ b ∧ b ≤ 2) :
    INV n sh (u2 (u2 (u2 (u2 (u2 x (hT t) (k + 2) a) (hT t) (k + 3) b) 91 0 0) (99 + k) t a) (100 + k) t b) y hF hT (w.1, w.2.1, w.2.2.1, w.2.2.2.1, u2 (u2 w.2.2.2.2 k t a) (k + 1) t b) nb cc nfT L := by
  obtain ⟨hS, hJ, hR, hX, hn⟩ := h
  have l127 : ∀ t, t < wT w → 127 ≤ hT t := hS.2.2.2.2.2.2.1
  have h127 : ∀ f, f < wF w → 127 ≤ hF f := hS.2.2.2.2.2.1
  have ht127 := l127 t ht
  have h20 := hS.1.2.2.2.2.2.2.2
  have hTo := (hS.2.2.2.2.1 t ht).2.1.1
  have hx : ∀ c j, c ≠ hT t → (c < 91 ∨ 126 < c) → (u2 (u2 (u2 (u2 (u2 x (hT t) (k + 2) a) (hT t) (k + 3) b) 91 0 0) (99 + k) t a) (100 + k) t b) c j = x c j := fun c j h1 h2 => by
    rw [u2_a (by omega), u2_a (by omega), u2_a (by omega), u2_a h1, u2_a h1]
  have hxt : ∀ j, j ≠ k + 2 → j ≠ k + 3 → (u2 (u2 (u2 (u2 (u2 x (hT t) (k + 2) a) (hT t) (k + 3) b) 91 0 0) (99 + k) t a) (100 + k) t b) (hT t) j = x (hT t) j := fun j h1 h2 => by
    rw [u2_a (by omega), u2_a (by omega), u2_a (by omega), u2_k h2, u2_k h1]
  have hxa : (u2 (u2 (u2 (u2 (u2 x (hT t) (k + 2) a) (hT t) (k + 3) b) 91 0 0) (99 + k) t a) (100 + k) t b) (hT t) (k + 2) = a := by
    rw [u2_a (by omega), u2_a (by omega), u2_a (by omega), u2_k (by omega), u2_eq]
  have hxb : (u2 (u2 (u2 (u2 (u2 x (hT t) (k + 2) a) (hT t) (k + 3) b) 91 0 0) (99 + k) t a) (100 + k) t b) (hT t) (k + 3) = b := by
    rw [u2_a (by omega), u2_a (by omega), u2_a (by omega), u2_eq]
  have hxm : ∀ c j, 91 ≤ c → c ≤ 126 → ¬ (c = 99 + k ∧ j = t) → ¬ (c = 100 + k ∧ j = t) → ¬ (c = 91 ∧ j = 0) → (u2 (u2 (u2 (u2 (u2 x (hT t) (k + 2) a) (hT t) (k + 3) b) 91 0 0) (99 + k) t a) (100 + k) t b) c j = x c j := fun c j h1 h2 h3 h4 h5 => by
    rw [u2_ne h4, u2_ne h3, u2_ne h5, u2_a (by omega), u2_a (by omega)]
  have hxma : (u2 (u2 (u2 (u2 (u2 x (hT t) (k + 2) a) (hT t) (k + 3) b) 91 0 0) (99 + k) t a) (100 + k) t b) (99 + k) t = a := by rw [u2_a (by omega), u2_eq]
  have hxmb : (u2 (u2 (u2 (u2 (u2 x (hT t) (k + 2) a) (hT t) (k + 3) b) 91 0 0) (99 + k) t a) (100 + k) t b) (100 + k) t = b := by rw [u2_eq]
  generalize (u2 (u2 (u2 (u2 (u2 x (hT t) (k + 2) a) (hT t) (k + 3) b) 91 0 0) (99 + k) t a) (100 + k) t b) = X at hx hxt hxa hxb hxm hxma hxmb
  have hI : ∀ i u, (u ≠ t ∨ (i ≠ k ∧ i ≠ k + 1)) → (u2 (u2 w.2.2.2.2 k t a) (k + 1) t b) i u = wI w i u := fun i u q => by rw [u2_ne (by omega), u2_ne (by omega)]
  have hIa : (u2 (u2 w.2.2.2.2 k t a) (k + 1) t b) k t = a := by rw [u2_a (by omega), u2_eq]
  have hIb : (u2 (u2 w.2.2.2.2 k t a) (k + 1) t b) (k + 1) t = b := by rw [u2_eq]
  generalize hIe : (u2 (u2 w.2.2.2.2 k t a) (k + 1) t b) = I at hI hIa hIb
  have h5 : ∀ u, u < wT w → 0 ≤ I 5 u ∧ I 5 u ≤ 2 := fun u hu => by
    by_cases c : u = t ∧ k = 4
    · rw [c.1]; have := hre c.2; rw [c.2] at hIb; rw [hIb]; exact this
    · rw [hI 5 u (by omega)]; exact (hS.2.2.2.2.1 u hu).2.2.2
  refine ⟨hS.re (fun c j q => ⟨hx c j (by omega) (by omega), rfl⟩) (fun f hf => ?_) (fun f hf => ?_) (fun u hu => ?_), hJ.cong (fun c j q1 q2 => hx c j (by omega) (by omega)) (fun _ _ _ _ _ _ => rfl) (fun f j q1 q2 => ?_), ⟨hR.1, hR.2.1, ?_, ?_, hR.2.2.2.2.cong (fun j q => hxm 91 j (by omega) (by omega) (by omega) (by omega) (by omega)) (fun c j q1 q2 => hxm c j (by omega) (by omega) (by omega) (by omega) (by omega))⟩, ?_, hn⟩
  · have h1 := h127 f hf
    have hne : hF f ≠ hT t := ob_ne (hS.2.1.2.1 f hf).1 hTo (by decide)
    exact ⟨fun j _ => hx _ j hne (by omega), rfl, fun g => by rw [hx _ 7 hne (by omega)]; exact (hS.2.2.1 f hf).1.2.2.2.2.2 g, hI 0 f (by omega)⟩
  · have h1 := h127 f hf
    have hr := (hS.2.2.2.1 f hf).2
    have hne : hF f + 1 ≠ hT t := ob_ne hr.1.1 hTo (by decide)
    exact hr.cong (fun j => hx _ j hne (by omega)) rfl (fun _ => rfl)
  · have h1 := l127 u hu
    obtain ⟨e1, ⟨e2, e3, e4, e5, e6⟩, ⟨g1, g2, g3, g4, g5, g6⟩, e7⟩ := hS.2.2.2.2.1 u hu
    have hne1 : hT u + 1 ≠ hT t := ob_ne e5.1.1 hTo (by decide)
    have hne3 : hT u + 3 ≠ hT t := ob_ne e6.1 hTo (by decide)
    refine ⟨fun _ _ => rfl, ?_, ?_, hI 1 u (by omega), e5.cong (fun j => hx _ j hne1 (by omega)) rfl (fun _ => rfl), ⟨e6.1, e6.2.1, e6.2.2.1, by rw [hx _ _ hne3 (by omega)]; exact e6.2.2.2.1, e6.2.2.2.2⟩, ?_, ?_, ?_, ?_, h5 u hu⟩
    · by_cases c : u = t
      · rw [c, hxt _ (by omega) (by omega)]
      · have := hS.2.2.2.2.2.2.2.2.1 u t hu ht c
        exact hx _ _ (by omega) (by omega)
    · by_cases c : u = t
      · rw [c, hxt _ (by omega) (by omega)]
      · have := hS.2.2.2.2.2.2.2.2.1 u t hu ht c
        exact hx _ _ (by omega) (by omega)
    all_goals
      by_cases c : u = t
      · subst c
        rcases hk with hk | hk <;> subst hk
        all_goals first | exact hxa.trans hIa.symm | exact hxb.trans hIb.symm | (rw [hxt _ (by omega) (by omega), hI _ _ (by omega)]; assumption)
      · have := hS.2.2.2.2.2.2.2.2.1 u t hu ht c
        rw [hx _ _ (by omega) (by omega), hI _ _ (by omega)]
        assumption
  · have h1 := h127 f (by omega)
    have hne : hF f ≠ hT t := ob_ne (hS.2.1.2.1 f (by omega)).1 hTo (by decide)
    exact hx _ j hne (by omega)
  · obtain ⟨m1, m2, m3, m4, m5⟩ := hR.2.2.1
    refine ⟨⟨?_, m1.2.1, fun f hf => ?_⟩, fun f hf => ?_, ⟨?_, m3.2.1, fun u hu => ?_⟩, fun f hf => ?_, fun u hu => ?_⟩
    · rw [hxm _ _ (by omega) (by omega) (by omega) (by omega) (by omega)]; exact m1.1
    · obtain ⟨z1, z2, z3, z4⟩ := m1.2.2 f hf
      exact ⟨by rw [hxm _ _ (by omega) (by omega) (by omega) (by omega) (by omega)]; exact z1, z2, fun j q hj => by rw [hxm _ _ (by omega) (by omega) (by omega) (by omega) (by omega)]; exact z3 j q hj, z4⟩
    · rw [hxm _ _ (by omega) (by omega) (by omega) (by omega) (by omega)]; exact m2 f hf
    · rw [hxm _ _ (by omega) (by omega) (by omega) (by omega) (by omega)]; exact m3.1
    · obtain ⟨z1, z2, z3, z4⟩ := m3.2.2 u hu
      exact ⟨by rw [hxm _ _ (by omega) (by omega) (by omega) (by omega) (by omega)]; exact z1, z2, fun j q hj => by rw [hxm _ _ (by omega) (by omega) (by omega) (by omega) (by omega)]; exact z3 j q hj, z4⟩
    · rw [hxm _ _ (by omega) (by omega) (by omega) (by omega) (by omega), hxm _ _ (by omega) (by omega) (by omega) (by omega) (by omega), hxm _ _ (by omega) (by omega) (by omega) (by omega) (by omega)]
      obtain ⟨z1, z2⟩ := m4 f hf
      exact ⟨z1.trans (hI 0 f (by omega)).symm, z2⟩
    · obtain ⟨z1, z2, z3, z4, z5, z6⟩ := m5 u hu
      refine ⟨?_, ?_, ?_, ?_, ?_, (h5 u hu).2⟩
      · rw [hxm _ _ (by omega) (by omega) (by omega) (by omega) (by omega)]; exact z1.trans (hI 1 u (by omega)).symm
      all_goals
        by_cases c : u = t
        · subst c
          rcases hk with hk | hk <;> subst hk
          all_goals first | exact hxma.trans hIa.symm | exact hxmb.trans hIb.symm | (rw [hxm _ _ (by omega) (by omega) (by omega) (by omega) (by omega)]; refine Eq.trans ?_ (hI _ _ (by omega)).symm; assumption)
        · rw [hxm _ _ (by omega) (by omega) (by omega) (by omega) (by omega)]
          refine Eq.trans ?_ (hI _ _ (by omega)).symm
          assumption
  · refine ⟨fun f z1 z2 => ?_, fun u z1 z2 => ?_⟩
    · rw [hxm _ _ (by omega) (by omega) (by omega) (by omega) (by omega)]; exact hR.2.2.2.1.1 f z1 z2
    · have z1 : wT w ≤ u := z1
      rw [hxm _ _ (by omega) (by omega) (by omega) (by omega) (by omega), hxm _ _ (by omega) (by omega) (by omega) (by omega) (by omega), hxm _ _ (by omega) (by omega) (by omega) (by omega) (by omega), hxm _ _ (by omega) (by omega) (by omega) (by omega) (by omega), hxm _ _ (by omega) (by omega) (by omega) (by omega) (by omega)]
      exact hR.2.2.2.1.2 u z1 z2
  · refine ⟨hX.1, fun f hf => ?_, fun f hf g hg => ?_⟩
    · show 0 ≤ I 0 f
      rw [hI 0 f (by omega)]; exact hX.2.1 f hf
    · show I 0 g = 0 → I 0 f = 0
      rw [hI 0 f (by omega), hI 0 g (by omega)]; exact hX.2.2 f hf g hg
end TL
