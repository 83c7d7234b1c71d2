/-! the class's suite -/
/-- the rows of what is needed -/
def neP (n : Nat) (sh : Nat → Nat × Nat) (x : Nat → Nat → Int32) (y : Nat → Nat → Option Nat) (hF : Nat → Nat) (nf : Nat) (nd : Nat → List Nat) : Prop := ∀ f, f < nf → y (hF f) 6 = some (hF f + 1) ∧ rowP n sh x y hF nf (hF f + 1) (hF f + 2) 6 (nd f)
/-- a test's rows -/
def teP (n : Nat) (sh : Nat → Nat × Nat) (x : Nat → Nat → Int32) (y : Nat → Nat → Option Nat) (hF : Nat → Nat) (nf T : Nat) (us : List Nat) : Prop := ob n sh T 6 8 ∧ y T 2 = some (T + 1) ∧ y T 3 = some (T + 3) ∧ rowP n sh x y hF nf (T + 1) (T + 2) 6 us ∧ rowS n sh x y (T + 3) (T + 4) 12
def lay (hF hT : Nat → Nat) (nf nt : Nat) : Prop := (∀ f, f < nf → 127 ≤ hF f) ∧ (∀ t, t < nt → 127 ≤ hT t) ∧ (∀ f g, f < nf → g < nf → f ≠ g → hF f + 3 ≤ hF g ∨ hF g + 3 ≤ hF f) ∧ (∀ t u, t < nt → u < nt → t ≠ u → hT t + 5 ≤ hT u ∨ hT u + 5 ≤ hT t) ∧ ∀ f t, f < nf → t < nt → hF f + 3 ≤ hT t ∨ hT t + 5 ≤ hF f
def suP (n : Nat) (sh : Nat → Nat × Nat) (x : Nat → Nat → Int32) (y : Nat → Nat → Option Nat) (hF hT : Nat → Nat) (w : sW) (nb : Nat → Nat → Bool) : Prop :=
  (ob n sh 2 5 4 ∧ ob n sh 3 102 12 ∧ ob n sh 4 107 20 ∧ y 2 0 = some 3 ∧ x 2 1 = nI (wF w) ∧ y 2 2 = some 4 ∧ x 2 3 = nI (wT w) ∧ wT w ≤ 20) ∧
  fxP n sh x hF (wF w) ∧
  (∀ f, f < wF w → (y 3 f = some (hF f) ∧ x (hF f) 2 = wI w 0 f ∧ x (hF f) 3 = nI (wA w 0 f) ∧ x (hF f) 4 = nI (wA w 1 f) ∧ x (hF f) 5 = nI (wA w 2 f) ∧ ∀ g, bt (x (hF f) 7) g = nb f g) ∧ 0 < wA w 0 f ∧ wA w 0 f < 4 ∧ wA w 1 f ≤ 1 ∧ wA w 2 f ≤ 1) ∧
  neP n sh x y hF (wF w) (wN w) ∧
  (∀ t, t < wT w → y 4 t = some (hT t) ∧ teP n sh x y hF (wF w) (hT t) (wU w t) ∧ (x (hT t) 0 = nI t ∧ x (hT t) 1 = wI w 1 t ∧ x (hT t) 4 = wI w 2 t ∧ x (hT t) 5 = wI w 3 t ∧ x (hT t) 6 = wI w 4 t ∧ x (hT t) 7 = wI w 5 t) ∧ 0 ≤ wI w 5 t ∧ wI w 5 t ≤ 2) ∧
  lay hF hT (wF w) (wT w)
/-- the cells that a run may change -/
def dX (sh : Nat → Nat × Nat) (hT : Nat → Nat) (nt a k : Nat) : Prop := ((sh a).1 = 1 ∧ 8 ≤ k) ∨ (a = 6 ∧ k ≠ 3) ∨ (a = 5 ∧ 3 ≤ k) ∨ a = 8 ∨ a = 9 ∨ (11 ≤ a ∧ a ≤ 90) ∨ ∃ t, t < nt ∧ a = hT t + 3 ∧ k ≠ 3
def dY (hT : Nat → Nat) (nt a k : Nat) : Prop := a = 7 ∨ a = 10 ∨ (11 ≤ a ∧ a ≤ 90 ∧ k = 0) ∨ ∃ t, t < nt ∧ a = hT t + 4
def fS (sh : Nat → Nat × Nat) (hT : Nat → Nat) (nt : Nat) (x x' : Nat → Nat → Int32) (y y' : Nat → Nat → Option Nat) : Prop := (∀ a k, ¬ dX sh hT nt a k → x' a k = x a k) ∧ ∀ a k, ¬ dY hT nt a k → y' a k = y a k
theorem fS.rf (sh : Nat → Nat × Nat) (hT : Nat → Nat) (nt : Nat) (x : Nat → Nat → Int32) (y : Nat → Nat → Option Nat) : fS sh hT nt x x y y := ⟨fun _ _ _ => rfl, fun _ _ _ => rfl⟩
theorem fS.tr {sh : Nat → Nat × Nat} {hT : Nat → Nat} {nt : Nat} {x x' x2 : Nat → Nat → Int32} {y y' y2 : Nat → Nat → Option Nat} (h1 : fS sh hT nt x x' y y') (h2 : fS sh hT nt x' x2 y' y2) : fS sh hT nt x x2 y y2 := ⟨fun a k h => (h2.1 a k h).trans (h1.1 a k h), fun a k h => (h2.2 a k h).trans (h1.2 a k h)⟩
theorem dX_no {sh : Nat → Nat × Nat} {hT : Nat → Nat} {nt a k : Nat} (h1 : (sh a).1 ≠ 1 ∨ k < 8) (h2 : a < 5 ∨ 90 < a) (h3 : ∀ t, t < nt → a ≠ hT t + 3 ∨ k = 3) : ¬ dX sh hT nt a k := by
  rintro (h | h | h | h | h | h | ⟨t, ht, h4, h5⟩)
  · rcases h1 with q | q
    · exact q h.1
    · omega
  · omega
  · omega
  · omega
  · omega
  · omega
  · rcases h3 t ht with q | q
    · exact q h4
    · exact h5 q
theorem dY_no {hT : Nat → Nat} {nt a k : Nat} (h2 : a < 7 ∨ 90 < a) (h3 : ∀ t, t < nt → a ≠ hT t + 4) : ¬ dY hT nt a k := by
  rintro (h | h | h | ⟨t, ht, h4⟩)
  · omega
  · omega
  · omega
  · exact h3 t ht h4
section SU
variable {n : Nat} {sh : Nat → Nat × Nat} {x x' : Nat → Nat → Int32} {y y' : Nat → Nat → Option Nat} {hF hT : Nat → Nat} {w : sW} {nb : Nat → Nat → Bool}
theorem ob.kd {a c m : Nat} (h : ob n sh a c m) {c' : Nat} (hc : c ≠ c') : (sh a).1 ≠ c' := by rw [h.2.2]; exact hc
/-- the same, the reference's cells aside -/
def fS2 (sh : Nat → Nat × Nat) (hT : Nat → Nat) (nt : Nat) (x x' : Nat → Nat → Int32) (y y' : Nat → Nat → Option Nat) : Prop := (∀ a k, ¬ dX sh hT nt a k → ¬ (91 ≤ a ∧ a ≤ 126) → x' a k = x a k) ∧ ∀ a k, ¬ dY hT nt a k → ¬ (91 ≤ a ∧ a ≤ 126) → y' a k = y a k
theorem suP.cong2 (hS : suP n sh x y hF hT w nb) (hf : fS2 sh hT (wT w) x x' y y') : suP n sh x' y' hF hT w nb := by
  obtain ⟨⟨a1, a2, a3, a4, a5, a6, a7, a8⟩, b, c, d, e, l1, l2, l3, l4, l5⟩ := hS
  obtain ⟨fx0, fy0⟩ := hf
  have fx : ∀ a k, ((sh a).1 ≠ 1 ∨ k < 8) → (a < 5 ∨ 126 < a) → (∀ t, t < wT w → a ≠ hT t + 3 ∨ k = 3) → x' a k = x a k := fun a k h1 h2 h3 => fx0 a k (dX_no h1 (by omega) h3) (by omega)
  have fy : ∀ a k, (a < 7 ∨ 126 < a) → (∀ t, t < wT w → a ≠ hT t + 4) → y' a k = y a k := fun a k h2 h3 => fy0 a k (dY_no (by omega) h3) (by omega)
  have sx : ∀ a k, a < 5 → (sh a).1 ≠ 1 → x' a k = x a k := fun a k h1 h2 => fx a k (Or.inl h2) (Or.inl h1) (fun t ht => Or.inl (by have := l2 t ht; omega))
  have sy : ∀ a k, a < 7 → y' a k = y a k := fun a k h1 => fy a k (Or.inl h1) (fun t ht => by have := l2 t ht; omega)
  have fxx : ∀ f k, f < wF w → k < 8 → x' (hF f) k = x (hF f) k := fun f k hf hk => fx _ k (Or.inr hk) (Or.inr (by have := l1 f hf; omega)) (fun t ht => Or.inl (by have := l5 f t hf ht; omega))
  have fxy : ∀ f k, f < wF w → y' (hF f) k = y (hF f) k := fun f k hf => fy _ k (Or.inr (by have := l1 f hf; omega)) (fun t ht => by have := l5 f t hf ht; omega)
  have txx : ∀ t k, t < wT w → x' (hT t) k = x (hT t) k := fun t k ht => fx _ k (Or.inl ((e t ht).2.1.1.kd (by decide))) (Or.inr (by have := l2 t ht; omega)) (fun u hu => Or.inl (by
    by_cases q : t = u
    · subst q; omega
    · have := l4 t u ht hu q; omega))
  have tyy : ∀ t k, t < wT w → y' (hT t) k = y (hT t) k := fun t k ht => fy _ k (Or.inr (by have := l2 t ht; omega)) (fun u hu => by
    by_cases q : t = u
    · subst q; omega
    · have := l4 t u ht hu q; omega)
  refine ⟨⟨a1, a2, a3, by rw [sy 2 0 (by decide)]; exact a4, by rw [sx 2 1 (by decide) (a1.kd (by decide))]; exact a5, by rw [sy 2 2 (by decide)]; exact a6, by rw [sx 2 3 (by decide) (a1.kd (by decide))]; exact a7, a8⟩, b.cong (fun f hf => ⟨fxx f 0 hf (by decide), fxx f 1 hf (by decide)⟩), fun f hf => ?_, fun f hf => ?_, fun t ht => ?_, l1, l2, l3, l4, l5⟩
  · obtain ⟨⟨c1, c2, c3, c4, c5, c6⟩, c7⟩ := c f hf
    refine ⟨⟨by rw [sy 3 f (by decide)]; exact c1, ?_, ?_, ?_, ?_, fun g => ?_⟩, c7⟩
    · rw [fxx f 2 hf (by decide)]; exact c2
    · rw [fxx f 3 hf (by decide)]; exact c3
    · rw [fxx f 4 hf (by decide)]; exact c4
    · rw [fxx f 5 hf (by decide)]; exact c5
    · rw [fxx f 7 hf (by decide)]; exact c6 g
  · obtain ⟨d1, d2⟩ := d f hf
    refine ⟨by rw [fxy f 6 hf]; exact d1, d2.cong (fun k => ?_) ?_ (fun k => ?_)⟩
    · exact fx _ k (Or.inl (d2.1.1.kd (by decide))) (Or.inr (by have := l1 f hf; omega)) (fun t ht => Or.inl (by have := l5 f t hf ht; omega))
    · exact fy _ 0 (Or.inr (by have := l1 f hf; omega)) (fun t ht => by have := l5 f t hf ht; omega)
    · exact fy _ k (Or.inr (by have := l1 f hf; omega)) (fun t ht => by have := l5 f t hf ht; omega)
  · obtain ⟨e1, ⟨e2, e3, e4, e5, e6⟩, ⟨g1, g2, g3, g4, g5, g6⟩, e7⟩ := e t ht
    have nt3 : ∀ u, u < wT w → hT t + 1 ≠ hT u + 3 := fun u hu => by
      by_cases q : t = u
      · subst q; omega
      · have := l4 t u ht hu q; omega
    have nt4 : ∀ u j, u < wT w → j < 4 → hT t + j ≠ hT u + 4 := fun u j hu hj => by
      by_cases q : t = u
      · subst q; omega
      · have := l4 t u ht hu q; omega
    refine ⟨by rw [sy 4 t (by decide)]; exact e1, ⟨e2, by rw [tyy t 2 ht]; exact e3, by rw [tyy t 3 ht]; exact e4, e5.cong (fun k => ?_) ?_ (fun k => ?_), e6.1, e6.2.1, ?_, ?_, e6.2.2.2.2⟩, ⟨?_, ?_, ?_, ?_, ?_, ?_⟩, e7⟩
    · exact fx _ k (Or.inl (e5.1.1.kd (by decide))) (Or.inr (by have := l2 t ht; omega)) (fun u hu => Or.inl (nt3 u hu))
    · exact fy _ 0 (Or.inr (by have := l2 t ht; omega)) (fun u hu => nt4 u 1 hu (by decide))
    · exact fy _ k (Or.inr (by have := l2 t ht; omega)) (fun u hu => nt4 u 2 hu (by decide))
    · rw [fy _ 0 (Or.inr (by have := l2 t ht; omega)) (fun u hu => nt4 u 3 hu (by decide))]; exact e6.2.2.1
    · rw [fx _ 3 (Or.inl (e6.1.kd (by decide))) (Or.inr (by have := l2 t ht; omega)) (fun u hu => Or.inr rfl)]; exact e6.2.2.2.1
    · rw [txx t 0 ht]; exact g1
    · rw [txx t 1 ht]; exact g2
    · rw [txx t 4 ht]; exact g3
    · rw [txx t 5 ht]; exact g4
    · rw [txx t 6 ht]; exact g5
    · rw [txx t 7 ht]; exact g6
theorem suP.cong (hS : suP n sh x y hF hT w nb) (hf : fS sh hT (wT w) x x' y y') : suP n sh x' y' hF hT w nb := hS.cong2 ⟨fun a k q _ => hf.1 a k q, fun a k q _ => hf.2 a k q⟩
/-- a closure row's writes are such -/
theorem fS.clo {t nt : Nat} (ht : t < nt) (h1 : fX1 x x' (hT t + 3)) (h2 : fY1 y y' (hT t + 4)) : fS sh hT nt x x' y y' :=
  ⟨fun a k h => h1 a k (fun q => h (Or.inr (Or.inr (Or.inr (Or.inr (Or.inr (Or.inr ⟨t, ht, q.1, by omega⟩))))))), fun a k h => h2 a k (fun q => h (Or.inr (Or.inr (Or.inr ⟨t, ht, q⟩))))⟩
end SU
