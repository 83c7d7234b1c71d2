/-! both sides between two calls -/
def cJ (n : Nat) (sh : Nat → Nat × Nat) (x : Nat → Nat → Int32) (y : Nat → Nat → Option Nat) (hF hT cc : Nat → Nat) (nt nfT : Nat) (L : rq × List re3 × List (Nat → Int32)) : Prop := (ob n sh 1 7 2 ∧ y 1 0 = some 2 ∧ y 1 1 = some 5) ∧ runP n sh y ∧ caS n sh y cc ∧ rowS n sh x y 6 7 12 ∧ cL n sh x y hF hT cc nt nfT L
def frP (x : Nat → Nat → Int32) (w : sW) : Prop := (∀ f, wF w ≤ f → f < 12 → x 94 f = 0) ∧ ∀ t, wT w ≤ t → t < 20 → x 99 t = 0 ∧ x 101 t = 0 ∧ x 102 t = 0 ∧ x 103 t = 0 ∧ x 104 t = 0
def rI (n : Nat) (sh : Nat → Nat × Nat) (x : Nat → Nat → Int32) (y : Nat → Nat → Option Nat) (w : sW) (nfT : Nat) (L : rq × List re3 × List (Nat → Int32)) : Prop := moK n sh ∧ moY y ∧ mW x w ∧ frP x w ∧ mL x nfT L
def wX (w : sW) (nb : Nat → Nat → Bool) : Prop := nbX (wF w) (wN w) nb ∧ (∀ f, f < wF w → 0 ≤ wI w 0 f) ∧ scN w
theorem wX.R {w : sW} {nb : Nat → Nat → Bool} (h : wX w nb) (h12 : wF w ≤ 12) : wR w := h.1.rk h12
/-- class cells, reference cells -/
def sC (x x' : Nat → Nat → Int32) : Prop := ∀ a k, (a < 91 ∨ 126 < a) → x' a k = x a k
def sR (x x' : Nat → Nat → Int32) (y y' : Nat → Nat → Option Nat) : Prop := ∀ a k, 91 ≤ a → a ≤ 126 → x' a k = x a k ∧ y' a k = y a k
theorem mL.cong {x x' : Nat → Nat → Int32} {nf : Nat} {L : rq × List re3 × List (Nat → Int32)} (h : mL x nf L) (h1 : ∀ k, k = 20 ∨ k = 21 ∨ k = 22 → x' 91 k = x 91 k) (h2 : ∀ a k, 113 ≤ a → a ≤ 124 → x' a k = x a k) : mL x' nf L := by
  obtain ⟨a1, a2, a3, ⟨a4, a5, a6⟩, a7, a8, a9⟩ := h
  refine ⟨by rw [h1 _ (by decide)]; exact a1, a2, fun f hf => ?_, ⟨by rw [h1 _ (by decide)]; exact a4, a5, fun e t he => ?_⟩, by rw [h1 _ (by decide)]; exact a7, a8, fun p r hp k hk => ?_⟩
  · rw [h2 _ _ (by decide) (by decide), h2 _ _ (by decide) (by decide), h2 _ _ (by decide) (by decide)]; exact a3 f hf
  · rw [h2 _ _ (by decide) (by decide), h2 _ _ (by decide) (by decide), h2 _ _ (by decide) (by decide)]; exact a6 e t he
  · rw [h2 _ _ (by omega) (by omega)]; exact a9 p r hp k hk
theorem frP.cong {x x' : Nat → Nat → Int32} {w : sW} (h : frP x w) (h1 : ∀ a k, 94 ≤ a → a ≤ 104 → x' a k = x a k) : frP x' w :=
  ⟨fun f a b => by rw [h1 _ _ (by decide) (by decide)]; exact h.1 f a b, fun t a b => by
    rw [h1 _ _ (by decide) (by decide), h1 _ _ (by decide) (by decide), h1 _ _ (by decide) (by decide), h1 _ _ (by decide) (by decide), h1 _ _ (by decide) (by decide)]; exact h.2 t a b⟩
theorem moY.cong {y y' : Nat → Nat → Option Nat} (h : moY y) (h1 : ∀ k, y' 91 k = y 91 k) : moY y' := by
  unfold moY
  simp only [h1]
  exact h
theorem rI.cong {n : Nat} {sh : Nat → Nat × Nat} {x x' : Nat → Nat → Int32} {y y' : Nat → Nat → Option Nat} {w : sW} {nfT : Nat} {L : rq × List re3 × List (Nat → Int32)} (h : rI n sh x y w nfT L) (hR : sR x x' y y') : rI n sh x' y' w nfT L :=
  ⟨h.1, h.2.1.cong (fun k => (hR 91 k (by decide) (by decide)).2), h.2.2.1.cong (fun a k q => (hR a k (by omega) (by omega)).1), h.2.2.2.1.cong (fun a k h1 h2 => (hR a k (by omega) (by omega)).1), h.2.2.2.2.cong (fun k _ => (hR 91 k (by decide) (by decide)).1) (fun a k h1 h2 => (hR a k (by omega) (by omega)).1)⟩
section IV
variable {n : Nat} {sh : Nat → Nat × Nat} {hF hT cc : Nat → Nat} {w : sW} {nb : Nat → Nat → Bool} {nt nfT : Nat} {L : rq × List re3 × List (Nat → Int32)}
theorem roP.cong {x x' : Nat → Nat → Int32} {y y' : Nat → Nat → Option Nat} {nt' c : Nat} {hT' : Nat → Nat} {r : Nat → Int32} (h : roP x y hT nt c r) (h1 : ∀ k, x' c k = x c k) (h2 : y' c 0 = y c 0) (h3 : nt ≤ nt') (h4 : ∀ t, t < nt → hT' t = hT t) : roP x' y' hT' nt' c r := by
  obtain ⟨t, z1, z2, z3, z4, z5, z6, z7, z8⟩ := h
  exact ⟨t, by omega, by rw [h2, h4 t z1]; exact z2, z3, by rw [h1]; exact z4, by rw [h1]; exact z5, by rw [h1]; exact z6, by rw [h1]; exact z7, by rw [h1]; exact z8⟩
theorem cJ.cong {x x' : Nat → Nat → Int32} {y y' : Nat → Nat → Option Nat} (h : cJ n sh x y hF hT cc nt nfT L) (h1 : ∀ a k, a < 91 → a ≠ 2 → x' a k = x a k) (h2 : ∀ a k, a < 91 → a ≠ 2 → a ≠ 3 → a ≠ 4 → y' a k = y a k) (h3 : ∀ f k, f < nfT → 8 ≤ k → x' (hF f) k = x (hF f) k) : cJ n sh x' y' hF hT cc nt nfT L := by
  obtain ⟨⟨a1, a2, a3⟩, hU, hc, h6, l1, l2, l3, l4, l5, l6, l7, l8⟩ := h
  refine ⟨⟨a1, by rw [h2 _ _ (by decide) (by decide) (by decide) (by decide)]; exact a2, by rw [h2 _ _ (by decide) (by decide) (by decide) (by decide)]; exact a3⟩, ⟨hU.1, by rw [h2 _ _ (by decide) (by decide) (by decide) (by decide)]; exact hU.2.1, by rw [h2 _ _ (by decide) (by decide) (by decide) (by decide)]; exact hU.2.2.1, by rw [h2 _ _ (by decide) (by decide) (by decide) (by decide)]; exact hU.2.2.2⟩, hc.cong (fun k => h2 _ _ (by decide) (by decide) (by decide) (by decide)) (fun a q1 q2 => h2 _ _ (by omega) (by omega) (by omega) (by omega)), ⟨h6.1, h6.2.1, by rw [h2 _ _ (by decide) (by decide) (by decide) (by decide)]; exact h6.2.2.1, by rw [h1 _ _ (by decide) (by decide)]; exact h6.2.2.2.1, h6.2.2.2.2⟩, by rw [h1 _ _ (by decide) (by decide)]; exact l1, l2, fun f hf => ?_, l4.cong (fun k => ⟨h1 _ _ (by decide) (by decide), h1 _ _ (by decide) (by decide)⟩) (h2 _ _ (by decide) (by decide) (by decide) (by decide)), l5, by rw [h1 _ _ (by decide) (by decide)]; exact l6, l7, fun p r hp => ?_⟩
  · rw [h3 f 12 hf (by decide), h3 f 13 hf (by decide), h3 f 14 hf (by decide)]; exact l3 f hf
  · have hp40 := (List.getElem?_eq_some_iff.mp hp).1
    obtain ⟨m1, m2, m3, m4, m5, m6, m7⟩ := hc.2.1 p (by omega)
    exact (l8 p r hp).cong (fun k => h1 _ _ (by omega) (by omega)) (h2 _ _ (by omega) (by omega) (by omega) (by omega)) (Nat.le_refl _) (fun _ _ => rfl)
/-- the reference's writes leave the program's side -/
theorem suP.sC {x x' : Nat → Nat → Int32} {y : Nat → Nat → Option Nat} (h : suP n sh x y hF hT w nb) (hs : sC x x') : suP n sh x' y hF hT w nb := h.cong2 ⟨fun a k _ q => hs a k (by omega), fun _ _ _ _ => rfl⟩
theorem cJ.sC {x x' : Nat → Nat → Int32} {y : Nat → Nat → Option Nat} (h : cJ n sh x y hF hT cc nt nfT L) (hf : ∀ f, f < nfT → 127 ≤ hF f) (hs : sC x x') : cJ n sh x' y hF hT cc nt nfT L := h.cong (fun a k q _ => hs a k (by omega)) (fun _ _ _ _ _ _ => rfl) (fun f k q _ => hs _ _ (by have := hf f q; omega))
/-- closures alone -/
theorem cJ.fL {x x' : Nat → Nat → Int32} {y y' : Nat → Nat → Option Nat} (h : cJ n sh x y hF hT cc nt nfT L) (hS : suP n sh x y hF hT w nb) (hn : nfT ≤ wF w) (h53 : x' 5 3 = x 5 3) (hc : ∀ a k, 11 ≤ a → a ≤ 90 → x' a k = x a k ∧ y' a k = y a k) (hl : fL hT (wT w) x x' y y') : cJ n sh x' y' hF hT cc nt nfT L := by
  have l127 : ∀ t, t < wT w → 127 ≤ hT t := hS.2.2.2.2.2.2.1
  refine h.cong (fun a k q1 q2 => ?_) (fun a k q1 q2 q3 q4 => ?_) (fun f k q1 q2 => ?_)
  · by_cases c : 11 ≤ a
    · exact (hc a k c (by omega)).1
    · by_cases c5 : a = 5 ∧ k = 3
      · rw [c5.1, c5.2]; exact h53
      · exact hl.1 a k c5 (by omega) (fun ⟨t, ht, z, _⟩ => by have := l127 t ht; omega)
  · by_cases c : 11 ≤ a
    · exact (hc a k c (by omega)).2
    · exact hl.2 a k (by omega) (fun ⟨t, ht, z⟩ => by have := l127 t ht; omega)
  · have h1 := hS.2.2.2.2.2.1 f (by omega)
    exact hl.1 _ k (by omega) (by omega) (fun ⟨t, ht, z, _⟩ => by have := hS.2.2.2.2.2.2.2.2.2 f t (by omega) ht; omega)
theorem fL.sR {nt : Nat} {x x' : Nat → Nat → Int32} {y y' : Nat → Nat → Option Nat} (h : fL hT nt x x' y y') (hl : ∀ t, t < nt → 127 ≤ hT t) : sR x x' y y' := fun a k h1 h2 => ⟨h.1 a k (by omega) (by omega) (fun ⟨t, ht, z, _⟩ => by have := hl t ht; omega), h.2 a k (by omega) (fun ⟨t, ht, z⟩ => by have := hl t ht; omega)⟩
theorem moK.k1 (H : moK n sh) {a : Nat} (h1 : 91 ≤ a) (h2 : a ≤ 126) : (sh a).1 ≠ 1 := by
  obtain ⟨_, H⟩ := H
  have : ∀ j, j < 36 → (sh (91 + j)).1 ≠ 1 := by
    intro j hj
    have hj2 : j = 0 ∨ j = 1 ∨ j = 2 ∨ j = 3 ∨ j = 4 ∨ j = 5 ∨ j = 6 ∨ j = 7 ∨ j = 8 ∨ j = 9 ∨ j = 10 ∨ j = 11 ∨ j = 12 ∨ j = 13 ∨ j = 14 ∨ j = 15 ∨ j = 16 ∨ j = 17 ∨ j = 18 ∨ j = 19 ∨ j = 20 ∨ j = 21 ∨ j = 22 ∨ j = 23 ∨ j = 24 ∨ j = 25 ∨ j = 26 ∨ j = 27 ∨ j = 28 ∨ j = 29 ∨ j = 30 ∨ j = 31 ∨ j = 32 ∨ j = 33 ∨ j = 34 ∨ j = 35 := by omega
    rcases hj2 with e | e | e | e | e | e | e | e | e | e | e | e | e | e | e | e | e | e | e | e | e | e | e | e | e | e | e | e | e | e | e | e | e | e | e | e <;> subst e <;> simp only [Nat.reduceAdd, H] <;> decide
  have := this (a - 91) (by omega)
  rw [show 91 + (a - 91) = a by omega] at this
  exact this
theorem fS.sR {nt : Nat} {x x' : Nat → Nat → Int32} {y y' : Nat → Nat → Option Nat} (H : moK n sh) (h : fS sh hT nt x x' y y') (hl : ∀ t, t < nt → 127 ≤ hT t) : sR x x' y y' := fun a k h1 h2 => ⟨h.1 a k (dX_no (Or.inl (H.k1 h1 h2)) (by omega) (fun t ht => Or.inl (by have := hl t ht; omega))), h.2 a k (dY_no (by omega) (fun t ht => by have := hl t ht; omega))⟩
/-- the suite with other numbers, rows, bits -/
theorem suP.re {x x' : Nat → Nat → Int32} {y y' : Nat → Nat → Option Nat} {N U : Nat → List Nat} {I : Nat → Nat → Int32} {nb' : Nat → Nat → Bool} (hS : suP n sh x y hF hT w nb) (h2 : ∀ a k, a = 2 ∨ a = 3 ∨ a = 4 → x' a k = x a k ∧ y' a k = y a k)
    (hf : ∀ f, f < wF w → (∀ k, k < 7 → x' (hF f) k = x (hF f) k) ∧ y' (hF f) 6 = y (hF f) 6 ∧ (∀ g, bt (x' (hF f) 7) g = nb' f g) ∧ I 0 f = wI w 0 f)
    (hn : ∀ f, f < wF w → rowP n sh x' y' hF (wF w) (hF f + 1) (hF f + 2) 6 (N f))
    (ht : ∀ t, t < wT w → (∀ k, k = 2 ∨ k = 3 → y' (hT t) k = y (hT t) k) ∧ x' (hT t) 0 = x (hT t) 0 ∧ x' (hT t) 1 = x (hT t) 1 ∧ I 1 t = wI w 1 t ∧ rowP n sh x' y' hF (wF w) (hT t + 1) (hT t + 2) 6 (U t) ∧ rowS n sh x' y' (hT t + 3) (hT t + 4) 12 ∧ x' (hT t) 4 = I 2 t ∧ x' (hT t) 5 = I 3 t ∧ x' (hT t) 6 = I 4 t ∧ x' (hT t) 7 = I 5 t ∧ 0 ≤ I 5 t ∧ I 5 t ≤ 2) : suP n sh x' y' hF hT (w.1, N, U, w.2.2.2.1, I) nb' := by
  obtain ⟨⟨a1, a2, a3, a4, a5, a6, a7, a8⟩, b, c, d, e, l⟩ := hS
  refine ⟨⟨a1, a2, a3, by rw [(h2 2 0 (by decide)).2]; exact a4, by rw [(h2 2 1 (by decide)).1]; exact a5, by rw [(h2 2 2 (by decide)).2]; exact a6, by rw [(h2 2 3 (by decide)).1]; exact a7, a8⟩, b.cong (fun f h => ⟨(hf f h).1 0 (by decide), (hf f h).1 1 (by decide)⟩), fun f h => ?_, fun f h => ?_, fun t h => ?_, l⟩
  · obtain ⟨⟨c1, c2, c3, c4, c5, c6⟩, c7⟩ := c f h
    obtain ⟨f1, f2, f3, f4⟩ := hf f h
    refine ⟨⟨by rw [(h2 3 f (by decide)).2]; exact c1, ?_, ?_, ?_, ?_, f3⟩, c7⟩
    · rw [f1 2 (by decide)]; exact c2.trans f4.symm
    · rw [f1 3 (by decide)]; exact c3
    · rw [f1 4 (by decide)]; exact c4
    · rw [f1 5 (by decide)]; exact c5
  · exact ⟨by rw [(hf f h).2.1]; exact (d f h).1, hn f h⟩
  · obtain ⟨e1, ⟨e2, e3, e4, e5, e6⟩, ⟨g1, g2, g3, g4, g5, g6⟩, e7⟩ := e t h
    obtain ⟨t1, t2, t3, t4, t5, t6, t7, t8, t9, t10, t11⟩ := ht t h
    exact ⟨by rw [(h2 4 t (by decide)).2]; exact e1, ⟨e2, by rw [t1 2 (by decide)]; exact e3, by rw [t1 3 (by decide)]; exact e4, t5, t6⟩, ⟨by rw [t2]; exact g1, by rw [t3]; exact g2.trans t4.symm, t7, t8, t9, t10⟩, t11⟩
/-- the reference's side when it writes elsewhere -/
theorem rI.wr {x x' : Nat → Nat → Int32} {y : Nat → Nat → Option Nat} (h : rI n sh x y w nfT L) (hw : ∀ a k, ((92 ≤ a ∧ a ≤ 104) ∨ (113 ≤ a ∧ a ≤ 124) ∨ (a = 91 ∧ (k = 1 ∨ k = 2 ∨ k = 20 ∨ k = 21 ∨ k = 22))) → x' a k = x a k) : rI n sh x' y w nfT L :=
  ⟨h.1, h.2.1, h.2.2.1.cong (fun a k q => hw a k (by omega)), h.2.2.2.1.cong (fun a k h1 h2 => hw a k (by omega)), h.2.2.2.2.cong (fun k _ => hw 91 k (by omega)) (fun a k h1 h2 => hw a k (by omega))⟩
theorem rI.w0 {x : Nat → Nat → Int32} {y : Nat → Nat → Option Nat} (h : rI n sh x y w nfT L) (v : Int32) : rI n sh (u2 x 91 0 v) y w nfT L := h.wr (fun a k q => u2_ne (by omega))
theorem sC.w0 (x : Nat → Nat → Int32) (v : Int32) : sC x (u2 x 91 0 v) := fun a k q => u2_a (by omega)
theorem rI.fr {x x' : Nat → Nat → Int32} {y : Nat → Nat → Option Nat} (h : rI n sh x y w nfT L) (hf : fr3 (u2 x 91 0 0) x' 0) : rI n sh x' y w nfT L := h.wr (fun a k q => by rw [hf.2 a k (by omega) (by omega) (by omega) (by omega), u2_ne (by omega)])
theorem fr3.sC {x x' : Nat → Nat → Int32} (hf : fr3 (u2 x 91 0 0) x' 0) : sC x x' := fun a k q => by rw [hf.2 a k (by omega) (by omega) (by omega) (by omega), u2_a (by omega)]
end IV
/-- all that holds between two calls -/
def INV (n : Nat) (sh : Nat → Nat × Nat) (x : Nat → Nat → Int32) (y : Nat → Nat → Option Nat) (hF hT : Nat → Nat) (w : sW) (nb : Nat → Nat → Bool) (cc : Nat → Nat) (nfT : Nat) (L : rq × List re3 × List (Nat → Int32)) : Prop := suP n sh x y hF hT w nb ∧ cJ n sh x y hF hT cc (wT w) nfT L ∧ rI n sh x y w nfT L ∧ wX w nb ∧ nfT ≤ wF w
def GI (n : Nat) (sh : Nat → Nat × Nat) (x : Nat → Nat → Int32) (y : Nat → Nat → Option Nat) : Prop := ∃ hF hT w nb cc nfT L, INV n sh x y hF hT w nb cc nfT L ∧ n = 127 + 3 * wF w + 5 * wT w ∧ ((List.range n).map (fun a => (sh a).2)).sum ≤ (sh 0).2 + 40000 + 31 * wF w + 40 * wT w ∧ (sh 0).1 = 100
