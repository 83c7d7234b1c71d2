/-! both sides: fixture, test -/
def gw (n n' : Nat) (sh sh' : Nat → Nat × Nat) (x x' : Nat → Nat → Int32) (y y' : Nat → Nat → Option Nat) : Prop := n ≤ n' ∧ (∀ a, a < n → sh' a = sh a) ∧ (∀ a k, a < n → a ≠ 2 → x' a k = x a k) ∧ ∀ a k, a < n → a ≠ 3 → a ≠ 4 → y' a k = y a k
theorem szU (n : Nat) (sh : Nat → Nat × Nat) (q : Nat × Nat) : ((List.range (n + 1)).map (fun a => (uS sh n q a).2)).sum = ((List.range n).map (fun a => (sh a).2)).sum + q.2 := by
  rw [List.range_succ, List.map_append, List.sum_append]
  congr 1
  · congr 1
    apply List.map_congr_left
    intro a ha
    rw [uS_lt (List.mem_range.mp ha)]
  · show (uS sh n q n).2 + 0 = q.2
    unfold uS
    rw [if_pos rfl]
    rfl
section GW
variable {n n' : Nat} {sh sh' : Nat → Nat × Nat} {x x' : Nat → Nat → Int32} {y y' : Nat → Nat → Option Nat} {hF hF' hT hT' cc : Nat → Nat}
theorem gw.ob {a c m : Nat} (hg : gw n n' sh sh' x x' y y') (h : ob n sh a c m) : ob n' sh' a c m := ⟨Nat.lt_of_lt_of_le h.1 hg.1, h.2.1, by rw [hg.2.1 a h.1]; exact h.2.2⟩
theorem gw.rowS {r q most : Nat} (hg : gw n n' sh sh' x x' y y') (h : rowS n sh x y r q most) (h5 : 5 ≤ r) : rowS n' sh' x' y' r q most :=
  ⟨hg.ob h.1, hg.ob h.2.1, by rw [hg.2.2.2 _ _ h.1.1 (by omega) (by omega)]; exact h.2.2.1, by rw [hg.2.2.1 _ _ h.1.1 (by omega)]; exact h.2.2.2.1, h.2.2.2.2⟩
theorem gw.rowP {nf nf' r q most : Nat} {l : List Nat} (hg : gw n n' sh sh' x x' y y') (h : rowP n sh x y hF nf r q most l) (h5 : 5 ≤ r) (h5q : 5 ≤ q) (hnn : nf ≤ nf') (hFe : ∀ f, f < nf → hF' f = hF f) : rowP n' sh' x' y' hF' nf' r q most l := by
  obtain ⟨h1, b1, b2, b3, b4, b5, b6⟩ := h
  refine ⟨hg.rowS h1 h5, by rw [hg.2.2.1 _ _ h1.1.1 (by omega)]; exact b1, fun i => by rw [hg.2.2.1 _ _ h1.1.1 (by omega)]; exact b2 i, b3, b4, fun f hf => Nat.lt_of_lt_of_le (b5 f hf) hnn, fun j f hj => ?_⟩
  rw [hg.2.2.2 _ _ h1.2.1.1 (by omega) (by omega), hFe f (b5 f (List.mem_of_getElem? hj))]
  exact b6 j f hj
theorem gw.cJ {nt nt' nfT : Nat} {L : rq × List re3 × List (Nat → Int32)} (hg : gw n n' sh sh' x x' y y') (h : cJ n sh x y hF hT cc nt nfT L) (hnt : nt ≤ nt') (hFe : ∀ f, f < nfT → hF' f = hF f ∧ hF f < n ∧ hF f ≠ 2) (hTe : ∀ t, t < nt → hT' t = hT t) : cJ n' sh' x' y' hF' hT' cc nt' nfT L := by
  obtain ⟨⟨a1, a2, a3⟩, hU, hc, h6, l1, l2, l3, l4, l5, l6, l7, l8⟩ := h
  have hU0 := hU.1
  have ey : ∀ a k, a < n → 5 ≤ a → y' a k = y a k := fun a k h1 h2 => hg.2.2.2 a k h1 (by omega) (by omega)
  have ex : ∀ a k, a < n → 5 ≤ a → x' a k = x a k := fun a k h1 h2 => hg.2.2.1 a k h1 (by omega)
  refine ⟨⟨hg.ob a1, by rw [hg.2.2.2 _ _ a1.1 (by decide) (by decide)]; exact a2, by rw [hg.2.2.2 _ _ a1.1 (by decide) (by decide)]; exact a3⟩, ⟨hg.ob hU0, by rw [ey _ _ hU0.1 (by decide)]; exact hU.2.1, by rw [ey _ _ hU0.1 (by decide)]; exact hU.2.2.1, by rw [ey _ _ hU0.1 (by decide)]; exact hU.2.2.2⟩, ⟨hg.ob hc.1, fun p hp => ?_, hc.2.2⟩, hg.rowS h6 (by decide), by rw [ex _ _ hU0.1 (by decide)]; exact l1, l2, fun f hf => ?_, ⟨hg.ob l4.1, hg.ob l4.2.1, by rw [ey _ _ l4.1.1 (by decide)]; exact l4.2.2.1, by rw [ex _ _ l4.1.1 (by decide)]; exact l4.2.2.2.1, l4.2.2.2.2.1, fun e t he => by rw [ex _ _ l4.2.1.1 (by decide)]; exact l4.2.2.2.2.2 e t he⟩, l5, by rw [ex _ _ hU0.1 (by decide)]; exact l6, l7, fun p r hp => ?_⟩
  · obtain ⟨m1, m2, m3, m4, m5, m6, m7⟩ := hc.2.1 p hp
    exact ⟨by rw [ey _ _ hc.1.1 (by decide)]; exact m1, m2, m3, m4, hg.ob m5, hg.ob m6, by rw [ey _ _ m5.1 (by omega)]; exact m7⟩
  · obtain ⟨z1, z2, z3⟩ := hFe f hf
    rw [z1, hg.2.2.1 _ _ z2 z3, hg.2.2.1 _ _ z2 z3, hg.2.2.1 _ _ z2 z3]
    exact l3 f hf
  · have hp40 := (List.getElem?_eq_some_iff.mp hp).1
    obtain ⟨m1, m2, m3, m4, m5, m6, m7⟩ := hc.2.1 p (by omega)
    exact (l8 p r hp).cong (fun k => ex _ _ m5.1 (by omega)) (ey _ _ m5.1 (by omega)) hnt hTe
theorem gw.ref {w : sW} {nfT : Nat} {L : rq × List re3 × List (Nat → Int32)} (hg : gw n n' sh sh' x x' y y') (h : rI n sh x y w nfT L) : rI n' sh' x' y' w nfT L := by
  have h127 := h.1.1
  have e : ∀ a, a < 127 → sh' a = sh a := fun a ha => hg.2.1 a (by omega)
  have hK : moK n' sh' := by
    refine ⟨Nat.le_trans h127 hg.1, ?_⟩
    rw [e 91 (by decide), e 92 (by decide), e 93 (by decide), e 94 (by decide), e 95 (by decide), e 96 (by decide), e 97 (by decide), e 98 (by decide), e 99 (by decide), e 100 (by decide), e 101 (by decide), e 102 (by decide), e 103 (by decide), e 104 (by decide), e 105 (by decide), e 106 (by decide), e 107 (by decide), e 108 (by decide), e 109 (by decide), e 110 (by decide), e 111 (by decide), e 112 (by decide), e 113 (by decide), e 114 (by decide), e 115 (by decide), e 116 (by decide), e 117 (by decide), e 118 (by decide), e 119 (by decide), e 120 (by decide), e 121 (by decide), e 122 (by decide), e 123 (by decide), e 124 (by decide), e 125 (by decide), e 126 (by decide)]
    exact h.1.2
  have h2 : rI n sh x' y' w nfT L := h.cong (fun a k h1 h2 => ⟨hg.2.2.1 a k (by omega) (by omega), hg.2.2.2 a k (by omega) (by omega) (by omega)⟩)
  exact ⟨hK, h2.2⟩
/-- one fixture more: the program's suite -/
theorem suP.addF {w : sW} {nb : Nat → Nat → Bool} (hS : suP n sh x y hF hT w nb) (hX : nbX (wF w) (wN w) nb) (hg : gw n (n + 3) sh sh' x x' y y') (hnf : wF w < 12) (h127 : 127 ≤ n) (hs1 : sh' n = (1, 15)) (hs2 : sh' (n + 1) = (3, 4)) (hs3 : sh' (n + 2) = (102, 12)) {sc : Int32} {va mf ef : Nat}
    (q : x' n 0 = nI (wF w) ∧ x' n 1 = bF (wF w) ∧ x' n 2 = sc ∧ x' n 3 = nI va ∧ x' n 4 = nI mf ∧ x' n 5 = nI ef ∧ (∀ k, 6 ≤ k → x' n k = 0) ∧ y' n 6 = some (n + 1)) (r : y' (n + 1) 0 = some (n + 2) ∧ x' (n + 1) 1 = 0 ∧ x' (n + 1) 2 = 0 ∧ x' (n + 1) 3 = nI 6) (hva : 0 < va ∧ va < 4 ∧ mf ≤ 1 ∧ ef ≤ 1) (h21 : x' 2 1 = nI (wF w + 1)) (h23 : x' 2 3 = x 2 3) (h3n : y' 3 (wF w) = some n) (h3 : ∀ k, k ≠ wF w → y' 3 k = y 3 k) (h4 : ∀ k, y' 4 k = y 4 k) :
    suP (n + 3) sh' x' y' (up1 hF (wF w) n) hT ((wF w + 1, wT w), up1 w.2.1 (wF w) [], w.2.2.1, u2 (u2 (u2 w.2.2.2.1 0 (wF w) va) 1 (wF w) mf) 2 (wF w) ef, u2 w.2.2.2.2 0 (wF w) sc) nb := by
  obtain ⟨⟨a1, a2, a3, a4, a5, a6, a7, a8⟩, b, c, d, e, l1, l2, l3, l4, l5⟩ := hS
  have hFe : ∀ f, f < wF w → up1 hF (wF w) n f = hF f := fun f hf => up1_ne (by omega)
  have hFn : up1 hF (wF w) n (wF w) = n := up1_eq _ _ _
  have hn0 : n ≠ 0 := by omega
  have on : ob (n + 3) sh' n 1 15 := ⟨by omega, hn0, hs1⟩
  have hFlt : ∀ f, f < wF w → hF f + 3 ≤ n := fun f hf => by have := (d f hf).2.1.2.1.1; omega
  have hTlt : ∀ t, t < wT w → hT t + 5 ≤ n := fun t ht => by have := (e t ht).2.1.2.2.2.2.2.1.1; omega
  have fx : ∀ f k, f < wF w → x' (hF f) k = x (hF f) k := fun f k hf => hg.2.2.1 _ _ (by have := hFlt f hf; omega) (by have := l1 f hf; omega)
  have cas : ∀ f, f < wF w + 1 → f = wF w ∨ f < wF w := fun f hf => by omega
  refine ⟨⟨hg.ob a1, hg.ob a2, hg.ob a3, by rw [hg.2.2.2 _ _ a1.1 (by decide) (by decide)]; exact a4, h21, by rw [hg.2.2.2 _ _ a1.1 (by decide) (by decide)]; exact a6, by rw [h23]; exact a7, a8⟩, ⟨hnf, fun f hf => ?_, fun f g hf hgn h => ?_⟩, fun f hf => ?_, fun f hf => ?_, fun t ht => ?_, fun f hf => ?_, l2, fun f g hf hgn hne => ?_, l4, fun f t hf ht => ?_⟩
  · rcases cas f hf with z | z
    · subst z; rw [hFn]; exact ⟨on, q.1, q.2.1⟩
    · rw [hFe f z, fx f 0 z, fx f 1 z]; exact ⟨hg.ob (b.2.1 f z).1, (b.2.1 f z).2⟩
  · rcases cas f hf with z | z
    · rcases cas g hgn with u | u
      · omega
      · rw [z, hFn, hFe g u] at h; have := hFlt g u; omega
    · rcases cas g hgn with u | u
      · rw [u, hFn, hFe f z] at h; have := hFlt f z; omega
      · rw [hFe f z, hFe g u] at h; exact b.2.2 f g z u h
  · rcases cas f hf with z | z
    · subst z
      rw [hFn]
      refine ⟨⟨h3n, ?_, ?_, ?_, ?_, fun g => ?_⟩, ?_⟩
      · show x' n 2 = u2 w.2.2.2.2 0 (wF w) sc 0 (wF w); rw [u2_eq]; exact q.2.2.1
      · show x' n 3 = nI (u2 (u2 (u2 w.2.2.2.1 0 (wF w) va) 1 (wF w) mf) 2 (wF w) ef 0 (wF w)); rw [u2_a (by decide), u2_a (by decide), u2_eq]; exact q.2.2.2.1
      · show x' n 4 = nI (u2 (u2 (u2 w.2.2.2.1 0 (wF w) va) 1 (wF w) mf) 2 (wF w) ef 1 (wF w)); rw [u2_a (by decide), u2_eq]; exact q.2.2.2.2.1
      · show x' n 5 = nI (u2 (u2 (u2 w.2.2.2.1 0 (wF w) va) 1 (wF w) mf) 2 (wF w) ef 2 (wF w)); rw [u2_eq]; exact q.2.2.2.2.2.1
      · rw [q.2.2.2.2.2.2.1 7 (by decide), b_0]
        cases hh : nb (wF w) g
        · rfl
        · exact absurd (hX.2.2.2.1 _ _ hh).1 (by omega)
      · show 0 < u2 (u2 (u2 w.2.2.2.1 0 (wF w) va) 1 (wF w) mf) 2 (wF w) ef 0 (wF w) ∧ u2 (u2 (u2 w.2.2.2.1 0 (wF w) va) 1 (wF w) mf) 2 (wF w) ef 0 (wF w) < 4 ∧ u2 (u2 (u2 w.2.2.2.1 0 (wF w) va) 1 (wF w) mf) 2 (wF w) ef 1 (wF w) ≤ 1 ∧ u2 (u2 (u2 w.2.2.2.1 0 (wF w) va) 1 (wF w) mf) 2 (wF w) ef 2 (wF w) ≤ 1
        rw [u2_a (by decide), u2_a (by decide), u2_eq, u2_a (by decide), u2_eq, u2_eq]; exact hva
    · have hk : f ≠ wF w := by omega
      have hA : ∀ k, u2 (u2 (u2 w.2.2.2.1 0 (wF w) va) 1 (wF w) mf) 2 (wF w) ef k f = wA w k f := fun k => by rw [u2_k hk, u2_k hk, u2_k hk]
      have hI : u2 w.2.2.2.2 0 (wF w) sc 0 f = wI w 0 f := u2_k hk
      obtain ⟨⟨c1, c2, c3, c4, c5, c6⟩, c7⟩ := c f z
      show (y' 3 f = some (up1 hF (wF w) n f) ∧ x' (up1 hF (wF w) n f) 2 = u2 w.2.2.2.2 0 (wF w) sc 0 f ∧ x' (up1 hF (wF w) n f) 3 = nI (u2 (u2 (u2 w.2.2.2.1 0 (wF w) va) 1 (wF w) mf) 2 (wF w) ef 0 f) ∧ x' (up1 hF (wF w) n f) 4 = nI (u2 (u2 (u2 w.2.2.2.1 0 (wF w) va) 1 (wF w) mf) 2 (wF w) ef 1 f) ∧ x' (up1 hF (wF w) n f) 5 = nI (u2 (u2 (u2 w.2.2.2.1 0 (wF w) va) 1 (wF w) mf) 2 (wF w) ef 2 f) ∧ ∀ g, bt (x' (up1 hF (wF w) n f) 7) g = nb f g) ∧ 0 < u2 (u2 (u2 w.2.2.2.1 0 (wF w) va) 1 (wF w) mf) 2 (wF w) ef 0 f ∧ u2 (u2 (u2 w.2.2.2.1 0 (wF w) va) 1 (wF w) mf) 2 (wF w) ef 0 f < 4 ∧ u2 (u2 (u2 w.2.2.2.1 0 (wF w) va) 1 (wF w) mf) 2 (wF w) ef 1 f ≤ 1 ∧ u2 (u2 (u2 w.2.2.2.1 0 (wF w) va) 1 (wF w) mf) 2 (wF w) ef 2 f ≤ 1
      rw [hFe f z, hA 0, hA 1, hA 2, hI, fx f 2 z, fx f 3 z, fx f 4 z, fx f 5 z, fx f 7 z, h3 f hk]
      exact ⟨⟨c1, c2, c3, c4, c5, c6⟩, c7⟩
  · rcases cas f hf with z | z
    · subst z
      rw [hFn]
      refine ⟨q.2.2.2.2.2.2.2, ⟨⟨by omega, by omega, hs2⟩, ⟨by omega, by omega, hs3⟩, r.1, r.2.2.2, by decide⟩, ?_⟩
      show rowC x' y' (up1 hF (wF w) n) (wF w + 1) (n + 1) (n + 2) 6 (up1 w.2.1 (wF w) [] (wF w))
      rw [up1_eq]
      exact ⟨r.2.1, fun i => by rw [r.2.2.1, b_0]; simp, List.nodup_nil, Nat.zero_le _, fun g hg => (by cases hg), fun j g hj => (by simp at hj)⟩
    · obtain ⟨d1, d2⟩ := d f z
      have := l1 f z
      have := hFlt f z
      rw [hFe f z]
      refine ⟨by rw [hg.2.2.2 _ _ (by omega) (by omega) (by omega)]; exact d1, ?_⟩
      show rowP (n + 3) sh' x' y' (up1 hF (wF w) n) (wF w + 1) (hF f + 1) (hF f + 2) 6 (up1 w.2.1 (wF w) [] f)
      rw [up1_ne (by omega)]
      exact hg.rowP d2 (by omega) (by omega) (Nat.le_succ _) hFe
  · obtain ⟨e1, ⟨e2, e3, e4, e5, e6⟩, ⟨g1, g2, g3, g4, g5, g6⟩, e7⟩ := e t ht
    have h1 := l2 t ht
    have h2 := hTlt t ht
    have tx : ∀ k, x' (hT t) k = x (hT t) k := fun k => hg.2.2.1 _ _ (by omega) (by omega)
    have ty : ∀ k, y' (hT t) k = y (hT t) k := fun k => hg.2.2.2 _ _ (by omega) (by omega) (by omega)
    have hI : ∀ k, k ≠ 0 → u2 w.2.2.2.2 0 (wF w) sc k t = wI w k t := fun k hk => u2_a hk
    show y' 4 t = some (hT t) ∧ teP (n + 3) sh' x' y' (up1 hF (wF w) n) (wF w + 1) (hT t) (wU w t) ∧ (x' (hT t) 0 = nI t ∧ x' (hT t) 1 = u2 w.2.2.2.2 0 (wF w) sc 1 t ∧ x' (hT t) 4 = u2 w.2.2.2.2 0 (wF w) sc 2 t ∧ x' (hT t) 5 = u2 w.2.2.2.2 0 (wF w) sc 3 t ∧ x' (hT t) 6 = u2 w.2.2.2.2 0 (wF w) sc 4 t ∧ x' (hT t) 7 = u2 w.2.2.2.2 0 (wF w) sc 5 t) ∧ 0 ≤ u2 w.2.2.2.2 0 (wF w) sc 5 t ∧ u2 w.2.2.2.2 0 (wF w) sc 5 t ≤ 2
    rw [hI 1 (by decide), hI 2 (by decide), hI 3 (by decide), hI 4 (by decide), hI 5 (by decide), tx, tx, tx, tx, tx, tx, h4]
    exact ⟨e1, ⟨hg.ob e2, by rw [ty]; exact e3, by rw [ty]; exact e4, hg.rowP e5 (by omega) (by omega) (Nat.le_succ _) hFe, hg.rowS e6 (by omega)⟩, ⟨g1, g2, g3, g4, g5, g6⟩, e7⟩
  · rcases cas f hf with z | z
    · subst z; rw [hFn]; exact h127
    · rw [hFe f z]; exact l1 f z
  · rcases cas f hf with z | z
    · rcases cas g hgn with u | u
      · omega
      · rw [z, hFn, hFe g u]; have := hFlt g u; omega
    · rcases cas g hgn with u | u
      · rw [u, hFn, hFe f z]; have := hFlt f z; omega
      · rw [hFe f z, hFe g u]; exact l3 f g z u hne
  · rcases cas f hf with z | z
    · rw [z, hFn]; have := hTlt t ht; omega
    · rw [hFe f z]; exact l5 f t z ht
end GW
