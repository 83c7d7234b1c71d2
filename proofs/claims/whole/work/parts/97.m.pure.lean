/-! what is made is closed under needs; both ways of finding what can't stay agree -/
def nbE (nf : Nat) (nd : Nat → List Nat) (nb : Nat → Nat → Bool) : Prop := ∀ f, f < nf → ∀ g, nb f g = true ↔ ∃ h, h ∈ nd f ∧ (h = g ∨ nb h g = true)
theorem sE1_f (md : List Nat) (q : rq) (f : Nat) : ∀ (ps : List (Nat × Nat)) (E : Nat → Bool), ((ps.foldl (sE1 md q) E) f = true ↔ E f = true ∨ ∃ v, (f, v) ∈ ps ∧ f ∈ md ∧ ¬ q f 8 = nI v) := by
  intro ps
  induction ps with
  | nil => intro E; simp
  | cons p ps ih =>
    intro E
    obtain ⟨g, u⟩ := p
    rw [List.foldl_cons, ih]
    by_cases c : g ∈ md ∧ ¬ q g 8 = nI u
    · rw [show sE1 md q E (g, u) = u1 E g true from if_pos c]
      by_cases e : f = g
      · subst e
        have : u1 E f true f = true := if_pos rfl
        rw [this]
        constructor
        · intro _; exact Or.inr ⟨u, List.mem_cons_self, c⟩
        · intro _; exact Or.inl rfl
      · rw [show u1 E g true f = E f from if_neg e]
        constructor
        · rintro (h | ⟨v, h1, h2⟩)
          · exact Or.inl h
          · exact Or.inr ⟨v, List.mem_cons_of_mem _ h1, h2⟩
        · rintro (h | ⟨v, h1, h2⟩)
          · exact Or.inl h
          · rcases List.mem_cons.mp h1 with z | z
            · exact absurd (congrArg Prod.fst z) e
            · exact Or.inr ⟨v, z, h2⟩
    · rw [show sE1 md q E (g, u) = E from if_neg c]
      constructor
      · rintro (h | ⟨v, h1, h2⟩)
        · exact Or.inl h
        · exact Or.inr ⟨v, List.mem_cons_of_mem _ h1, h2⟩
      · rintro (h | ⟨v, h1, h2⟩)
        · exact Or.inl h
        · rcases List.mem_cons.mp h1 with z | z
          · cases z; exact absurd h2 c
          · exact Or.inr ⟨v, z, h2⟩
/-- the marks ahead of the rounds -/
theorem sE1_lvs {md : List Nat} {q : rq} {sc : Nat → Int32} {fi : Int32} {ps : List (Nat × Nat)} (hps : (ps.map Prod.fst).Nodup) (hlt : ∀ q ∈ ps, q.2 < 4) (f : Nat) : (ps.foldl (sE1 md q) (sE0 md sc fi q)) f = true ↔ f ∈ md ∧ lvs ps sc fi q f = false := by
  rw [sE1_f]
  unfold sE0 lvs
  rw [decide_eq_true_iff, decide_eq_false_iff_not]
  by_cases hm : f ∈ md
  · by_cases hk : f ∈ ps.map Prod.fst
    · obtain ⟨⟨f', v⟩, h1, h2⟩ := List.mem_map.mp hk
      have h2 : f' = f := h2
      subst h2
      have hg := gv_mem hps h1
      have hv := hlt _ h1
      have hn : ¬ nI v = -1 := by rw [nI_nm1 (show v < 1000 by have : v < 4 := hv; omega)]; exact id
      rw [hg]
      constructor
      · rintro (h | ⟨v', h3, h4, h5⟩)
        · exact ⟨hm, fun z => z.1 h.2⟩
        · refine ⟨hm, fun z => ?_⟩
          rcases z.2 with y | y
          · exact hn y
          · apply h5
            rw [← y, ← hg]
            exact gv_mem hps h3
      · rintro ⟨_, h⟩
        by_cases z : sc f' = 1 ∧ ¬ q f' 9 = fi
        · exact Or.inl ⟨hm, z⟩
        · exact Or.inr ⟨v, h1, hm, fun y => h ⟨z, Or.inr y.symm⟩⟩
    · rw [gv_no hk]
      constructor
      · rintro (h | ⟨v', h3, h4, h5⟩)
        · exact ⟨hm, fun z => z.1 h.2⟩
        · exact absurd (List.mem_map.mpr ⟨(f, v'), h3, rfl⟩) hk
      · rintro ⟨_, h⟩
        refine Or.inl ⟨hm, Classical.byContradiction (fun z => h ⟨z, Or.inl rfl⟩)⟩
  · constructor
    · rintro (h | ⟨v', h3, h4, h5⟩)
      · exact absurd h.1 hm
      · exact absurd h4 hm
    · intro h; exact absurd h.1 hm
section ST
variable {md : List Nat} {nd : Nat → List Nat} {nf : Nat}
theorem stI_ge (k : Nat) : ∀ (l : List Nat) (E : Nat → Bool) (f : Nat), E f = true → stI md E k l f = true := by
  intro l
  induction l with
  | nil => intro E f h; exact h
  | cons g l ih =>
    intro E f h
    refine ih _ f ?_
    unfold u1
    dsimp only
    by_cases c : f = k
    · rw [if_pos c, ← c, h]; rfl
    · rw [if_neg c]; exact h
theorem stI_hit (k : Nat) (hk : k ∈ md) : ∀ (l : List Nat) (E : Nat → Bool) (g : Nat), g ∈ l → E g = true → stI md E k l k = true := by
  intro l
  induction l with
  | nil => intro E g h; cases h
  | cons g' l ih =>
    intro E g h hE
    rcases List.mem_cons.mp h with e | e
    · subst e
      refine stI_ge k l _ k ?_
      unfold u1
      dsimp only
      rw [if_pos rfl, hE]
      simp [hk]
    · refine ih _ g e ?_
      unfold u1
      dsimp only
      by_cases c : g = k
      · rw [if_pos c, ← c, hE]; rfl
      · rw [if_neg c]; exact hE
theorem stK_ge : ∀ (ks : List Nat) (E : Nat → Bool) (f : Nat), E f = true → stK md nd E ks f = true := by
  intro ks
  induction ks with
  | nil => intro E f h; exact h
  | cons k ks ih => intro E f h; exact ih _ f (stI_ge k (nd k) E f h)
theorem stK_hit : ∀ (ks : List Nat) (E : Nat → Bool) (f g : Nat), f ∈ ks → f ∈ md → g ∈ nd f → E g = true → stK md nd E ks f = true := by
  intro ks
  induction ks with
  | nil => intro E f g h; cases h
  | cons k ks ih =>
    intro E f g h hm hg hE
    rcases List.mem_cons.mp h with e | e
    · subst e
      exact stK_ge ks _ f (stI_hit f hm (nd f) E g hg hE)
    · exact ih _ f g e hm hg (stI_ge k (nd k) E g hE)
theorem stR_ge : ∀ (r : Nat) (E : Nat → Bool) (f : Nat), E f = true → stR md nd nf r E f = true := by
  intro r
  induction r with
  | zero => intro E f h; exact h
  | succ r ih => intro E f h; exact ih _ f (stK_ge _ E f h)
theorem stR_add (E : Nat → Bool) : ∀ r, stR md nd nf (r + 1) E = stK md nd (stR md nd nf r E) (List.range nf) := by
  intro r
  induction r generalizing E with
  | zero => rfl
  | succ r ih => exact ih _
/-- the rounds find nothing but what leads to a mark -/
theorem st_snd {C : Nat → Prop} (hC : ∀ k g, k < nf → k ∈ md → g ∈ nd k → C g → C k) : ∀ (r : Nat) (E : Nat → Bool), (∀ f, E f = true → C f) → ∀ f, stR md nd nf r E f = true → C f := by
  have h1 : ∀ (k : Nat), k < nf → ∀ (l : List Nat), (∀ g ∈ l, g ∈ nd k) → ∀ (E : Nat → Bool), (∀ f, E f = true → C f) → ∀ f, stI md E k l f = true → C f := by
    intro k hk l
    induction l with
    | nil => intro _ E h; exact h
    | cons g l ih =>
      intro hl E h
      refine ih (fun g hg => hl g (List.mem_cons_of_mem _ hg)) _ (fun f hf => ?_)
      unfold u1 at hf
      dsimp only at hf
      by_cases c : f = k
      · rw [if_pos c] at hf
        rw [Bool.or_eq_true, Bool.and_eq_true, decide_eq_true_iff] at hf
        rcases hf with z | z
        · exact c ▸ h k z
        · exact c ▸ hC k g hk z.1 (hl g List.mem_cons_self) (h g z.2)
      · rw [if_neg c] at hf; exact h f hf
  have h2 : ∀ (ks : List Nat), (∀ k ∈ ks, k < nf) → ∀ (E : Nat → Bool), (∀ f, E f = true → C f) → ∀ f, stK md nd E ks f = true → C f := by
    intro ks
    induction ks with
    | nil => intro _ E h; exact h
    | cons k ks ih =>
      intro hk E h
      exact ih (fun k hk2 => hk k (List.mem_cons_of_mem _ hk2)) _ (h1 k (hk k List.mem_cons_self) (nd k) (fun g hg => hg) E h)
  intro r
  induction r with
  | zero => intro E h; exact h
  | succ r ih => intro E h; exact ih _ (h2 (List.range nf) (fun k hk => List.mem_range.mp hk) E h)
/-- both ways -/
theorem st_all {rk : Nat → Nat} {nb : Nat → Nat → Bool} (hrk : rkd nf nd rk) (hrb : ∀ f, f < nf → rk f ≤ 11) (hE : nbE nf nd nb) (hmn : ∀ f ∈ md, f < nf) (hcl : ∀ f ∈ md, ∀ g ∈ nd f, g ∈ md) (E : Nat → Bool) {f : Nat} (hf : f ∈ md) : stR md nd nf 12 E f = true ↔ E f = true ∨ ∃ g, nb f g = true ∧ E g = true := by
  constructor
  · intro h
    refine st_snd (C := fun f => E f = true ∨ ∃ g, nb f g = true ∧ E g = true) (fun k g hk hkm hg hC => ?_) 12 E (fun f hf => Or.inl hf) f h
    rcases hC with z | ⟨g', z1, z2⟩
    · exact Or.inr ⟨g, (hE k hk g).mpr ⟨g, hg, Or.inl rfl⟩, z⟩
    · exact Or.inr ⟨g', (hE k hk g').mpr ⟨g, hg, Or.inr z1⟩, z2⟩
  · have key : ∀ (r : Nat) (f : Nat), f ∈ md → rk f < r → (E f = true ∨ ∃ g, nb f g = true ∧ E g = true) → stR md nd nf r E f = true := by
      intro r
      induction r with
      | zero => intro f _ h; omega
      | succ r ih =>
        intro f hf hr hC
        rw [stR_add]
        rcases hC with z | ⟨g, z1, z2⟩
        · exact stK_ge _ _ f (stR_ge r E f z)
        · have hfn := hmn f hf
          obtain ⟨h, h1, h2⟩ := (hE f hfn g).mp z1
          have hh := hrk f hfn h h1
          refine stK_hit _ _ f h (List.mem_range.mpr hfn) hf h1 (ih h (hcl f hf h h1) (by omega) ?_)
          rcases h2 with y | y
          · exact Or.inl (y ▸ z2)
          · exact Or.inr ⟨g, y, z2⟩
    exact key 12 f hf (by have := hrb f (hmn f hf); omega)
end ST
/-- what the program marks is what the reference marks -/
theorem out_eq {w : sW} {nb : Nat → Nat → Bool} {s : rs} {ps : List (Nat × Nat)} {fi : Int32} (hK : wR w) (hE : nbE (wF w) (wN w) nb) (hmn : ∀ f ∈ s.1, f < wF w) (hcl : ∀ f ∈ s.1, ∀ g ∈ wN w f, g ∈ s.1) (hps : (ps.map Prod.fst).Nodup) (hlt : ∀ q ∈ ps, q.2 < 4) : ∀ f ∈ s.1, cOut nb ps (wI w 0) fi s f = sOut s.1 (wN w) (wF w) (wI w 0) fi s.2.1 ps f := fun f hf => by
  obtain ⟨rk, hrk, hrb⟩ := hK
  rw [Bool.eq_iff_iff]
  unfold sOut
  rw [st_all hrk hrb hE hmn hcl _ hf]
  unfold cOut
  rw [Bool.or_eq_true, List.any_eq_true, sE1_lvs hps hlt]
  constructor
  · rintro (h | ⟨g, h1, h2⟩)
    · exact Or.inl ⟨hf, by simpa using h⟩
    · rw [Bool.and_eq_true] at h2
      exact Or.inr ⟨g, h2.1, (sE1_lvs hps hlt g).mpr ⟨h1, by simpa using h2.2⟩⟩
  · rintro (h | ⟨g, h1, h2⟩)
    · exact Or.inl (by simpa using h.2)
    · obtain ⟨h3, h4⟩ := (sE1_lvs hps hlt g).mp h2
      exact Or.inr ⟨g, h3, by rw [h1, h4]; rfl⟩
/-- those that stay stay closed -/
theorem out_cl {w : sW} {nb : Nat → Nat → Bool} {s : rs} {ps : List (Nat × Nat)} {fi : Int32} (hK : wR w) (hE : nbE (wF w) (wN w) nb) (hmn : ∀ f ∈ s.1, f < wF w) (hcl : ∀ f ∈ s.1, ∀ g ∈ wN w f, g ∈ s.1) : ∀ f ∈ s.1.filter (fun f => !sOut s.1 (wN w) (wF w) (wI w 0) fi s.2.1 ps f), ∀ g ∈ wN w f, g ∈ s.1.filter (fun f => !sOut s.1 (wN w) (wF w) (wI w 0) fi s.2.1 ps f) := by
  intro f hf g hg
  obtain ⟨rk, hrk, hrb⟩ := hK
  rw [List.mem_filter] at hf ⊢
  refine ⟨hcl f hf.1 g hg, ?_⟩
  have hfn := hmn f hf.1
  by_cases c : sOut s.1 (wN w) (wF w) (wI w 0) fi s.2.1 ps g = true
  · exfalso
    have h2 : sOut s.1 (wN w) (wF w) (wI w 0) fi s.2.1 ps f = true := by
      unfold sOut at c ⊢
      rw [st_all hrk hrb hE hmn hcl _ (hcl f hf.1 g hg)] at c
      rw [st_all hrk hrb hE hmn hcl _ hf.1]
      rcases c with z | ⟨g', z1, z2⟩
      · exact Or.inr ⟨g, (hE f hfn g).mpr ⟨g, hg, Or.inl rfl⟩, z⟩
      · exact Or.inr ⟨g', (hE f hfn g').mpr ⟨g, hg, Or.inr z1⟩, z2⟩
    rw [h2] at hf
    exact absurd hf.2 (by decide)
  · simpa using c
/-- needs stand ahead of what needs them -/
def ord (nd : Nat → List Nat) (l : List Nat) : Prop := ∀ A f B, l = A ++ f :: B → ∀ g ∈ nd f, g ∈ A
theorem ord_snoc {nd : Nat → List Nat} {l : List Nat} {f : Nat} (h : ord nd l) (hf : ∀ g ∈ nd f, g ∈ l) : ord nd (l ++ [f]) := by
  intro A f' B e g hg
  rcases List.append_eq_append_iff.mp e with ⟨C, h1, h2⟩ | ⟨C, h1, h2⟩
  · cases C with
    | nil =>
      rw [List.nil_append] at h2
      rw [List.append_nil] at h1
      have h3 : f = f' := (List.cons.inj h2).1
      rw [h1]; exact hf g (h3 ▸ hg)
    | cons c C => exact absurd (congrArg List.length h2) (by simp)
  · cases C with
    | nil =>
      rw [List.nil_append] at h2
      rw [List.append_nil] at h1
      have h3 : f' = f := (List.cons.inj h2).1
      rw [← h1]; exact hf g (h3 ▸ hg)
    | cons c C =>
      rw [List.cons_append] at h2
      have h3 : f' = c := (List.cons.inj h2).1
      exact h A f' C (by rw [h1, h3]) g hg
theorem inc_ord {nf : Nat} {nd : Nat → List Nat} {rk : Nat → Nat} (hr : rkd nf nd rk) : ∀ (k : Nat) (acc : List Nat) (f : Nat), f < nf → rk f < k → ord nd acc → ord nd (inc nd k acc f) ∧ f ∈ inc nd k acc f ∧ ∀ h ∈ acc, h ∈ inc nd k acc f := by
  intro k
  induction k with
  | zero => intro acc f _ h; omega
  | succ k ih =>
    intro acc f hf hk ho
    by_cases e : f ∈ acc
    · rw [show inc nd (k + 1) acc f = acc from if_pos e]
      exact ⟨ho, e, fun h hh => hh⟩
    · rw [show inc nd (k + 1) acc f = (nd f).foldl (inc nd k) acc ++ [f] from if_neg e]
      have lp : ∀ (l acc : List Nat), (∀ g ∈ l, g < nf ∧ rk g < k) → ord nd acc → ord nd (l.foldl (inc nd k) acc) ∧ (∀ g ∈ l, g ∈ l.foldl (inc nd k) acc) ∧ ∀ h ∈ acc, h ∈ l.foldl (inc nd k) acc := by
        intro l
        induction l with
        | nil => intro acc _ ho; exact ⟨ho, fun g hg => (by cases hg), fun h hh => hh⟩
        | cons g l ihl =>
          intro acc hl ho
          obtain ⟨a1, a2, a3⟩ := ih acc g (hl g List.mem_cons_self).1 (hl g List.mem_cons_self).2 ho
          obtain ⟨b1, b2, b3⟩ := ihl _ (fun g' hg' => hl g' (List.mem_cons_of_mem _ hg')) a1
          refine ⟨b1, fun g' hg' => ?_, fun h hh => b3 h (a3 h hh)⟩
          rcases List.mem_cons.mp hg' with z | z
          · subst z; exact b3 g' a2
          · exact b2 g' z
      obtain ⟨a1, a2, a3⟩ := lp (nd f) acc (fun g hg => by have := hr f hf g hg; exact ⟨this.1, by omega⟩) ho
      exact ⟨ord_snoc a1 a2, by simp, fun h hh => List.mem_append_left _ (a3 h hh)⟩
theorem clo_ord {w : sW} (hK : wR w) {t : Nat} (hu : ∀ f ∈ wU w t, f < wF w) : ord (wN w) (clo (wN w) (wU w t)) := by
  obtain ⟨rk, hrk, hrb⟩ := hK
  unfold clo
  have lp : ∀ (l acc : List Nat), (∀ g ∈ l, g < wF w) → ord (wN w) acc → ord (wN w) (l.foldl (inc (wN w) 12) acc) := by
    intro l
    induction l with
    | nil => intro acc _ ho; exact ho
    | cons g l ihl =>
      intro acc hl ho
      have hg := hl g List.mem_cons_self
      exact ihl _ (fun g' hg' => hl g' (List.mem_cons_of_mem _ hg')) (inc_ord hrk 12 acc g hg (by have := hrb g hg; omega) ho).1
  refine lp _ [] hu (fun A f B e => ?_)
  exact absurd (congrArg List.length e) (by simp)
