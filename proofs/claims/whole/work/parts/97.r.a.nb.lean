/-! needs, by way of others too -/
def nbX (nf : Nat) (nd : Nat → List Nat) (nb : Nat → Nat → Bool) : Prop := nbE nf nd nb ∧ (∀ a b c, nb a b = true → nb b c = true → nb a c = true) ∧ (∀ a, nb a a = false) ∧ (∀ a b, nb a b = true → a < nf ∧ b < nf) ∧ ∀ f, f < nf → ∀ g ∈ nd f, g < nf
theorem flt_lt {p q : Nat → Bool} : ∀ (l : List Nat), (∀ a ∈ l, p a = true → q a = true) → (l.filter p).length ≤ (l.filter q).length ∧ ((∃ a, a ∈ l ∧ q a = true ∧ p a = false) → (l.filter p).length < (l.filter q).length) := by
  intro l
  induction l with
  | nil => intro _; exact ⟨Nat.le_refl _, fun ⟨a, h, _⟩ => by cases h⟩
  | cons b l ih =>
    intro h
    obtain ⟨h1, h2⟩ := ih (fun a ha => h a (List.mem_cons_of_mem _ ha))
    by_cases c : p b = true
    · have c2 := h b List.mem_cons_self c
      rw [List.filter_cons_of_pos c, List.filter_cons_of_pos c2, List.length_cons, List.length_cons]
      refine ⟨by omega, fun ⟨a, ha, h3, h4⟩ => ?_⟩
      rcases List.mem_cons.mp ha with e | e
      · rw [e, c] at h4; cases h4
      · have := h2 ⟨a, e, h3, h4⟩; omega
    · rw [List.filter_cons_of_neg c]
      by_cases c2 : q b = true
      · rw [List.filter_cons_of_pos c2, List.length_cons]
        exact ⟨by omega, fun _ => by omega⟩
      · rw [List.filter_cons_of_neg c2]
        refine ⟨h1, fun ⟨a, ha, h3, h4⟩ => ?_⟩
        rcases List.mem_cons.mp ha with e | e
        · rw [e] at h3; exact absurd h3 c2
        · exact h2 ⟨a, e, h3, h4⟩
/-- the rank: how many it needs -/
theorem nbX.rk {nf : Nat} {nd : Nat → List Nat} {nb : Nat → Nat → Bool} (h : nbX nf nd nb) (h12 : nf ≤ 12) : ∃ rk, rkd nf nd rk ∧ ∀ f, f < nf → rk f ≤ 11 := by
  obtain ⟨hE, hT, hI, hD, hn⟩ := h
  refine ⟨fun f => ((List.range nf).filter (nb f)).length, fun f hf g hg => ?_, fun f hf => ?_⟩
  · have hgn := hn f hf g hg
    have hfg : nb f g = true := (hE f hf g).mpr ⟨g, hg, Or.inl rfl⟩
    exact ⟨hgn, (flt_lt (List.range nf) (fun a _ ha => hT f g a hfg ha)).2 ⟨g, List.mem_range.mpr hgn, hfg, hI g⟩⟩
  · have := (flt_lt (p := nb f) (q := fun _ => true) (List.range nf) (fun _ _ _ => rfl)).2 ⟨f, List.mem_range.mpr hf, rfl, hI f⟩
    rw [List.filter_eq_self.mpr (fun _ _ => rfl), List.length_range] at this
    show ((List.range nf).filter (nb f)).length ≤ 11
    omega
/-- one link more -/
def lnk (nb : Nat → Nat → Bool) (f o : Nat) (k g : Nat) : Bool := nb k g || ((decide (k = f) || nb k f) && (decide (g = o) || nb o g))
theorem lnk_iff {nb : Nat → Nat → Bool} {f o k g : Nat} : lnk nb f o k g = true ↔ nb k g = true ∨ ((k = f ∨ nb k f = true) ∧ (g = o ∨ nb o g = true)) := by
  unfold lnk
  simp
def up1 {α : Type} (h : Nat → α) (a : Nat) (v : α) : Nat → α := fun b => if b = a then v else h b
theorem nbX.link {nf : Nat} {nd : Nat → List Nat} {nb : Nat → Nat → Bool} (h : nbX nf nd nb) {f o : Nat} (hf : f < nf) (ho : o < nf) (hne : o ≠ f) (hring : nb o f = false) : nbX nf (up1 nd f (nd f ++ [o])) (lnk nb f o) := by
  obtain ⟨hE, hT, hI, hD, hn⟩ := h
  have hr : ¬ nb o f = true := by rw [hring]; decide
  have hI' : ∀ a, ¬ nb a a = true := fun a => by rw [hI a]; decide
  refine ⟨fun k hk g => ?_, fun a b c h1 h2 => ?_, fun a => ?_, fun a b h1 => ?_, fun k hk g hg => ?_⟩
  · rw [lnk_iff]
    have mem : ∀ h, h ∈ up1 nd f (nd f ++ [o]) k ↔ h ∈ nd k ∨ (k = f ∧ h = o) := fun h => by
      unfold up1
      by_cases c : k = f
      · rw [if_pos c, List.mem_append, List.mem_singleton, c]; simp
      · rw [if_neg c]; simp [c]
    constructor
    · rintro (z | ⟨z1, z2⟩)
      · obtain ⟨h, h1, h2⟩ := (hE k hk g).mp z
        refine ⟨h, (mem h).mpr (Or.inl h1), ?_⟩
        rcases h2 with y | y
        · exact Or.inl y
        · exact Or.inr (lnk_iff.mpr (Or.inl y))
      · rcases z1 with z1 | z1
        · refine ⟨o, (mem o).mpr (Or.inr ⟨z1, rfl⟩), ?_⟩
          rcases z2 with y | y
          · exact Or.inl y.symm
          · exact Or.inr (lnk_iff.mpr (Or.inl y))
        · obtain ⟨h, h1, h2⟩ := (hE k hk f).mp z1
          exact ⟨h, (mem h).mpr (Or.inl h1), Or.inr (lnk_iff.mpr (Or.inr ⟨h2, z2⟩))⟩
    · rintro ⟨h, h1, h2⟩
      rcases (mem h).mp h1 with y | ⟨y1, y2⟩
      · rcases h2 with z | z
        · exact Or.inl ((hE k hk g).mpr ⟨h, y, Or.inl z⟩)
        · rcases lnk_iff.mp z with u | ⟨u1, u2⟩
          · exact Or.inl ((hE k hk g).mpr ⟨h, y, Or.inr u⟩)
          · exact Or.inr ⟨Or.inr ((hE k hk f).mpr ⟨h, y, u1⟩), u2⟩
      · refine Or.inr ⟨Or.inl y1, ?_⟩
        subst y2
        rcases h2 with z | z
        · exact Or.inl z.symm
        · rcases lnk_iff.mp z with u | ⟨u1, u2⟩
          · exact Or.inr u
          · exact u2
  · rw [lnk_iff] at h1 h2 ⊢
    rcases h1 with y | ⟨y1, y2⟩
    · rcases h2 with z | ⟨z1, z2⟩
      · exact Or.inl (hT a b c y z)
      · refine Or.inr ⟨Or.inr ?_, z2⟩
        rcases z1 with u | u
        · exact u ▸ y
        · exact hT a b f y u
    · rcases h2 with z | ⟨z1, z2⟩
      · refine Or.inr ⟨y1, Or.inr ?_⟩
        rcases y2 with u | u
        · exact u ▸ z
        · exact hT o b c u z
      · exact Or.inr ⟨y1, z2⟩
  · have : ¬ lnk nb f o a a = true := fun z => by
      rcases lnk_iff.mp z with u | ⟨u1, u2⟩
      · exact hI' a u
      · rcases u1 with v | v
        · subst v
          rcases u2 with y | y
          · exact hne y.symm
          · exact hr y
        · rcases u2 with y | y
          · exact hr (y ▸ v)
          · exact hr (hT o a f y v)
    simpa using this
  · rcases lnk_iff.mp h1 with u | ⟨u1, u2⟩
    · exact hD a b u
    · constructor
      · rcases u1 with v | v
        · omega
        · exact (hD a f v).1
      · rcases u2 with v | v
        · omega
        · exact (hD o b v).2
  · unfold up1 at hg
    by_cases c : k = f
    · rw [if_pos c] at hg
      rcases List.mem_append.mp hg with y | y
      · exact hn f hf g y
      · rw [List.mem_singleton.mp y]; exact ho
    · rw [if_neg c] at hg; exact hn k hk g hg
/-- one fixture more -/
theorem nbX.more {nf : Nat} {nd : Nat → List Nat} {nb : Nat → Nat → Bool} (h : nbX nf nd nb) : nbX (nf + 1) (up1 nd nf []) nb := by
  obtain ⟨hE, hT, hI, hD, hn⟩ := h
  refine ⟨fun f hf g => ?_, hT, hI, fun a b z => by have := hD a b z; omega, fun f hf g hg => ?_⟩
  · unfold up1
    by_cases c : f = nf
    · rw [if_pos c]
      constructor
      · intro z; have := hD f g z; omega
      · rintro ⟨h, h1, _⟩; cases h1
    · rw [if_neg c]; exact hE f (by omega) g
  · unfold up1 at hg
    by_cases c : f = nf
    · rw [if_pos c] at hg; cases hg
    · rw [if_neg c] at hg
      have := hn f (by omega) g hg
      omega
/-! leads -/
theorem ldI_b (k : Nat) (hk : k < 32) : ∀ (l : List Nat) (z : Int32), (∀ g ∈ l, g < 32) → ∀ i, bt (ldI z k l) i = (bt z i || (bt z k && decide (i ∈ l))) := by
  intro l
  induction l with
  | nil => intro z _ i; simp [ldI]
  | cons g l ih =>
    intro z h i
    show bt (ldI (z ||| (if (z >>> (nI k &&& 31)) &&& 1 = 1 then 1 <<< (nI g &&& 31) else 0)) k l) i = _
    rw [ih _ (fun g hg => h g (List.mem_cons_of_mem _ hg))]
    have hg := h g List.mem_cons_self
    by_cases c : bt z k = true
    · rw [if_pos (by rw [bb_tst hk]; exact c), b_or, b_or, bb_bit hg, bb_bit hg, c]
      by_cases e : i = g
      · subst e; simp
      · simp [e]
    · have c' : bt z k = false := by simpa using c
      rw [if_neg (by rw [bb_tst hk]; exact c), b_or, b_or, b_0, b_0, c']
      simp
section LD
variable {nd : Nat → List Nat} {nf : Nat}
theorem ldK_ge (hn : ∀ f, f < nf → ∀ g ∈ nd f, g < nf) (h12 : nf ≤ 12) : ∀ (ks : List Nat) (z : Int32), (∀ k ∈ ks, k < nf) → (∀ i, bt z i = true → bt (ldK nd z ks) i = true) ∧ ∀ k g, k ∈ ks → g ∈ nd k → bt z k = true → bt (ldK nd z ks) g = true := by
  intro ks
  induction ks with
  | nil => intro z _; exact ⟨fun i h => h, fun k g h => by cases h⟩
  | cons k ks ih =>
    intro z hk
    have hk1 := hk k List.mem_cons_self
    obtain ⟨h1, h2⟩ := ih (ldI z k (nd k)) (fun k hk2 => hk k (List.mem_cons_of_mem _ hk2))
    have hb := ldI_b k (by omega) (nd k) z (fun g hg => by have := hn k hk1 g hg; omega)
    have up : ∀ i, bt z i = true → bt (ldI z k (nd k)) i = true := fun i h => by rw [hb i, h]; rfl
    refine ⟨fun i h => h1 i (up i h), fun k' g hk' hg h => ?_⟩
    rcases List.mem_cons.mp hk' with e | e
    · subst e
      exact h1 g (by rw [hb g, h]; simp [hg])
    · exact h2 k' g e hg (up k' h)
theorem ldR_ge (hn : ∀ f, f < nf → ∀ g ∈ nd f, g < nf) (h12 : nf ≤ 12) : ∀ (r : Nat) (z : Int32) (i : Nat), bt z i = true → bt (ldR nd nf r z) i = true := by
  intro r
  induction r with
  | zero => intro z i h; exact h
  | succ r ih => intro z i h; exact ih _ i ((ldK_ge hn h12 (List.range nf) z (fun k hk => List.mem_range.mp hk)).1 i h)
theorem ldR_snd {C : Nat → Prop} (hn : ∀ f, f < nf → ∀ g ∈ nd f, g < nf) (h12 : nf ≤ 12) (hC : ∀ k g, k < nf → g ∈ nd k → C k → C g) : ∀ (r : Nat) (z : Int32), (∀ i, bt z i = true → C i) → ∀ i, bt (ldR nd nf r z) i = true → C i := by
  have h2 : ∀ (ks : List Nat), (∀ k ∈ ks, k < nf) → ∀ (z : Int32), (∀ i, bt z i = true → C i) → ∀ i, bt (ldK nd z ks) i = true → C i := by
    intro ks
    induction ks with
    | nil => intro _ z h; exact h
    | cons k ks ih =>
      intro hk z h
      have hk1 := hk k List.mem_cons_self
      refine ih (fun k hk2 => hk k (List.mem_cons_of_mem _ hk2)) _ (fun i hi => ?_)
      rw [ldI_b k (by omega) (nd k) z (fun g hg => by have := hn k hk1 g hg; omega)] at hi
      rw [Bool.or_eq_true, Bool.and_eq_true, decide_eq_true_iff] at hi
      rcases hi with y | ⟨y1, y2⟩
      · exact h i y
      · exact hC k i hk1 y2 (h k y1)
  intro r
  induction r with
  | zero => intro z h; exact h
  | succ r ih => intro z h; exact ih _ (h2 _ (fun k hk => List.mem_range.mp hk) z h)
/-- leads: the bits of the reference, and those of the program -/
theorem ld_nb {nb : Nat → Nat → Bool} (h : nbX nf nd nb) (h12 : nf ≤ 12) {o : Nat} (ho : o < nf) (f : Nat) : bt (ldR nd nf 12 (1 <<< (nI o &&& 31))) f = true ↔ f = o ∨ nb o f = true := by
  obtain ⟨rk, hrk, hrb⟩ := h.rk h12
  obtain ⟨hE, hT, hI, hD, hn⟩ := h
  constructor
  · intro z
    refine ldR_snd (C := fun i => i = o ∨ nb o i = true) hn h12 (fun k g hk hg hk2 => ?_) 12 _ (fun i hi => ?_) f z
    · have hkg : nb k g = true := (hE k hk g).mpr ⟨g, hg, Or.inl rfl⟩
      rcases hk2 with y | y
      · exact Or.inr (y ▸ hkg)
      · exact Or.inr (hT o k g y hkg)
    · rw [bb_bit (by omega)] at hi
      exact Or.inl (of_decide_eq_true hi)
  · have key : ∀ (r : Nat) (k : Nat) (z : Int32), k < nf → rk k ≤ r → bt z k = true → nb k f = true → bt (ldR nd nf r z) f = true := by
      intro r
      induction r with
      | zero =>
        intro k z hk hr hz hb
        obtain ⟨h, h1, h2⟩ := (hE k hk f).mp hb
        have := (hrk k hk h h1).2
        omega
      | succ r ih =>
        intro k z hk hr hz hb
        obtain ⟨h, h1, h2⟩ := (hE k hk f).mp hb
        have hh := hrk k hk h h1
        have hm := (ldK_ge hn h12 (List.range nf) z (fun k hk => List.mem_range.mp hk)).2 k h (List.mem_range.mpr hk) h1 hz
        show bt (ldR nd nf r (ldK nd z (List.range nf))) f = true
        rcases h2 with y | y
        · exact ldR_ge hn h12 r _ f (y ▸ hm)
        · exact ih h _ hh.1 (by omega) hm y
    intro z
    have h0 : bt (1 <<< (nI o &&& 31)) o = true := by rw [bb_bit (by omega)]; simp
    rcases z with y | y
    · rw [y]; exact ldR_ge hn h12 12 _ o h0
    · exact key 12 o _ ho (by have := hrb o ho; omega) h0 y
end LD
