/-! what the steps of a run keep -/
theorem inc_fm {nf : Nat} {nd : Nat → List Nat} {rk : Nat → Nat} (hr : rkd nf nd rk) (r b : Nat) : ∀ (l acc : List Nat), (∀ g ∈ l, g < nf ∧ rk g < b) → ∀ h, h ∈ l.foldl (inc nd r) acc → h ∈ acc ∨ rk h < b := by
  intro l
  induction l with
  | nil => intro acc _ h hh; exact Or.inl hh
  | cons g l ih =>
    intro acc hl h hh
    obtain ⟨g1, g2⟩ := hl g List.mem_cons_self
    rcases ih (inc nd r acc g) (fun q hq => hl q (List.mem_cons_of_mem _ hq)) h hh with q | q
    · rcases inc_mem hr r acc g g1 h q with q | q
      · exact Or.inl q
      · exact Or.inr (by omega)
    · exact Or.inr q
theorem inc_ok {nf : Nat} {nd : Nat → List Nat} {rk : Nat → Nat} (hr : rkd nf nd rk) : ∀ (r : Nat) (acc : List Nat) (f : Nat), f < nf → acc.Nodup ∧ (∀ h ∈ acc, h < nf) → (inc nd r acc f).Nodup ∧ ∀ h ∈ inc nd r acc f, h < nf := by
  intro r
  induction r with
  | zero => intro acc f _ h; exact h
  | succ r ih =>
    intro acc f hf h
    rw [inc]
    by_cases e : f ∈ acc
    · rw [if_pos e]; exact h
    · rw [if_neg e]
      have key : ∀ (l acc : List Nat), (∀ g ∈ l, g < nf) → acc.Nodup ∧ (∀ h ∈ acc, h < nf) → (l.foldl (inc nd r) acc).Nodup ∧ ∀ h ∈ l.foldl (inc nd r) acc, h < nf := by
        intro l
        induction l with
        | nil => intro acc _ h; exact h
        | cons g l ihl =>
          intro acc hl h
          exact ihl (inc nd r acc g) (fun q hq => hl q (List.mem_cons_of_mem _ hq)) (ih acc g (hl g List.mem_cons_self) h)
      obtain ⟨k1, k2⟩ := key (nd f) acc (fun g hg => (hr f hf g hg).1) h
      have hn : ¬ f ∈ (nd f).foldl (inc nd r) acc := fun q => by
        rcases inc_fm hr r (rk f) (nd f) acc (hr f hf) f q with q | q
        · exact e q
        · omega
      refine ⟨List.nodup_append.mpr ⟨k1, by simp, fun a ha b hb q => ?_⟩, fun h hh => ?_⟩
      · rw [List.mem_singleton.mp hb] at q
        exact hn (q ▸ ha)
      · rcases List.mem_append.mp hh with q | q
        · exact k2 h q
        · rw [List.mem_singleton.mp q]; exact hf
theorem inc_okl {nf : Nat} {nd : Nat → List Nat} {rk : Nat → Nat} (hr : rkd nf nd rk) (r : Nat) : ∀ (l acc : List Nat), (∀ g ∈ l, g < nf) → acc.Nodup ∧ (∀ h ∈ acc, h < nf) → (l.foldl (inc nd r) acc).Nodup ∧ ∀ h ∈ l.foldl (inc nd r) acc, h < nf := by
  intro l
  induction l with
  | nil => intro acc _ h; exact h
  | cons g l ihl =>
    intro acc hl h
    exact ihl (inc nd r acc g) (fun q hq => hl q (List.mem_cons_of_mem _ hq)) (inc_ok hr r acc g (hl g List.mem_cons_self) h)
theorem clo_ok {w : sW} (hK : wR w) {t : Nat} (hu : ∀ f ∈ wU w t, f < wF w) : (clo (wN w) (wU w t)).Nodup ∧ (∀ f ∈ clo (wN w) (wU w t), f < wF w) ∧ (clo (wN w) (wU w t)).length ≤ wF w := by
  obtain ⟨rk, h1, h2⟩ := hK
  obtain ⟨k1, k2⟩ := inc_okl h1 12 (wU w t) [] hu ⟨List.nodup_nil, fun h hh => absurd hh (by simp)⟩
  exact ⟨k1, k2, nd_len _ _ k1 k2⟩
theorem pvl_fst (va : Nat → Nat) (m : Nat) : ∀ l : List Nat, (pvl va m l).map Prod.fst = l := by
  intro l
  induction l with
  | nil => rfl
  | cons a l ih => show a :: (pvl va m l).map Prod.fst = a :: l; rw [ih]
theorem wPs_ok {w : sW} (hK : wR w) {t m : Nat} (hu : ∀ f ∈ wU w t, f < wF w) : (∀ p ∈ wPs w t m, p.1 < wF w) ∧ (wPs w t m).length ≤ wF w := by
  obtain ⟨k1, k2, k3⟩ := clo_ok hK hu
  refine ⟨fun p hp => k2 p.1 ?_, by unfold wPs; rw [pvl_len]; exact k3⟩
  have : p.1 ∈ (wPs w t m).map Prod.fst := List.mem_map_of_mem hp
  unfold wPs at this
  rw [pvl_fst] at this
  exact this
/-- made: each once, all known -/
def oS (nf : Nat) (l : List Nat) : Prop := l.Nodup ∧ ∀ f ∈ l, f < nf
theorem oS.len {nf : Nat} {l : List Nat} (h : oS nf l) : l.length ≤ nf := nd_len nf l h.1 h.2
theorem oS.flt {nf : Nat} {l : List Nat} (h : oS nf l) (p : Nat → Bool) : oS nf (l.filter p) := ⟨h.1.filter p, fun f hf => h.2 f (List.mem_filter.mp hf).1⟩
theorem sMk_o (mf : Nat → Nat) (sc : Nat → Int32) (fi : Int32) {nf : Nat} : ∀ (ps : List (Nat × Nat)) (s : rs), (∀ p ∈ ps, p.1 < nf) → oS nf s.1 → oS nf (sMk mf sc fi ps s).2.1 := by
  intro ps
  induction ps with
  | nil => intro s _ h; exact h
  | cons p ps ih =>
    intro s hp h
    obtain ⟨g, v⟩ := p
    have hg : g < nf := hp (g, v) List.mem_cons_self
    have hp' : ∀ p ∈ ps, p.1 < nf := fun p q => hp p (List.mem_cons_of_mem _ q)
    unfold sMk
    by_cases e1 : g ∈ s.1
    · rw [if_pos e1]; exact ih s hp' h
    · rw [if_neg e1]
      by_cases e2 : bt (s.2.1 g 10) v = true
      · rw [if_pos e2]; exact h
      · rw [if_neg e2]
        by_cases e3 : mf g = 1
        · rw [if_pos e3]; exact h
        · rw [if_neg e3]
          refine ih _ hp' ⟨List.nodup_append.mpr ⟨h.1, by simp, fun a ha b hb q => ?_⟩, fun f hf => ?_⟩
          · rw [List.mem_singleton.mp hb] at q
            exact e1 (q ▸ ha)
          · rcases List.mem_append.mp hf with q | q
            · exact h.2 f q
            · rw [List.mem_singleton.mp q]; exact hg
theorem sTry_o (mf : Nat → Nat) (sc : Nat → Int32) (fi st li fa : Int32) (ef : Nat → Nat) (ps : List (Nat × Nat)) (p tries : Nat) (s : rs) (fl : Nat) {nf : Nat} (hp : ∀ p ∈ ps, p.1 < nf) (hl : ps.length ≤ nf) (h : oS nf s.1) : oS nf (sTry mf sc fi st li fa ef ps p tries s fl).2.2.1.1 ∧ (sTry mf sc fi st li fa ef ps p tries s fl).2.2.1.2.2.length ≤ s.2.2.length + (2 * nf + 1) := by
  have h1 := sMk_o mf sc fi ps s hp h
  have h2 := sMk_len mf sc fi ps s
  unfold sTry
  generalize sMk mf sc fi ps s = r at h1 h2
  obtain ⟨r1, md1, q1, ev1⟩ := r
  have h1 : oS nf md1 := h1
  have h2 : ev1.length ≤ s.2.2.length + ps.length := h2
  have h3 := (h1.flt (cs0 sc)).len
  cases r1 with
  | none =>
    refine ⟨h1.flt _, ?_⟩
    show (List.foldl (sE ef) _ _).2.1.length ≤ _
    rw [sE_len, List.length_reverse]
    show (ev1 ++ [_]).length + (md1.filter (cs0 sc)).length ≤ _
    rw [List.length_append, List.length_singleton]
    omega
  | some g =>
    refine ⟨h1.flt _, ?_⟩
    show (List.foldl (sE ef) _ _).2.1.length ≤ _
    rw [sE_len, List.length_reverse]
    show ev1.length + (md1.filter (cs0 sc)).length ≤ _
    omega
theorem sLp_o {re : Int32} (hre : re ≤ 2) (T : Nat → rs → Nat → Option Nat × Int32 × rs × Nat) {nf b : Nat} {P : rs → Prop} (hT : ∀ i s fl, P s → oS nf s.1 → P (T i s fl).2.2.1 ∧ oS nf (T i s fl).2.2.1.1 ∧ (T i s fl).2.2.1.2.2.length ≤ s.2.2.length + b) : ∀ (k tries : Nat) (out : Int32) (lf : Nat) (lk : Option Nat) (s : rs) (fl : Nat), tries ≤ 3 → P s → oS nf s.1 → P (sLp re T k tries out lf lk s fl).2.2.2.2.1 ∧ oS nf (sLp re T k tries out lf lk s fl).2.2.2.2.1.1 ∧ (sLp re T k tries out lf lk s fl).2.2.2.2.1.2.2.length ≤ s.2.2.length + b * (3 - tries) ∧ (sLp re T k tries out lf lk s fl).1 ≤ 3 := by
  intro k
  induction k with
  | zero => intro tries out lf lk s fl ht hP h; exact ⟨hP, h, Nat.le_add_right _ _, ht⟩
  | succ k ih =>
    intro tries out lf lk s fl ht hP h
    unfold sLp
    by_cases c : tries = 0 ∨ ((out = 2 ∨ out = 3) ∧ nI tries ≤ re)
    · rw [if_pos c]
      have ht2 : tries + 1 ≤ 3 := by
        rcases c with c | ⟨-, c⟩
        · omega
        · have h2 : nI tries ≤ nI 2 := Int32.le_trans c hre
          have := (nI_leI (by omega) (by decide)).mp h2
          omega
      obtain ⟨a0, a1, a2⟩ := hT tries s fl hP h
      obtain ⟨b0, b1, b2, b3⟩ := ih (tries + 1) (T tries s fl).2.1 ((T tries s fl).2.2.2 - fl) (T tries s fl).1 (T tries s fl).2.2.1 (T tries s fl).2.2.2 ht2 a0 a1
      refine ⟨b0, b1, ?_, b3⟩
      have e : 3 - tries = (3 - (tries + 1)) + 1 := by omega
      rw [e, Nat.mul_add, Nat.mul_one]
      omega
    · rw [if_neg c]
      exact ⟨hP, h, Nat.le_add_right _ _, ht⟩
/-- a case keeps: each once, at most 87 events, nothing remembered of case scope -/
theorem wCs_o {w : sW} (hK : wR w) {t m p : Nat} (h12 : wF w ≤ 12) (hre : wI w 5 t ≤ 2) (hu : ∀ f ∈ wU w t, f < wF w) (s : rs) (ho : oS (wF w) s.1) (hz : ∀ f, f < wF w → wI w 0 f = 0 → s.2.1 f 10 = 0) : (∀ f, f < wF w → wI w 0 f = 0 → (wCs w p t m s).2.2.2.2.1.2.1 f 10 = 0) ∧ oS (wF w) (wCs w p t m s).2.2.2.2.1.1 ∧ (wCs w p t m s).2.2.2.2.1.2.2.length ≤ s.2.2.length + 87 ∧ (wCs w p t m s).1 ≤ 3 := by
  obtain ⟨k1, k2⟩ := wPs_ok (m := m) hK hu
  have hT := sLp_o hre (fun i s fl => sTry (wA w 1) (wI w 0) (wI w 1 t) (wI w 2 t) (wI w 3 t) (wI w 4 t) (wA w 2) (wPs w t m) p i s fl) (nf := wF w) (b := 2 * wF w + 1) (P := fun s => ∀ f, f < wF w → wI w 0 f = 0 → s.2.1 f 10 = 0) (fun i s fl hP h => by
    obtain ⟨a1, a2⟩ := sTry_o (wA w 1) (wI w 0) (wI w 1 t) (wI w 2 t) (wI w 3 t) (wI w 4 t) (wA w 2) (wPs w t m) p i s fl k1 k2 h
    exact ⟨sTry_z hP, a1, a2⟩) 4 0 2 0 none (sPt (wN w) (wF w) (wI w 0) (wI w 1 t) (wA w 2) (wPs w t m) s).1 (sPt (wN w) (wF w) (wI w 0) (wI w 1 t) (wA w 2) (wPs w t m) s).2 (by decide) (fun f hf h0 => by
      show ((List.foldl (sE (wA w 2)) _ _).1 : rq) f 10 = 0
      rw [sE_q (wA w 2) _ _ f 10 (by decide) (by decide)]
      exact sF_z _ _ _ _ f (hz f hf h0)) (ho.flt _)
  obtain ⟨c1, c2, c3, c4⟩ := hT
  refine ⟨c1, c2, ?_, c4⟩
  have h1 : (sPt (wN w) (wF w) (wI w 0) (wI w 1 t) (wA w 2) (wPs w t m) s).1.2.2.length ≤ s.2.2.length + 12 := by
    show (List.foldl (sE (wA w 2)) _ _).2.1.length ≤ _
    rw [sE_len, List.length_reverse]
    have := (ho.flt (sOut s.1 (wN w) (wF w) (wI w 0) (wI w 1 t) s.2.1 (wPs w t m))).len
    show s.2.2.length + (s.1.filter (sOut s.1 (wN w) (wF w) (wI w 0) (wI w 1 t) s.2.1 (wPs w t m))).length ≤ _
    omega
  refine Nat.le_trans c3 ?_
  omega
theorem sLk_le (md : List Nat) (sc : Nat → Int32) (fi : Int32) (q : rq) : ∀ (ps : List (Nat × Nat)) (a : Nat), ps.foldl (sLk md sc fi q) a ≤ a + ps.length := by
  intro ps
  induction ps with
  | nil => intro a; exact Nat.le_refl _
  | cons p ps ih =>
    intro a
    rw [List.foldl_cons]
    have h1 := ih (sLk md sc fi q a p)
    have h2 : sLk md sc fi q a p ≤ a + 1 := by
      unfold sLk
      split <;> omega
    simp only [List.length_cons]
    omega
theorem wLk_le {w : sW} (hK : wR w) (o : Int32) (s : rs) {c : Nat × Nat} (h12 : wF w ≤ 12) (hu : ∀ f ∈ wU w c.1, f < wF w) : wLk w o s c ≤ 12 := by
  unfold wLk
  by_cases e : o = 0
  · rw [if_pos e]; omega
  · rw [if_neg e]
    have h1 := sLk_le s.1 (wI w 0) (wI w 1 c.1) s.2.1 (wPs w c.1 c.2) 0
    have h2 := (wPs_ok (m := c.2) hK hu).2
    omega
theorem bst_mem (g : Nat × Nat → Nat) : ∀ (l : List (Nat × Nat)) (b : Option (Nat × Nat)) (c : Nat × Nat), l.foldl (bst g) b = some c → b = some c ∨ c ∈ l := by
  intro l
  induction l with
  | nil => intro b c h; exact Or.inl h
  | cons a l ih =>
    intro b c h
    rw [List.foldl_cons] at h
    rcases ih _ c h with q | q
    · cases b with
      | none => exact Or.inr (by cases q; exact List.mem_cons_self)
      | some e =>
        unfold bst at q
        simp only at q
        split at q
        · cases q; exact Or.inr List.mem_cons_self
        · exact Or.inl q
    · exact Or.inr (List.mem_cons_of_mem _ q)
theorem bst_some (g : Nat × Nat → Nat) : ∀ (l : List (Nat × Nat)) (b : Option (Nat × Nat)), b ≠ none ∨ l ≠ [] → ∃ c, l.foldl (bst g) b = some c := by
  intro l
  induction l with
  | nil =>
    intro b h
    cases b with
    | none => exact absurd h (by simp)
    | some c => exact ⟨c, rfl⟩
  | cons a l ih =>
    intro b _
    rw [List.foldl_cons]
    refine ih _ (Or.inl ?_)
    unfold bst
    cases b with
    | none => simp
    | some e => simp only; split <;> simp
