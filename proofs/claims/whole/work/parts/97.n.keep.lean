/-! what a run keeps: closed under needs, small events -/
def evS (s : rs) : Prop := (∀ e ∈ s.2.2, ∃ a b c, e = (nI a, nI b, nI c) ∧ a < 5 ∧ b < 40 ∧ c < 4) ∧ ∀ f, ∃ v, s.2.1 f 8 = nI v ∧ v < 4
/-- scopes of needs -/
def scN (w : sW) : Prop := ∀ f, f < wF w → ∀ g ∈ wN w f, wI w 0 g = 0 → wI w 0 f = 0
def kp (w : sW) (s : rs) : Prop := oS (wF w) s.1 ∧ (∀ f ∈ s.1, ∀ g ∈ wN w f, g ∈ s.1) ∧ evS s
theorem evS.snoc {md md' : List Nat} {q : rq} {ev : List re3} {a b c : Nat} (h : evS (md, q, ev)) (ha : a < 5) (hb : b < 40) (hc : c < 4) : evS (md', q, ev ++ [(nI a, nI b, nI c)]) :=
  ⟨fun e he => by
    rcases List.mem_append.mp he with z | z
    · exact h.1 e z
    · exact ⟨a, b, c, List.mem_singleton.mp z, ha, hb, hc⟩, h.2⟩
theorem sE_evS (ef : Nat → Nat) : ∀ (l : List Nat) (md md' : List Nat) (q : rq) (ev : List re3) (fl : Nat), (∀ f ∈ l, f < 40) → evS (md, q, ev) → evS (md', (l.foldl (sE ef) (q, ev, fl)).1, (l.foldl (sE ef) (q, ev, fl)).2.1) := by
  intro l
  induction l with
  | nil => intro md md' q ev fl _ h; exact h
  | cons f l ih =>
    intro md md' q ev fl hl h
    refine ih md md' _ _ _ (fun g hg => hl g (List.mem_cons_of_mem _ hg)) ⟨fun e he => ?_, fun g => ?_⟩
    · rcases List.mem_append.mp he with z | z
      · exact h.1 e z
      · obtain ⟨v, h1, h2⟩ := h.2 f
        rw [List.mem_singleton.mp z]
        refine ⟨if ef f = 0 then 2 else 3, f, v, ?_, ?_, hl f List.mem_cons_self, h2⟩
        · show ((if ef f = 0 then 2 else 3 : Int32), nI f, q f 8) = _
          rw [show q f 8 = nI v from h1]
          by_cases c : ef f = 0
          · rw [if_pos c, if_pos c]; rfl
          · rw [if_neg c, if_neg c]; rfl
        · by_cases c : ef f = 0
          · rw [if_pos c]; decide
          · rw [if_neg c]; decide
    · show ∃ v, u2 (u2 q f 13 _) f 14 _ g 8 = nI v ∧ v < 4
      rw [u2_k (by decide), u2_k (by decide)]
      exact h.2 g
theorem sF_evS (sc : Nat → Int32) (fi : Int32) (l : List Nat) {md : List Nat} {q : rq} {ev : List re3} (h : evS (md, q, ev)) : evS (md, l.foldl (sF sc fi) q, ev) :=
  ⟨h.1, fun f => by
    show ∃ v, (l.foldl (sF sc fi) q) f 8 = nI v ∧ v < 4
    rw [sF_9 sc fi l q f 8 (by decide)]; exact h.2 f⟩
/-- (1) of a case -/
theorem sPt_kp {w : sW} {nb : Nat → Nat → Bool} (hK : wR w) (hE : nbE (wF w) (wN w) nb) (h12 : wF w ≤ 12) {s : rs} (h : kp w s) (ps : List (Nat × Nat)) (fi : Int32) : kp w (sPt (wN w) (wF w) (wI w 0) fi (wA w 2) ps s).1 := by
  obtain ⟨ho, hc, he⟩ := h
  refine ⟨ho.flt _, out_cl hK hE ho.2 hc, ?_⟩
  refine sE_evS _ _ s.1 _ _ _ _ (fun f hf => ?_) (sF_evS _ _ _ he)
  rw [List.mem_reverse, List.mem_filter] at hf
  have := ho.2 f hf.1
  omega
/-- making -/
theorem sMk_kp {w : sW} (fi : Int32) (h12 : wF w ≤ 12) : ∀ (l : List (Nat × Nat)) (s : rs), (∀ p ∈ l, p.1 < wF w ∧ p.2 < 4) → (∀ A p B, l = A ++ p :: B → ∀ g ∈ wN w p.1, g ∈ s.1 ∨ g ∈ A.map Prod.fst) → kp w s → kp w (sMk (wA w 1) (wI w 0) fi l s).2 := by
  intro l
  induction l with
  | nil => intro s _ _ h; exact h
  | cons p l ih =>
    intro s hl ho h
    obtain ⟨f, v⟩ := p
    have hfl := hl (f, v) List.mem_cons_self
    have hl' : ∀ p ∈ l, p.1 < wF w ∧ p.2 < 4 := fun p hp => hl p (List.mem_cons_of_mem _ hp)
    have hf40 : f < 40 := by have : f < wF w := hfl.1; omega
    have hv4 : v < 4 := hfl.2
    by_cases c1 : f ∈ s.1
    · rw [show sMk (wA w 1) (wI w 0) fi ((f, v) :: l) s = sMk (wA w 1) (wI w 0) fi l s from if_pos c1]
      refine ih s hl' (fun A p B e g hg => ?_) h
      rcases ho ((f, v) :: A) p B (by rw [e]; rfl) g hg with z | z
      · exact Or.inl z
      · rcases List.mem_cons.mp z with y | y
        · exact Or.inl (by rw [show g = f from y]; exact c1)
        · exact Or.inr y
    · have e2 : sMk (wA w 1) (wI w 0) fi ((f, v) :: l) s = if bt (s.2.1 f 10) v = true then (some f, s) else if wA w 1 f = 1 then (some f, sM0 (wI w 0) fi s f v) else sMk (wA w 1) (wI w 0) fi l (sM1 fi s f v) := if_neg c1
      rw [e2]
      by_cases c2 : bt (s.2.1 f 10) v = true
      · rw [if_pos c2]; exact h
      rw [if_neg c2]
      by_cases c3 : wA w 1 f = 1
      · rw [if_pos c3]
        refine ⟨h.1, h.2.1, fun e he => ?_, fun g => ?_⟩
        · exact (h.2.2.snoc (md' := s.1) (a := 1) (by decide) hf40 hv4).1 e he
        · show ∃ v, (if wI w 0 f = 0 then s.2.1 else u2 (u2 s.2.1 f 10 _) f 11 fi) g 8 = nI v ∧ v < 4
          by_cases z : wI w 0 f = 0
          · rw [if_pos z]; exact h.2.2.2 g
          · rw [if_neg z, u2_k (by decide), u2_k (by decide)]; exact h.2.2.2 g
      · rw [if_neg c3]
        refine ih _ hl' (fun A p B e g hg => ?_) ⟨⟨?_, fun g hg => ?_⟩, fun g hg g' hg' => ?_, fun e he => ?_, fun g => ?_⟩
        · rcases ho ((f, v) :: A) p B (by rw [e]; rfl) g hg with z | z
          · exact Or.inl (List.mem_append_left _ z)
          · rcases List.mem_cons.mp z with y | y
            · exact Or.inl (List.mem_append_right _ (List.mem_singleton.mpr y))
            · exact Or.inr y
        · show (s.1 ++ [f]).Nodup
          rw [List.nodup_append]
          exact ⟨h.1.1, by simp, fun p hp r hr => by rw [List.mem_singleton.mp hr]; exact fun z => c1 (z ▸ hp)⟩
        · rcases List.mem_append.mp hg with z | z
          · exact h.1.2 g z
          · rw [List.mem_singleton.mp z]; exact hfl.1
        · rcases List.mem_append.mp hg with z | z
          · exact List.mem_append_left _ (h.2.1 g z g' hg')
          · rw [List.mem_singleton.mp z] at hg'
            rcases ho [] (f, v) l rfl g' hg' with y | y
            · exact List.mem_append_left _ y
            · cases y
        · exact (h.2.2.snoc (md' := s.1) (a := 0) (by decide) hf40 hv4).1 e he
        · show ∃ u, u2 (u2 (u2 s.2.1 f 8 (nI v)) f 9 fi) f 12 _ g 8 = nI u ∧ u < 4
          rw [u2_k (by decide), u2_k (by decide)]
          by_cases z : g = f
          · subst z; rw [u2_eq]; exact ⟨v, rfl, hv4⟩
          · rw [u2_a z]; exact h.2.2.2 g
/-- a try -/
theorem sTry_kp {w : sW} (hs : scN w) (h12 : wF w ≤ 12) {fi st li fa : Int32} {ps : List (Nat × Nat)} (hps : ∀ p ∈ ps, p.1 < wF w ∧ p.2 < 4) (hord : ord (wN w) (ps.map Prod.fst)) {p tries : Nat} (hp : p < 40) (ht : tries < 4) {s : rs} {fl : Nat} (h : kp w s) : kp w (sTry (wA w 1) (wI w 0) fi st li fa (wA w 2) ps p tries s fl).2.2.1 := by
  have h1 := sMk_kp fi h12 ps s hps (fun A q B e g hg => by
    refine Or.inr (hord (A.map Prod.fst) q.1 (B.map Prod.fst) ?_ g hg)
    rw [e, List.map_append, List.map_cons]) h
  have key : ∀ s1 : rs, kp w s1 → kp w (s1.1.filter (fun g => !cs0 (wI w 0) g), (((s1.1.filter (cs0 (wI w 0))).reverse).foldl (sE (wA w 2)) (s1.2.1, s1.2.2, fl)).1, (((s1.1.filter (cs0 (wI w 0))).reverse).foldl (sE (wA w 2)) (s1.2.1, s1.2.2, fl)).2.1) := fun s1 h1 => by
    refine ⟨h1.1.flt _, fun f hf g hg => ?_, sE_evS _ _ s1.1 _ _ _ _ (fun f hf => ?_) h1.2.2⟩
    · rw [List.mem_filter] at hf ⊢
      refine ⟨h1.2.1 f hf.1 g hg, ?_⟩
      by_cases c : cs0 (wI w 0) g = true
      · have h2 : cs0 (wI w 0) f = true := decide_eq_true (hs f (h1.1.2 f hf.1) g hg (of_decide_eq_true c))
        rw [h2] at hf
        exact absurd hf.2 (by decide)
      · simpa using c
    · rw [List.mem_reverse, List.mem_filter] at hf
      have := h1.1.2 f hf.1
      omega
  unfold sTry
  rcases hk : sMk (wA w 1) (wI w 0) fi ps s with ⟨o, s1⟩
  rw [hk] at h1
  cases o with
  | some f => exact key s1 h1
  | none => exact key (s1.1, s1.2.1, s1.2.2 ++ [(4, nI p, nI tries)]) ⟨h1.1, h1.2.1, h1.2.2.snoc (a := 4) (by decide) hp ht⟩
theorem sLp_kp {re : Int32} {T : Nat → rs → Nat → Option Nat × Int32 × rs × Nat} {P : rs → Prop} (hre : re ≤ 2) (hT : ∀ i s fl, i < 4 → P s → P (T i s fl).2.2.1) : ∀ (k tries : Nat) (out : Int32) (lf : Nat) (lk : Option Nat) (s : rs) (fl : Nat), tries ≤ 3 → P s → P (sLp re T k tries out lf lk s fl).2.2.2.2.1 := by
  intro k
  induction k with
  | zero => intro tries out lf lk s fl _ h; exact h
  | succ k ih =>
    intro tries out lf lk s fl ht h
    unfold sLp
    by_cases c : tries = 0 ∨ ((out = 2 ∨ out = 3) ∧ nI tries ≤ re)
    · rw [if_pos c]
      have h2 : tries ≤ 2 := by
        rcases c with z | z
        · omega
        · exact (nI_leI (b := 2) (by omega) (by decide)).mp (Int32.le_trans z.2 hre)
      exact ih _ _ _ _ _ _ (by omega) (hT tries s fl (by omega) h)
    · rw [if_neg c]; exact h
/-- a case -/
theorem wCs_kp {w : sW} {nb : Nat → Nat → Bool} (hK : wR w) (hE : nbE (wF w) (wN w) nb) (hs : scN w) (h12 : wF w ≤ 12) (hv : ∀ f, f < wF w → 0 < wA w 0 f ∧ wA w 0 f < 4) {t m p : Nat} (hp : p < 40) (hre : wI w 5 t ≤ 2) (hu : ∀ f ∈ wU w t, f < wF w) {s : rs} (h : kp w s) : kp w (wCs w p t m s).2.2.2.2.1 := by
  obtain ⟨c1, c2, c3⟩ := clo_ok hK hu
  refine sLp_kp hre (fun i s fl hi hP => sTry_kp hs h12 (fun q hq => ?_) ?_ hp hi hP) 4 0 2 0 none _ _ (by decide) (sPt_kp hK hE h12 h _ _)
  · exact ⟨(wPs_ok hK hu).1 q hq, pvl_lt (fun f hf => hv f (c2 f hf)) q hq⟩
  · rw [show (wPs w t m).map Prod.fst = clo (wN w) (wU w t) from pvl_fst _ _ _]
    exact clo_ord hK hu
