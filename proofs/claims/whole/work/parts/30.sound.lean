/-! THE SMALL MACHINE AND THE MACHINE: what the small one answers, the machine answers. -/
def mj_ad (b base : Nat) : Nat → Nat
  | 0 => b
  | k + 1 => base + k
def mj_cv (ad : Nat → Nat) (v : mj_V) : Value := match v with
  | .inl x => .int x
  | .inr r => va_rf (r.map ad)
theorem mj_cv_cat (ad : Nat → Nat) (v : mj_V) : (mj_cv ad v).category = 1 := by
  cases v with
  | inl x => rfl
  | inr r => cases r <;> rfl
theorem mj_cat_sum (ad : Nat → Nat) (S : List mj_V) : ((S.map (mj_cv ad)).map fun v => v.category).sum = S.length := by
  induction S with
  | nil => rfl
  | cons v S ih => simp only [List.map_cons, List.sum_cons, ih, mj_cv_cat, List.length_cons]; omega
theorem mj_ad_inj {b base : Nat} (hb : b < base) : ∀ x y, mj_ad b base x = mj_ad b base y → x = y := by
  intro x y h
  cases x <;> cases y <;> simp only [mj_ad] at h <;> first | rfl | omega
def mj_int (v : Option mj_V) : Int32 := match v with
  | some (.inl x) => x
  | _ => 0
def mj_ref (ad : Nat → Nat) (v : Option mj_V) : Option Nat := match v with
  | some (.inr r) => r.map ad
  | _ => none
def mj_ce (ad : Nat → Nat) (cA : Nat → ClassId) (q : mj_C) : va_E := if q.1 < 100 then .inr (q.1, q.2.map (mj_cv ad)) else if q.1 = 100 then .inl (cA 0, q.2.length, .inl (fun j => mj_int q.2[j]?)) else if q.1 = 200 then .inl (cA 100, q.2.length, .inl (fun j => mj_int q.2[j]?)) else .inl (cA (q.1 - 100), q.2.length, .inr (.inr (.inr (.inr (fun j => mj_ref ad q.2[j]?)))))
def mj_wo (ad : Nat → Nat) (cA : Nat → ClassId) : Nat → List mj_C → va_W
  | _, [] => []
  | n, q :: t => (n, mj_ce ad cA q) :: mj_wo ad cA (n + 1) t
theorem mj_wo_get (ad : Nat → Nat) (cA : Nat → ClassId) : ∀ (t : List mj_C) (n k : Nat), (mj_wo ad cA n t)[k]? = (t[k]?).map (fun q => (n + k, mj_ce ad cA q)) := by
  intro t
  induction t with
  | nil => intro n k; simp [mj_wo]
  | cons q t ih =>
    intro n k
    cases k with
    | zero => simp [mj_wo]
    | succ k =>
      simp only [mj_wo, List.getElem?_cons_succ, ih]
      rw [show n + 1 + k = n + (k + 1) by omega]
theorem mj_wo_set (ad : Nat → Nat) (cA : Nat → ClassId) (q : mj_C) : ∀ (t : List mj_C) (n k : Nat), (mj_wo ad cA n t).set k (n + k, mj_ce ad cA q) = mj_wo ad cA n (t.set k q) := by
  intro t
  induction t with
  | nil => intro n k; simp [mj_wo]
  | cons r t ih =>
    intro n k
    cases k with
    | zero => simp [mj_wo]
    | succ k =>
      simp only [mj_wo, List.set_cons_succ]
      rw [show n + (k + 1) = n + 1 + k by omega, ih]
theorem mj_wo_app (ad : Nat → Nat) (cA : Nat → ClassId) (q : mj_C) : ∀ (t : List mj_C) (n : Nat), mj_wo ad cA n (t ++ [q]) = mj_wo ad cA n t ++ [(n + t.length, mj_ce ad cA q)] := by
  intro t
  induction t with
  | nil => intro n; simp [mj_wo]
  | cons r t ih =>
    intro n
    simp only [mj_wo, List.cons_append, ih, List.length_cons]
    rw [show n + 1 + t.length = n + (t.length + 1) by omega]
def mj_In (D : va_G) (cl : List vw_C) (cA : Nat → ClassId) (b base : Nat) (z : mj_C) (h : mj_H) (H : Heap) : Prop := ∃ t, h = z :: t ∧ H.size = base + t.length ∧ va_P D cl (mj_wo (mj_ad b base) cA base t) H
theorem mj_wo_D (ad : Nat → Nat) (cA : Nat → ClassId) (base : Nat) (t : List mj_C) : va_D (fun q : Nat => base ≤ q) (mj_wo ad cA base t) := by
  have key : ∀ (k : Nat) (q : Nat × va_E), (mj_wo ad cA base t)[k]? = some q → q.1 = base + k := by
    intro k q hk
    rw [mj_wo_get] at hk
    cases ht : t[k]? with
    | none => rw [ht] at hk; cases hk
    | some r => rw [ht] at hk; cases hk; rfl
  refine ⟨fun i j p q hi hj e => ?_, fun k q hk => ?_⟩
  · have h1 := key i p hi
    have h2 := key j q hj
    omega
  · show base ≤ q.1
    rw [key k q hk]
    omega
/-- a cell of the list is a cell of the world -/
theorem mj_at {ad : Nat → Nat} {cA : Nat → ClassId} {base : Nat} {z : mj_C} {t : List mj_C} {k : Nat} {q : mj_C} (h : (z :: t)[k + 1]? = some q) : (mj_wo ad cA base t)[k]? = some (base + k, mj_ce ad cA q) := by
  rw [mj_wo_get]
  rw [List.getElem?_cons_succ] at h
  rw [h]
  rfl
def mj_lo (ad : Nat → Nat) : Nat → mj_L → List (Nat × Value)
  | _, [] => []
  | n, none :: t => mj_lo ad (n + 1) t
  | n, some v :: t => (n, mj_cv ad v) :: mj_lo ad (n + 1) t
theorem mj_lo_mem {ad : Nat → Nat} {q : Nat × Value} : ∀ (L : mj_L) (n : Nat), q ∈ mj_lo ad n L ↔ ∃ (j : Nat) (v : mj_V), L[j]? = some (some v) ∧ q = (n + j, mj_cv ad v) := by
  intro L
  induction L with
  | nil => intro n; simp [mj_lo]
  | cons x t ih =>
    intro n
    cases x with
    | none =>
      rw [mj_lo, ih]
      constructor
      · rintro ⟨j, v, h1, h2⟩
        exact ⟨j + 1, v, by rw [List.getElem?_cons_succ]; exact h1, by rw [h2]; congr 1; omega⟩
      · rintro ⟨j, v, h1, h2⟩
        cases j with
        | zero => simp at h1
        | succ j => exact ⟨j, v, by rw [List.getElem?_cons_succ] at h1; exact h1, by rw [h2]; congr 1; omega⟩
    | some w =>
      rw [mj_lo, List.mem_cons, ih]
      constructor
      · rintro (h | ⟨j, v, h1, h2⟩)
        · exact ⟨0, w, rfl, h⟩
        · exact ⟨j + 1, v, by rw [List.getElem?_cons_succ]; exact h1, by rw [h2]; congr 1; omega⟩
      · rintro ⟨j, v, h1, h2⟩
        cases j with
        | zero =>
          simp at h1
          subst h1
          exact Or.inl h2
        | succ j => exact Or.inr ⟨j, v, by rw [List.getElem?_cons_succ] at h1; exact h1, by rw [h2]; congr 1; omega⟩
def mj_LO (ad : Nat → Nat) (ls : Array Slot) (nL : Nat) (L : mj_L) : Prop := lv_has ls nL (mj_lo ad 0 L) ∧ L.length = nL
theorem mj_LO.get {ad : Nat → Nat} {ls : Array Slot} {nL k : Nat} {L : mj_L} {v : mj_V} (h : mj_LO ad ls nL L) (hk : L[k]? = some (some v)) : ls[k]? = some (.val (mj_cv ad v)) :=
  h.1.2.2 (k, mj_cv ad v) ((mj_lo_mem L 0).mpr ⟨k, v, hk, by rw [Nat.zero_add]⟩)
theorem mj_LO.set {ad : Nat → Nat} {ls ls' : Array Slot} {nL k : Nat} {L : mj_L} {v : mj_V} (h : mj_LO ad ls nL L) (h' : lv_has ls' nL ((k, mj_cv ad v) :: (mj_lo ad 0 L).filter (fun q => !(q.1 == k) && !(q.1 + 1 == k && q.2.category == 2)))) : mj_LO ad ls' nL (L.set k (some v)) := by
  refine ⟨⟨h'.1, h'.2.1, fun q hq => h'.2.2 q ?_⟩, by rw [List.length_set]; exact h.2⟩
  obtain ⟨j, w, h1, h2⟩ := (mj_lo_mem _ 0).mp hq
  rw [List.getElem?_set] at h1
  by_cases hj : k = j
  · subst hj
    rw [if_pos rfl] at h1
    by_cases hl : k < L.length
    · rw [if_pos hl] at h1
      cases h1
      rw [h2, Nat.zero_add]
      exact List.mem_cons_self
    · rw [if_neg hl] at h1; cases h1
  · rw [if_neg hj] at h1
    refine List.mem_cons_of_mem _ (List.mem_filter.mpr ⟨(mj_lo_mem L 0).mpr ⟨j, w, h1, h2⟩, ?_⟩)
    rw [h2, Nat.zero_add]
    have hc := mj_cv_cat ad w
    have hne : ¬ j = k := fun e => hj e.symm
    simp [hne, hc]
theorem mj_args (ad : Nat → Nat) : ∀ (as : List mj_V) (n : Nat), lv_args n (as.map (mj_cv ad)) = mj_lo ad n (as.map some) := by
  intro as
  induction as with
  | nil => intro n; rfl
  | cons v t ih =>
    intro n
    simp only [List.map_cons, lv_args, mj_lo]
    rw [if_neg (by rw [mj_cv_cat]; decide), ih]
theorem mj_sl (ad : Nat → Nat) : ∀ (as : List mj_V), (lg_sl (as.map (mj_cv ad))).length = as.length := by
  intro as
  induction as with
  | nil => rfl
  | cons v t ih =>
    unfold lg_sl at ih ⊢
    simp only [List.map_cons, List.flatMap_cons, List.length_append, List.length_cons]
    rw [ih, if_neg (by rw [mj_cv_cat]; decide)]
    simp
    omega
theorem mj_lo_pad (ad : Nat → Nat) (m : Nat) : ∀ (L : mj_L) (n : Nat), mj_lo ad n (L ++ List.replicate m none) = mj_lo ad n L := by
  have h0 : ∀ (m n : Nat), mj_lo ad n (List.replicate m none) = [] := by
    intro m
    induction m with
    | zero => intro n; rfl
    | succ m ih => intro n; rw [List.replicate_succ, mj_lo]; exact ih (n + 1)
  intro L
  induction L with
  | nil => intro n; exact h0 m n
  | cons x t ih =>
    intro n
    cases x with
    | none => rw [List.cons_append, mj_lo, mj_lo]; exact ih (n + 1)
    | some v => rw [List.cons_append, mj_lo, mj_lo, ih (n + 1)]
/-- the locals with which a method begins -/
theorem mj_LO.entry (ad : Nat → Nat) (as : List mj_V) {n : Nat} (h : as.length ≤ n) : mj_LO ad ((lg_sl (as.map (mj_cv ad)) ++ List.replicate (n - (lg_sl (as.map (mj_cv ad))).length) Slot.unset).toArray) n (as.map some ++ List.replicate (n - as.length) none) := by
  refine ⟨?_, by simp; omega⟩
  rw [mj_lo_pad, ← mj_args]
  exact lv_entry (as.map (mj_cv ad)) (by rw [mj_sl]; exact h)
def mj_sz (h : mj_H) : Nat := (h.map (fun q => q.2.length)).sum
def mj_le (h h' : mj_H) : Prop := h.length ≤ h'.length ∧ mj_sz h ≤ mj_sz h'
theorem mj_le.rf (h : mj_H) : mj_le h h := ⟨Nat.le_refl _, Nat.le_refl _⟩
theorem mj_le.tr {a b c : mj_H} (h1 : mj_le a b) (h2 : mj_le b c) : mj_le a c := ⟨Nat.le_trans h1.1 h2.1, Nat.le_trans h1.2 h2.2⟩
theorem mj_sz_app (h : mj_H) (q : mj_C) : mj_sz (h ++ [q]) = mj_sz h + q.2.length := by
  simp [mj_sz]
theorem mj_sz_set : ∀ (h : mj_H) (a : Nat) (q r : mj_C), h[a]? = some q → r.2.length = q.2.length → mj_sz (h.set a r) = mj_sz h := by
  intro h
  induction h with
  | nil => intro a q r h1; simp at h1
  | cons x t ih =>
    intro a q r h1 h2
    cases a with
    | zero =>
      simp at h1
      subst h1
      simp [mj_sz, h2]
    | succ a =>
      rw [List.getElem?_cons_succ] at h1
      have := ih a q r h1 h2
      simp only [mj_sz, List.set_cons_succ, List.map_cons, List.sum_cons] at this ⊢
      omega
/-- a write: where, what was there, what is there now -/
theorem mj_pf_inv {h h' : mj_H} {a c k : Nat} {v : mj_V} (hp : mj_pf h a c k v = some h') : ∃ vs, h[a]? = some (c, vs) ∧ k < vs.length ∧ a ≠ 0 ∧ h' = h.set a (c, vs.set k v) := by
  unfold mj_pf at hp
  split at hp
  · next q hq =>
    split at hp
    · next hc =>
      cases hp
      obtain ⟨t, vs⟩ := q
      obtain ⟨rfl, h2, h3⟩ := hc
      exact ⟨vs, hq, h2, h3, rfl⟩
    · cases hp
  · cases hp
theorem mj_gf_inv {h : mj_H} {a c k : Nat} {v : mj_V} (hp : mj_gf h a c k = some v) : ∃ vs, h[a]? = some (c, vs) ∧ vs[k]? = some v := by
  unfold mj_gf at hp
  split at hp
  · next q hq =>
    split at hp
    · next hc =>
      obtain ⟨t, vs⟩ := q
      obtain rfl := hc
      exact ⟨vs, hq, hp⟩
    · cases hp
  · cases hp
theorem mj_pf_le {h h' : mj_H} {a c k : Nat} {v : mj_V} (hp : mj_pf h a c k v = some h') : h'.length = h.length ∧ mj_sz h' = mj_sz h := by
  obtain ⟨vs, h1, h2, h3, rfl⟩ := mj_pf_inv hp
  exact ⟨List.length_set, mj_sz_set h a (c, vs) _ h1 (by simp)⟩
section INV
variable {pc t n k : Nat} {L : mj_L} {S : List mj_V} {h : mj_H} {x : mj_N}
theorem mj_b2_inv {f : Int32 → Int32 → Int32} (e : mj_b2 f pc L S h = some x) : ∃ u v S0, S = .inl v :: .inl u :: S0 ∧ x = (pc + 1, L, .inl (f u v) :: S0, h) := by
  rcases S with _ | ⟨v | v, _ | ⟨u | u, S0⟩⟩ <;> first | (cases e; done) | exact ⟨_, _, _, rfl, (Option.some.inj e).symm⟩
theorem mj_d2_inv {f : Int32 → Int32 → Int32} (e : mj_d2 f pc L S h = some x) : ∃ u v S0, S = .inl v :: .inl u :: S0 ∧ ¬ v = 0 ∧ x = (pc + 1, L, .inl (f u v) :: S0, h) := by
  rcases S with _ | ⟨v | v, _ | ⟨u | u, S0⟩⟩ <;> first | (cases e; done) | skip
  by_cases hv : v = 0
  · simp [mj_d2, hv] at e
  · simp only [mj_d2, if_neg hv] at e
    exact ⟨_, _, _, rfl, hv, (Option.some.inj e).symm⟩
theorem mj_b3_inv {f : Int32 → Int32 → Int32} (e : mj_b3 f pc L S h = some x) : ∃ u v S0, S = .inl v :: .inl u :: S0 ∧ S0.length ≤ 8 ∧ x = (pc + 3, L, .inl (f u v) :: S0, h) := by
  rcases S with _ | ⟨v | v, _ | ⟨u | u, S0⟩⟩ <;> first | (cases e; done) | skip
  by_cases h8 : S0.length ≤ 8
  · simp only [mj_b3, if_pos h8] at e
    exact ⟨_, _, _, rfl, h8, (Option.some.inj e).symm⟩
  · simp [mj_b3, h8] at e
theorem mj_li_inv (e : mj_li k n pc L S h = some x) : ∃ v, L[k]? = some (some (.inl v)) ∧ x = (pc + n, L, .inl v :: S, h) := by
  unfold mj_li at e
  cases hl : L[k]? with
  | none => rw [hl] at e; cases e
  | some w =>
    rw [hl] at e
    rcases w with _ | ⟨v | v⟩ <;> first | (cases e; done) | exact ⟨_, rfl, (Option.some.inj e).symm⟩
theorem mj_la_inv (e : mj_la k n pc L S h = some x) : ∃ v, L[k]? = some (some (.inr v)) ∧ x = (pc + n, L, .inr v :: S, h) := by
  unfold mj_la at e
  cases hl : L[k]? with
  | none => rw [hl] at e; cases e
  | some w =>
    rw [hl] at e
    rcases w with _ | ⟨v | v⟩ <;> first | (cases e; done) | exact ⟨_, rfl, (Option.some.inj e).symm⟩
theorem mj_si_inv (e : mj_si k n pc L S h = some x) : ∃ v S0, S = .inl v :: S0 ∧ k < L.length ∧ x = (pc + n, L.set k (some (.inl v)), S0, h) := by
  rcases S with _ | ⟨v | v, S0⟩ <;> first | (cases e; done) | skip
  by_cases hk : k < L.length
  · simp only [mj_si, if_pos hk] at e
    exact ⟨_, _, rfl, hk, (Option.some.inj e).symm⟩
  · simp [mj_si, hk] at e
theorem mj_sa_inv (e : mj_sa k n pc L S h = some x) : ∃ v S0, S = .inr v :: S0 ∧ k < L.length ∧ x = (pc + n, L.set k (some (.inr v)), S0, h) := by
  rcases S with _ | ⟨v | v, S0⟩ <;> first | (cases e; done) | skip
  by_cases hk : k < L.length
  · simp only [mj_sa, if_pos hk] at e
    exact ⟨_, _, rfl, hk, (Option.some.inj e).symm⟩
  · simp [mj_sa, hk] at e
theorem mj_c1_inv {q : Int32 → Bool} (e : mj_c1 q t pc L S h = some x) : ∃ v S0, S = .inl v :: S0 ∧ ((q v = true ∧ x = (t, L, S0, h)) ∨ (q v = false ∧ x = (pc + 3, L, S0, h))) := by
  rcases S with _ | ⟨v | v, S0⟩ <;> first | (cases e; done) | skip
  by_cases hq : q v = true
  · simp only [mj_c1, if_pos hq] at e
    exact ⟨_, _, rfl, Or.inl ⟨hq, (Option.some.inj e).symm⟩⟩
  · simp only [mj_c1, if_neg hq] at e
    exact ⟨_, _, rfl, Or.inr ⟨by simpa using hq, (Option.some.inj e).symm⟩⟩
theorem mj_c2_inv {q : Int32 → Int32 → Bool} (e : mj_c2 q t pc L S h = some x) : ∃ u v S0, S = .inl v :: .inl u :: S0 ∧ ((q u v = true ∧ x = (t, L, S0, h)) ∨ (q u v = false ∧ x = (pc + 3, L, S0, h))) := by
  rcases S with _ | ⟨v | v, _ | ⟨u | u, S0⟩⟩ <;> first | (cases e; done) | skip
  by_cases hq : q u v = true
  · simp only [mj_c2, if_pos hq] at e
    exact ⟨_, _, _, rfl, Or.inl ⟨hq, (Option.some.inj e).symm⟩⟩
  · simp only [mj_c2, if_neg hq] at e
    exact ⟨_, _, _, rfl, Or.inr ⟨by simpa using hq, (Option.some.inj e).symm⟩⟩
theorem mj_ca_inv {q : Option Nat → Option Nat → Bool} (e : mj_ca q t pc L S h = some x) : ∃ u v S0, S = .inr v :: .inr u :: S0 ∧ ((q u v = true ∧ x = (t, L, S0, h)) ∨ (q u v = false ∧ x = (pc + 3, L, S0, h))) := by
  rcases S with _ | ⟨v | v, _ | ⟨u | u, S0⟩⟩ <;> first | (cases e; done) | skip
  by_cases hq : q u v = true
  · simp only [mj_ca, if_pos hq] at e
    exact ⟨_, _, _, rfl, Or.inl ⟨hq, (Option.some.inj e).symm⟩⟩
  · simp only [mj_ca, if_neg hq] at e
    exact ⟨_, _, _, rfl, Or.inr ⟨by simpa using hq, (Option.some.inj e).symm⟩⟩
theorem mj_cn_inv {q : Bool} (e : mj_cn q t pc L S h = some x) : ∃ v S0, S = .inr v :: S0 ∧ ((v.isNone = q ∧ x = (t, L, S0, h)) ∨ (¬ v.isNone = q ∧ x = (pc + 3, L, S0, h))) := by
  rcases S with _ | ⟨v | v, S0⟩ <;> first | (cases e; done) | skip
  by_cases hq : v.isNone = q
  · simp only [mj_cn, if_pos hq] at e
    exact ⟨_, _, rfl, Or.inl ⟨hq, (Option.some.inj e).symm⟩⟩
  · simp only [mj_cn, if_neg hq] at e
    exact ⟨_, _, rfl, Or.inr ⟨hq, (Option.some.inj e).symm⟩⟩
theorem mj_get_inv {c : Nat} (e : mj_get c k pc L S h = some x) : ∃ a v S0, S = .inr (some a) :: S0 ∧ mj_gf h a c k = some v ∧ x = (pc + 3, L, v :: S0, h) := by
  rcases S with _ | ⟨v | _ | a, S0⟩ <;> first | (cases e; done) | skip
  cases hg : mj_gf h a c k with
  | none => simp [mj_get, hg] at e
  | some v =>
    simp only [mj_get, hg] at e
    exact ⟨_, _, _, rfl, hg, (Option.some.inj e).symm⟩
theorem mj_put_inv {z : Nat → Nat → Nat} {c : Nat} (e : mj_put z c k pc L S h = some x) : ∃ a v S0 h', S = v :: .inr (some a) :: S0 ∧ mj_zk (z c k) v = true ∧ mj_pf h a c k v = some h' ∧ x = (pc + 3, L, S0, h') := by
  rcases S with _ | ⟨v, _ | ⟨u | _ | a, S0⟩⟩ <;> first | (cases e; done) | skip
  by_cases hz : mj_zk (z c k) v = true
  · cases hg : mj_pf h a c k v with
    | none => simp [mj_put, hg] at e
    | some h' =>
      simp only [mj_put, hg, if_pos hz] at e
      exact ⟨_, _, _, _, rfl, hz, hg, (Option.some.inj e).symm⟩
  · simp [mj_put, hz] at e
theorem mj_ald_inv (e : mj_ald pc L S h = some x) : ∃ i a v S0, S = .inl i :: .inr (some a) :: S0 ∧ ¬ i < 0 ∧ mj_gf h a 100 i.toNatClampNeg = some (.inl v) ∧ x = (pc + 1, L, .inl v :: S0, h) := by
  rcases S with _ | ⟨i | i, _ | ⟨u | _ | a, S0⟩⟩ <;> first | (cases e; done) | skip
  by_cases hi : i < 0
  · simp [mj_ald, hi] at e
  · simp only [mj_ald, if_neg hi] at e
    cases hg : mj_gf h a 100 i.toNatClampNeg with
    | none => rw [hg] at e; cases e
    | some w =>
      rw [hg] at e
      rcases w with v | v <;> first | (cases e; done) | exact ⟨_, _, _, _, rfl, hi, hg, (Option.some.inj e).symm⟩
theorem mj_rld_inv {c : Nat} (e : mj_rld c pc L S h = some x) : ∃ i a v S0, S = .inl i :: .inr (some a) :: S0 ∧ ¬ i < 0 ∧ mj_gf h a (101 + c) i.toNatClampNeg = some (.inr v) ∧ x = (pc + 1, L, .inr v :: S0, h) := by
  rcases S with _ | ⟨i | i, _ | ⟨u | _ | a, S0⟩⟩ <;> first | (cases e; done) | skip
  by_cases hi : i < 0
  · simp [mj_rld, hi] at e
  · simp only [mj_rld, if_neg hi] at e
    cases hg : mj_gf h a (101 + c) i.toNatClampNeg with
    | none => rw [hg] at e; cases e
    | some w =>
      rw [hg] at e
      rcases w with v | v <;> first | (cases e; done) | exact ⟨_, _, _, _, rfl, hi, hg, (Option.some.inj e).symm⟩
theorem mj_bld_inv (e : mj_bld pc L S h = some x) : ∃ i a v S0, S = .inl i :: .inr (some a) :: S0 ∧ ¬ i < 0 ∧ mj_gf h a 200 i.toNatClampNeg = some (.inl v) ∧ x = (pc + 1, L, .inl v :: S0, h) := by
  rcases S with _ | ⟨i | i, _ | ⟨u | _ | a, S0⟩⟩ <;> first | (cases e; done) | skip
  by_cases hi : i < 0
  · simp [mj_bld, hi] at e
  · simp only [mj_bld, if_neg hi] at e
    cases hg : mj_gf h a 200 i.toNatClampNeg with
    | none => rw [hg] at e; cases e
    | some w =>
      rw [hg] at e
      rcases w with v | v <;> first | (cases e; done) | exact ⟨_, _, _, _, rfl, hi, hg, (Option.some.inj e).symm⟩
theorem mj_bst_inv (e : mj_bst pc L S h = some x) : ∃ v i a S0 h', S = .inl v :: .inl i :: .inr (some a) :: S0 ∧ ¬ i < 0 ∧ (v = 0 ∨ v = 1) ∧ mj_pf h a 200 i.toNatClampNeg (.inl v) = some h' ∧ x = (pc + 1, L, S0, h') := by
  rcases S with _ | ⟨v | v, _ | ⟨i | i, _ | ⟨u | _ | a, S0⟩⟩⟩ <;> first | (cases e; done) | skip
  by_cases hi : i < 0 ∨ ¬ (v = 0 ∨ v = 1)
  · simp only [mj_bst, if_pos hi] at e; cases e
  · simp only [mj_bst, if_neg hi] at e
    have h1 : ¬ i < 0 := fun q => hi (Or.inl q)
    have h2 : v = 0 ∨ v = 1 := Classical.byContradiction fun q => hi (Or.inr q)
    cases hg : mj_pf h a 200 i.toNatClampNeg (.inl v) with
    | none => rw [hg] at e; cases e
    | some h' => rw [hg] at e; exact ⟨_, _, _, _, _, rfl, h1, h2, hg, (Option.some.inj e).symm⟩
theorem mj_ast_inv (e : mj_ast pc L S h = some x) : ∃ v i a S0 h', S = .inl v :: .inl i :: .inr (some a) :: S0 ∧ ¬ i < 0 ∧ mj_pf h a 100 i.toNatClampNeg (.inl v) = some h' ∧ x = (pc + 1, L, S0, h') := by
  rcases S with _ | ⟨v | v, _ | ⟨i | i, _ | ⟨u | _ | a, S0⟩⟩⟩ <;> first | (cases e; done) | skip
  by_cases hi : i < 0
  · simp [mj_ast, hi] at e
  · simp only [mj_ast, if_neg hi] at e
    cases hg : mj_pf h a 100 i.toNatClampNeg (.inl v) with
    | none => rw [hg] at e; cases e
    | some h' => rw [hg] at e; exact ⟨_, _, _, _, _, rfl, hi, hg, (Option.some.inj e).symm⟩
theorem mj_rst_inv {c : Nat} (e : mj_rst c pc L S h = some x) : ∃ v i a S0 h', S = .inr v :: .inl i :: .inr (some a) :: S0 ∧ ¬ i < 0 ∧ (∀ q, v = some q → mj_tg h q c = true) ∧ mj_pf h a (101 + c) i.toNatClampNeg (.inr v) = some h' ∧ x = (pc + 1, L, S0, h') := by
  rcases S with _ | ⟨v | v, _ | ⟨i | i, _ | ⟨u | _ | a, S0⟩⟩⟩ <;> first | (cases e; done) | skip
  by_cases hi : i < 0 ∨ (mj_tv h v c = false)
  · simp [mj_rst, hi] at e
  · simp only [mj_rst, if_neg hi] at e
    cases hg : mj_pf h a (101 + c) i.toNatClampNeg (.inr v) with
    | none => rw [hg] at e; cases e
    | some h' =>
      rw [hg] at e
      refine ⟨_, _, _, _, _, rfl, fun q => hi (Or.inl q), fun q hq => ?_, hg, (Option.some.inj e).symm⟩
      subst hq
      cases ht : mj_tg h q c with
      | true => rfl
      | false => exact absurd (Or.inr ht) hi
theorem mj_al_inv (e : mj_al pc L S h = some x) : ∃ a n S0, S = .inr (some a) :: S0 ∧ mj_ln h a = some n ∧ x = (pc + 1, L, .inl (Int32.ofNat n) :: S0, h) := by
  rcases S with _ | ⟨v | _ | a, S0⟩ <;> first | (cases e; done) | skip
  cases hg : mj_ln h a with
  | none => simp [mj_al, hg] at e
  | some v =>
    simp only [mj_al, hg] at e
    exact ⟨_, _, _, rfl, hg, (Option.some.inj e).symm⟩
theorem mj_mk_inv {v : mj_V} (e : mj_mk t n pc v L S h = some x) : ∃ i S0, S = .inl i :: S0 ∧ ¬ i < 0 ∧ i.toNatClampNeg ≤ 100000 ∧ x = (pc + n, L, .inr (some h.length) :: S0, h ++ [(t, List.replicate i.toNatClampNeg v)]) := by
  rcases S with _ | ⟨i | i, S0⟩ <;> first | (cases e; done) | skip
  by_cases hi : i < 0 ∨ 100000 < i.toNatClampNeg
  · simp only [mj_mk, if_pos hi] at e; cases e
  · simp only [mj_mk, if_neg hi] at e
    exact ⟨_, _, rfl, fun q => hi (Or.inl q), Nat.le_of_not_lt fun q => hi (Or.inr q), (Option.some.inj e).symm⟩
theorem mj_sw_inv {o : Int → Int} (e : mj_sw o pc L S h = some x) : ∃ v S0, S = .inl v :: S0 ∧ 0 ≤ (pc : Int) + o v.toInt ∧ x = (((pc : Int) + o v.toInt).toNat, L, S0, h) := by
  rcases S with _ | ⟨i | i, S0⟩ <;> first | (cases e; done) | skip
  by_cases hi : 0 ≤ (pc : Int) + o i.toInt
  · simp only [mj_sw, if_pos hi] at e
    exact ⟨_, _, rfl, hi, (Option.some.inj e).symm⟩
  · simp only [mj_sw, if_neg hi] at e; cases e
theorem mj_inv_inv {call : Nat → List mj_V → mj_H → Option mj_R} {y : Nat} (e : mj_inv call y n pc L S h = some x) : ∃ r h', n ≤ S.length ∧ S.length ≤ n + 8 ∧ call y (S.take n).reverse h = some (r, h') ∧ x = (pc + 3, L, r.toList ++ S.drop n, h') := by
  unfold mj_inv at e
  by_cases hn : n ≤ S.length ∧ S.length ≤ n + 8
  · rw [if_pos hn] at e
    cases hc : call y (S.take n).reverse h with
    | none => rw [hc] at e; cases e
    | some r =>
      rw [hc] at e
      obtain ⟨r, h'⟩ := r
      exact ⟨r, h', hn.1, hn.2, rfl, (Option.some.inj e).symm⟩
  · rw [if_neg hn] at e; cases e
theorem mj_rcv_inv {c : Nat} (e : mj_rcv c n S h = true) : ∃ a vs, S[n]? = some (.inr (some a)) ∧ h[a]? = some (c, vs) := by
  unfold mj_rcv at e
  cases hs : S[n]? with
  | none => rw [hs] at e; cases e
  | some w =>
    rw [hs] at e
    rcases w with v | _ | a <;> first | (cases e; done) | skip
    have e : mj_tg h a c = true := e
    unfold mj_tg at e
    cases ha : h[a]? with
    | none => rw [ha] at e; cases e
    | some q =>
      rw [ha] at e
      obtain ⟨u, vs⟩ := q
      have e : u = c := by simpa using e
      subst e
      exact ⟨a, vs, rfl, ha⟩
end INV
