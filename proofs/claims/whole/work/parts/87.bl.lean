/-! THE HEAP BY FUNCTIONS: n cells, their kinds and lengths sh, the ints x and the references y by handle and place -/
/-- is the slot an int -/
def fk (t k : Nat) : Bool := if t = 100 ∨ t = 200 then true else if t < 100 then pg_zk t k != 2 else false
def bl_c (sh : Nat → Nat × Nat) (x : Nat → Nat → Int32) (y : Nat → Nat → Option Nat) (a : Nat) : mj_C := ((sh a).1, (List.range (sh a).2).map (fun k => if fk (sh a).1 k = true then Sum.inl (x a k) else Sum.inr (y a k)))
def bl (n : Nat) (sh : Nat → Nat × Nat) (x : Nat → Nat → Int32) (y : Nat → Nat → Option Nat) : mj_H := (List.range n).map (bl_c sh x y)
/-- a slot that is there -/
def okk (n : Nat) (sh : Nat → Nat × Nat) (a c k : Nat) : Prop := a < n ∧ a ≠ 0 ∧ (sh a).1 = c ∧ k < (sh a).2
def u2 {α : Type} (x : Nat → Nat → α) (a k : Nat) (v : α) : Nat → Nat → α := fun b j => if b = a ∧ j = k then v else x b j
theorem u2_eq {α : Type} (x : Nat → Nat → α) (a k : Nat) (v : α) : u2 x a k v a k = v := if_pos ⟨rfl, rfl⟩
theorem u2_ne {α : Type} {x : Nat → Nat → α} {a k b j : Nat} {v : α} (h : ¬ (b = a ∧ j = k)) : u2 x a k v b j = x b j := if_neg h
theorem u2_a {α : Type} {x : Nat → Nat → α} {a k b j : Nat} {v : α} (h : b ≠ a) : u2 x a k v b j = x b j := if_neg fun q => h q.1
theorem u2_k {α : Type} {x : Nat → Nat → α} {a k b j : Nat} {v : α} (h : j ≠ k) : u2 x a k v b j = x b j := if_neg fun q => h q.2
section BL
variable (n : Nat) (sh : Nat → Nat × Nat) (x : Nat → Nat → Int32) (y : Nat → Nat → Option Nat)
theorem bl_len : (bl n sh x y).length = n := by simp [bl]
theorem bl_at (a : Nat) : (bl n sh x y)[a]? = if a < n then some (bl_c sh x y a) else none := by
  unfold bl
  rw [List.getElem?_map]
  by_cases ha : a < n
  · rw [if_pos ha, List.getElem?_range ha]; rfl
  · rw [if_neg ha, List.getElem?_eq_none (by rw [List.length_range]; omega)]; rfl
theorem bl_ck (a k : Nat) : (bl_c sh x y a).2[k]? = if k < (sh a).2 then some (if fk (sh a).1 k = true then Sum.inl (x a k) else Sum.inr (y a k)) else none := by
  unfold bl_c
  show ((List.range (sh a).2).map _)[k]? = _
  rw [List.getElem?_map]
  by_cases hk : k < (sh a).2
  · rw [if_pos hk, List.getElem?_range hk]; rfl
  · rw [if_neg hk, List.getElem?_eq_none (by rw [List.length_range]; omega)]; rfl
theorem bl_cl (a : Nat) : (bl_c sh x y a).2.length = (sh a).2 := by simp [bl_c]
theorem bl_gf (a c k : Nat) : mj_gf (bl n sh x y) a c k = if a < n ∧ (sh a).1 = c ∧ k < (sh a).2 then some (if fk c k = true then Sum.inl (x a k) else Sum.inr (y a k)) else none := by
  unfold mj_gf
  rw [bl_at]
  by_cases ha : a < n
  · rw [if_pos ha]
    show (if (sh a).1 = c then (bl_c sh x y a).2[k]? else none) = _
    rw [bl_ck]
    by_cases hc : (sh a).1 = c
    · rw [if_pos hc]
      by_cases hk : k < (sh a).2
      · rw [if_pos hk, if_pos (show a < n ∧ (sh a).1 = c ∧ k < (sh a).2 from ⟨ha, hc, hk⟩), hc]
      · rw [if_neg hk, if_neg (show ¬ (a < n ∧ (sh a).1 = c ∧ k < (sh a).2) from fun q => hk q.2.2)]
    · rw [if_neg hc, if_neg (show ¬ (a < n ∧ (sh a).1 = c ∧ k < (sh a).2) from fun q => hc q.2.1)]
  · rw [if_neg ha, if_neg (show ¬ (a < n ∧ (sh a).1 = c ∧ k < (sh a).2) from fun q => ha q.1)]
theorem bl_set {x' : Nat → Nat → Int32} {y' : Nat → Nat → Option Nat} {a : Nat} {q : mj_C} (ha : a < n) (hq : q = bl_c sh x' y' a) (ho : ∀ b, b ≠ a → bl_c sh x' y' b = bl_c sh x y b) : (bl n sh x y).set a q = bl n sh x' y' := by
  apply List.ext_getElem?
  intro b
  rw [List.getElem?_set, bl_at, bl_at, bl_len]
  by_cases hb : a = b
  · subst hb
    rw [if_pos rfl, if_pos ha, if_pos ha, hq]
  · rw [if_neg hb]
    by_cases hbn : b < n
    · rw [if_pos hbn, if_pos hbn, ho b (fun e => hb e.symm)]
    · rw [if_neg hbn, if_neg hbn]
theorem bl_cset {x' : Nat → Nat → Int32} {y' : Nat → Nat → Option Nat} {a k : Nat} {v : mj_V} (hk : k < (sh a).2) (hv : v = if fk (sh a).1 k = true then Sum.inl (x' a k) else Sum.inr (y' a k)) (ho : ∀ j, j ≠ k → x' a j = x a j ∧ y' a j = y a j) : ((sh a).1, (bl_c sh x y a).2.set k v) = bl_c sh x' y' a := by
  refine Prod.ext rfl ?_
  apply List.ext_getElem?
  intro j
  show ((bl_c sh x y a).2.set k v)[j]? = (bl_c sh x' y' a).2[j]?
  rw [List.getElem?_set, bl_ck, bl_ck, bl_cl]
  by_cases hj : k = j
  · subst hj
    rw [if_pos rfl, if_pos hk, if_pos hk, hv]
  · rw [if_neg hj, (ho j (fun e => hj e.symm)).1, (ho j (fun e => hj e.symm)).2]
theorem bl_pf {x' : Nat → Nat → Int32} {y' : Nat → Nat → Option Nat} {a c k : Nat} {v : mj_V} (h : okk n sh a c k) (hv : v = if fk c k = true then Sum.inl (x' a k) else Sum.inr (y' a k)) (ho : ∀ b j, ¬ (b = a ∧ j = k) → x' b j = x b j ∧ y' b j = y b j) : mj_pf (bl n sh x y) a c k v = some (bl n sh x' y') := by
  obtain ⟨h1, h2, rfl, h4⟩ := h
  unfold mj_pf
  rw [bl_at, if_pos h1]
  show (if (sh a).1 = (sh a).1 ∧ k < (bl_c sh x y a).2.length ∧ a ≠ 0 then some ((bl n sh x y).set a ((sh a).1, (bl_c sh x y a).2.set k v)) else none) = _
  rw [if_pos ⟨rfl, by rw [bl_cl]; exact h4, h2⟩]
  congr 1
  refine bl_set n sh x y h1 (bl_cset sh x y h4 hv (fun j hj => ho a j (fun q => hj q.2))) (fun b hb => ?_)
  unfold bl_c
  refine Prod.ext rfl ?_
  apply List.map_congr_left
  intro j _
  rw [(ho b j (fun q => hb q.1)).1, (ho b j (fun q => hb q.1)).2]
theorem bl_pfi {a c k : Nat} (v : Int32) (h : okk n sh a c k) (hf : fk c k = true) : mj_pf (bl n sh x y) a c k (.inl v) = some (bl n sh (u2 x a k v) y) :=
  bl_pf n sh x y h (by rw [if_pos hf, u2_eq]) (fun b j hne => ⟨u2_ne hne, rfl⟩)
theorem bl_pfr {a c k : Nat} (v : Option Nat) (h : okk n sh a c k) (hf : fk c k = false) : mj_pf (bl n sh x y) a c k (.inr v) = some (bl n sh x (u2 y a k v)) :=
  bl_pf n sh x y h (by rw [if_neg (by rw [hf]; decide), u2_eq]) (fun b j hne => ⟨rfl, u2_ne hne⟩)
theorem bl_gfi {a c k : Nat} (h : okk n sh a c k) (hf : fk c k = true) : mj_gf (bl n sh x y) a c k = some (.inl (x a k)) := by
  rw [bl_gf, if_pos ⟨h.1, h.2.2.1, h.2.2.2⟩, if_pos hf]
theorem bl_gfr {a c k : Nat} (h : okk n sh a c k) (hf : fk c k = false) : mj_gf (bl n sh x y) a c k = some (.inr (y a k)) := by
  rw [bl_gf, if_pos ⟨h.1, h.2.2.1, h.2.2.2⟩, if_neg (by rw [hf]; decide)]
theorem bl_tg {a c k : Nat} (h : okk n sh a c k) : mj_tg (bl n sh x y) a c = true := by
  unfold mj_tg
  rw [bl_at, if_pos h.1]
  exact decide_eq_true h.2.2.1
/-- an object's class, whether it has fields or not -/
theorem bl_tg' {a c : Nat} (h1 : a < n) (h2 : (sh a).1 = c) : mj_tg (bl n sh x y) a c = true := by
  unfold mj_tg
  rw [bl_at, if_pos h1]
  exact decide_eq_true h2
theorem bl_ln {a m : Nat} (h1 : a < n) (h2 : sh a = (100, m)) : mj_ln (bl n sh x y) a = some m := by
  unfold mj_ln
  rw [bl_at, if_pos h1]
  show (if (sh a).1 = 100 then some (bl_c sh x y a).2.length else none) = some m
  rw [bl_cl, h2]
  rfl
/-- arrays -/
theorem bl_aI {a t i : Nat} (F : Int32 → Option mj_R) (hi : i < 2 ^ 31) (h : okk n sh a t i) (hf : fk t i = true) : mj_aI (bl n sh x y) a t (nI i) F = F (x a i) := by
  unfold mj_aI
  rw [if_neg (nI_pos hi), nI_clamp hi, bl_gfi n sh x y h hf]
theorem bl_aR {a t i : Nat} (F : Option Nat → Option mj_R) (hi : i < 2 ^ 31) (h : okk n sh a t i) (hf : fk t i = false) : mj_aR (bl n sh x y) a t (nI i) F = F (y a i) := by
  unfold mj_aR
  rw [if_neg (nI_pos hi), nI_clamp hi, bl_gfr n sh x y h hf]
theorem bl_aPi {a t i : Nat} (v : Int32) (F : mj_H → Option mj_R) (hi : i < 2 ^ 31) (h : okk n sh a t i) (hf : fk t i = true) : mj_aP (bl n sh x y) a t (nI i) (.inl v) F = F (bl n sh (u2 x a i v) y) := by
  unfold mj_aP
  rw [if_neg (nI_pos hi), nI_clamp hi, bl_pfi n sh x y v h hf]
  rfl
theorem bl_aPr {a t i : Nat} (v : Option Nat) (F : mj_H → Option mj_R) (hi : i < 2 ^ 31) (h : okk n sh a t i) (hf : fk t i = false) : mj_aP (bl n sh x y) a t (nI i) (.inr v) F = F (bl n sh x (u2 y a i v)) := by
  unfold mj_aP
  rw [if_neg (nI_pos hi), nI_clamp hi, bl_pfr n sh x y v h hf]
  rfl
def uS (sh : Nat → Nat × Nat) (n : Nat) (q : Nat × Nat) : Nat → Nat × Nat := fun a => if a = n then q else sh a
def uz {α : Type} (x : Nat → Nat → α) (n : Nat) (z : α) : Nat → Nat → α := fun a k => if a = n then z else x a k
/-- a new cell, all of it 0 or null -/
theorem bl_push (c m : Nat) (vs : List mj_V) (hv : vs = (List.range m).map (fun k => if fk c k = true then Sum.inl 0 else Sum.inr none)) : bl n sh x y ++ [(c, vs)] = bl (n + 1) (uS sh n (c, m)) (uz x n 0) (uz y n none) := by
  apply List.ext_getElem?
  intro a
  rw [bl_at, List.getElem?_append, bl_len]
  by_cases ha : a < n
  · rw [if_pos ha, if_pos (by omega), bl_at, if_pos ha]
    have hne : ¬ a = n := by omega
    have e1 : uS sh n (c, m) a = sh a := if_neg hne
    unfold bl_c
    rw [e1]
    congr 2
    apply List.map_congr_left
    intro k _
    show _ = if fk (sh a).1 k = true then Sum.inl (uz x n 0 a k) else Sum.inr (uz y n none a k)
    rw [show uz x n 0 a k = x a k from if_neg hne, show uz y n none a k = y a k from if_neg hne]
  · rw [if_neg ha]
    by_cases he : a = n
    · subst he
      rw [if_pos (by omega), Nat.sub_self]
      have e1 : uS sh a (c, m) a = (c, m) := if_pos rfl
      unfold bl_c
      rw [e1, hv]
      show some _ = some _
      congr 2
      apply List.map_congr_left
      intro k _
      rw [show uz x a 0 a k = 0 from if_pos rfl, show uz y a none a k = none from if_pos rfl]
    · rw [if_neg (by omega), List.getElem?_eq_none (by simp; omega)]
end BL
theorem bl_rep (c m : Nat) (v : mj_V) (hv : ∀ k, k < m → (if fk c k = true then (Sum.inl 0 : mj_V) else Sum.inr none) = v) : List.replicate m v = (List.range m).map (fun k => if fk c k = true then (Sum.inl 0 : mj_V) else Sum.inr none) := by
  apply List.ext_getElem?
  intro k
  rw [List.getElem?_replicate, List.getElem?_map]
  by_cases hk : k < m
  · rw [if_pos hk, List.getElem?_range hk]
    exact congrArg some (hv k hk).symm
  · rw [if_neg hk, List.getElem?_eq_none (by rw [List.length_range]; omega)]; rfl
theorem mj_bd_s {α β : Type} (x : α) (f : α → Option β) : (some x).bind f = f x := rfl
