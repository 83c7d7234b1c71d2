/-! a run: the reference. The suite as it was told: how many fixtures and tests, needs, uses, values and failings (0, 1, 2), scope, file, steps, limit, fails, retries (0 to 5) -/
abbrev sW : Type := (Nat × Nat) × (Nat → List Nat) × (Nat → List Nat) × (Nat → Nat → Nat) × (Nat → Nat → Int32)
abbrev wF (w : sW) : Nat := w.1.1
abbrev wT (w : sW) : Nat := w.1.2
abbrev wN (w : sW) : Nat → List Nat := w.2.1
abbrev wU (w : sW) : Nat → List Nat := w.2.2.1
abbrev wA (w : sW) (k : Nat) : Nat → Nat := w.2.2.2.1 k
abbrev wI (w : sW) (k : Nat) : Nat → Int32 := w.2.2.2.2 k
/-- the suite in the reference -/
def mW (x : Nat → Nat → Int32) (w : sW) : Prop := mF x (wF w) (wN w) ∧ mV x (wF w) (wA w 0) ∧ mT x (wF w) (wT w) (wU w) ∧ (∀ f, f < wF w → x 92 f = wI w 0 f ∧ x 96 f = nI (wA w 1 f) ∧ wA w 1 f ≤ 1 ∧ x 97 f = nI (wA w 2 f) ∧ wA w 2 f ≤ 1) ∧ ∀ t, t < wT w → x 98 t = wI w 1 t ∧ x 101 t = wI w 2 t ∧ x 102 t = wI w 3 t ∧ x 103 t = wI w 4 t ∧ x 104 t = wI w 5 t ∧ wI w 5 t ≤ 2
/-- no rings -/
def wR (w : sW) : Prop := ∃ rk, rkd (wF w) (wN w) rk ∧ ∀ f, f < wF w → rk f ≤ 11
theorem mW.cong {x x' : Nat → Nat → Int32} {w : sW} (h : ∀ a k, ((92 ≤ a ∧ a ≤ 104) ∨ (a = 91 ∧ (k = 1 ∨ k = 2))) → x' a k = x a k) (hW : mW x w) : mW x' w := by
  obtain ⟨⟨f1, f2, f3⟩, hV, ⟨t1, t2, t3⟩, hf, ht⟩ := hW
  refine ⟨⟨?_, f2, fun f q => ?_⟩, fun f q => ?_, ⟨?_, t2, fun t q => ?_⟩, fun f q => ?_, fun t q => ?_⟩
  · rw [h 91 1 (by omega)]; exact f1
  · obtain ⟨a1, a2, a3, a4⟩ := f3 f q
    exact ⟨by rw [h 94 f (by omega)]; exact a1, a2, fun j r hj => by rw [h 95 _ (by omega)]; exact a3 j r hj, a4⟩
  · rw [h 93 f (by omega)]; exact hV f q
  · rw [h 91 2 (by omega)]; exact t1
  · obtain ⟨a1, a2, a3, a4⟩ := t3 t q
    exact ⟨by rw [h 99 t (by omega)]; exact a1, a2, fun j r hj => by rw [h 100 _ (by omega)]; exact a3 j r hj, a4⟩
  · rw [h 92 f (by omega), h 96 f (by omega), h 97 f (by omega)]; exact hf f q
  · rw [h 98 t (by omega), h 101 t (by omega), h 102 t (by omega), h 103 t (by omega), h 104 t (by omega)]; exact ht t q
theorem fr3.mW {x x' : Nat → Nat → Int32} {v : Nat} {w : sW} (h : fr3 x x' v) (hW : mW x w) : mW x' w := hW.cong (fun a k q => h.2 a k (by omega) (by omega) (by omega) (by omega))
theorem mW.cG {x : Nat → Nat → Int32} {w : sW} (hW : mW x w) {t : Nat} (ht : t < wT w) : cG x (wF w) (wI w 0) (wA w 1) t (wI w 1 t) := ⟨fun f hf => ⟨(hW.2.2.2.1 f hf).1, (hW.2.2.2.1 f hf).2.1, (hW.2.2.2.1 f hf).2.2.1⟩, (hW.2.2.2.2 t ht).1⟩
/-- the values that a case gives -/
def wPs (w : sW) (t m : Nat) : List (Nat × Nat) := pvl (wA w 0) m (clo (wN w) (wU w t))
def wCas (w : sW) (t : Nat) : Nat := cas (wN w) (wA w 0) (wU w t)
def wCs (w : sW) (p t m : Nat) (s : rs) : Nat × Int32 × Nat × Option Nat × rs × Nat := sCs (wN w) (wF w) (wA w 1) (wI w 0) (wI w 1 t) (wI w 2 t) (wI w 3 t) (wI w 4 t) (wI w 5 t) (wA w 2) (wPs w t m) p s
def wFst (w : sW) (t m : Nat) (s : rs) : Nat := (sPt (wN w) (wF w) (wI w 0) (wI w 1 t) (wA w 2) (wPs w t m) s).2
def wRow (w : sW) (p t m : Nat) (s : rs) (k : Nat) : Int32 := if k = 0 then nI t else if k = 1 then nI m else if k = 2 then (if sLe (wCs w p t m s) (wFst w t m s) = true then 5 else (wCs w p t m s).2.1) else if k = 3 then lB (wCs w p t m s).2.2.2.1 else if k = 4 then nI (wCs w p t m s).2.2.2.2.2 - (if sLe (wCs w p t m s) (wFst w t m s) = true then 1 else 0) else nI (wCs w p t m s).1
/-- all cases, in order -/
def wRg (t : Nat) : Nat → Nat → List (Nat × Nat)
  | 0, _ => []
  | i + 1, m => (t, m) :: wRg t i (m + 1)
def wAf (w : sW) : Nat → Nat → List (Nat × Nat)
  | 0, _ => []
  | j + 1, k => wRg k (wCas w k) 0 ++ wAf w j (k + 1)
def wAll (w : sW) : List (Nat × Nat) := wAf w (wT w) 0
def wSum (w : sW) : Nat → Nat → Nat
  | 0, _ => 0
  | j + 1, k => wCas w k + wSum w j (k + 1)
def wLk (w : sW) (o : Int32) (s : rs) (c : Nat × Nat) : Nat := if o = 0 then 0 else (wPs w c.1 c.2).foldl (sLk s.1 (wI w 0) (wI w 1 c.1) s.2.1) 0
def bst (g : Nat × Nat → Nat) (b : Option (Nat × Nat)) (c : Nat × Nat) : Option (Nat × Nat) := match b with
  | none => some c
  | some a => if g c < g a then some c else some a
def stp (R : List (Nat × Nat)) (g : Nat × Nat → Nat) (b : Option (Nat × Nat)) (c : Nat × Nat) : Option (Nat × Nat) := if c ∈ R then bst g b c else b
def b3 (b : Option (Nat × Nat)) : Int32 := match b with
  | none => -1
  | some c => nI c.1
def b4 (b : Option (Nat × Nat)) : Int32 := match b with
  | none => -1
  | some c => nI c.2
def b5 (g : Nat × Nat → Nat) (b : Option (Nat × Nat)) : Int32 := match b with
  | none => 0
  | some c => nI (g c)
/-- the cases that are left, one after another -/
def wGo (w : sW) (o : Int32) : Nat → List (Nat × Nat) → rs → List (Nat → Int32) → rs × List (Nat → Int32)
  | 0, _, s, rows => (s, rows)
  | k + 1, R, s, rows => match R.foldl (bst (wLk w o s)) none with
    | none => (s, rows)
    | some c => wGo w o k (R.erase c) (wCs w rows.length c.1 c.2 s).2.2.2.2.1 (rows ++ [wRow w rows.length c.1 c.2 s])
theorem wRg_len (t : Nat) : ∀ i m, (wRg t i m).length = i := by
  intro i
  induction i with
  | zero => intro m; rfl
  | succ i ih => intro m; show (wRg t i (m + 1)).length + 1 = i + 1; rw [ih]
theorem wAf_len (w : sW) : ∀ j k, (wAf w j k).length = wSum w j k := by
  intro j
  induction j with
  | zero => intro k; rfl
  | succ j ih => intro k; show (wRg k (wCas w k) 0 ++ wAf w j (k + 1)).length = _; rw [List.length_append, wRg_len, ih]; rfl
theorem wRg_mem {t : Nat} : ∀ {i m : Nat} {c : Nat × Nat}, c ∈ wRg t i m → c.1 = t ∧ m ≤ c.2 ∧ c.2 < m + i := by
  intro i
  induction i with
  | zero => intro m c h; exact absurd h (by simp [wRg])
  | succ i ih =>
    intro m c h
    rcases List.mem_cons.mp h with rfl | h
    · exact ⟨rfl, Nat.le_refl _, by show m < m + (i + 1); omega⟩
    · have := ih h
      exact ⟨this.1, by omega, by omega⟩
theorem wAf_mem {w : sW} : ∀ {j k : Nat} {c : Nat × Nat}, c ∈ wAf w j k → k ≤ c.1 ∧ c.1 < k + j ∧ c.2 < wCas w c.1 := by
  intro j
  induction j with
  | zero => intro k c h; exact absurd h (by simp [wAf])
  | succ j ih =>
    intro k c h
    rcases List.mem_append.mp h with h | h
    · have := wRg_mem h
      exact ⟨by omega, by omega, by rw [this.1]; omega⟩
    · have := ih h
      exact ⟨by omega, by omega, this.2.2⟩
theorem wRg_nd (t : Nat) : ∀ i m, (wRg t i m).Nodup := by
  intro i
  induction i with
  | zero => intro m; exact List.nodup_nil
  | succ i ih =>
    intro m
    refine List.nodup_cons.mpr ⟨fun h => ?_, ih (m + 1)⟩
    have := wRg_mem h
    have h2 : m + 1 ≤ m := this.2.1
    omega
theorem wAf_nd (w : sW) : ∀ j k, (wAf w j k).Nodup := by
  intro j
  induction j with
  | zero => intro k; exact List.nodup_nil
  | succ j ih =>
    intro k
    refine List.nodup_append.mpr ⟨wRg_nd k _ 0, ih (k + 1), fun a ha b hb e => ?_⟩
    have h1 := wRg_mem ha
    have h2 := wAf_mem hb
    rw [e] at h1
    omega
theorem sub_filter {l R : List (Nat × Nat)} (h : R.Sublist l) : l.Nodup → l.filter (fun c => decide (c ∈ R)) = R := by
  induction h with
  | slnil => intro _; rfl
  | cons a h ih =>
    rename_i R l
    intro hn
    have hn' := List.nodup_cons.mp hn
    have ha : ¬ a ∈ R := fun q => hn'.1 (h.subset q)
    rw [List.filter_cons_of_neg (by simp [ha]), ih hn'.2]
  | cons_cons a h ih =>
    rename_i R l
    intro hn
    have hn' := List.nodup_cons.mp hn
    rw [List.filter_cons_of_pos (by simp)]
    congr 1
    rw [show l.filter (fun c => decide (c ∈ a :: R)) = l.filter (fun c => decide (c ∈ R)) from List.filter_congr (fun c hc => by
      have : c ≠ a := fun e => hn'.1 (e ▸ hc)
      simp [this])]
    exact ih hn'.2
theorem stp_fold (R : List (Nat × Nat)) (g : Nat × Nat → Nat) : ∀ (l : List (Nat × Nat)) (b : Option (Nat × Nat)), l.foldl (stp R g) b = (l.filter (fun c => decide (c ∈ R))).foldl (bst g) b := by
  intro l
  induction l with
  | nil => intro b; rfl
  | cons c l ih =>
    intro b
    rw [List.foldl_cons, ih]
    by_cases h : c ∈ R
    · rw [List.filter_cons_of_pos (by simp [h]), List.foldl_cons]
      congr 1
      exact if_pos h
    · rw [List.filter_cons_of_neg (by simp [h])]
      congr 1
      exact if_neg h
section RU
variable {n : Nat} {sh : Nat → Nat × Nat} {y : Nat → Nat → Option Nat}
theorem mm_31w (d : Nat) (H : moK n sh) (Y : moY y) {x : Nat → Nat → Int32} {w : sW} (hK : wR w) (hW : mW x w) {t : Nat} (ht : t < wT w) : ∃ x', mj_Cl pg (d + 4) 31 [.inr (some 91), .inl (nI t)] (bl n sh x y) = some (some (.inl (nI (wCas w t))), bl n sh x' y) ∧ clS x' (wF w) (clo (wN w) (wU w t)) ∧ fr3 x x' 0 := by
  obtain ⟨rk, h1, h2⟩ := hK
  exact mm_31 d H Y h1 h2 hW.1 hW.2.1 hW.2.2.1 ht
theorem fr3.rf (x : Nat → Nat → Int32) (v : Nat) : fr3 x x v := ⟨fun _ _ => ⟨rfl, rfl⟩, fun _ _ _ _ _ _ => rfl⟩
/-- how many cases in all -/
theorem mm_41s (d : Nat) (H : moK n sh) (Y : moY y) {w : sW} (hK : wR w) {o : Int32} {v4 v5 v6 v7 v8 v9 : Option mj_V} (Q : Option mj_R → Prop) : ∀ (j k a : Nat) (x : Nat → Nat → Int32), k + j = wT w → mW x w →
    (∀ x' w3, fr3 x x' 0 → Q (mj_Rn pg (d + 5) 41 (31, [some (.inr (some 91)), some (.inl o), some (.inl (nI (a + wSum w j k))), w3, v4, v5, v6, v7, v8, v9], [], bl n sh x' y))) →
    Q (mj_Rn pg (d + 5) 41 (9, [some (.inr (some 91)), some (.inl o), some (.inl (nI a)), some (.inl (nI k)), v4, v5, v6, v7, v8, v9], [], bl n sh x y)) := by
  intro j
  induction j with
  | zero =>
    intro k a x hk hW hX
    have ht := hW.2.2.1.1
    have h20 := hW.2.2.1.2.1
    have hle : (nI (wT w) ≤ nI k) = True := eq_true (nI_le (by omega) (by omega))
    rw [s_41_9]
    simp only [s_41_10, s_41_11, s_41_14, s_41_17, s_41_18, s_41_19, s_41_20, s_41_23, s_41_24, s_41_25, s_41_28, mj_lI_s, mj_lI_0, mj_lA_s, mj_lA_0, mj_sL_s, mj_sL_0, mj_s8_0, mj_s8_1, mj_s8_2, mj_s8_3, mj_bc_n, mj_bc_s, mj_bd_s, u2_eq, u2_a, u2_k, ne_eq, Nat.reduceEqDiff, not_false_eq_true, List.nil_append, List.cons_append, eq_self, true_or, or_true, if_true, if_false, false_or, or_false, not_true_eq_false, Bool.false_eq_true, ie_m1_0, ie_m1_1, ie_m1_2, ie_m1_3, ie_m1_4, ie_m1_5, ie_0_m1, ie_0_1, ie_0_2, ie_0_3, ie_0_4, ie_0_5, ie_1_m1, ie_1_0, ie_1_2, ie_1_3, ie_1_4, ie_1_5, ie_2_m1, ie_2_0, ie_2_1, ie_2_3, ie_2_4, ie_2_5, ie_3_m1, ie_3_0, ie_3_1, ie_3_2, ie_3_4, ie_3_5, ie_4_m1, ie_4_0, ie_4_1, ie_4_2, ie_4_3, ie_4_5, ie_5_m1, ie_5_0, ie_5_1, ie_5_2, ie_5_3, ie_5_4, mt_91 H, gv_0 H, gv_1 H, gv_2 H, gv_19 H, gv_20 H, gv_21 H, gv_22 H, gv_23 H, gv_43 H, pv_0 H, pv_1 H, pv_2 H, pv_19 H, pv_20 H, pv_21 H, pv_22 H, pv_23 H, pv_43 H, gr_3 H Y, gr_4 H Y, gr_5 H Y, gr_6 H Y, gr_7 H Y, gr_8 H Y, gr_9 H Y, gr_10 H Y, gr_11 H Y, gr_12 H Y, gr_13 H Y, gr_14 H Y, gr_15 H Y, gr_16 H Y, gr_17 H Y, gr_18 H Y, gr_24 H Y, gr_25 H Y, gr_26 H Y, gr_27 H Y, gr_28 H Y, gr_29 H Y, gr_30 H Y, gr_31 H Y, gr_32 H Y, gr_33 H Y, gr_34 H Y, gr_35 H Y, gr_36 H Y, gr_37 H Y, gr_38 H Y, gr_39 H Y, gr_40 H Y, gr_41 H Y, gr_42 H Y, ra_3 H, ra_4 H, ra_5 H, ra_6 H, ra_7 H, ra_8 H, ra_9 H, ra_10 H, ra_11 H, ra_12 H, ra_13 H, ra_14 H, ra_15 H, ra_16 H, ra_17 H, ra_18 H, ra_24 H, ra_25 H, ra_26 H, ra_27 H, ra_28 H, ra_29 H, ra_30 H, ra_31 H, ra_32 H, ra_33 H, ra_34 H, ra_35 H, ra_36 H, ra_37 H, ra_38 H, ra_39 H, ra_40 H, ra_41 H, ra_42 H, pa_3 H, pa_4 H, pa_5 H, pa_6 H, pa_7 H, pa_8 H, pa_9 H, pa_10 H, pa_11 H, pa_12 H, pa_13 H, pa_14 H, pa_15 H, pa_16 H, pa_17 H, pa_18 H, pa_24 H, pa_25 H, pa_26 H, pa_27 H, pa_28 H, pa_29 H, pa_30 H, pa_31 H, pa_32 H, pa_33 H, pa_34 H, pa_35 H, pa_36 H, pa_37 H, pa_38 H, pa_39 H, pa_40 H, pa_41 H, pa_42 H, ht, hle]
    exact hX x _ (fr3.rf x 0)
  | succ j ih =>
    intro k a x hk hW hX
    have ht := hW.2.2.1.1
    have h20 := hW.2.2.1.2.1
    have hle : (nI (wT w) ≤ nI k) = False := eq_false (nI_ge (by omega) (by omega))
    obtain ⟨x1, q1, q2, q3⟩ := mm_31w (y := y) d H Y hK hW (show k < wT w by omega)
    rw [s_41_9]
    simp only [s_41_10, s_41_11, s_41_14, s_41_17, s_41_18, s_41_19, s_41_20, s_41_23, s_41_24, s_41_25, s_41_28, mj_lI_s, mj_lI_0, mj_lA_s, mj_lA_0, mj_sL_s, mj_sL_0, mj_s8_0, mj_s8_1, mj_s8_2, mj_s8_3, mj_bc_n, mj_bc_s, mj_bd_s, u2_eq, u2_a, u2_k, ne_eq, Nat.reduceEqDiff, not_false_eq_true, List.nil_append, List.cons_append, eq_self, true_or, or_true, if_true, if_false, false_or, or_false, not_true_eq_false, Bool.false_eq_true, ie_m1_0, ie_m1_1, ie_m1_2, ie_m1_3, ie_m1_4, ie_m1_5, ie_0_m1, ie_0_1, ie_0_2, ie_0_3, ie_0_4, ie_0_5, ie_1_m1, ie_1_0, ie_1_2, ie_1_3, ie_1_4, ie_1_5, ie_2_m1, ie_2_0, ie_2_1, ie_2_3, ie_2_4, ie_2_5, ie_3_m1, ie_3_0, ie_3_1, ie_3_2, ie_3_4, ie_3_5, ie_4_m1, ie_4_0, ie_4_1, ie_4_2, ie_4_3, ie_4_5, ie_5_m1, ie_5_0, ie_5_1, ie_5_2, ie_5_3, ie_5_4, mt_91 H, gv_0 H, gv_1 H, gv_2 H, gv_19 H, gv_20 H, gv_21 H, gv_22 H, gv_23 H, gv_43 H, pv_0 H, pv_1 H, pv_2 H, pv_19 H, pv_20 H, pv_21 H, pv_22 H, pv_23 H, pv_43 H, gr_3 H Y, gr_4 H Y, gr_5 H Y, gr_6 H Y, gr_7 H Y, gr_8 H Y, gr_9 H Y, gr_10 H Y, gr_11 H Y, gr_12 H Y, gr_13 H Y, gr_14 H Y, gr_15 H Y, gr_16 H Y, gr_17 H Y, gr_18 H Y, gr_24 H Y, gr_25 H Y, gr_26 H Y, gr_27 H Y, gr_28 H Y, gr_29 H Y, gr_30 H Y, gr_31 H Y, gr_32 H Y, gr_33 H Y, gr_34 H Y, gr_35 H Y, gr_36 H Y, gr_37 H Y, gr_38 H Y, gr_39 H Y, gr_40 H Y, gr_41 H Y, gr_42 H Y, ra_3 H, ra_4 H, ra_5 H, ra_6 H, ra_7 H, ra_8 H, ra_9 H, ra_10 H, ra_11 H, ra_12 H, ra_13 H, ra_14 H, ra_15 H, ra_16 H, ra_17 H, ra_18 H, ra_24 H, ra_25 H, ra_26 H, ra_27 H, ra_28 H, ra_29 H, ra_30 H, ra_31 H, ra_32 H, ra_33 H, ra_34 H, ra_35 H, ra_36 H, ra_37 H, ra_38 H, ra_39 H, ra_40 H, ra_41 H, ra_42 H, pa_3 H, pa_4 H, pa_5 H, pa_6 H, pa_7 H, pa_8 H, pa_9 H, pa_10 H, pa_11 H, pa_12 H, pa_13 H, pa_14 H, pa_15 H, pa_16 H, pa_17 H, pa_18 H, pa_24 H, pa_25 H, pa_26 H, pa_27 H, pa_28 H, pa_29 H, pa_30 H, pa_31 H, pa_32 H, pa_33 H, pa_34 H, pa_35 H, pa_36 H, pa_37 H, pa_38 H, pa_39 H, pa_40 H, pa_41 H, pa_42 H, ht, hle, q1, nI_add, nI_1]
    refine ih (k + 1) (a + wCas w k) x1 (by omega) (q3.mW hW) (fun x' w3 h => ?_)
    have := hX x' w3 (q3.tr h (Nat.le_refl _))
    rw [show a + wSum w (j + 1) k = a + wCas w k + wSum w j (k + 1) from (Nat.add_assoc a (wCas w k) _).symm] at this
    exact this
/-- the fixtures' numbers at the start -/
theorem mm_41z (d : Nat) (H : moK n sh) (Y : moY y) {o a : Int32} {v4 v5 v6 v7 v8 v9 : Option mj_V} (Q : Option mj_R → Prop) : ∀ (j k : Nat) (x : Nat → Nat → Int32), k + j = 12 →
    (∀ x' w3, (∀ f, k ≤ f → f < 12 → x' 108 f = 0 ∧ x' 111 f = 0 ∧ x' 113 f = 0 ∧ x' 114 f = 0 ∧ x' 115 f = 0) → (∀ b i, (b ≠ 108 ∧ b ≠ 111 ∧ b ≠ 113 ∧ b ≠ 114 ∧ b ≠ 115) ∨ i < k → x' b i = x b i) → Q (mj_Rn pg (d + 1) 41 (120, [some (.inr (some 91)), some (.inl o), some (.inl a), w3, v4, v5, v6, v7, v8, v9], [], bl n sh x' y))) →
    Q (mj_Rn pg (d + 1) 41 (73, [some (.inr (some 91)), some (.inl o), some (.inl a), some (.inl (nI k)), v4, v5, v6, v7, v8, v9], [], bl n sh x y)) := by
  intro j
  induction j with
  | zero =>
    intro k x hk hX
    have : k = 12 := by omega
    subst this
    rw [s_41_73]
    simp only [s_41_74, s_41_76, s_41_79, s_41_80, s_41_83, s_41_84, s_41_85, s_41_86, s_41_87, s_41_90, s_41_91, s_41_92, s_41_93, s_41_94, s_41_97, s_41_98, s_41_99, s_41_100, s_41_101, s_41_104, s_41_105, s_41_106, s_41_107, s_41_108, s_41_111, s_41_112, s_41_113, s_41_114, s_41_117, mj_lI_s, mj_lI_0, mj_lA_s, mj_lA_0, mj_sL_s, mj_sL_0, mj_s8_0, mj_s8_1, mj_s8_2, mj_s8_3, mj_bc_n, mj_bc_s, mj_bd_s, u2_eq, u2_a, u2_k, ne_eq, Nat.reduceEqDiff, not_false_eq_true, List.nil_append, List.cons_append, eq_self, true_or, or_true, if_true, if_false, false_or, or_false, not_true_eq_false, Bool.false_eq_true, ie_m1_0, ie_m1_1, ie_m1_2, ie_m1_3, ie_m1_4, ie_m1_5, ie_0_m1, ie_0_1, ie_0_2, ie_0_3, ie_0_4, ie_0_5, ie_1_m1, ie_1_0, ie_1_2, ie_1_3, ie_1_4, ie_1_5, ie_2_m1, ie_2_0, ie_2_1, ie_2_3, ie_2_4, ie_2_5, ie_3_m1, ie_3_0, ie_3_1, ie_3_2, ie_3_4, ie_3_5, ie_4_m1, ie_4_0, ie_4_1, ie_4_2, ie_4_3, ie_4_5, ie_5_m1, ie_5_0, ie_5_1, ie_5_2, ie_5_3, ie_5_4, mt_91 H, gv_0 H, gv_1 H, gv_2 H, gv_19 H, gv_20 H, gv_21 H, gv_22 H, gv_23 H, gv_43 H, pv_0 H, pv_1 H, pv_2 H, pv_19 H, pv_20 H, pv_21 H, pv_22 H, pv_23 H, pv_43 H, gr_3 H Y, gr_4 H Y, gr_5 H Y, gr_6 H Y, gr_7 H Y, gr_8 H Y, gr_9 H Y, gr_10 H Y, gr_11 H Y, gr_12 H Y, gr_13 H Y, gr_14 H Y, gr_15 H Y, gr_16 H Y, gr_17 H Y, gr_18 H Y, gr_24 H Y, gr_25 H Y, gr_26 H Y, gr_27 H Y, gr_28 H Y, gr_29 H Y, gr_30 H Y, gr_31 H Y, gr_32 H Y, gr_33 H Y, gr_34 H Y, gr_35 H Y, gr_36 H Y, gr_37 H Y, gr_38 H Y, gr_39 H Y, gr_40 H Y, gr_41 H Y, gr_42 H Y, ra_3 H, ra_4 H, ra_5 H, ra_6 H, ra_7 H, ra_8 H, ra_9 H, ra_10 H, ra_11 H, ra_12 H, ra_13 H, ra_14 H, ra_15 H, ra_16 H, ra_17 H, ra_18 H, ra_24 H, ra_25 H, ra_26 H, ra_27 H, ra_28 H, ra_29 H, ra_30 H, ra_31 H, ra_32 H, ra_33 H, ra_34 H, ra_35 H, ra_36 H, ra_37 H, ra_38 H, ra_39 H, ra_40 H, ra_41 H, ra_42 H, pa_3 H, pa_4 H, pa_5 H, pa_6 H, pa_7 H, pa_8 H, pa_9 H, pa_10 H, pa_11 H, pa_12 H, pa_13 H, pa_14 H, pa_15 H, pa_16 H, pa_17 H, pa_18 H, pa_24 H, pa_25 H, pa_26 H, pa_27 H, pa_28 H, pa_29 H, pa_30 H, pa_31 H, pa_32 H, pa_33 H, pa_34 H, pa_35 H, pa_36 H, pa_37 H, pa_38 H, pa_39 H, pa_40 H, pa_41 H, pa_42 H, show ((12 : Int32) ≤ nI 12) = True from by decide]
    exact hX x _ (fun f h1 h2 => by omega) (fun _ _ _ => rfl)
  | succ j ih =>
    intro k x hk hX
    have hle : ((12 : Int32) ≤ nI k) = False := eq_false (nI_ge (b := 12) (by omega) (by omega))
    have hk12 : k < 12 := by omega
    rw [s_41_73]
    simp only [s_41_74, s_41_76, s_41_79, s_41_80, s_41_83, s_41_84, s_41_85, s_41_86, s_41_87, s_41_90, s_41_91, s_41_92, s_41_93, s_41_94, s_41_97, s_41_98, s_41_99, s_41_100, s_41_101, s_41_104, s_41_105, s_41_106, s_41_107, s_41_108, s_41_111, s_41_112, s_41_113, s_41_114, s_41_117, mj_lI_s, mj_lI_0, mj_lA_s, mj_lA_0, mj_sL_s, mj_sL_0, mj_s8_0, mj_s8_1, mj_s8_2, mj_s8_3, mj_bc_n, mj_bc_s, mj_bd_s, u2_eq, u2_a, u2_k, ne_eq, Nat.reduceEqDiff, not_false_eq_true, List.nil_append, List.cons_append, eq_self, true_or, or_true, if_true, if_false, false_or, or_false, not_true_eq_false, Bool.false_eq_true, ie_m1_0, ie_m1_1, ie_m1_2, ie_m1_3, ie_m1_4, ie_m1_5, ie_0_m1, ie_0_1, ie_0_2, ie_0_3, ie_0_4, ie_0_5, ie_1_m1, ie_1_0, ie_1_2, ie_1_3, ie_1_4, ie_1_5, ie_2_m1, ie_2_0, ie_2_1, ie_2_3, ie_2_4, ie_2_5, ie_3_m1, ie_3_0, ie_3_1, ie_3_2, ie_3_4, ie_3_5, ie_4_m1, ie_4_0, ie_4_1, ie_4_2, ie_4_3, ie_4_5, ie_5_m1, ie_5_0, ie_5_1, ie_5_2, ie_5_3, ie_5_4, mt_91 H, gv_0 H, gv_1 H, gv_2 H, gv_19 H, gv_20 H, gv_21 H, gv_22 H, gv_23 H, gv_43 H, pv_0 H, pv_1 H, pv_2 H, pv_19 H, pv_20 H, pv_21 H, pv_22 H, pv_23 H, pv_43 H, gr_3 H Y, gr_4 H Y, gr_5 H Y, gr_6 H Y, gr_7 H Y, gr_8 H Y, gr_9 H Y, gr_10 H Y, gr_11 H Y, gr_12 H Y, gr_13 H Y, gr_14 H Y, gr_15 H Y, gr_16 H Y, gr_17 H Y, gr_18 H Y, gr_24 H Y, gr_25 H Y, gr_26 H Y, gr_27 H Y, gr_28 H Y, gr_29 H Y, gr_30 H Y, gr_31 H Y, gr_32 H Y, gr_33 H Y, gr_34 H Y, gr_35 H Y, gr_36 H Y, gr_37 H Y, gr_38 H Y, gr_39 H Y, gr_40 H Y, gr_41 H Y, gr_42 H Y, ra_3 H, ra_4 H, ra_5 H, ra_6 H, ra_7 H, ra_8 H, ra_9 H, ra_10 H, ra_11 H, ra_12 H, ra_13 H, ra_14 H, ra_15 H, ra_16 H, ra_17 H, ra_18 H, ra_24 H, ra_25 H, ra_26 H, ra_27 H, ra_28 H, ra_29 H, ra_30 H, ra_31 H, ra_32 H, ra_33 H, ra_34 H, ra_35 H, ra_36 H, ra_37 H, ra_38 H, ra_39 H, ra_40 H, ra_41 H, ra_42 H, pa_3 H, pa_4 H, pa_5 H, pa_6 H, pa_7 H, pa_8 H, pa_9 H, pa_10 H, pa_11 H, pa_12 H, pa_13 H, pa_14 H, pa_15 H, pa_16 H, pa_17 H, pa_18 H, pa_24 H, pa_25 H, pa_26 H, pa_27 H, pa_28 H, pa_29 H, pa_30 H, pa_31 H, pa_32 H, pa_33 H, pa_34 H, pa_35 H, pa_36 H, pa_37 H, pa_38 H, pa_39 H, pa_40 H, pa_41 H, pa_42 H, hle, hk12, nI_1]
    refine ih (k + 1) _ (by omega) (fun x' w3 h1 h2 => hX x' w3 (fun f q1 q2 => ?_) (fun b i q => ?_))
    · rcases Nat.lt_or_ge k f with q | q
      · exact h1 f q q2
      · have : f = k := by omega
        subst this
        rw [h2 108 f (by omega), h2 111 f (by omega), h2 113 f (by omega), h2 114 f (by omega), h2 115 f (by omega)]
        simp only [mj_lI_s, mj_lI_0, mj_lA_s, mj_lA_0, mj_sL_s, mj_sL_0, mj_s8_0, mj_s8_1, mj_s8_2, mj_s8_3, mj_bc_n, mj_bc_s, mj_bd_s, u2_eq, u2_a, u2_k, ne_eq, Nat.reduceEqDiff, not_false_eq_true, List.nil_append, List.cons_append, eq_self, true_or, or_true, if_true, if_false, false_or, or_false, not_true_eq_false, Bool.false_eq_true, ie_m1_0, ie_m1_1, ie_m1_2, ie_m1_3, ie_m1_4, ie_m1_5, ie_0_m1, ie_0_1, ie_0_2, ie_0_3, ie_0_4, ie_0_5, ie_1_m1, ie_1_0, ie_1_2, ie_1_3, ie_1_4, ie_1_5, ie_2_m1, ie_2_0, ie_2_1, ie_2_3, ie_2_4, ie_2_5, ie_3_m1, ie_3_0, ie_3_1, ie_3_2, ie_3_4, ie_3_5, ie_4_m1, ie_4_0, ie_4_1, ie_4_2, ie_4_3, ie_4_5, ie_5_m1, ie_5_0, ie_5_1, ie_5_2, ie_5_3, ie_5_4]
        exact ⟨trivial, trivial, trivial, trivial, trivial⟩
    · rw [h2 b i (by omega), u2_ne (by omega), u2_ne (by omega), u2_ne (by omega), u2_ne (by omega), u2_ne (by omega)]
/-- none is done -/
theorem mm_41d (d : Nat) (H : moK n sh) (Y : moY y) {o a : Int32} {v4 v5 v6 v7 v8 v9 : Option mj_V} (Q : Option mj_R → Prop) : ∀ (j k : Nat) (x : Nat → Nat → Int32), k + j = 160 →
    (∀ x' w3, (∀ f, k ≤ f → f < 160 → x' 125 f = 0) → (∀ b i, b ≠ 125 ∨ i < k → x' b i = x b i) → Q (mj_Rn pg (d + 1) 41 (142, [some (.inr (some 91)), some (.inl o), some (.inl a), w3, v4, v5, v6, v7, v8, v9], [], bl n sh x' y))) →
    Q (mj_Rn pg (d + 1) 41 (122, [some (.inr (some 91)), some (.inl o), some (.inl a), some (.inl (nI k)), v4, v5, v6, v7, v8, v9], [], bl n sh x y)) := by
  intro j
  induction j with
  | zero =>
    intro k x hk hX
    have : k = 160 := by omega
    subst this
    rw [s_41_122]
    simp only [s_41_123, s_41_126, s_41_129, s_41_130, s_41_133, s_41_134, s_41_135, s_41_136, s_41_139, mj_lI_s, mj_lI_0, mj_lA_s, mj_lA_0, mj_sL_s, mj_sL_0, mj_s8_0, mj_s8_1, mj_s8_2, mj_s8_3, mj_bc_n, mj_bc_s, mj_bd_s, u2_eq, u2_a, u2_k, ne_eq, Nat.reduceEqDiff, not_false_eq_true, List.nil_append, List.cons_append, eq_self, true_or, or_true, if_true, if_false, false_or, or_false, not_true_eq_false, Bool.false_eq_true, ie_m1_0, ie_m1_1, ie_m1_2, ie_m1_3, ie_m1_4, ie_m1_5, ie_0_m1, ie_0_1, ie_0_2, ie_0_3, ie_0_4, ie_0_5, ie_1_m1, ie_1_0, ie_1_2, ie_1_3, ie_1_4, ie_1_5, ie_2_m1, ie_2_0, ie_2_1, ie_2_3, ie_2_4, ie_2_5, ie_3_m1, ie_3_0, ie_3_1, ie_3_2, ie_3_4, ie_3_5, ie_4_m1, ie_4_0, ie_4_1, ie_4_2, ie_4_3, ie_4_5, ie_5_m1, ie_5_0, ie_5_1, ie_5_2, ie_5_3, ie_5_4, mt_91 H, gv_0 H, gv_1 H, gv_2 H, gv_19 H, gv_20 H, gv_21 H, gv_22 H, gv_23 H, gv_43 H, pv_0 H, pv_1 H, pv_2 H, pv_19 H, pv_20 H, pv_21 H, pv_22 H, pv_23 H, pv_43 H, gr_3 H Y, gr_4 H Y, gr_5 H Y, gr_6 H Y, gr_7 H Y, gr_8 H Y, gr_9 H Y, gr_10 H Y, gr_11 H Y, gr_12 H Y, gr_13 H Y, gr_14 H Y, gr_15 H Y, gr_16 H Y, gr_17 H Y, gr_18 H Y, gr_24 H Y, gr_25 H Y, gr_26 H Y, gr_27 H Y, gr_28 H Y, gr_29 H Y, gr_30 H Y, gr_31 H Y, gr_32 H Y, gr_33 H Y, gr_34 H Y, gr_35 H Y, gr_36 H Y, gr_37 H Y, gr_38 H Y, gr_39 H Y, gr_40 H Y, gr_41 H Y, gr_42 H Y, ra_3 H, ra_4 H, ra_5 H, ra_6 H, ra_7 H, ra_8 H, ra_9 H, ra_10 H, ra_11 H, ra_12 H, ra_13 H, ra_14 H, ra_15 H, ra_16 H, ra_17 H, ra_18 H, ra_24 H, ra_25 H, ra_26 H, ra_27 H, ra_28 H, ra_29 H, ra_30 H, ra_31 H, ra_32 H, ra_33 H, ra_34 H, ra_35 H, ra_36 H, ra_37 H, ra_38 H, ra_39 H, ra_40 H, ra_41 H, ra_42 H, pa_3 H, pa_4 H, pa_5 H, pa_6 H, pa_7 H, pa_8 H, pa_9 H, pa_10 H, pa_11 H, pa_12 H, pa_13 H, pa_14 H, pa_15 H, pa_16 H, pa_17 H, pa_18 H, pa_24 H, pa_25 H, pa_26 H, pa_27 H, pa_28 H, pa_29 H, pa_30 H, pa_31 H, pa_32 H, pa_33 H, pa_34 H, pa_35 H, pa_36 H, pa_37 H, pa_38 H, pa_39 H, pa_40 H, pa_41 H, pa_42 H, show ((160 : Int32) ≤ nI 160) = True from by decide]
    exact hX x _ (fun f h1 h2 => by omega) (fun _ _ _ => rfl)
  | succ j ih =>
    intro k x hk hX
    have hle : ((160 : Int32) ≤ nI k) = False := eq_false (nI_ge (b := 160) (by omega) (by omega))
    have hk12 : k < 160 := by omega
    rw [s_41_122]
    simp only [s_41_123, s_41_126, s_41_129, s_41_130, s_41_133, s_41_134, s_41_135, s_41_136, s_41_139, mj_lI_s, mj_lI_0, mj_lA_s, mj_lA_0, mj_sL_s, mj_sL_0, mj_s8_0, mj_s8_1, mj_s8_2, mj_s8_3, mj_bc_n, mj_bc_s, mj_bd_s, u2_eq, u2_a, u2_k, ne_eq, Nat.reduceEqDiff, not_false_eq_true, List.nil_append, List.cons_append, eq_self, true_or, or_true, if_true, if_false, false_or, or_false, not_true_eq_false, Bool.false_eq_true, ie_m1_0, ie_m1_1, ie_m1_2, ie_m1_3, ie_m1_4, ie_m1_5, ie_0_m1, ie_0_1, ie_0_2, ie_0_3, ie_0_4, ie_0_5, ie_1_m1, ie_1_0, ie_1_2, ie_1_3, ie_1_4, ie_1_5, ie_2_m1, ie_2_0, ie_2_1, ie_2_3, ie_2_4, ie_2_5, ie_3_m1, ie_3_0, ie_3_1, ie_3_2, ie_3_4, ie_3_5, ie_4_m1, ie_4_0, ie_4_1, ie_4_2, ie_4_3, ie_4_5, ie_5_m1, ie_5_0, ie_5_1, ie_5_2, ie_5_3, ie_5_4, mt_91 H, gv_0 H, gv_1 H, gv_2 H, gv_19 H, gv_20 H, gv_21 H, gv_22 H, gv_23 H, gv_43 H, pv_0 H, pv_1 H, pv_2 H, pv_19 H, pv_20 H, pv_21 H, pv_22 H, pv_23 H, pv_43 H, gr_3 H Y, gr_4 H Y, gr_5 H Y, gr_6 H Y, gr_7 H Y, gr_8 H Y, gr_9 H Y, gr_10 H Y, gr_11 H Y, gr_12 H Y, gr_13 H Y, gr_14 H Y, gr_15 H Y, gr_16 H Y, gr_17 H Y, gr_18 H Y, gr_24 H Y, gr_25 H Y, gr_26 H Y, gr_27 H Y, gr_28 H Y, gr_29 H Y, gr_30 H Y, gr_31 H Y, gr_32 H Y, gr_33 H Y, gr_34 H Y, gr_35 H Y, gr_36 H Y, gr_37 H Y, gr_38 H Y, gr_39 H Y, gr_40 H Y, gr_41 H Y, gr_42 H Y, ra_3 H, ra_4 H, ra_5 H, ra_6 H, ra_7 H, ra_8 H, ra_9 H, ra_10 H, ra_11 H, ra_12 H, ra_13 H, ra_14 H, ra_15 H, ra_16 H, ra_17 H, ra_18 H, ra_24 H, ra_25 H, ra_26 H, ra_27 H, ra_28 H, ra_29 H, ra_30 H, ra_31 H, ra_32 H, ra_33 H, ra_34 H, ra_35 H, ra_36 H, ra_37 H, ra_38 H, ra_39 H, ra_40 H, ra_41 H, ra_42 H, pa_3 H, pa_4 H, pa_5 H, pa_6 H, pa_7 H, pa_8 H, pa_9 H, pa_10 H, pa_11 H, pa_12 H, pa_13 H, pa_14 H, pa_15 H, pa_16 H, pa_17 H, pa_18 H, pa_24 H, pa_25 H, pa_26 H, pa_27 H, pa_28 H, pa_29 H, pa_30 H, pa_31 H, pa_32 H, pa_33 H, pa_34 H, pa_35 H, pa_36 H, pa_37 H, pa_38 H, pa_39 H, pa_40 H, pa_41 H, pa_42 H, hle, hk12, nI_1]
    refine ih (k + 1) _ (by omega) (fun x' w3 h1 h2 => hX x' w3 (fun f q1 q2 => ?_) (fun b i q => ?_))
    · rcases Nat.lt_or_ge k f with q | q
      · exact h1 f q q2
      · have : f = k := by omega
        subst this
        rw [h2 125 f (by omega), u2_eq]
    · rw [h2 b i (by omega), u2_ne (by omega)]
end RU
