/-! closures -/
/-- with what it needs ahead of it, each once -/
def inc (nd : Nat → List Nat) : Nat → List Nat → Nat → List Nat
  | 0, acc, _ => acc
  | r + 1, acc, f => if f ∈ acc then acc else (nd f).foldl (inc nd r) acc ++ [f]
theorem nd_len : ∀ (m : Nat) (l : List Nat), l.Nodup → (∀ h ∈ l, h < m) → l.length ≤ m := by
  intro m
  induction m with
  | zero =>
    intro l _ h
    cases l with
    | nil => exact Nat.le_refl _
    | cons a l => exact absurd (h a List.mem_cons_self) (Nat.not_lt_zero a)
  | succ m ih =>
    intro l hn h
    have h1 := ih (l.erase m) (hn.erase m) (fun q hq => by
      obtain ⟨h2, h3⟩ := (List.Nodup.mem_erase_iff hn).mp hq
      have := h q h3
      omega)
    have h2 := List.length_erase (a := m) (l := l)
    split at h2 <;> omega
/-- a rank that falls along needs -/
def rkd (nf : Nat) (nd : Nat → List Nat) (rk : Nat → Nat) : Prop := ∀ f, f < nf → (∀ g ∈ nd f, g < nf ∧ rk g < rk f)
theorem inc_mem {nf : Nat} {nd : Nat → List Nat} {rk : Nat → Nat} (hr : rkd nf nd rk) : ∀ (r : Nat) (acc : List Nat) (f : Nat), f < nf → ∀ h, h ∈ inc nd r acc f → h ∈ acc ∨ rk h ≤ rk f := by
  intro r
  induction r with
  | zero => intro acc f hf h hh; exact Or.inl hh
  | succ r ih =>
    intro acc f hf h hh
    rw [inc] at hh
    by_cases e : f ∈ acc
    · rw [if_pos e] at hh; exact Or.inl hh
    · rw [if_neg e] at hh
      have key : ∀ (l : List Nat) (acc : List Nat), (∀ g ∈ l, g < nf ∧ rk g < rk f) → ∀ h, h ∈ l.foldl (inc nd r) acc → h ∈ acc ∨ rk h ≤ rk f := by
        intro l
        induction l with
        | nil => intro acc _ h hh; exact Or.inl hh
        | cons g l ihl =>
          intro acc hl h hh
          obtain ⟨g1, g2⟩ := hl g List.mem_cons_self
          rcases ihl (inc nd r acc g) (fun q hq => hl q (List.mem_cons_of_mem _ hq)) h hh with q | q
          · rcases ih acc g g1 h q with q | q
            · exact Or.inl q
            · exact Or.inr (by omega)
          · exact Or.inr q
      rcases List.mem_append.mp hh with q | q
      · exact key (nd f) acc (hr f hf) h q
      · rw [List.mem_singleton.mp q]; exact Or.inr (Nat.le_refl _)
/-- the reference's closure as it stands -/
def clS (x : Nat → Nat → Int32) (nf : Nat) (acc : List Nat) : Prop := x 91 19 = nI acc.length ∧ nums (x 105) 0 acc ∧ acc.Nodup ∧ ∀ h ∈ acc, h < nf
/-- what 'close' leaves -/
def fr3 (x x' : Nat → Nat → Int32) (w : Nat) : Prop := (∀ i, i < w → x' 106 i = x 106 i ∧ x' 107 i = x 107 i) ∧ ∀ a k, a ≠ 105 → a ≠ 106 → a ≠ 107 → ¬ (a = 91 ∧ k = 19) → x' a k = x a k
theorem fr3.tr {x y z : Nat → Nat → Int32} {w v : Nat} (h1 : fr3 x y w) (h2 : fr3 y z v) (hw : w ≤ v) : fr3 x z w :=
  ⟨fun i hi => ⟨(h2.1 i (by omega)).1.trans (h1.1 i hi).1, (h2.1 i (by omega)).2.trans (h1.1 i hi).2⟩, fun a k q1 q2 q3 q4 => (h2.2 a k q1 q2 q3 q4).trans (h1.2 a k q1 q2 q3 q4)⟩
theorem fr3.mF {x x' : Nat → Nat → Int32} {w nf : Nat} {nd : Nat → List Nat} (h : fr3 x x' w) (hF : mF x nf nd) : mF x' nf nd := by
  obtain ⟨h1, h2, h3⟩ := hF
  refine ⟨(h.2 91 1 (by decide) (by decide) (by decide) (by decide)).trans h1, h2, fun f hf => ?_⟩
  obtain ⟨a1, a2, a3, a4⟩ := h3 f hf
  exact ⟨(h.2 94 f (by decide) (by decide) (by decide) (fun q => absurd q.1 (by decide))).trans a1, a2, fun j q hj => by rw [h.2 95 _ (by decide) (by decide) (by decide) (fun q => absurd q.1 (by decide))]; exact a3 j q hj, a4⟩
theorem clS.w {x : Nat → Nat → Int32} {nf : Nat} {acc : List Nat} (h : clS x nf acc) {a k : Nat} {v : Int32} (ha : a ≠ 105) (hb : ¬ (a = 91 ∧ k = 19)) : clS (u2 x a k v) nf acc := by
  obtain ⟨h1, h2, h3, h4⟩ := h
  exact ⟨by rw [u2_ne (fun q => hb ⟨q.1.symm, q.2.symm⟩)]; exact h1, fun j q hj => by rw [u2_a (fun q => ha q.symm)]; exact h2 j q hj, h3, h4⟩
theorem nums_snoc {g : Nat → Int32} {l : List Nat} {f : Nat} (h : nums g 0 l) (hf : g l.length = nI f) (h9 : f < 1000) : nums g 0 (l ++ [f]) := by
  intro j q hj
  rcases Nat.lt_or_ge j l.length with h1 | h1
  · rw [List.getElem?_append_left h1] at hj
    exact h j q hj
  · rw [List.getElem?_append_right h1] at hj
    have h2 : j - l.length < 1 := (List.getElem?_eq_some_iff.mp hj).1
    have h3 : j = l.length := by omega
    subst h3
    rw [Nat.sub_self] at hj
    cases hj
    rw [Nat.zero_add]
    exact ⟨hf, h9⟩
section CLO
variable {n : Nat} {sh : Nat → Nat × Nat} {y : Nat → Nat → Option Nat}
theorem nI_dec (w : Nat) : nI (w + 1) + (-1) = nI w := by rw [← Int32.sub_eq_add_neg, ← nI_1, Int32.add_sub_cancel]
theorem nI_dec' (w : Nat) : nI (w + 1) - 1 = nI w := by rw [← nI_1, Int32.add_sub_cancel]
theorem nI_sp (w : Nat) (h : w < 1000) : (nI (w + 1) ≤ 0) = False := eq_false (by
  rw [show (0 : Int32) = nI 0 from rfl]
  exact nI_ge (by omega) (by omega))
/-- one turn: the top one is closed already -/
theorem mm_28a (d : Nat) (H : moK n sh) (Y : moY y) {nf w f k : Nat} {x : Nat → Nat → Int32} {acc : List Nat} {a : Int32} {v3 v4 : Option mj_V} (h12 : nf ≤ 12) (hf : f < nf) (hC : clS x nf acc) (hw : x 106 w = nI f) (hwk : x 107 w = nI k) (hw9 : w < 79) (e : f ∈ acc) :
    mj_Rn pg (d + 2) 28 (16, [some (.inr (some 91)), some (.inl a), some (.inl (nI (w + 1))), v3, v4], [], bl n sh x y) = mj_Rn pg (d + 2) 28 (16, [some (.inr (some 91)), some (.inl a), some (.inl (nI w)), some (.inl (nI f)), some (.inl (nI k))], [], bl n sh x y) := by
  have hw80 : w < 80 := by omega
  obtain ⟨c1, c2, c3, c4⟩ := id hC
  have hlen := nd_len nf acc c3 c4
  have hcl := mm_27 (x := x) (y := y) d H Y (f := f) (show f < 1000 by omega) c1 (by omega) c2
  rw [s_28_16]
  simp only [s_28_0, s_28_1, s_28_2, s_28_3, s_28_6, s_28_7, s_28_8, s_28_9, s_28_10, s_28_13, s_28_14, s_28_15, s_28_17, s_28_20, s_28_21, s_28_24, s_28_25, s_28_26, s_28_27, s_28_28, s_28_29, s_28_30, s_28_33, s_28_34, s_28_35, s_28_36, s_28_37, s_28_39, s_28_40, s_28_41, s_28_44, s_28_47, s_28_50, s_28_53, s_28_55, s_28_56, s_28_59, s_28_60, s_28_61, s_28_64, s_28_65, s_28_68, s_28_69, s_28_72, s_28_73, s_28_74, s_28_75, s_28_76, s_28_79, s_28_80, s_28_81, s_28_84, s_28_87, s_28_90, s_28_91, s_28_94, s_28_95, s_28_96, s_28_97, s_28_98, s_28_99, s_28_100, s_28_101, s_28_102, s_28_103, s_28_106, s_28_107, s_28_108, s_28_111, s_28_113, s_28_114, s_28_115, s_28_117, s_28_118, s_28_119, s_28_120, s_28_121, s_28_124, s_28_125, s_28_126, s_28_127, s_28_130, s_28_133, mj_lI_s, mj_lI_0, mj_lA_s, mj_lA_0, mj_sL_s, mj_sL_0, mj_s8_0, mj_s8_1, mj_s8_2, mj_s8_3, mj_bc_n, mj_bc_s, mj_bd_s, u2_eq, u2_a, u2_k, ne_eq, Nat.reduceEqDiff, not_false_eq_true, List.nil_append, List.cons_append, eq_self, true_or, or_true, if_true, if_false, false_or, or_false, not_true_eq_false, Bool.false_eq_true, ie_m1_0, ie_m1_1, ie_m1_2, ie_m1_3, ie_m1_4, ie_m1_5, ie_0_m1, ie_0_1, ie_0_2, ie_0_3, ie_0_4, ie_0_5, ie_1_m1, ie_1_0, ie_1_2, ie_1_3, ie_1_4, ie_1_5, ie_2_m1, ie_2_0, ie_2_1, ie_2_3, ie_2_4, ie_2_5, ie_3_m1, ie_3_0, ie_3_1, ie_3_2, ie_3_4, ie_3_5, ie_4_m1, ie_4_0, ie_4_1, ie_4_2, ie_4_3, ie_4_5, ie_5_m1, ie_5_0, ie_5_1, ie_5_2, ie_5_3, ie_5_4, mt_91 H, gv_0 H, gv_1 H, gv_2 H, gv_19 H, gv_20 H, gv_21 H, gv_22 H, gv_23 H, gv_43 H, pv_0 H, pv_1 H, pv_2 H, pv_19 H, pv_20 H, pv_21 H, pv_22 H, pv_23 H, pv_43 H, gr_3 H Y, gr_4 H Y, gr_5 H Y, gr_6 H Y, gr_7 H Y, gr_8 H Y, gr_9 H Y, gr_10 H Y, gr_11 H Y, gr_12 H Y, gr_13 H Y, gr_14 H Y, gr_15 H Y, gr_16 H Y, gr_17 H Y, gr_18 H Y, gr_24 H Y, gr_25 H Y, gr_26 H Y, gr_27 H Y, gr_28 H Y, gr_29 H Y, gr_30 H Y, gr_31 H Y, gr_32 H Y, gr_33 H Y, gr_34 H Y, gr_35 H Y, gr_36 H Y, gr_37 H Y, gr_38 H Y, gr_39 H Y, gr_40 H Y, gr_41 H Y, gr_42 H Y, ra_3 H, ra_4 H, ra_5 H, ra_6 H, ra_7 H, ra_8 H, ra_9 H, ra_10 H, ra_11 H, ra_12 H, ra_13 H, ra_14 H, ra_15 H, ra_16 H, ra_17 H, ra_18 H, ra_24 H, ra_25 H, ra_26 H, ra_27 H, ra_28 H, ra_29 H, ra_30 H, ra_31 H, ra_32 H, ra_33 H, ra_34 H, ra_35 H, ra_36 H, ra_37 H, ra_38 H, ra_39 H, ra_40 H, ra_41 H, ra_42 H, pa_3 H, pa_4 H, pa_5 H, pa_6 H, pa_7 H, pa_8 H, pa_9 H, pa_10 H, pa_11 H, pa_12 H, pa_13 H, pa_14 H, pa_15 H, pa_16 H, pa_17 H, pa_18 H, pa_24 H, pa_25 H, pa_26 H, pa_27 H, pa_28 H, pa_29 H, pa_30 H, pa_31 H, pa_32 H, pa_33 H, pa_34 H, pa_35 H, pa_36 H, pa_37 H, pa_38 H, pa_39 H, pa_40 H, pa_41 H, pa_42 H, nI_sp w (by omega), nI_dec', hw80, hw, hwk, hcl, e, nI_dec]
/-- one turn: all that it needs is done -/
theorem mm_28b (d : Nat) (H : moK n sh) (Y : moY y) {nf w f : Nat} {nd : Nat → List Nat} {x : Nat → Nat → Int32} {acc : List Nat} {a : Int32} {v3 v4 : Option mj_V} (hF : mF x nf nd) (hf : f < nf) (hC : clS x nf acc) (hw : x 106 w = nI f) (hwk : x 107 w = nI (nd f).length) (hw9 : w < 79) (e : ¬ f ∈ acc) :
    ∃ x', clS x' nf (acc ++ [f]) ∧ fr3 x x' w ∧ mj_Rn pg (d + 2) 28 (16, [some (.inr (some 91)), some (.inl a), some (.inl (nI (w + 1))), v3, v4], [], bl n sh x y) = mj_Rn pg (d + 2) 28 (16, [some (.inr (some 91)), some (.inl a), some (.inl (nI w)), some (.inl (nI f)), some (.inl (nI (nd f).length))], [], bl n sh x' y) := by
  have hw80 : w < 80 := by omega
  obtain ⟨f1, f2, f3⟩ := id hF
  obtain ⟨a1, a2, a3, a4⟩ := f3 f hf
  obtain ⟨c1, c2, c3, c4⟩ := id hC
  have hnd : (acc ++ [f]).Nodup := by
    rw [List.nodup_append]
    exact ⟨c3, by simp, fun p hp q hq => by rw [List.mem_singleton.mp hq]; exact fun z => e (z ▸ hp)⟩
  have hlt : ∀ h ∈ acc ++ [f], h < nf := fun h hh => by
    rcases List.mem_append.mp hh with q | q
    · exact c4 h q
    · rw [List.mem_singleton.mp q]; exact hf
  have hlen := nd_len nf (acc ++ [f]) hnd hlt
  rw [List.length_append] at hlen
  have hl12 : acc.length < 12 := by simp at hlen; omega
  have hf12 : f < 12 := by omega
  have hcl := mm_27 (x := x) (y := y) d H Y (f := f) (show f < 1000 by omega) c1 (by omega) c2
  refine ⟨u2 (u2 x 105 acc.length (nI f)) 91 19 (nI (acc.length + 1)), ?_, ?_, ?_⟩
  · refine ⟨by rw [u2_eq, List.length_append]; rfl, ?_, hnd, hlt⟩
    refine nums_snoc (fun j q hj => ?_) ?_ (by omega)
    · have hj1 : j < acc.length := (List.getElem?_eq_some_iff.mp hj).1
      rw [u2_a (by decide), u2_k (by omega)]
      exact c2 j q hj
    · rw [u2_a (by decide), u2_eq]
  · exact ⟨fun i hi => ⟨by rw [u2_a (by decide), u2_a (by decide)], by rw [u2_a (by decide), u2_a (by decide)]⟩, fun b k q1 q2 q3 q4 => by rw [u2_ne q4, u2_a q1]⟩
  · rw [s_28_16]
    simp only [s_28_0, s_28_1, s_28_2, s_28_3, s_28_6, s_28_7, s_28_8, s_28_9, s_28_10, s_28_13, s_28_14, s_28_15, s_28_17, s_28_20, s_28_21, s_28_24, s_28_25, s_28_26, s_28_27, s_28_28, s_28_29, s_28_30, s_28_33, s_28_34, s_28_35, s_28_36, s_28_37, s_28_39, s_28_40, s_28_41, s_28_44, s_28_47, s_28_50, s_28_53, s_28_55, s_28_56, s_28_59, s_28_60, s_28_61, s_28_64, s_28_65, s_28_68, s_28_69, s_28_72, s_28_73, s_28_74, s_28_75, s_28_76, s_28_79, s_28_80, s_28_81, s_28_84, s_28_87, s_28_90, s_28_91, s_28_94, s_28_95, s_28_96, s_28_97, s_28_98, s_28_99, s_28_100, s_28_101, s_28_102, s_28_103, s_28_106, s_28_107, s_28_108, s_28_111, s_28_113, s_28_114, s_28_115, s_28_117, s_28_118, s_28_119, s_28_120, s_28_121, s_28_124, s_28_125, s_28_126, s_28_127, s_28_130, s_28_133, mj_lI_s, mj_lI_0, mj_lA_s, mj_lA_0, mj_sL_s, mj_sL_0, mj_s8_0, mj_s8_1, mj_s8_2, mj_s8_3, mj_bc_n, mj_bc_s, mj_bd_s, u2_eq, u2_a, u2_k, ne_eq, Nat.reduceEqDiff, not_false_eq_true, List.nil_append, List.cons_append, eq_self, true_or, or_true, if_true, if_false, false_or, or_false, not_true_eq_false, Bool.false_eq_true, ie_m1_0, ie_m1_1, ie_m1_2, ie_m1_3, ie_m1_4, ie_m1_5, ie_0_m1, ie_0_1, ie_0_2, ie_0_3, ie_0_4, ie_0_5, ie_1_m1, ie_1_0, ie_1_2, ie_1_3, ie_1_4, ie_1_5, ie_2_m1, ie_2_0, ie_2_1, ie_2_3, ie_2_4, ie_2_5, ie_3_m1, ie_3_0, ie_3_1, ie_3_2, ie_3_4, ie_3_5, ie_4_m1, ie_4_0, ie_4_1, ie_4_2, ie_4_3, ie_4_5, ie_5_m1, ie_5_0, ie_5_1, ie_5_2, ie_5_3, ie_5_4, mt_91 H, gv_0 H, gv_1 H, gv_2 H, gv_19 H, gv_20 H, gv_21 H, gv_22 H, gv_23 H, gv_43 H, pv_0 H, pv_1 H, pv_2 H, pv_19 H, pv_20 H, pv_21 H, pv_22 H, pv_23 H, pv_43 H, gr_3 H Y, gr_4 H Y, gr_5 H Y, gr_6 H Y, gr_7 H Y, gr_8 H Y, gr_9 H Y, gr_10 H Y, gr_11 H Y, gr_12 H Y, gr_13 H Y, gr_14 H Y, gr_15 H Y, gr_16 H Y, gr_17 H Y, gr_18 H Y, gr_24 H Y, gr_25 H Y, gr_26 H Y, gr_27 H Y, gr_28 H Y, gr_29 H Y, gr_30 H Y, gr_31 H Y, gr_32 H Y, gr_33 H Y, gr_34 H Y, gr_35 H Y, gr_36 H Y, gr_37 H Y, gr_38 H Y, gr_39 H Y, gr_40 H Y, gr_41 H Y, gr_42 H Y, ra_3 H, ra_4 H, ra_5 H, ra_6 H, ra_7 H, ra_8 H, ra_9 H, ra_10 H, ra_11 H, ra_12 H, ra_13 H, ra_14 H, ra_15 H, ra_16 H, ra_17 H, ra_18 H, ra_24 H, ra_25 H, ra_26 H, ra_27 H, ra_28 H, ra_29 H, ra_30 H, ra_31 H, ra_32 H, ra_33 H, ra_34 H, ra_35 H, ra_36 H, ra_37 H, ra_38 H, ra_39 H, ra_40 H, ra_41 H, ra_42 H, pa_3 H, pa_4 H, pa_5 H, pa_6 H, pa_7 H, pa_8 H, pa_9 H, pa_10 H, pa_11 H, pa_12 H, pa_13 H, pa_14 H, pa_15 H, pa_16 H, pa_17 H, pa_18 H, pa_24 H, pa_25 H, pa_26 H, pa_27 H, pa_28 H, pa_29 H, pa_30 H, pa_31 H, pa_32 H, pa_33 H, pa_34 H, pa_35 H, pa_36 H, pa_37 H, pa_38 H, pa_39 H, pa_40 H, pa_41 H, pa_42 H, nI_sp w (by omega), nI_dec', hw80, hw, hwk, hcl, e, hf12, a1, hl12, c1, nI_1, nI_dec]
/-- one turn: the next one that it needs waits now -/
theorem mm_28c (d : Nat) (H : moK n sh) (Y : moY y) {nf w f k g : Nat} {nd : Nat → List Nat} {x : Nat → Nat → Int32} {acc : List Nat} {a : Int32} {v3 v4 : Option mj_V} (hF : mF x nf nd) (hf : f < nf) (hC : clS x nf acc) (hw : x 106 w = nI f) (hwk : x 107 w = nI k) (hw9 : w < 78) (e : ¬ f ∈ acc) (hk : (nd f)[k]? = some g) :
    mj_Rn pg (d + 2) 28 (16, [some (.inr (some 91)), some (.inl a), some (.inl (nI (w + 1))), v3, v4], [], bl n sh x y) = mj_Rn pg (d + 2) 28 (16, [some (.inr (some 91)), some (.inl a), some (.inl (nI (w + 2))), some (.inl (nI f)), some (.inl (nI k))], [], bl n sh (u2 (u2 (u2 x 107 w (nI (k + 1))) 106 (w + 1) (nI g)) 107 (w + 1) 0) y) := by
  have hw80 : w < 80 := by omega
  have hw81 : w + 1 < 80 := by omega
  obtain ⟨f1, f2, f3⟩ := id hF
  obtain ⟨a1, a2, a3, a4⟩ := f3 f hf
  obtain ⟨c1, c2, c3, c4⟩ := id hC
  have hlen := nd_len nf acc c3 c4
  have hf12 : f < 12 := by omega
  have hk1 : k < (nd f).length := (List.getElem?_eq_some_iff.mp hk).1
  have hne : ¬ nI k = nI (nd f).length := by rw [nI_eqp (by omega) (by omega)]; omega
  have hcl := mm_27 (x := x) (y := y) d H Y (f := f) (show f < 1000 by omega) c1 (by omega) c2
  have hg := (a3 k g hk).1
  have hb : 6 * f + k < 72 := by omega
  rw [s_28_16]
  simp only [s_28_0, s_28_1, s_28_2, s_28_3, s_28_6, s_28_7, s_28_8, s_28_9, s_28_10, s_28_13, s_28_14, s_28_15, s_28_17, s_28_20, s_28_21, s_28_24, s_28_25, s_28_26, s_28_27, s_28_28, s_28_29, s_28_30, s_28_33, s_28_34, s_28_35, s_28_36, s_28_37, s_28_39, s_28_40, s_28_41, s_28_44, s_28_47, s_28_50, s_28_53, s_28_55, s_28_56, s_28_59, s_28_60, s_28_61, s_28_64, s_28_65, s_28_68, s_28_69, s_28_72, s_28_73, s_28_74, s_28_75, s_28_76, s_28_79, s_28_80, s_28_81, s_28_84, s_28_87, s_28_90, s_28_91, s_28_94, s_28_95, s_28_96, s_28_97, s_28_98, s_28_99, s_28_100, s_28_101, s_28_102, s_28_103, s_28_106, s_28_107, s_28_108, s_28_111, s_28_113, s_28_114, s_28_115, s_28_117, s_28_118, s_28_119, s_28_120, s_28_121, s_28_124, s_28_125, s_28_126, s_28_127, s_28_130, s_28_133, mj_lI_s, mj_lI_0, mj_lA_s, mj_lA_0, mj_sL_s, mj_sL_0, mj_s8_0, mj_s8_1, mj_s8_2, mj_s8_3, mj_bc_n, mj_bc_s, mj_bd_s, u2_eq, u2_a, u2_k, ne_eq, Nat.reduceEqDiff, not_false_eq_true, List.nil_append, List.cons_append, eq_self, true_or, or_true, if_true, if_false, false_or, or_false, not_true_eq_false, Bool.false_eq_true, ie_m1_0, ie_m1_1, ie_m1_2, ie_m1_3, ie_m1_4, ie_m1_5, ie_0_m1, ie_0_1, ie_0_2, ie_0_3, ie_0_4, ie_0_5, ie_1_m1, ie_1_0, ie_1_2, ie_1_3, ie_1_4, ie_1_5, ie_2_m1, ie_2_0, ie_2_1, ie_2_3, ie_2_4, ie_2_5, ie_3_m1, ie_3_0, ie_3_1, ie_3_2, ie_3_4, ie_3_5, ie_4_m1, ie_4_0, ie_4_1, ie_4_2, ie_4_3, ie_4_5, ie_5_m1, ie_5_0, ie_5_1, ie_5_2, ie_5_3, ie_5_4, mt_91 H, gv_0 H, gv_1 H, gv_2 H, gv_19 H, gv_20 H, gv_21 H, gv_22 H, gv_23 H, gv_43 H, pv_0 H, pv_1 H, pv_2 H, pv_19 H, pv_20 H, pv_21 H, pv_22 H, pv_23 H, pv_43 H, gr_3 H Y, gr_4 H Y, gr_5 H Y, gr_6 H Y, gr_7 H Y, gr_8 H Y, gr_9 H Y, gr_10 H Y, gr_11 H Y, gr_12 H Y, gr_13 H Y, gr_14 H Y, gr_15 H Y, gr_16 H Y, gr_17 H Y, gr_18 H Y, gr_24 H Y, gr_25 H Y, gr_26 H Y, gr_27 H Y, gr_28 H Y, gr_29 H Y, gr_30 H Y, gr_31 H Y, gr_32 H Y, gr_33 H Y, gr_34 H Y, gr_35 H Y, gr_36 H Y, gr_37 H Y, gr_38 H Y, gr_39 H Y, gr_40 H Y, gr_41 H Y, gr_42 H Y, ra_3 H, ra_4 H, ra_5 H, ra_6 H, ra_7 H, ra_8 H, ra_9 H, ra_10 H, ra_11 H, ra_12 H, ra_13 H, ra_14 H, ra_15 H, ra_16 H, ra_17 H, ra_18 H, ra_24 H, ra_25 H, ra_26 H, ra_27 H, ra_28 H, ra_29 H, ra_30 H, ra_31 H, ra_32 H, ra_33 H, ra_34 H, ra_35 H, ra_36 H, ra_37 H, ra_38 H, ra_39 H, ra_40 H, ra_41 H, ra_42 H, pa_3 H, pa_4 H, pa_5 H, pa_6 H, pa_7 H, pa_8 H, pa_9 H, pa_10 H, pa_11 H, pa_12 H, pa_13 H, pa_14 H, pa_15 H, pa_16 H, pa_17 H, pa_18 H, pa_24 H, pa_25 H, pa_26 H, pa_27 H, pa_28 H, pa_29 H, pa_30 H, pa_31 H, pa_32 H, pa_33 H, pa_34 H, pa_35 H, pa_36 H, pa_37 H, pa_38 H, pa_39 H, pa_40 H, pa_41 H, pa_42 H, nI_sp w (by omega), nI_dec', hw80, hw81, hw, hwk, hcl, e, hf12, a1, hne, nI_1, nI_mul6, hb, hg]
theorem mm_28L (d : Nat) (H : moK n sh) (Y : moY y) {nf : Nat} {nd : Nat → List Nat} {rk : Nat → Nat} (hrk : rkd nf nd rk) {a : Int32} : ∀ (r f : Nat), f < nf → rk f ≤ r → ∀ (l : List Nat) (k w : Nat) (x : Nat → Nat → Int32) (acc : List Nat) (v3 v4 : Option mj_V) (Q : Option mj_R → Prop), mF x nf nd → clS x nf acc → (nd f).drop k = l → k ≤ (nd f).length → x 106 w = nI f → x 107 w = nI k → w + r < 77 →
    (∀ x' v3 v4, clS x' nf (if f ∈ acc then acc else l.foldl (inc nd r) acc ++ [f]) → fr3 x x' w → Q (mj_Rn pg (d + 2) 28 (16, [some (.inr (some 91)), some (.inl a), some (.inl (nI w)), v3, v4], [], bl n sh x' y))) →
    Q (mj_Rn pg (d + 2) 28 (16, [some (.inr (some 91)), some (.inl a), some (.inl (nI (w + 1))), v3, v4], [], bl n sh x y)) := by
  have hnil : ∀ (r f : Nat), f < nf → ∀ (k w : Nat) (x : Nat → Nat → Int32) (acc : List Nat) (v3 v4 : Option mj_V) (Q : Option mj_R → Prop), mF x nf nd → clS x nf acc → (nd f).drop k = [] → k ≤ (nd f).length → x 106 w = nI f → x 107 w = nI k → w + r < 77 →
    (∀ x' v3 v4, clS x' nf (if f ∈ acc then acc else acc ++ [f]) → fr3 x x' w → Q (mj_Rn pg (d + 2) 28 (16, [some (.inr (some 91)), some (.inl a), some (.inl (nI w)), v3, v4], [], bl n sh x' y))) →
    Q (mj_Rn pg (d + 2) 28 (16, [some (.inr (some 91)), some (.inl a), some (.inl (nI (w + 1))), v3, v4], [], bl n sh x y)) := by
    intro r f hf k w x acc v3 v4 Q hF hC hl hk hw hwk hw9 hX
    by_cases e : f ∈ acc
    · rw [mm_28a d H Y hF.2.1 hf hC hw hwk (by omega) e]
      rw [if_pos e] at hX
      exact hX _ _ _ hC ⟨fun _ _ => ⟨rfl, rfl⟩, fun _ _ _ _ _ _ => rfl⟩
    · have hkl : k = (nd f).length := by
        have := congrArg List.length hl
        rw [List.length_drop] at this
        simp at this
        omega
      subst hkl
      obtain ⟨x', q1, q2, q3⟩ := mm_28b (v3 := v3) (v4 := v4) (a := a) d H Y hF hf hC hw hwk (by omega) e
      rw [q3]
      rw [if_neg e] at hX
      exact hX _ _ _ q1 q2
  intro r
  induction r with
  | zero =>
    intro f hf hrf l k w x acc v3 v4 Q hF hC hl hk hw hwk hw9 hX
    cases l with
    | nil => exact hnil 0 f hf k w x acc v3 v4 Q hF hC hl hk hw hwk hw9 hX
    | cons g l =>
      have hg : g ∈ nd f := List.mem_of_mem_drop (by rw [hl]; exact List.mem_cons_self)
      have := (hrk f hf g hg).2
      omega
  | succ r ihr =>
    intro f hf hrf l
    induction l with
    | nil =>
      intro k w x acc v3 v4 Q hF hC hl hk hw hwk hw9 hX
      exact hnil (r + 1) f hf k w x acc v3 v4 Q hF hC hl hk hw hwk hw9 hX
    | cons g l ihl =>
      intro k w x acc v3 v4 Q hF hC hl hk hw hwk hw9 hX
      by_cases e : f ∈ acc
      · rw [mm_28a d H Y hF.2.1 hf hC hw hwk (by omega) e]
        rw [if_pos e] at hX
        exact hX _ _ _ hC ⟨fun _ _ => ⟨rfl, rfl⟩, fun _ _ _ _ _ _ => rfl⟩
      · have hg : g ∈ nd f := List.mem_of_mem_drop (by rw [hl]; exact List.mem_cons_self)
        obtain ⟨g1, g2⟩ := hrk f hf g hg
        have hkg : (nd f)[k]? = some g := by
          have := congrArg (fun z => z[0]?) hl
          simp only [List.getElem?_drop, Nat.add_zero, List.getElem?_cons_zero] at this
          exact this
        have hkl : k < (nd f).length := (List.getElem?_eq_some_iff.mp hkg).1
        have hl' : (nd f).drop (k + 1) = l := by
          have := congrArg List.tail hl
          rw [List.tail_drop] at this
          exact this
        rw [mm_28c d H Y hF hf hC hw hwk (by omega) e hkg]
        have hfr : fr3 x (u2 (u2 (u2 x 107 w (nI (k + 1))) 106 (w + 1) (nI g)) 107 (w + 1) 0) w :=
          ⟨fun i hi => ⟨by rw [u2_a (by decide), u2_k (by omega), u2_a (by decide)], by rw [u2_k (by omega), u2_a (by decide), u2_k (by omega)]⟩, fun b j q1 q2 q3 q4 => by rw [u2_a q3, u2_a q2, u2_a q3]⟩
        refine ihr g g1 (by omega) (nd g) 0 (w + 1) _ acc _ _ Q (hfr.mF hF) (((hC.w (by decide) (by omega)).w (by decide) (by omega)).w (by decide) (by omega)) rfl (Nat.zero_le _) ?_ ?_ (by omega) (fun x1 u3 u4 hC1 hr1 => ?_)
        · rw [u2_a (by decide), u2_eq]
        · rw [u2_eq]; rfl
        · have hacc : (if g ∈ acc then acc else (nd g).foldl (inc nd r) acc ++ [g]) = inc nd (r + 1) acc g := rfl
          rw [hacc] at hC1
          have e1 : ¬ f ∈ inc nd (r + 1) acc g := fun q => by
            rcases inc_mem hrk (r + 1) acc g g1 f q with q | q
            · exact e q
            · omega
          have hr2 := hfr.tr hr1 (by omega)
          refine ihl (k + 1) w x1 (inc nd (r + 1) acc g) u3 u4 Q (hr2.mF hF) hC1 hl' (by omega) ?_ ?_ hw9 (fun x2 t3 t4 hC2 hr3 => ?_)
          · rw [(hr1.1 w (by omega)).1, u2_a (by decide), u2_k (by omega), u2_a (by decide)]; exact hw
          · rw [(hr1.1 w (by omega)).2, u2_k (by omega), u2_a (by decide), u2_eq]
          · rw [if_neg e1] at hC2
            rw [if_neg e] at hX
            exact hX _ _ _ hC2 (hr2.tr hr3 (Nat.le_refl _))
/-- close -/
theorem mm_28 (d : Nat) (H : moK n sh) (Y : moY y) {nf : Nat} {nd : Nat → List Nat} {rk : Nat → Nat} (hrk : rkd nf nd rk) {x : Nat → Nat → Int32} {acc : List Nat} (hF : mF x nf nd) (hC : clS x nf acc) {r f : Nat} (hf : f < nf) (hr : rk f ≤ r) (hr9 : r ≤ 12) : ∃ x', mj_Cl pg (d + 2) 28 [.inr (some 91), .inl (nI f)] (bl n sh x y) = some (none, bl n sh x' y) ∧ clS x' nf (inc nd (r + 1) acc f) ∧ fr3 x x' 0 := by
  rw [e_28]
  have p17 : ∀ (x : Nat → Nat → Int32) (v : Int32) (F : mj_H → Option mj_R), mj_aP (bl n sh x y) 106 100 0 (.inl v) F = F (bl n sh (u2 x 106 0 v) y) := fun x v F => pa_17 H (i := 0) (by decide) v F
  have p18 : ∀ (x : Nat → Nat → Int32) (v : Int32) (F : mj_H → Option mj_R), mj_aP (bl n sh x y) 107 100 0 (.inl v) F = F (bl n sh (u2 x 107 0 v) y) := fun x v F => pa_18 H (i := 0) (by decide) v F
  simp only [s_28_0, s_28_1, s_28_2, s_28_3, s_28_6, s_28_7, s_28_8, s_28_9, s_28_10, s_28_13, s_28_14, s_28_15, mj_lI_s, mj_lI_0, mj_lA_s, mj_lA_0, mj_sL_s, mj_sL_0, mj_s8_0, mj_s8_1, mj_s8_2, mj_s8_3, mj_bc_n, mj_bc_s, mj_bd_s, u2_eq, u2_a, u2_k, ne_eq, Nat.reduceEqDiff, not_false_eq_true, List.nil_append, List.cons_append, eq_self, true_or, or_true, if_true, if_false, false_or, or_false, not_true_eq_false, Bool.false_eq_true, ie_m1_0, ie_m1_1, ie_m1_2, ie_m1_3, ie_m1_4, ie_m1_5, ie_0_m1, ie_0_1, ie_0_2, ie_0_3, ie_0_4, ie_0_5, ie_1_m1, ie_1_0, ie_1_2, ie_1_3, ie_1_4, ie_1_5, ie_2_m1, ie_2_0, ie_2_1, ie_2_3, ie_2_4, ie_2_5, ie_3_m1, ie_3_0, ie_3_1, ie_3_2, ie_3_4, ie_3_5, ie_4_m1, ie_4_0, ie_4_1, ie_4_2, ie_4_3, ie_4_5, ie_5_m1, ie_5_0, ie_5_1, ie_5_2, ie_5_3, ie_5_4, gr_17 H Y, gr_18 H Y, p17, p18]
  have hfr : fr3 x (u2 (u2 x 106 0 (nI f)) 107 0 0) 0 := ⟨fun i hi => absurd hi (Nat.not_lt_zero i), fun b j q1 q2 q3 q4 => by rw [u2_a q3, u2_a q2]⟩
  refine mm_28L d H Y hrk (a := nI f) r f hf hr (nd f) 0 0 _ acc none none (fun z => ∃ x', z = some (none, bl n sh x' y) ∧ clS x' nf (inc nd (r + 1) acc f) ∧ fr3 x x' 0) (hfr.mF hF) ((hC.w (by decide) (by omega)).w (by decide) (by omega)) rfl (Nat.zero_le _) (by rw [u2_a (by decide), u2_eq]) (by rw [u2_eq]; rfl) (by omega) (fun x' v3 v4 hC1 hr1 => ?_)
  refine ⟨x', ?_, hC1, hfr.tr hr1 (Nat.le_refl _)⟩
  rw [s_28_16]
  have h0 : (nI 0 ≤ 0) = True := eq_true (by decide)
  simp only [s_28_0, s_28_1, s_28_2, s_28_3, s_28_6, s_28_7, s_28_8, s_28_9, s_28_10, s_28_13, s_28_14, s_28_15, s_28_17, s_28_20, s_28_21, s_28_24, s_28_25, s_28_26, s_28_27, s_28_28, s_28_29, s_28_30, s_28_33, s_28_34, s_28_35, s_28_36, s_28_37, s_28_39, s_28_40, s_28_41, s_28_44, s_28_47, s_28_50, s_28_53, s_28_55, s_28_56, s_28_59, s_28_60, s_28_61, s_28_64, s_28_65, s_28_68, s_28_69, s_28_72, s_28_73, s_28_74, s_28_75, s_28_76, s_28_79, s_28_80, s_28_81, s_28_84, s_28_87, s_28_90, s_28_91, s_28_94, s_28_95, s_28_96, s_28_97, s_28_98, s_28_99, s_28_100, s_28_101, s_28_102, s_28_103, s_28_106, s_28_107, s_28_108, s_28_111, s_28_113, s_28_114, s_28_115, s_28_117, s_28_118, s_28_119, s_28_120, s_28_121, s_28_124, s_28_125, s_28_126, s_28_127, s_28_130, s_28_133, mj_lI_s, mj_lI_0, mj_lA_s, mj_lA_0, mj_sL_s, mj_sL_0, mj_s8_0, mj_s8_1, mj_s8_2, mj_s8_3, mj_bc_n, mj_bc_s, mj_bd_s, u2_eq, u2_a, u2_k, ne_eq, Nat.reduceEqDiff, not_false_eq_true, List.nil_append, List.cons_append, eq_self, true_or, or_true, if_true, if_false, false_or, or_false, not_true_eq_false, Bool.false_eq_true, ie_m1_0, ie_m1_1, ie_m1_2, ie_m1_3, ie_m1_4, ie_m1_5, ie_0_m1, ie_0_1, ie_0_2, ie_0_3, ie_0_4, ie_0_5, ie_1_m1, ie_1_0, ie_1_2, ie_1_3, ie_1_4, ie_1_5, ie_2_m1, ie_2_0, ie_2_1, ie_2_3, ie_2_4, ie_2_5, ie_3_m1, ie_3_0, ie_3_1, ie_3_2, ie_3_4, ie_3_5, ie_4_m1, ie_4_0, ie_4_1, ie_4_2, ie_4_3, ie_4_5, ie_5_m1, ie_5_0, ie_5_1, ie_5_2, ie_5_3, ie_5_4, h0]
/-- closeTest: the loop -/
theorem mm_29L (d : Nat) (H : moK n sh) (Y : moY y) {nf : Nat} {nd : Nat → List Nat} {rk : Nat → Nat} (hrk : rkd nf nd rk) {t c r : Nat} (hrb : ∀ f, f < nf → rk f ≤ r) (hr9 : r ≤ 12) (ht : t < 20) (hc6 : c ≤ 6) : ∀ (l : List Nat) (k : Nat) (x : Nat → Nat → Int32) (acc : List Nat) (Q : Option mj_R → Prop), mF x nf nd → clS x nf acc → x 99 t = nI c → k + l.length = c → nums (x 100) (6 * t + k) l → (∀ f ∈ l, f < nf) →
    (∀ x', clS x' nf (l.foldl (inc nd (r + 1)) acc) → fr3 x x' 0 → Q (some (none, bl n sh x' y))) →
    Q (mj_Rn pg (d + 3) 29 (7, [some (.inr (some 91)), some (.inl (nI t)), some (.inl (nI k))], [], bl n sh x y)) := by
  intro l
  induction l with
  | nil =>
    intro k x acc Q hF hC h99 hk hl hlf hX
    have hkc : (nI c ≤ nI k) = True := eq_true (nI_le (by simp at hk; omega) (by simp at hk; omega))
    rw [s_29_7]
    simp only [s_29_0, s_29_1, s_29_2, s_29_5, s_29_6, s_29_8, s_29_9, s_29_12, s_29_13, s_29_14, s_29_17, s_29_18, s_29_19, s_29_22, s_29_24, s_29_25, s_29_26, s_29_27, s_29_28, s_29_29, s_29_32, s_29_35, s_29_38, mj_lI_s, mj_lI_0, mj_lA_s, mj_lA_0, mj_sL_s, mj_sL_0, mj_s8_0, mj_s8_1, mj_s8_2, mj_s8_3, mj_bc_n, mj_bc_s, mj_bd_s, u2_eq, u2_a, u2_k, ne_eq, Nat.reduceEqDiff, not_false_eq_true, List.nil_append, List.cons_append, eq_self, true_or, or_true, if_true, if_false, false_or, or_false, not_true_eq_false, Bool.false_eq_true, ie_m1_0, ie_m1_1, ie_m1_2, ie_m1_3, ie_m1_4, ie_m1_5, ie_0_m1, ie_0_1, ie_0_2, ie_0_3, ie_0_4, ie_0_5, ie_1_m1, ie_1_0, ie_1_2, ie_1_3, ie_1_4, ie_1_5, ie_2_m1, ie_2_0, ie_2_1, ie_2_3, ie_2_4, ie_2_5, ie_3_m1, ie_3_0, ie_3_1, ie_3_2, ie_3_4, ie_3_5, ie_4_m1, ie_4_0, ie_4_1, ie_4_2, ie_4_3, ie_4_5, ie_5_m1, ie_5_0, ie_5_1, ie_5_2, ie_5_3, ie_5_4, mt_91 H, gv_0 H, gv_1 H, gv_2 H, gv_19 H, gv_20 H, gv_21 H, gv_22 H, gv_23 H, gv_43 H, pv_0 H, pv_1 H, pv_2 H, pv_19 H, pv_20 H, pv_21 H, pv_22 H, pv_23 H, pv_43 H, gr_3 H Y, gr_4 H Y, gr_5 H Y, gr_6 H Y, gr_7 H Y, gr_8 H Y, gr_9 H Y, gr_10 H Y, gr_11 H Y, gr_12 H Y, gr_13 H Y, gr_14 H Y, gr_15 H Y, gr_16 H Y, gr_17 H Y, gr_18 H Y, gr_24 H Y, gr_25 H Y, gr_26 H Y, gr_27 H Y, gr_28 H Y, gr_29 H Y, gr_30 H Y, gr_31 H Y, gr_32 H Y, gr_33 H Y, gr_34 H Y, gr_35 H Y, gr_36 H Y, gr_37 H Y, gr_38 H Y, gr_39 H Y, gr_40 H Y, gr_41 H Y, gr_42 H Y, ra_3 H, ra_4 H, ra_5 H, ra_6 H, ra_7 H, ra_8 H, ra_9 H, ra_10 H, ra_11 H, ra_12 H, ra_13 H, ra_14 H, ra_15 H, ra_16 H, ra_17 H, ra_18 H, ra_24 H, ra_25 H, ra_26 H, ra_27 H, ra_28 H, ra_29 H, ra_30 H, ra_31 H, ra_32 H, ra_33 H, ra_34 H, ra_35 H, ra_36 H, ra_37 H, ra_38 H, ra_39 H, ra_40 H, ra_41 H, ra_42 H, pa_3 H, pa_4 H, pa_5 H, pa_6 H, pa_7 H, pa_8 H, pa_9 H, pa_10 H, pa_11 H, pa_12 H, pa_13 H, pa_14 H, pa_15 H, pa_16 H, pa_17 H, pa_18 H, pa_24 H, pa_25 H, pa_26 H, pa_27 H, pa_28 H, pa_29 H, pa_30 H, pa_31 H, pa_32 H, pa_33 H, pa_34 H, pa_35 H, pa_36 H, pa_37 H, pa_38 H, pa_39 H, pa_40 H, pa_41 H, pa_42 H, ht, h99, hkc]
    exact hX x hC ⟨fun i hi => absurd hi (Nat.not_lt_zero i), fun _ _ _ _ _ _ => rfl⟩
  | cons g l ih =>
    intro k x acc Q hF hC h99 hk hl hlf hX
    have hk1 : k < c := by simp at hk; omega
    have hkc : (nI c ≤ nI k) = False := eq_false (nI_ge hk1 (by omega))
    obtain ⟨hg, hg1⟩ := hl.hd
    have hi : 6 * t + k < 120 := by omega
    have hgf : g < nf := hlf g List.mem_cons_self
    obtain ⟨x1, q1, q2, q3⟩ := mm_28 (y := y) d H Y hrk hF hC hgf (hrb g hgf) hr9
    rw [s_29_7]
    simp only [s_29_0, s_29_1, s_29_2, s_29_5, s_29_6, s_29_8, s_29_9, s_29_12, s_29_13, s_29_14, s_29_17, s_29_18, s_29_19, s_29_22, s_29_24, s_29_25, s_29_26, s_29_27, s_29_28, s_29_29, s_29_32, s_29_35, s_29_38, mj_lI_s, mj_lI_0, mj_lA_s, mj_lA_0, mj_sL_s, mj_sL_0, mj_s8_0, mj_s8_1, mj_s8_2, mj_s8_3, mj_bc_n, mj_bc_s, mj_bd_s, u2_eq, u2_a, u2_k, ne_eq, Nat.reduceEqDiff, not_false_eq_true, List.nil_append, List.cons_append, eq_self, true_or, or_true, if_true, if_false, false_or, or_false, not_true_eq_false, Bool.false_eq_true, ie_m1_0, ie_m1_1, ie_m1_2, ie_m1_3, ie_m1_4, ie_m1_5, ie_0_m1, ie_0_1, ie_0_2, ie_0_3, ie_0_4, ie_0_5, ie_1_m1, ie_1_0, ie_1_2, ie_1_3, ie_1_4, ie_1_5, ie_2_m1, ie_2_0, ie_2_1, ie_2_3, ie_2_4, ie_2_5, ie_3_m1, ie_3_0, ie_3_1, ie_3_2, ie_3_4, ie_3_5, ie_4_m1, ie_4_0, ie_4_1, ie_4_2, ie_4_3, ie_4_5, ie_5_m1, ie_5_0, ie_5_1, ie_5_2, ie_5_3, ie_5_4, mt_91 H, gv_0 H, gv_1 H, gv_2 H, gv_19 H, gv_20 H, gv_21 H, gv_22 H, gv_23 H, gv_43 H, pv_0 H, pv_1 H, pv_2 H, pv_19 H, pv_20 H, pv_21 H, pv_22 H, pv_23 H, pv_43 H, gr_3 H Y, gr_4 H Y, gr_5 H Y, gr_6 H Y, gr_7 H Y, gr_8 H Y, gr_9 H Y, gr_10 H Y, gr_11 H Y, gr_12 H Y, gr_13 H Y, gr_14 H Y, gr_15 H Y, gr_16 H Y, gr_17 H Y, gr_18 H Y, gr_24 H Y, gr_25 H Y, gr_26 H Y, gr_27 H Y, gr_28 H Y, gr_29 H Y, gr_30 H Y, gr_31 H Y, gr_32 H Y, gr_33 H Y, gr_34 H Y, gr_35 H Y, gr_36 H Y, gr_37 H Y, gr_38 H Y, gr_39 H Y, gr_40 H Y, gr_41 H Y, gr_42 H Y, ra_3 H, ra_4 H, ra_5 H, ra_6 H, ra_7 H, ra_8 H, ra_9 H, ra_10 H, ra_11 H, ra_12 H, ra_13 H, ra_14 H, ra_15 H, ra_16 H, ra_17 H, ra_18 H, ra_24 H, ra_25 H, ra_26 H, ra_27 H, ra_28 H, ra_29 H, ra_30 H, ra_31 H, ra_32 H, ra_33 H, ra_34 H, ra_35 H, ra_36 H, ra_37 H, ra_38 H, ra_39 H, ra_40 H, ra_41 H, ra_42 H, pa_3 H, pa_4 H, pa_5 H, pa_6 H, pa_7 H, pa_8 H, pa_9 H, pa_10 H, pa_11 H, pa_12 H, pa_13 H, pa_14 H, pa_15 H, pa_16 H, pa_17 H, pa_18 H, pa_24 H, pa_25 H, pa_26 H, pa_27 H, pa_28 H, pa_29 H, pa_30 H, pa_31 H, pa_32 H, pa_33 H, pa_34 H, pa_35 H, pa_36 H, pa_37 H, pa_38 H, pa_39 H, pa_40 H, pa_41 H, pa_42 H, ht, h99, hkc, nI_mul6, hi, hg, q1, nI_1]
    refine ih (k + 1) x1 _ Q (q3.mF hF) q2 ?_ (by simp at hk; omega) ?_ (fun f hf => hlf f (List.mem_cons_of_mem _ hf)) (fun x' p1 p2 => hX x' p1 (q3.tr p2 (Nat.le_refl _)))
    · rw [q3.2 99 t (by decide) (by decide) (by decide) (by omega)]; exact h99
    · intro j q hj
      rw [q3.2 100 _ (by decide) (by decide) (by decide) (by omega)]
      exact hl.tl j q hj
/-- closeTest -/
theorem mm_29 (d : Nat) (H : moK n sh) (Y : moY y) {nf : Nat} {nd : Nat → List Nat} {rk : Nat → Nat} (hrk : rkd nf nd rk) {t r : Nat} (hrb : ∀ f, f < nf → rk f ≤ r) (hr9 : r ≤ 12) (ht : t < 20) {x : Nat → Nat → Int32} {us : List Nat} (hF : mF x nf nd) (h99 : x 99 t = nI us.length) (hu6 : us.length ≤ 6) (hu : nums (x 100) (6 * t) us) (huf : ∀ f ∈ us, f < nf) : ∃ x', mj_Cl pg (d + 3) 29 [.inr (some 91), .inl (nI t)] (bl n sh x y) = some (none, bl n sh x' y) ∧ clS x' nf (us.foldl (inc nd (r + 1)) []) ∧ fr3 x x' 0 := by
  rw [e_29]
  simp only [s_29_0, s_29_1, s_29_2, s_29_5, s_29_6, mj_lI_s, mj_lI_0, mj_lA_s, mj_lA_0, mj_sL_s, mj_sL_0, mj_s8_0, mj_s8_1, mj_s8_2, mj_s8_3, mj_bc_n, mj_bc_s, mj_bd_s, u2_eq, u2_a, u2_k, ne_eq, Nat.reduceEqDiff, not_false_eq_true, List.nil_append, List.cons_append, eq_self, true_or, or_true, if_true, if_false, false_or, or_false, not_true_eq_false, Bool.false_eq_true, ie_m1_0, ie_m1_1, ie_m1_2, ie_m1_3, ie_m1_4, ie_m1_5, ie_0_m1, ie_0_1, ie_0_2, ie_0_3, ie_0_4, ie_0_5, ie_1_m1, ie_1_0, ie_1_2, ie_1_3, ie_1_4, ie_1_5, ie_2_m1, ie_2_0, ie_2_1, ie_2_3, ie_2_4, ie_2_5, ie_3_m1, ie_3_0, ie_3_1, ie_3_2, ie_3_4, ie_3_5, ie_4_m1, ie_4_0, ie_4_1, ie_4_2, ie_4_3, ie_4_5, ie_5_m1, ie_5_0, ie_5_1, ie_5_2, ie_5_3, ie_5_4, pv_19 H]
  have hfr : fr3 x (u2 x 91 19 0) 0 := ⟨fun i hi => absurd hi (Nat.not_lt_zero i), fun b j q1 q2 q3 q4 => by rw [u2_ne q4]⟩
  refine mm_29L d H Y hrk hrb hr9 ht hu6 us 0 (u2 x 91 19 0) [] (fun z => ∃ x', z = some (none, bl n sh x' y) ∧ clS x' nf (us.foldl (inc nd (r + 1)) []) ∧ fr3 x x' 0) (hfr.mF hF) ⟨by rw [u2_eq]; rfl, fun j q hj => by simp at hj, List.nodup_nil, fun h hh => by simp at hh⟩ (by rw [u2_a (by decide)]; exact h99) (by omega) (fun j q hj => by rw [u2_a (by decide)]; exact hu j q hj) huf (fun x' p1 p2 => ⟨x', rfl, p1, hfr.tr p2 (Nat.le_refl _)⟩)
end CLO
