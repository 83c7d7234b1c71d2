/-! ending, in reverse order of making: the reference -/
abbrev rq : Type := Nat → Nat → Int32
abbrev re3 : Type := Int32 × Int32 × Int32
/-- one ending: the counts, the event, the failures -/
def sE (ef : Nat → Nat) (s : rq × List re3 × Nat) (f : Nat) : rq × List re3 × Nat := (u2 (u2 s.1 f 13 (s.1 f 13 + 1)) f 14 (s.1 f 14 + nI (ef f)), s.2.1 ++ [(if ef f = 0 then 2 else 3, nI f, s.1 f 8)], s.2.2 + ef f)
/-- the order of making by numbers -/
def mD (x : Nat → Nat → Int32) (nf : Nat) (md : List Nat) (ts : Nat → Nat) (mk : Nat) : Prop := md.Nodup ∧ (∀ f ∈ md, f < nf) ∧ (∀ f, f < nf → x 108 f = nI (ts f) ∧ ts f ≤ mk) ∧ (∀ f, f < nf → (f ∈ md ↔ 0 < ts f)) ∧ md.Pairwise (fun a b => ts a < ts b)
/-- the run's state in the reference -/
def rM (x : Nat → Nat → Int32) (nf : Nat) (ef : Nat → Nat) (md : List Nat) (q : rq) (ev : List re3) (fl : Nat) : Prop :=
  (∃ ts mk, mD x nf md ts mk ∧ x 91 23 = nI mk ∧ mk ≤ ev.length) ∧
  (∀ f, f < nf → (f ∈ md → x 109 f = q f 8 ∧ x 110 f = q f 9) ∧ x 111 f = q f 10 ∧ (¬ q f 10 = 0 → x 112 f = q f 11) ∧ x 113 f = q f 12 ∧ x 114 f = q f 13 ∧ x 115 f = q f 14) ∧
  (x 91 21 = nI ev.length ∧ ∀ e t, ev[e]? = some t → x 116 e = t.1 ∧ x 117 e = t.2.1 ∧ x 118 e = t.2.2) ∧ x 91 43 = nI fl ∧ ∀ f, f < nf → x 97 f = nI (ef f) ∧ ef f ≤ 1
/-- what ending leaves -/
def fE (x x' : Nat → Nat → Int32) : Prop := ∀ a k, a ≠ 108 → a ≠ 114 → a ≠ 115 → a ≠ 116 → a ≠ 117 → a ≠ 118 → ¬ (a = 91 ∧ (k = 21 ∨ k = 43)) → x' a k = x a k
theorem fE.rf (x : Nat → Nat → Int32) : fE x x := fun _ _ _ _ _ _ _ _ _ => rfl
theorem fE.tr {x y z : Nat → Nat → Int32} (h1 : fE x y) (h2 : fE y z) : fE x z := fun a k q1 q2 q3 q4 q5 q6 q7 => (h2 a k q1 q2 q3 q4 q5 q6 q7).trans (h1 a k q1 q2 q3 q4 q5 q6 q7)
theorem pw_erase {α : Type} {R : Nat → Nat → Prop} {l : List Nat} (f : Nat) (h : l.Pairwise R) : (l.erase f).Pairwise R := h.sublist List.erase_sublist
section EN
variable {n : Nat} {sh : Nat → Nat × Nat} {x : Nat → Nat → Int32} {y : Nat → Nat → Option Nat}
theorem nI_01 {k : Nat} (h : k ≤ 1) : (nI k = 0 ∨ nI k = 1) ∧ ((nI k = 0) = (k = 0)) := by
  rcases (show k = 0 ∨ k = 1 by omega) with rfl | rfl
  · exact ⟨Or.inl rfl, by decide⟩
  · exact ⟨Or.inr rfl, by decide⟩
/-- end, of one that is made -/
theorem mm_35' (d : Nat) (H : moK n sh) (Y : moY y) {nf : Nat} {ef : Nat → Nat} {md : List Nat} {q : rq} {ev : List re3} {fl f : Nat} (h12 : nf ≤ 12) (hR : rM x nf ef md q ev fl) (hf : f ∈ md) (he : ev.length < 8000) : ∃ x', mj_Cl pg (d + 2) 35 [.inr (some 91), .inl (nI f)] (bl n sh x y) = some (none, bl n sh x' y) ∧ rM x' nf ef (md.erase f) (sE ef (q, ev, fl) f).1 (sE ef (q, ev, fl) f).2.1 (sE ef (q, ev, fl) f).2.2 ∧ fE x x' := by
  obtain ⟨⟨ts, mk, ⟨m1, m2, m3, m4, m5⟩, hmk, hmk1⟩, hq, ⟨he1, he2⟩, hfl, hef⟩ := hR
  have hfn := m2 f hf
  obtain ⟨e1, e2⟩ := hef f hfn
  obtain ⟨e3, e4⟩ := nI_01 e2
  have hrun := mm_35 (x := x) (y := y) d H Y (f := f) (e := ev.length) (by omega) he1 he (by rw [e1]; exact e3)
  refine ⟨_, hrun, ?_, ?_⟩
  · refine ⟨⟨fun g => if g = f then 0 else ts g, mk, ⟨m1.erase f, fun g hg => m2 g (List.mem_of_mem_erase hg), fun g hg => ?_, fun g hg => ?_, ?_⟩, ?_, by simp only [sE, List.length_append]; omega⟩, fun g hg => ?_, ⟨?_, fun e t ht => ?_⟩, ?_, fun g hg => ?_⟩
    · simp only [mj_lI_s, mj_lI_0, mj_lA_s, mj_lA_0, mj_sL_s, mj_sL_0, mj_s8_0, mj_s8_1, mj_s8_2, mj_s8_3, mj_bc_n, mj_bc_s, mj_bd_s, u2_eq, u2_a, u2_k, ne_eq, Nat.reduceEqDiff, not_false_eq_true, List.nil_append, List.cons_append, eq_self, true_or, or_true, if_true, if_false, false_or, or_false, not_true_eq_false, Bool.false_eq_true, ie_m1_0, ie_m1_1, ie_m1_2, ie_m1_3, ie_m1_4, ie_m1_5, ie_0_m1, ie_0_1, ie_0_2, ie_0_3, ie_0_4, ie_0_5, ie_1_m1, ie_1_0, ie_1_2, ie_1_3, ie_1_4, ie_1_5, ie_2_m1, ie_2_0, ie_2_1, ie_2_3, ie_2_4, ie_2_5, ie_3_m1, ie_3_0, ie_3_1, ie_3_2, ie_3_4, ie_3_5, ie_4_m1, ie_4_0, ie_4_1, ie_4_2, ie_4_3, ie_4_5, ie_5_m1, ie_5_0, ie_5_1, ie_5_2, ie_5_3, ie_5_4]
      by_cases e : g = f
      · subst e
        simp only [u2_eq, if_true]
        exact ⟨rfl, Nat.zero_le _⟩
      · rw [if_neg e, u2_k e]
        exact m3 g hg
    · rw [List.Nodup.mem_erase_iff m1, m4 g hg]
      by_cases e : g = f
      · simp [e]
      · simp [e]
    · have h9 := pw_erase (α := Nat) f m5
      refine (List.pairwise_iff_forall_sublist.mpr ?_)
      intro a b hab
      have h10 := List.pairwise_iff_forall_sublist.mp h9 hab
      have ha : a ∈ md.erase f := hab.subset (by simp)
      have hb : b ∈ md.erase f := hab.subset (by simp)
      rw [List.Nodup.mem_erase_iff m1] at ha hb
      show (if a = f then 0 else ts a) < (if b = f then 0 else ts b)
      rw [if_neg ha.1, if_neg hb.1]
      exact h10
    · simp only [mj_lI_s, mj_lI_0, mj_lA_s, mj_lA_0, mj_sL_s, mj_sL_0, mj_s8_0, mj_s8_1, mj_s8_2, mj_s8_3, mj_bc_n, mj_bc_s, mj_bd_s, u2_eq, u2_a, u2_k, ne_eq, Nat.reduceEqDiff, not_false_eq_true, List.nil_append, List.cons_append, eq_self, true_or, or_true, if_true, if_false, false_or, or_false, not_true_eq_false, Bool.false_eq_true, ie_m1_0, ie_m1_1, ie_m1_2, ie_m1_3, ie_m1_4, ie_m1_5, ie_0_m1, ie_0_1, ie_0_2, ie_0_3, ie_0_4, ie_0_5, ie_1_m1, ie_1_0, ie_1_2, ie_1_3, ie_1_4, ie_1_5, ie_2_m1, ie_2_0, ie_2_1, ie_2_3, ie_2_4, ie_2_5, ie_3_m1, ie_3_0, ie_3_1, ie_3_2, ie_3_4, ie_3_5, ie_4_m1, ie_4_0, ie_4_1, ie_4_2, ie_4_3, ie_4_5, ie_5_m1, ie_5_0, ie_5_1, ie_5_2, ie_5_3, ie_5_4]; exact hmk
    · obtain ⟨r1, r2, r3, r4, r5, r6⟩ := hq g hg
      refine ⟨fun h => ?_, ?_, ?_, ?_, ?_, ?_⟩
      · have h1 := r1 (List.mem_of_mem_erase h)
        simp only [mj_lI_s, mj_lI_0, mj_lA_s, mj_lA_0, mj_sL_s, mj_sL_0, mj_s8_0, mj_s8_1, mj_s8_2, mj_s8_3, mj_bc_n, mj_bc_s, mj_bd_s, u2_eq, u2_a, u2_k, ne_eq, Nat.reduceEqDiff, not_false_eq_true, List.nil_append, List.cons_append, eq_self, true_or, or_true, if_true, if_false, false_or, or_false, not_true_eq_false, Bool.false_eq_true, ie_m1_0, ie_m1_1, ie_m1_2, ie_m1_3, ie_m1_4, ie_m1_5, ie_0_m1, ie_0_1, ie_0_2, ie_0_3, ie_0_4, ie_0_5, ie_1_m1, ie_1_0, ie_1_2, ie_1_3, ie_1_4, ie_1_5, ie_2_m1, ie_2_0, ie_2_1, ie_2_3, ie_2_4, ie_2_5, ie_3_m1, ie_3_0, ie_3_1, ie_3_2, ie_3_4, ie_3_5, ie_4_m1, ie_4_0, ie_4_1, ie_4_2, ie_4_3, ie_4_5, ie_5_m1, ie_5_0, ie_5_1, ie_5_2, ie_5_3, ie_5_4, sE]
        exact h1
      · simp only [mj_lI_s, mj_lI_0, mj_lA_s, mj_lA_0, mj_sL_s, mj_sL_0, mj_s8_0, mj_s8_1, mj_s8_2, mj_s8_3, mj_bc_n, mj_bc_s, mj_bd_s, u2_eq, u2_a, u2_k, ne_eq, Nat.reduceEqDiff, not_false_eq_true, List.nil_append, List.cons_append, eq_self, true_or, or_true, if_true, if_false, false_or, or_false, not_true_eq_false, Bool.false_eq_true, ie_m1_0, ie_m1_1, ie_m1_2, ie_m1_3, ie_m1_4, ie_m1_5, ie_0_m1, ie_0_1, ie_0_2, ie_0_3, ie_0_4, ie_0_5, ie_1_m1, ie_1_0, ie_1_2, ie_1_3, ie_1_4, ie_1_5, ie_2_m1, ie_2_0, ie_2_1, ie_2_3, ie_2_4, ie_2_5, ie_3_m1, ie_3_0, ie_3_1, ie_3_2, ie_3_4, ie_3_5, ie_4_m1, ie_4_0, ie_4_1, ie_4_2, ie_4_3, ie_4_5, ie_5_m1, ie_5_0, ie_5_1, ie_5_2, ie_5_3, ie_5_4, sE]; exact r2
      · simp only [mj_lI_s, mj_lI_0, mj_lA_s, mj_lA_0, mj_sL_s, mj_sL_0, mj_s8_0, mj_s8_1, mj_s8_2, mj_s8_3, mj_bc_n, mj_bc_s, mj_bd_s, u2_eq, u2_a, u2_k, ne_eq, Nat.reduceEqDiff, not_false_eq_true, List.nil_append, List.cons_append, eq_self, true_or, or_true, if_true, if_false, false_or, or_false, not_true_eq_false, Bool.false_eq_true, ie_m1_0, ie_m1_1, ie_m1_2, ie_m1_3, ie_m1_4, ie_m1_5, ie_0_m1, ie_0_1, ie_0_2, ie_0_3, ie_0_4, ie_0_5, ie_1_m1, ie_1_0, ie_1_2, ie_1_3, ie_1_4, ie_1_5, ie_2_m1, ie_2_0, ie_2_1, ie_2_3, ie_2_4, ie_2_5, ie_3_m1, ie_3_0, ie_3_1, ie_3_2, ie_3_4, ie_3_5, ie_4_m1, ie_4_0, ie_4_1, ie_4_2, ie_4_3, ie_4_5, ie_5_m1, ie_5_0, ie_5_1, ie_5_2, ie_5_3, ie_5_4, sE]; exact r3
      · simp only [mj_lI_s, mj_lI_0, mj_lA_s, mj_lA_0, mj_sL_s, mj_sL_0, mj_s8_0, mj_s8_1, mj_s8_2, mj_s8_3, mj_bc_n, mj_bc_s, mj_bd_s, u2_eq, u2_a, u2_k, ne_eq, Nat.reduceEqDiff, not_false_eq_true, List.nil_append, List.cons_append, eq_self, true_or, or_true, if_true, if_false, false_or, or_false, not_true_eq_false, Bool.false_eq_true, ie_m1_0, ie_m1_1, ie_m1_2, ie_m1_3, ie_m1_4, ie_m1_5, ie_0_m1, ie_0_1, ie_0_2, ie_0_3, ie_0_4, ie_0_5, ie_1_m1, ie_1_0, ie_1_2, ie_1_3, ie_1_4, ie_1_5, ie_2_m1, ie_2_0, ie_2_1, ie_2_3, ie_2_4, ie_2_5, ie_3_m1, ie_3_0, ie_3_1, ie_3_2, ie_3_4, ie_3_5, ie_4_m1, ie_4_0, ie_4_1, ie_4_2, ie_4_3, ie_4_5, ie_5_m1, ie_5_0, ie_5_1, ie_5_2, ie_5_3, ie_5_4, sE]; exact r4
      · simp only [mj_lI_s, mj_lI_0, mj_lA_s, mj_lA_0, mj_sL_s, mj_sL_0, mj_s8_0, mj_s8_1, mj_s8_2, mj_s8_3, mj_bc_n, mj_bc_s, mj_bd_s, u2_eq, u2_a, u2_k, ne_eq, Nat.reduceEqDiff, not_false_eq_true, List.nil_append, List.cons_append, eq_self, true_or, or_true, if_true, if_false, false_or, or_false, not_true_eq_false, Bool.false_eq_true, ie_m1_0, ie_m1_1, ie_m1_2, ie_m1_3, ie_m1_4, ie_m1_5, ie_0_m1, ie_0_1, ie_0_2, ie_0_3, ie_0_4, ie_0_5, ie_1_m1, ie_1_0, ie_1_2, ie_1_3, ie_1_4, ie_1_5, ie_2_m1, ie_2_0, ie_2_1, ie_2_3, ie_2_4, ie_2_5, ie_3_m1, ie_3_0, ie_3_1, ie_3_2, ie_3_4, ie_3_5, ie_4_m1, ie_4_0, ie_4_1, ie_4_2, ie_4_3, ie_4_5, ie_5_m1, ie_5_0, ie_5_1, ie_5_2, ie_5_3, ie_5_4, sE]
        by_cases e : g = f
        · subst e; simp only [u2_eq]; rw [r5]
        · rw [u2_k e, u2_a e]; exact r5
      · simp only [mj_lI_s, mj_lI_0, mj_lA_s, mj_lA_0, mj_sL_s, mj_sL_0, mj_s8_0, mj_s8_1, mj_s8_2, mj_s8_3, mj_bc_n, mj_bc_s, mj_bd_s, u2_eq, u2_a, u2_k, ne_eq, Nat.reduceEqDiff, not_false_eq_true, List.nil_append, List.cons_append, eq_self, true_or, or_true, if_true, if_false, false_or, or_false, not_true_eq_false, Bool.false_eq_true, ie_m1_0, ie_m1_1, ie_m1_2, ie_m1_3, ie_m1_4, ie_m1_5, ie_0_m1, ie_0_1, ie_0_2, ie_0_3, ie_0_4, ie_0_5, ie_1_m1, ie_1_0, ie_1_2, ie_1_3, ie_1_4, ie_1_5, ie_2_m1, ie_2_0, ie_2_1, ie_2_3, ie_2_4, ie_2_5, ie_3_m1, ie_3_0, ie_3_1, ie_3_2, ie_3_4, ie_3_5, ie_4_m1, ie_4_0, ie_4_1, ie_4_2, ie_4_3, ie_4_5, ie_5_m1, ie_5_0, ie_5_1, ie_5_2, ie_5_3, ie_5_4, sE]
        by_cases e : g = f
        · subst e; simp only [u2_eq, mj_lI_s, mj_lI_0, mj_lA_s, mj_lA_0, mj_sL_s, mj_sL_0, mj_s8_0, mj_s8_1, mj_s8_2, mj_s8_3, mj_bc_n, mj_bc_s, mj_bd_s, u2_eq, u2_a, u2_k, ne_eq, Nat.reduceEqDiff, not_false_eq_true, List.nil_append, List.cons_append, eq_self, true_or, or_true, if_true, if_false, false_or, or_false, not_true_eq_false, Bool.false_eq_true, ie_m1_0, ie_m1_1, ie_m1_2, ie_m1_3, ie_m1_4, ie_m1_5, ie_0_m1, ie_0_1, ie_0_2, ie_0_3, ie_0_4, ie_0_5, ie_1_m1, ie_1_0, ie_1_2, ie_1_3, ie_1_4, ie_1_5, ie_2_m1, ie_2_0, ie_2_1, ie_2_3, ie_2_4, ie_2_5, ie_3_m1, ie_3_0, ie_3_1, ie_3_2, ie_3_4, ie_3_5, ie_4_m1, ie_4_0, ie_4_1, ie_4_2, ie_4_3, ie_4_5, ie_5_m1, ie_5_0, ie_5_1, ie_5_2, ie_5_3, ie_5_4]; rw [r6, e1]
        · rw [u2_k e, u2_a e, u2_a e]; exact r6
    · rw [u2_eq]; simp [sE]
    · simp only [sE] at ht
      rcases Nat.lt_or_ge e ev.length with h1 | h1
      · rw [List.getElem?_append_left h1] at ht
        have h2 := he2 e t ht
        have hne : e ≠ ev.length := by omega
        simp only [mj_lI_s, mj_lI_0, mj_lA_s, mj_lA_0, mj_sL_s, mj_sL_0, mj_s8_0, mj_s8_1, mj_s8_2, mj_s8_3, mj_bc_n, mj_bc_s, mj_bd_s, u2_eq, u2_a, u2_k, ne_eq, Nat.reduceEqDiff, not_false_eq_true, List.nil_append, List.cons_append, eq_self, true_or, or_true, if_true, if_false, false_or, or_false, not_true_eq_false, Bool.false_eq_true, ie_m1_0, ie_m1_1, ie_m1_2, ie_m1_3, ie_m1_4, ie_m1_5, ie_0_m1, ie_0_1, ie_0_2, ie_0_3, ie_0_4, ie_0_5, ie_1_m1, ie_1_0, ie_1_2, ie_1_3, ie_1_4, ie_1_5, ie_2_m1, ie_2_0, ie_2_1, ie_2_3, ie_2_4, ie_2_5, ie_3_m1, ie_3_0, ie_3_1, ie_3_2, ie_3_4, ie_3_5, ie_4_m1, ie_4_0, ie_4_1, ie_4_2, ie_4_3, ie_4_5, ie_5_m1, ie_5_0, ie_5_1, ie_5_2, ie_5_3, ie_5_4, u2_k hne]
        exact h2
      · rw [List.getElem?_append_right h1] at ht
        have h2 : e - ev.length < 1 := (List.getElem?_eq_some_iff.mp ht).1
        have h3 : e = ev.length := by omega
        subst h3
        rw [Nat.sub_self] at ht
        cases ht
        have hv := ((hq f hfn).1 hf).1
        simp only [mj_lI_s, mj_lI_0, mj_lA_s, mj_lA_0, mj_sL_s, mj_sL_0, mj_s8_0, mj_s8_1, mj_s8_2, mj_s8_3, mj_bc_n, mj_bc_s, mj_bd_s, u2_eq, u2_a, u2_k, ne_eq, Nat.reduceEqDiff, not_false_eq_true, List.nil_append, List.cons_append, eq_self, true_or, or_true, if_true, if_false, false_or, or_false, not_true_eq_false, Bool.false_eq_true, ie_m1_0, ie_m1_1, ie_m1_2, ie_m1_3, ie_m1_4, ie_m1_5, ie_0_m1, ie_0_1, ie_0_2, ie_0_3, ie_0_4, ie_0_5, ie_1_m1, ie_1_0, ie_1_2, ie_1_3, ie_1_4, ie_1_5, ie_2_m1, ie_2_0, ie_2_1, ie_2_3, ie_2_4, ie_2_5, ie_3_m1, ie_3_0, ie_3_1, ie_3_2, ie_3_4, ie_3_5, ie_4_m1, ie_4_0, ie_4_1, ie_4_2, ie_4_3, ie_4_5, ie_5_m1, ie_5_0, ie_5_1, ie_5_2, ie_5_3, ie_5_4, e1, e4]
        exact ⟨trivial, trivial, hv⟩
    · simp only [mj_lI_s, mj_lI_0, mj_lA_s, mj_lA_0, mj_sL_s, mj_sL_0, mj_s8_0, mj_s8_1, mj_s8_2, mj_s8_3, mj_bc_n, mj_bc_s, mj_bd_s, u2_eq, u2_a, u2_k, ne_eq, Nat.reduceEqDiff, not_false_eq_true, List.nil_append, List.cons_append, eq_self, true_or, or_true, if_true, if_false, false_or, or_false, not_true_eq_false, Bool.false_eq_true, ie_m1_0, ie_m1_1, ie_m1_2, ie_m1_3, ie_m1_4, ie_m1_5, ie_0_m1, ie_0_1, ie_0_2, ie_0_3, ie_0_4, ie_0_5, ie_1_m1, ie_1_0, ie_1_2, ie_1_3, ie_1_4, ie_1_5, ie_2_m1, ie_2_0, ie_2_1, ie_2_3, ie_2_4, ie_2_5, ie_3_m1, ie_3_0, ie_3_1, ie_3_2, ie_3_4, ie_3_5, ie_4_m1, ie_4_0, ie_4_1, ie_4_2, ie_4_3, ie_4_5, ie_5_m1, ie_5_0, ie_5_1, ie_5_2, ie_5_3, ie_5_4, sE, e1, hfl, nI_add]
    · simp only [mj_lI_s, mj_lI_0, mj_lA_s, mj_lA_0, mj_sL_s, mj_sL_0, mj_s8_0, mj_s8_1, mj_s8_2, mj_s8_3, mj_bc_n, mj_bc_s, mj_bd_s, u2_eq, u2_a, u2_k, ne_eq, Nat.reduceEqDiff, not_false_eq_true, List.nil_append, List.cons_append, eq_self, true_or, or_true, if_true, if_false, false_or, or_false, not_true_eq_false, Bool.false_eq_true, ie_m1_0, ie_m1_1, ie_m1_2, ie_m1_3, ie_m1_4, ie_m1_5, ie_0_m1, ie_0_1, ie_0_2, ie_0_3, ie_0_4, ie_0_5, ie_1_m1, ie_1_0, ie_1_2, ie_1_3, ie_1_4, ie_1_5, ie_2_m1, ie_2_0, ie_2_1, ie_2_3, ie_2_4, ie_2_5, ie_3_m1, ie_3_0, ie_3_1, ie_3_2, ie_3_4, ie_3_5, ie_4_m1, ie_4_0, ie_4_1, ie_4_2, ie_4_3, ie_4_5, ie_5_m1, ie_5_0, ie_5_1, ie_5_2, ie_5_3, ie_5_4]; exact hef g hg
  · intro a k q1 q2 q3 q4 q5 q6 q7
    have hk1 : ¬ (a = 91 ∧ k = 21) := fun z => q7 ⟨z.1, Or.inl z.2⟩
    have hk2 : ¬ (a = 91 ∧ k = 43) := fun z => q7 ⟨z.1, Or.inr z.2⟩
    rw [u2_ne hk1, u2_a q6, u2_a q5, u2_a q4, u2_ne hk2, u2_a q3, u2_a q2, u2_a q1]
/-- the latest among those that are marked and made, below k -/
def bB (E : Nat → Bool) (ts : Nat → Nat) (k : Nat) (b : Option Nat) : Prop := match b with
  | none => ∀ f, f < k → ¬ (E f = true ∧ 0 < ts f)
  | some g => g < k ∧ E g = true ∧ 0 < ts g ∧ ∀ f, f < k → E f = true → 0 < ts f → ts f ≤ ts g
def lB (b : Option Nat) : Int32 := match b with
  | none => -1
  | some g => nI g
theorem nI_nm1 {g : Nat} (h : g < 1000) : (nI g = -1) = False := eq_false (fun q => by
  have h1 := nI_pos' (n := g) (by omega)
  rw [q] at h1
  exact absurd h1 (by decide))
theorem nI_le0 {g : Nat} (h : g < 2 ^ 31) : (nI g ≤ 0) = (g = 0) := by
  rw [show (0 : Int32) = nI 0 from rfl, nI_lep h (by decide)]
  exact propext (by omega)
theorem mm_36i (d : Nat) (H : moK n sh) (Y : moY y) {nf : Nat} {E : Nat → Bool} {ts : Nat → Nat} (h12 : nf ≤ 12) (h1 : x 91 1 = nI nf) (hE : ∀ f, f < nf → x 126 f = if E f = true then 1 else 0) (hts : ∀ f, f < nf → x 108 f = nI (ts f) ∧ ts f ≤ 100000) {m : Int32} (Q : Option mj_R → Prop) : ∀ (j k : Nat) (b : Option Nat), k + j = nf → bB E ts k b →
    (∀ b w, bB E ts nf b → Q (mj_Rn pg (d + 1) 36 (64, [some (.inr (some 91)), some (.inl m), some (.inl (lB b)), w], [], bl n sh x y))) →
    Q (mj_Rn pg (d + 1) 36 (10, [some (.inr (some 91)), some (.inl m), some (.inl (lB b)), some (.inl (nI k))], [], bl n sh x y)) := by
  intro j
  induction j with
  | zero =>
    intro k b hk hb hX
    have hle : (nI nf ≤ nI k) = True := eq_true (nI_le (by omega) (by omega))
    have : k = nf := by omega
    subst this
    rw [s_36_10]
    simp only [s_36_0, s_36_1, s_36_3, s_36_6, s_36_7, s_36_8, s_36_9, s_36_11, s_36_12, s_36_15, s_36_18, s_36_19, s_36_22, s_36_23, s_36_24, s_36_27, s_36_28, s_36_31, s_36_32, s_36_33, s_36_36, s_36_37, s_36_38, s_36_41, s_36_42, s_36_45, s_36_46, s_36_47, s_36_48, s_36_51, s_36_52, s_36_53, s_36_56, s_36_57, s_36_58, s_36_61, s_36_65, s_36_66, s_36_69, s_36_70, s_36_73, s_36_74, s_36_75, s_36_76, s_36_79, s_36_80, s_36_81, s_36_84, s_36_87, mj_lI_s, mj_lI_0, mj_lA_s, mj_lA_0, mj_sL_s, mj_sL_0, mj_s8_0, mj_s8_1, mj_s8_2, mj_s8_3, mj_bc_n, mj_bc_s, mj_bd_s, u2_eq, u2_a, u2_k, ne_eq, Nat.reduceEqDiff, not_false_eq_true, List.nil_append, List.cons_append, eq_self, true_or, or_true, if_true, if_false, false_or, or_false, not_true_eq_false, Bool.false_eq_true, ie_m1_0, ie_m1_1, ie_m1_2, ie_m1_3, ie_m1_4, ie_m1_5, ie_0_m1, ie_0_1, ie_0_2, ie_0_3, ie_0_4, ie_0_5, ie_1_m1, ie_1_0, ie_1_2, ie_1_3, ie_1_4, ie_1_5, ie_2_m1, ie_2_0, ie_2_1, ie_2_3, ie_2_4, ie_2_5, ie_3_m1, ie_3_0, ie_3_1, ie_3_2, ie_3_4, ie_3_5, ie_4_m1, ie_4_0, ie_4_1, ie_4_2, ie_4_3, ie_4_5, ie_5_m1, ie_5_0, ie_5_1, ie_5_2, ie_5_3, ie_5_4, mt_91 H, gv_0 H, gv_1 H, gv_2 H, gv_19 H, gv_20 H, gv_21 H, gv_22 H, gv_23 H, gv_43 H, pv_0 H, pv_1 H, pv_2 H, pv_19 H, pv_20 H, pv_21 H, pv_22 H, pv_23 H, pv_43 H, gr_3 H Y, gr_4 H Y, gr_5 H Y, gr_6 H Y, gr_7 H Y, gr_8 H Y, gr_9 H Y, gr_10 H Y, gr_11 H Y, gr_12 H Y, gr_13 H Y, gr_14 H Y, gr_15 H Y, gr_16 H Y, gr_17 H Y, gr_18 H Y, gr_24 H Y, gr_25 H Y, gr_26 H Y, gr_27 H Y, gr_28 H Y, gr_29 H Y, gr_30 H Y, gr_31 H Y, gr_32 H Y, gr_33 H Y, gr_34 H Y, gr_35 H Y, gr_36 H Y, gr_37 H Y, gr_38 H Y, gr_39 H Y, gr_40 H Y, gr_41 H Y, gr_42 H Y, ra_3 H, ra_4 H, ra_5 H, ra_6 H, ra_7 H, ra_8 H, ra_9 H, ra_10 H, ra_11 H, ra_12 H, ra_13 H, ra_14 H, ra_15 H, ra_16 H, ra_17 H, ra_18 H, ra_24 H, ra_25 H, ra_26 H, ra_27 H, ra_28 H, ra_29 H, ra_30 H, ra_31 H, ra_32 H, ra_33 H, ra_34 H, ra_35 H, ra_36 H, ra_37 H, ra_38 H, ra_39 H, ra_40 H, ra_41 H, ra_42 H, pa_3 H, pa_4 H, pa_5 H, pa_6 H, pa_7 H, pa_8 H, pa_9 H, pa_10 H, pa_11 H, pa_12 H, pa_13 H, pa_14 H, pa_15 H, pa_16 H, pa_17 H, pa_18 H, pa_24 H, pa_25 H, pa_26 H, pa_27 H, pa_28 H, pa_29 H, pa_30 H, pa_31 H, pa_32 H, pa_33 H, pa_34 H, pa_35 H, pa_36 H, pa_37 H, pa_38 H, pa_39 H, pa_40 H, pa_41 H, pa_42 H, h1, hle]
    exact hX b _ hb
  | succ j ih =>
    intro k b hk hb hX
    have hk1 : k < nf := by omega
    have hk12 : k < 12 := by omega
    have hle : (nI nf ≤ nI k) = False := eq_false (nI_ge hk1 (by omega))
    obtain ⟨t1, t2⟩ := hts k hk1
    have he := hE k hk1
    -- going on without a change
    have goon : bB E ts (k + 1) b → Q (mj_Rn pg (d + 1) 36 (10, [some (.inr (some 91)), some (.inl m), some (.inl (lB b)), some (.inl (nI (k + 1)))], [], bl n sh x y)) := fun h => ih (k + 1) b (by omega) h hX
    have took : bB E ts (k + 1) (some k) → Q (mj_Rn pg (d + 1) 36 (10, [some (.inr (some 91)), some (.inl m), some (.inl (nI k)), some (.inl (nI (k + 1)))], [], bl n sh x y)) := fun h => ih (k + 1) (some k) (by omega) h hX
    rw [s_36_10]
    by_cases e : E k = true
    · rw [e] at he
      simp only [if_true] at he
      by_cases t0 : ts k = 0
      · simp only [s_36_0, s_36_1, s_36_3, s_36_6, s_36_7, s_36_8, s_36_9, s_36_11, s_36_12, s_36_15, s_36_18, s_36_19, s_36_22, s_36_23, s_36_24, s_36_27, s_36_28, s_36_31, s_36_32, s_36_33, s_36_36, s_36_37, s_36_38, s_36_41, s_36_42, s_36_45, s_36_46, s_36_47, s_36_48, s_36_51, s_36_52, s_36_53, s_36_56, s_36_57, s_36_58, s_36_61, s_36_65, s_36_66, s_36_69, s_36_70, s_36_73, s_36_74, s_36_75, s_36_76, s_36_79, s_36_80, s_36_81, s_36_84, s_36_87, mj_lI_s, mj_lI_0, mj_lA_s, mj_lA_0, mj_sL_s, mj_sL_0, mj_s8_0, mj_s8_1, mj_s8_2, mj_s8_3, mj_bc_n, mj_bc_s, mj_bd_s, u2_eq, u2_a, u2_k, ne_eq, Nat.reduceEqDiff, not_false_eq_true, List.nil_append, List.cons_append, eq_self, true_or, or_true, if_true, if_false, false_or, or_false, not_true_eq_false, Bool.false_eq_true, ie_m1_0, ie_m1_1, ie_m1_2, ie_m1_3, ie_m1_4, ie_m1_5, ie_0_m1, ie_0_1, ie_0_2, ie_0_3, ie_0_4, ie_0_5, ie_1_m1, ie_1_0, ie_1_2, ie_1_3, ie_1_4, ie_1_5, ie_2_m1, ie_2_0, ie_2_1, ie_2_3, ie_2_4, ie_2_5, ie_3_m1, ie_3_0, ie_3_1, ie_3_2, ie_3_4, ie_3_5, ie_4_m1, ie_4_0, ie_4_1, ie_4_2, ie_4_3, ie_4_5, ie_5_m1, ie_5_0, ie_5_1, ie_5_2, ie_5_3, ie_5_4, mt_91 H, gv_0 H, gv_1 H, gv_2 H, gv_19 H, gv_20 H, gv_21 H, gv_22 H, gv_23 H, gv_43 H, pv_0 H, pv_1 H, pv_2 H, pv_19 H, pv_20 H, pv_21 H, pv_22 H, pv_23 H, pv_43 H, gr_3 H Y, gr_4 H Y, gr_5 H Y, gr_6 H Y, gr_7 H Y, gr_8 H Y, gr_9 H Y, gr_10 H Y, gr_11 H Y, gr_12 H Y, gr_13 H Y, gr_14 H Y, gr_15 H Y, gr_16 H Y, gr_17 H Y, gr_18 H Y, gr_24 H Y, gr_25 H Y, gr_26 H Y, gr_27 H Y, gr_28 H Y, gr_29 H Y, gr_30 H Y, gr_31 H Y, gr_32 H Y, gr_33 H Y, gr_34 H Y, gr_35 H Y, gr_36 H Y, gr_37 H Y, gr_38 H Y, gr_39 H Y, gr_40 H Y, gr_41 H Y, gr_42 H Y, ra_3 H, ra_4 H, ra_5 H, ra_6 H, ra_7 H, ra_8 H, ra_9 H, ra_10 H, ra_11 H, ra_12 H, ra_13 H, ra_14 H, ra_15 H, ra_16 H, ra_17 H, ra_18 H, ra_24 H, ra_25 H, ra_26 H, ra_27 H, ra_28 H, ra_29 H, ra_30 H, ra_31 H, ra_32 H, ra_33 H, ra_34 H, ra_35 H, ra_36 H, ra_37 H, ra_38 H, ra_39 H, ra_40 H, ra_41 H, ra_42 H, pa_3 H, pa_4 H, pa_5 H, pa_6 H, pa_7 H, pa_8 H, pa_9 H, pa_10 H, pa_11 H, pa_12 H, pa_13 H, pa_14 H, pa_15 H, pa_16 H, pa_17 H, pa_18 H, pa_24 H, pa_25 H, pa_26 H, pa_27 H, pa_28 H, pa_29 H, pa_30 H, pa_31 H, pa_32 H, pa_33 H, pa_34 H, pa_35 H, pa_36 H, pa_37 H, pa_38 H, pa_39 H, pa_40 H, pa_41 H, pa_42 H, h1, hle, hk12, he, t1, nI_le0 (show ts k < 2 ^ 31 by omega), t0, nI_1]
        refine goon ?_
        cases b with
        | none =>
          exact fun f hf hh => by
            rcases Nat.lt_or_ge f k with q | q
            · exact hb f q hh
            · have : f = k := by omega
              subst this
              have := hh.2
              omega
        | some g =>
          exact ⟨by have := hb.1; omega, hb.2.1, hb.2.2.1, fun f hf h2 h3 => by
            rcases Nat.lt_or_ge f k with q | q
            · exact hb.2.2.2 f q h2 h3
            · have : f = k := by omega
              subst this
              omega⟩
      · cases b with
        | none =>
          simp only [s_36_0, s_36_1, s_36_3, s_36_6, s_36_7, s_36_8, s_36_9, s_36_11, s_36_12, s_36_15, s_36_18, s_36_19, s_36_22, s_36_23, s_36_24, s_36_27, s_36_28, s_36_31, s_36_32, s_36_33, s_36_36, s_36_37, s_36_38, s_36_41, s_36_42, s_36_45, s_36_46, s_36_47, s_36_48, s_36_51, s_36_52, s_36_53, s_36_56, s_36_57, s_36_58, s_36_61, s_36_65, s_36_66, s_36_69, s_36_70, s_36_73, s_36_74, s_36_75, s_36_76, s_36_79, s_36_80, s_36_81, s_36_84, s_36_87, mj_lI_s, mj_lI_0, mj_lA_s, mj_lA_0, mj_sL_s, mj_sL_0, mj_s8_0, mj_s8_1, mj_s8_2, mj_s8_3, mj_bc_n, mj_bc_s, mj_bd_s, u2_eq, u2_a, u2_k, ne_eq, Nat.reduceEqDiff, not_false_eq_true, List.nil_append, List.cons_append, eq_self, true_or, or_true, if_true, if_false, false_or, or_false, not_true_eq_false, Bool.false_eq_true, ie_m1_0, ie_m1_1, ie_m1_2, ie_m1_3, ie_m1_4, ie_m1_5, ie_0_m1, ie_0_1, ie_0_2, ie_0_3, ie_0_4, ie_0_5, ie_1_m1, ie_1_0, ie_1_2, ie_1_3, ie_1_4, ie_1_5, ie_2_m1, ie_2_0, ie_2_1, ie_2_3, ie_2_4, ie_2_5, ie_3_m1, ie_3_0, ie_3_1, ie_3_2, ie_3_4, ie_3_5, ie_4_m1, ie_4_0, ie_4_1, ie_4_2, ie_4_3, ie_4_5, ie_5_m1, ie_5_0, ie_5_1, ie_5_2, ie_5_3, ie_5_4, mt_91 H, gv_0 H, gv_1 H, gv_2 H, gv_19 H, gv_20 H, gv_21 H, gv_22 H, gv_23 H, gv_43 H, pv_0 H, pv_1 H, pv_2 H, pv_19 H, pv_20 H, pv_21 H, pv_22 H, pv_23 H, pv_43 H, gr_3 H Y, gr_4 H Y, gr_5 H Y, gr_6 H Y, gr_7 H Y, gr_8 H Y, gr_9 H Y, gr_10 H Y, gr_11 H Y, gr_12 H Y, gr_13 H Y, gr_14 H Y, gr_15 H Y, gr_16 H Y, gr_17 H Y, gr_18 H Y, gr_24 H Y, gr_25 H Y, gr_26 H Y, gr_27 H Y, gr_28 H Y, gr_29 H Y, gr_30 H Y, gr_31 H Y, gr_32 H Y, gr_33 H Y, gr_34 H Y, gr_35 H Y, gr_36 H Y, gr_37 H Y, gr_38 H Y, gr_39 H Y, gr_40 H Y, gr_41 H Y, gr_42 H Y, ra_3 H, ra_4 H, ra_5 H, ra_6 H, ra_7 H, ra_8 H, ra_9 H, ra_10 H, ra_11 H, ra_12 H, ra_13 H, ra_14 H, ra_15 H, ra_16 H, ra_17 H, ra_18 H, ra_24 H, ra_25 H, ra_26 H, ra_27 H, ra_28 H, ra_29 H, ra_30 H, ra_31 H, ra_32 H, ra_33 H, ra_34 H, ra_35 H, ra_36 H, ra_37 H, ra_38 H, ra_39 H, ra_40 H, ra_41 H, ra_42 H, pa_3 H, pa_4 H, pa_5 H, pa_6 H, pa_7 H, pa_8 H, pa_9 H, pa_10 H, pa_11 H, pa_12 H, pa_13 H, pa_14 H, pa_15 H, pa_16 H, pa_17 H, pa_18 H, pa_24 H, pa_25 H, pa_26 H, pa_27 H, pa_28 H, pa_29 H, pa_30 H, pa_31 H, pa_32 H, pa_33 H, pa_34 H, pa_35 H, pa_36 H, pa_37 H, pa_38 H, pa_39 H, pa_40 H, pa_41 H, pa_42 H, h1, hle, hk12, he, t1, nI_le0 (show ts k < 2 ^ 31 by omega), t0, nI_1, lB]
          refine took ⟨by omega, e, by omega, fun f hf h2 h3 => ?_⟩
          rcases Nat.lt_or_ge f k with q | q
          · exact absurd ⟨h2, h3⟩ (hb f q)
          · have : f = k := by omega
            subst this
            omega
        | some g =>
          have hg1 : g < nf := by have := hb.1; omega
          have hg12 : g < 12 := by omega
          obtain ⟨u1, u2'⟩ := hts g hg1
          by_cases c : ts k ≤ ts g
          · have c1 : (nI (ts k) ≤ nI (ts g)) = True := eq_true (nI_le c (by omega))
            simp only [s_36_0, s_36_1, s_36_3, s_36_6, s_36_7, s_36_8, s_36_9, s_36_11, s_36_12, s_36_15, s_36_18, s_36_19, s_36_22, s_36_23, s_36_24, s_36_27, s_36_28, s_36_31, s_36_32, s_36_33, s_36_36, s_36_37, s_36_38, s_36_41, s_36_42, s_36_45, s_36_46, s_36_47, s_36_48, s_36_51, s_36_52, s_36_53, s_36_56, s_36_57, s_36_58, s_36_61, s_36_65, s_36_66, s_36_69, s_36_70, s_36_73, s_36_74, s_36_75, s_36_76, s_36_79, s_36_80, s_36_81, s_36_84, s_36_87, mj_lI_s, mj_lI_0, mj_lA_s, mj_lA_0, mj_sL_s, mj_sL_0, mj_s8_0, mj_s8_1, mj_s8_2, mj_s8_3, mj_bc_n, mj_bc_s, mj_bd_s, u2_eq, u2_a, u2_k, ne_eq, Nat.reduceEqDiff, not_false_eq_true, List.nil_append, List.cons_append, eq_self, true_or, or_true, if_true, if_false, false_or, or_false, not_true_eq_false, Bool.false_eq_true, ie_m1_0, ie_m1_1, ie_m1_2, ie_m1_3, ie_m1_4, ie_m1_5, ie_0_m1, ie_0_1, ie_0_2, ie_0_3, ie_0_4, ie_0_5, ie_1_m1, ie_1_0, ie_1_2, ie_1_3, ie_1_4, ie_1_5, ie_2_m1, ie_2_0, ie_2_1, ie_2_3, ie_2_4, ie_2_5, ie_3_m1, ie_3_0, ie_3_1, ie_3_2, ie_3_4, ie_3_5, ie_4_m1, ie_4_0, ie_4_1, ie_4_2, ie_4_3, ie_4_5, ie_5_m1, ie_5_0, ie_5_1, ie_5_2, ie_5_3, ie_5_4, mt_91 H, gv_0 H, gv_1 H, gv_2 H, gv_19 H, gv_20 H, gv_21 H, gv_22 H, gv_23 H, gv_43 H, pv_0 H, pv_1 H, pv_2 H, pv_19 H, pv_20 H, pv_21 H, pv_22 H, pv_23 H, pv_43 H, gr_3 H Y, gr_4 H Y, gr_5 H Y, gr_6 H Y, gr_7 H Y, gr_8 H Y, gr_9 H Y, gr_10 H Y, gr_11 H Y, gr_12 H Y, gr_13 H Y, gr_14 H Y, gr_15 H Y, gr_16 H Y, gr_17 H Y, gr_18 H Y, gr_24 H Y, gr_25 H Y, gr_26 H Y, gr_27 H Y, gr_28 H Y, gr_29 H Y, gr_30 H Y, gr_31 H Y, gr_32 H Y, gr_33 H Y, gr_34 H Y, gr_35 H Y, gr_36 H Y, gr_37 H Y, gr_38 H Y, gr_39 H Y, gr_40 H Y, gr_41 H Y, gr_42 H Y, ra_3 H, ra_4 H, ra_5 H, ra_6 H, ra_7 H, ra_8 H, ra_9 H, ra_10 H, ra_11 H, ra_12 H, ra_13 H, ra_14 H, ra_15 H, ra_16 H, ra_17 H, ra_18 H, ra_24 H, ra_25 H, ra_26 H, ra_27 H, ra_28 H, ra_29 H, ra_30 H, ra_31 H, ra_32 H, ra_33 H, ra_34 H, ra_35 H, ra_36 H, ra_37 H, ra_38 H, ra_39 H, ra_40 H, ra_41 H, ra_42 H, pa_3 H, pa_4 H, pa_5 H, pa_6 H, pa_7 H, pa_8 H, pa_9 H, pa_10 H, pa_11 H, pa_12 H, pa_13 H, pa_14 H, pa_15 H, pa_16 H, pa_17 H, pa_18 H, pa_24 H, pa_25 H, pa_26 H, pa_27 H, pa_28 H, pa_29 H, pa_30 H, pa_31 H, pa_32 H, pa_33 H, pa_34 H, pa_35 H, pa_36 H, pa_37 H, pa_38 H, pa_39 H, pa_40 H, pa_41 H, pa_42 H, h1, hle, hk12, hg12, he, t1, u1, nI_le0 (show ts k < 2 ^ 31 by omega), t0, nI_1, lB, nI_nm1 (show g < 1000 by omega), c1]
            refine goon ⟨by have := hb.1; omega, hb.2.1, hb.2.2.1, fun f hf h2 h3 => ?_⟩
            rcases Nat.lt_or_ge f k with q | q
            · exact hb.2.2.2 f q h2 h3
            · have : f = k := by omega
              subst this
              exact c
          · have c1 : (nI (ts k) ≤ nI (ts g)) = False := eq_false (nI_ge (by omega) (by omega))
            simp only [s_36_0, s_36_1, s_36_3, s_36_6, s_36_7, s_36_8, s_36_9, s_36_11, s_36_12, s_36_15, s_36_18, s_36_19, s_36_22, s_36_23, s_36_24, s_36_27, s_36_28, s_36_31, s_36_32, s_36_33, s_36_36, s_36_37, s_36_38, s_36_41, s_36_42, s_36_45, s_36_46, s_36_47, s_36_48, s_36_51, s_36_52, s_36_53, s_36_56, s_36_57, s_36_58, s_36_61, s_36_65, s_36_66, s_36_69, s_36_70, s_36_73, s_36_74, s_36_75, s_36_76, s_36_79, s_36_80, s_36_81, s_36_84, s_36_87, mj_lI_s, mj_lI_0, mj_lA_s, mj_lA_0, mj_sL_s, mj_sL_0, mj_s8_0, mj_s8_1, mj_s8_2, mj_s8_3, mj_bc_n, mj_bc_s, mj_bd_s, u2_eq, u2_a, u2_k, ne_eq, Nat.reduceEqDiff, not_false_eq_true, List.nil_append, List.cons_append, eq_self, true_or, or_true, if_true, if_false, false_or, or_false, not_true_eq_false, Bool.false_eq_true, ie_m1_0, ie_m1_1, ie_m1_2, ie_m1_3, ie_m1_4, ie_m1_5, ie_0_m1, ie_0_1, ie_0_2, ie_0_3, ie_0_4, ie_0_5, ie_1_m1, ie_1_0, ie_1_2, ie_1_3, ie_1_4, ie_1_5, ie_2_m1, ie_2_0, ie_2_1, ie_2_3, ie_2_4, ie_2_5, ie_3_m1, ie_3_0, ie_3_1, ie_3_2, ie_3_4, ie_3_5, ie_4_m1, ie_4_0, ie_4_1, ie_4_2, ie_4_3, ie_4_5, ie_5_m1, ie_5_0, ie_5_1, ie_5_2, ie_5_3, ie_5_4, mt_91 H, gv_0 H, gv_1 H, gv_2 H, gv_19 H, gv_20 H, gv_21 H, gv_22 H, gv_23 H, gv_43 H, pv_0 H, pv_1 H, pv_2 H, pv_19 H, pv_20 H, pv_21 H, pv_22 H, pv_23 H, pv_43 H, gr_3 H Y, gr_4 H Y, gr_5 H Y, gr_6 H Y, gr_7 H Y, gr_8 H Y, gr_9 H Y, gr_10 H Y, gr_11 H Y, gr_12 H Y, gr_13 H Y, gr_14 H Y, gr_15 H Y, gr_16 H Y, gr_17 H Y, gr_18 H Y, gr_24 H Y, gr_25 H Y, gr_26 H Y, gr_27 H Y, gr_28 H Y, gr_29 H Y, gr_30 H Y, gr_31 H Y, gr_32 H Y, gr_33 H Y, gr_34 H Y, gr_35 H Y, gr_36 H Y, gr_37 H Y, gr_38 H Y, gr_39 H Y, gr_40 H Y, gr_41 H Y, gr_42 H Y, ra_3 H, ra_4 H, ra_5 H, ra_6 H, ra_7 H, ra_8 H, ra_9 H, ra_10 H, ra_11 H, ra_12 H, ra_13 H, ra_14 H, ra_15 H, ra_16 H, ra_17 H, ra_18 H, ra_24 H, ra_25 H, ra_26 H, ra_27 H, ra_28 H, ra_29 H, ra_30 H, ra_31 H, ra_32 H, ra_33 H, ra_34 H, ra_35 H, ra_36 H, ra_37 H, ra_38 H, ra_39 H, ra_40 H, ra_41 H, ra_42 H, pa_3 H, pa_4 H, pa_5 H, pa_6 H, pa_7 H, pa_8 H, pa_9 H, pa_10 H, pa_11 H, pa_12 H, pa_13 H, pa_14 H, pa_15 H, pa_16 H, pa_17 H, pa_18 H, pa_24 H, pa_25 H, pa_26 H, pa_27 H, pa_28 H, pa_29 H, pa_30 H, pa_31 H, pa_32 H, pa_33 H, pa_34 H, pa_35 H, pa_36 H, pa_37 H, pa_38 H, pa_39 H, pa_40 H, pa_41 H, pa_42 H, h1, hle, hk12, hg12, he, t1, u1, nI_le0 (show ts k < 2 ^ 31 by omega), t0, nI_1, lB, nI_nm1 (show g < 1000 by omega), c1]
            refine took ⟨by omega, e, by omega, fun f hf h2 h3 => ?_⟩
            rcases Nat.lt_or_ge f k with q | q
            · have := hb.2.2.2 f q h2 h3
              omega
            · have : f = k := by omega
              subst this
              omega
    · simp only [e, if_false] at he
      simp only [s_36_0, s_36_1, s_36_3, s_36_6, s_36_7, s_36_8, s_36_9, s_36_11, s_36_12, s_36_15, s_36_18, s_36_19, s_36_22, s_36_23, s_36_24, s_36_27, s_36_28, s_36_31, s_36_32, s_36_33, s_36_36, s_36_37, s_36_38, s_36_41, s_36_42, s_36_45, s_36_46, s_36_47, s_36_48, s_36_51, s_36_52, s_36_53, s_36_56, s_36_57, s_36_58, s_36_61, s_36_65, s_36_66, s_36_69, s_36_70, s_36_73, s_36_74, s_36_75, s_36_76, s_36_79, s_36_80, s_36_81, s_36_84, s_36_87, mj_lI_s, mj_lI_0, mj_lA_s, mj_lA_0, mj_sL_s, mj_sL_0, mj_s8_0, mj_s8_1, mj_s8_2, mj_s8_3, mj_bc_n, mj_bc_s, mj_bd_s, u2_eq, u2_a, u2_k, ne_eq, Nat.reduceEqDiff, not_false_eq_true, List.nil_append, List.cons_append, eq_self, true_or, or_true, if_true, if_false, false_or, or_false, not_true_eq_false, Bool.false_eq_true, ie_m1_0, ie_m1_1, ie_m1_2, ie_m1_3, ie_m1_4, ie_m1_5, ie_0_m1, ie_0_1, ie_0_2, ie_0_3, ie_0_4, ie_0_5, ie_1_m1, ie_1_0, ie_1_2, ie_1_3, ie_1_4, ie_1_5, ie_2_m1, ie_2_0, ie_2_1, ie_2_3, ie_2_4, ie_2_5, ie_3_m1, ie_3_0, ie_3_1, ie_3_2, ie_3_4, ie_3_5, ie_4_m1, ie_4_0, ie_4_1, ie_4_2, ie_4_3, ie_4_5, ie_5_m1, ie_5_0, ie_5_1, ie_5_2, ie_5_3, ie_5_4, mt_91 H, gv_0 H, gv_1 H, gv_2 H, gv_19 H, gv_20 H, gv_21 H, gv_22 H, gv_23 H, gv_43 H, pv_0 H, pv_1 H, pv_2 H, pv_19 H, pv_20 H, pv_21 H, pv_22 H, pv_23 H, pv_43 H, gr_3 H Y, gr_4 H Y, gr_5 H Y, gr_6 H Y, gr_7 H Y, gr_8 H Y, gr_9 H Y, gr_10 H Y, gr_11 H Y, gr_12 H Y, gr_13 H Y, gr_14 H Y, gr_15 H Y, gr_16 H Y, gr_17 H Y, gr_18 H Y, gr_24 H Y, gr_25 H Y, gr_26 H Y, gr_27 H Y, gr_28 H Y, gr_29 H Y, gr_30 H Y, gr_31 H Y, gr_32 H Y, gr_33 H Y, gr_34 H Y, gr_35 H Y, gr_36 H Y, gr_37 H Y, gr_38 H Y, gr_39 H Y, gr_40 H Y, gr_41 H Y, gr_42 H Y, ra_3 H, ra_4 H, ra_5 H, ra_6 H, ra_7 H, ra_8 H, ra_9 H, ra_10 H, ra_11 H, ra_12 H, ra_13 H, ra_14 H, ra_15 H, ra_16 H, ra_17 H, ra_18 H, ra_24 H, ra_25 H, ra_26 H, ra_27 H, ra_28 H, ra_29 H, ra_30 H, ra_31 H, ra_32 H, ra_33 H, ra_34 H, ra_35 H, ra_36 H, ra_37 H, ra_38 H, ra_39 H, ra_40 H, ra_41 H, ra_42 H, pa_3 H, pa_4 H, pa_5 H, pa_6 H, pa_7 H, pa_8 H, pa_9 H, pa_10 H, pa_11 H, pa_12 H, pa_13 H, pa_14 H, pa_15 H, pa_16 H, pa_17 H, pa_18 H, pa_24 H, pa_25 H, pa_26 H, pa_27 H, pa_28 H, pa_29 H, pa_30 H, pa_31 H, pa_32 H, pa_33 H, pa_34 H, pa_35 H, pa_36 H, pa_37 H, pa_38 H, pa_39 H, pa_40 H, pa_41 H, pa_42 H, h1, hle, hk12, he, nI_1]
      refine goon ?_
      cases b with
      | none =>
        exact fun f hf hh => by
          rcases Nat.lt_or_ge f k with q | q
          · exact hb f q hh
          · have : f = k := by omega
            subst this
            exact e hh.1
      | some g =>
        exact ⟨by have := hb.1; omega, hb.2.1, hb.2.2.1, fun f hf h2 h3 => by
          rcases Nat.lt_or_ge f k with q | q
          · exact hb.2.2.2 f q h2 h3
          · have : f = k := by omega
            subst this
            exact absurd h2 e⟩
theorem last_max {ts : Nat → Nat} {g : Nat} : ∀ (l : List Nat), l.Pairwise (fun a b => ts a < ts b) → g ∈ l → (∀ f ∈ l, ts f ≤ ts g) → l = l.filter (fun a => a != g) ++ [g] := by
  intro l
  induction l with
  | nil => intro _ h; simp at h
  | cons a l ih =>
    intro hp hg hm
    rw [List.pairwise_cons] at hp
    by_cases e : a = g
    · subst e
      have : l = [] := by
        cases l with
        | nil => rfl
        | cons b l =>
          have h1 := hp.1 b List.mem_cons_self
          have h2 := hm b (by simp)
          omega
      subst this
      simp
    · have hg' : g ∈ l := by
        rcases List.mem_cons.mp hg with q | q
        · exact absurd q.symm e
        · exact q
      have h1 := ih hp.2 hg' (fun f hf => hm f (List.mem_cons_of_mem _ hf))
      rw [List.filter_cons_of_pos (by simp [e]), List.cons_append, ← h1]
/-- all that are marked end, the latest first -/
theorem mm_36L (d : Nat) (H : moK n sh) (Y : moY y) {nf : Nat} {E : Nat → Bool} {ef : Nat → Nat} (h12 : nf ≤ 12) : ∀ (m : Nat) (x : Nat → Nat → Int32) (md : List Nat) (q : rq) (ev : List re3) (fl : Nat) (v2 v3 : Option mj_V) (Q : Option mj_R → Prop), x 91 1 = nI nf → (∀ f, f < nf → x 126 f = if E f = true then 1 else 0) → rM x nf ef md q ev fl → (md.filter E).length = m → ev.length + m ≤ 7999 →
    (∀ x', rM x' nf ef (md.filter (fun f => !E f)) (((md.filter E).reverse).foldl (sE ef) (q, ev, fl)).1 (((md.filter E).reverse).foldl (sE ef) (q, ev, fl)).2.1 (((md.filter E).reverse).foldl (sE ef) (q, ev, fl)).2.2 → fE x x' → Q (some (none, bl n sh x' y))) →
    Q (mj_Rn pg (d + 3) 36 (2, [some (.inr (some 91)), some (.inl 1), v2, v3], [], bl n sh x y)) := by
  intro m
  induction m with
  | zero =>
    intro x md q ev fl v2 v3 Q h1 hE hR hm hl hX
    obtain ⟨⟨ts, mk, ⟨m1, m2, m3, m4, m5⟩, hmk, hmk1⟩, -⟩ := id hR
    have hts : ∀ f, f < nf → x 108 f = nI (ts f) ∧ ts f ≤ 100000 := fun f hf => ⟨(m3 f hf).1, by have := (m3 f hf).2; omega⟩
    have hnil : md.filter E = [] := List.eq_nil_of_length_eq_zero hm
    have hno : ∀ f ∈ md, ¬ E f = true := fun f hf he => by
      have : f ∈ md.filter E := List.mem_filter.mpr ⟨hf, he⟩
      rw [hnil] at this
      simp at this
    rw [s_36_2]
    simp only [s_36_3, s_36_6, s_36_7, s_36_8, s_36_9, mj_lI_s, mj_lI_0, mj_lA_s, mj_lA_0, mj_sL_s, mj_sL_0, mj_s8_0, mj_s8_1, mj_s8_2, mj_s8_3, mj_bc_n, mj_bc_s, mj_bd_s, u2_eq, u2_a, u2_k, ne_eq, Nat.reduceEqDiff, not_false_eq_true, List.nil_append, List.cons_append, eq_self, true_or, or_true, if_true, if_false, false_or, or_false, not_true_eq_false, Bool.false_eq_true, ie_m1_0, ie_m1_1, ie_m1_2, ie_m1_3, ie_m1_4, ie_m1_5, ie_0_m1, ie_0_1, ie_0_2, ie_0_3, ie_0_4, ie_0_5, ie_1_m1, ie_1_0, ie_1_2, ie_1_3, ie_1_4, ie_1_5, ie_2_m1, ie_2_0, ie_2_1, ie_2_3, ie_2_4, ie_2_5, ie_3_m1, ie_3_0, ie_3_1, ie_3_2, ie_3_4, ie_3_5, ie_4_m1, ie_4_0, ie_4_1, ie_4_2, ie_4_3, ie_4_5, ie_5_m1, ie_5_0, ie_5_1, ie_5_2, ie_5_3, ie_5_4]
    refine mm_36i (d + 2) H Y h12 h1 hE hts Q nf 0 none (by omega) (fun f hf => absurd hf (Nat.not_lt_zero f)) (fun b w hb => ?_)
    cases b with
    | none =>
      simp only [s_36_64, s_36_65, s_36_66, s_36_69, s_36_70, s_36_73, s_36_74, s_36_75, s_36_76, s_36_79, s_36_80, s_36_81, s_36_84, mj_lI_s, mj_lI_0, mj_lA_s, mj_lA_0, mj_sL_s, mj_sL_0, mj_s8_0, mj_s8_1, mj_s8_2, mj_s8_3, mj_bc_n, mj_bc_s, mj_bd_s, u2_eq, u2_a, u2_k, ne_eq, Nat.reduceEqDiff, not_false_eq_true, List.nil_append, List.cons_append, eq_self, true_or, or_true, if_true, if_false, false_or, or_false, not_true_eq_false, Bool.false_eq_true, ie_m1_0, ie_m1_1, ie_m1_2, ie_m1_3, ie_m1_4, ie_m1_5, ie_0_m1, ie_0_1, ie_0_2, ie_0_3, ie_0_4, ie_0_5, ie_1_m1, ie_1_0, ie_1_2, ie_1_3, ie_1_4, ie_1_5, ie_2_m1, ie_2_0, ie_2_1, ie_2_3, ie_2_4, ie_2_5, ie_3_m1, ie_3_0, ie_3_1, ie_3_2, ie_3_4, ie_3_5, ie_4_m1, ie_4_0, ie_4_1, ie_4_2, ie_4_3, ie_4_5, ie_5_m1, ie_5_0, ie_5_1, ie_5_2, ie_5_3, ie_5_4, lB]
      rw [s_36_2]
      simp only [s_36_0, s_36_1, s_36_2, s_36_3, s_36_6, s_36_7, s_36_8, s_36_9, s_36_10, s_36_11, s_36_12, s_36_15, s_36_18, s_36_19, s_36_22, s_36_23, s_36_24, s_36_27, s_36_28, s_36_31, s_36_32, s_36_33, s_36_36, s_36_37, s_36_38, s_36_41, s_36_42, s_36_45, s_36_46, s_36_47, s_36_48, s_36_51, s_36_52, s_36_53, s_36_56, s_36_57, s_36_58, s_36_61, s_36_64, s_36_65, s_36_66, s_36_69, s_36_70, s_36_73, s_36_74, s_36_75, s_36_76, s_36_79, s_36_80, s_36_81, s_36_84, s_36_87, mj_lI_s, mj_lI_0, mj_lA_s, mj_lA_0, mj_sL_s, mj_sL_0, mj_s8_0, mj_s8_1, mj_s8_2, mj_s8_3, mj_bc_n, mj_bc_s, mj_bd_s, u2_eq, u2_a, u2_k, ne_eq, Nat.reduceEqDiff, not_false_eq_true, List.nil_append, List.cons_append, eq_self, true_or, or_true, if_true, if_false, false_or, or_false, not_true_eq_false, Bool.false_eq_true, ie_m1_0, ie_m1_1, ie_m1_2, ie_m1_3, ie_m1_4, ie_m1_5, ie_0_m1, ie_0_1, ie_0_2, ie_0_3, ie_0_4, ie_0_5, ie_1_m1, ie_1_0, ie_1_2, ie_1_3, ie_1_4, ie_1_5, ie_2_m1, ie_2_0, ie_2_1, ie_2_3, ie_2_4, ie_2_5, ie_3_m1, ie_3_0, ie_3_1, ie_3_2, ie_3_4, ie_3_5, ie_4_m1, ie_4_0, ie_4_1, ie_4_2, ie_4_3, ie_4_5, ie_5_m1, ie_5_0, ie_5_1, ie_5_2, ie_5_3, ie_5_4]
      refine hX x ?_ (fE.rf x)
      rw [hnil]
      have : md.filter (fun f => !E f) = md := List.filter_eq_self.mpr (fun f hf => by simp [hno f hf])
      rw [this]
      exact hR
    | some g =>
      exact absurd hb.2.1 (hno g ((m4 g hb.1).mpr hb.2.2.1))
  | succ m ih =>
    intro x md q ev fl v2 v3 Q h1 hE hR hm hl hX
    obtain ⟨⟨ts, mk, ⟨m1, m2, m3, m4, m5⟩, hmk, hmk1⟩, -⟩ := id hR
    have hts : ∀ f, f < nf → x 108 f = nI (ts f) ∧ ts f ≤ 100000 := fun f hf => ⟨(m3 f hf).1, by have := (m3 f hf).2; omega⟩
    rw [s_36_2]
    simp only [s_36_3, s_36_6, s_36_7, s_36_8, s_36_9, mj_lI_s, mj_lI_0, mj_lA_s, mj_lA_0, mj_sL_s, mj_sL_0, mj_s8_0, mj_s8_1, mj_s8_2, mj_s8_3, mj_bc_n, mj_bc_s, mj_bd_s, u2_eq, u2_a, u2_k, ne_eq, Nat.reduceEqDiff, not_false_eq_true, List.nil_append, List.cons_append, eq_self, true_or, or_true, if_true, if_false, false_or, or_false, not_true_eq_false, Bool.false_eq_true, ie_m1_0, ie_m1_1, ie_m1_2, ie_m1_3, ie_m1_4, ie_m1_5, ie_0_m1, ie_0_1, ie_0_2, ie_0_3, ie_0_4, ie_0_5, ie_1_m1, ie_1_0, ie_1_2, ie_1_3, ie_1_4, ie_1_5, ie_2_m1, ie_2_0, ie_2_1, ie_2_3, ie_2_4, ie_2_5, ie_3_m1, ie_3_0, ie_3_1, ie_3_2, ie_3_4, ie_3_5, ie_4_m1, ie_4_0, ie_4_1, ie_4_2, ie_4_3, ie_4_5, ie_5_m1, ie_5_0, ie_5_1, ie_5_2, ie_5_3, ie_5_4]
    refine mm_36i (d + 2) H Y h12 h1 hE hts Q nf 0 none (by omega) (fun f hf => absurd hf (Nat.not_lt_zero f)) (fun b w hb => ?_)
    cases b with
    | none =>
      have : md.filter E = [] := List.filter_eq_nil_iff.mpr (fun f hf he => hb f (m2 f hf) ⟨he, (m4 f (m2 f hf)).mp hf⟩)
      rw [this] at hm
      simp at hm
    | some g =>
      have hgm : g ∈ md := (m4 g hb.1).mpr hb.2.2.1
      have hgE : g ∈ md.filter E := List.mem_filter.mpr ⟨hgm, hb.2.1⟩
      have hlast := last_max (ts := ts) (g := g) (md.filter E) (m5.filter E) hgE (fun f hf => by
        obtain ⟨f1, f2⟩ := List.mem_filter.mp hf
        exact hb.2.2.2 f (m2 f f1) f2 ((m4 f (m2 f f1)).mp f1))
      have her : md.erase g = md.filter (fun a => a != g) := m1.erase_eq_filter g
      have hfe : (md.erase g).filter E = (md.filter E).filter (fun a => a != g) := by
        rw [her, List.filter_filter, List.filter_filter]
        congr 1
        funext a
        exact Bool.and_comm _ _
      have hne : (md.erase g).filter (fun f => !E f) = md.filter (fun f => !E f) := by
        rw [her, List.filter_filter]
        apply List.filter_congr
        intro a _
        by_cases ea : a = g
        · subst ea; simp [hb.2.1]
        · simp [ea]
      have hlen : ((md.erase g).filter E).length = m := by
        have h9 := congrArg List.length hlast
        rw [List.length_append, hm, List.length_singleton] at h9
        rw [hfe]
        omega
      obtain ⟨x1, r1, r2, r3⟩ := mm_35' (y := y) d H Y h12 hR hgm (by omega)
      have hrev : (md.filter E).reverse = g :: ((md.erase g).filter E).reverse := by
        rw [hfe]
        conv => lhs; rw [hlast]
        simp
      simp only [s_36_64, s_36_65, s_36_66, s_36_69, s_36_70, s_36_73, s_36_74, s_36_75, s_36_76, s_36_79, s_36_80, s_36_81, s_36_84, mj_lI_s, mj_lI_0, mj_lA_s, mj_lA_0, mj_sL_s, mj_sL_0, mj_s8_0, mj_s8_1, mj_s8_2, mj_s8_3, mj_bc_n, mj_bc_s, mj_bd_s, u2_eq, u2_a, u2_k, ne_eq, Nat.reduceEqDiff, not_false_eq_true, List.nil_append, List.cons_append, eq_self, true_or, or_true, if_true, if_false, false_or, or_false, not_true_eq_false, Bool.false_eq_true, ie_m1_0, ie_m1_1, ie_m1_2, ie_m1_3, ie_m1_4, ie_m1_5, ie_0_m1, ie_0_1, ie_0_2, ie_0_3, ie_0_4, ie_0_5, ie_1_m1, ie_1_0, ie_1_2, ie_1_3, ie_1_4, ie_1_5, ie_2_m1, ie_2_0, ie_2_1, ie_2_3, ie_2_4, ie_2_5, ie_3_m1, ie_3_0, ie_3_1, ie_3_2, ie_3_4, ie_3_5, ie_4_m1, ie_4_0, ie_4_1, ie_4_2, ie_4_3, ie_4_5, ie_5_m1, ie_5_0, ie_5_1, ie_5_2, ie_5_3, ie_5_4, lB, nI_nm1 (show g < 1000 by have := m2 g hgm; omega), mt_91 H, r1]
      refine ih x1 (md.erase g) _ _ _ _ _ Q ?_ (fun f hf => ?_) r2 hlen ?_ (fun x2 p1 p2 => ?_)
      · rw [r3 91 1 (by decide) (by decide) (by decide) (by decide) (by decide) (by decide) (by decide)]; exact h1
      · rw [r3 126 f (by decide) (by decide) (by decide) (by decide) (by decide) (by decide) (by omega)]; exact hE f hf
      · simp only [sE, List.length_append, List.length_cons, List.length_nil]; omega
      · rw [hne] at p1
        refine hX x2 ?_ (r3.tr p2)
        rw [hrev, List.foldl_cons]
        exact p1
/-- endMarked -/
theorem mm_36 (d : Nat) (H : moK n sh) (Y : moY y) {nf : Nat} {E : Nat → Bool} {ef : Nat → Nat} (h12 : nf ≤ 12) {md : List Nat} {q : rq} {ev : List re3} {fl : Nat} (h1 : x 91 1 = nI nf) (hE : ∀ f, f < nf → x 126 f = if E f = true then 1 else 0) (hR : rM x nf ef md q ev fl) (hl : ev.length + 12 ≤ 7999) : ∃ x', mj_Cl pg (d + 3) 36 [.inr (some 91)] (bl n sh x y) = some (none, bl n sh x' y) ∧ rM x' nf ef (md.filter (fun f => !E f)) (((md.filter E).reverse).foldl (sE ef) (q, ev, fl)).1 (((md.filter E).reverse).foldl (sE ef) (q, ev, fl)).2.1 (((md.filter E).reverse).foldl (sE ef) (q, ev, fl)).2.2 ∧ fE x x' := by
  have hlen : (md.filter E).length ≤ 12 := by
    obtain ⟨⟨ts, mk, ⟨m1, m2, -⟩, -⟩, -⟩ := id hR
    have h9 := nd_len nf (md.filter E) (m1.filter E) (fun f hf => m2 f (List.mem_filter.mp hf).1)
    omega
  rw [e_36]
  simp only [s_36_0, s_36_1, mj_lI_s, mj_lI_0, mj_lA_s, mj_lA_0, mj_sL_s, mj_sL_0, mj_s8_0, mj_s8_1, mj_s8_2, mj_s8_3, mj_bc_n, mj_bc_s, mj_bd_s, u2_eq, u2_a, u2_k, ne_eq, Nat.reduceEqDiff, not_false_eq_true, List.nil_append, List.cons_append, eq_self, true_or, or_true, if_true, if_false, false_or, or_false, not_true_eq_false, Bool.false_eq_true, ie_m1_0, ie_m1_1, ie_m1_2, ie_m1_3, ie_m1_4, ie_m1_5, ie_0_m1, ie_0_1, ie_0_2, ie_0_3, ie_0_4, ie_0_5, ie_1_m1, ie_1_0, ie_1_2, ie_1_3, ie_1_4, ie_1_5, ie_2_m1, ie_2_0, ie_2_1, ie_2_3, ie_2_4, ie_2_5, ie_3_m1, ie_3_0, ie_3_1, ie_3_2, ie_3_4, ie_3_5, ie_4_m1, ie_4_0, ie_4_1, ie_4_2, ie_4_3, ie_4_5, ie_5_m1, ie_5_0, ie_5_1, ie_5_2, ie_5_3, ie_5_4]
  exact mm_36L d H Y h12 _ x md q ev fl none none (fun z => ∃ x', z = some (none, bl n sh x' y) ∧ rM x' nf ef (md.filter (fun f => !E f)) (((md.filter E).reverse).foldl (sE ef) (q, ev, fl)).1 (((md.filter E).reverse).foldl (sE ef) (q, ev, fl)).2.1 (((md.filter E).reverse).foldl (sE ef) (q, ev, fl)).2.2 ∧ fE x x') h1 hE hR rfl (by omega) (fun x' p1 p2 => ⟨x', rfl, p1, p2⟩)
end EN
