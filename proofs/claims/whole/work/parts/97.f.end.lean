/-! ending those that are marked, the bits: of the program -/
def oB (P : Nat → Bool) (l : List Nat) (z : Int32) : Int32 := l.foldl (fun z f => if P f = true then z ||| bF f else z) z
theorem oB_bt (P : Nat → Bool) : ∀ (l : List Nat) (z : Int32), (∀ f ∈ l, f < 32) → ∀ i, bt (oB P l z) i = (bt z i || decide (i ∈ l ∧ P i = true)) := by
  intro l
  induction l with
  | nil => intro z _ i; simp [oB]
  | cons f l ih =>
    intro z h i
    show bt (oB P l (if P f = true then z ||| bF f else z)) i = _
    rw [ih _ (fun g hg => h g (List.mem_cons_of_mem _ hg)) i]
    by_cases c : P f = true
    · rw [if_pos c, b_or, bF, bb_bit (h f List.mem_cons_self)]
      by_cases e : i = f
      · subst e; simp [c]
      · simp [e]
    · rw [if_neg c]
      by_cases e : i = f
      · subst e; simp [c]
      · simp [e]
section EN
variable {n : Nat} {sh : Nat → Nat × Nat} {hF hT : Nat → Nat} {w : sW} {nb : Nat → Nat → Bool}
/-- endMade -/
theorem rk_88 (d : Nat) {x : Nat → Nat → Int32} {y : Nat → Nat → Option Nat} {s : rs} {z : Int32} {B : Nat → Bool} (hS : suP n sh x y hF hT w nb) (hU : runP n sh y) (hM : mdP n sh x y hF (wF w) s) (hB : ∀ f ∈ s.1, bt z f = B f) (hl : s.2.2.length + s.1.length ≤ 3492) :
    ∃ x' y', mj_Cl pg (d + 2) 88 [.inr (some 5), .inl z] (bl n sh x y) = some (some (.inl (nI (((s.1.filter B).reverse).foldl (sE (wA w 2)) (s.2.1, s.2.2, 0)).2.2)), bl n sh x' y') ∧ mdP n sh x' y' hF (wF w) (s.1.filter (fun f => !B f), (((s.1.filter B).reverse).foldl (sE (wA w 2)) (s.2.1, s.2.2, 0)).1, (((s.1.filter B).reverse).foldl (sE (wA w 2)) (s.2.1, s.2.2, 0)).2.1) ∧ fG sh x x' y y' := by
  have loop : ∀ (rp suf : List Nat) (q : rq) (ev : List re3) (fl : Nat) (x : Nat → Nat → Int32) (y : Nat → Nat → Option Nat) (fx : Option mj_V) (Q : Option mj_R → Prop), suP n sh x y hF hT w nb → runP n sh y → mdP n sh x y hF (wF w) (rp.reverse ++ suf, q, ev) → (∀ f ∈ rp, bt z f = B f) → ev.length + rp.length ≤ 3492 →
      (∀ x' y', mdP n sh x' y' hF (wF w) (rp.reverse.filter (fun f => !B f) ++ suf, ((rp.filter B).foldl (sE (wA w 2)) (q, ev, fl)).1, ((rp.filter B).foldl (sE (wA w 2)) (q, ev, fl)).2.1) → fG sh x x' y y' → Q (some (some (.inl (nI ((rp.filter B).foldl (sE (wA w 2)) (q, ev, fl)).2.2)), bl n sh x' y'))) →
      Q (mj_Rn pg (d + 2) 88 (12, [some (.inr (some 5)), some (.inl z), some (.inl (nI fl)), some (.inl (nI rp.length + (-1))), fx], [], bl n sh x y)) := by
    intro rp
    induction rp with
    | nil =>
      intro suf q ev fl x y fx Q hS hU hM hB hl hQ
      have c1 : (nI ([] : List Nat).length + (-1) < 0) = True := eq_true (by decide)
      rw [s_88_12]
      simp only [s_88_13, s_88_16, s_88_17, s_88_20, s_88_23, s_88_24, s_88_25, s_88_27, s_88_28, s_88_30, s_88_33, s_88_34, s_88_37, s_88_38, s_88_41, s_88_42, s_88_45, s_88_47, s_88_50, s_88_51, s_88_54, s_88_56, s_88_59, s_88_62, s_88_63, s_88_66, s_88_67, s_88_69, s_88_72, s_88_74, s_88_77, s_88_80, s_88_81, s_88_83, s_88_86, s_88_89, s_88_90, s_88_93, s_88_94, s_88_95, s_88_96, s_88_99, s_88_102, s_88_103, mj_lI_s, mj_lI_0, mj_lA_s, mj_lA_0, mj_sL_s, mj_sL_0, mj_s8_0, mj_s8_1, mj_s8_2, mj_s8_3, mj_bc_n, mj_bc_s, mj_bd_s, u2_eq, u2_a, u2_k, ne_eq, Nat.reduceEqDiff, not_false_eq_true, List.nil_append, List.cons_append, eq_self, true_or, or_true, if_true, if_false, false_or, or_false, not_true_eq_false, Bool.false_eq_true, ie_m1_0, ie_m1_1, ie_m1_2, ie_m1_3, ie_m1_4, ie_m1_5, ie_0_m1, ie_0_1, ie_0_2, ie_0_3, ie_0_4, ie_0_5, ie_1_m1, ie_1_0, ie_1_2, ie_1_3, ie_1_4, ie_1_5, ie_2_m1, ie_2_0, ie_2_1, ie_2_3, ie_2_4, ie_2_5, ie_3_m1, ie_3_0, ie_3_1, ie_3_2, ie_3_4, ie_3_5, ie_4_m1, ie_4_0, ie_4_1, ie_4_2, ie_4_3, ie_4_5, ie_5_m1, ie_5_0, ie_5_1, ie_5_2, ie_5_3, ie_5_4, c1]
      exact hQ x y hM (fG.rf sh x y)
    | cons f rp ih =>
      intro suf q ev fl x y fx Q hS hU hM hB hl hQ
      have hX := hS.2.1
      have e1 : nI (f :: rp).length + (-1) = nI rp.length := nI_dec rp.length
      have hrow := hM.1
      rw [show ((f :: rp).reverse ++ suf, q, ev).1 = rp.reverse ++ f :: suf by simp] at hrow
      have hmem : f ∈ (rp.reverse ++ f :: suf) := by simp
      have hfn : f < wF w := hrow.2.2.2.2.2.1 f hmem
      have ho := (hX.2.1 f hfn).1
      have h0 := (hX.2.1 f hfn).2.1
      have hbf := (hX.2.1 f hfn).2.2
      have h6o := hrow.1.1
      have h7o := hrow.1.2.1
      have h60 := hrow.1.2.2.1
      have hl12 : rp.length < 12 := by
        have := hrow.2.2.2.2.1
        simp at this
        omega
      have c1 : (nI rp.length < 0) = False := eq_false (nI_pos (by omega))
      have hy7 : y 7 rp.length = some (hF f) := hrow.2.2.2.2.2.2 rp.length f (by simp)
      have hz : (z &&& bF f = 0) = (bt z f = false) := by rw [bF]; exact bb_andb z (by have := hX.1; omega)
      rw [hB f List.mem_cons_self] at hz
      obtain ⟨hU0, hU1, hU2, hU3⟩ := id hU
      rw [s_88_12]
      by_cases c : B f = true
      · rw [c] at hz
        have hz : (z &&& bF f = 0) = False := hz.trans (by simp)
        have k5 := (hS.2.2.1 f hfn).1.2.2.2.2.1
        have he1 := (hS.2.2.1 f hfn).2.2.2.2
        obtain ⟨x1, y1, p1, p2, p3, p4⟩ := rk_72 (d := d) (a := rp.reverse) (b := suf) hrow hX
        rw [List.length_reverse] at p1
        have hne : ∀ g, g < wF w → hF g ≠ 6 := fun g hg => ob_ne (hX.2.1 g hg).1 h6o (by decide)
        have hX1 : fxP n sh x1 hF (wF w) := hX.cong (fun g hg => ⟨p3 _ _ (fun z => hne g hg z.1), p3 _ _ (fun z => hne g hg z.1)⟩)
        have hG1 : fG sh x x1 y y1 := ⟨fun a k _ q2 _ _ => p3 a k (fun z => q2 ⟨z.1, by omega⟩), p4⟩
        have hmd : mdP n sh x1 y1 hF (wF w) (rp.reverse ++ suf, q, ev) := ⟨p2, hM.2.1.cong (fun k => ⟨p3 _ _ (by omega), p3 _ _ (by omega)⟩) (p4 _ _ (by decide)), fun g hg => by
          have e : ∀ k, x1 (hF g) k = x (hF g) k := fun k => p3 _ _ (fun z => hne g hg z.1)
          have := hM.2.2 g hg
          rw [e, e, e, e, e, e, e]
          refine ⟨fun z => this.1 ?_, this.2⟩
          have z : g ∈ rp.reverse ++ suf := z
          show g ∈ (f :: rp).reverse ++ suf
          rw [List.mem_append] at z ⊢
          rcases z with a | a
          · exact Or.inl (by simp; exact Or.inl (by simpa using a))
          · exact Or.inr a⟩
        have k8 : x1 (hF f) 8 = q f 8 := by
          rw [p3 _ _ (fun z => hne f hfn z.1)]
          exact ((hM.2.2 f hfn).1 (by simp)).1
        have k51 : x1 (hF f) 5 = nI (wA w 2 f) := by rw [p3 _ _ (fun z => hne f hfn z.1)]; exact k5
        have c59 := rk_59 (x := x1) (y := y1) d ho
        have hW : fW x1 (if x1 (hF f) 5 = 0 then u2 x1 (hF f) 13 (x1 (hF f) 13 + 1) else u2 (u2 x1 (hF f) 13 (x1 (hF f) 13 + 1)) (hF f) 14 (x1 (hF f) 14 + 1)) (hF f) := fun b k h => by
          by_cases z : x1 (hF f) 5 = 0
          · rw [if_pos z, u2_ne (fun q => h ⟨q.1, by omega⟩)]
          · rw [if_neg z, u2_ne (fun q => h ⟨q.1, by omega⟩), u2_ne (fun q => h ⟨q.1, by omega⟩)]
        have hq8 : (if x1 (hF f) 5 = 0 then u2 x1 (hF f) 13 (x1 (hF f) 13 + 1) else u2 (u2 x1 (hF f) 13 (x1 (hF f) 13 + 1)) (hF f) 14 (x1 (hF f) 14 + 1)) (hF f) 8 = q f 8 := by
          by_cases z : x1 (hF f) 5 = 0
          · rw [if_pos z, u2_k (by decide)]; exact k8
          · rw [if_neg z, u2_k (by decide), u2_k (by decide)]; exact k8
        have hM2 := mdP.fw (md := []) hmd ho hW (fqP.ended hX1 hmd.2.2 hfn k51 he1 _ (fun g hg => hg))
        have hG2 : fG sh x1 _ y1 y1 := hW.fG ho
        generalize (if x1 (hF f) 5 = 0 then u2 x1 (hF f) 13 (x1 (hF f) 13 + 1) else u2 (u2 x1 (hF f) 13 (x1 (hF f) 13 + 1)) (hF f) 14 (x1 (hF f) 14 + 1)) = x2 at c59 hM2 hG2 hW hq8
        have hX2 : fxP n sh x2 hF (wF w) := hX1.cong (fun g hg => ⟨hW _ _ (fun z => absurd z.2 (by decide)), hW _ _ (fun z => absurd z.2 (by decide))⟩)
        have k52 : x2 (hF f) 5 = nI (wA w 2 f) := by rw [hW _ _ (fun z => absurd z.2 (by decide))]; exact k51
        have k02 := (hX2.2.1 f hfn).2.1
        have hlo := hM2.2.1.1
        have e50 : y1 5 0 = some 6 := (p4 _ _ (by decide)).trans hU1
        have e52 : y1 5 1 = some 8 := (p4 _ _ (by decide)).trans hU2
        have hlog := rk_66 d hM2.2.1 (by simp at hl ⊢; omega) (if wA w 2 f = 0 then 2 else 3) (nI f) (q f 8)
        have hM3 := mdP.lg hM2 hX2 hlog.2.1 (fun a k h8 h9 => by rw [u2_a h8, u2_a h9])
        have hG3 := (hG1.tr hG2).tr hlog.2.2
        have hc59 := c59
        have hlog1 := hlog.1
        have k53 : (u2 (u2 x2 9 ev.length (pk ((if wA w 2 f = 0 then 2 else 3), nI f, q f 8))) 8 1 (nI (ev.length + 1))) (hF f) 5 = nI (wA w 2 f) := by
          rw [u2_a (ob_ne ho hlo (by decide)), u2_a (ob_ne ho hM2.2.1.2.1 (by decide))]; exact k52
        generalize (u2 (u2 x2 9 ev.length (pk ((if wA w 2 f = 0 then 2 else 3), nI f, q f 8))) 8 1 (nI (ev.length + 1))) = x3 at hlog1 hM3 hG3 k53
        have fin := ih suf _ _ (fl + wA w 2 f) x3 y1 (some (.inr (some (hF f)))) Q (hS.cong (hG3.fS hT _)) (hG3.run hU) hM3 (fun g hg => hB g (List.mem_cons_of_mem _ hg)) (by simp at hl ⊢; omega) (fun x' y' r1 r2 => by
          have := hQ x' y'
          rw [List.filter_cons_of_pos c, List.reverse_cons, List.filter_append, List.filter_cons_of_neg (by simp [c]), List.filter_nil, List.append_nil] at this
          exact this r1 (hG3.tr r2))
        rcases Nat.eq_zero_or_pos (wA w 2 f) with z0 | z0
        · have hk : (nI (wA w 2 f) = 0) = True := by rw [z0]; exact eq_true rfl
          rw [if_pos z0] at hlog1
          rw [z0, Nat.add_zero] at fin
          have a0 : nI fl + 0 = nI fl := Int32.add_zero _
          simp only [s_88_13, s_88_16, s_88_17, s_88_20, s_88_23, s_88_24, s_88_25, s_88_27, s_88_28, s_88_30, s_88_33, s_88_34, s_88_37, s_88_38, s_88_41, s_88_42, s_88_45, s_88_47, s_88_50, s_88_51, s_88_54, s_88_56, s_88_59, s_88_62, s_88_63, s_88_66, s_88_67, s_88_69, s_88_72, s_88_74, s_88_77, s_88_80, s_88_81, s_88_83, s_88_86, s_88_89, s_88_90, s_88_93, s_88_94, s_88_95, s_88_96, s_88_99, mj_lI_s, mj_lI_0, mj_lA_s, mj_lA_0, mj_sL_s, mj_sL_0, mj_s8_0, mj_s8_1, mj_s8_2, mj_s8_3, mj_bc_n, mj_bc_s, mj_bd_s, u2_eq, u2_a, u2_k, ne_eq, Nat.reduceEqDiff, not_false_eq_true, List.nil_append, List.cons_append, eq_self, true_or, or_true, if_true, if_false, false_or, or_false, not_true_eq_false, Bool.false_eq_true, ie_m1_0, ie_m1_1, ie_m1_2, ie_m1_3, ie_m1_4, ie_m1_5, ie_0_m1, ie_0_1, ie_0_2, ie_0_3, ie_0_4, ie_0_5, ie_1_m1, ie_1_0, ie_1_2, ie_1_3, ie_1_4, ie_1_5, ie_2_m1, ie_2_0, ie_2_1, ie_2_3, ie_2_4, ie_2_5, ie_3_m1, ie_3_0, ie_3_1, ie_3_2, ie_3_4, ie_3_5, ie_4_m1, ie_4_0, ie_4_1, ie_4_2, ie_4_3, ie_4_5, ie_5_m1, ie_5_0, ie_5_1, ie_5_2, ie_5_3, ie_5_4, ct_1, cv_1, ci_1_0, cp_1_0, ci_1_1, cp_1_1, ci_1_2, cp_1_2, ci_1_3, cp_1_3, ci_1_4, cp_1_4, ci_1_5, cp_1_5, ci_1_6, cp_1_6, ci_1_7, cp_1_7, ci_1_8, cp_1_8, ci_1_9, cp_1_9, ci_1_10, cp_1_10, ci_1_11, cp_1_11, ci_1_12, cp_1_12, ci_1_13, cp_1_13, ci_1_14, cp_1_14, ct_2, cv_2, ci_2_0, cp_2_0, ci_2_1, cp_2_1, ct_3, cv_3, ci_3_0, cp_3_0, ci_3_1, cp_3_1, ci_3_2, cp_3_2, ci_3_3, cp_3_3, ct_4, cv_4, ci_4_0, cp_4_0, ci_4_1, cp_4_1, ci_4_2, cp_4_2, ci_4_3, cp_4_3, ci_4_4, cp_4_4, e1, c1, hU0, hU1, h6o, h60, xr_102 h7o hl12 (by decide), hy7, ho, hbf, hz, p1, c59, e50, e52, hlo, k52, hk, k02, hq8, hlog1, k53, a0]
          exact fin
        · have z1 : wA w 2 f = 1 := by omega
          have hk : (nI (wA w 2 f) = 0) = False := by rw [z1]; exact eq_false (by decide)
          rw [if_neg (by omega)] at hlog1
          rw [z1] at fin
          simp only [s_88_13, s_88_16, s_88_17, s_88_20, s_88_23, s_88_24, s_88_25, s_88_27, s_88_28, s_88_30, s_88_33, s_88_34, s_88_37, s_88_38, s_88_41, s_88_42, s_88_45, s_88_47, s_88_50, s_88_51, s_88_54, s_88_56, s_88_59, s_88_62, s_88_63, s_88_66, s_88_67, s_88_69, s_88_72, s_88_74, s_88_77, s_88_80, s_88_81, s_88_83, s_88_86, s_88_89, s_88_90, s_88_93, s_88_94, s_88_95, s_88_96, s_88_99, mj_lI_s, mj_lI_0, mj_lA_s, mj_lA_0, mj_sL_s, mj_sL_0, mj_s8_0, mj_s8_1, mj_s8_2, mj_s8_3, mj_bc_n, mj_bc_s, mj_bd_s, u2_eq, u2_a, u2_k, ne_eq, Nat.reduceEqDiff, not_false_eq_true, List.nil_append, List.cons_append, eq_self, true_or, or_true, if_true, if_false, false_or, or_false, not_true_eq_false, Bool.false_eq_true, ie_m1_0, ie_m1_1, ie_m1_2, ie_m1_3, ie_m1_4, ie_m1_5, ie_0_m1, ie_0_1, ie_0_2, ie_0_3, ie_0_4, ie_0_5, ie_1_m1, ie_1_0, ie_1_2, ie_1_3, ie_1_4, ie_1_5, ie_2_m1, ie_2_0, ie_2_1, ie_2_3, ie_2_4, ie_2_5, ie_3_m1, ie_3_0, ie_3_1, ie_3_2, ie_3_4, ie_3_5, ie_4_m1, ie_4_0, ie_4_1, ie_4_2, ie_4_3, ie_4_5, ie_5_m1, ie_5_0, ie_5_1, ie_5_2, ie_5_3, ie_5_4, ct_1, cv_1, ci_1_0, cp_1_0, ci_1_1, cp_1_1, ci_1_2, cp_1_2, ci_1_3, cp_1_3, ci_1_4, cp_1_4, ci_1_5, cp_1_5, ci_1_6, cp_1_6, ci_1_7, cp_1_7, ci_1_8, cp_1_8, ci_1_9, cp_1_9, ci_1_10, cp_1_10, ci_1_11, cp_1_11, ci_1_12, cp_1_12, ci_1_13, cp_1_13, ci_1_14, cp_1_14, ct_2, cv_2, ci_2_0, cp_2_0, ci_2_1, cp_2_1, ct_3, cv_3, ci_3_0, cp_3_0, ci_3_1, cp_3_1, ci_3_2, cp_3_2, ci_3_3, cp_3_3, ct_4, cv_4, ci_4_0, cp_4_0, ci_4_1, cp_4_1, ci_4_2, cp_4_2, ci_4_3, cp_4_3, ci_4_4, cp_4_4, e1, c1, hU0, hU1, h6o, h60, xr_102 h7o hl12 (by decide), hy7, ho, hbf, hz, p1, c59, e50, e52, hlo, k52, hk, k02, hq8, hlog1, k53, nI_1]
          exact fin
      · have c' : B f = false := by simpa using c
        rw [c'] at hz
        have hz : (z &&& bF f = 0) = True := hz.trans (by simp)
        have fin := ih (f :: suf) q ev fl x y (some (.inr (some (hF f)))) Q hS hU (by
          have := hM
          rw [show (f :: rp).reverse ++ suf = rp.reverse ++ f :: suf by simp] at this
          exact this) (fun g hg => hB g (List.mem_cons_of_mem _ hg)) (by simp at hl ⊢; omega) (fun x' y' r1 r2 => by
          have := hQ x' y'
          rw [List.filter_cons_of_neg c, List.reverse_cons, List.filter_append, List.filter_cons_of_pos (by simp [c']), List.filter_nil, List.append_assoc] at this
          exact this r1 r2)
        simp only [s_88_13, s_88_16, s_88_17, s_88_20, s_88_23, s_88_24, s_88_25, s_88_27, s_88_28, s_88_30, s_88_33, s_88_34, s_88_37, s_88_38, s_88_41, s_88_42, s_88_45, s_88_47, s_88_50, s_88_51, s_88_54, s_88_56, s_88_59, s_88_62, s_88_63, s_88_66, s_88_67, s_88_69, s_88_72, s_88_74, s_88_77, s_88_80, s_88_81, s_88_83, s_88_86, s_88_89, s_88_90, s_88_93, s_88_94, s_88_95, s_88_96, s_88_99, mj_lI_s, mj_lI_0, mj_lA_s, mj_lA_0, mj_sL_s, mj_sL_0, mj_s8_0, mj_s8_1, mj_s8_2, mj_s8_3, mj_bc_n, mj_bc_s, mj_bd_s, u2_eq, u2_a, u2_k, ne_eq, Nat.reduceEqDiff, not_false_eq_true, List.nil_append, List.cons_append, eq_self, true_or, or_true, if_true, if_false, false_or, or_false, not_true_eq_false, Bool.false_eq_true, ie_m1_0, ie_m1_1, ie_m1_2, ie_m1_3, ie_m1_4, ie_m1_5, ie_0_m1, ie_0_1, ie_0_2, ie_0_3, ie_0_4, ie_0_5, ie_1_m1, ie_1_0, ie_1_2, ie_1_3, ie_1_4, ie_1_5, ie_2_m1, ie_2_0, ie_2_1, ie_2_3, ie_2_4, ie_2_5, ie_3_m1, ie_3_0, ie_3_1, ie_3_2, ie_3_4, ie_3_5, ie_4_m1, ie_4_0, ie_4_1, ie_4_2, ie_4_3, ie_4_5, ie_5_m1, ie_5_0, ie_5_1, ie_5_2, ie_5_3, ie_5_4, ct_1, cv_1, ci_1_0, cp_1_0, ci_1_1, cp_1_1, ci_1_2, cp_1_2, ci_1_3, cp_1_3, ci_1_4, cp_1_4, ci_1_5, cp_1_5, ci_1_6, cp_1_6, ci_1_7, cp_1_7, ci_1_8, cp_1_8, ci_1_9, cp_1_9, ci_1_10, cp_1_10, ci_1_11, cp_1_11, ci_1_12, cp_1_12, ci_1_13, cp_1_13, ci_1_14, cp_1_14, ct_2, cv_2, ci_2_0, cp_2_0, ci_2_1, cp_2_1, ct_3, cv_3, ci_3_0, cp_3_0, ci_3_1, cp_3_1, ci_3_2, cp_3_2, ci_3_3, cp_3_3, ct_4, cv_4, ci_4_0, cp_4_0, ci_4_1, cp_4_1, ci_4_2, cp_4_2, ci_4_3, cp_4_3, ci_4_4, cp_4_4, e1, c1, hU0, hU1, h6o, h60, xr_102 h7o hl12 (by decide), hy7, ho, hbf, hz]
        exact fin
  obtain ⟨hU0, hU1, hU2, hU3⟩ := id hU
  have h6o := hM.1.1.1
  have h61 := hM.1.2.1
  have em : nI s.1.length - 1 = nI s.1.length + (-1) := Int32.sub_eq_add_neg ..
  rw [e_88]
  simp only [s_88_0, s_88_1, s_88_2, s_88_3, s_88_6, s_88_9, s_88_10, s_88_11, mj_lI_s, mj_lI_0, mj_lA_s, mj_lA_0, mj_sL_s, mj_sL_0, mj_s8_0, mj_s8_1, mj_s8_2, mj_s8_3, mj_bc_n, mj_bc_s, mj_bd_s, u2_eq, u2_a, u2_k, ne_eq, Nat.reduceEqDiff, not_false_eq_true, List.nil_append, List.cons_append, eq_self, true_or, or_true, if_true, if_false, false_or, or_false, not_true_eq_false, Bool.false_eq_true, ie_m1_0, ie_m1_1, ie_m1_2, ie_m1_3, ie_m1_4, ie_m1_5, ie_0_m1, ie_0_1, ie_0_2, ie_0_3, ie_0_4, ie_0_5, ie_1_m1, ie_1_0, ie_1_2, ie_1_3, ie_1_4, ie_1_5, ie_2_m1, ie_2_0, ie_2_1, ie_2_3, ie_2_4, ie_2_5, ie_3_m1, ie_3_0, ie_3_1, ie_3_2, ie_3_4, ie_3_5, ie_4_m1, ie_4_0, ie_4_1, ie_4_2, ie_4_3, ie_4_5, ie_5_m1, ie_5_0, ie_5_1, ie_5_2, ie_5_3, ie_5_4, ct_3, cv_3, ci_3_0, cp_3_0, ci_3_1, cp_3_1, ci_3_2, cp_3_2, ci_3_3, cp_3_3, ct_4, cv_4, ci_4_0, cp_4_0, ci_4_1, cp_4_1, ci_4_2, cp_4_2, ci_4_3, cp_4_3, ci_4_4, cp_4_4, hU0, hU1, h6o, h61, em]
  have := loop s.1.reverse [] s.2.1 s.2.2 0 x y none (fun r => ∃ x' y', r = some (some (.inl (nI (((s.1.filter B).reverse).foldl (sE (wA w 2)) (s.2.1, s.2.2, 0)).2.2)), bl n sh x' y') ∧ mdP n sh x' y' hF (wF w) (s.1.filter (fun f => !B f), (((s.1.filter B).reverse).foldl (sE (wA w 2)) (s.2.1, s.2.2, 0)).1, (((s.1.filter B).reverse).foldl (sE (wA w 2)) (s.2.1, s.2.2, 0)).2.1) ∧ fG sh x x' y y') hS hU (by rw [List.reverse_reverse, List.append_nil]; exact hM) (fun f hf => hB f (by simpa using hf)) (by rw [List.length_reverse]; exact hl) (fun x' y' r1 r2 => by
    rw [List.reverse_reverse, List.append_nil, List.filter_reverse] at r1
    rw [List.filter_reverse]
    exact ⟨x', y', rfl, r1, r2⟩)
  rw [List.length_reverse] at this
  exact this
/-- bitsOfCaseScope -/
theorem rk_85 (d : Nat) {x : Nat → Nat → Int32} {y : Nat → Nat → Option Nat} {s : rs} (hS : suP n sh x y hF hT w nb) (hU : runP n sh y) (hM : mdP n sh x y hF (wF w) s) : mj_Cl pg (d + 1) 85 [.inr (some 5)] (bl n sh x y) = some (some (.inl (oB (cs0 (wI w 0)) s.1 0)), bl n sh x y) := by
  have hX := hS.2.1
  obtain ⟨hU0, hU1, hU2, hU3⟩ := hU
  obtain ⟨⟨h6o, h7o, h60, h63, h612⟩, h61, h62, h64, h65, h66, h67⟩ := hM.1
  have loop : ∀ (l : List Nat) (i : Nat) (z : Int32), i + l.length = s.1.length → (∀ j g, l[j]? = some g → s.1[i + j]? = some g) →
      mj_Rn pg (d + 1) 85 (4, [some (.inr (some 5)), some (.inl z), some (.inl (nI i))], [], bl n sh x y) = some (some (.inl (oB (cs0 (wI w 0)) l z)), bl n sh x y) := by
    intro l
    induction l with
    | nil =>
      intro i z hi hl
      have e1 : i = s.1.length := by simpa using hi
      have hkc : (nI s.1.length ≤ nI i) = True := eq_true (nI_le (by omega) (by omega))
      rw [s_85_4]
      simp only [s_85_5, s_85_6, s_85_9, s_85_12, s_85_15, s_85_16, s_85_19, s_85_22, s_85_23, s_85_24, s_85_27, s_85_30, s_85_31, s_85_32, s_85_35, s_85_38, s_85_39, s_85_40, s_85_43, s_85_44, s_85_45, s_85_48, s_85_51, s_85_52, mj_lI_s, mj_lI_0, mj_lA_s, mj_lA_0, mj_sL_s, mj_sL_0, mj_s8_0, mj_s8_1, mj_s8_2, mj_s8_3, mj_bc_n, mj_bc_s, mj_bd_s, u2_eq, u2_a, u2_k, ne_eq, Nat.reduceEqDiff, not_false_eq_true, List.nil_append, List.cons_append, eq_self, true_or, or_true, if_true, if_false, false_or, or_false, not_true_eq_false, Bool.false_eq_true, ie_m1_0, ie_m1_1, ie_m1_2, ie_m1_3, ie_m1_4, ie_m1_5, ie_0_m1, ie_0_1, ie_0_2, ie_0_3, ie_0_4, ie_0_5, ie_1_m1, ie_1_0, ie_1_2, ie_1_3, ie_1_4, ie_1_5, ie_2_m1, ie_2_0, ie_2_1, ie_2_3, ie_2_4, ie_2_5, ie_3_m1, ie_3_0, ie_3_1, ie_3_2, ie_3_4, ie_3_5, ie_4_m1, ie_4_0, ie_4_1, ie_4_2, ie_4_3, ie_4_5, ie_5_m1, ie_5_0, ie_5_1, ie_5_2, ie_5_3, ie_5_4, ct_3, cv_3, ci_3_0, cp_3_0, ci_3_1, cp_3_1, ci_3_2, cp_3_2, ci_3_3, cp_3_3, ct_4, cv_4, ci_4_0, cp_4_0, ci_4_1, cp_4_1, ci_4_2, cp_4_2, ci_4_3, cp_4_3, ci_4_4, cp_4_4, hU0, hU1, h6o, h61, hkc]
      rfl
    | cons g l ihl =>
      intro i z hi hl
      have hlen : i + (l.length + 1) = s.1.length := by simpa using hi
      have hkc : (nI s.1.length ≤ nI i) = False := eq_false (nI_ge (by omega) (by omega))
      have hg0 : s.1[i]? = some g := by simpa using hl 0 g rfl
      have hg1 : y 7 i = some (hF g) := h67 i g hg0
      have hgn : g < wF w := h66 g (List.mem_of_getElem? hg0)
      have hgo := (hX.2.1 g hgn).1
      have hgb := (hX.2.1 g hgn).2.2
      have hgs := (hS.2.2.1 g hgn).1.2.1
      have hi12 : i < 12 := by omega
      have hi8 := fun z => ihl (i + 1) z (by omega) (fun j g' hj => by
        have := hl (j + 1) g' (by rw [List.getElem?_cons_succ]; exact hj)
        rw [show i + 1 + j = i + (j + 1) by omega]
        exact this)
      rw [s_85_4]
      show _ = some (some ((Sum.inl (oB (cs0 (wI w 0)) l (if cs0 (wI w 0) g = true then z ||| bF g else z)) : mj_V)), bl n sh x y)
      by_cases c : wI w 0 g = 0
      · rw [if_pos (show cs0 (wI w 0) g = true from decide_eq_true c), ← hi8]
        simp only [s_85_5, s_85_6, s_85_9, s_85_12, s_85_15, s_85_16, s_85_19, s_85_22, s_85_23, s_85_24, s_85_27, s_85_30, s_85_31, s_85_32, s_85_35, s_85_38, s_85_39, s_85_40, s_85_43, s_85_44, s_85_45, s_85_48, mj_lI_s, mj_lI_0, mj_lA_s, mj_lA_0, mj_sL_s, mj_sL_0, mj_s8_0, mj_s8_1, mj_s8_2, mj_s8_3, mj_bc_n, mj_bc_s, mj_bd_s, u2_eq, u2_a, u2_k, ne_eq, Nat.reduceEqDiff, not_false_eq_true, List.nil_append, List.cons_append, eq_self, true_or, or_true, if_true, if_false, false_or, or_false, not_true_eq_false, Bool.false_eq_true, ie_m1_0, ie_m1_1, ie_m1_2, ie_m1_3, ie_m1_4, ie_m1_5, ie_0_m1, ie_0_1, ie_0_2, ie_0_3, ie_0_4, ie_0_5, ie_1_m1, ie_1_0, ie_1_2, ie_1_3, ie_1_4, ie_1_5, ie_2_m1, ie_2_0, ie_2_1, ie_2_3, ie_2_4, ie_2_5, ie_3_m1, ie_3_0, ie_3_1, ie_3_2, ie_3_4, ie_3_5, ie_4_m1, ie_4_0, ie_4_1, ie_4_2, ie_4_3, ie_4_5, ie_5_m1, ie_5_0, ie_5_1, ie_5_2, ie_5_3, ie_5_4, ct_1, cv_1, ci_1_0, cp_1_0, ci_1_1, cp_1_1, ci_1_2, cp_1_2, ci_1_3, cp_1_3, ci_1_4, cp_1_4, ci_1_5, cp_1_5, ci_1_6, cp_1_6, ci_1_7, cp_1_7, ci_1_8, cp_1_8, ci_1_9, cp_1_9, ci_1_10, cp_1_10, ci_1_11, cp_1_11, ci_1_12, cp_1_12, ci_1_13, cp_1_13, ci_1_14, cp_1_14, ct_3, cv_3, ci_3_0, cp_3_0, ci_3_1, cp_3_1, ci_3_2, cp_3_2, ci_3_3, cp_3_3, ct_4, cv_4, ci_4_0, cp_4_0, ci_4_1, cp_4_1, ci_4_2, cp_4_2, ci_4_3, cp_4_3, ci_4_4, cp_4_4, hU0, hU1, h6o, h61, hkc, h60, xr_102 h7o hi12 (by decide), hg1, hgo, hgs, c, hgb, nI_1]
      · rw [if_neg (show ¬ cs0 (wI w 0) g = true from fun q => c (of_decide_eq_true q)), ← hi8]
        simp only [s_85_5, s_85_6, s_85_9, s_85_12, s_85_15, s_85_16, s_85_19, s_85_22, s_85_23, s_85_24, s_85_27, s_85_30, s_85_31, s_85_32, s_85_35, s_85_38, s_85_39, s_85_40, s_85_43, s_85_44, s_85_45, s_85_48, mj_lI_s, mj_lI_0, mj_lA_s, mj_lA_0, mj_sL_s, mj_sL_0, mj_s8_0, mj_s8_1, mj_s8_2, mj_s8_3, mj_bc_n, mj_bc_s, mj_bd_s, u2_eq, u2_a, u2_k, ne_eq, Nat.reduceEqDiff, not_false_eq_true, List.nil_append, List.cons_append, eq_self, true_or, or_true, if_true, if_false, false_or, or_false, not_true_eq_false, Bool.false_eq_true, ie_m1_0, ie_m1_1, ie_m1_2, ie_m1_3, ie_m1_4, ie_m1_5, ie_0_m1, ie_0_1, ie_0_2, ie_0_3, ie_0_4, ie_0_5, ie_1_m1, ie_1_0, ie_1_2, ie_1_3, ie_1_4, ie_1_5, ie_2_m1, ie_2_0, ie_2_1, ie_2_3, ie_2_4, ie_2_5, ie_3_m1, ie_3_0, ie_3_1, ie_3_2, ie_3_4, ie_3_5, ie_4_m1, ie_4_0, ie_4_1, ie_4_2, ie_4_3, ie_4_5, ie_5_m1, ie_5_0, ie_5_1, ie_5_2, ie_5_3, ie_5_4, ct_1, cv_1, ci_1_0, cp_1_0, ci_1_1, cp_1_1, ci_1_2, cp_1_2, ci_1_3, cp_1_3, ci_1_4, cp_1_4, ci_1_5, cp_1_5, ci_1_6, cp_1_6, ci_1_7, cp_1_7, ci_1_8, cp_1_8, ci_1_9, cp_1_9, ci_1_10, cp_1_10, ci_1_11, cp_1_11, ci_1_12, cp_1_12, ci_1_13, cp_1_13, ci_1_14, cp_1_14, ct_3, cv_3, ci_3_0, cp_3_0, ci_3_1, cp_3_1, ci_3_2, cp_3_2, ci_3_3, cp_3_3, ct_4, cv_4, ci_4_0, cp_4_0, ci_4_1, cp_4_1, ci_4_2, cp_4_2, ci_4_3, cp_4_3, ci_4_4, cp_4_4, hU0, hU1, h6o, h61, hkc, h60, xr_102 h7o hi12 (by decide), hg1, hgo, hgs, c, hgb, nI_1]
  rw [e_85]
  simp only [s_85_0, s_85_1, s_85_2, s_85_3, mj_lI_s, mj_lI_0, mj_lA_s, mj_lA_0, mj_sL_s, mj_sL_0, mj_s8_0, mj_s8_1, mj_s8_2, mj_s8_3, mj_bc_n, mj_bc_s, mj_bd_s, u2_eq, u2_a, u2_k, ne_eq, Nat.reduceEqDiff, not_false_eq_true, List.nil_append, List.cons_append, eq_self, true_or, or_true, if_true, if_false, false_or, or_false, not_true_eq_false, Bool.false_eq_true, ie_m1_0, ie_m1_1, ie_m1_2, ie_m1_3, ie_m1_4, ie_m1_5, ie_0_m1, ie_0_1, ie_0_2, ie_0_3, ie_0_4, ie_0_5, ie_1_m1, ie_1_0, ie_1_2, ie_1_3, ie_1_4, ie_1_5, ie_2_m1, ie_2_0, ie_2_1, ie_2_3, ie_2_4, ie_2_5, ie_3_m1, ie_3_0, ie_3_1, ie_3_2, ie_3_4, ie_3_5, ie_4_m1, ie_4_0, ie_4_1, ie_4_2, ie_4_3, ie_4_5, ie_5_m1, ie_5_0, ie_5_1, ie_5_2, ie_5_3, ie_5_4]
  exact loop s.1 0 0 (by omega) (fun j g hj => by rw [Nat.zero_add]; exact hj)
/-- what can't stay, in one pass each way -/
def cOut (nb : Nat → Nat → Bool) (ps : List (Nat × Nat)) (sc : Nat → Int32) (fi : Int32) (s : rs) (f : Nat) : Bool := !lvs ps sc fi s.2.1 f || s.1.any (fun g => nb f g && !lvs ps sc fi s.2.1 g)
/-- bitsThatCannotStay -/
theorem rk_84 (d : Nat) {x : Nat → Nat → Int32} {y : Nat → Nat → Option Nat} {s : rs} {c t m : Nat} {ps : List (Nat × Nat)} (hS : suP n sh x y hF hT w nb) (hU : runP n sh y) (hC : caP n sh x y hT c t m ps) (ht : t < wT w) (hM : mdP n sh x y hF (wF w) s) : ∃ z, mj_Cl pg (d + 3) 84 [.inr (some 5), .inr (some c)] (bl n sh x y) = some (some (.inl z), bl n sh x y) ∧ ∀ f ∈ s.1, bt z f = cOut nb ps (wI w 0) (wI w 1 t) s f := by
  have hX := hS.2.1
  have hco := hC.1
  obtain ⟨hU0, hU1, hU2, hU3⟩ := hU
  obtain ⟨⟨h6o, h7o, h60, h63, h612⟩, h61, h62, h64, h65, h66, h67⟩ := hM.1
  have loop2 : ∀ (l : List Nat) (i : Nat) (z u : Int32), i + l.length = s.1.length → (∀ j g, l[j]? = some g → s.1[i + j]? = some g) →
      mj_Rn pg (d + 3) 84 (57, [some (.inr (some 5)), some (.inr (some c)), some (.inl u), some (.inl z), some (.inl (nI i))], [], bl n sh x y) = some (some (.inl (u ||| oB (fun f => decide (¬ x (hF f) 7 &&& u = 0)) l z)), bl n sh x y) := by
    intro l
    induction l with
    | nil =>
      intro i z u hi hl
      have e1 : i = s.1.length := by simpa using hi
      have hkc : (nI s.1.length ≤ nI i) = True := eq_true (nI_le (by omega) (by omega))
      rw [s_84_57]
      simp only [s_84_59, s_84_60, s_84_63, s_84_66, s_84_69, s_84_70, s_84_73, s_84_76, s_84_78, s_84_79, s_84_80, s_84_83, s_84_86, s_84_87, s_84_88, s_84_91, s_84_94, s_84_96, s_84_97, s_84_100, s_84_101, s_84_102, s_84_105, s_84_108, s_84_109, s_84_110, s_84_111, mj_lI_s, mj_lI_0, mj_lA_s, mj_lA_0, mj_sL_s, mj_sL_0, mj_s8_0, mj_s8_1, mj_s8_2, mj_s8_3, mj_bc_n, mj_bc_s, mj_bd_s, u2_eq, u2_a, u2_k, ne_eq, Nat.reduceEqDiff, not_false_eq_true, List.nil_append, List.cons_append, eq_self, true_or, or_true, if_true, if_false, false_or, or_false, not_true_eq_false, Bool.false_eq_true, ie_m1_0, ie_m1_1, ie_m1_2, ie_m1_3, ie_m1_4, ie_m1_5, ie_0_m1, ie_0_1, ie_0_2, ie_0_3, ie_0_4, ie_0_5, ie_1_m1, ie_1_0, ie_1_2, ie_1_3, ie_1_4, ie_1_5, ie_2_m1, ie_2_0, ie_2_1, ie_2_3, ie_2_4, ie_2_5, ie_3_m1, ie_3_0, ie_3_1, ie_3_2, ie_3_4, ie_3_5, ie_4_m1, ie_4_0, ie_4_1, ie_4_2, ie_4_3, ie_4_5, ie_5_m1, ie_5_0, ie_5_1, ie_5_2, ie_5_3, ie_5_4, ct_3, cv_3, ci_3_0, cp_3_0, ci_3_1, cp_3_1, ci_3_2, cp_3_2, ci_3_3, cp_3_3, ct_4, cv_4, ci_4_0, cp_4_0, ci_4_1, cp_4_1, ci_4_2, cp_4_2, ci_4_3, cp_4_3, ci_4_4, cp_4_4, hU0, hU1, h6o, h61, hkc]
      rfl
    | cons g l ihl =>
      intro i z u hi hl
      have hlen : i + (l.length + 1) = s.1.length := by simpa using hi
      have hkc : (nI s.1.length ≤ nI i) = False := eq_false (nI_ge (by omega) (by omega))
      have hg0 : s.1[i]? = some g := by simpa using hl 0 g rfl
      have hg1 : y 7 i = some (hF g) := h67 i g hg0
      have hgn : g < wF w := h66 g (List.mem_of_getElem? hg0)
      have hgo := (hX.2.1 g hgn).1
      have hgb := (hX.2.1 g hgn).2.2
      have hi12 : i < 12 := by omega
      have hi8 := fun z => ihl (i + 1) z u (by omega) (fun j g' hj => by
        have := hl (j + 1) g' (by rw [List.getElem?_cons_succ]; exact hj)
        rw [show i + 1 + j = i + (j + 1) by omega]
        exact this)
      have c54 := rk_54 (x := x) (y := y) (d + 1) hgo u
      rw [s_84_57]
      show _ = some (some ((Sum.inl (u ||| oB _ l (if decide (¬ x (hF g) 7 &&& u = 0) = true then z ||| bF g else z)) : mj_V)), bl n sh x y)
      by_cases c : x (hF g) 7 &&& u = 0
      · rw [if_pos c] at c54
        rw [if_neg (by simp [c]), ← hi8]
        simp only [s_84_59, s_84_60, s_84_63, s_84_66, s_84_69, s_84_70, s_84_73, s_84_76, s_84_78, s_84_79, s_84_80, s_84_83, s_84_86, s_84_87, s_84_88, s_84_91, s_84_94, s_84_96, s_84_97, s_84_100, s_84_101, s_84_102, s_84_105, mj_lI_s, mj_lI_0, mj_lA_s, mj_lA_0, mj_sL_s, mj_sL_0, mj_s8_0, mj_s8_1, mj_s8_2, mj_s8_3, mj_bc_n, mj_bc_s, mj_bd_s, u2_eq, u2_a, u2_k, ne_eq, Nat.reduceEqDiff, not_false_eq_true, List.nil_append, List.cons_append, eq_self, true_or, or_true, if_true, if_false, false_or, or_false, not_true_eq_false, Bool.false_eq_true, ie_m1_0, ie_m1_1, ie_m1_2, ie_m1_3, ie_m1_4, ie_m1_5, ie_0_m1, ie_0_1, ie_0_2, ie_0_3, ie_0_4, ie_0_5, ie_1_m1, ie_1_0, ie_1_2, ie_1_3, ie_1_4, ie_1_5, ie_2_m1, ie_2_0, ie_2_1, ie_2_3, ie_2_4, ie_2_5, ie_3_m1, ie_3_0, ie_3_1, ie_3_2, ie_3_4, ie_3_5, ie_4_m1, ie_4_0, ie_4_1, ie_4_2, ie_4_3, ie_4_5, ie_5_m1, ie_5_0, ie_5_1, ie_5_2, ie_5_3, ie_5_4, ct_1, cv_1, ci_1_0, cp_1_0, ci_1_1, cp_1_1, ci_1_2, cp_1_2, ci_1_3, cp_1_3, ci_1_4, cp_1_4, ci_1_5, cp_1_5, ci_1_6, cp_1_6, ci_1_7, cp_1_7, ci_1_8, cp_1_8, ci_1_9, cp_1_9, ci_1_10, cp_1_10, ci_1_11, cp_1_11, ci_1_12, cp_1_12, ci_1_13, cp_1_13, ci_1_14, cp_1_14, ct_3, cv_3, ci_3_0, cp_3_0, ci_3_1, cp_3_1, ci_3_2, cp_3_2, ci_3_3, cp_3_3, ct_4, cv_4, ci_4_0, cp_4_0, ci_4_1, cp_4_1, ci_4_2, cp_4_2, ci_4_3, cp_4_3, ci_4_4, cp_4_4, hU0, hU1, h6o, h61, hkc, h60, xr_102 h7o hi12 (by decide), hg1, hgo, hgb, nI_1, c54]
      · rw [if_neg c] at c54
        have c10 : ¬ ((1 : Int32) = 0) := by decide
        rw [if_pos (by simp [c]), ← hi8]
        simp only [s_84_59, s_84_60, s_84_63, s_84_66, s_84_69, s_84_70, s_84_73, s_84_76, s_84_78, s_84_79, s_84_80, s_84_83, s_84_86, s_84_87, s_84_88, s_84_91, s_84_94, s_84_96, s_84_97, s_84_100, s_84_101, s_84_102, s_84_105, mj_lI_s, mj_lI_0, mj_lA_s, mj_lA_0, mj_sL_s, mj_sL_0, mj_s8_0, mj_s8_1, mj_s8_2, mj_s8_3, mj_bc_n, mj_bc_s, mj_bd_s, u2_eq, u2_a, u2_k, ne_eq, Nat.reduceEqDiff, not_false_eq_true, List.nil_append, List.cons_append, eq_self, true_or, or_true, if_true, if_false, false_or, or_false, not_true_eq_false, Bool.false_eq_true, ie_m1_0, ie_m1_1, ie_m1_2, ie_m1_3, ie_m1_4, ie_m1_5, ie_0_m1, ie_0_1, ie_0_2, ie_0_3, ie_0_4, ie_0_5, ie_1_m1, ie_1_0, ie_1_2, ie_1_3, ie_1_4, ie_1_5, ie_2_m1, ie_2_0, ie_2_1, ie_2_3, ie_2_4, ie_2_5, ie_3_m1, ie_3_0, ie_3_1, ie_3_2, ie_3_4, ie_3_5, ie_4_m1, ie_4_0, ie_4_1, ie_4_2, ie_4_3, ie_4_5, ie_5_m1, ie_5_0, ie_5_1, ie_5_2, ie_5_3, ie_5_4, ct_1, cv_1, ci_1_0, cp_1_0, ci_1_1, cp_1_1, ci_1_2, cp_1_2, ci_1_3, cp_1_3, ci_1_4, cp_1_4, ci_1_5, cp_1_5, ci_1_6, cp_1_6, ci_1_7, cp_1_7, ci_1_8, cp_1_8, ci_1_9, cp_1_9, ci_1_10, cp_1_10, ci_1_11, cp_1_11, ci_1_12, cp_1_12, ci_1_13, cp_1_13, ci_1_14, cp_1_14, ct_3, cv_3, ci_3_0, cp_3_0, ci_3_1, cp_3_1, ci_3_2, cp_3_2, ci_3_3, cp_3_3, ct_4, cv_4, ci_4_0, cp_4_0, ci_4_1, cp_4_1, ci_4_2, cp_4_2, ci_4_3, cp_4_3, ci_4_4, cp_4_4, hU0, hU1, h6o, h61, hkc, h60, xr_102 h7o hi12 (by decide), hg1, hgo, hgb, nI_1, c54, c10]
  have loop1 : ∀ (l : List Nat) (i : Nat) (z : Int32), i + l.length = s.1.length → (∀ j g, l[j]? = some g → s.1[i + j]? = some g) →
      mj_Rn pg (d + 3) 84 (4, [some (.inr (some 5)), some (.inr (some c)), some (.inl z), some (.inl (nI i)), none], [], bl n sh x y) = mj_Rn pg (d + 3) 84 (52, [some (.inr (some 5)), some (.inr (some c)), some (.inl (oB (fun f => !lvs ps (wI w 0) (wI w 1 t) s.2.1 f) l z)), some (.inl (nI s.1.length)), none], [], bl n sh x y) := by
    intro l
    induction l with
    | nil =>
      intro i z hi hl
      have e1 : i = s.1.length := by simpa using hi
      have hkc : (nI s.1.length ≤ nI i) = True := eq_true (nI_le (by omega) (by omega))
      rw [s_84_4]
      simp only [s_84_5, s_84_6, s_84_9, s_84_12, mj_lI_s, mj_lI_0, mj_lA_s, mj_lA_0, mj_sL_s, mj_sL_0, mj_s8_0, mj_s8_1, mj_s8_2, mj_s8_3, mj_bc_n, mj_bc_s, mj_bd_s, u2_eq, u2_a, u2_k, ne_eq, Nat.reduceEqDiff, not_false_eq_true, List.nil_append, List.cons_append, eq_self, true_or, or_true, if_true, if_false, false_or, or_false, not_true_eq_false, Bool.false_eq_true, ie_m1_0, ie_m1_1, ie_m1_2, ie_m1_3, ie_m1_4, ie_m1_5, ie_0_m1, ie_0_1, ie_0_2, ie_0_3, ie_0_4, ie_0_5, ie_1_m1, ie_1_0, ie_1_2, ie_1_3, ie_1_4, ie_1_5, ie_2_m1, ie_2_0, ie_2_1, ie_2_3, ie_2_4, ie_2_5, ie_3_m1, ie_3_0, ie_3_1, ie_3_2, ie_3_4, ie_3_5, ie_4_m1, ie_4_0, ie_4_1, ie_4_2, ie_4_3, ie_4_5, ie_5_m1, ie_5_0, ie_5_1, ie_5_2, ie_5_3, ie_5_4, ct_3, cv_3, ci_3_0, cp_3_0, ci_3_1, cp_3_1, ci_3_2, cp_3_2, ci_3_3, cp_3_3, ct_4, cv_4, ci_4_0, cp_4_0, ci_4_1, cp_4_1, ci_4_2, cp_4_2, ci_4_3, cp_4_3, ci_4_4, cp_4_4, hU0, hU1, h6o, h61, hkc]
      rw [e1]
      rfl
    | cons g l ihl =>
      intro i z hi hl
      have hlen : i + (l.length + 1) = s.1.length := by simpa using hi
      have hkc : (nI s.1.length ≤ nI i) = False := eq_false (nI_ge (by omega) (by omega))
      have hg0 : s.1[i]? = some g := by simpa using hl 0 g rfl
      have hg1 : y 7 i = some (hF g) := h67 i g hg0
      have hgm : g ∈ s.1 := List.mem_of_getElem? hg0
      have hgn : g < wF w := h66 g hgm
      have hgo := (hX.2.1 g hgn).1
      have hgb := (hX.2.1 g hgn).2.2
      have hi12 : i < 12 := by omega
      have hi8 := fun z => ihl (i + 1) z (by omega) (fun j g' hj => by
        have := hl (j + 1) g' (by rw [List.getElem?_cons_succ]; exact hj)
        rw [show i + 1 + j = i + (j + 1) by omega]
        exact this)
      have c49 := rk_49 d hS hC ht hM hgm
      rw [s_84_4]
      show _ = mj_Rn pg (d + 3) 84 (52, [some (.inr (some 5)), some (.inr (some c)), some (.inl (oB _ l (if (!lvs ps (wI w 0) (wI w 1 t) s.2.1 g) = true then z ||| bF g else z))), some (.inl (nI s.1.length)), none], [], bl n sh x y)
      by_cases c : lvs ps (wI w 0) (wI w 1 t) s.2.1 g = true
      · rw [if_pos c] at c49
        have c10 : ¬ ((1 : Int32) = 0) := by decide
        rw [if_neg (by simp [c]), ← hi8]
        simp only [s_84_5, s_84_6, s_84_9, s_84_12, s_84_15, s_84_16, s_84_17, s_84_20, s_84_23, s_84_24, s_84_25, s_84_28, s_84_31, s_84_32, s_84_33, s_84_36, s_84_39, s_84_40, s_84_41, s_84_44, s_84_45, s_84_46, s_84_49, mj_lI_s, mj_lI_0, mj_lA_s, mj_lA_0, mj_sL_s, mj_sL_0, mj_s8_0, mj_s8_1, mj_s8_2, mj_s8_3, mj_bc_n, mj_bc_s, mj_bd_s, u2_eq, u2_a, u2_k, ne_eq, Nat.reduceEqDiff, not_false_eq_true, List.nil_append, List.cons_append, eq_self, true_or, or_true, if_true, if_false, false_or, or_false, not_true_eq_false, Bool.false_eq_true, ie_m1_0, ie_m1_1, ie_m1_2, ie_m1_3, ie_m1_4, ie_m1_5, ie_0_m1, ie_0_1, ie_0_2, ie_0_3, ie_0_4, ie_0_5, ie_1_m1, ie_1_0, ie_1_2, ie_1_3, ie_1_4, ie_1_5, ie_2_m1, ie_2_0, ie_2_1, ie_2_3, ie_2_4, ie_2_5, ie_3_m1, ie_3_0, ie_3_1, ie_3_2, ie_3_4, ie_3_5, ie_4_m1, ie_4_0, ie_4_1, ie_4_2, ie_4_3, ie_4_5, ie_5_m1, ie_5_0, ie_5_1, ie_5_2, ie_5_3, ie_5_4, ct_0, cv_0, ci_0_0, cp_0_0, ci_0_1, cp_0_1, ci_0_2, cp_0_2, ci_0_3, cp_0_3, ci_0_4, cp_0_4, ci_0_5, cp_0_5, ci_0_6, cp_0_6, ct_1, cv_1, ci_1_0, cp_1_0, ci_1_1, cp_1_1, ci_1_2, cp_1_2, ci_1_3, cp_1_3, ci_1_4, cp_1_4, ci_1_5, cp_1_5, ci_1_6, cp_1_6, ci_1_7, cp_1_7, ci_1_8, cp_1_8, ci_1_9, cp_1_9, ci_1_10, cp_1_10, ci_1_11, cp_1_11, ci_1_12, cp_1_12, ci_1_13, cp_1_13, ci_1_14, cp_1_14, ct_3, cv_3, ci_3_0, cp_3_0, ci_3_1, cp_3_1, ci_3_2, cp_3_2, ci_3_3, cp_3_3, ct_4, cv_4, ci_4_0, cp_4_0, ci_4_1, cp_4_1, ci_4_2, cp_4_2, ci_4_3, cp_4_3, ci_4_4, cp_4_4, hU0, hU1, h6o, h61, hkc, h60, xr_102 h7o hi12 (by decide), hg1, hgo, hgb, nI_1, hco, c49, c10]
      · rw [if_neg c] at c49
        rw [if_pos (by simp [c]), ← hi8]
        simp only [s_84_5, s_84_6, s_84_9, s_84_12, s_84_15, s_84_16, s_84_17, s_84_20, s_84_23, s_84_24, s_84_25, s_84_28, s_84_31, s_84_32, s_84_33, s_84_36, s_84_39, s_84_40, s_84_41, s_84_44, s_84_45, s_84_46, s_84_49, mj_lI_s, mj_lI_0, mj_lA_s, mj_lA_0, mj_sL_s, mj_sL_0, mj_s8_0, mj_s8_1, mj_s8_2, mj_s8_3, mj_bc_n, mj_bc_s, mj_bd_s, u2_eq, u2_a, u2_k, ne_eq, Nat.reduceEqDiff, not_false_eq_true, List.nil_append, List.cons_append, eq_self, true_or, or_true, if_true, if_false, false_or, or_false, not_true_eq_false, Bool.false_eq_true, ie_m1_0, ie_m1_1, ie_m1_2, ie_m1_3, ie_m1_4, ie_m1_5, ie_0_m1, ie_0_1, ie_0_2, ie_0_3, ie_0_4, ie_0_5, ie_1_m1, ie_1_0, ie_1_2, ie_1_3, ie_1_4, ie_1_5, ie_2_m1, ie_2_0, ie_2_1, ie_2_3, ie_2_4, ie_2_5, ie_3_m1, ie_3_0, ie_3_1, ie_3_2, ie_3_4, ie_3_5, ie_4_m1, ie_4_0, ie_4_1, ie_4_2, ie_4_3, ie_4_5, ie_5_m1, ie_5_0, ie_5_1, ie_5_2, ie_5_3, ie_5_4, ct_0, cv_0, ci_0_0, cp_0_0, ci_0_1, cp_0_1, ci_0_2, cp_0_2, ci_0_3, cp_0_3, ci_0_4, cp_0_4, ci_0_5, cp_0_5, ci_0_6, cp_0_6, ct_1, cv_1, ci_1_0, cp_1_0, ci_1_1, cp_1_1, ci_1_2, cp_1_2, ci_1_3, cp_1_3, ci_1_4, cp_1_4, ci_1_5, cp_1_5, ci_1_6, cp_1_6, ci_1_7, cp_1_7, ci_1_8, cp_1_8, ci_1_9, cp_1_9, ci_1_10, cp_1_10, ci_1_11, cp_1_11, ci_1_12, cp_1_12, ci_1_13, cp_1_13, ci_1_14, cp_1_14, ct_3, cv_3, ci_3_0, cp_3_0, ci_3_1, cp_3_1, ci_3_2, cp_3_2, ci_3_3, cp_3_3, ct_4, cv_4, ci_4_0, cp_4_0, ci_4_1, cp_4_1, ci_4_2, cp_4_2, ci_4_3, cp_4_3, ci_4_4, cp_4_4, hU0, hU1, h6o, h61, hkc, h60, xr_102 h7o hi12 (by decide), hg1, hgo, hgb, nI_1, hco, c49]
  rw [e_84]
  simp only [s_84_0, s_84_1, s_84_2, s_84_3, mj_lI_s, mj_lI_0, mj_lA_s, mj_lA_0, mj_sL_s, mj_sL_0, mj_s8_0, mj_s8_1, mj_s8_2, mj_s8_3, mj_bc_n, mj_bc_s, mj_bd_s, u2_eq, u2_a, u2_k, ne_eq, Nat.reduceEqDiff, not_false_eq_true, List.nil_append, List.cons_append, eq_self, true_or, or_true, if_true, if_false, false_or, or_false, not_true_eq_false, Bool.false_eq_true, ie_m1_0, ie_m1_1, ie_m1_2, ie_m1_3, ie_m1_4, ie_m1_5, ie_0_m1, ie_0_1, ie_0_2, ie_0_3, ie_0_4, ie_0_5, ie_1_m1, ie_1_0, ie_1_2, ie_1_3, ie_1_4, ie_1_5, ie_2_m1, ie_2_0, ie_2_1, ie_2_3, ie_2_4, ie_2_5, ie_3_m1, ie_3_0, ie_3_1, ie_3_2, ie_3_4, ie_3_5, ie_4_m1, ie_4_0, ie_4_1, ie_4_2, ie_4_3, ie_4_5, ie_5_m1, ie_5_0, ie_5_1, ie_5_2, ie_5_3, ie_5_4]
  have l1 := loop1 s.1 0 0 (by omega) (fun j g hj => by rw [Nat.zero_add]; exact hj)
  have n0 : nI 0 = 0 := rfl
  rw [n0] at l1
  rw [l1]
  have l2 := loop2 s.1 0 0 (oB (fun f => !lvs ps (wI w 0) (wI w 1 t) s.2.1 f) s.1 0) (by omega) (fun j g hj => by rw [Nat.zero_add]; exact hj)
  rw [n0] at l2
  simp only [s_84_52, s_84_53, s_84_54, s_84_55, mj_lI_s, mj_lI_0, mj_lA_s, mj_lA_0, mj_sL_s, mj_sL_0, mj_s8_0, mj_s8_1, mj_s8_2, mj_s8_3, mj_bc_n, mj_bc_s, mj_bd_s, u2_eq, u2_a, u2_k, ne_eq, Nat.reduceEqDiff, not_false_eq_true, List.nil_append, List.cons_append, eq_self, true_or, or_true, if_true, if_false, false_or, or_false, not_true_eq_false, Bool.false_eq_true, ie_m1_0, ie_m1_1, ie_m1_2, ie_m1_3, ie_m1_4, ie_m1_5, ie_0_m1, ie_0_1, ie_0_2, ie_0_3, ie_0_4, ie_0_5, ie_1_m1, ie_1_0, ie_1_2, ie_1_3, ie_1_4, ie_1_5, ie_2_m1, ie_2_0, ie_2_1, ie_2_3, ie_2_4, ie_2_5, ie_3_m1, ie_3_0, ie_3_1, ie_3_2, ie_3_4, ie_3_5, ie_4_m1, ie_4_0, ie_4_1, ie_4_2, ie_4_3, ie_4_5, ie_5_m1, ie_5_0, ie_5_1, ie_5_2, ie_5_3, ie_5_4, l2]
  refine ⟨_, rfl, fun f hf => ?_⟩
  have h32 : ∀ f ∈ s.1, f < 32 := fun f hf => by have := h66 f hf; have := hX.1; omega
  rw [b_or, oB_bt _ _ _ h32, oB_bt _ _ _ h32, b_0]
  unfold cOut
  have hfn := h66 f hf
  have key : decide (¬ x (hF f) 7 &&& oB (fun f => !lvs ps (wI w 0) (wI w 1 t) s.2.1 f) s.1 0 = 0) = s.1.any (fun g => nb f g && !lvs ps (wI w 0) (wI w 1 t) s.2.1 g) := by
    rw [Bool.eq_iff_iff, decide_eq_true_iff, bb_and0, List.any_eq_true]
    constructor
    · intro h
      rw [Classical.not_forall] at h
      obtain ⟨i, hi⟩ := h
      rw [oB_bt _ _ _ h32, b_0, (hS.2.2.1 f hfn).1.2.2.2.2.2 i] at hi
      simp at hi
      exact ⟨i, hi.2.1, by simp [hi.1, hi.2.2]⟩
    · rintro ⟨i, hi, hj⟩ h
      have := h i
      rw [oB_bt _ _ _ h32, b_0, (hS.2.2.1 f hfn).1.2.2.2.2.2 i] at this
      simp at hj this
      rw [this hj.1 hi] at hj
      simp at hj
  rw [key]
  generalize (s.1.any (fun g => nb f g && !lvs ps (wI w 0) (wI w 1 t) s.2.1 g)) = A
  simp [hf]
end EN
