/-! begin, countUnmade -/
section CK
variable {n : Nat} {sh : Nat → Nat × Nat} {hF hT : Nat → Nat} {w : sW} {nb : Nat → Nat → Bool}
theorem mx_1 : ∀ b, b < 4 → 0 < b → (if (1 : Int32) < nI b then nI b else 1) = nI b := by decide
/-- begin -/
theorem rk_47 (d : Nat) {x : Nat → Nat → Int32} {y : Nat → Nat → Option Nat} {c t m : Nat} {l : List Nat} (hS : suP n sh x y hF hT w nb) (ht : t < wT w) (hco : ob n sh c 0 7) (hgo : ob n sh (c + 1) 100 12) (hy2 : y c 2 = some (c + 1)) (hc : 11 ≤ c ∧ c + 1 ≤ 90) (hR : rowP n sh x y hF (wF w) (hT t + 3) (hT t + 4) 12 l) (hm : m < 8) : ∃ x' y', mj_Cl pg (d + 2) 47 [.inr (some c), .inr (some (hT t)), .inl (nI m)] (bl n sh x y) = some (none, bl n sh x' y') ∧ caP n sh x' y' hT c t m (pvl (wA w 0) m l) ∧ x' c 4 = -1 ∧ (∀ a k, a ≠ c → a ≠ c + 1 → x' a k = x a k) ∧ ∀ a k, ¬ (a = c ∧ k = 0) → y' a k = y a k := by
  have h127 := hS.2.2.2.2.2.2.1 t ht
  have hX := hS.2.1
  have hTo := (hS.2.2.2.2.1 t ht).2.1.1
  have hT3 := (hS.2.2.2.2.1 t ht).2.1.2.2.1
  obtain ⟨x1, f1, f2, f3⟩ := rk_102 (n := n) (sh := sh) (x := u2 (u2 x c 1 (nI m)) c 4 (-1)) (y := u2 y c 0 (some (hT t))) d hgo (-1)
  have hcc : c ≠ c + 1 := by omega
  have hrN := hR.1.1
  have hqN := hR.1.2.1
  have nTc : hT t ≠ c := by omega
  have nTc3 : hT t + 3 ≠ c := by omega
  have nTc4 : hT t + 4 ≠ c := by omega
  have h0 : (u2 y c 0 (some (hT t))) (hT t + 3) 0 = some (hT t + 4) := by rw [u2_a nTc3]; exact hR.1.2.2.1
  have h1x : x1 (hT t + 3) 1 = nI l.length := by rw [f3 _ _ (by omega), u2_a nTc3, u2_a nTc3]; exact hR.2.1
  have hl12 : l.length ≤ 12 := hR.2.2.2.2.1
  have em : nI l.length - 1 = nI l.length + (-1) := Int32.sub_eq_add_neg ..
  have hyT3 : (u2 y c 0 (some (hT t))) (hT t) 3 = some (hT t + 3) := by rw [u2_a nTc]; exact hT3
  have hyc2 : (u2 y c 0 (some (hT t))) c 2 = some (c + 1) := by rw [u2_k (by decide)]; exact hy2
  have loop : ∀ (rp suf : List Nat) (x2 : Nat → Nat → Int32) (v6 v7 : Option mj_V) (Q : Option mj_R → Prop), rp.reverse ++ suf = l → (∀ f, f < 12 → x2 (c + 1) f = gv (pvl (wA w 0) m suf) f) → (∀ f, f < wF w → x2 (hF f) 0 = nI f ∧ x2 (hF f) 3 = nI (wA w 0 f)) →
      (∀ x', (∀ f, f < 12 → x' (c + 1) f = gv (pvl (wA w 0) m l) f) → (∀ a k, a ≠ c + 1 → x' a k = x2 a k) → Q (some (none, bl n sh x' (u2 y c 0 (some (hT t)))))) →
      Q (mj_Rn pg (d + 2) 47 (39, [some (.inr (some c)), some (.inr (some (hT t))), some (.inl (nI m)), some (.inr (some (hT t + 3))), some (.inl (nI (dvl (wA w 0) suf m))), some (.inl (nI rp.length + (-1))), v6, v7], [], bl n sh x2 (u2 y c 0 (some (hT t))))) := by
    intro rp
    induction rp with
    | nil =>
      intro suf x2 v6 v7 Q hl hg hfx hQ
      have c1 : (nI ([] : List Nat).length + (-1) < 0) = True := eq_true (by decide)
      rw [s_47_39]
      simp only [s_47_41, s_47_44, s_47_45, s_47_48, s_47_50, s_47_51, s_47_53, s_47_54, s_47_56, s_47_59, s_47_62, s_47_64, s_47_65, s_47_68, s_47_70, s_47_73, s_47_75, s_47_77, s_47_78, s_47_79, s_47_81, s_47_83, s_47_84, s_47_86, s_47_89, s_47_92, mj_lI_s, mj_lI_0, mj_lA_s, mj_lA_0, mj_sL_s, mj_sL_0, mj_s8_0, mj_s8_1, mj_s8_2, mj_s8_3, mj_bc_n, mj_bc_s, mj_bd_s, u2_eq, u2_a, u2_k, ne_eq, Nat.reduceEqDiff, not_false_eq_true, List.nil_append, List.cons_append, eq_self, true_or, or_true, if_true, if_false, false_or, or_false, not_true_eq_false, Bool.false_eq_true, ie_m1_0, ie_m1_1, ie_m1_2, ie_m1_3, ie_m1_4, ie_m1_5, ie_0_m1, ie_0_1, ie_0_2, ie_0_3, ie_0_4, ie_0_5, ie_1_m1, ie_1_0, ie_1_2, ie_1_3, ie_1_4, ie_1_5, ie_2_m1, ie_2_0, ie_2_1, ie_2_3, ie_2_4, ie_2_5, ie_3_m1, ie_3_0, ie_3_1, ie_3_2, ie_3_4, ie_3_5, ie_4_m1, ie_4_0, ie_4_1, ie_4_2, ie_4_3, ie_4_5, ie_5_m1, ie_5_0, ie_5_1, ie_5_2, ie_5_3, ie_5_4, c1]
      have : suf = l := by simpa using hl
      subst this
      exact hQ x2 hg (fun _ _ _ => rfl)
    | cons f rp ih =>
      intro suf x2 v6 v7 Q hl hg hfx hQ
      have e1 : nI (f :: rp).length + (-1) = nI rp.length := nI_dec rp.length
      have hl' : rp.reverse ++ f :: suf = l := by rw [← hl]; simp
      have hget : l[rp.length]? = some f := by rw [← hl']; simp
      have hlr : rp.length < 12 := by
        have := (List.getElem?_eq_some_iff.mp hget).1
        omega
      have c1 : (nI rp.length < 0) = False := eq_false (nI_pos (by omega))
      have hfn : f < wF w := hR.2.2.2.2.2.1 f (List.mem_of_getElem? hget)
      have hf12 : f < 12 := by have := hX.1; omega
      have hyf : (u2 y c 0 (some (hT t))) (hT t + 4) rp.length = some (hF f) := by rw [u2_a nTc4]; exact hR.2.2.2.2.2.2 rp.length f hget
      have ho := (hX.2.1 f hfn).1
      obtain ⟨k0, k3⟩ := hfx f hfn
      have hva := (hS.2.2.1 f hfn).2
      have hmx := mx_1 (wA w 0 f) hva.2.1 hva.1
      have hd8 : dvl (wA w 0) suf m < 8 := Nat.lt_of_le_of_lt (dvl_le _ _ _) hm
      obtain ⟨m1, m2, m3⟩ := nI_dm _ hd8 _ hva.2.1 hva.1
      rw [s_47_39]
      simp only [s_47_41, s_47_44, s_47_45, s_47_48, s_47_50, s_47_51, s_47_53, s_47_54, s_47_56, s_47_59, s_47_62, s_47_64, s_47_65, s_47_68, s_47_70, s_47_73, s_47_75, s_47_77, s_47_78, s_47_79, s_47_81, s_47_83, s_47_84, s_47_86, s_47_89, mj_lI_s, mj_lI_0, mj_lA_s, mj_lA_0, mj_sL_s, mj_sL_0, mj_s8_0, mj_s8_1, mj_s8_2, mj_s8_3, mj_bc_n, mj_bc_s, mj_bd_s, u2_eq, u2_a, u2_k, ne_eq, Nat.reduceEqDiff, not_false_eq_true, List.nil_append, List.cons_append, eq_self, true_or, or_true, if_true, if_false, false_or, or_false, not_true_eq_false, Bool.false_eq_true, ie_m1_0, ie_m1_1, ie_m1_2, ie_m1_3, ie_m1_4, ie_m1_5, ie_0_m1, ie_0_1, ie_0_2, ie_0_3, ie_0_4, ie_0_5, ie_1_m1, ie_1_0, ie_1_2, ie_1_3, ie_1_4, ie_1_5, ie_2_m1, ie_2_0, ie_2_1, ie_2_3, ie_2_4, ie_2_5, ie_3_m1, ie_3_0, ie_3_1, ie_3_2, ie_3_4, ie_3_5, ie_4_m1, ie_4_0, ie_4_1, ie_4_2, ie_4_3, ie_4_5, ie_5_m1, ie_5_0, ie_5_1, ie_5_2, ie_5_3, ie_5_4, ct_0, cv_0, ci_0_0, cp_0_0, ci_0_1, cp_0_1, ci_0_2, cp_0_2, ci_0_3, cp_0_3, ci_0_4, cp_0_4, ci_0_5, cp_0_5, ci_0_6, cp_0_6, ct_1, cv_1, ci_1_0, cp_1_0, ci_1_1, cp_1_1, ci_1_2, cp_1_2, ci_1_3, cp_1_3, ci_1_4, cp_1_4, ci_1_5, cp_1_5, ci_1_6, cp_1_6, ci_1_7, cp_1_7, ci_1_8, cp_1_8, ci_1_9, cp_1_9, ci_1_10, cp_1_10, ci_1_11, cp_1_11, ci_1_12, cp_1_12, ci_1_13, cp_1_13, ci_1_14, cp_1_14, ct_3, cv_3, ci_3_0, cp_3_0, ci_3_1, cp_3_1, ci_3_2, cp_3_2, ci_3_3, cp_3_3, e1, c1, hrN, h0, xr_102 hqN hlr (by decide), hyf, ho, k0, k3, hmx, hco, hy2, m1, m2, m3, xp_100 hgo hf12 (by decide)]
      refine ih (f :: suf) _ _ _ Q hl' (fun g hg12 => ?_) (fun g hgn => ?_) (fun x' r1 r2 => hQ x' r1 (fun a k ha => by rw [r2 a k ha, u2_a ha]))
      · show _ = if g = f then nI _ else gv _ g
        by_cases e : g = f
        · subst e; rw [if_pos rfl, u2_eq]
        · rw [if_neg e, u2_k e]; exact hg g hg12
      · have hne : hF g ≠ c + 1 := ob_ne (hX.2.1 g hgn).1 hgo (by decide)
        rw [u2_a hne, u2_a hne]
        exact hfx g hgn
  rw [e_47]
  simp only [s_47_0, s_47_1, s_47_2, s_47_5, s_47_6, s_47_7, s_47_10, s_47_11, s_47_12, s_47_15, s_47_16, s_47_19, s_47_20, s_47_23, s_47_24, s_47_27, s_47_28, s_47_29, s_47_31, s_47_32, s_47_35, s_47_36, s_47_37, mj_lI_s, mj_lI_0, mj_lA_s, mj_lA_0, mj_sL_s, mj_sL_0, mj_s8_0, mj_s8_1, mj_s8_2, mj_s8_3, mj_bc_n, mj_bc_s, mj_bd_s, u2_eq, u2_a, u2_k, ne_eq, Nat.reduceEqDiff, not_false_eq_true, List.nil_append, List.cons_append, eq_self, true_or, or_true, if_true, if_false, false_or, or_false, not_true_eq_false, Bool.false_eq_true, ie_m1_0, ie_m1_1, ie_m1_2, ie_m1_3, ie_m1_4, ie_m1_5, ie_0_m1, ie_0_1, ie_0_2, ie_0_3, ie_0_4, ie_0_5, ie_1_m1, ie_1_0, ie_1_2, ie_1_3, ie_1_4, ie_1_5, ie_2_m1, ie_2_0, ie_2_1, ie_2_3, ie_2_4, ie_2_5, ie_3_m1, ie_3_0, ie_3_1, ie_3_2, ie_3_4, ie_3_5, ie_4_m1, ie_4_0, ie_4_1, ie_4_2, ie_4_3, ie_4_5, ie_5_m1, ie_5_0, ie_5_1, ie_5_2, ie_5_3, ie_5_4, ct_0, cv_0, ci_0_0, cp_0_0, ci_0_1, cp_0_1, ci_0_2, cp_0_2, ci_0_3, cp_0_3, ci_0_4, cp_0_4, ci_0_5, cp_0_5, ci_0_6, cp_0_6, ct_3, cv_3, ci_3_0, cp_3_0, ci_3_1, cp_3_1, ci_3_2, cp_3_2, ci_3_3, cp_3_3, ct_6, cv_6, ci_6_0, cp_6_0, ci_6_1, cp_6_1, ci_6_2, cp_6_2, ci_6_3, cp_6_3, ci_6_4, cp_6_4, ci_6_5, cp_6_5, ci_6_6, cp_6_6, ci_6_7, cp_6_7, hco, hy2, f1, hTo, hT3, hrN, h1x, em]
  have hfin := loop l.reverse [] x1 none none (fun r => ∃ x' y', r = some (none, bl n sh x' y') ∧ caP n sh x' y' hT c t m (pvl (wA w 0) m l) ∧ x' c 4 = -1 ∧ (∀ a k, a ≠ c → a ≠ c + 1 → x' a k = x a k) ∧ ∀ a k, ¬ (a = c ∧ k = 0) → y' a k = y a k) (by simp) (fun f hf => f2 f hf) (fun f hf => by
    have n1 : hF f ≠ c := ob_ne (hX.2.1 f hf).1 hco (by decide)
    have n2 : hF f ≠ c + 1 := ob_ne (hX.2.1 f hf).1 hgo (by decide)
    rw [f3 _ _ n2, f3 _ _ n2, u2_a n1, u2_a n1, u2_a n1, u2_a n1]
    exact ⟨(hX.2.1 f hf).2.1, (hS.2.2.1 f hf).1.2.2.1⟩) (fun x' r1 r2 => by
    refine ⟨x', _, rfl, ⟨hco, hgo, u2_eq _ _ _ _, ?_, hyc2, r1, hc⟩, ?_, fun a k h1 h2 => ?_, fun a k h => u2_ne h⟩
    · rw [r2 _ _ hcc, f3 _ _ hcc, u2_k (by decide), u2_eq]
    · rw [r2 _ _ hcc, f3 _ _ hcc, u2_eq]
    · rw [r2 _ _ h2, f3 _ _ h2, u2_a h1, u2_a h1])
  rw [List.length_reverse] at hfin
  exact hfin
/-- countUnmade -/
theorem rk_81 (d : Nat) {x : Nat → Nat → Int32} {y : Nat → Nat → Option Nat} {s : rs} {c t m : Nat} {ps : List (Nat × Nat)} (ht : t < wT w) (hps : (ps.map Prod.fst).Nodup) (hlt : ∀ q ∈ ps, q.2 < 4) (hS : suP n sh x y hF hT w nb) (hU : runP n sh y) (hC : caP n sh x y hT c t m ps) (hM : mdP n sh x y hF (wF w) s) (hR : rowP n sh x y hF (wF w) (hT t + 3) (hT t + 4) 12 (ps.map Prod.fst)) : mj_Cl pg (d + 3) 81 [.inr (some 5), .inr (some c)] (bl n sh x y) = some (some (.inl (nI (ps.foldl (sLk s.1 (wI w 0) (wI w 1 t) s.2.1) 0))), bl n sh x y) := by
  have hX := hS.2.1
  obtain ⟨hU0, hU1, hU2, hU3⟩ := id hU
  have h6o := hM.1.1.1
  have hco := hC.1
  have hc0 := hC.2.2.1
  have hTo := (hS.2.2.2.2.1 t ht).2.1.1
  have hT3 := (hS.2.2.2.2.1 t ht).2.1.2.2.1
  have h1 := hR.2.1
  rw [List.length_map] at h1
  have hrN := hR.1.1
  have hqN := hR.1.2.1
  have h0 := hR.1.2.2.1
  have h13 := hR.2.2.2.2.1
  rw [List.length_map] at h13
  have c10 : ¬ ((1 : Int32) = 0) := by decide
  have loop : ∀ (l : List (Nat × Nat)) (i a : Nat) (v5 : Option mj_V), i + l.length = ps.length → (∀ j g, l[j]? = some g → ps[i + j]? = some g) →
      mj_Rn pg (d + 3) 81 (13, [some (.inr (some 5)), some (.inr (some c)), some (.inr (some (hT t + 3))), some (.inl (nI a)), some (.inl (nI i)), v5], [], bl n sh x y) = some (some (.inl (nI (l.foldl (sLk s.1 (wI w 0) (wI w 1 t) s.2.1) a))), bl n sh x y) := by
    intro l
    induction l with
    | nil =>
      intro i a v5 hi hl
      have e1 : i = ps.length := by simpa using hi
      have hkc : (nI ps.length ≤ nI i) = True := eq_true (nI_le (by omega) (by omega))
      rw [s_81_13]
      simp only [s_81_15, s_81_16, s_81_19, s_81_22, s_81_23, s_81_26, s_81_28, s_81_29, s_81_31, s_81_32, s_81_35, s_81_37, s_81_40, s_81_43, s_81_44, s_81_46, s_81_49, s_81_52, s_81_55, s_81_58, s_81_61, s_81_62, mj_lI_s, mj_lI_0, mj_lA_s, mj_lA_0, mj_sL_s, mj_sL_0, mj_s8_0, mj_s8_1, mj_s8_2, mj_s8_3, mj_bc_n, mj_bc_s, mj_bd_s, u2_eq, u2_a, u2_k, ne_eq, Nat.reduceEqDiff, not_false_eq_true, List.nil_append, List.cons_append, eq_self, true_or, or_true, if_true, if_false, false_or, or_false, not_true_eq_false, Bool.false_eq_true, ie_m1_0, ie_m1_1, ie_m1_2, ie_m1_3, ie_m1_4, ie_m1_5, ie_0_m1, ie_0_1, ie_0_2, ie_0_3, ie_0_4, ie_0_5, ie_1_m1, ie_1_0, ie_1_2, ie_1_3, ie_1_4, ie_1_5, ie_2_m1, ie_2_0, ie_2_1, ie_2_3, ie_2_4, ie_2_5, ie_3_m1, ie_3_0, ie_3_1, ie_3_2, ie_3_4, ie_3_5, ie_4_m1, ie_4_0, ie_4_1, ie_4_2, ie_4_3, ie_4_5, ie_5_m1, ie_5_0, ie_5_1, ie_5_2, ie_5_3, ie_5_4, ct_3, cv_3, ci_3_0, cp_3_0, ci_3_1, cp_3_1, ci_3_2, cp_3_2, ci_3_3, cp_3_3, hrN, h1, hkc, List.foldl_nil]
    | cons g l ihl =>
      intro i a v5 hi hl
      obtain ⟨f, v⟩ := g
      have hlen1 : i + (l.length + 1) = ps.length := by simpa using hi
      have hkc : (nI ps.length ≤ nI i) = False := eq_false (nI_ge (by omega) (by omega))
      have hg0 : ps[i]? = some (f, v) := by simpa using hl 0 (f, v) rfl
      have hmem : (f, v) ∈ ps := List.mem_of_getElem? hg0
      have hg1 : y (hT t + 4) i = some (hF f) := hR.2.2.2.2.2.2 i f (by rw [List.getElem?_map, hg0]; rfl)
      have hfn : f < wF w := hR.2.2.2.2.2.1 f (List.mem_map.mpr ⟨(f, v), hmem, rfl⟩)
      have ho := (hX.2.1 f hfn).1
      have hi12 : i < 12 := by omega
      have hv := gv_mem hps hmem
      have hv4 : v < 4 := hlt (f, v) hmem
      have hv1 : (nI v = -1) = False := nI_nm1 (by omega)
      have c69 := rk_69 (d + 1) hM.1 hX hfn
      have hi8 := fun a v5 => ihl (i + 1) a v5 (by omega) (fun j g' hj => by
        have := hl (j + 1) g' (by rw [List.getElem?_cons_succ]; exact hj)
        rw [show i + 1 + j = i + (j + 1) by omega]
        exact this)
      rw [s_81_13, List.foldl_cons]
      by_cases c1 : f ∈ s.1
      · rw [if_pos c1] at c69
        have c49 := rk_49 d hS hC ht hM c1
        by_cases c2 : lvs ps (wI w 0) (wI w 1 t) s.2.1 f = true
        · rw [if_pos c2] at c49
          have e9 : sLk s.1 (wI w 0) (wI w 1 t) s.2.1 a (f, v) = a := if_pos ⟨c1, by
            obtain ⟨z1, z2⟩ := of_decide_eq_true c2
            rw [hv] at z2
            rcases z2 with z | z
            · rw [hv1] at z; exact z.elim
            · refine ⟨z.symm, ?_⟩
              by_cases y1 : wI w 0 f = 1
              · exact Or.inr (Classical.byContradiction (fun y2 => z1 ⟨y1, y2⟩))
              · exact Or.inl y1⟩
          rw [e9, ← hi8]
          simp only [s_81_15, s_81_16, s_81_19, s_81_22, s_81_23, s_81_26, s_81_28, s_81_29, s_81_31, s_81_32, s_81_35, s_81_37, s_81_40, s_81_43, s_81_44, s_81_46, s_81_49, s_81_52, s_81_55, s_81_58, mj_lI_s, mj_lI_0, mj_lA_s, mj_lA_0, mj_sL_s, mj_sL_0, mj_s8_0, mj_s8_1, mj_s8_2, mj_s8_3, mj_bc_n, mj_bc_s, mj_bd_s, u2_eq, u2_a, u2_k, ne_eq, Nat.reduceEqDiff, not_false_eq_true, List.nil_append, List.cons_append, eq_self, true_or, or_true, if_true, if_false, false_or, or_false, not_true_eq_false, Bool.false_eq_true, ie_m1_0, ie_m1_1, ie_m1_2, ie_m1_3, ie_m1_4, ie_m1_5, ie_0_m1, ie_0_1, ie_0_2, ie_0_3, ie_0_4, ie_0_5, ie_1_m1, ie_1_0, ie_1_2, ie_1_3, ie_1_4, ie_1_5, ie_2_m1, ie_2_0, ie_2_1, ie_2_3, ie_2_4, ie_2_5, ie_3_m1, ie_3_0, ie_3_1, ie_3_2, ie_3_4, ie_3_5, ie_4_m1, ie_4_0, ie_4_1, ie_4_2, ie_4_3, ie_4_5, ie_5_m1, ie_5_0, ie_5_1, ie_5_2, ie_5_3, ie_5_4, ct_0, cv_0, ci_0_0, cp_0_0, ci_0_1, cp_0_1, ci_0_2, cp_0_2, ci_0_3, cp_0_3, ci_0_4, cp_0_4, ci_0_5, cp_0_5, ci_0_6, cp_0_6, ct_1, cv_1, ci_1_0, cp_1_0, ci_1_1, cp_1_1, ci_1_2, cp_1_2, ci_1_3, cp_1_3, ci_1_4, cp_1_4, ci_1_5, cp_1_5, ci_1_6, cp_1_6, ci_1_7, cp_1_7, ci_1_8, cp_1_8, ci_1_9, cp_1_9, ci_1_10, cp_1_10, ci_1_11, cp_1_11, ci_1_12, cp_1_12, ci_1_13, cp_1_13, ci_1_14, cp_1_14, ct_3, cv_3, ci_3_0, cp_3_0, ci_3_1, cp_3_1, ci_3_2, cp_3_2, ci_3_3, cp_3_3, ct_4, cv_4, ci_4_0, cp_4_0, ci_4_1, cp_4_1, ci_4_2, cp_4_2, ci_4_3, cp_4_3, ci_4_4, cp_4_4, hrN, h1, hkc, h0, xr_102 hqN hi12 (by decide), hg1, hU0, hU1, h6o, c69, c10, hco, c49, nI_1]
          rfl
        · rw [if_neg c2] at c49
          have e9 : sLk s.1 (wI w 0) (wI w 1 t) s.2.1 a (f, v) = a + 1 := if_neg (fun z => c2 (decide_eq_true ⟨fun y1 => by
            rcases z.2.2 with q | q
            · exact q y1.1
            · exact y1.2 q, Or.inr (by rw [hv]; exact z.2.1.symm)⟩))
          rw [e9, ← hi8]
          simp only [s_81_15, s_81_16, s_81_19, s_81_22, s_81_23, s_81_26, s_81_28, s_81_29, s_81_31, s_81_32, s_81_35, s_81_37, s_81_40, s_81_43, s_81_44, s_81_46, s_81_49, s_81_52, s_81_55, s_81_58, mj_lI_s, mj_lI_0, mj_lA_s, mj_lA_0, mj_sL_s, mj_sL_0, mj_s8_0, mj_s8_1, mj_s8_2, mj_s8_3, mj_bc_n, mj_bc_s, mj_bd_s, u2_eq, u2_a, u2_k, ne_eq, Nat.reduceEqDiff, not_false_eq_true, List.nil_append, List.cons_append, eq_self, true_or, or_true, if_true, if_false, false_or, or_false, not_true_eq_false, Bool.false_eq_true, ie_m1_0, ie_m1_1, ie_m1_2, ie_m1_3, ie_m1_4, ie_m1_5, ie_0_m1, ie_0_1, ie_0_2, ie_0_3, ie_0_4, ie_0_5, ie_1_m1, ie_1_0, ie_1_2, ie_1_3, ie_1_4, ie_1_5, ie_2_m1, ie_2_0, ie_2_1, ie_2_3, ie_2_4, ie_2_5, ie_3_m1, ie_3_0, ie_3_1, ie_3_2, ie_3_4, ie_3_5, ie_4_m1, ie_4_0, ie_4_1, ie_4_2, ie_4_3, ie_4_5, ie_5_m1, ie_5_0, ie_5_1, ie_5_2, ie_5_3, ie_5_4, ct_0, cv_0, ci_0_0, cp_0_0, ci_0_1, cp_0_1, ci_0_2, cp_0_2, ci_0_3, cp_0_3, ci_0_4, cp_0_4, ci_0_5, cp_0_5, ci_0_6, cp_0_6, ct_1, cv_1, ci_1_0, cp_1_0, ci_1_1, cp_1_1, ci_1_2, cp_1_2, ci_1_3, cp_1_3, ci_1_4, cp_1_4, ci_1_5, cp_1_5, ci_1_6, cp_1_6, ci_1_7, cp_1_7, ci_1_8, cp_1_8, ci_1_9, cp_1_9, ci_1_10, cp_1_10, ci_1_11, cp_1_11, ci_1_12, cp_1_12, ci_1_13, cp_1_13, ci_1_14, cp_1_14, ct_3, cv_3, ci_3_0, cp_3_0, ci_3_1, cp_3_1, ci_3_2, cp_3_2, ci_3_3, cp_3_3, ct_4, cv_4, ci_4_0, cp_4_0, ci_4_1, cp_4_1, ci_4_2, cp_4_2, ci_4_3, cp_4_3, ci_4_4, cp_4_4, hrN, h1, hkc, h0, xr_102 hqN hi12 (by decide), hg1, hU0, hU1, h6o, c69, c10, hco, c49, nI_1]
          rfl
      · rw [if_neg c1] at c69
        have e9 : sLk s.1 (wI w 0) (wI w 1 t) s.2.1 a (f, v) = a + 1 := if_neg (fun z => c1 z.1)
        rw [e9, ← hi8]
        simp only [s_81_15, s_81_16, s_81_19, s_81_22, s_81_23, s_81_26, s_81_28, s_81_29, s_81_31, s_81_32, s_81_35, s_81_37, s_81_40, s_81_43, s_81_44, s_81_46, s_81_49, s_81_52, s_81_55, s_81_58, mj_lI_s, mj_lI_0, mj_lA_s, mj_lA_0, mj_sL_s, mj_sL_0, mj_s8_0, mj_s8_1, mj_s8_2, mj_s8_3, mj_bc_n, mj_bc_s, mj_bd_s, u2_eq, u2_a, u2_k, ne_eq, Nat.reduceEqDiff, not_false_eq_true, List.nil_append, List.cons_append, eq_self, true_or, or_true, if_true, if_false, false_or, or_false, not_true_eq_false, Bool.false_eq_true, ie_m1_0, ie_m1_1, ie_m1_2, ie_m1_3, ie_m1_4, ie_m1_5, ie_0_m1, ie_0_1, ie_0_2, ie_0_3, ie_0_4, ie_0_5, ie_1_m1, ie_1_0, ie_1_2, ie_1_3, ie_1_4, ie_1_5, ie_2_m1, ie_2_0, ie_2_1, ie_2_3, ie_2_4, ie_2_5, ie_3_m1, ie_3_0, ie_3_1, ie_3_2, ie_3_4, ie_3_5, ie_4_m1, ie_4_0, ie_4_1, ie_4_2, ie_4_3, ie_4_5, ie_5_m1, ie_5_0, ie_5_1, ie_5_2, ie_5_3, ie_5_4, ct_0, cv_0, ci_0_0, cp_0_0, ci_0_1, cp_0_1, ci_0_2, cp_0_2, ci_0_3, cp_0_3, ci_0_4, cp_0_4, ci_0_5, cp_0_5, ci_0_6, cp_0_6, ct_1, cv_1, ci_1_0, cp_1_0, ci_1_1, cp_1_1, ci_1_2, cp_1_2, ci_1_3, cp_1_3, ci_1_4, cp_1_4, ci_1_5, cp_1_5, ci_1_6, cp_1_6, ci_1_7, cp_1_7, ci_1_8, cp_1_8, ci_1_9, cp_1_9, ci_1_10, cp_1_10, ci_1_11, cp_1_11, ci_1_12, cp_1_12, ci_1_13, cp_1_13, ci_1_14, cp_1_14, ct_3, cv_3, ci_3_0, cp_3_0, ci_3_1, cp_3_1, ci_3_2, cp_3_2, ci_3_3, cp_3_3, ct_4, cv_4, ci_4_0, cp_4_0, ci_4_1, cp_4_1, ci_4_2, cp_4_2, ci_4_3, cp_4_3, ci_4_4, cp_4_4, hrN, h1, hkc, h0, xr_102 hqN hi12 (by decide), hg1, hU0, hU1, h6o, c69, nI_1]
        rfl
  rw [e_81]
  simp only [s_81_0, s_81_1, s_81_4, s_81_7, s_81_8, s_81_9, s_81_10, s_81_11, mj_lI_s, mj_lI_0, mj_lA_s, mj_lA_0, mj_sL_s, mj_sL_0, mj_s8_0, mj_s8_1, mj_s8_2, mj_s8_3, mj_bc_n, mj_bc_s, mj_bd_s, u2_eq, u2_a, u2_k, ne_eq, Nat.reduceEqDiff, not_false_eq_true, List.nil_append, List.cons_append, eq_self, true_or, or_true, if_true, if_false, false_or, or_false, not_true_eq_false, Bool.false_eq_true, ie_m1_0, ie_m1_1, ie_m1_2, ie_m1_3, ie_m1_4, ie_m1_5, ie_0_m1, ie_0_1, ie_0_2, ie_0_3, ie_0_4, ie_0_5, ie_1_m1, ie_1_0, ie_1_2, ie_1_3, ie_1_4, ie_1_5, ie_2_m1, ie_2_0, ie_2_1, ie_2_3, ie_2_4, ie_2_5, ie_3_m1, ie_3_0, ie_3_1, ie_3_2, ie_3_4, ie_3_5, ie_4_m1, ie_4_0, ie_4_1, ie_4_2, ie_4_3, ie_4_5, ie_5_m1, ie_5_0, ie_5_1, ie_5_2, ie_5_3, ie_5_4, ct_0, cv_0, ci_0_0, cp_0_0, ci_0_1, cp_0_1, ci_0_2, cp_0_2, ci_0_3, cp_0_3, ci_0_4, cp_0_4, ci_0_5, cp_0_5, ci_0_6, cp_0_6, ct_6, cv_6, ci_6_0, cp_6_0, ci_6_1, cp_6_1, ci_6_2, cp_6_2, ci_6_3, cp_6_3, ci_6_4, cp_6_4, ci_6_5, cp_6_5, ci_6_6, cp_6_6, ci_6_7, cp_6_7, hco, hc0, hTo, hT3]
  exact loop ps 0 0 none (by omega) (fun j g hj => by rw [Nat.zero_add]; exact hj)
end CK
