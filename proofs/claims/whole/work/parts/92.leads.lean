/-! ===== Int32 by its bits: bt x i ===== -/
def bt (x : Int32) (i : Nat) : Bool := x.toBitVec.getLsbD i
theorem b_ext {x y : Int32} (h : ∀ i, i < 32 → bt x i = bt y i) : x = y := Int32.toBitVec_inj.mp (BitVec.eq_of_getLsbD_eq (fun i hi => h i hi))
theorem b_or (x y : Int32) (i : Nat) : bt (x ||| y) i = (bt x i || bt y i) := by unfold bt; rw [Int32.toBitVec_or, BitVec.getLsbD_or]
theorem b_and (x y : Int32) (i : Nat) : bt (x &&& y) i = (bt x i && bt y i) := by unfold bt; rw [Int32.toBitVec_and, BitVec.getLsbD_and]
theorem b_xor (x y : Int32) (i : Nat) : bt (x ^^^ y) i = (bt x i ^^ bt y i) := by unfold bt; rw [Int32.toBitVec_xor, BitVec.getLsbD_xor]
theorem b_big {x : Int32} {i : Nat} (h : 32 ≤ i) : bt x i = false := BitVec.getLsbD_of_ge _ _ h
theorem b_255 (i : Nat) : bt 255 i = decide (i < 8) := by
  rcases Nat.lt_or_ge i 32 with h | h
  · exact (by decide +kernel : ∀ i, i < 32 → bt 255 i = decide (i < 8)) i h
  · rw [b_big h, decide_eq_false (by omega)]
theorem b_65535 (i : Nat) : bt 65535 i = decide (i < 16) := by
  rcases Nat.lt_or_ge i 32 with h | h
  · exact (by decide +kernel : ∀ i, i < 32 → bt 65535 i = decide (i < 16)) i h
  · rw [b_big h, decide_eq_false (by omega)]
theorem b_m1 : ∀ i, i < 32 → bt (-1) i = true := by decide +kernel
theorem b_0 (i : Nat) : bt 0 i = false := BitVec.getLsbD_zero
theorem s_l : ∀ n, n < 32 → ((nI n &&& 31).toBitVec.smod 32).toNat = n := by decide +kernel
theorem s_u : ∀ n, n < 32 → (((nI n).toUInt32 &&& Int32.toUInt32 31).toBitVec % 32).toNat = n := by decide +kernel
theorem b_shl (n : Nat) (hn : n < 32) (x : Int32) {i : Nat} (hi : i < 32) : bt (x <<< (nI n &&& 31)) i = (decide (n ≤ i) && bt x (i - n)) := by
  unfold bt
  rw [Int32.toBitVec_shiftLeft]
  show (x.toBitVec <<< ((nI n &&& 31).toBitVec.smod 32).toNat).getLsbD i = _
  rw [s_l n hn, BitVec.getLsbD_shiftLeft]
  rcases Nat.lt_or_ge i n with h | h
  · simp [h, Nat.not_le.mpr h]
  · simp [hi, h, Nat.not_lt.mpr h]
theorem b_ushr (n : Nat) (hn : n < 32) (x : Int32) (i : Nat) : bt ((x.toUInt32 >>> ((nI n).toUInt32 &&& Int32.toUInt32 31)).toInt32) i = bt x (n + i) := by
  show (x.toUInt32 >>> ((nI n).toUInt32 &&& Int32.toUInt32 31)).toBitVec.getLsbD i = x.toUInt32.toBitVec.getLsbD (n + i)
  rw [UInt32.toBitVec_shiftRight]
  show (x.toUInt32.toBitVec >>> (((nI n).toUInt32 &&& Int32.toUInt32 31).toBitVec % 32).toNat).getLsbD i = _
  rw [s_u n hn, BitVec.getLsbD_ushiftRight]
theorem b_sshr (n : Nat) (hn : n < 32) (x : Int32) {i : Nat} (hi : i < 32) : bt (x >>> (nI n &&& 31)) i = if n + i < 32 then bt x (n + i) else bt x 31 := by
  unfold bt
  rw [Int32.toBitVec_shiftRight]
  show (x.toBitVec.sshiftRight ((nI n &&& 31).toBitVec.smod 32).toNat).getLsbD i = _
  rw [s_l n hn, BitVec.getLsbD_sshiftRight, BitVec.msb_eq_getLsbD_last]
  simp [hi]
/-! ===== end of what is pasted ===== -/
theorem bb_1 (k : Nat) : bt 1 k = decide (k = 0) := by
  rcases Nat.lt_or_ge k 32 with h | h
  · exact (by decide +kernel : ∀ i, i < 32 → bt 1 i = decide (i = 0)) k h
  · rw [b_big h, decide_eq_false (by omega)]
theorem bb_bit {i : Nat} (hi : i < 32) (j : Nat) : bt (1 <<< (nI i &&& 31)) j = decide (j = i) := by
  rcases Nat.lt_or_ge j 32 with h | h
  · rw [b_shl i hi 1 h, bb_1]
    by_cases e : j = i
    · subst e; simp
    · rcases Nat.lt_or_ge j i with q | q
      · rw [decide_eq_false (by omega : ¬ i ≤ j), decide_eq_false e]; rfl
      · rw [decide_eq_false (by omega : ¬ j - i = 0), decide_eq_false e, Bool.and_false]
  · rw [b_big h, decide_eq_false (by omega)]
theorem bb_and1 (w : Int32) : (w &&& 1 = 1) = (bt w 0 = true) := by
  apply propext
  constructor
  · intro h
    have h2 := b_and w 1 0
    rw [h, bb_1] at h2
    simpa using h2.symm
  · intro h
    apply b_ext
    intro i hi
    rw [b_and, bb_1]
    by_cases e : i = 0
    · subst e; rw [h]; rfl
    · rw [decide_eq_false e, Bool.and_false]
theorem bb_tst {k : Nat} (hk : k < 32) (z : Int32) : ((z >>> (nI k &&& 31)) &&& 1 = 1) = (bt z k = true) := by
  rw [bb_and1, b_sshr k hk z (by decide : (0 : Nat) < 32), if_pos (by omega), Nat.add_zero]
theorem bb_and0 (z w : Int32) : (z &&& w = 0) = (∀ i, (bt z i && bt w i) = false) := by
  apply propext
  constructor
  · intro h i
    rw [← b_and, h, b_0]
  · intro h
    apply b_ext
    intro i hi
    rw [b_and, h i, b_0]
theorem bb_andb (z : Int32) {i : Nat} (hi : i < 32) : (z &&& (1 <<< (nI i &&& 31)) = 0) = (bt z i = false) := by
  rw [bb_and0]
  apply propext
  constructor
  · intro h
    have := h i
    rw [bb_bit hi, decide_eq_true rfl, Bool.and_true] at this
    exact this
  · intro h j
    rw [bb_bit hi]
    by_cases e : j = i
    · subst e; rw [h]; rfl
    · rw [decide_eq_false e, Bool.and_false]
/-- the reference's 'leads': a round adds what is needed of what is there -/
def ldI (z : Int32) (k : Nat) (l : List Nat) : Int32 := l.foldl (fun z g => z ||| (if (z >>> (nI k &&& 31)) &&& 1 = 1 then 1 <<< (nI g &&& 31) else 0)) z
def ldK (nd : Nat → List Nat) (z : Int32) (ks : List Nat) : Int32 := ks.foldl (fun z k => ldI z k (nd k)) z
def ldR (nd : Nat → List Nat) (nf : Nat) : Nat → Int32 → Int32
  | 0, z => z
  | r + 1, z => ldR nd nf r (ldK nd z (List.range nf))
/-- the reference's fixtures and needs -/
def mF (x : Nat → Nat → Int32) (nf : Nat) (nd : Nat → List Nat) : Prop := x 91 1 = nI nf ∧ nf ≤ 12 ∧ ∀ f, f < nf → x 94 f = nI (nd f).length ∧ (nd f).length ≤ 6 ∧ nums (x 95) (6 * f) (nd f) ∧ ∀ g ∈ nd f, g < nf
section LD
variable {n : Nat} {sh : Nat → Nat × Nat} {x : Nat → Nat → Int32} {y : Nat → Nat → Option Nat}
theorem mm_21i (d : Nat) (H : moK n sh) (Y : moY y) {k c : Nat} (hk : k < 12) (hc : x 94 k = nI c) (hc6 : c ≤ 6) {a b r : Int32} {X : Option mj_R} : ∀ (l : List Nat) (i : Nat) (z : Int32), i + l.length = c → nums (x 95) (6 * k + i) l →
    (∀ w, mj_Rn pg (d + 1) 21 (79, [some (.inr (some 91)), some (.inl a), some (.inl b), some (.inl (ldI z k l)), some (.inl r), some (.inl (nI k)), w], [], bl n sh x y) = X) →
    mj_Rn pg (d + 1) 21 (29, [some (.inr (some 91)), some (.inl a), some (.inl b), some (.inl z), some (.inl r), some (.inl (nI k)), some (.inl (nI i))], [], bl n sh x y) = X := by
  intro l
  induction l with
  | nil =>
    intro i z hi hl hX
    have hic : (nI c ≤ nI i) = True := eq_true (nI_le (by simp at hi; omega) (by simp at hi; omega))
    rw [s_21_29]
    simp only [s_21_0, s_21_1, s_21_2, s_21_3, s_21_4, s_21_5, s_21_7, s_21_9, s_21_11, s_21_14, s_21_15, s_21_17, s_21_19, s_21_20, s_21_23, s_21_26, s_21_27, s_21_31, s_21_32, s_21_35, s_21_37, s_21_38, s_21_41, s_21_42, s_21_43, s_21_45, s_21_46, s_21_47, s_21_48, s_21_49, s_21_52, s_21_53, s_21_54, s_21_57, s_21_59, s_21_61, s_21_62, s_21_64, s_21_65, s_21_66, s_21_67, s_21_70, s_21_71, s_21_72, s_21_73, s_21_76, s_21_82, s_21_85, s_21_88, s_21_91, s_21_92, s_21_93, s_21_94, s_21_95, s_21_96, s_21_97, s_21_100, s_21_101, s_21_104, s_21_105, mj_lI_s, mj_lI_0, mj_lA_s, mj_lA_0, mj_sL_s, mj_sL_0, mj_s8_0, mj_s8_1, mj_s8_2, mj_s8_3, mj_bc_n, mj_bc_s, mj_bd_s, u2_eq, u2_a, u2_k, ne_eq, Nat.reduceEqDiff, not_false_eq_true, List.nil_append, List.cons_append, eq_self, true_or, or_true, if_true, if_false, false_or, or_false, ie_m1_0, ie_m1_1, ie_m1_2, ie_m1_3, ie_m1_4, ie_m1_5, ie_0_m1, ie_0_1, ie_0_2, ie_0_3, ie_0_4, ie_0_5, ie_1_m1, ie_1_0, ie_1_2, ie_1_3, ie_1_4, ie_1_5, ie_2_m1, ie_2_0, ie_2_1, ie_2_3, ie_2_4, ie_2_5, ie_3_m1, ie_3_0, ie_3_1, ie_3_2, ie_3_4, ie_3_5, ie_4_m1, ie_4_0, ie_4_1, ie_4_2, ie_4_3, ie_4_5, ie_5_m1, ie_5_0, ie_5_1, ie_5_2, ie_5_3, ie_5_4, mt_91 H, gv_0 H, gv_1 H, gv_2 H, gv_19 H, gv_20 H, gv_21 H, gv_22 H, gv_23 H, gv_43 H, pv_0 H, pv_1 H, pv_2 H, pv_19 H, pv_20 H, pv_21 H, pv_22 H, pv_23 H, pv_43 H, gr_3 H Y, gr_4 H Y, gr_5 H Y, gr_6 H Y, gr_7 H Y, gr_8 H Y, gr_9 H Y, gr_10 H Y, gr_11 H Y, gr_12 H Y, gr_13 H Y, gr_14 H Y, gr_15 H Y, gr_16 H Y, gr_17 H Y, gr_18 H Y, gr_24 H Y, gr_25 H Y, gr_26 H Y, gr_27 H Y, gr_28 H Y, gr_29 H Y, gr_30 H Y, gr_31 H Y, gr_32 H Y, gr_33 H Y, gr_34 H Y, gr_35 H Y, gr_36 H Y, gr_37 H Y, gr_38 H Y, gr_39 H Y, gr_40 H Y, gr_41 H Y, gr_42 H Y, ra_3 H, ra_4 H, ra_5 H, ra_6 H, ra_7 H, ra_8 H, ra_9 H, ra_10 H, ra_11 H, ra_12 H, ra_13 H, ra_14 H, ra_15 H, ra_16 H, ra_17 H, ra_18 H, ra_24 H, ra_25 H, ra_26 H, ra_27 H, ra_28 H, ra_29 H, ra_30 H, ra_31 H, ra_32 H, ra_33 H, ra_34 H, ra_35 H, ra_36 H, ra_37 H, ra_38 H, ra_39 H, ra_40 H, ra_41 H, ra_42 H, pa_3 H, pa_4 H, pa_5 H, pa_6 H, pa_7 H, pa_8 H, pa_9 H, pa_10 H, pa_11 H, pa_12 H, pa_13 H, pa_14 H, pa_15 H, pa_16 H, pa_17 H, pa_18 H, pa_24 H, pa_25 H, pa_26 H, pa_27 H, pa_28 H, pa_29 H, pa_30 H, pa_31 H, pa_32 H, pa_33 H, pa_34 H, pa_35 H, pa_36 H, pa_37 H, pa_38 H, pa_39 H, pa_40 H, pa_41 H, pa_42 H, hk, hc, hic]
    exact hX _
  | cons g l ih =>
    intro i z hi hl hX
    have hi1 : i < c := by simp at hi; omega
    have hic : (nI c ≤ nI i) = False := eq_false (nI_ge hi1 (by omega))
    obtain ⟨hg, hg1⟩ := hl.hd
    have hb : 6 * k + i < 72 := by omega
    rw [s_21_29]
    simp only [s_21_0, s_21_1, s_21_2, s_21_3, s_21_4, s_21_5, s_21_7, s_21_9, s_21_11, s_21_14, s_21_15, s_21_17, s_21_19, s_21_20, s_21_23, s_21_26, s_21_27, s_21_31, s_21_32, s_21_35, s_21_37, s_21_38, s_21_41, s_21_42, s_21_43, s_21_45, s_21_46, s_21_47, s_21_48, s_21_49, s_21_52, s_21_53, s_21_54, s_21_57, s_21_59, s_21_61, s_21_62, s_21_64, s_21_65, s_21_66, s_21_67, s_21_70, s_21_71, s_21_72, s_21_73, s_21_76, s_21_82, s_21_85, s_21_88, s_21_91, s_21_92, s_21_93, s_21_94, s_21_95, s_21_96, s_21_97, s_21_100, s_21_101, s_21_104, s_21_105, mj_lI_s, mj_lI_0, mj_lA_s, mj_lA_0, mj_sL_s, mj_sL_0, mj_s8_0, mj_s8_1, mj_s8_2, mj_s8_3, mj_bc_n, mj_bc_s, mj_bd_s, u2_eq, u2_a, u2_k, ne_eq, Nat.reduceEqDiff, not_false_eq_true, List.nil_append, List.cons_append, eq_self, true_or, or_true, if_true, if_false, false_or, or_false, ie_m1_0, ie_m1_1, ie_m1_2, ie_m1_3, ie_m1_4, ie_m1_5, ie_0_m1, ie_0_1, ie_0_2, ie_0_3, ie_0_4, ie_0_5, ie_1_m1, ie_1_0, ie_1_2, ie_1_3, ie_1_4, ie_1_5, ie_2_m1, ie_2_0, ie_2_1, ie_2_3, ie_2_4, ie_2_5, ie_3_m1, ie_3_0, ie_3_1, ie_3_2, ie_3_4, ie_3_5, ie_4_m1, ie_4_0, ie_4_1, ie_4_2, ie_4_3, ie_4_5, ie_5_m1, ie_5_0, ie_5_1, ie_5_2, ie_5_3, ie_5_4, mt_91 H, gv_0 H, gv_1 H, gv_2 H, gv_19 H, gv_20 H, gv_21 H, gv_22 H, gv_23 H, gv_43 H, pv_0 H, pv_1 H, pv_2 H, pv_19 H, pv_20 H, pv_21 H, pv_22 H, pv_23 H, pv_43 H, gr_3 H Y, gr_4 H Y, gr_5 H Y, gr_6 H Y, gr_7 H Y, gr_8 H Y, gr_9 H Y, gr_10 H Y, gr_11 H Y, gr_12 H Y, gr_13 H Y, gr_14 H Y, gr_15 H Y, gr_16 H Y, gr_17 H Y, gr_18 H Y, gr_24 H Y, gr_25 H Y, gr_26 H Y, gr_27 H Y, gr_28 H Y, gr_29 H Y, gr_30 H Y, gr_31 H Y, gr_32 H Y, gr_33 H Y, gr_34 H Y, gr_35 H Y, gr_36 H Y, gr_37 H Y, gr_38 H Y, gr_39 H Y, gr_40 H Y, gr_41 H Y, gr_42 H Y, ra_3 H, ra_4 H, ra_5 H, ra_6 H, ra_7 H, ra_8 H, ra_9 H, ra_10 H, ra_11 H, ra_12 H, ra_13 H, ra_14 H, ra_15 H, ra_16 H, ra_17 H, ra_18 H, ra_24 H, ra_25 H, ra_26 H, ra_27 H, ra_28 H, ra_29 H, ra_30 H, ra_31 H, ra_32 H, ra_33 H, ra_34 H, ra_35 H, ra_36 H, ra_37 H, ra_38 H, ra_39 H, ra_40 H, ra_41 H, ra_42 H, pa_3 H, pa_4 H, pa_5 H, pa_6 H, pa_7 H, pa_8 H, pa_9 H, pa_10 H, pa_11 H, pa_12 H, pa_13 H, pa_14 H, pa_15 H, pa_16 H, pa_17 H, pa_18 H, pa_24 H, pa_25 H, pa_26 H, pa_27 H, pa_28 H, pa_29 H, pa_30 H, pa_31 H, pa_32 H, pa_33 H, pa_34 H, pa_35 H, pa_36 H, pa_37 H, pa_38 H, pa_39 H, pa_40 H, pa_41 H, pa_42 H, hk, hc, hic, nI_mul6, hb, hg, nI_1]
    have hX1 : ∀ w, mj_Rn pg (d + 1) 21 (79, [some (.inr (some 91)), some (.inl a), some (.inl b), some (.inl (ldI (z ||| (if (z >>> (nI k &&& 31)) &&& 1 = 1 then 1 <<< (nI g &&& 31) else 0)) k l)), some (.inl r), some (.inl (nI k)), w], [], bl n sh x y) = X := hX
    have := ih (i + 1) _ (by simp at hi; omega) (by rw [← Nat.add_assoc]; exact hl.tl) hX1
    by_cases e : (z >>> (nI k &&& 31)) &&& 1 = 1
    · simp only [e, not_true_eq_false, if_true, if_false] at this ⊢
      exact this
    · simp only [e, not_false_eq_true, if_true, if_false] at this ⊢
      exact this
theorem mm_21k (d : Nat) (H : moK n sh) (Y : moY y) {nf : Nat} {nd : Nat → List Nat} (hF : mF x nf nd) {a b r : Int32} {X : Option mj_R} : ∀ (m k : Nat) (z : Int32) (w : Option mj_V), k + m = nf →
    (∀ w v, mj_Rn pg (d + 1) 21 (85, [some (.inr (some 91)), some (.inl a), some (.inl b), some (.inl (ldK nd z (List.range' k m))), some (.inl r), v, w], [], bl n sh x y) = X) →
    mj_Rn pg (d + 1) 21 (17, [some (.inr (some 91)), some (.inl a), some (.inl b), some (.inl z), some (.inl r), some (.inl (nI k)), w], [], bl n sh x y) = X := by
  obtain ⟨h1, h12, hnd⟩ := hF
  intro m
  induction m with
  | zero =>
    intro k z w hk hX
    have hic : (nI nf ≤ nI k) = True := eq_true (nI_le (by omega) (by omega))
    rw [s_21_17]
    simp only [s_21_0, s_21_1, s_21_2, s_21_3, s_21_4, s_21_5, s_21_7, s_21_9, s_21_11, s_21_14, s_21_15, s_21_19, s_21_20, s_21_23, s_21_26, s_21_27, s_21_31, s_21_32, s_21_35, s_21_37, s_21_38, s_21_41, s_21_42, s_21_43, s_21_45, s_21_46, s_21_47, s_21_48, s_21_49, s_21_52, s_21_53, s_21_54, s_21_57, s_21_59, s_21_61, s_21_62, s_21_64, s_21_65, s_21_66, s_21_67, s_21_70, s_21_71, s_21_72, s_21_73, s_21_76, s_21_82, s_21_88, s_21_91, s_21_92, s_21_93, s_21_94, s_21_95, s_21_96, s_21_97, s_21_100, s_21_101, s_21_104, s_21_105, mj_lI_s, mj_lI_0, mj_lA_s, mj_lA_0, mj_sL_s, mj_sL_0, mj_s8_0, mj_s8_1, mj_s8_2, mj_s8_3, mj_bc_n, mj_bc_s, mj_bd_s, u2_eq, u2_a, u2_k, ne_eq, Nat.reduceEqDiff, not_false_eq_true, List.nil_append, List.cons_append, eq_self, true_or, or_true, if_true, if_false, false_or, or_false, ie_m1_0, ie_m1_1, ie_m1_2, ie_m1_3, ie_m1_4, ie_m1_5, ie_0_m1, ie_0_1, ie_0_2, ie_0_3, ie_0_4, ie_0_5, ie_1_m1, ie_1_0, ie_1_2, ie_1_3, ie_1_4, ie_1_5, ie_2_m1, ie_2_0, ie_2_1, ie_2_3, ie_2_4, ie_2_5, ie_3_m1, ie_3_0, ie_3_1, ie_3_2, ie_3_4, ie_3_5, ie_4_m1, ie_4_0, ie_4_1, ie_4_2, ie_4_3, ie_4_5, ie_5_m1, ie_5_0, ie_5_1, ie_5_2, ie_5_3, ie_5_4, mt_91 H, gv_0 H, gv_1 H, gv_2 H, gv_19 H, gv_20 H, gv_21 H, gv_22 H, gv_23 H, gv_43 H, pv_0 H, pv_1 H, pv_2 H, pv_19 H, pv_20 H, pv_21 H, pv_22 H, pv_23 H, pv_43 H, gr_3 H Y, gr_4 H Y, gr_5 H Y, gr_6 H Y, gr_7 H Y, gr_8 H Y, gr_9 H Y, gr_10 H Y, gr_11 H Y, gr_12 H Y, gr_13 H Y, gr_14 H Y, gr_15 H Y, gr_16 H Y, gr_17 H Y, gr_18 H Y, gr_24 H Y, gr_25 H Y, gr_26 H Y, gr_27 H Y, gr_28 H Y, gr_29 H Y, gr_30 H Y, gr_31 H Y, gr_32 H Y, gr_33 H Y, gr_34 H Y, gr_35 H Y, gr_36 H Y, gr_37 H Y, gr_38 H Y, gr_39 H Y, gr_40 H Y, gr_41 H Y, gr_42 H Y, ra_3 H, ra_4 H, ra_5 H, ra_6 H, ra_7 H, ra_8 H, ra_9 H, ra_10 H, ra_11 H, ra_12 H, ra_13 H, ra_14 H, ra_15 H, ra_16 H, ra_17 H, ra_18 H, ra_24 H, ra_25 H, ra_26 H, ra_27 H, ra_28 H, ra_29 H, ra_30 H, ra_31 H, ra_32 H, ra_33 H, ra_34 H, ra_35 H, ra_36 H, ra_37 H, ra_38 H, ra_39 H, ra_40 H, ra_41 H, ra_42 H, pa_3 H, pa_4 H, pa_5 H, pa_6 H, pa_7 H, pa_8 H, pa_9 H, pa_10 H, pa_11 H, pa_12 H, pa_13 H, pa_14 H, pa_15 H, pa_16 H, pa_17 H, pa_18 H, pa_24 H, pa_25 H, pa_26 H, pa_27 H, pa_28 H, pa_29 H, pa_30 H, pa_31 H, pa_32 H, pa_33 H, pa_34 H, pa_35 H, pa_36 H, pa_37 H, pa_38 H, pa_39 H, pa_40 H, pa_41 H, pa_42 H, h1, hic]
    exact hX _ _
  | succ m ih =>
    intro k z w hk hX
    have hk1 : k < nf := by omega
    have hic : (nI nf ≤ nI k) = False := eq_false (nI_ge hk1 (by omega))
    obtain ⟨g1, g2, g3, -⟩ := hnd k hk1
    rw [s_21_17]
    simp only [s_21_0, s_21_1, s_21_2, s_21_3, s_21_4, s_21_5, s_21_7, s_21_9, s_21_11, s_21_14, s_21_15, s_21_19, s_21_20, s_21_23, s_21_26, s_21_27, s_21_31, s_21_32, s_21_35, s_21_37, s_21_38, s_21_41, s_21_42, s_21_43, s_21_45, s_21_46, s_21_47, s_21_48, s_21_49, s_21_52, s_21_53, s_21_54, s_21_57, s_21_59, s_21_61, s_21_62, s_21_64, s_21_65, s_21_66, s_21_67, s_21_70, s_21_71, s_21_72, s_21_73, s_21_76, s_21_82, s_21_88, s_21_91, s_21_92, s_21_93, s_21_94, s_21_95, s_21_96, s_21_97, s_21_100, s_21_101, s_21_104, s_21_105, mj_lI_s, mj_lI_0, mj_lA_s, mj_lA_0, mj_sL_s, mj_sL_0, mj_s8_0, mj_s8_1, mj_s8_2, mj_s8_3, mj_bc_n, mj_bc_s, mj_bd_s, u2_eq, u2_a, u2_k, ne_eq, Nat.reduceEqDiff, not_false_eq_true, List.nil_append, List.cons_append, eq_self, true_or, or_true, if_true, if_false, false_or, or_false, ie_m1_0, ie_m1_1, ie_m1_2, ie_m1_3, ie_m1_4, ie_m1_5, ie_0_m1, ie_0_1, ie_0_2, ie_0_3, ie_0_4, ie_0_5, ie_1_m1, ie_1_0, ie_1_2, ie_1_3, ie_1_4, ie_1_5, ie_2_m1, ie_2_0, ie_2_1, ie_2_3, ie_2_4, ie_2_5, ie_3_m1, ie_3_0, ie_3_1, ie_3_2, ie_3_4, ie_3_5, ie_4_m1, ie_4_0, ie_4_1, ie_4_2, ie_4_3, ie_4_5, ie_5_m1, ie_5_0, ie_5_1, ie_5_2, ie_5_3, ie_5_4, mt_91 H, gv_0 H, gv_1 H, gv_2 H, gv_19 H, gv_20 H, gv_21 H, gv_22 H, gv_23 H, gv_43 H, pv_0 H, pv_1 H, pv_2 H, pv_19 H, pv_20 H, pv_21 H, pv_22 H, pv_23 H, pv_43 H, gr_3 H Y, gr_4 H Y, gr_5 H Y, gr_6 H Y, gr_7 H Y, gr_8 H Y, gr_9 H Y, gr_10 H Y, gr_11 H Y, gr_12 H Y, gr_13 H Y, gr_14 H Y, gr_15 H Y, gr_16 H Y, gr_17 H Y, gr_18 H Y, gr_24 H Y, gr_25 H Y, gr_26 H Y, gr_27 H Y, gr_28 H Y, gr_29 H Y, gr_30 H Y, gr_31 H Y, gr_32 H Y, gr_33 H Y, gr_34 H Y, gr_35 H Y, gr_36 H Y, gr_37 H Y, gr_38 H Y, gr_39 H Y, gr_40 H Y, gr_41 H Y, gr_42 H Y, ra_3 H, ra_4 H, ra_5 H, ra_6 H, ra_7 H, ra_8 H, ra_9 H, ra_10 H, ra_11 H, ra_12 H, ra_13 H, ra_14 H, ra_15 H, ra_16 H, ra_17 H, ra_18 H, ra_24 H, ra_25 H, ra_26 H, ra_27 H, ra_28 H, ra_29 H, ra_30 H, ra_31 H, ra_32 H, ra_33 H, ra_34 H, ra_35 H, ra_36 H, ra_37 H, ra_38 H, ra_39 H, ra_40 H, ra_41 H, ra_42 H, pa_3 H, pa_4 H, pa_5 H, pa_6 H, pa_7 H, pa_8 H, pa_9 H, pa_10 H, pa_11 H, pa_12 H, pa_13 H, pa_14 H, pa_15 H, pa_16 H, pa_17 H, pa_18 H, pa_24 H, pa_25 H, pa_26 H, pa_27 H, pa_28 H, pa_29 H, pa_30 H, pa_31 H, pa_32 H, pa_33 H, pa_34 H, pa_35 H, pa_36 H, pa_37 H, pa_38 H, pa_39 H, pa_40 H, pa_41 H, pa_42 H, h1, hic]
    have e0 : (0 : Int32) = nI 0 := rfl
    rw [e0]
    refine mm_21i d H Y (by omega) g1 g2 (nd k) 0 z (by omega) g3 (fun w' => ?_)
    simp only [s_21_79, s_21_82, mj_lI_s, mj_lI_0, mj_lA_s, mj_lA_0, mj_sL_s, mj_sL_0, mj_s8_0, mj_s8_1, mj_s8_2, mj_s8_3, mj_bc_n, mj_bc_s, mj_bd_s, u2_eq, u2_a, u2_k, ne_eq, Nat.reduceEqDiff, not_false_eq_true, List.nil_append, List.cons_append, eq_self, true_or, or_true, if_true, if_false, false_or, or_false, ie_m1_0, ie_m1_1, ie_m1_2, ie_m1_3, ie_m1_4, ie_m1_5, ie_0_m1, ie_0_1, ie_0_2, ie_0_3, ie_0_4, ie_0_5, ie_1_m1, ie_1_0, ie_1_2, ie_1_3, ie_1_4, ie_1_5, ie_2_m1, ie_2_0, ie_2_1, ie_2_3, ie_2_4, ie_2_5, ie_3_m1, ie_3_0, ie_3_1, ie_3_2, ie_3_4, ie_3_5, ie_4_m1, ie_4_0, ie_4_1, ie_4_2, ie_4_3, ie_4_5, ie_5_m1, ie_5_0, ie_5_1, ie_5_2, ie_5_3, ie_5_4, nI_1]
    refine ih (k + 1) (ldI z k (nd k)) w' (by omega) (fun w v => ?_)
    have := hX w v
    rw [List.range'_succ] at this
    exact this
theorem mm_21r (d : Nat) (H : moK n sh) (Y : moY y) {nf : Nat} {nd : Nat → List Nat} (hF : mF x nf nd) {a b : Int32} {X : Option mj_R} : ∀ (m r : Nat) (z : Int32) (w v : Option mj_V), r + m = 12 →
    (∀ w v u, mj_Rn pg (d + 1) 21 (91, [some (.inr (some 91)), some (.inl a), some (.inl b), some (.inl (ldR nd nf m z)), u, v, w], [], bl n sh x y) = X) →
    mj_Rn pg (d + 1) 21 (7, [some (.inr (some 91)), some (.inl a), some (.inl b), some (.inl z), some (.inl (nI r)), v, w], [], bl n sh x y) = X := by
  intro m
  induction m with
  | zero =>
    intro r z w v hr hX
    have hic : ((12 : Int32) ≤ nI r) = True := eq_true (nI_le (a := 12) (by omega) (by omega))
    rw [s_21_7]
    simp only [s_21_0, s_21_1, s_21_2, s_21_3, s_21_4, s_21_5, s_21_9, s_21_11, s_21_14, s_21_15, s_21_19, s_21_20, s_21_23, s_21_26, s_21_27, s_21_31, s_21_32, s_21_35, s_21_37, s_21_38, s_21_41, s_21_42, s_21_43, s_21_45, s_21_46, s_21_47, s_21_48, s_21_49, s_21_52, s_21_53, s_21_54, s_21_57, s_21_59, s_21_61, s_21_62, s_21_64, s_21_65, s_21_66, s_21_67, s_21_70, s_21_71, s_21_72, s_21_73, s_21_76, s_21_82, s_21_88, s_21_92, s_21_93, s_21_94, s_21_95, s_21_96, s_21_97, s_21_100, s_21_101, s_21_104, s_21_105, mj_lI_s, mj_lI_0, mj_lA_s, mj_lA_0, mj_sL_s, mj_sL_0, mj_s8_0, mj_s8_1, mj_s8_2, mj_s8_3, mj_bc_n, mj_bc_s, mj_bd_s, u2_eq, u2_a, u2_k, ne_eq, Nat.reduceEqDiff, not_false_eq_true, List.nil_append, List.cons_append, eq_self, true_or, or_true, if_true, if_false, false_or, or_false, ie_m1_0, ie_m1_1, ie_m1_2, ie_m1_3, ie_m1_4, ie_m1_5, ie_0_m1, ie_0_1, ie_0_2, ie_0_3, ie_0_4, ie_0_5, ie_1_m1, ie_1_0, ie_1_2, ie_1_3, ie_1_4, ie_1_5, ie_2_m1, ie_2_0, ie_2_1, ie_2_3, ie_2_4, ie_2_5, ie_3_m1, ie_3_0, ie_3_1, ie_3_2, ie_3_4, ie_3_5, ie_4_m1, ie_4_0, ie_4_1, ie_4_2, ie_4_3, ie_4_5, ie_5_m1, ie_5_0, ie_5_1, ie_5_2, ie_5_3, ie_5_4, hic]
    exact hX _ _ _
  | succ m ih =>
    intro r z w v hr hX
    have hic : ((12 : Int32) ≤ nI r) = False := eq_false (nI_ge (b := 12) (by omega) (by decide))
    rw [s_21_7]
    simp only [s_21_0, s_21_1, s_21_2, s_21_3, s_21_4, s_21_5, s_21_9, s_21_11, s_21_14, s_21_15, s_21_19, s_21_20, s_21_23, s_21_26, s_21_27, s_21_31, s_21_32, s_21_35, s_21_37, s_21_38, s_21_41, s_21_42, s_21_43, s_21_45, s_21_46, s_21_47, s_21_48, s_21_49, s_21_52, s_21_53, s_21_54, s_21_57, s_21_59, s_21_61, s_21_62, s_21_64, s_21_65, s_21_66, s_21_67, s_21_70, s_21_71, s_21_72, s_21_73, s_21_76, s_21_82, s_21_88, s_21_92, s_21_93, s_21_94, s_21_95, s_21_96, s_21_97, s_21_100, s_21_101, s_21_104, s_21_105, mj_lI_s, mj_lI_0, mj_lA_s, mj_lA_0, mj_sL_s, mj_sL_0, mj_s8_0, mj_s8_1, mj_s8_2, mj_s8_3, mj_bc_n, mj_bc_s, mj_bd_s, u2_eq, u2_a, u2_k, ne_eq, Nat.reduceEqDiff, not_false_eq_true, List.nil_append, List.cons_append, eq_self, true_or, or_true, if_true, if_false, false_or, or_false, ie_m1_0, ie_m1_1, ie_m1_2, ie_m1_3, ie_m1_4, ie_m1_5, ie_0_m1, ie_0_1, ie_0_2, ie_0_3, ie_0_4, ie_0_5, ie_1_m1, ie_1_0, ie_1_2, ie_1_3, ie_1_4, ie_1_5, ie_2_m1, ie_2_0, ie_2_1, ie_2_3, ie_2_4, ie_2_5, ie_3_m1, ie_3_0, ie_3_1, ie_3_2, ie_3_4, ie_3_5, ie_4_m1, ie_4_0, ie_4_1, ie_4_2, ie_4_3, ie_4_5, ie_5_m1, ie_5_0, ie_5_1, ie_5_2, ie_5_3, ie_5_4, hic]
    have e0 : (0 : Int32) = nI 0 := rfl
    rw [e0]
    refine mm_21k d H Y hF nf 0 z w (by omega) (fun w' v' => ?_)
    simp only [s_21_85, s_21_88, mj_lI_s, mj_lI_0, mj_lA_s, mj_lA_0, mj_sL_s, mj_sL_0, mj_s8_0, mj_s8_1, mj_s8_2, mj_s8_3, mj_bc_n, mj_bc_s, mj_bd_s, u2_eq, u2_a, u2_k, ne_eq, Nat.reduceEqDiff, not_false_eq_true, List.nil_append, List.cons_append, eq_self, true_or, or_true, if_true, if_false, false_or, or_false, ie_m1_0, ie_m1_1, ie_m1_2, ie_m1_3, ie_m1_4, ie_m1_5, ie_0_m1, ie_0_1, ie_0_2, ie_0_3, ie_0_4, ie_0_5, ie_1_m1, ie_1_0, ie_1_2, ie_1_3, ie_1_4, ie_1_5, ie_2_m1, ie_2_0, ie_2_1, ie_2_3, ie_2_4, ie_2_5, ie_3_m1, ie_3_0, ie_3_1, ie_3_2, ie_3_4, ie_3_5, ie_4_m1, ie_4_0, ie_4_1, ie_4_2, ie_4_3, ie_4_5, ie_5_m1, ie_5_0, ie_5_1, ie_5_2, ie_5_3, ie_5_4, nI_1]
    refine ih (r + 1) _ w' v' (by omega) (fun w v u => ?_)
    have := hX w v u
    rw [ldR, List.range_eq_range'] at this
    exact this
/-- leads -/
theorem mm_21 (d : Nat) (H : moK n sh) (Y : moY y) {nf : Nat} {nd : Nat → List Nat} (hF : mF x nf nd) {f o : Nat} (ho : o < 32) : mj_Cl pg (d + 1) 21 [.inr (some 91), .inl (nI f), .inl (nI o)] (bl n sh x y) = some (some (.inl (if bt (ldR nd nf 12 (1 <<< (nI f &&& 31))) o = true then 1 else 0)), bl n sh x y) := by
  rw [e_21]
  simp only [s_21_0, s_21_1, s_21_2, s_21_3, s_21_4, s_21_5, mj_lI_s, mj_lI_0, mj_lA_s, mj_lA_0, mj_sL_s, mj_sL_0, mj_s8_0, mj_s8_1, mj_s8_2, mj_s8_3, mj_bc_n, mj_bc_s, mj_bd_s, u2_eq, u2_a, u2_k, ne_eq, Nat.reduceEqDiff, not_false_eq_true, List.nil_append, List.cons_append, eq_self, true_or, or_true, if_true, if_false, false_or, or_false, ie_m1_0, ie_m1_1, ie_m1_2, ie_m1_3, ie_m1_4, ie_m1_5, ie_0_m1, ie_0_1, ie_0_2, ie_0_3, ie_0_4, ie_0_5, ie_1_m1, ie_1_0, ie_1_2, ie_1_3, ie_1_4, ie_1_5, ie_2_m1, ie_2_0, ie_2_1, ie_2_3, ie_2_4, ie_2_5, ie_3_m1, ie_3_0, ie_3_1, ie_3_2, ie_3_4, ie_3_5, ie_4_m1, ie_4_0, ie_4_1, ie_4_2, ie_4_3, ie_4_5, ie_5_m1, ie_5_0, ie_5_1, ie_5_2, ie_5_3, ie_5_4]
  have e0 : (0 : Int32) = nI 0 := rfl
  rw [e0]
  refine mm_21r d H Y hF 12 0 _ _ _ (by omega) (fun w v u => ?_)
  simp only [s_21_91, s_21_92, s_21_93, s_21_94, s_21_95, s_21_96, s_21_97, s_21_100, s_21_101, s_21_104, s_21_105, mj_lI_s, mj_lI_0, mj_lA_s, mj_lA_0, mj_sL_s, mj_sL_0, mj_s8_0, mj_s8_1, mj_s8_2, mj_s8_3, mj_bc_n, mj_bc_s, mj_bd_s, u2_eq, u2_a, u2_k, ne_eq, Nat.reduceEqDiff, not_false_eq_true, List.nil_append, List.cons_append, eq_self, true_or, or_true, if_true, if_false, false_or, or_false, ie_m1_0, ie_m1_1, ie_m1_2, ie_m1_3, ie_m1_4, ie_m1_5, ie_0_m1, ie_0_1, ie_0_2, ie_0_3, ie_0_4, ie_0_5, ie_1_m1, ie_1_0, ie_1_2, ie_1_3, ie_1_4, ie_1_5, ie_2_m1, ie_2_0, ie_2_1, ie_2_3, ie_2_4, ie_2_5, ie_3_m1, ie_3_0, ie_3_1, ie_3_2, ie_3_4, ie_3_5, ie_4_m1, ie_4_0, ie_4_1, ie_4_2, ie_4_3, ie_4_5, ie_5_m1, ie_5_0, ie_5_1, ie_5_2, ie_5_3, ie_5_4, bb_tst ho]
  by_cases e : bt (ldR nd nf 12 (1 <<< (nI f &&& 31))) o = true
  · simp only [e, not_true_eq_false, if_true, if_false, mj_lI_s, mj_lI_0, mj_lA_s, mj_lA_0, mj_sL_s, mj_sL_0, mj_s8_0, mj_s8_1, mj_s8_2, mj_s8_3, mj_bc_n, mj_bc_s, mj_bd_s, u2_eq, u2_a, u2_k, ne_eq, Nat.reduceEqDiff, not_false_eq_true, List.nil_append, List.cons_append, eq_self, true_or, or_true, if_true, if_false, false_or, or_false, ie_m1_0, ie_m1_1, ie_m1_2, ie_m1_3, ie_m1_4, ie_m1_5, ie_0_m1, ie_0_1, ie_0_2, ie_0_3, ie_0_4, ie_0_5, ie_1_m1, ie_1_0, ie_1_2, ie_1_3, ie_1_4, ie_1_5, ie_2_m1, ie_2_0, ie_2_1, ie_2_3, ie_2_4, ie_2_5, ie_3_m1, ie_3_0, ie_3_1, ie_3_2, ie_3_4, ie_3_5, ie_4_m1, ie_4_0, ie_4_1, ie_4_2, ie_4_3, ie_4_5, ie_5_m1, ie_5_0, ie_5_1, ie_5_2, ie_5_3, ie_5_4]
  · simp only [e, Bool.false_eq_true, not_false_eq_true, if_true, if_false, mj_lI_s, mj_lI_0, mj_lA_s, mj_lA_0, mj_sL_s, mj_sL_0, mj_s8_0, mj_s8_1, mj_s8_2, mj_s8_3, mj_bc_n, mj_bc_s, mj_bd_s, u2_eq, u2_a, u2_k, ne_eq, Nat.reduceEqDiff, not_false_eq_true, List.nil_append, List.cons_append, eq_self, true_or, or_true, if_true, if_false, false_or, or_false, ie_m1_0, ie_m1_1, ie_m1_2, ie_m1_3, ie_m1_4, ie_m1_5, ie_0_m1, ie_0_1, ie_0_2, ie_0_3, ie_0_4, ie_0_5, ie_1_m1, ie_1_0, ie_1_2, ie_1_3, ie_1_4, ie_1_5, ie_2_m1, ie_2_0, ie_2_1, ie_2_3, ie_2_4, ie_2_5, ie_3_m1, ie_3_0, ie_3_1, ie_3_2, ie_3_4, ie_3_5, ie_4_m1, ie_4_0, ie_4_1, ie_4_2, ie_4_3, ie_4_5, ie_5_m1, ie_5_0, ie_5_1, ie_5_2, ie_5_3, ie_5_4, show nI 0 = (0 : Int32) from rfl]
end LD
