/-! the reference's constructor (laid by wip/gen/ctor.py) -/
def szs (n : Nat) (sh : Nat → Nat × Nat) : Nat := ((List.range n).map (fun a => (sh a).2)).sum
theorem szs_U (n : Nat) (sh : Nat → Nat × Nat) (q : Nat × Nat) : szs (n + 1) (uS sh n q) = szs n sh + q.2 := szU n sh q
theorem g16_12 : ((12 : Int32) < 0 ∨ 100000 < (12 : Nat)) = False := eq_false (by decide)
theorem h16_12 : (12 : Int32).toNatClampNeg = 12 := by decide
theorem g16_20 : ((20 : Int32) < 0 ∨ 100000 < (20 : Nat)) = False := eq_false (by decide)
theorem h16_20 : (20 : Int32).toNatClampNeg = 20 := by decide
theorem g16_40 : ((40 : Int32) < 0 ∨ 100000 < (40 : Nat)) = False := eq_false (by decide)
theorem h16_40 : (40 : Int32).toNatClampNeg = 40 := by decide
theorem g16_72 : ((72 : Int32) < 0 ∨ 100000 < (72 : Nat)) = False := eq_false (by decide)
theorem h16_72 : (72 : Int32).toNatClampNeg = 72 := by decide
theorem g16_80 : ((80 : Int32) < 0 ∨ 100000 < (80 : Nat)) = False := eq_false (by decide)
theorem h16_80 : (80 : Int32).toNatClampNeg = 80 := by decide
theorem g16_120 : ((120 : Int32) < 0 ∨ 100000 < (120 : Nat)) = False := eq_false (by decide)
theorem h16_120 : (120 : Int32).toNatClampNeg = 120 := by decide
theorem g16_160 : ((160 : Int32) < 0 ∨ 100000 < (160 : Nat)) = False := eq_false (by decide)
theorem h16_160 : (160 : Int32).toNatClampNeg = 160 := by decide
theorem g16_8000 : ((8000 : Int32) < 0 ∨ 100000 < (8000 : Nat)) = False := eq_false (by decide)
theorem h16_8000 : (8000 : Int32).toNatClampNeg = 8000 := by decide
theorem c8_put {n : Nat} {sh : Nat → Nat × Nat} {x : Nat → Nat → Int32} {y : Nat → Nat → Option Nat} {a k : Nat} (h : ob n sh a 8 44) (hk : k < 44) (hf : fk 8 k = false) (v : Option Nat) : mj_pf (bl n sh x y) a 8 k (.inr v) = some (bl n sh x (u2 y a k v)) := bl_pfr n sh x y v (h.ok hk) hf
section K16
variable {sh : Nat → Nat × Nat} {x : Nat → Nat → Int32} {y : Nat → Nat → Option Nat}
def sk_0 (sh : Nat → Nat × Nat) : Nat → Nat × Nat := sh
def xk_0 (x : Nat → Nat → Int32) : Nat → Nat → Int32 := x
def yk_0 (y : Nat → Nat → Option Nat) : Nat → Nat → Option Nat := y
def sk_1 (sh : Nat → Nat × Nat) : Nat → Nat × Nat := uS (sk_0 sh) 92 (100, 12)
def xk_1 (x : Nat → Nat → Int32) : Nat → Nat → Int32 := uz (xk_0 x) 92 0
def yk_1 (y : Nat → Nat → Option Nat) : Nat → Nat → Option Nat := u2 (uz (yk_0 y) 92 none) 91 3 (some 92)
theorem b16_0 (d : Nat) (h : ob 92 (sk_0 sh) 91 8 44) : mj_Rn pg (d + 1) 16 (4, [some (.inr (some 91))], [], bl 92 (sk_0 sh) (xk_0 x) (yk_0 y)) = mj_Rn pg (d + 1) 16 (12, [some (.inr (some 91))], [], bl 93 (sk_1 sh) (xk_1 x) (yk_1 y)) := by
  have h2 : ob (92 + 1) (uS (sk_0 sh) 92 (100, 12)) 91 8 44 := h.up (100, 12)
  have hp : ∀ v, mj_pf (bl (92 + 1) (uS (sk_0 sh) 92 (100, 12)) (uz (xk_0 x) 92 0) (uz (yk_0 y) 92 none)) 91 8 3 (.inr v) = _ := fun v => c8_put h2 (by decide) (by decide) v
  simp only [s_16_4, s_16_5, s_16_7, s_16_9, mj_lI_s, mj_lI_0, mj_lA_s, mj_lA_0, mj_sL_s, mj_sL_0, mj_s8_0, mj_s8_1, mj_s8_2, mj_s8_3, mj_bc_n, mj_bc_s, mj_bd_s, u2_eq, u2_a, u2_k, ne_eq, Nat.reduceEqDiff, not_false_eq_true, List.nil_append, List.cons_append, eq_self, true_or, or_true, if_true, if_false, false_or, or_false, not_true_eq_false, Bool.false_eq_true, ie_m1_0, ie_m1_1, ie_m1_2, ie_m1_3, ie_m1_4, ie_m1_5, ie_0_m1, ie_0_1, ie_0_2, ie_0_3, ie_0_4, ie_0_5, ie_1_m1, ie_1_0, ie_1_2, ie_1_3, ie_1_4, ie_1_5, ie_2_m1, ie_2_0, ie_2_1, ie_2_3, ie_2_4, ie_2_5, ie_3_m1, ie_3_0, ie_3_1, ie_3_2, ie_3_4, ie_3_5, ie_4_m1, ie_4_0, ie_4_1, ie_4_2, ie_4_3, ie_4_5, ie_5_m1, ie_5_0, ie_5_1, ie_5_2, ie_5_3, ie_5_4, g16_12, h16_12, bl_len, al_100, hp]
  rfl
theorem o16_0 (h : ob 92 (sk_0 sh) 91 8 44) : ob 93 (sk_1 sh) 91 8 44 := h.up (100, 12)
theorem z16_0 : szs 93 (sk_1 sh) = szs 92 (sk_0 sh) + 12 := szs_U 92 (sk_0 sh) (100, 12)
def sk_2 (sh : Nat → Nat × Nat) : Nat → Nat × Nat := uS (sk_1 sh) 93 (100, 12)
def xk_2 (x : Nat → Nat → Int32) : Nat → Nat → Int32 := uz (xk_1 x) 93 0
def yk_2 (y : Nat → Nat → Option Nat) : Nat → Nat → Option Nat := u2 (uz (yk_1 y) 93 none) 91 4 (some 93)
theorem b16_1 (d : Nat) (h : ob 93 (sk_1 sh) 91 8 44) : mj_Rn pg (d + 1) 16 (12, [some (.inr (some 91))], [], bl 93 (sk_1 sh) (xk_1 x) (yk_1 y)) = mj_Rn pg (d + 1) 16 (20, [some (.inr (some 91))], [], bl 94 (sk_2 sh) (xk_2 x) (yk_2 y)) := by
  have h2 : ob (93 + 1) (uS (sk_1 sh) 93 (100, 12)) 91 8 44 := h.up (100, 12)
  have hp : ∀ v, mj_pf (bl (93 + 1) (uS (sk_1 sh) 93 (100, 12)) (uz (xk_1 x) 93 0) (uz (yk_1 y) 93 none)) 91 8 4 (.inr v) = _ := fun v => c8_put h2 (by decide) (by decide) v
  simp only [s_16_12, s_16_13, s_16_15, s_16_17, mj_lI_s, mj_lI_0, mj_lA_s, mj_lA_0, mj_sL_s, mj_sL_0, mj_s8_0, mj_s8_1, mj_s8_2, mj_s8_3, mj_bc_n, mj_bc_s, mj_bd_s, u2_eq, u2_a, u2_k, ne_eq, Nat.reduceEqDiff, not_false_eq_true, List.nil_append, List.cons_append, eq_self, true_or, or_true, if_true, if_false, false_or, or_false, not_true_eq_false, Bool.false_eq_true, ie_m1_0, ie_m1_1, ie_m1_2, ie_m1_3, ie_m1_4, ie_m1_5, ie_0_m1, ie_0_1, ie_0_2, ie_0_3, ie_0_4, ie_0_5, ie_1_m1, ie_1_0, ie_1_2, ie_1_3, ie_1_4, ie_1_5, ie_2_m1, ie_2_0, ie_2_1, ie_2_3, ie_2_4, ie_2_5, ie_3_m1, ie_3_0, ie_3_1, ie_3_2, ie_3_4, ie_3_5, ie_4_m1, ie_4_0, ie_4_1, ie_4_2, ie_4_3, ie_4_5, ie_5_m1, ie_5_0, ie_5_1, ie_5_2, ie_5_3, ie_5_4, g16_12, h16_12, bl_len, al_100, hp]
  rfl
theorem o16_1 (h : ob 93 (sk_1 sh) 91 8 44) : ob 94 (sk_2 sh) 91 8 44 := h.up (100, 12)
theorem z16_1 : szs 94 (sk_2 sh) = szs 93 (sk_1 sh) + 12 := szs_U 93 (sk_1 sh) (100, 12)
def sk_3 (sh : Nat → Nat × Nat) : Nat → Nat × Nat := uS (sk_2 sh) 94 (100, 12)
def xk_3 (x : Nat → Nat → Int32) : Nat → Nat → Int32 := uz (xk_2 x) 94 0
def yk_3 (y : Nat → Nat → Option Nat) : Nat → Nat → Option Nat := u2 (uz (yk_2 y) 94 none) 91 5 (some 94)
theorem b16_2 (d : Nat) (h : ob 94 (sk_2 sh) 91 8 44) : mj_Rn pg (d + 1) 16 (20, [some (.inr (some 91))], [], bl 94 (sk_2 sh) (xk_2 x) (yk_2 y)) = mj_Rn pg (d + 1) 16 (28, [some (.inr (some 91))], [], bl 95 (sk_3 sh) (xk_3 x) (yk_3 y)) := by
  have h2 : ob (94 + 1) (uS (sk_2 sh) 94 (100, 12)) 91 8 44 := h.up (100, 12)
  have hp : ∀ v, mj_pf (bl (94 + 1) (uS (sk_2 sh) 94 (100, 12)) (uz (xk_2 x) 94 0) (uz (yk_2 y) 94 none)) 91 8 5 (.inr v) = _ := fun v => c8_put h2 (by decide) (by decide) v
  simp only [s_16_20, s_16_21, s_16_23, s_16_25, mj_lI_s, mj_lI_0, mj_lA_s, mj_lA_0, mj_sL_s, mj_sL_0, mj_s8_0, mj_s8_1, mj_s8_2, mj_s8_3, mj_bc_n, mj_bc_s, mj_bd_s, u2_eq, u2_a, u2_k, ne_eq, Nat.reduceEqDiff, not_false_eq_true, List.nil_append, List.cons_append, eq_self, true_or, or_true, if_true, if_false, false_or, or_false, not_true_eq_false, Bool.false_eq_true, ie_m1_0, ie_m1_1, ie_m1_2, ie_m1_3, ie_m1_4, ie_m1_5, ie_0_m1, ie_0_1, ie_0_2, ie_0_3, ie_0_4, ie_0_5, ie_1_m1, ie_1_0, ie_1_2, ie_1_3, ie_1_4, ie_1_5, ie_2_m1, ie_2_0, ie_2_1, ie_2_3, ie_2_4, ie_2_5, ie_3_m1, ie_3_0, ie_3_1, ie_3_2, ie_3_4, ie_3_5, ie_4_m1, ie_4_0, ie_4_1, ie_4_2, ie_4_3, ie_4_5, ie_5_m1, ie_5_0, ie_5_1, ie_5_2, ie_5_3, ie_5_4, g16_12, h16_12, bl_len, al_100, hp]
  rfl
theorem o16_2 (h : ob 94 (sk_2 sh) 91 8 44) : ob 95 (sk_3 sh) 91 8 44 := h.up (100, 12)
theorem z16_2 : szs 95 (sk_3 sh) = szs 94 (sk_2 sh) + 12 := szs_U 94 (sk_2 sh) (100, 12)
def sk_4 (sh : Nat → Nat × Nat) : Nat → Nat × Nat := uS (sk_3 sh) 95 (100, 72)
def xk_4 (x : Nat → Nat → Int32) : Nat → Nat → Int32 := uz (xk_3 x) 95 0
def yk_4 (y : Nat → Nat → Option Nat) : Nat → Nat → Option Nat := u2 (uz (yk_3 y) 95 none) 91 6 (some 95)
theorem b16_3 (d : Nat) (h : ob 95 (sk_3 sh) 91 8 44) : mj_Rn pg (d + 1) 16 (28, [some (.inr (some 91))], [], bl 95 (sk_3 sh) (xk_3 x) (yk_3 y)) = mj_Rn pg (d + 1) 16 (36, [some (.inr (some 91))], [], bl 96 (sk_4 sh) (xk_4 x) (yk_4 y)) := by
  have h2 : ob (95 + 1) (uS (sk_3 sh) 95 (100, 72)) 91 8 44 := h.up (100, 72)
  have hp : ∀ v, mj_pf (bl (95 + 1) (uS (sk_3 sh) 95 (100, 72)) (uz (xk_3 x) 95 0) (uz (yk_3 y) 95 none)) 91 8 6 (.inr v) = _ := fun v => c8_put h2 (by decide) (by decide) v
  simp only [s_16_28, s_16_29, s_16_31, s_16_33, mj_lI_s, mj_lI_0, mj_lA_s, mj_lA_0, mj_sL_s, mj_sL_0, mj_s8_0, mj_s8_1, mj_s8_2, mj_s8_3, mj_bc_n, mj_bc_s, mj_bd_s, u2_eq, u2_a, u2_k, ne_eq, Nat.reduceEqDiff, not_false_eq_true, List.nil_append, List.cons_append, eq_self, true_or, or_true, if_true, if_false, false_or, or_false, not_true_eq_false, Bool.false_eq_true, ie_m1_0, ie_m1_1, ie_m1_2, ie_m1_3, ie_m1_4, ie_m1_5, ie_0_m1, ie_0_1, ie_0_2, ie_0_3, ie_0_4, ie_0_5, ie_1_m1, ie_1_0, ie_1_2, ie_1_3, ie_1_4, ie_1_5, ie_2_m1, ie_2_0, ie_2_1, ie_2_3, ie_2_4, ie_2_5, ie_3_m1, ie_3_0, ie_3_1, ie_3_2, ie_3_4, ie_3_5, ie_4_m1, ie_4_0, ie_4_1, ie_4_2, ie_4_3, ie_4_5, ie_5_m1, ie_5_0, ie_5_1, ie_5_2, ie_5_3, ie_5_4, g16_72, h16_72, bl_len, al_100, hp]
  rfl
theorem o16_3 (h : ob 95 (sk_3 sh) 91 8 44) : ob 96 (sk_4 sh) 91 8 44 := h.up (100, 72)
theorem z16_3 : szs 96 (sk_4 sh) = szs 95 (sk_3 sh) + 72 := szs_U 95 (sk_3 sh) (100, 72)
def sk_5 (sh : Nat → Nat × Nat) : Nat → Nat × Nat := uS (sk_4 sh) 96 (200, 12)
def xk_5 (x : Nat → Nat → Int32) : Nat → Nat → Int32 := uz (xk_4 x) 96 0
def yk_5 (y : Nat → Nat → Option Nat) : Nat → Nat → Option Nat := u2 (uz (yk_4 y) 96 none) 91 7 (some 96)
theorem b16_4 (d : Nat) (h : ob 96 (sk_4 sh) 91 8 44) : mj_Rn pg (d + 1) 16 (36, [some (.inr (some 91))], [], bl 96 (sk_4 sh) (xk_4 x) (yk_4 y)) = mj_Rn pg (d + 1) 16 (44, [some (.inr (some 91))], [], bl 97 (sk_5 sh) (xk_5 x) (yk_5 y)) := by
  have h2 : ob (96 + 1) (uS (sk_4 sh) 96 (200, 12)) 91 8 44 := h.up (200, 12)
  have hp : ∀ v, mj_pf (bl (96 + 1) (uS (sk_4 sh) 96 (200, 12)) (uz (xk_4 x) 96 0) (uz (yk_4 y) 96 none)) 91 8 7 (.inr v) = _ := fun v => c8_put h2 (by decide) (by decide) v
  simp only [s_16_36, s_16_37, s_16_39, s_16_41, mj_lI_s, mj_lI_0, mj_lA_s, mj_lA_0, mj_sL_s, mj_sL_0, mj_s8_0, mj_s8_1, mj_s8_2, mj_s8_3, mj_bc_n, mj_bc_s, mj_bd_s, u2_eq, u2_a, u2_k, ne_eq, Nat.reduceEqDiff, not_false_eq_true, List.nil_append, List.cons_append, eq_self, true_or, or_true, if_true, if_false, false_or, or_false, not_true_eq_false, Bool.false_eq_true, ie_m1_0, ie_m1_1, ie_m1_2, ie_m1_3, ie_m1_4, ie_m1_5, ie_0_m1, ie_0_1, ie_0_2, ie_0_3, ie_0_4, ie_0_5, ie_1_m1, ie_1_0, ie_1_2, ie_1_3, ie_1_4, ie_1_5, ie_2_m1, ie_2_0, ie_2_1, ie_2_3, ie_2_4, ie_2_5, ie_3_m1, ie_3_0, ie_3_1, ie_3_2, ie_3_4, ie_3_5, ie_4_m1, ie_4_0, ie_4_1, ie_4_2, ie_4_3, ie_4_5, ie_5_m1, ie_5_0, ie_5_1, ie_5_2, ie_5_3, ie_5_4, g16_12, h16_12, bl_len, al_200, hp]
  rfl
theorem o16_4 (h : ob 96 (sk_4 sh) 91 8 44) : ob 97 (sk_5 sh) 91 8 44 := h.up (200, 12)
theorem z16_4 : szs 97 (sk_5 sh) = szs 96 (sk_4 sh) + 12 := szs_U 96 (sk_4 sh) (200, 12)
def sk_6 (sh : Nat → Nat × Nat) : Nat → Nat × Nat := uS (sk_5 sh) 97 (200, 12)
def xk_6 (x : Nat → Nat → Int32) : Nat → Nat → Int32 := uz (xk_5 x) 97 0
def yk_6 (y : Nat → Nat → Option Nat) : Nat → Nat → Option Nat := u2 (uz (yk_5 y) 97 none) 91 8 (some 97)
theorem b16_5 (d : Nat) (h : ob 97 (sk_5 sh) 91 8 44) : mj_Rn pg (d + 1) 16 (44, [some (.inr (some 91))], [], bl 97 (sk_5 sh) (xk_5 x) (yk_5 y)) = mj_Rn pg (d + 1) 16 (52, [some (.inr (some 91))], [], bl 98 (sk_6 sh) (xk_6 x) (yk_6 y)) := by
  have h2 : ob (97 + 1) (uS (sk_5 sh) 97 (200, 12)) 91 8 44 := h.up (200, 12)
  have hp : ∀ v, mj_pf (bl (97 + 1) (uS (sk_5 sh) 97 (200, 12)) (uz (xk_5 x) 97 0) (uz (yk_5 y) 97 none)) 91 8 8 (.inr v) = _ := fun v => c8_put h2 (by decide) (by decide) v
  simp only [s_16_44, s_16_45, s_16_47, s_16_49, mj_lI_s, mj_lI_0, mj_lA_s, mj_lA_0, mj_sL_s, mj_sL_0, mj_s8_0, mj_s8_1, mj_s8_2, mj_s8_3, mj_bc_n, mj_bc_s, mj_bd_s, u2_eq, u2_a, u2_k, ne_eq, Nat.reduceEqDiff, not_false_eq_true, List.nil_append, List.cons_append, eq_self, true_or, or_true, if_true, if_false, false_or, or_false, not_true_eq_false, Bool.false_eq_true, ie_m1_0, ie_m1_1, ie_m1_2, ie_m1_3, ie_m1_4, ie_m1_5, ie_0_m1, ie_0_1, ie_0_2, ie_0_3, ie_0_4, ie_0_5, ie_1_m1, ie_1_0, ie_1_2, ie_1_3, ie_1_4, ie_1_5, ie_2_m1, ie_2_0, ie_2_1, ie_2_3, ie_2_4, ie_2_5, ie_3_m1, ie_3_0, ie_3_1, ie_3_2, ie_3_4, ie_3_5, ie_4_m1, ie_4_0, ie_4_1, ie_4_2, ie_4_3, ie_4_5, ie_5_m1, ie_5_0, ie_5_1, ie_5_2, ie_5_3, ie_5_4, g16_12, h16_12, bl_len, al_200, hp]
  rfl
theorem o16_5 (h : ob 97 (sk_5 sh) 91 8 44) : ob 98 (sk_6 sh) 91 8 44 := h.up (200, 12)
theorem z16_5 : szs 98 (sk_6 sh) = szs 97 (sk_5 sh) + 12 := szs_U 97 (sk_5 sh) (200, 12)
def sk_7 (sh : Nat → Nat × Nat) : Nat → Nat × Nat := uS (sk_6 sh) 98 (100, 20)
def xk_7 (x : Nat → Nat → Int32) : Nat → Nat → Int32 := uz (xk_6 x) 98 0
def yk_7 (y : Nat → Nat → Option Nat) : Nat → Nat → Option Nat := u2 (uz (yk_6 y) 98 none) 91 9 (some 98)
theorem b16_6 (d : Nat) (h : ob 98 (sk_6 sh) 91 8 44) : mj_Rn pg (d + 1) 16 (52, [some (.inr (some 91))], [], bl 98 (sk_6 sh) (xk_6 x) (yk_6 y)) = mj_Rn pg (d + 1) 16 (60, [some (.inr (some 91))], [], bl 99 (sk_7 sh) (xk_7 x) (yk_7 y)) := by
  have h2 : ob (98 + 1) (uS (sk_6 sh) 98 (100, 20)) 91 8 44 := h.up (100, 20)
  have hp : ∀ v, mj_pf (bl (98 + 1) (uS (sk_6 sh) 98 (100, 20)) (uz (xk_6 x) 98 0) (uz (yk_6 y) 98 none)) 91 8 9 (.inr v) = _ := fun v => c8_put h2 (by decide) (by decide) v
  simp only [s_16_52, s_16_53, s_16_55, s_16_57, mj_lI_s, mj_lI_0, mj_lA_s, mj_lA_0, mj_sL_s, mj_sL_0, mj_s8_0, mj_s8_1, mj_s8_2, mj_s8_3, mj_bc_n, mj_bc_s, mj_bd_s, u2_eq, u2_a, u2_k, ne_eq, Nat.reduceEqDiff, not_false_eq_true, List.nil_append, List.cons_append, eq_self, true_or, or_true, if_true, if_false, false_or, or_false, not_true_eq_false, Bool.false_eq_true, ie_m1_0, ie_m1_1, ie_m1_2, ie_m1_3, ie_m1_4, ie_m1_5, ie_0_m1, ie_0_1, ie_0_2, ie_0_3, ie_0_4, ie_0_5, ie_1_m1, ie_1_0, ie_1_2, ie_1_3, ie_1_4, ie_1_5, ie_2_m1, ie_2_0, ie_2_1, ie_2_3, ie_2_4, ie_2_5, ie_3_m1, ie_3_0, ie_3_1, ie_3_2, ie_3_4, ie_3_5, ie_4_m1, ie_4_0, ie_4_1, ie_4_2, ie_4_3, ie_4_5, ie_5_m1, ie_5_0, ie_5_1, ie_5_2, ie_5_3, ie_5_4, g16_20, h16_20, bl_len, al_100, hp]
  rfl
theorem o16_6 (h : ob 98 (sk_6 sh) 91 8 44) : ob 99 (sk_7 sh) 91 8 44 := h.up (100, 20)
theorem z16_6 : szs 99 (sk_7 sh) = szs 98 (sk_6 sh) + 20 := szs_U 98 (sk_6 sh) (100, 20)
def sk_8 (sh : Nat → Nat × Nat) : Nat → Nat × Nat := uS (sk_7 sh) 99 (100, 20)
def xk_8 (x : Nat → Nat → Int32) : Nat → Nat → Int32 := uz (xk_7 x) 99 0
def yk_8 (y : Nat → Nat → Option Nat) : Nat → Nat → Option Nat := u2 (uz (yk_7 y) 99 none) 91 10 (some 99)
theorem b16_7 (d : Nat) (h : ob 99 (sk_7 sh) 91 8 44) : mj_Rn pg (d + 1) 16 (60, [some (.inr (some 91))], [], bl 99 (sk_7 sh) (xk_7 x) (yk_7 y)) = mj_Rn pg (d + 1) 16 (68, [some (.inr (some 91))], [], bl 100 (sk_8 sh) (xk_8 x) (yk_8 y)) := by
  have h2 : ob (99 + 1) (uS (sk_7 sh) 99 (100, 20)) 91 8 44 := h.up (100, 20)
  have hp : ∀ v, mj_pf (bl (99 + 1) (uS (sk_7 sh) 99 (100, 20)) (uz (xk_7 x) 99 0) (uz (yk_7 y) 99 none)) 91 8 10 (.inr v) = _ := fun v => c8_put h2 (by decide) (by decide) v
  simp only [s_16_60, s_16_61, s_16_63, s_16_65, mj_lI_s, mj_lI_0, mj_lA_s, mj_lA_0, mj_sL_s, mj_sL_0, mj_s8_0, mj_s8_1, mj_s8_2, mj_s8_3, mj_bc_n, mj_bc_s, mj_bd_s, u2_eq, u2_a, u2_k, ne_eq, Nat.reduceEqDiff, not_false_eq_true, List.nil_append, List.cons_append, eq_self, true_or, or_true, if_true, if_false, false_or, or_false, not_true_eq_false, Bool.false_eq_true, ie_m1_0, ie_m1_1, ie_m1_2, ie_m1_3, ie_m1_4, ie_m1_5, ie_0_m1, ie_0_1, ie_0_2, ie_0_3, ie_0_4, ie_0_5, ie_1_m1, ie_1_0, ie_1_2, ie_1_3, ie_1_4, ie_1_5, ie_2_m1, ie_2_0, ie_2_1, ie_2_3, ie_2_4, ie_2_5, ie_3_m1, ie_3_0, ie_3_1, ie_3_2, ie_3_4, ie_3_5, ie_4_m1, ie_4_0, ie_4_1, ie_4_2, ie_4_3, ie_4_5, ie_5_m1, ie_5_0, ie_5_1, ie_5_2, ie_5_3, ie_5_4, g16_20, h16_20, bl_len, al_100, hp]
  rfl
theorem o16_7 (h : ob 99 (sk_7 sh) 91 8 44) : ob 100 (sk_8 sh) 91 8 44 := h.up (100, 20)
theorem z16_7 : szs 100 (sk_8 sh) = szs 99 (sk_7 sh) + 20 := szs_U 99 (sk_7 sh) (100, 20)
def sk_9 (sh : Nat → Nat × Nat) : Nat → Nat × Nat := uS (sk_8 sh) 100 (100, 120)
def xk_9 (x : Nat → Nat → Int32) : Nat → Nat → Int32 := uz (xk_8 x) 100 0
def yk_9 (y : Nat → Nat → Option Nat) : Nat → Nat → Option Nat := u2 (uz (yk_8 y) 100 none) 91 11 (some 100)
theorem b16_8 (d : Nat) (h : ob 100 (sk_8 sh) 91 8 44) : mj_Rn pg (d + 1) 16 (68, [some (.inr (some 91))], [], bl 100 (sk_8 sh) (xk_8 x) (yk_8 y)) = mj_Rn pg (d + 1) 16 (76, [some (.inr (some 91))], [], bl 101 (sk_9 sh) (xk_9 x) (yk_9 y)) := by
  have h2 : ob (100 + 1) (uS (sk_8 sh) 100 (100, 120)) 91 8 44 := h.up (100, 120)
  have hp : ∀ v, mj_pf (bl (100 + 1) (uS (sk_8 sh) 100 (100, 120)) (uz (xk_8 x) 100 0) (uz (yk_8 y) 100 none)) 91 8 11 (.inr v) = _ := fun v => c8_put h2 (by decide) (by decide) v
  simp only [s_16_68, s_16_69, s_16_71, s_16_73, mj_lI_s, mj_lI_0, mj_lA_s, mj_lA_0, mj_sL_s, mj_sL_0, mj_s8_0, mj_s8_1, mj_s8_2, mj_s8_3, mj_bc_n, mj_bc_s, mj_bd_s, u2_eq, u2_a, u2_k, ne_eq, Nat.reduceEqDiff, not_false_eq_true, List.nil_append, List.cons_append, eq_self, true_or, or_true, if_true, if_false, false_or, or_false, not_true_eq_false, Bool.false_eq_true, ie_m1_0, ie_m1_1, ie_m1_2, ie_m1_3, ie_m1_4, ie_m1_5, ie_0_m1, ie_0_1, ie_0_2, ie_0_3, ie_0_4, ie_0_5, ie_1_m1, ie_1_0, ie_1_2, ie_1_3, ie_1_4, ie_1_5, ie_2_m1, ie_2_0, ie_2_1, ie_2_3, ie_2_4, ie_2_5, ie_3_m1, ie_3_0, ie_3_1, ie_3_2, ie_3_4, ie_3_5, ie_4_m1, ie_4_0, ie_4_1, ie_4_2, ie_4_3, ie_4_5, ie_5_m1, ie_5_0, ie_5_1, ie_5_2, ie_5_3, ie_5_4, g16_120, h16_120, bl_len, al_100, hp]
  rfl
theorem o16_8 (h : ob 100 (sk_8 sh) 91 8 44) : ob 101 (sk_9 sh) 91 8 44 := h.up (100, 120)
theorem z16_8 : szs 101 (sk_9 sh) = szs 100 (sk_8 sh) + 120 := szs_U 100 (sk_8 sh) (100, 120)
def sk_10 (sh : Nat → Nat × Nat) : Nat → Nat × Nat := uS (sk_9 sh) 101 (100, 20)
def xk_10 (x : Nat → Nat → Int32) : Nat → Nat → Int32 := uz (xk_9 x) 101 0
def yk_10 (y : Nat → Nat → Option Nat) : Nat → Nat → Option Nat := u2 (uz (yk_9 y) 101 none) 91 12 (some 101)
theorem b16_9 (d : Nat) (h : ob 101 (sk_9 sh) 91 8 44) : mj_Rn pg (d + 1) 16 (76, [some (.inr (some 91))], [], bl 101 (sk_9 sh) (xk_9 x) (yk_9 y)) = mj_Rn pg (d + 1) 16 (84, [some (.inr (some 91))], [], bl 102 (sk_10 sh) (xk_10 x) (yk_10 y)) := by
  have h2 : ob (101 + 1) (uS (sk_9 sh) 101 (100, 20)) 91 8 44 := h.up (100, 20)
  have hp : ∀ v, mj_pf (bl (101 + 1) (uS (sk_9 sh) 101 (100, 20)) (uz (xk_9 x) 101 0) (uz (yk_9 y) 101 none)) 91 8 12 (.inr v) = _ := fun v => c8_put h2 (by decide) (by decide) v
  simp only [s_16_76, s_16_77, s_16_79, s_16_81, mj_lI_s, mj_lI_0, mj_lA_s, mj_lA_0, mj_sL_s, mj_sL_0, mj_s8_0, mj_s8_1, mj_s8_2, mj_s8_3, mj_bc_n, mj_bc_s, mj_bd_s, u2_eq, u2_a, u2_k, ne_eq, Nat.reduceEqDiff, not_false_eq_true, List.nil_append, List.cons_append, eq_self, true_or, or_true, if_true, if_false, false_or, or_false, not_true_eq_false, Bool.false_eq_true, ie_m1_0, ie_m1_1, ie_m1_2, ie_m1_3, ie_m1_4, ie_m1_5, ie_0_m1, ie_0_1, ie_0_2, ie_0_3, ie_0_4, ie_0_5, ie_1_m1, ie_1_0, ie_1_2, ie_1_3, ie_1_4, ie_1_5, ie_2_m1, ie_2_0, ie_2_1, ie_2_3, ie_2_4, ie_2_5, ie_3_m1, ie_3_0, ie_3_1, ie_3_2, ie_3_4, ie_3_5, ie_4_m1, ie_4_0, ie_4_1, ie_4_2, ie_4_3, ie_4_5, ie_5_m1, ie_5_0, ie_5_1, ie_5_2, ie_5_3, ie_5_4, g16_20, h16_20, bl_len, al_100, hp]
  rfl
theorem o16_9 (h : ob 101 (sk_9 sh) 91 8 44) : ob 102 (sk_10 sh) 91 8 44 := h.up (100, 20)
theorem z16_9 : szs 102 (sk_10 sh) = szs 101 (sk_9 sh) + 20 := szs_U 101 (sk_9 sh) (100, 20)
def sk_11 (sh : Nat → Nat × Nat) : Nat → Nat × Nat := uS (sk_10 sh) 102 (100, 20)
def xk_11 (x : Nat → Nat → Int32) : Nat → Nat → Int32 := uz (xk_10 x) 102 0
def yk_11 (y : Nat → Nat → Option Nat) : Nat → Nat → Option Nat := u2 (uz (yk_10 y) 102 none) 91 13 (some 102)
theorem b16_10 (d : Nat) (h : ob 102 (sk_10 sh) 91 8 44) : mj_Rn pg (d + 1) 16 (84, [some (.inr (some 91))], [], bl 102 (sk_10 sh) (xk_10 x) (yk_10 y)) = mj_Rn pg (d + 1) 16 (92, [some (.inr (some 91))], [], bl 103 (sk_11 sh) (xk_11 x) (yk_11 y)) := by
  have h2 : ob (102 + 1) (uS (sk_10 sh) 102 (100, 20)) 91 8 44 := h.up (100, 20)
  have hp : ∀ v, mj_pf (bl (102 + 1) (uS (sk_10 sh) 102 (100, 20)) (uz (xk_10 x) 102 0) (uz (yk_10 y) 102 none)) 91 8 13 (.inr v) = _ := fun v => c8_put h2 (by decide) (by decide) v
  simp only [s_16_84, s_16_85, s_16_87, s_16_89, mj_lI_s, mj_lI_0, mj_lA_s, mj_lA_0, mj_sL_s, mj_sL_0, mj_s8_0, mj_s8_1, mj_s8_2, mj_s8_3, mj_bc_n, mj_bc_s, mj_bd_s, u2_eq, u2_a, u2_k, ne_eq, Nat.reduceEqDiff, not_false_eq_true, List.nil_append, List.cons_append, eq_self, true_or, or_true, if_true, if_false, false_or, or_false, not_true_eq_false, Bool.false_eq_true, ie_m1_0, ie_m1_1, ie_m1_2, ie_m1_3, ie_m1_4, ie_m1_5, ie_0_m1, ie_0_1, ie_0_2, ie_0_3, ie_0_4, ie_0_5, ie_1_m1, ie_1_0, ie_1_2, ie_1_3, ie_1_4, ie_1_5, ie_2_m1, ie_2_0, ie_2_1, ie_2_3, ie_2_4, ie_2_5, ie_3_m1, ie_3_0, ie_3_1, ie_3_2, ie_3_4, ie_3_5, ie_4_m1, ie_4_0, ie_4_1, ie_4_2, ie_4_3, ie_4_5, ie_5_m1, ie_5_0, ie_5_1, ie_5_2, ie_5_3, ie_5_4, g16_20, h16_20, bl_len, al_100, hp]
  rfl
theorem o16_10 (h : ob 102 (sk_10 sh) 91 8 44) : ob 103 (sk_11 sh) 91 8 44 := h.up (100, 20)
theorem z16_10 : szs 103 (sk_11 sh) = szs 102 (sk_10 sh) + 20 := szs_U 102 (sk_10 sh) (100, 20)
def sk_12 (sh : Nat → Nat × Nat) : Nat → Nat × Nat := uS (sk_11 sh) 103 (100, 20)
def xk_12 (x : Nat → Nat → Int32) : Nat → Nat → Int32 := uz (xk_11 x) 103 0
def yk_12 (y : Nat → Nat → Option Nat) : Nat → Nat → Option Nat := u2 (uz (yk_11 y) 103 none) 91 14 (some 103)
theorem b16_11 (d : Nat) (h : ob 103 (sk_11 sh) 91 8 44) : mj_Rn pg (d + 1) 16 (92, [some (.inr (some 91))], [], bl 103 (sk_11 sh) (xk_11 x) (yk_11 y)) = mj_Rn pg (d + 1) 16 (100, [some (.inr (some 91))], [], bl 104 (sk_12 sh) (xk_12 x) (yk_12 y)) := by
  have h2 : ob (103 + 1) (uS (sk_11 sh) 103 (100, 20)) 91 8 44 := h.up (100, 20)
  have hp : ∀ v, mj_pf (bl (103 + 1) (uS (sk_11 sh) 103 (100, 20)) (uz (xk_11 x) 103 0) (uz (yk_11 y) 103 none)) 91 8 14 (.inr v) = _ := fun v => c8_put h2 (by decide) (by decide) v
  simp only [s_16_92, s_16_93, s_16_95, s_16_97, mj_lI_s, mj_lI_0, mj_lA_s, mj_lA_0, mj_sL_s, mj_sL_0, mj_s8_0, mj_s8_1, mj_s8_2, mj_s8_3, mj_bc_n, mj_bc_s, mj_bd_s, u2_eq, u2_a, u2_k, ne_eq, Nat.reduceEqDiff, not_false_eq_true, List.nil_append, List.cons_append, eq_self, true_or, or_true, if_true, if_false, false_or, or_false, not_true_eq_false, Bool.false_eq_true, ie_m1_0, ie_m1_1, ie_m1_2, ie_m1_3, ie_m1_4, ie_m1_5, ie_0_m1, ie_0_1, ie_0_2, ie_0_3, ie_0_4, ie_0_5, ie_1_m1, ie_1_0, ie_1_2, ie_1_3, ie_1_4, ie_1_5, ie_2_m1, ie_2_0, ie_2_1, ie_2_3, ie_2_4, ie_2_5, ie_3_m1, ie_3_0, ie_3_1, ie_3_2, ie_3_4, ie_3_5, ie_4_m1, ie_4_0, ie_4_1, ie_4_2, ie_4_3, ie_4_5, ie_5_m1, ie_5_0, ie_5_1, ie_5_2, ie_5_3, ie_5_4, g16_20, h16_20, bl_len, al_100, hp]
  rfl
theorem o16_11 (h : ob 103 (sk_11 sh) 91 8 44) : ob 104 (sk_12 sh) 91 8 44 := h.up (100, 20)
theorem z16_11 : szs 104 (sk_12 sh) = szs 103 (sk_11 sh) + 20 := szs_U 103 (sk_11 sh) (100, 20)
def sk_13 (sh : Nat → Nat × Nat) : Nat → Nat × Nat := uS (sk_12 sh) 104 (100, 20)
def xk_13 (x : Nat → Nat → Int32) : Nat → Nat → Int32 := uz (xk_12 x) 104 0
def yk_13 (y : Nat → Nat → Option Nat) : Nat → Nat → Option Nat := u2 (uz (yk_12 y) 104 none) 91 15 (some 104)
theorem b16_12 (d : Nat) (h : ob 104 (sk_12 sh) 91 8 44) : mj_Rn pg (d + 1) 16 (100, [some (.inr (some 91))], [], bl 104 (sk_12 sh) (xk_12 x) (yk_12 y)) = mj_Rn pg (d + 1) 16 (108, [some (.inr (some 91))], [], bl 105 (sk_13 sh) (xk_13 x) (yk_13 y)) := by
  have h2 : ob (104 + 1) (uS (sk_12 sh) 104 (100, 20)) 91 8 44 := h.up (100, 20)
  have hp : ∀ v, mj_pf (bl (104 + 1) (uS (sk_12 sh) 104 (100, 20)) (uz (xk_12 x) 104 0) (uz (yk_12 y) 104 none)) 91 8 15 (.inr v) = _ := fun v => c8_put h2 (by decide) (by decide) v
  simp only [s_16_100, s_16_101, s_16_103, s_16_105, mj_lI_s, mj_lI_0, mj_lA_s, mj_lA_0, mj_sL_s, mj_sL_0, mj_s8_0, mj_s8_1, mj_s8_2, mj_s8_3, mj_bc_n, mj_bc_s, mj_bd_s, u2_eq, u2_a, u2_k, ne_eq, Nat.reduceEqDiff, not_false_eq_true, List.nil_append, List.cons_append, eq_self, true_or, or_true, if_true, if_false, false_or, or_false, not_true_eq_false, Bool.false_eq_true, ie_m1_0, ie_m1_1, ie_m1_2, ie_m1_3, ie_m1_4, ie_m1_5, ie_0_m1, ie_0_1, ie_0_2, ie_0_3, ie_0_4, ie_0_5, ie_1_m1, ie_1_0, ie_1_2, ie_1_3, ie_1_4, ie_1_5, ie_2_m1, ie_2_0, ie_2_1, ie_2_3, ie_2_4, ie_2_5, ie_3_m1, ie_3_0, ie_3_1, ie_3_2, ie_3_4, ie_3_5, ie_4_m1, ie_4_0, ie_4_1, ie_4_2, ie_4_3, ie_4_5, ie_5_m1, ie_5_0, ie_5_1, ie_5_2, ie_5_3, ie_5_4, g16_20, h16_20, bl_len, al_100, hp]
  rfl
theorem o16_12 (h : ob 104 (sk_12 sh) 91 8 44) : ob 105 (sk_13 sh) 91 8 44 := h.up (100, 20)
theorem z16_12 : szs 105 (sk_13 sh) = szs 104 (sk_12 sh) + 20 := szs_U 104 (sk_12 sh) (100, 20)
def sk_14 (sh : Nat → Nat × Nat) : Nat → Nat × Nat := uS (sk_13 sh) 105 (100, 12)
def xk_14 (x : Nat → Nat → Int32) : Nat → Nat → Int32 := uz (xk_13 x) 105 0
def yk_14 (y : Nat → Nat → Option Nat) : Nat → Nat → Option Nat := u2 (uz (yk_13 y) 105 none) 91 16 (some 105)
theorem b16_13 (d : Nat) (h : ob 105 (sk_13 sh) 91 8 44) : mj_Rn pg (d + 1) 16 (108, [some (.inr (some 91))], [], bl 105 (sk_13 sh) (xk_13 x) (yk_13 y)) = mj_Rn pg (d + 1) 16 (116, [some (.inr (some 91))], [], bl 106 (sk_14 sh) (xk_14 x) (yk_14 y)) := by
  have h2 : ob (105 + 1) (uS (sk_13 sh) 105 (100, 12)) 91 8 44 := h.up (100, 12)
  have hp : ∀ v, mj_pf (bl (105 + 1) (uS (sk_13 sh) 105 (100, 12)) (uz (xk_13 x) 105 0) (uz (yk_13 y) 105 none)) 91 8 16 (.inr v) = _ := fun v => c8_put h2 (by decide) (by decide) v
  simp only [s_16_108, s_16_109, s_16_111, s_16_113, mj_lI_s, mj_lI_0, mj_lA_s, mj_lA_0, mj_sL_s, mj_sL_0, mj_s8_0, mj_s8_1, mj_s8_2, mj_s8_3, mj_bc_n, mj_bc_s, mj_bd_s, u2_eq, u2_a, u2_k, ne_eq, Nat.reduceEqDiff, not_false_eq_true, List.nil_append, List.cons_append, eq_self, true_or, or_true, if_true, if_false, false_or, or_false, not_true_eq_false, Bool.false_eq_true, ie_m1_0, ie_m1_1, ie_m1_2, ie_m1_3, ie_m1_4, ie_m1_5, ie_0_m1, ie_0_1, ie_0_2, ie_0_3, ie_0_4, ie_0_5, ie_1_m1, ie_1_0, ie_1_2, ie_1_3, ie_1_4, ie_1_5, ie_2_m1, ie_2_0, ie_2_1, ie_2_3, ie_2_4, ie_2_5, ie_3_m1, ie_3_0, ie_3_1, ie_3_2, ie_3_4, ie_3_5, ie_4_m1, ie_4_0, ie_4_1, ie_4_2, ie_4_3, ie_4_5, ie_5_m1, ie_5_0, ie_5_1, ie_5_2, ie_5_3, ie_5_4, g16_12, h16_12, bl_len, al_100, hp]
  rfl
theorem o16_13 (h : ob 105 (sk_13 sh) 91 8 44) : ob 106 (sk_14 sh) 91 8 44 := h.up (100, 12)
theorem z16_13 : szs 106 (sk_14 sh) = szs 105 (sk_13 sh) + 12 := szs_U 105 (sk_13 sh) (100, 12)
def sk_15 (sh : Nat → Nat × Nat) : Nat → Nat × Nat := uS (sk_14 sh) 106 (100, 80)
def xk_15 (x : Nat → Nat → Int32) : Nat → Nat → Int32 := uz (xk_14 x) 106 0
def yk_15 (y : Nat → Nat → Option Nat) : Nat → Nat → Option Nat := u2 (uz (yk_14 y) 106 none) 91 17 (some 106)
theorem b16_14 (d : Nat) (h : ob 106 (sk_14 sh) 91 8 44) : mj_Rn pg (d + 1) 16 (116, [some (.inr (some 91))], [], bl 106 (sk_14 sh) (xk_14 x) (yk_14 y)) = mj_Rn pg (d + 1) 16 (124, [some (.inr (some 91))], [], bl 107 (sk_15 sh) (xk_15 x) (yk_15 y)) := by
  have h2 : ob (106 + 1) (uS (sk_14 sh) 106 (100, 80)) 91 8 44 := h.up (100, 80)
  have hp : ∀ v, mj_pf (bl (106 + 1) (uS (sk_14 sh) 106 (100, 80)) (uz (xk_14 x) 106 0) (uz (yk_14 y) 106 none)) 91 8 17 (.inr v) = _ := fun v => c8_put h2 (by decide) (by decide) v
  simp only [s_16_116, s_16_117, s_16_119, s_16_121, mj_lI_s, mj_lI_0, mj_lA_s, mj_lA_0, mj_sL_s, mj_sL_0, mj_s8_0, mj_s8_1, mj_s8_2, mj_s8_3, mj_bc_n, mj_bc_s, mj_bd_s, u2_eq, u2_a, u2_k, ne_eq, Nat.reduceEqDiff, not_false_eq_true, List.nil_append, List.cons_append, eq_self, true_or, or_true, if_true, if_false, false_or, or_false, not_true_eq_false, Bool.false_eq_true, ie_m1_0, ie_m1_1, ie_m1_2, ie_m1_3, ie_m1_4, ie_m1_5, ie_0_m1, ie_0_1, ie_0_2, ie_0_3, ie_0_4, ie_0_5, ie_1_m1, ie_1_0, ie_1_2, ie_1_3, ie_1_4, ie_1_5, ie_2_m1, ie_2_0, ie_2_1, ie_2_3, ie_2_4, ie_2_5, ie_3_m1, ie_3_0, ie_3_1, ie_3_2, ie_3_4, ie_3_5, ie_4_m1, ie_4_0, ie_4_1, ie_4_2, ie_4_3, ie_4_5, ie_5_m1, ie_5_0, ie_5_1, ie_5_2, ie_5_3, ie_5_4, g16_80, h16_80, bl_len, al_100, hp]
  rfl
theorem o16_14 (h : ob 106 (sk_14 sh) 91 8 44) : ob 107 (sk_15 sh) 91 8 44 := h.up (100, 80)
theorem z16_14 : szs 107 (sk_15 sh) = szs 106 (sk_14 sh) + 80 := szs_U 106 (sk_14 sh) (100, 80)
def sk_16 (sh : Nat → Nat × Nat) : Nat → Nat × Nat := uS (sk_15 sh) 107 (100, 80)
def xk_16 (x : Nat → Nat → Int32) : Nat → Nat → Int32 := uz (xk_15 x) 107 0
def yk_16 (y : Nat → Nat → Option Nat) : Nat → Nat → Option Nat := u2 (uz (yk_15 y) 107 none) 91 18 (some 107)
theorem b16_15 (d : Nat) (h : ob 107 (sk_15 sh) 91 8 44) : mj_Rn pg (d + 1) 16 (124, [some (.inr (some 91))], [], bl 107 (sk_15 sh) (xk_15 x) (yk_15 y)) = mj_Rn pg (d + 1) 16 (132, [some (.inr (some 91))], [], bl 108 (sk_16 sh) (xk_16 x) (yk_16 y)) := by
  have h2 : ob (107 + 1) (uS (sk_15 sh) 107 (100, 80)) 91 8 44 := h.up (100, 80)
  have hp : ∀ v, mj_pf (bl (107 + 1) (uS (sk_15 sh) 107 (100, 80)) (uz (xk_15 x) 107 0) (uz (yk_15 y) 107 none)) 91 8 18 (.inr v) = _ := fun v => c8_put h2 (by decide) (by decide) v
  simp only [s_16_124, s_16_125, s_16_127, s_16_129, mj_lI_s, mj_lI_0, mj_lA_s, mj_lA_0, mj_sL_s, mj_sL_0, mj_s8_0, mj_s8_1, mj_s8_2, mj_s8_3, mj_bc_n, mj_bc_s, mj_bd_s, u2_eq, u2_a, u2_k, ne_eq, Nat.reduceEqDiff, not_false_eq_true, List.nil_append, List.cons_append, eq_self, true_or, or_true, if_true, if_false, false_or, or_false, not_true_eq_false, Bool.false_eq_true, ie_m1_0, ie_m1_1, ie_m1_2, ie_m1_3, ie_m1_4, ie_m1_5, ie_0_m1, ie_0_1, ie_0_2, ie_0_3, ie_0_4, ie_0_5, ie_1_m1, ie_1_0, ie_1_2, ie_1_3, ie_1_4, ie_1_5, ie_2_m1, ie_2_0, ie_2_1, ie_2_3, ie_2_4, ie_2_5, ie_3_m1, ie_3_0, ie_3_1, ie_3_2, ie_3_4, ie_3_5, ie_4_m1, ie_4_0, ie_4_1, ie_4_2, ie_4_3, ie_4_5, ie_5_m1, ie_5_0, ie_5_1, ie_5_2, ie_5_3, ie_5_4, g16_80, h16_80, bl_len, al_100, hp]
  rfl
theorem o16_15 (h : ob 107 (sk_15 sh) 91 8 44) : ob 108 (sk_16 sh) 91 8 44 := h.up (100, 80)
theorem z16_15 : szs 108 (sk_16 sh) = szs 107 (sk_15 sh) + 80 := szs_U 107 (sk_15 sh) (100, 80)
def sk_17 (sh : Nat → Nat × Nat) : Nat → Nat × Nat := uS (sk_16 sh) 108 (100, 12)
def xk_17 (x : Nat → Nat → Int32) : Nat → Nat → Int32 := uz (xk_16 x) 108 0
def yk_17 (y : Nat → Nat → Option Nat) : Nat → Nat → Option Nat := u2 (uz (yk_16 y) 108 none) 91 24 (some 108)
theorem b16_16 (d : Nat) (h : ob 108 (sk_16 sh) 91 8 44) : mj_Rn pg (d + 1) 16 (132, [some (.inr (some 91))], [], bl 108 (sk_16 sh) (xk_16 x) (yk_16 y)) = mj_Rn pg (d + 1) 16 (140, [some (.inr (some 91))], [], bl 109 (sk_17 sh) (xk_17 x) (yk_17 y)) := by
  have h2 : ob (108 + 1) (uS (sk_16 sh) 108 (100, 12)) 91 8 44 := h.up (100, 12)
  have hp : ∀ v, mj_pf (bl (108 + 1) (uS (sk_16 sh) 108 (100, 12)) (uz (xk_16 x) 108 0) (uz (yk_16 y) 108 none)) 91 8 24 (.inr v) = _ := fun v => c8_put h2 (by decide) (by decide) v
  simp only [s_16_132, s_16_133, s_16_135, s_16_137, mj_lI_s, mj_lI_0, mj_lA_s, mj_lA_0, mj_sL_s, mj_sL_0, mj_s8_0, mj_s8_1, mj_s8_2, mj_s8_3, mj_bc_n, mj_bc_s, mj_bd_s, u2_eq, u2_a, u2_k, ne_eq, Nat.reduceEqDiff, not_false_eq_true, List.nil_append, List.cons_append, eq_self, true_or, or_true, if_true, if_false, false_or, or_false, not_true_eq_false, Bool.false_eq_true, ie_m1_0, ie_m1_1, ie_m1_2, ie_m1_3, ie_m1_4, ie_m1_5, ie_0_m1, ie_0_1, ie_0_2, ie_0_3, ie_0_4, ie_0_5, ie_1_m1, ie_1_0, ie_1_2, ie_1_3, ie_1_4, ie_1_5, ie_2_m1, ie_2_0, ie_2_1, ie_2_3, ie_2_4, ie_2_5, ie_3_m1, ie_3_0, ie_3_1, ie_3_2, ie_3_4, ie_3_5, ie_4_m1, ie_4_0, ie_4_1, ie_4_2, ie_4_3, ie_4_5, ie_5_m1, ie_5_0, ie_5_1, ie_5_2, ie_5_3, ie_5_4, g16_12, h16_12, bl_len, al_100, hp]
  rfl
theorem o16_16 (h : ob 108 (sk_16 sh) 91 8 44) : ob 109 (sk_17 sh) 91 8 44 := h.up (100, 12)
theorem z16_16 : szs 109 (sk_17 sh) = szs 108 (sk_16 sh) + 12 := szs_U 108 (sk_16 sh) (100, 12)
def sk_18 (sh : Nat → Nat × Nat) : Nat → Nat × Nat := uS (sk_17 sh) 109 (100, 12)
def xk_18 (x : Nat → Nat → Int32) : Nat → Nat → Int32 := uz (xk_17 x) 109 0
def yk_18 (y : Nat → Nat → Option Nat) : Nat → Nat → Option Nat := u2 (uz (yk_17 y) 109 none) 91 25 (some 109)
theorem b16_17 (d : Nat) (h : ob 109 (sk_17 sh) 91 8 44) : mj_Rn pg (d + 1) 16 (140, [some (.inr (some 91))], [], bl 109 (sk_17 sh) (xk_17 x) (yk_17 y)) = mj_Rn pg (d + 1) 16 (148, [some (.inr (some 91))], [], bl 110 (sk_18 sh) (xk_18 x) (yk_18 y)) := by
  have h2 : ob (109 + 1) (uS (sk_17 sh) 109 (100, 12)) 91 8 44 := h.up (100, 12)
  have hp : ∀ v, mj_pf (bl (109 + 1) (uS (sk_17 sh) 109 (100, 12)) (uz (xk_17 x) 109 0) (uz (yk_17 y) 109 none)) 91 8 25 (.inr v) = _ := fun v => c8_put h2 (by decide) (by decide) v
  simp only [s_16_140, s_16_141, s_16_143, s_16_145, mj_lI_s, mj_lI_0, mj_lA_s, mj_lA_0, mj_sL_s, mj_sL_0, mj_s8_0, mj_s8_1, mj_s8_2, mj_s8_3, mj_bc_n, mj_bc_s, mj_bd_s, u2_eq, u2_a, u2_k, ne_eq, Nat.reduceEqDiff, not_false_eq_true, List.nil_append, List.cons_append, eq_self, true_or, or_true, if_true, if_false, false_or, or_false, not_true_eq_false, Bool.false_eq_true, ie_m1_0, ie_m1_1, ie_m1_2, ie_m1_3, ie_m1_4, ie_m1_5, ie_0_m1, ie_0_1, ie_0_2, ie_0_3, ie_0_4, ie_0_5, ie_1_m1, ie_1_0, ie_1_2, ie_1_3, ie_1_4, ie_1_5, ie_2_m1, ie_2_0, ie_2_1, ie_2_3, ie_2_4, ie_2_5, ie_3_m1, ie_3_0, ie_3_1, ie_3_2, ie_3_4, ie_3_5, ie_4_m1, ie_4_0, ie_4_1, ie_4_2, ie_4_3, ie_4_5, ie_5_m1, ie_5_0, ie_5_1, ie_5_2, ie_5_3, ie_5_4, g16_12, h16_12, bl_len, al_100, hp]
  rfl
theorem o16_17 (h : ob 109 (sk_17 sh) 91 8 44) : ob 110 (sk_18 sh) 91 8 44 := h.up (100, 12)
theorem z16_17 : szs 110 (sk_18 sh) = szs 109 (sk_17 sh) + 12 := szs_U 109 (sk_17 sh) (100, 12)
def sk_19 (sh : Nat → Nat × Nat) : Nat → Nat × Nat := uS (sk_18 sh) 110 (100, 12)
def xk_19 (x : Nat → Nat → Int32) : Nat → Nat → Int32 := uz (xk_18 x) 110 0
def yk_19 (y : Nat → Nat → Option Nat) : Nat → Nat → Option Nat := u2 (uz (yk_18 y) 110 none) 91 26 (some 110)
theorem b16_18 (d : Nat) (h : ob 110 (sk_18 sh) 91 8 44) : mj_Rn pg (d + 1) 16 (148, [some (.inr (some 91))], [], bl 110 (sk_18 sh) (xk_18 x) (yk_18 y)) = mj_Rn pg (d + 1) 16 (156, [some (.inr (some 91))], [], bl 111 (sk_19 sh) (xk_19 x) (yk_19 y)) := by
  have h2 : ob (110 + 1) (uS (sk_18 sh) 110 (100, 12)) 91 8 44 := h.up (100, 12)
  have hp : ∀ v, mj_pf (bl (110 + 1) (uS (sk_18 sh) 110 (100, 12)) (uz (xk_18 x) 110 0) (uz (yk_18 y) 110 none)) 91 8 26 (.inr v) = _ := fun v => c8_put h2 (by decide) (by decide) v
  simp only [s_16_148, s_16_149, s_16_151, s_16_153, mj_lI_s, mj_lI_0, mj_lA_s, mj_lA_0, mj_sL_s, mj_sL_0, mj_s8_0, mj_s8_1, mj_s8_2, mj_s8_3, mj_bc_n, mj_bc_s, mj_bd_s, u2_eq, u2_a, u2_k, ne_eq, Nat.reduceEqDiff, not_false_eq_true, List.nil_append, List.cons_append, eq_self, true_or, or_true, if_true, if_false, false_or, or_false, not_true_eq_false, Bool.false_eq_true, ie_m1_0, ie_m1_1, ie_m1_2, ie_m1_3, ie_m1_4, ie_m1_5, ie_0_m1, ie_0_1, ie_0_2, ie_0_3, ie_0_4, ie_0_5, ie_1_m1, ie_1_0, ie_1_2, ie_1_3, ie_1_4, ie_1_5, ie_2_m1, ie_2_0, ie_2_1, ie_2_3, ie_2_4, ie_2_5, ie_3_m1, ie_3_0, ie_3_1, ie_3_2, ie_3_4, ie_3_5, ie_4_m1, ie_4_0, ie_4_1, ie_4_2, ie_4_3, ie_4_5, ie_5_m1, ie_5_0, ie_5_1, ie_5_2, ie_5_3, ie_5_4, g16_12, h16_12, bl_len, al_100, hp]
  rfl
theorem o16_18 (h : ob 110 (sk_18 sh) 91 8 44) : ob 111 (sk_19 sh) 91 8 44 := h.up (100, 12)
theorem z16_18 : szs 111 (sk_19 sh) = szs 110 (sk_18 sh) + 12 := szs_U 110 (sk_18 sh) (100, 12)
def sk_20 (sh : Nat → Nat × Nat) : Nat → Nat × Nat := uS (sk_19 sh) 111 (100, 12)
def xk_20 (x : Nat → Nat → Int32) : Nat → Nat → Int32 := uz (xk_19 x) 111 0
def yk_20 (y : Nat → Nat → Option Nat) : Nat → Nat → Option Nat := u2 (uz (yk_19 y) 111 none) 91 27 (some 111)
theorem b16_19 (d : Nat) (h : ob 111 (sk_19 sh) 91 8 44) : mj_Rn pg (d + 1) 16 (156, [some (.inr (some 91))], [], bl 111 (sk_19 sh) (xk_19 x) (yk_19 y)) = mj_Rn pg (d + 1) 16 (164, [some (.inr (some 91))], [], bl 112 (sk_20 sh) (xk_20 x) (yk_20 y)) := by
  have h2 : ob (111 + 1) (uS (sk_19 sh) 111 (100, 12)) 91 8 44 := h.up (100, 12)
  have hp : ∀ v, mj_pf (bl (111 + 1) (uS (sk_19 sh) 111 (100, 12)) (uz (xk_19 x) 111 0) (uz (yk_19 y) 111 none)) 91 8 27 (.inr v) = _ := fun v => c8_put h2 (by decide) (by decide) v
  simp only [s_16_156, s_16_157, s_16_159, s_16_161, mj_lI_s, mj_lI_0, mj_lA_s, mj_lA_0, mj_sL_s, mj_sL_0, mj_s8_0, mj_s8_1, mj_s8_2, mj_s8_3, mj_bc_n, mj_bc_s, mj_bd_s, u2_eq, u2_a, u2_k, ne_eq, Nat.reduceEqDiff, not_false_eq_true, List.nil_append, List.cons_append, eq_self, true_or, or_true, if_true, if_false, false_or, or_false, not_true_eq_false, Bool.false_eq_true, ie_m1_0, ie_m1_1, ie_m1_2, ie_m1_3, ie_m1_4, ie_m1_5, ie_0_m1, ie_0_1, ie_0_2, ie_0_3, ie_0_4, ie_0_5, ie_1_m1, ie_1_0, ie_1_2, ie_1_3, ie_1_4, ie_1_5, ie_2_m1, ie_2_0, ie_2_1, ie_2_3, ie_2_4, ie_2_5, ie_3_m1, ie_3_0, ie_3_1, ie_3_2, ie_3_4, ie_3_5, ie_4_m1, ie_4_0, ie_4_1, ie_4_2, ie_4_3, ie_4_5, ie_5_m1, ie_5_0, ie_5_1, ie_5_2, ie_5_3, ie_5_4, g16_12, h16_12, bl_len, al_100, hp]
  rfl
theorem o16_19 (h : ob 111 (sk_19 sh) 91 8 44) : ob 112 (sk_20 sh) 91 8 44 := h.up (100, 12)
theorem z16_19 : szs 112 (sk_20 sh) = szs 111 (sk_19 sh) + 12 := szs_U 111 (sk_19 sh) (100, 12)
def sk_21 (sh : Nat → Nat × Nat) : Nat → Nat × Nat := uS (sk_20 sh) 112 (100, 12)
def xk_21 (x : Nat → Nat → Int32) : Nat → Nat → Int32 := uz (xk_20 x) 112 0
def yk_21 (y : Nat → Nat → Option Nat) : Nat → Nat → Option Nat := u2 (uz (yk_20 y) 112 none) 91 28 (some 112)
theorem b16_20 (d : Nat) (h : ob 112 (sk_20 sh) 91 8 44) : mj_Rn pg (d + 1) 16 (164, [some (.inr (some 91))], [], bl 112 (sk_20 sh) (xk_20 x) (yk_20 y)) = mj_Rn pg (d + 1) 16 (172, [some (.inr (some 91))], [], bl 113 (sk_21 sh) (xk_21 x) (yk_21 y)) := by
  have h2 : ob (112 + 1) (uS (sk_20 sh) 112 (100, 12)) 91 8 44 := h.up (100, 12)
  have hp : ∀ v, mj_pf (bl (112 + 1) (uS (sk_20 sh) 112 (100, 12)) (uz (xk_20 x) 112 0) (uz (yk_20 y) 112 none)) 91 8 28 (.inr v) = _ := fun v => c8_put h2 (by decide) (by decide) v
  simp only [s_16_164, s_16_165, s_16_167, s_16_169, mj_lI_s, mj_lI_0, mj_lA_s, mj_lA_0, mj_sL_s, mj_sL_0, mj_s8_0, mj_s8_1, mj_s8_2, mj_s8_3, mj_bc_n, mj_bc_s, mj_bd_s, u2_eq, u2_a, u2_k, ne_eq, Nat.reduceEqDiff, not_false_eq_true, List.nil_append, List.cons_append, eq_self, true_or, or_true, if_true, if_false, false_or, or_false, not_true_eq_false, Bool.false_eq_true, ie_m1_0, ie_m1_1, ie_m1_2, ie_m1_3, ie_m1_4, ie_m1_5, ie_0_m1, ie_0_1, ie_0_2, ie_0_3, ie_0_4, ie_0_5, ie_1_m1, ie_1_0, ie_1_2, ie_1_3, ie_1_4, ie_1_5, ie_2_m1, ie_2_0, ie_2_1, ie_2_3, ie_2_4, ie_2_5, ie_3_m1, ie_3_0, ie_3_1, ie_3_2, ie_3_4, ie_3_5, ie_4_m1, ie_4_0, ie_4_1, ie_4_2, ie_4_3, ie_4_5, ie_5_m1, ie_5_0, ie_5_1, ie_5_2, ie_5_3, ie_5_4, g16_12, h16_12, bl_len, al_100, hp]
  rfl
theorem o16_20 (h : ob 112 (sk_20 sh) 91 8 44) : ob 113 (sk_21 sh) 91 8 44 := h.up (100, 12)
theorem z16_20 : szs 113 (sk_21 sh) = szs 112 (sk_20 sh) + 12 := szs_U 112 (sk_20 sh) (100, 12)
def sk_22 (sh : Nat → Nat × Nat) : Nat → Nat × Nat := uS (sk_21 sh) 113 (100, 12)
def xk_22 (x : Nat → Nat → Int32) : Nat → Nat → Int32 := uz (xk_21 x) 113 0
def yk_22 (y : Nat → Nat → Option Nat) : Nat → Nat → Option Nat := u2 (uz (yk_21 y) 113 none) 91 29 (some 113)
theorem b16_21 (d : Nat) (h : ob 113 (sk_21 sh) 91 8 44) : mj_Rn pg (d + 1) 16 (172, [some (.inr (some 91))], [], bl 113 (sk_21 sh) (xk_21 x) (yk_21 y)) = mj_Rn pg (d + 1) 16 (180, [some (.inr (some 91))], [], bl 114 (sk_22 sh) (xk_22 x) (yk_22 y)) := by
  have h2 : ob (113 + 1) (uS (sk_21 sh) 113 (100, 12)) 91 8 44 := h.up (100, 12)
  have hp : ∀ v, mj_pf (bl (113 + 1) (uS (sk_21 sh) 113 (100, 12)) (uz (xk_21 x) 113 0) (uz (yk_21 y) 113 none)) 91 8 29 (.inr v) = _ := fun v => c8_put h2 (by decide) (by decide) v
  simp only [s_16_172, s_16_173, s_16_175, s_16_177, mj_lI_s, mj_lI_0, mj_lA_s, mj_lA_0, mj_sL_s, mj_sL_0, mj_s8_0, mj_s8_1, mj_s8_2, mj_s8_3, mj_bc_n, mj_bc_s, mj_bd_s, u2_eq, u2_a, u2_k, ne_eq, Nat.reduceEqDiff, not_false_eq_true, List.nil_append, List.cons_append, eq_self, true_or, or_true, if_true, if_false, false_or, or_false, not_true_eq_false, Bool.false_eq_true, ie_m1_0, ie_m1_1, ie_m1_2, ie_m1_3, ie_m1_4, ie_m1_5, ie_0_m1, ie_0_1, ie_0_2, ie_0_3, ie_0_4, ie_0_5, ie_1_m1, ie_1_0, ie_1_2, ie_1_3, ie_1_4, ie_1_5, ie_2_m1, ie_2_0, ie_2_1, ie_2_3, ie_2_4, ie_2_5, ie_3_m1, ie_3_0, ie_3_1, ie_3_2, ie_3_4, ie_3_5, ie_4_m1, ie_4_0, ie_4_1, ie_4_2, ie_4_3, ie_4_5, ie_5_m1, ie_5_0, ie_5_1, ie_5_2, ie_5_3, ie_5_4, g16_12, h16_12, bl_len, al_100, hp]
  rfl
theorem o16_21 (h : ob 113 (sk_21 sh) 91 8 44) : ob 114 (sk_22 sh) 91 8 44 := h.up (100, 12)
theorem z16_21 : szs 114 (sk_22 sh) = szs 113 (sk_21 sh) + 12 := szs_U 113 (sk_21 sh) (100, 12)
def sk_23 (sh : Nat → Nat × Nat) : Nat → Nat × Nat := uS (sk_22 sh) 114 (100, 12)
def xk_23 (x : Nat → Nat → Int32) : Nat → Nat → Int32 := uz (xk_22 x) 114 0
def yk_23 (y : Nat → Nat → Option Nat) : Nat → Nat → Option Nat := u2 (uz (yk_22 y) 114 none) 91 30 (some 114)
theorem b16_22 (d : Nat) (h : ob 114 (sk_22 sh) 91 8 44) : mj_Rn pg (d + 1) 16 (180, [some (.inr (some 91))], [], bl 114 (sk_22 sh) (xk_22 x) (yk_22 y)) = mj_Rn pg (d + 1) 16 (188, [some (.inr (some 91))], [], bl 115 (sk_23 sh) (xk_23 x) (yk_23 y)) := by
  have h2 : ob (114 + 1) (uS (sk_22 sh) 114 (100, 12)) 91 8 44 := h.up (100, 12)
  have hp : ∀ v, mj_pf (bl (114 + 1) (uS (sk_22 sh) 114 (100, 12)) (uz (xk_22 x) 114 0) (uz (yk_22 y) 114 none)) 91 8 30 (.inr v) = _ := fun v => c8_put h2 (by decide) (by decide) v
  simp only [s_16_180, s_16_181, s_16_183, s_16_185, mj_lI_s, mj_lI_0, mj_lA_s, mj_lA_0, mj_sL_s, mj_sL_0, mj_s8_0, mj_s8_1, mj_s8_2, mj_s8_3, mj_bc_n, mj_bc_s, mj_bd_s, u2_eq, u2_a, u2_k, ne_eq, Nat.reduceEqDiff, not_false_eq_true, List.nil_append, List.cons_append, eq_self, true_or, or_true, if_true, if_false, false_or, or_false, not_true_eq_false, Bool.false_eq_true, ie_m1_0, ie_m1_1, ie_m1_2, ie_m1_3, ie_m1_4, ie_m1_5, ie_0_m1, ie_0_1, ie_0_2, ie_0_3, ie_0_4, ie_0_5, ie_1_m1, ie_1_0, ie_1_2, ie_1_3, ie_1_4, ie_1_5, ie_2_m1, ie_2_0, ie_2_1, ie_2_3, ie_2_4, ie_2_5, ie_3_m1, ie_3_0, ie_3_1, ie_3_2, ie_3_4, ie_3_5, ie_4_m1, ie_4_0, ie_4_1, ie_4_2, ie_4_3, ie_4_5, ie_5_m1, ie_5_0, ie_5_1, ie_5_2, ie_5_3, ie_5_4, g16_12, h16_12, bl_len, al_100, hp]
  rfl
theorem o16_22 (h : ob 114 (sk_22 sh) 91 8 44) : ob 115 (sk_23 sh) 91 8 44 := h.up (100, 12)
theorem z16_22 : szs 115 (sk_23 sh) = szs 114 (sk_22 sh) + 12 := szs_U 114 (sk_22 sh) (100, 12)
def sk_24 (sh : Nat → Nat × Nat) : Nat → Nat × Nat := uS (sk_23 sh) 115 (100, 12)
def xk_24 (x : Nat → Nat → Int32) : Nat → Nat → Int32 := uz (xk_23 x) 115 0
def yk_24 (y : Nat → Nat → Option Nat) : Nat → Nat → Option Nat := u2 (uz (yk_23 y) 115 none) 91 31 (some 115)
theorem b16_23 (d : Nat) (h : ob 115 (sk_23 sh) 91 8 44) : mj_Rn pg (d + 1) 16 (188, [some (.inr (some 91))], [], bl 115 (sk_23 sh) (xk_23 x) (yk_23 y)) = mj_Rn pg (d + 1) 16 (196, [some (.inr (some 91))], [], bl 116 (sk_24 sh) (xk_24 x) (yk_24 y)) := by
  have h2 : ob (115 + 1) (uS (sk_23 sh) 115 (100, 12)) 91 8 44 := h.up (100, 12)
  have hp : ∀ v, mj_pf (bl (115 + 1) (uS (sk_23 sh) 115 (100, 12)) (uz (xk_23 x) 115 0) (uz (yk_23 y) 115 none)) 91 8 31 (.inr v) = _ := fun v => c8_put h2 (by decide) (by decide) v
  simp only [s_16_188, s_16_189, s_16_191, s_16_193, mj_lI_s, mj_lI_0, mj_lA_s, mj_lA_0, mj_sL_s, mj_sL_0, mj_s8_0, mj_s8_1, mj_s8_2, mj_s8_3, mj_bc_n, mj_bc_s, mj_bd_s, u2_eq, u2_a, u2_k, ne_eq, Nat.reduceEqDiff, not_false_eq_true, List.nil_append, List.cons_append, eq_self, true_or, or_true, if_true, if_false, false_or, or_false, not_true_eq_false, Bool.false_eq_true, ie_m1_0, ie_m1_1, ie_m1_2, ie_m1_3, ie_m1_4, ie_m1_5, ie_0_m1, ie_0_1, ie_0_2, ie_0_3, ie_0_4, ie_0_5, ie_1_m1, ie_1_0, ie_1_2, ie_1_3, ie_1_4, ie_1_5, ie_2_m1, ie_2_0, ie_2_1, ie_2_3, ie_2_4, ie_2_5, ie_3_m1, ie_3_0, ie_3_1, ie_3_2, ie_3_4, ie_3_5, ie_4_m1, ie_4_0, ie_4_1, ie_4_2, ie_4_3, ie_4_5, ie_5_m1, ie_5_0, ie_5_1, ie_5_2, ie_5_3, ie_5_4, g16_12, h16_12, bl_len, al_100, hp]
  rfl
theorem o16_23 (h : ob 115 (sk_23 sh) 91 8 44) : ob 116 (sk_24 sh) 91 8 44 := h.up (100, 12)
theorem z16_23 : szs 116 (sk_24 sh) = szs 115 (sk_23 sh) + 12 := szs_U 115 (sk_23 sh) (100, 12)
def sk_25 (sh : Nat → Nat × Nat) : Nat → Nat × Nat := uS (sk_24 sh) 116 (100, 8000)
def xk_25 (x : Nat → Nat → Int32) : Nat → Nat → Int32 := uz (xk_24 x) 116 0
def yk_25 (y : Nat → Nat → Option Nat) : Nat → Nat → Option Nat := u2 (uz (yk_24 y) 116 none) 91 32 (some 116)
theorem b16_24 (d : Nat) (h : ob 116 (sk_24 sh) 91 8 44) : mj_Rn pg (d + 1) 16 (196, [some (.inr (some 91))], [], bl 116 (sk_24 sh) (xk_24 x) (yk_24 y)) = mj_Rn pg (d + 1) 16 (205, [some (.inr (some 91))], [], bl 117 (sk_25 sh) (xk_25 x) (yk_25 y)) := by
  have h2 : ob (116 + 1) (uS (sk_24 sh) 116 (100, 8000)) 91 8 44 := h.up (100, 8000)
  have hp : ∀ v, mj_pf (bl (116 + 1) (uS (sk_24 sh) 116 (100, 8000)) (uz (xk_24 x) 116 0) (uz (yk_24 y) 116 none)) 91 8 32 (.inr v) = _ := fun v => c8_put h2 (by decide) (by decide) v
  simp only [s_16_196, s_16_197, s_16_200, s_16_202, mj_lI_s, mj_lI_0, mj_lA_s, mj_lA_0, mj_sL_s, mj_sL_0, mj_s8_0, mj_s8_1, mj_s8_2, mj_s8_3, mj_bc_n, mj_bc_s, mj_bd_s, u2_eq, u2_a, u2_k, ne_eq, Nat.reduceEqDiff, not_false_eq_true, List.nil_append, List.cons_append, eq_self, true_or, or_true, if_true, if_false, false_or, or_false, not_true_eq_false, Bool.false_eq_true, ie_m1_0, ie_m1_1, ie_m1_2, ie_m1_3, ie_m1_4, ie_m1_5, ie_0_m1, ie_0_1, ie_0_2, ie_0_3, ie_0_4, ie_0_5, ie_1_m1, ie_1_0, ie_1_2, ie_1_3, ie_1_4, ie_1_5, ie_2_m1, ie_2_0, ie_2_1, ie_2_3, ie_2_4, ie_2_5, ie_3_m1, ie_3_0, ie_3_1, ie_3_2, ie_3_4, ie_3_5, ie_4_m1, ie_4_0, ie_4_1, ie_4_2, ie_4_3, ie_4_5, ie_5_m1, ie_5_0, ie_5_1, ie_5_2, ie_5_3, ie_5_4, g16_8000, h16_8000, bl_len, al_100, hp]
  rfl
theorem o16_24 (h : ob 116 (sk_24 sh) 91 8 44) : ob 117 (sk_25 sh) 91 8 44 := h.up (100, 8000)
theorem z16_24 : szs 117 (sk_25 sh) = szs 116 (sk_24 sh) + 8000 := szs_U 116 (sk_24 sh) (100, 8000)
def sk_26 (sh : Nat → Nat × Nat) : Nat → Nat × Nat := uS (sk_25 sh) 117 (100, 8000)
def xk_26 (x : Nat → Nat → Int32) : Nat → Nat → Int32 := uz (xk_25 x) 117 0
def yk_26 (y : Nat → Nat → Option Nat) : Nat → Nat → Option Nat := u2 (uz (yk_25 y) 117 none) 91 33 (some 117)
theorem b16_25 (d : Nat) (h : ob 117 (sk_25 sh) 91 8 44) : mj_Rn pg (d + 1) 16 (205, [some (.inr (some 91))], [], bl 117 (sk_25 sh) (xk_25 x) (yk_25 y)) = mj_Rn pg (d + 1) 16 (214, [some (.inr (some 91))], [], bl 118 (sk_26 sh) (xk_26 x) (yk_26 y)) := by
  have h2 : ob (117 + 1) (uS (sk_25 sh) 117 (100, 8000)) 91 8 44 := h.up (100, 8000)
  have hp : ∀ v, mj_pf (bl (117 + 1) (uS (sk_25 sh) 117 (100, 8000)) (uz (xk_25 x) 117 0) (uz (yk_25 y) 117 none)) 91 8 33 (.inr v) = _ := fun v => c8_put h2 (by decide) (by decide) v
  simp only [s_16_205, s_16_206, s_16_209, s_16_211, mj_lI_s, mj_lI_0, mj_lA_s, mj_lA_0, mj_sL_s, mj_sL_0, mj_s8_0, mj_s8_1, mj_s8_2, mj_s8_3, mj_bc_n, mj_bc_s, mj_bd_s, u2_eq, u2_a, u2_k, ne_eq, Nat.reduceEqDiff, not_false_eq_true, List.nil_append, List.cons_append, eq_self, true_or, or_true, if_true, if_false, false_or, or_false, not_true_eq_false, Bool.false_eq_true, ie_m1_0, ie_m1_1, ie_m1_2, ie_m1_3, ie_m1_4, ie_m1_5, ie_0_m1, ie_0_1, ie_0_2, ie_0_3, ie_0_4, ie_0_5, ie_1_m1, ie_1_0, ie_1_2, ie_1_3, ie_1_4, ie_1_5, ie_2_m1, ie_2_0, ie_2_1, ie_2_3, ie_2_4, ie_2_5, ie_3_m1, ie_3_0, ie_3_1, ie_3_2, ie_3_4, ie_3_5, ie_4_m1, ie_4_0, ie_4_1, ie_4_2, ie_4_3, ie_4_5, ie_5_m1, ie_5_0, ie_5_1, ie_5_2, ie_5_3, ie_5_4, g16_8000, h16_8000, bl_len, al_100, hp]
  rfl
theorem o16_25 (h : ob 117 (sk_25 sh) 91 8 44) : ob 118 (sk_26 sh) 91 8 44 := h.up (100, 8000)
theorem z16_25 : szs 118 (sk_26 sh) = szs 117 (sk_25 sh) + 8000 := szs_U 117 (sk_25 sh) (100, 8000)
def sk_27 (sh : Nat → Nat × Nat) : Nat → Nat × Nat := uS (sk_26 sh) 118 (100, 8000)
def xk_27 (x : Nat → Nat → Int32) : Nat → Nat → Int32 := uz (xk_26 x) 118 0
def yk_27 (y : Nat → Nat → Option Nat) : Nat → Nat → Option Nat := u2 (uz (yk_26 y) 118 none) 91 34 (some 118)
theorem b16_26 (d : Nat) (h : ob 118 (sk_26 sh) 91 8 44) : mj_Rn pg (d + 1) 16 (214, [some (.inr (some 91))], [], bl 118 (sk_26 sh) (xk_26 x) (yk_26 y)) = mj_Rn pg (d + 1) 16 (223, [some (.inr (some 91))], [], bl 119 (sk_27 sh) (xk_27 x) (yk_27 y)) := by
  have h2 : ob (118 + 1) (uS (sk_26 sh) 118 (100, 8000)) 91 8 44 := h.up (100, 8000)
  have hp : ∀ v, mj_pf (bl (118 + 1) (uS (sk_26 sh) 118 (100, 8000)) (uz (xk_26 x) 118 0) (uz (yk_26 y) 118 none)) 91 8 34 (.inr v) = _ := fun v => c8_put h2 (by decide) (by decide) v
  simp only [s_16_214, s_16_215, s_16_218, s_16_220, mj_lI_s, mj_lI_0, mj_lA_s, mj_lA_0, mj_sL_s, mj_sL_0, mj_s8_0, mj_s8_1, mj_s8_2, mj_s8_3, mj_bc_n, mj_bc_s, mj_bd_s, u2_eq, u2_a, u2_k, ne_eq, Nat.reduceEqDiff, not_false_eq_true, List.nil_append, List.cons_append, eq_self, true_or, or_true, if_true, if_false, false_or, or_false, not_true_eq_false, Bool.false_eq_true, ie_m1_0, ie_m1_1, ie_m1_2, ie_m1_3, ie_m1_4, ie_m1_5, ie_0_m1, ie_0_1, ie_0_2, ie_0_3, ie_0_4, ie_0_5, ie_1_m1, ie_1_0, ie_1_2, ie_1_3, ie_1_4, ie_1_5, ie_2_m1, ie_2_0, ie_2_1, ie_2_3, ie_2_4, ie_2_5, ie_3_m1, ie_3_0, ie_3_1, ie_3_2, ie_3_4, ie_3_5, ie_4_m1, ie_4_0, ie_4_1, ie_4_2, ie_4_3, ie_4_5, ie_5_m1, ie_5_0, ie_5_1, ie_5_2, ie_5_3, ie_5_4, g16_8000, h16_8000, bl_len, al_100, hp]
  rfl
theorem o16_26 (h : ob 118 (sk_26 sh) 91 8 44) : ob 119 (sk_27 sh) 91 8 44 := h.up (100, 8000)
theorem z16_26 : szs 119 (sk_27 sh) = szs 118 (sk_26 sh) + 8000 := szs_U 118 (sk_26 sh) (100, 8000)
def sk_28 (sh : Nat → Nat × Nat) : Nat → Nat × Nat := uS (sk_27 sh) 119 (100, 40)
def xk_28 (x : Nat → Nat → Int32) : Nat → Nat → Int32 := uz (xk_27 x) 119 0
def yk_28 (y : Nat → Nat → Option Nat) : Nat → Nat → Option Nat := u2 (uz (yk_27 y) 119 none) 91 35 (some 119)
theorem b16_27 (d : Nat) (h : ob 119 (sk_27 sh) 91 8 44) : mj_Rn pg (d + 1) 16 (223, [some (.inr (some 91))], [], bl 119 (sk_27 sh) (xk_27 x) (yk_27 y)) = mj_Rn pg (d + 1) 16 (231, [some (.inr (some 91))], [], bl 120 (sk_28 sh) (xk_28 x) (yk_28 y)) := by
  have h2 : ob (119 + 1) (uS (sk_27 sh) 119 (100, 40)) 91 8 44 := h.up (100, 40)
  have hp : ∀ v, mj_pf (bl (119 + 1) (uS (sk_27 sh) 119 (100, 40)) (uz (xk_27 x) 119 0) (uz (yk_27 y) 119 none)) 91 8 35 (.inr v) = _ := fun v => c8_put h2 (by decide) (by decide) v
  simp only [s_16_223, s_16_224, s_16_226, s_16_228, mj_lI_s, mj_lI_0, mj_lA_s, mj_lA_0, mj_sL_s, mj_sL_0, mj_s8_0, mj_s8_1, mj_s8_2, mj_s8_3, mj_bc_n, mj_bc_s, mj_bd_s, u2_eq, u2_a, u2_k, ne_eq, Nat.reduceEqDiff, not_false_eq_true, List.nil_append, List.cons_append, eq_self, true_or, or_true, if_true, if_false, false_or, or_false, not_true_eq_false, Bool.false_eq_true, ie_m1_0, ie_m1_1, ie_m1_2, ie_m1_3, ie_m1_4, ie_m1_5, ie_0_m1, ie_0_1, ie_0_2, ie_0_3, ie_0_4, ie_0_5, ie_1_m1, ie_1_0, ie_1_2, ie_1_3, ie_1_4, ie_1_5, ie_2_m1, ie_2_0, ie_2_1, ie_2_3, ie_2_4, ie_2_5, ie_3_m1, ie_3_0, ie_3_1, ie_3_2, ie_3_4, ie_3_5, ie_4_m1, ie_4_0, ie_4_1, ie_4_2, ie_4_3, ie_4_5, ie_5_m1, ie_5_0, ie_5_1, ie_5_2, ie_5_3, ie_5_4, g16_40, h16_40, bl_len, al_100, hp]
  rfl
theorem o16_27 (h : ob 119 (sk_27 sh) 91 8 44) : ob 120 (sk_28 sh) 91 8 44 := h.up (100, 40)
theorem z16_27 : szs 120 (sk_28 sh) = szs 119 (sk_27 sh) + 40 := szs_U 119 (sk_27 sh) (100, 40)
def sk_29 (sh : Nat → Nat × Nat) : Nat → Nat × Nat := uS (sk_28 sh) 120 (100, 40)
def xk_29 (x : Nat → Nat → Int32) : Nat → Nat → Int32 := uz (xk_28 x) 120 0
def yk_29 (y : Nat → Nat → Option Nat) : Nat → Nat → Option Nat := u2 (uz (yk_28 y) 120 none) 91 36 (some 120)
theorem b16_28 (d : Nat) (h : ob 120 (sk_28 sh) 91 8 44) : mj_Rn pg (d + 1) 16 (231, [some (.inr (some 91))], [], bl 120 (sk_28 sh) (xk_28 x) (yk_28 y)) = mj_Rn pg (d + 1) 16 (239, [some (.inr (some 91))], [], bl 121 (sk_29 sh) (xk_29 x) (yk_29 y)) := by
  have h2 : ob (120 + 1) (uS (sk_28 sh) 120 (100, 40)) 91 8 44 := h.up (100, 40)
  have hp : ∀ v, mj_pf (bl (120 + 1) (uS (sk_28 sh) 120 (100, 40)) (uz (xk_28 x) 120 0) (uz (yk_28 y) 120 none)) 91 8 36 (.inr v) = _ := fun v => c8_put h2 (by decide) (by decide) v
  simp only [s_16_231, s_16_232, s_16_234, s_16_236, mj_lI_s, mj_lI_0, mj_lA_s, mj_lA_0, mj_sL_s, mj_sL_0, mj_s8_0, mj_s8_1, mj_s8_2, mj_s8_3, mj_bc_n, mj_bc_s, mj_bd_s, u2_eq, u2_a, u2_k, ne_eq, Nat.reduceEqDiff, not_false_eq_true, List.nil_append, List.cons_append, eq_self, true_or, or_true, if_true, if_false, false_or, or_false, not_true_eq_false, Bool.false_eq_true, ie_m1_0, ie_m1_1, ie_m1_2, ie_m1_3, ie_m1_4, ie_m1_5, ie_0_m1, ie_0_1, ie_0_2, ie_0_3, ie_0_4, ie_0_5, ie_1_m1, ie_1_0, ie_1_2, ie_1_3, ie_1_4, ie_1_5, ie_2_m1, ie_2_0, ie_2_1, ie_2_3, ie_2_4, ie_2_5, ie_3_m1, ie_3_0, ie_3_1, ie_3_2, ie_3_4, ie_3_5, ie_4_m1, ie_4_0, ie_4_1, ie_4_2, ie_4_3, ie_4_5, ie_5_m1, ie_5_0, ie_5_1, ie_5_2, ie_5_3, ie_5_4, g16_40, h16_40, bl_len, al_100, hp]
  rfl
theorem o16_28 (h : ob 120 (sk_28 sh) 91 8 44) : ob 121 (sk_29 sh) 91 8 44 := h.up (100, 40)
theorem z16_28 : szs 121 (sk_29 sh) = szs 120 (sk_28 sh) + 40 := szs_U 120 (sk_28 sh) (100, 40)
def sk_30 (sh : Nat → Nat × Nat) : Nat → Nat × Nat := uS (sk_29 sh) 121 (100, 40)
def xk_30 (x : Nat → Nat → Int32) : Nat → Nat → Int32 := uz (xk_29 x) 121 0
def yk_30 (y : Nat → Nat → Option Nat) : Nat → Nat → Option Nat := u2 (uz (yk_29 y) 121 none) 91 37 (some 121)
theorem b16_29 (d : Nat) (h : ob 121 (sk_29 sh) 91 8 44) : mj_Rn pg (d + 1) 16 (239, [some (.inr (some 91))], [], bl 121 (sk_29 sh) (xk_29 x) (yk_29 y)) = mj_Rn pg (d + 1) 16 (247, [some (.inr (some 91))], [], bl 122 (sk_30 sh) (xk_30 x) (yk_30 y)) := by
  have h2 : ob (121 + 1) (uS (sk_29 sh) 121 (100, 40)) 91 8 44 := h.up (100, 40)
  have hp : ∀ v, mj_pf (bl (121 + 1) (uS (sk_29 sh) 121 (100, 40)) (uz (xk_29 x) 121 0) (uz (yk_29 y) 121 none)) 91 8 37 (.inr v) = _ := fun v => c8_put h2 (by decide) (by decide) v
  simp only [s_16_239, s_16_240, s_16_242, s_16_244, mj_lI_s, mj_lI_0, mj_lA_s, mj_lA_0, mj_sL_s, mj_sL_0, mj_s8_0, mj_s8_1, mj_s8_2, mj_s8_3, mj_bc_n, mj_bc_s, mj_bd_s, u2_eq, u2_a, u2_k, ne_eq, Nat.reduceEqDiff, not_false_eq_true, List.nil_append, List.cons_append, eq_self, true_or, or_true, if_true, if_false, false_or, or_false, not_true_eq_false, Bool.false_eq_true, ie_m1_0, ie_m1_1, ie_m1_2, ie_m1_3, ie_m1_4, ie_m1_5, ie_0_m1, ie_0_1, ie_0_2, ie_0_3, ie_0_4, ie_0_5, ie_1_m1, ie_1_0, ie_1_2, ie_1_3, ie_1_4, ie_1_5, ie_2_m1, ie_2_0, ie_2_1, ie_2_3, ie_2_4, ie_2_5, ie_3_m1, ie_3_0, ie_3_1, ie_3_2, ie_3_4, ie_3_5, ie_4_m1, ie_4_0, ie_4_1, ie_4_2, ie_4_3, ie_4_5, ie_5_m1, ie_5_0, ie_5_1, ie_5_2, ie_5_3, ie_5_4, g16_40, h16_40, bl_len, al_100, hp]
  rfl
theorem o16_29 (h : ob 121 (sk_29 sh) 91 8 44) : ob 122 (sk_30 sh) 91 8 44 := h.up (100, 40)
theorem z16_29 : szs 122 (sk_30 sh) = szs 121 (sk_29 sh) + 40 := szs_U 121 (sk_29 sh) (100, 40)
def sk_31 (sh : Nat → Nat × Nat) : Nat → Nat × Nat := uS (sk_30 sh) 122 (100, 40)
def xk_31 (x : Nat → Nat → Int32) : Nat → Nat → Int32 := uz (xk_30 x) 122 0
def yk_31 (y : Nat → Nat → Option Nat) : Nat → Nat → Option Nat := u2 (uz (yk_30 y) 122 none) 91 38 (some 122)
theorem b16_30 (d : Nat) (h : ob 122 (sk_30 sh) 91 8 44) : mj_Rn pg (d + 1) 16 (247, [some (.inr (some 91))], [], bl 122 (sk_30 sh) (xk_30 x) (yk_30 y)) = mj_Rn pg (d + 1) 16 (255, [some (.inr (some 91))], [], bl 123 (sk_31 sh) (xk_31 x) (yk_31 y)) := by
  have h2 : ob (122 + 1) (uS (sk_30 sh) 122 (100, 40)) 91 8 44 := h.up (100, 40)
  have hp : ∀ v, mj_pf (bl (122 + 1) (uS (sk_30 sh) 122 (100, 40)) (uz (xk_30 x) 122 0) (uz (yk_30 y) 122 none)) 91 8 38 (.inr v) = _ := fun v => c8_put h2 (by decide) (by decide) v
  simp only [s_16_247, s_16_248, s_16_250, s_16_252, mj_lI_s, mj_lI_0, mj_lA_s, mj_lA_0, mj_sL_s, mj_sL_0, mj_s8_0, mj_s8_1, mj_s8_2, mj_s8_3, mj_bc_n, mj_bc_s, mj_bd_s, u2_eq, u2_a, u2_k, ne_eq, Nat.reduceEqDiff, not_false_eq_true, List.nil_append, List.cons_append, eq_self, true_or, or_true, if_true, if_false, false_or, or_false, not_true_eq_false, Bool.false_eq_true, ie_m1_0, ie_m1_1, ie_m1_2, ie_m1_3, ie_m1_4, ie_m1_5, ie_0_m1, ie_0_1, ie_0_2, ie_0_3, ie_0_4, ie_0_5, ie_1_m1, ie_1_0, ie_1_2, ie_1_3, ie_1_4, ie_1_5, ie_2_m1, ie_2_0, ie_2_1, ie_2_3, ie_2_4, ie_2_5, ie_3_m1, ie_3_0, ie_3_1, ie_3_2, ie_3_4, ie_3_5, ie_4_m1, ie_4_0, ie_4_1, ie_4_2, ie_4_3, ie_4_5, ie_5_m1, ie_5_0, ie_5_1, ie_5_2, ie_5_3, ie_5_4, g16_40, h16_40, bl_len, al_100, hp]
  rfl
theorem o16_30 (h : ob 122 (sk_30 sh) 91 8 44) : ob 123 (sk_31 sh) 91 8 44 := h.up (100, 40)
theorem z16_30 : szs 123 (sk_31 sh) = szs 122 (sk_30 sh) + 40 := szs_U 122 (sk_30 sh) (100, 40)
def sk_32 (sh : Nat → Nat × Nat) : Nat → Nat × Nat := uS (sk_31 sh) 123 (100, 40)
def xk_32 (x : Nat → Nat → Int32) : Nat → Nat → Int32 := uz (xk_31 x) 123 0
def yk_32 (y : Nat → Nat → Option Nat) : Nat → Nat → Option Nat := u2 (uz (yk_31 y) 123 none) 91 39 (some 123)
theorem b16_31 (d : Nat) (h : ob 123 (sk_31 sh) 91 8 44) : mj_Rn pg (d + 1) 16 (255, [some (.inr (some 91))], [], bl 123 (sk_31 sh) (xk_31 x) (yk_31 y)) = mj_Rn pg (d + 1) 16 (263, [some (.inr (some 91))], [], bl 124 (sk_32 sh) (xk_32 x) (yk_32 y)) := by
  have h2 : ob (123 + 1) (uS (sk_31 sh) 123 (100, 40)) 91 8 44 := h.up (100, 40)
  have hp : ∀ v, mj_pf (bl (123 + 1) (uS (sk_31 sh) 123 (100, 40)) (uz (xk_31 x) 123 0) (uz (yk_31 y) 123 none)) 91 8 39 (.inr v) = _ := fun v => c8_put h2 (by decide) (by decide) v
  simp only [s_16_255, s_16_256, s_16_258, s_16_260, mj_lI_s, mj_lI_0, mj_lA_s, mj_lA_0, mj_sL_s, mj_sL_0, mj_s8_0, mj_s8_1, mj_s8_2, mj_s8_3, mj_bc_n, mj_bc_s, mj_bd_s, u2_eq, u2_a, u2_k, ne_eq, Nat.reduceEqDiff, not_false_eq_true, List.nil_append, List.cons_append, eq_self, true_or, or_true, if_true, if_false, false_or, or_false, not_true_eq_false, Bool.false_eq_true, ie_m1_0, ie_m1_1, ie_m1_2, ie_m1_3, ie_m1_4, ie_m1_5, ie_0_m1, ie_0_1, ie_0_2, ie_0_3, ie_0_4, ie_0_5, ie_1_m1, ie_1_0, ie_1_2, ie_1_3, ie_1_4, ie_1_5, ie_2_m1, ie_2_0, ie_2_1, ie_2_3, ie_2_4, ie_2_5, ie_3_m1, ie_3_0, ie_3_1, ie_3_2, ie_3_4, ie_3_5, ie_4_m1, ie_4_0, ie_4_1, ie_4_2, ie_4_3, ie_4_5, ie_5_m1, ie_5_0, ie_5_1, ie_5_2, ie_5_3, ie_5_4, g16_40, h16_40, bl_len, al_100, hp]
  rfl
theorem o16_31 (h : ob 123 (sk_31 sh) 91 8 44) : ob 124 (sk_32 sh) 91 8 44 := h.up (100, 40)
theorem z16_31 : szs 124 (sk_32 sh) = szs 123 (sk_31 sh) + 40 := szs_U 123 (sk_31 sh) (100, 40)
def sk_33 (sh : Nat → Nat × Nat) : Nat → Nat × Nat := uS (sk_32 sh) 124 (100, 40)
def xk_33 (x : Nat → Nat → Int32) : Nat → Nat → Int32 := uz (xk_32 x) 124 0
def yk_33 (y : Nat → Nat → Option Nat) : Nat → Nat → Option Nat := u2 (uz (yk_32 y) 124 none) 91 40 (some 124)
theorem b16_32 (d : Nat) (h : ob 124 (sk_32 sh) 91 8 44) : mj_Rn pg (d + 1) 16 (263, [some (.inr (some 91))], [], bl 124 (sk_32 sh) (xk_32 x) (yk_32 y)) = mj_Rn pg (d + 1) 16 (271, [some (.inr (some 91))], [], bl 125 (sk_33 sh) (xk_33 x) (yk_33 y)) := by
  have h2 : ob (124 + 1) (uS (sk_32 sh) 124 (100, 40)) 91 8 44 := h.up (100, 40)
  have hp : ∀ v, mj_pf (bl (124 + 1) (uS (sk_32 sh) 124 (100, 40)) (uz (xk_32 x) 124 0) (uz (yk_32 y) 124 none)) 91 8 40 (.inr v) = _ := fun v => c8_put h2 (by decide) (by decide) v
  simp only [s_16_263, s_16_264, s_16_266, s_16_268, mj_lI_s, mj_lI_0, mj_lA_s, mj_lA_0, mj_sL_s, mj_sL_0, mj_s8_0, mj_s8_1, mj_s8_2, mj_s8_3, mj_bc_n, mj_bc_s, mj_bd_s, u2_eq, u2_a, u2_k, ne_eq, Nat.reduceEqDiff, not_false_eq_true, List.nil_append, List.cons_append, eq_self, true_or, or_true, if_true, if_false, false_or, or_false, not_true_eq_false, Bool.false_eq_true, ie_m1_0, ie_m1_1, ie_m1_2, ie_m1_3, ie_m1_4, ie_m1_5, ie_0_m1, ie_0_1, ie_0_2, ie_0_3, ie_0_4, ie_0_5, ie_1_m1, ie_1_0, ie_1_2, ie_1_3, ie_1_4, ie_1_5, ie_2_m1, ie_2_0, ie_2_1, ie_2_3, ie_2_4, ie_2_5, ie_3_m1, ie_3_0, ie_3_1, ie_3_2, ie_3_4, ie_3_5, ie_4_m1, ie_4_0, ie_4_1, ie_4_2, ie_4_3, ie_4_5, ie_5_m1, ie_5_0, ie_5_1, ie_5_2, ie_5_3, ie_5_4, g16_40, h16_40, bl_len, al_100, hp]
  rfl
theorem o16_32 (h : ob 124 (sk_32 sh) 91 8 44) : ob 125 (sk_33 sh) 91 8 44 := h.up (100, 40)
theorem z16_32 : szs 125 (sk_33 sh) = szs 124 (sk_32 sh) + 40 := szs_U 124 (sk_32 sh) (100, 40)
def sk_34 (sh : Nat → Nat × Nat) : Nat → Nat × Nat := uS (sk_33 sh) 125 (200, 160)
def xk_34 (x : Nat → Nat → Int32) : Nat → Nat → Int32 := uz (xk_33 x) 125 0
def yk_34 (y : Nat → Nat → Option Nat) : Nat → Nat → Option Nat := u2 (uz (yk_33 y) 125 none) 91 41 (some 125)
theorem b16_33 (d : Nat) (h : ob 125 (sk_33 sh) 91 8 44) : mj_Rn pg (d + 1) 16 (271, [some (.inr (some 91))], [], bl 125 (sk_33 sh) (xk_33 x) (yk_33 y)) = mj_Rn pg (d + 1) 16 (280, [some (.inr (some 91))], [], bl 126 (sk_34 sh) (xk_34 x) (yk_34 y)) := by
  have h2 : ob (125 + 1) (uS (sk_33 sh) 125 (200, 160)) 91 8 44 := h.up (200, 160)
  have hp : ∀ v, mj_pf (bl (125 + 1) (uS (sk_33 sh) 125 (200, 160)) (uz (xk_33 x) 125 0) (uz (yk_33 y) 125 none)) 91 8 41 (.inr v) = _ := fun v => c8_put h2 (by decide) (by decide) v
  simp only [s_16_271, s_16_272, s_16_275, s_16_277, mj_lI_s, mj_lI_0, mj_lA_s, mj_lA_0, mj_sL_s, mj_sL_0, mj_s8_0, mj_s8_1, mj_s8_2, mj_s8_3, mj_bc_n, mj_bc_s, mj_bd_s, u2_eq, u2_a, u2_k, ne_eq, Nat.reduceEqDiff, not_false_eq_true, List.nil_append, List.cons_append, eq_self, true_or, or_true, if_true, if_false, false_or, or_false, not_true_eq_false, Bool.false_eq_true, ie_m1_0, ie_m1_1, ie_m1_2, ie_m1_3, ie_m1_4, ie_m1_5, ie_0_m1, ie_0_1, ie_0_2, ie_0_3, ie_0_4, ie_0_5, ie_1_m1, ie_1_0, ie_1_2, ie_1_3, ie_1_4, ie_1_5, ie_2_m1, ie_2_0, ie_2_1, ie_2_3, ie_2_4, ie_2_5, ie_3_m1, ie_3_0, ie_3_1, ie_3_2, ie_3_4, ie_3_5, ie_4_m1, ie_4_0, ie_4_1, ie_4_2, ie_4_3, ie_4_5, ie_5_m1, ie_5_0, ie_5_1, ie_5_2, ie_5_3, ie_5_4, g16_160, h16_160, bl_len, al_200, hp]
  rfl
theorem o16_33 (h : ob 125 (sk_33 sh) 91 8 44) : ob 126 (sk_34 sh) 91 8 44 := h.up (200, 160)
theorem z16_33 : szs 126 (sk_34 sh) = szs 125 (sk_33 sh) + 160 := szs_U 125 (sk_33 sh) (200, 160)
def sk_35 (sh : Nat → Nat × Nat) : Nat → Nat × Nat := uS (sk_34 sh) 126 (200, 12)
def xk_35 (x : Nat → Nat → Int32) : Nat → Nat → Int32 := uz (xk_34 x) 126 0
def yk_35 (y : Nat → Nat → Option Nat) : Nat → Nat → Option Nat := u2 (uz (yk_34 y) 126 none) 91 42 (some 126)
theorem b16_34 (d : Nat) (h : ob 126 (sk_34 sh) 91 8 44) : mj_Rn pg (d + 1) 16 (280, [some (.inr (some 91))], [], bl 126 (sk_34 sh) (xk_34 x) (yk_34 y)) = mj_Rn pg (d + 1) 16 (288, [some (.inr (some 91))], [], bl 127 (sk_35 sh) (xk_35 x) (yk_35 y)) := by
  have h2 : ob (126 + 1) (uS (sk_34 sh) 126 (200, 12)) 91 8 44 := h.up (200, 12)
  have hp : ∀ v, mj_pf (bl (126 + 1) (uS (sk_34 sh) 126 (200, 12)) (uz (xk_34 x) 126 0) (uz (yk_34 y) 126 none)) 91 8 42 (.inr v) = _ := fun v => c8_put h2 (by decide) (by decide) v
  simp only [s_16_280, s_16_281, s_16_283, s_16_285, mj_lI_s, mj_lI_0, mj_lA_s, mj_lA_0, mj_sL_s, mj_sL_0, mj_s8_0, mj_s8_1, mj_s8_2, mj_s8_3, mj_bc_n, mj_bc_s, mj_bd_s, u2_eq, u2_a, u2_k, ne_eq, Nat.reduceEqDiff, not_false_eq_true, List.nil_append, List.cons_append, eq_self, true_or, or_true, if_true, if_false, false_or, or_false, not_true_eq_false, Bool.false_eq_true, ie_m1_0, ie_m1_1, ie_m1_2, ie_m1_3, ie_m1_4, ie_m1_5, ie_0_m1, ie_0_1, ie_0_2, ie_0_3, ie_0_4, ie_0_5, ie_1_m1, ie_1_0, ie_1_2, ie_1_3, ie_1_4, ie_1_5, ie_2_m1, ie_2_0, ie_2_1, ie_2_3, ie_2_4, ie_2_5, ie_3_m1, ie_3_0, ie_3_1, ie_3_2, ie_3_4, ie_3_5, ie_4_m1, ie_4_0, ie_4_1, ie_4_2, ie_4_3, ie_4_5, ie_5_m1, ie_5_0, ie_5_1, ie_5_2, ie_5_3, ie_5_4, g16_12, h16_12, bl_len, al_200, hp]
  rfl
theorem o16_34 (h : ob 126 (sk_34 sh) 91 8 44) : ob 127 (sk_35 sh) 91 8 44 := h.up (200, 12)
theorem z16_34 : szs 127 (sk_35 sh) = szs 126 (sk_34 sh) + 12 := szs_U 126 (sk_34 sh) (200, 12)
theorem rk_16 (d : Nat) (h : ob 92 sh 91 8 44) : mj_Cl pg (d + 1) 16 [.inr (some 91)] (bl 92 sh x y) = some (none, bl 127 (sk_35 sh) (xk_35 x) (yk_35 y)) := by
  have h_0 : ob 92 (sk_0 sh) 91 8 44 := h
  have h_1 := o16_0 h_0
  have h_2 := o16_1 h_1
  have h_3 := o16_2 h_2
  have h_4 := o16_3 h_3
  have h_5 := o16_4 h_4
  have h_6 := o16_5 h_5
  have h_7 := o16_6 h_6
  have h_8 := o16_7 h_7
  have h_9 := o16_8 h_8
  have h_10 := o16_9 h_9
  have h_11 := o16_10 h_10
  have h_12 := o16_11 h_11
  have h_13 := o16_12 h_12
  have h_14 := o16_13 h_13
  have h_15 := o16_14 h_14
  have h_16 := o16_15 h_15
  have h_17 := o16_16 h_16
  have h_18 := o16_17 h_17
  have h_19 := o16_18 h_18
  have h_20 := o16_19 h_19
  have h_21 := o16_20 h_20
  have h_22 := o16_21 h_21
  have h_23 := o16_22 h_22
  have h_24 := o16_23 h_23
  have h_25 := o16_24 h_24
  have h_26 := o16_25 h_25
  have h_27 := o16_26 h_26
  have h_28 := o16_27 h_27
  have h_29 := o16_28 h_28
  have h_30 := o16_29 h_29
  have h_31 := o16_30 h_30
  have h_32 := o16_31 h_31
  have h_33 := o16_32 h_32
  have h_34 := o16_33 h_33
  have h_35 := o16_34 h_34
  rw [e_16]
  simp only [s_16_0, s_16_1, mj_lI_s, mj_lI_0, mj_lA_s, mj_lA_0, mj_sL_s, mj_sL_0, mj_s8_0, mj_s8_1, mj_s8_2, mj_s8_3, mj_bc_n, mj_bc_s, mj_bd_s, u2_eq, u2_a, u2_k, ne_eq, Nat.reduceEqDiff, not_false_eq_true, List.nil_append, List.cons_append, eq_self, true_or, or_true, if_true, if_false, false_or, or_false, not_true_eq_false, Bool.false_eq_true, ie_m1_0, ie_m1_1, ie_m1_2, ie_m1_3, ie_m1_4, ie_m1_5, ie_0_m1, ie_0_1, ie_0_2, ie_0_3, ie_0_4, ie_0_5, ie_1_m1, ie_1_0, ie_1_2, ie_1_3, ie_1_4, ie_1_5, ie_2_m1, ie_2_0, ie_2_1, ie_2_3, ie_2_4, ie_2_5, ie_3_m1, ie_3_0, ie_3_1, ie_3_2, ie_3_4, ie_3_5, ie_4_m1, ie_4_0, ie_4_1, ie_4_2, ie_4_3, ie_4_5, ie_5_m1, ie_5_0, ie_5_1, ie_5_2, ie_5_3, ie_5_4]
  show mj_Rn pg (d + 1) 16 (4, [some (.inr (some 91))], [], bl 92 (sk_0 sh) (xk_0 x) (yk_0 y)) = _
  rw [b16_0 d h_0, b16_1 d h_1, b16_2 d h_2, b16_3 d h_3, b16_4 d h_4, b16_5 d h_5, b16_6 d h_6, b16_7 d h_7, b16_8 d h_8, b16_9 d h_9, b16_10 d h_10, b16_11 d h_11, b16_12 d h_12, b16_13 d h_13, b16_14 d h_14, b16_15 d h_15, b16_16 d h_16, b16_17 d h_17, b16_18 d h_18, b16_19 d h_19, b16_20 d h_20, b16_21 d h_21, b16_22 d h_22, b16_23 d h_23, b16_24 d h_24, b16_25 d h_25, b16_26 d h_26, b16_27 d h_27, b16_28 d h_28, b16_29 d h_29, b16_30 d h_30, b16_31 d h_31, b16_32 d h_32, b16_33 d h_33, b16_34 d h_34]
  simp only [s_16_288, mj_lI_s, mj_lI_0, mj_lA_s, mj_lA_0, mj_sL_s, mj_sL_0, mj_s8_0, mj_s8_1, mj_s8_2, mj_s8_3, mj_bc_n, mj_bc_s, mj_bd_s, u2_eq, u2_a, u2_k, ne_eq, Nat.reduceEqDiff, not_false_eq_true, List.nil_append, List.cons_append, eq_self, true_or, or_true, if_true, if_false, false_or, or_false, not_true_eq_false, Bool.false_eq_true, ie_m1_0, ie_m1_1, ie_m1_2, ie_m1_3, ie_m1_4, ie_m1_5, ie_0_m1, ie_0_1, ie_0_2, ie_0_3, ie_0_4, ie_0_5, ie_1_m1, ie_1_0, ie_1_2, ie_1_3, ie_1_4, ie_1_5, ie_2_m1, ie_2_0, ie_2_1, ie_2_3, ie_2_4, ie_2_5, ie_3_m1, ie_3_0, ie_3_1, ie_3_2, ie_3_4, ie_3_5, ie_4_m1, ie_4_0, ie_4_1, ie_4_2, ie_4_3, ie_4_5, ie_5_m1, ie_5_0, ie_5_1, ie_5_2, ie_5_3, ie_5_4]
theorem sz_16 : szs 127 (sk_35 sh) = szs 92 sh + 25052 := by
  have z0 := z16_0 (sh := sh)
  have z1 := z16_1 (sh := sh)
  have z2 := z16_2 (sh := sh)
  have z3 := z16_3 (sh := sh)
  have z4 := z16_4 (sh := sh)
  have z5 := z16_5 (sh := sh)
  have z6 := z16_6 (sh := sh)
  have z7 := z16_7 (sh := sh)
  have z8 := z16_8 (sh := sh)
  have z9 := z16_9 (sh := sh)
  have z10 := z16_10 (sh := sh)
  have z11 := z16_11 (sh := sh)
  have z12 := z16_12 (sh := sh)
  have z13 := z16_13 (sh := sh)
  have z14 := z16_14 (sh := sh)
  have z15 := z16_15 (sh := sh)
  have z16 := z16_16 (sh := sh)
  have z17 := z16_17 (sh := sh)
  have z18 := z16_18 (sh := sh)
  have z19 := z16_19 (sh := sh)
  have z20 := z16_20 (sh := sh)
  have z21 := z16_21 (sh := sh)
  have z22 := z16_22 (sh := sh)
  have z23 := z16_23 (sh := sh)
  have z24 := z16_24 (sh := sh)
  have z25 := z16_25 (sh := sh)
  have z26 := z16_26 (sh := sh)
  have z27 := z16_27 (sh := sh)
  have z28 := z16_28 (sh := sh)
  have z29 := z16_29 (sh := sh)
  have z30 := z16_30 (sh := sh)
  have z31 := z16_31 (sh := sh)
  have z32 := z16_32 (sh := sh)
  have z33 := z16_33 (sh := sh)
  have z34 := z16_34 (sh := sh)
  have e : szs 92 (sk_0 sh) = szs 92 sh := rfl
  omega
theorem mo_16 (h : sh 91 = (8, 44)) : moK 127 (sk_35 sh) := ⟨Nat.le_refl _, h, rfl, rfl, rfl, rfl, rfl, rfl, rfl, rfl, rfl, rfl, rfl, rfl, rfl, rfl, rfl, rfl, rfl, rfl, rfl, rfl, rfl, rfl, rfl, rfl, rfl, rfl, rfl, rfl, rfl, rfl, rfl, rfl, rfl, rfl, rfl⟩
theorem my_16 : moY (yk_35 y) := by
  unfold moY
  exact ⟨rfl, rfl, rfl, rfl, rfl, rfl, rfl, rfl, rfl, rfl, rfl, rfl, rfl, rfl, rfl, rfl, rfl, rfl, rfl, rfl, rfl, rfl, rfl, rfl, rfl, rfl, rfl, rfl, rfl, rfl, rfl, rfl, rfl, rfl, rfl⟩
theorem sk_lt {a : Nat} (h : a < 92) : sk_35 sh a = sh a := by
  unfold sk_35 sk_34 sk_33 sk_32 sk_31 sk_30 sk_29 sk_28 sk_27 sk_26 sk_25 sk_24 sk_23 sk_22 sk_21 sk_20 sk_19 sk_18 sk_17 sk_16 sk_15 sk_14 sk_13 sk_12 sk_11 sk_10 sk_9 sk_8 sk_7 sk_6 sk_5 sk_4 sk_3 sk_2 sk_1 sk_0
  rw [uS_lt (show a < 126 by omega), uS_lt (show a < 125 by omega), uS_lt (show a < 124 by omega), uS_lt (show a < 123 by omega), uS_lt (show a < 122 by omega), uS_lt (show a < 121 by omega), uS_lt (show a < 120 by omega), uS_lt (show a < 119 by omega), uS_lt (show a < 118 by omega), uS_lt (show a < 117 by omega), uS_lt (show a < 116 by omega), uS_lt (show a < 115 by omega), uS_lt (show a < 114 by omega), uS_lt (show a < 113 by omega), uS_lt (show a < 112 by omega), uS_lt (show a < 111 by omega), uS_lt (show a < 110 by omega), uS_lt (show a < 109 by omega), uS_lt (show a < 108 by omega), uS_lt (show a < 107 by omega), uS_lt (show a < 106 by omega), uS_lt (show a < 105 by omega), uS_lt (show a < 104 by omega), uS_lt (show a < 103 by omega), uS_lt (show a < 102 by omega), uS_lt (show a < 101 by omega), uS_lt (show a < 100 by omega), uS_lt (show a < 99 by omega), uS_lt (show a < 98 by omega), uS_lt (show a < 97 by omega), uS_lt (show a < 96 by omega), uS_lt (show a < 95 by omega), uS_lt (show a < 94 by omega), uS_lt (show a < 93 by omega), uS_lt (show a < 92 by omega)]
theorem xk_lt {a k : Nat} (h : a < 92) : xk_35 x a k = x a k := by
  unfold xk_35 xk_34 xk_33 xk_32 xk_31 xk_30 xk_29 xk_28 xk_27 xk_26 xk_25 xk_24 xk_23 xk_22 xk_21 xk_20 xk_19 xk_18 xk_17 xk_16 xk_15 xk_14 xk_13 xk_12 xk_11 xk_10 xk_9 xk_8 xk_7 xk_6 xk_5 xk_4 xk_3 xk_2 xk_1 xk_0
  rw [uz_lt (show a < 126 by omega), uz_lt (show a < 125 by omega), uz_lt (show a < 124 by omega), uz_lt (show a < 123 by omega), uz_lt (show a < 122 by omega), uz_lt (show a < 121 by omega), uz_lt (show a < 120 by omega), uz_lt (show a < 119 by omega), uz_lt (show a < 118 by omega), uz_lt (show a < 117 by omega), uz_lt (show a < 116 by omega), uz_lt (show a < 115 by omega), uz_lt (show a < 114 by omega), uz_lt (show a < 113 by omega), uz_lt (show a < 112 by omega), uz_lt (show a < 111 by omega), uz_lt (show a < 110 by omega), uz_lt (show a < 109 by omega), uz_lt (show a < 108 by omega), uz_lt (show a < 107 by omega), uz_lt (show a < 106 by omega), uz_lt (show a < 105 by omega), uz_lt (show a < 104 by omega), uz_lt (show a < 103 by omega), uz_lt (show a < 102 by omega), uz_lt (show a < 101 by omega), uz_lt (show a < 100 by omega), uz_lt (show a < 99 by omega), uz_lt (show a < 98 by omega), uz_lt (show a < 97 by omega), uz_lt (show a < 96 by omega), uz_lt (show a < 95 by omega), uz_lt (show a < 94 by omega), uz_lt (show a < 93 by omega), uz_lt (show a < 92 by omega)]
theorem yk_lt {a k : Nat} (h : a < 91) : yk_35 y a k = y a k := by
  unfold yk_35 yk_34 yk_33 yk_32 yk_31 yk_30 yk_29 yk_28 yk_27 yk_26 yk_25 yk_24 yk_23 yk_22 yk_21 yk_20 yk_19 yk_18 yk_17 yk_16 yk_15 yk_14 yk_13 yk_12 yk_11 yk_10 yk_9 yk_8 yk_7 yk_6 yk_5 yk_4 yk_3 yk_2 yk_1 yk_0
  rw [u2_a (show a ≠ 91 by omega), uz_lt (show a < 126 by omega), u2_a (show a ≠ 91 by omega), uz_lt (show a < 125 by omega), u2_a (show a ≠ 91 by omega), uz_lt (show a < 124 by omega), u2_a (show a ≠ 91 by omega), uz_lt (show a < 123 by omega), u2_a (show a ≠ 91 by omega), uz_lt (show a < 122 by omega), u2_a (show a ≠ 91 by omega), uz_lt (show a < 121 by omega), u2_a (show a ≠ 91 by omega), uz_lt (show a < 120 by omega), u2_a (show a ≠ 91 by omega), uz_lt (show a < 119 by omega), u2_a (show a ≠ 91 by omega), uz_lt (show a < 118 by omega), u2_a (show a ≠ 91 by omega), uz_lt (show a < 117 by omega), u2_a (show a ≠ 91 by omega), uz_lt (show a < 116 by omega), u2_a (show a ≠ 91 by omega), uz_lt (show a < 115 by omega), u2_a (show a ≠ 91 by omega), uz_lt (show a < 114 by omega), u2_a (show a ≠ 91 by omega), uz_lt (show a < 113 by omega), u2_a (show a ≠ 91 by omega), uz_lt (show a < 112 by omega), u2_a (show a ≠ 91 by omega), uz_lt (show a < 111 by omega), u2_a (show a ≠ 91 by omega), uz_lt (show a < 110 by omega), u2_a (show a ≠ 91 by omega), uz_lt (show a < 109 by omega), u2_a (show a ≠ 91 by omega), uz_lt (show a < 108 by omega), u2_a (show a ≠ 91 by omega), uz_lt (show a < 107 by omega), u2_a (show a ≠ 91 by omega), uz_lt (show a < 106 by omega), u2_a (show a ≠ 91 by omega), uz_lt (show a < 105 by omega), u2_a (show a ≠ 91 by omega), uz_lt (show a < 104 by omega), u2_a (show a ≠ 91 by omega), uz_lt (show a < 103 by omega), u2_a (show a ≠ 91 by omega), uz_lt (show a < 102 by omega), u2_a (show a ≠ 91 by omega), uz_lt (show a < 101 by omega), u2_a (show a ≠ 91 by omega), uz_lt (show a < 100 by omega), u2_a (show a ≠ 91 by omega), uz_lt (show a < 99 by omega), u2_a (show a ≠ 91 by omega), uz_lt (show a < 98 by omega), u2_a (show a ≠ 91 by omega), uz_lt (show a < 97 by omega), u2_a (show a ≠ 91 by omega), uz_lt (show a < 96 by omega), u2_a (show a ≠ 91 by omega), uz_lt (show a < 95 by omega), u2_a (show a ≠ 91 by omega), uz_lt (show a < 94 by omega), u2_a (show a ≠ 91 by omega), uz_lt (show a < 93 by omega), u2_a (show a ≠ 91 by omega), uz_lt (show a < 92 by omega)]
theorem xz_92 {k : Nat} : xk_35 x 92 k = 0 := rfl
theorem xz_93 {k : Nat} : xk_35 x 93 k = 0 := rfl
theorem xz_94 {k : Nat} : xk_35 x 94 k = 0 := rfl
theorem xz_95 {k : Nat} : xk_35 x 95 k = 0 := rfl
theorem xz_96 {k : Nat} : xk_35 x 96 k = 0 := rfl
theorem xz_97 {k : Nat} : xk_35 x 97 k = 0 := rfl
theorem xz_98 {k : Nat} : xk_35 x 98 k = 0 := rfl
theorem xz_99 {k : Nat} : xk_35 x 99 k = 0 := rfl
theorem xz_100 {k : Nat} : xk_35 x 100 k = 0 := rfl
theorem xz_101 {k : Nat} : xk_35 x 101 k = 0 := rfl
theorem xz_102 {k : Nat} : xk_35 x 102 k = 0 := rfl
theorem xz_103 {k : Nat} : xk_35 x 103 k = 0 := rfl
theorem xz_104 {k : Nat} : xk_35 x 104 k = 0 := rfl
theorem xz_105 {k : Nat} : xk_35 x 105 k = 0 := rfl
theorem xz_106 {k : Nat} : xk_35 x 106 k = 0 := rfl
theorem xz_107 {k : Nat} : xk_35 x 107 k = 0 := rfl
theorem xz_108 {k : Nat} : xk_35 x 108 k = 0 := rfl
theorem xz_109 {k : Nat} : xk_35 x 109 k = 0 := rfl
theorem xz_110 {k : Nat} : xk_35 x 110 k = 0 := rfl
theorem xz_111 {k : Nat} : xk_35 x 111 k = 0 := rfl
theorem xz_112 {k : Nat} : xk_35 x 112 k = 0 := rfl
theorem xz_113 {k : Nat} : xk_35 x 113 k = 0 := rfl
theorem xz_114 {k : Nat} : xk_35 x 114 k = 0 := rfl
theorem xz_115 {k : Nat} : xk_35 x 115 k = 0 := rfl
theorem xz_116 {k : Nat} : xk_35 x 116 k = 0 := rfl
theorem xz_117 {k : Nat} : xk_35 x 117 k = 0 := rfl
theorem xz_118 {k : Nat} : xk_35 x 118 k = 0 := rfl
theorem xz_119 {k : Nat} : xk_35 x 119 k = 0 := rfl
theorem xz_120 {k : Nat} : xk_35 x 120 k = 0 := rfl
theorem xz_121 {k : Nat} : xk_35 x 121 k = 0 := rfl
theorem xz_122 {k : Nat} : xk_35 x 122 k = 0 := rfl
theorem xz_123 {k : Nat} : xk_35 x 123 k = 0 := rfl
theorem xz_124 {k : Nat} : xk_35 x 124 k = 0 := rfl
theorem xz_125 {k : Nat} : xk_35 x 125 k = 0 := rfl
theorem xz_126 {k : Nat} : xk_35 x 126 k = 0 := rfl
end K16
