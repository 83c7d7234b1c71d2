/-! THE REFERENCE: its object at 91, its arrays at 92 to 126 (laid by wip/gen/model.py) -/
def moK (n : Nat) (sh : Nat → Nat × Nat) : Prop := 127 ≤ n ∧ sh 91 = (8, 44) ∧ sh 92 = (100, 12) ∧ sh 93 = (100, 12) ∧ sh 94 = (100, 12) ∧ sh 95 = (100, 72) ∧ sh 96 = (200, 12) ∧ sh 97 = (200, 12) ∧ sh 98 = (100, 20) ∧ sh 99 = (100, 20) ∧ sh 100 = (100, 120) ∧ sh 101 = (100, 20) ∧ sh 102 = (100, 20) ∧ sh 103 = (100, 20) ∧ sh 104 = (100, 20) ∧ sh 105 = (100, 12) ∧ sh 106 = (100, 80) ∧ sh 107 = (100, 80) ∧ sh 108 = (100, 12) ∧ sh 109 = (100, 12) ∧ sh 110 = (100, 12) ∧ sh 111 = (100, 12) ∧ sh 112 = (100, 12) ∧ sh 113 = (100, 12) ∧ sh 114 = (100, 12) ∧ sh 115 = (100, 12) ∧ sh 116 = (100, 8000) ∧ sh 117 = (100, 8000) ∧ sh 118 = (100, 8000) ∧ sh 119 = (100, 40) ∧ sh 120 = (100, 40) ∧ sh 121 = (100, 40) ∧ sh 122 = (100, 40) ∧ sh 123 = (100, 40) ∧ sh 124 = (100, 40) ∧ sh 125 = (200, 160) ∧ sh 126 = (200, 12)
def moY (y : Nat → Nat → Option Nat) : Prop := y 91 3 = some 92 ∧ y 91 4 = some 93 ∧ y 91 5 = some 94 ∧ y 91 6 = some 95 ∧ y 91 7 = some 96 ∧ y 91 8 = some 97 ∧ y 91 9 = some 98 ∧ y 91 10 = some 99 ∧ y 91 11 = some 100 ∧ y 91 12 = some 101 ∧ y 91 13 = some 102 ∧ y 91 14 = some 103 ∧ y 91 15 = some 104 ∧ y 91 16 = some 105 ∧ y 91 17 = some 106 ∧ y 91 18 = some 107 ∧ y 91 24 = some 108 ∧ y 91 25 = some 109 ∧ y 91 26 = some 110 ∧ y 91 27 = some 111 ∧ y 91 28 = some 112 ∧ y 91 29 = some 113 ∧ y 91 30 = some 114 ∧ y 91 31 = some 115 ∧ y 91 32 = some 116 ∧ y 91 33 = some 117 ∧ y 91 34 = some 118 ∧ y 91 35 = some 119 ∧ y 91 36 = some 120 ∧ y 91 37 = some 121 ∧ y 91 38 = some 122 ∧ y 91 39 = some 123 ∧ y 91 40 = some 124 ∧ y 91 41 = some 125 ∧ y 91 42 = some 126
section MO
variable {n : Nat} {sh : Nat → Nat × Nat} {x : Nat → Nat → Int32} {y : Nat → Nat → Option Nat}
theorem mk_91 (H : moK n sh) {k : Nat} (hk : k < 44) : okk n sh 91 8 k := ⟨Nat.lt_of_lt_of_le (by decide) H.1, by decide, by rw [H.2.1], by rw [H.2.1]; exact hk⟩
theorem mt_91 (H : moK n sh) : mj_tg (bl n sh x y) 91 8 = true := bl_tg n sh x y (mk_91 H (k := 0) (by decide))
theorem mk_92 (H : moK n sh) {k : Nat} (hk : k < 12) : okk n sh 92 100 k := by
  have e := H.2.2.1
  exact ⟨Nat.lt_of_lt_of_le (by decide) H.1, by decide, by rw [e], by rw [e]; exact hk⟩
theorem gr_3 (H : moK n sh) (Y : moY y) : mj_gf (bl n sh x y) 91 8 3 = some (.inr (some 92)) := by
  rw [bl_gfr n sh x y (mk_91 H (by decide)) (by decide)]
  exact congrArg (fun z => some (Sum.inr z)) (Y.1)
theorem ra_3 (H : moK n sh) {i : Nat} (hi : i < 12) (F : Int32 → Option mj_R) : mj_aI (bl n sh x y) 92 100 (nI i) F = F (x 92 i) := bl_aI n sh x y F (by omega) (mk_92 H hi) rfl
theorem pa_3 (H : moK n sh) {i : Nat} (hi : i < 12) (v : Int32) (F : mj_H → Option mj_R) : mj_aP (bl n sh x y) 92 100 (nI i) (.inl v) F = F (bl n sh (u2 x 92 i v) y) := bl_aPi n sh x y v F (by omega) (mk_92 H hi) rfl
theorem mk_93 (H : moK n sh) {k : Nat} (hk : k < 12) : okk n sh 93 100 k := by
  have e := H.2.2.2.1
  exact ⟨Nat.lt_of_lt_of_le (by decide) H.1, by decide, by rw [e], by rw [e]; exact hk⟩
theorem gr_4 (H : moK n sh) (Y : moY y) : mj_gf (bl n sh x y) 91 8 4 = some (.inr (some 93)) := by
  rw [bl_gfr n sh x y (mk_91 H (by decide)) (by decide)]
  exact congrArg (fun z => some (Sum.inr z)) (Y.2.1)
theorem ra_4 (H : moK n sh) {i : Nat} (hi : i < 12) (F : Int32 → Option mj_R) : mj_aI (bl n sh x y) 93 100 (nI i) F = F (x 93 i) := bl_aI n sh x y F (by omega) (mk_93 H hi) rfl
theorem pa_4 (H : moK n sh) {i : Nat} (hi : i < 12) (v : Int32) (F : mj_H → Option mj_R) : mj_aP (bl n sh x y) 93 100 (nI i) (.inl v) F = F (bl n sh (u2 x 93 i v) y) := bl_aPi n sh x y v F (by omega) (mk_93 H hi) rfl
theorem mk_94 (H : moK n sh) {k : Nat} (hk : k < 12) : okk n sh 94 100 k := by
  have e := H.2.2.2.2.1
  exact ⟨Nat.lt_of_lt_of_le (by decide) H.1, by decide, by rw [e], by rw [e]; exact hk⟩
theorem gr_5 (H : moK n sh) (Y : moY y) : mj_gf (bl n sh x y) 91 8 5 = some (.inr (some 94)) := by
  rw [bl_gfr n sh x y (mk_91 H (by decide)) (by decide)]
  exact congrArg (fun z => some (Sum.inr z)) (Y.2.2.1)
theorem ra_5 (H : moK n sh) {i : Nat} (hi : i < 12) (F : Int32 → Option mj_R) : mj_aI (bl n sh x y) 94 100 (nI i) F = F (x 94 i) := bl_aI n sh x y F (by omega) (mk_94 H hi) rfl
theorem pa_5 (H : moK n sh) {i : Nat} (hi : i < 12) (v : Int32) (F : mj_H → Option mj_R) : mj_aP (bl n sh x y) 94 100 (nI i) (.inl v) F = F (bl n sh (u2 x 94 i v) y) := bl_aPi n sh x y v F (by omega) (mk_94 H hi) rfl
theorem mk_95 (H : moK n sh) {k : Nat} (hk : k < 72) : okk n sh 95 100 k := by
  have e := H.2.2.2.2.2.1
  exact ⟨Nat.lt_of_lt_of_le (by decide) H.1, by decide, by rw [e], by rw [e]; exact hk⟩
theorem gr_6 (H : moK n sh) (Y : moY y) : mj_gf (bl n sh x y) 91 8 6 = some (.inr (some 95)) := by
  rw [bl_gfr n sh x y (mk_91 H (by decide)) (by decide)]
  exact congrArg (fun z => some (Sum.inr z)) (Y.2.2.2.1)
theorem ra_6 (H : moK n sh) {i : Nat} (hi : i < 72) (F : Int32 → Option mj_R) : mj_aI (bl n sh x y) 95 100 (nI i) F = F (x 95 i) := bl_aI n sh x y F (by omega) (mk_95 H hi) rfl
theorem pa_6 (H : moK n sh) {i : Nat} (hi : i < 72) (v : Int32) (F : mj_H → Option mj_R) : mj_aP (bl n sh x y) 95 100 (nI i) (.inl v) F = F (bl n sh (u2 x 95 i v) y) := bl_aPi n sh x y v F (by omega) (mk_95 H hi) rfl
theorem mk_96 (H : moK n sh) {k : Nat} (hk : k < 12) : okk n sh 96 200 k := by
  have e := H.2.2.2.2.2.2.1
  exact ⟨Nat.lt_of_lt_of_le (by decide) H.1, by decide, by rw [e], by rw [e]; exact hk⟩
theorem gr_7 (H : moK n sh) (Y : moY y) : mj_gf (bl n sh x y) 91 8 7 = some (.inr (some 96)) := by
  rw [bl_gfr n sh x y (mk_91 H (by decide)) (by decide)]
  exact congrArg (fun z => some (Sum.inr z)) (Y.2.2.2.2.1)
theorem ra_7 (H : moK n sh) {i : Nat} (hi : i < 12) (F : Int32 → Option mj_R) : mj_aI (bl n sh x y) 96 200 (nI i) F = F (x 96 i) := bl_aI n sh x y F (by omega) (mk_96 H hi) rfl
theorem pa_7 (H : moK n sh) {i : Nat} (hi : i < 12) (v : Int32) (F : mj_H → Option mj_R) : mj_aP (bl n sh x y) 96 200 (nI i) (.inl v) F = F (bl n sh (u2 x 96 i v) y) := bl_aPi n sh x y v F (by omega) (mk_96 H hi) rfl
theorem mk_97 (H : moK n sh) {k : Nat} (hk : k < 12) : okk n sh 97 200 k := by
  have e := H.2.2.2.2.2.2.2.1
  exact ⟨Nat.lt_of_lt_of_le (by decide) H.1, by decide, by rw [e], by rw [e]; exact hk⟩
theorem gr_8 (H : moK n sh) (Y : moY y) : mj_gf (bl n sh x y) 91 8 8 = some (.inr (some 97)) := by
  rw [bl_gfr n sh x y (mk_91 H (by decide)) (by decide)]
  exact congrArg (fun z => some (Sum.inr z)) (Y.2.2.2.2.2.1)
theorem ra_8 (H : moK n sh) {i : Nat} (hi : i < 12) (F : Int32 → Option mj_R) : mj_aI (bl n sh x y) 97 200 (nI i) F = F (x 97 i) := bl_aI n sh x y F (by omega) (mk_97 H hi) rfl
theorem pa_8 (H : moK n sh) {i : Nat} (hi : i < 12) (v : Int32) (F : mj_H → Option mj_R) : mj_aP (bl n sh x y) 97 200 (nI i) (.inl v) F = F (bl n sh (u2 x 97 i v) y) := bl_aPi n sh x y v F (by omega) (mk_97 H hi) rfl
theorem mk_98 (H : moK n sh) {k : Nat} (hk : k < 20) : okk n sh 98 100 k := by
  have e := H.2.2.2.2.2.2.2.2.1
  exact ⟨Nat.lt_of_lt_of_le (by decide) H.1, by decide, by rw [e], by rw [e]; exact hk⟩
theorem gr_9 (H : moK n sh) (Y : moY y) : mj_gf (bl n sh x y) 91 8 9 = some (.inr (some 98)) := by
  rw [bl_gfr n sh x y (mk_91 H (by decide)) (by decide)]
  exact congrArg (fun z => some (Sum.inr z)) (Y.2.2.2.2.2.2.1)
theorem ra_9 (H : moK n sh) {i : Nat} (hi : i < 20) (F : Int32 → Option mj_R) : mj_aI (bl n sh x y) 98 100 (nI i) F = F (x 98 i) := bl_aI n sh x y F (by omega) (mk_98 H hi) rfl
theorem pa_9 (H : moK n sh) {i : Nat} (hi : i < 20) (v : Int32) (F : mj_H → Option mj_R) : mj_aP (bl n sh x y) 98 100 (nI i) (.inl v) F = F (bl n sh (u2 x 98 i v) y) := bl_aPi n sh x y v F (by omega) (mk_98 H hi) rfl
theorem mk_99 (H : moK n sh) {k : Nat} (hk : k < 20) : okk n sh 99 100 k := by
  have e := H.2.2.2.2.2.2.2.2.2.1
  exact ⟨Nat.lt_of_lt_of_le (by decide) H.1, by decide, by rw [e], by rw [e]; exact hk⟩
theorem gr_10 (H : moK n sh) (Y : moY y) : mj_gf (bl n sh x y) 91 8 10 = some (.inr (some 99)) := by
  rw [bl_gfr n sh x y (mk_91 H (by decide)) (by decide)]
  exact congrArg (fun z => some (Sum.inr z)) (Y.2.2.2.2.2.2.2.1)
theorem ra_10 (H : moK n sh) {i : Nat} (hi : i < 20) (F : Int32 → Option mj_R) : mj_aI (bl n sh x y) 99 100 (nI i) F = F (x 99 i) := bl_aI n sh x y F (by omega) (mk_99 H hi) rfl
theorem pa_10 (H : moK n sh) {i : Nat} (hi : i < 20) (v : Int32) (F : mj_H → Option mj_R) : mj_aP (bl n sh x y) 99 100 (nI i) (.inl v) F = F (bl n sh (u2 x 99 i v) y) := bl_aPi n sh x y v F (by omega) (mk_99 H hi) rfl
theorem mk_100 (H : moK n sh) {k : Nat} (hk : k < 120) : okk n sh 100 100 k := by
  have e := H.2.2.2.2.2.2.2.2.2.2.1
  exact ⟨Nat.lt_of_lt_of_le (by decide) H.1, by decide, by rw [e], by rw [e]; exact hk⟩
theorem gr_11 (H : moK n sh) (Y : moY y) : mj_gf (bl n sh x y) 91 8 11 = some (.inr (some 100)) := by
  rw [bl_gfr n sh x y (mk_91 H (by decide)) (by decide)]
  exact congrArg (fun z => some (Sum.inr z)) (Y.2.2.2.2.2.2.2.2.1)
theorem ra_11 (H : moK n sh) {i : Nat} (hi : i < 120) (F : Int32 → Option mj_R) : mj_aI (bl n sh x y) 100 100 (nI i) F = F (x 100 i) := bl_aI n sh x y F (by omega) (mk_100 H hi) rfl
theorem pa_11 (H : moK n sh) {i : Nat} (hi : i < 120) (v : Int32) (F : mj_H → Option mj_R) : mj_aP (bl n sh x y) 100 100 (nI i) (.inl v) F = F (bl n sh (u2 x 100 i v) y) := bl_aPi n sh x y v F (by omega) (mk_100 H hi) rfl
theorem mk_101 (H : moK n sh) {k : Nat} (hk : k < 20) : okk n sh 101 100 k := by
  have e := H.2.2.2.2.2.2.2.2.2.2.2.1
  exact ⟨Nat.lt_of_lt_of_le (by decide) H.1, by decide, by rw [e], by rw [e]; exact hk⟩
theorem gr_12 (H : moK n sh) (Y : moY y) : mj_gf (bl n sh x y) 91 8 12 = some (.inr (some 101)) := by
  rw [bl_gfr n sh x y (mk_91 H (by decide)) (by decide)]
  exact congrArg (fun z => some (Sum.inr z)) (Y.2.2.2.2.2.2.2.2.2.1)
theorem ra_12 (H : moK n sh) {i : Nat} (hi : i < 20) (F : Int32 → Option mj_R) : mj_aI (bl n sh x y) 101 100 (nI i) F = F (x 101 i) := bl_aI n sh x y F (by omega) (mk_101 H hi) rfl
theorem pa_12 (H : moK n sh) {i : Nat} (hi : i < 20) (v : Int32) (F : mj_H → Option mj_R) : mj_aP (bl n sh x y) 101 100 (nI i) (.inl v) F = F (bl n sh (u2 x 101 i v) y) := bl_aPi n sh x y v F (by omega) (mk_101 H hi) rfl
theorem mk_102 (H : moK n sh) {k : Nat} (hk : k < 20) : okk n sh 102 100 k := by
  have e := H.2.2.2.2.2.2.2.2.2.2.2.2.1
  exact ⟨Nat.lt_of_lt_of_le (by decide) H.1, by decide, by rw [e], by rw [e]; exact hk⟩
theorem gr_13 (H : moK n sh) (Y : moY y) : mj_gf (bl n sh x y) 91 8 13 = some (.inr (some 102)) := by
  rw [bl_gfr n sh x y (mk_91 H (by decide)) (by decide)]
  exact congrArg (fun z => some (Sum.inr z)) (Y.2.2.2.2.2.2.2.2.2.2.1)
theorem ra_13 (H : moK n sh) {i : Nat} (hi : i < 20) (F : Int32 → Option mj_R) : mj_aI (bl n sh x y) 102 100 (nI i) F = F (x 102 i) := bl_aI n sh x y F (by omega) (mk_102 H hi) rfl
theorem pa_13 (H : moK n sh) {i : Nat} (hi : i < 20) (v : Int32) (F : mj_H → Option mj_R) : mj_aP (bl n sh x y) 102 100 (nI i) (.inl v) F = F (bl n sh (u2 x 102 i v) y) := bl_aPi n sh x y v F (by omega) (mk_102 H hi) rfl
theorem mk_103 (H : moK n sh) {k : Nat} (hk : k < 20) : okk n sh 103 100 k := by
  have e := H.2.2.2.2.2.2.2.2.2.2.2.2.2.1
  exact ⟨Nat.lt_of_lt_of_le (by decide) H.1, by decide, by rw [e], by rw [e]; exact hk⟩
theorem gr_14 (H : moK n sh) (Y : moY y) : mj_gf (bl n sh x y) 91 8 14 = some (.inr (some 103)) := by
  rw [bl_gfr n sh x y (mk_91 H (by decide)) (by decide)]
  exact congrArg (fun z => some (Sum.inr z)) (Y.2.2.2.2.2.2.2.2.2.2.2.1)
theorem ra_14 (H : moK n sh) {i : Nat} (hi : i < 20) (F : Int32 → Option mj_R) : mj_aI (bl n sh x y) 103 100 (nI i) F = F (x 103 i) := bl_aI n sh x y F (by omega) (mk_103 H hi) rfl
theorem pa_14 (H : moK n sh) {i : Nat} (hi : i < 20) (v : Int32) (F : mj_H → Option mj_R) : mj_aP (bl n sh x y) 103 100 (nI i) (.inl v) F = F (bl n sh (u2 x 103 i v) y) := bl_aPi n sh x y v F (by omega) (mk_103 H hi) rfl
theorem mk_104 (H : moK n sh) {k : Nat} (hk : k < 20) : okk n sh 104 100 k := by
  have e := H.2.2.2.2.2.2.2.2.2.2.2.2.2.2.1
  exact ⟨Nat.lt_of_lt_of_le (by decide) H.1, by decide, by rw [e], by rw [e]; exact hk⟩
theorem gr_15 (H : moK n sh) (Y : moY y) : mj_gf (bl n sh x y) 91 8 15 = some (.inr (some 104)) := by
  rw [bl_gfr n sh x y (mk_91 H (by decide)) (by decide)]
  exact congrArg (fun z => some (Sum.inr z)) (Y.2.2.2.2.2.2.2.2.2.2.2.2.1)
theorem ra_15 (H : moK n sh) {i : Nat} (hi : i < 20) (F : Int32 → Option mj_R) : mj_aI (bl n sh x y) 104 100 (nI i) F = F (x 104 i) := bl_aI n sh x y F (by omega) (mk_104 H hi) rfl
theorem pa_15 (H : moK n sh) {i : Nat} (hi : i < 20) (v : Int32) (F : mj_H → Option mj_R) : mj_aP (bl n sh x y) 104 100 (nI i) (.inl v) F = F (bl n sh (u2 x 104 i v) y) := bl_aPi n sh x y v F (by omega) (mk_104 H hi) rfl
theorem mk_105 (H : moK n sh) {k : Nat} (hk : k < 12) : okk n sh 105 100 k := by
  have e := H.2.2.2.2.2.2.2.2.2.2.2.2.2.2.2.1
  exact ⟨Nat.lt_of_lt_of_le (by decide) H.1, by decide, by rw [e], by rw [e]; exact hk⟩
theorem gr_16 (H : moK n sh) (Y : moY y) : mj_gf (bl n sh x y) 91 8 16 = some (.inr (some 105)) := by
  rw [bl_gfr n sh x y (mk_91 H (by decide)) (by decide)]
  exact congrArg (fun z => some (Sum.inr z)) (Y.2.2.2.2.2.2.2.2.2.2.2.2.2.1)
theorem ra_16 (H : moK n sh) {i : Nat} (hi : i < 12) (F : Int32 → Option mj_R) : mj_aI (bl n sh x y) 105 100 (nI i) F = F (x 105 i) := bl_aI n sh x y F (by omega) (mk_105 H hi) rfl
theorem pa_16 (H : moK n sh) {i : Nat} (hi : i < 12) (v : Int32) (F : mj_H → Option mj_R) : mj_aP (bl n sh x y) 105 100 (nI i) (.inl v) F = F (bl n sh (u2 x 105 i v) y) := bl_aPi n sh x y v F (by omega) (mk_105 H hi) rfl
theorem mk_106 (H : moK n sh) {k : Nat} (hk : k < 80) : okk n sh 106 100 k := by
  have e := H.2.2.2.2.2.2.2.2.2.2.2.2.2.2.2.2.1
  exact ⟨Nat.lt_of_lt_of_le (by decide) H.1, by decide, by rw [e], by rw [e]; exact hk⟩
theorem gr_17 (H : moK n sh) (Y : moY y) : mj_gf (bl n sh x y) 91 8 17 = some (.inr (some 106)) := by
  rw [bl_gfr n sh x y (mk_91 H (by decide)) (by decide)]
  exact congrArg (fun z => some (Sum.inr z)) (Y.2.2.2.2.2.2.2.2.2.2.2.2.2.2.1)
theorem ra_17 (H : moK n sh) {i : Nat} (hi : i < 80) (F : Int32 → Option mj_R) : mj_aI (bl n sh x y) 106 100 (nI i) F = F (x 106 i) := bl_aI n sh x y F (by omega) (mk_106 H hi) rfl
theorem pa_17 (H : moK n sh) {i : Nat} (hi : i < 80) (v : Int32) (F : mj_H → Option mj_R) : mj_aP (bl n sh x y) 106 100 (nI i) (.inl v) F = F (bl n sh (u2 x 106 i v) y) := bl_aPi n sh x y v F (by omega) (mk_106 H hi) rfl
theorem mk_107 (H : moK n sh) {k : Nat} (hk : k < 80) : okk n sh 107 100 k := by
  have e := H.2.2.2.2.2.2.2.2.2.2.2.2.2.2.2.2.2.1
  exact ⟨Nat.lt_of_lt_of_le (by decide) H.1, by decide, by rw [e], by rw [e]; exact hk⟩
theorem gr_18 (H : moK n sh) (Y : moY y) : mj_gf (bl n sh x y) 91 8 18 = some (.inr (some 107)) := by
  rw [bl_gfr n sh x y (mk_91 H (by decide)) (by decide)]
  exact congrArg (fun z => some (Sum.inr z)) (Y.2.2.2.2.2.2.2.2.2.2.2.2.2.2.2.1)
theorem ra_18 (H : moK n sh) {i : Nat} (hi : i < 80) (F : Int32 → Option mj_R) : mj_aI (bl n sh x y) 107 100 (nI i) F = F (x 107 i) := bl_aI n sh x y F (by omega) (mk_107 H hi) rfl
theorem pa_18 (H : moK n sh) {i : Nat} (hi : i < 80) (v : Int32) (F : mj_H → Option mj_R) : mj_aP (bl n sh x y) 107 100 (nI i) (.inl v) F = F (bl n sh (u2 x 107 i v) y) := bl_aPi n sh x y v F (by omega) (mk_107 H hi) rfl
theorem mk_108 (H : moK n sh) {k : Nat} (hk : k < 12) : okk n sh 108 100 k := by
  have e := H.2.2.2.2.2.2.2.2.2.2.2.2.2.2.2.2.2.2.1
  exact ⟨Nat.lt_of_lt_of_le (by decide) H.1, by decide, by rw [e], by rw [e]; exact hk⟩
theorem gr_24 (H : moK n sh) (Y : moY y) : mj_gf (bl n sh x y) 91 8 24 = some (.inr (some 108)) := by
  rw [bl_gfr n sh x y (mk_91 H (by decide)) (by decide)]
  exact congrArg (fun z => some (Sum.inr z)) (Y.2.2.2.2.2.2.2.2.2.2.2.2.2.2.2.2.1)
theorem ra_24 (H : moK n sh) {i : Nat} (hi : i < 12) (F : Int32 → Option mj_R) : mj_aI (bl n sh x y) 108 100 (nI i) F = F (x 108 i) := bl_aI n sh x y F (by omega) (mk_108 H hi) rfl
theorem pa_24 (H : moK n sh) {i : Nat} (hi : i < 12) (v : Int32) (F : mj_H → Option mj_R) : mj_aP (bl n sh x y) 108 100 (nI i) (.inl v) F = F (bl n sh (u2 x 108 i v) y) := bl_aPi n sh x y v F (by omega) (mk_108 H hi) rfl
theorem mk_109 (H : moK n sh) {k : Nat} (hk : k < 12) : okk n sh 109 100 k := by
  have e := H.2.2.2.2.2.2.2.2.2.2.2.2.2.2.2.2.2.2.2.1
  exact ⟨Nat.lt_of_lt_of_le (by decide) H.1, by decide, by rw [e], by rw [e]; exact hk⟩
theorem gr_25 (H : moK n sh) (Y : moY y) : mj_gf (bl n sh x y) 91 8 25 = some (.inr (some 109)) := by
  rw [bl_gfr n sh x y (mk_91 H (by decide)) (by decide)]
  exact congrArg (fun z => some (Sum.inr z)) (Y.2.2.2.2.2.2.2.2.2.2.2.2.2.2.2.2.2.1)
theorem ra_25 (H : moK n sh) {i : Nat} (hi : i < 12) (F : Int32 → Option mj_R) : mj_aI (bl n sh x y) 109 100 (nI i) F = F (x 109 i) := bl_aI n sh x y F (by omega) (mk_109 H hi) rfl
theorem pa_25 (H : moK n sh) {i : Nat} (hi : i < 12) (v : Int32) (F : mj_H → Option mj_R) : mj_aP (bl n sh x y) 109 100 (nI i) (.inl v) F = F (bl n sh (u2 x 109 i v) y) := bl_aPi n sh x y v F (by omega) (mk_109 H hi) rfl
theorem mk_110 (H : moK n sh) {k : Nat} (hk : k < 12) : okk n sh 110 100 k := by
  have e := H.2.2.2.2.2.2.2.2.2.2.2.2.2.2.2.2.2.2.2.2.1
  exact ⟨Nat.lt_of_lt_of_le (by decide) H.1, by decide, by rw [e], by rw [e]; exact hk⟩
theorem gr_26 (H : moK n sh) (Y : moY y) : mj_gf (bl n sh x y) 91 8 26 = some (.inr (some 110)) := by
  rw [bl_gfr n sh x y (mk_91 H (by decide)) (by decide)]
  exact congrArg (fun z => some (Sum.inr z)) (Y.2.2.2.2.2.2.2.2.2.2.2.2.2.2.2.2.2.2.1)
theorem ra_26 (H : moK n sh) {i : Nat} (hi : i < 12) (F : Int32 → Option mj_R) : mj_aI (bl n sh x y) 110 100 (nI i) F = F (x 110 i) := bl_aI n sh x y F (by omega) (mk_110 H hi) rfl
theorem pa_26 (H : moK n sh) {i : Nat} (hi : i < 12) (v : Int32) (F : mj_H → Option mj_R) : mj_aP (bl n sh x y) 110 100 (nI i) (.inl v) F = F (bl n sh (u2 x 110 i v) y) := bl_aPi n sh x y v F (by omega) (mk_110 H hi) rfl
theorem mk_111 (H : moK n sh) {k : Nat} (hk : k < 12) : okk n sh 111 100 k := by
  have e := H.2.2.2.2.2.2.2.2.2.2.2.2.2.2.2.2.2.2.2.2.2.1
  exact ⟨Nat.lt_of_lt_of_le (by decide) H.1, by decide, by rw [e], by rw [e]; exact hk⟩
theorem gr_27 (H : moK n sh) (Y : moY y) : mj_gf (bl n sh x y) 91 8 27 = some (.inr (some 111)) := by
  rw [bl_gfr n sh x y (mk_91 H (by decide)) (by decide)]
  exact congrArg (fun z => some (Sum.inr z)) (Y.2.2.2.2.2.2.2.2.2.2.2.2.2.2.2.2.2.2.2.1)
theorem ra_27 (H : moK n sh) {i : Nat} (hi : i < 12) (F : Int32 → Option mj_R) : mj_aI (bl n sh x y) 111 100 (nI i) F = F (x 111 i) := bl_aI n sh x y F (by omega) (mk_111 H hi) rfl
theorem pa_27 (H : moK n sh) {i : Nat} (hi : i < 12) (v : Int32) (F : mj_H → Option mj_R) : mj_aP (bl n sh x y) 111 100 (nI i) (.inl v) F = F (bl n sh (u2 x 111 i v) y) := bl_aPi n sh x y v F (by omega) (mk_111 H hi) rfl
theorem mk_112 (H : moK n sh) {k : Nat} (hk : k < 12) : okk n sh 112 100 k := by
  have e := H.2.2.2.2.2.2.2.2.2.2.2.2.2.2.2.2.2.2.2.2.2.2.1
  exact ⟨Nat.lt_of_lt_of_le (by decide) H.1, by decide, by rw [e], by rw [e]; exact hk⟩
theorem gr_28 (H : moK n sh) (Y : moY y) : mj_gf (bl n sh x y) 91 8 28 = some (.inr (some 112)) := by
  rw [bl_gfr n sh x y (mk_91 H (by decide)) (by decide)]
  exact congrArg (fun z => some (Sum.inr z)) (Y.2.2.2.2.2.2.2.2.2.2.2.2.2.2.2.2.2.2.2.2.1)
theorem ra_28 (H : moK n sh) {i : Nat} (hi : i < 12) (F : Int32 → Option mj_R) : mj_aI (bl n sh x y) 112 100 (nI i) F = F (x 112 i) := bl_aI n sh x y F (by omega) (mk_112 H hi) rfl
theorem pa_28 (H : moK n sh) {i : Nat} (hi : i < 12) (v : Int32) (F : mj_H → Option mj_R) : mj_aP (bl n sh x y) 112 100 (nI i) (.inl v) F = F (bl n sh (u2 x 112 i v) y) := bl_aPi n sh x y v F (by omega) (mk_112 H hi) rfl
theorem mk_113 (H : moK n sh) {k : Nat} (hk : k < 12) : okk n sh 113 100 k := by
  have e := H.2.2.2.2.2.2.2.2.2.2.2.2.2.2.2.2.2.2.2.2.2.2.2.1
  exact ⟨Nat.lt_of_lt_of_le (by decide) H.1, by decide, by rw [e], by rw [e]; exact hk⟩
theorem gr_29 (H : moK n sh) (Y : moY y) : mj_gf (bl n sh x y) 91 8 29 = some (.inr (some 113)) := by
  rw [bl_gfr n sh x y (mk_91 H (by decide)) (by decide)]
  exact congrArg (fun z => some (Sum.inr z)) (Y.2.2.2.2.2.2.2.2.2.2.2.2.2.2.2.2.2.2.2.2.2.1)
theorem ra_29 (H : moK n sh) {i : Nat} (hi : i < 12) (F : Int32 → Option mj_R) : mj_aI (bl n sh x y) 113 100 (nI i) F = F (x 113 i) := bl_aI n sh x y F (by omega) (mk_113 H hi) rfl
theorem pa_29 (H : moK n sh) {i : Nat} (hi : i < 12) (v : Int32) (F : mj_H → Option mj_R) : mj_aP (bl n sh x y) 113 100 (nI i) (.inl v) F = F (bl n sh (u2 x 113 i v) y) := bl_aPi n sh x y v F (by omega) (mk_113 H hi) rfl
theorem mk_114 (H : moK n sh) {k : Nat} (hk : k < 12) : okk n sh 114 100 k := by
  have e := H.2.2.2.2.2.2.2.2.2.2.2.2.2.2.2.2.2.2.2.2.2.2.2.2.1
  exact ⟨Nat.lt_of_lt_of_le (by decide) H.1, by decide, by rw [e], by rw [e]; exact hk⟩
theorem gr_30 (H : moK n sh) (Y : moY y) : mj_gf (bl n sh x y) 91 8 30 = some (.inr (some 114)) := by
  rw [bl_gfr n sh x y (mk_91 H (by decide)) (by decide)]
  exact congrArg (fun z => some (Sum.inr z)) (Y.2.2.2.2.2.2.2.2.2.2.2.2.2.2.2.2.2.2.2.2.2.2.1)
theorem ra_30 (H : moK n sh) {i : Nat} (hi : i < 12) (F : Int32 → Option mj_R) : mj_aI (bl n sh x y) 114 100 (nI i) F = F (x 114 i) := bl_aI n sh x y F (by omega) (mk_114 H hi) rfl
theorem pa_30 (H : moK n sh) {i : Nat} (hi : i < 12) (v : Int32) (F : mj_H → Option mj_R) : mj_aP (bl n sh x y) 114 100 (nI i) (.inl v) F = F (bl n sh (u2 x 114 i v) y) := bl_aPi n sh x y v F (by omega) (mk_114 H hi) rfl
theorem mk_115 (H : moK n sh) {k : Nat} (hk : k < 12) : okk n sh 115 100 k := by
  have e := H.2.2.2.2.2.2.2.2.2.2.2.2.2.2.2.2.2.2.2.2.2.2.2.2.2.1
  exact ⟨Nat.lt_of_lt_of_le (by decide) H.1, by decide, by rw [e], by rw [e]; exact hk⟩
theorem gr_31 (H : moK n sh) (Y : moY y) : mj_gf (bl n sh x y) 91 8 31 = some (.inr (some 115)) := by
  rw [bl_gfr n sh x y (mk_91 H (by decide)) (by decide)]
  exact congrArg (fun z => some (Sum.inr z)) (Y.2.2.2.2.2.2.2.2.2.2.2.2.2.2.2.2.2.2.2.2.2.2.2.1)
theorem ra_31 (H : moK n sh) {i : Nat} (hi : i < 12) (F : Int32 → Option mj_R) : mj_aI (bl n sh x y) 115 100 (nI i) F = F (x 115 i) := bl_aI n sh x y F (by omega) (mk_115 H hi) rfl
theorem pa_31 (H : moK n sh) {i : Nat} (hi : i < 12) (v : Int32) (F : mj_H → Option mj_R) : mj_aP (bl n sh x y) 115 100 (nI i) (.inl v) F = F (bl n sh (u2 x 115 i v) y) := bl_aPi n sh x y v F (by omega) (mk_115 H hi) rfl
theorem mk_116 (H : moK n sh) {k : Nat} (hk : k < 8000) : okk n sh 116 100 k := by
  have e := H.2.2.2.2.2.2.2.2.2.2.2.2.2.2.2.2.2.2.2.2.2.2.2.2.2.2.1
  exact ⟨Nat.lt_of_lt_of_le (by decide) H.1, by decide, by rw [e], by rw [e]; exact hk⟩
theorem gr_32 (H : moK n sh) (Y : moY y) : mj_gf (bl n sh x y) 91 8 32 = some (.inr (some 116)) := by
  rw [bl_gfr n sh x y (mk_91 H (by decide)) (by decide)]
  exact congrArg (fun z => some (Sum.inr z)) (Y.2.2.2.2.2.2.2.2.2.2.2.2.2.2.2.2.2.2.2.2.2.2.2.2.1)
theorem ra_32 (H : moK n sh) {i : Nat} (hi : i < 8000) (F : Int32 → Option mj_R) : mj_aI (bl n sh x y) 116 100 (nI i) F = F (x 116 i) := bl_aI n sh x y F (by omega) (mk_116 H hi) rfl
theorem pa_32 (H : moK n sh) {i : Nat} (hi : i < 8000) (v : Int32) (F : mj_H → Option mj_R) : mj_aP (bl n sh x y) 116 100 (nI i) (.inl v) F = F (bl n sh (u2 x 116 i v) y) := bl_aPi n sh x y v F (by omega) (mk_116 H hi) rfl
theorem mk_117 (H : moK n sh) {k : Nat} (hk : k < 8000) : okk n sh 117 100 k := by
  have e := H.2.2.2.2.2.2.2.2.2.2.2.2.2.2.2.2.2.2.2.2.2.2.2.2.2.2.2.1
  exact ⟨Nat.lt_of_lt_of_le (by decide) H.1, by decide, by rw [e], by rw [e]; exact hk⟩
theorem gr_33 (H : moK n sh) (Y : moY y) : mj_gf (bl n sh x y) 91 8 33 = some (.inr (some 117)) := by
  rw [bl_gfr n sh x y (mk_91 H (by decide)) (by decide)]
  exact congrArg (fun z => some (Sum.inr z)) (Y.2.2.2.2.2.2.2.2.2.2.2.2.2.2.2.2.2.2.2.2.2.2.2.2.2.1)
theorem ra_33 (H : moK n sh) {i : Nat} (hi : i < 8000) (F : Int32 → Option mj_R) : mj_aI (bl n sh x y) 117 100 (nI i) F = F (x 117 i) := bl_aI n sh x y F (by omega) (mk_117 H hi) rfl
theorem pa_33 (H : moK n sh) {i : Nat} (hi : i < 8000) (v : Int32) (F : mj_H → Option mj_R) : mj_aP (bl n sh x y) 117 100 (nI i) (.inl v) F = F (bl n sh (u2 x 117 i v) y) := bl_aPi n sh x y v F (by omega) (mk_117 H hi) rfl
theorem mk_118 (H : moK n sh) {k : Nat} (hk : k < 8000) : okk n sh 118 100 k := by
  have e := H.2.2.2.2.2.2.2.2.2.2.2.2.2.2.2.2.2.2.2.2.2.2.2.2.2.2.2.2.1
  exact ⟨Nat.lt_of_lt_of_le (by decide) H.1, by decide, by rw [e], by rw [e]; exact hk⟩
theorem gr_34 (H : moK n sh) (Y : moY y) : mj_gf (bl n sh x y) 91 8 34 = some (.inr (some 118)) := by
  rw [bl_gfr n sh x y (mk_91 H (by decide)) (by decide)]
  exact congrArg (fun z => some (Sum.inr z)) (Y.2.2.2.2.2.2.2.2.2.2.2.2.2.2.2.2.2.2.2.2.2.2.2.2.2.2.1)
theorem ra_34 (H : moK n sh) {i : Nat} (hi : i < 8000) (F : Int32 → Option mj_R) : mj_aI (bl n sh x y) 118 100 (nI i) F = F (x 118 i) := bl_aI n sh x y F (by omega) (mk_118 H hi) rfl
theorem pa_34 (H : moK n sh) {i : Nat} (hi : i < 8000) (v : Int32) (F : mj_H → Option mj_R) : mj_aP (bl n sh x y) 118 100 (nI i) (.inl v) F = F (bl n sh (u2 x 118 i v) y) := bl_aPi n sh x y v F (by omega) (mk_118 H hi) rfl
theorem mk_119 (H : moK n sh) {k : Nat} (hk : k < 40) : okk n sh 119 100 k := by
  have e := H.2.2.2.2.2.2.2.2.2.2.2.2.2.2.2.2.2.2.2.2.2.2.2.2.2.2.2.2.2.1
  exact ⟨Nat.lt_of_lt_of_le (by decide) H.1, by decide, by rw [e], by rw [e]; exact hk⟩
theorem gr_35 (H : moK n sh) (Y : moY y) : mj_gf (bl n sh x y) 91 8 35 = some (.inr (some 119)) := by
  rw [bl_gfr n sh x y (mk_91 H (by decide)) (by decide)]
  exact congrArg (fun z => some (Sum.inr z)) (Y.2.2.2.2.2.2.2.2.2.2.2.2.2.2.2.2.2.2.2.2.2.2.2.2.2.2.2.1)
theorem ra_35 (H : moK n sh) {i : Nat} (hi : i < 40) (F : Int32 → Option mj_R) : mj_aI (bl n sh x y) 119 100 (nI i) F = F (x 119 i) := bl_aI n sh x y F (by omega) (mk_119 H hi) rfl
theorem pa_35 (H : moK n sh) {i : Nat} (hi : i < 40) (v : Int32) (F : mj_H → Option mj_R) : mj_aP (bl n sh x y) 119 100 (nI i) (.inl v) F = F (bl n sh (u2 x 119 i v) y) := bl_aPi n sh x y v F (by omega) (mk_119 H hi) rfl
theorem mk_120 (H : moK n sh) {k : Nat} (hk : k < 40) : okk n sh 120 100 k := by
  have e := H.2.2.2.2.2.2.2.2.2.2.2.2.2.2.2.2.2.2.2.2.2.2.2.2.2.2.2.2.2.2.1
  exact ⟨Nat.lt_of_lt_of_le (by decide) H.1, by decide, by rw [e], by rw [e]; exact hk⟩
theorem gr_36 (H : moK n sh) (Y : moY y) : mj_gf (bl n sh x y) 91 8 36 = some (.inr (some 120)) := by
  rw [bl_gfr n sh x y (mk_91 H (by decide)) (by decide)]
  exact congrArg (fun z => some (Sum.inr z)) (Y.2.2.2.2.2.2.2.2.2.2.2.2.2.2.2.2.2.2.2.2.2.2.2.2.2.2.2.2.1)
theorem ra_36 (H : moK n sh) {i : Nat} (hi : i < 40) (F : Int32 → Option mj_R) : mj_aI (bl n sh x y) 120 100 (nI i) F = F (x 120 i) := bl_aI n sh x y F (by omega) (mk_120 H hi) rfl
theorem pa_36 (H : moK n sh) {i : Nat} (hi : i < 40) (v : Int32) (F : mj_H → Option mj_R) : mj_aP (bl n sh x y) 120 100 (nI i) (.inl v) F = F (bl n sh (u2 x 120 i v) y) := bl_aPi n sh x y v F (by omega) (mk_120 H hi) rfl
theorem mk_121 (H : moK n sh) {k : Nat} (hk : k < 40) : okk n sh 121 100 k := by
  have e := H.2.2.2.2.2.2.2.2.2.2.2.2.2.2.2.2.2.2.2.2.2.2.2.2.2.2.2.2.2.2.2.1
  exact ⟨Nat.lt_of_lt_of_le (by decide) H.1, by decide, by rw [e], by rw [e]; exact hk⟩
theorem gr_37 (H : moK n sh) (Y : moY y) : mj_gf (bl n sh x y) 91 8 37 = some (.inr (some 121)) := by
  rw [bl_gfr n sh x y (mk_91 H (by decide)) (by decide)]
  exact congrArg (fun z => some (Sum.inr z)) (Y.2.2.2.2.2.2.2.2.2.2.2.2.2.2.2.2.2.2.2.2.2.2.2.2.2.2.2.2.2.1)
theorem ra_37 (H : moK n sh) {i : Nat} (hi : i < 40) (F : Int32 → Option mj_R) : mj_aI (bl n sh x y) 121 100 (nI i) F = F (x 121 i) := bl_aI n sh x y F (by omega) (mk_121 H hi) rfl
theorem pa_37 (H : moK n sh) {i : Nat} (hi : i < 40) (v : Int32) (F : mj_H → Option mj_R) : mj_aP (bl n sh x y) 121 100 (nI i) (.inl v) F = F (bl n sh (u2 x 121 i v) y) := bl_aPi n sh x y v F (by omega) (mk_121 H hi) rfl
theorem mk_122 (H : moK n sh) {k : Nat} (hk : k < 40) : okk n sh 122 100 k := by
  have e := H.2.2.2.2.2.2.2.2.2.2.2.2.2.2.2.2.2.2.2.2.2.2.2.2.2.2.2.2.2.2.2.2.1
  exact ⟨Nat.lt_of_lt_of_le (by decide) H.1, by decide, by rw [e], by rw [e]; exact hk⟩
theorem gr_38 (H : moK n sh) (Y : moY y) : mj_gf (bl n sh x y) 91 8 38 = some (.inr (some 122)) := by
  rw [bl_gfr n sh x y (mk_91 H (by decide)) (by decide)]
  exact congrArg (fun z => some (Sum.inr z)) (Y.2.2.2.2.2.2.2.2.2.2.2.2.2.2.2.2.2.2.2.2.2.2.2.2.2.2.2.2.2.2.1)
theorem ra_38 (H : moK n sh) {i : Nat} (hi : i < 40) (F : Int32 → Option mj_R) : mj_aI (bl n sh x y) 122 100 (nI i) F = F (x 122 i) := bl_aI n sh x y F (by omega) (mk_122 H hi) rfl
theorem pa_38 (H : moK n sh) {i : Nat} (hi : i < 40) (v : Int32) (F : mj_H → Option mj_R) : mj_aP (bl n sh x y) 122 100 (nI i) (.inl v) F = F (bl n sh (u2 x 122 i v) y) := bl_aPi n sh x y v F (by omega) (mk_122 H hi) rfl
theorem mk_123 (H : moK n sh) {k : Nat} (hk : k < 40) : okk n sh 123 100 k := by
  have e := H.2.2.2.2.2.2.2.2.2.2.2.2.2.2.2.2.2.2.2.2.2.2.2.2.2.2.2.2.2.2.2.2.2.1
  exact ⟨Nat.lt_of_lt_of_le (by decide) H.1, by decide, by rw [e], by rw [e]; exact hk⟩
theorem gr_39 (H : moK n sh) (Y : moY y) : mj_gf (bl n sh x y) 91 8 39 = some (.inr (some 123)) := by
  rw [bl_gfr n sh x y (mk_91 H (by decide)) (by decide)]
  exact congrArg (fun z => some (Sum.inr z)) (Y.2.2.2.2.2.2.2.2.2.2.2.2.2.2.2.2.2.2.2.2.2.2.2.2.2.2.2.2.2.2.2.1)
theorem ra_39 (H : moK n sh) {i : Nat} (hi : i < 40) (F : Int32 → Option mj_R) : mj_aI (bl n sh x y) 123 100 (nI i) F = F (x 123 i) := bl_aI n sh x y F (by omega) (mk_123 H hi) rfl
theorem pa_39 (H : moK n sh) {i : Nat} (hi : i < 40) (v : Int32) (F : mj_H → Option mj_R) : mj_aP (bl n sh x y) 123 100 (nI i) (.inl v) F = F (bl n sh (u2 x 123 i v) y) := bl_aPi n sh x y v F (by omega) (mk_123 H hi) rfl
theorem mk_124 (H : moK n sh) {k : Nat} (hk : k < 40) : okk n sh 124 100 k := by
  have e := H.2.2.2.2.2.2.2.2.2.2.2.2.2.2.2.2.2.2.2.2.2.2.2.2.2.2.2.2.2.2.2.2.2.2.1
  exact ⟨Nat.lt_of_lt_of_le (by decide) H.1, by decide, by rw [e], by rw [e]; exact hk⟩
theorem gr_40 (H : moK n sh) (Y : moY y) : mj_gf (bl n sh x y) 91 8 40 = some (.inr (some 124)) := by
  rw [bl_gfr n sh x y (mk_91 H (by decide)) (by decide)]
  exact congrArg (fun z => some (Sum.inr z)) (Y.2.2.2.2.2.2.2.2.2.2.2.2.2.2.2.2.2.2.2.2.2.2.2.2.2.2.2.2.2.2.2.2.1)
theorem ra_40 (H : moK n sh) {i : Nat} (hi : i < 40) (F : Int32 → Option mj_R) : mj_aI (bl n sh x y) 124 100 (nI i) F = F (x 124 i) := bl_aI n sh x y F (by omega) (mk_124 H hi) rfl
theorem pa_40 (H : moK n sh) {i : Nat} (hi : i < 40) (v : Int32) (F : mj_H → Option mj_R) : mj_aP (bl n sh x y) 124 100 (nI i) (.inl v) F = F (bl n sh (u2 x 124 i v) y) := bl_aPi n sh x y v F (by omega) (mk_124 H hi) rfl
theorem mk_125 (H : moK n sh) {k : Nat} (hk : k < 160) : okk n sh 125 200 k := by
  have e := H.2.2.2.2.2.2.2.2.2.2.2.2.2.2.2.2.2.2.2.2.2.2.2.2.2.2.2.2.2.2.2.2.2.2.2.1
  exact ⟨Nat.lt_of_lt_of_le (by decide) H.1, by decide, by rw [e], by rw [e]; exact hk⟩
theorem gr_41 (H : moK n sh) (Y : moY y) : mj_gf (bl n sh x y) 91 8 41 = some (.inr (some 125)) := by
  rw [bl_gfr n sh x y (mk_91 H (by decide)) (by decide)]
  exact congrArg (fun z => some (Sum.inr z)) (Y.2.2.2.2.2.2.2.2.2.2.2.2.2.2.2.2.2.2.2.2.2.2.2.2.2.2.2.2.2.2.2.2.2.1)
theorem ra_41 (H : moK n sh) {i : Nat} (hi : i < 160) (F : Int32 → Option mj_R) : mj_aI (bl n sh x y) 125 200 (nI i) F = F (x 125 i) := bl_aI n sh x y F (by omega) (mk_125 H hi) rfl
theorem pa_41 (H : moK n sh) {i : Nat} (hi : i < 160) (v : Int32) (F : mj_H → Option mj_R) : mj_aP (bl n sh x y) 125 200 (nI i) (.inl v) F = F (bl n sh (u2 x 125 i v) y) := bl_aPi n sh x y v F (by omega) (mk_125 H hi) rfl
theorem mk_126 (H : moK n sh) {k : Nat} (hk : k < 12) : okk n sh 126 200 k := by
  have e := H.2.2.2.2.2.2.2.2.2.2.2.2.2.2.2.2.2.2.2.2.2.2.2.2.2.2.2.2.2.2.2.2.2.2.2.2
  exact ⟨Nat.lt_of_lt_of_le (by decide) H.1, by decide, by rw [e], by rw [e]; exact hk⟩
theorem gr_42 (H : moK n sh) (Y : moY y) : mj_gf (bl n sh x y) 91 8 42 = some (.inr (some 126)) := by
  rw [bl_gfr n sh x y (mk_91 H (by decide)) (by decide)]
  exact congrArg (fun z => some (Sum.inr z)) (Y.2.2.2.2.2.2.2.2.2.2.2.2.2.2.2.2.2.2.2.2.2.2.2.2.2.2.2.2.2.2.2.2.2.2)
theorem ra_42 (H : moK n sh) {i : Nat} (hi : i < 12) (F : Int32 → Option mj_R) : mj_aI (bl n sh x y) 126 200 (nI i) F = F (x 126 i) := bl_aI n sh x y F (by omega) (mk_126 H hi) rfl
theorem pa_42 (H : moK n sh) {i : Nat} (hi : i < 12) (v : Int32) (F : mj_H → Option mj_R) : mj_aP (bl n sh x y) 126 200 (nI i) (.inl v) F = F (bl n sh (u2 x 126 i v) y) := bl_aPi n sh x y v F (by omega) (mk_126 H hi) rfl
theorem gv_0 (H : moK n sh) : mj_gf (bl n sh x y) 91 8 0 = some (.inl (x 91 0)) := bl_gfi n sh x y (mk_91 H (by decide)) (by decide)
theorem pv_0 (H : moK n sh) (v : Int32) : mj_pf (bl n sh x y) 91 8 0 (.inl v) = some (bl n sh (u2 x 91 0 v) y) := bl_pfi n sh x y v (mk_91 H (by decide)) (by decide)
theorem gv_1 (H : moK n sh) : mj_gf (bl n sh x y) 91 8 1 = some (.inl (x 91 1)) := bl_gfi n sh x y (mk_91 H (by decide)) (by decide)
theorem pv_1 (H : moK n sh) (v : Int32) : mj_pf (bl n sh x y) 91 8 1 (.inl v) = some (bl n sh (u2 x 91 1 v) y) := bl_pfi n sh x y v (mk_91 H (by decide)) (by decide)
theorem gv_2 (H : moK n sh) : mj_gf (bl n sh x y) 91 8 2 = some (.inl (x 91 2)) := bl_gfi n sh x y (mk_91 H (by decide)) (by decide)
theorem pv_2 (H : moK n sh) (v : Int32) : mj_pf (bl n sh x y) 91 8 2 (.inl v) = some (bl n sh (u2 x 91 2 v) y) := bl_pfi n sh x y v (mk_91 H (by decide)) (by decide)
theorem gv_19 (H : moK n sh) : mj_gf (bl n sh x y) 91 8 19 = some (.inl (x 91 19)) := bl_gfi n sh x y (mk_91 H (by decide)) (by decide)
theorem pv_19 (H : moK n sh) (v : Int32) : mj_pf (bl n sh x y) 91 8 19 (.inl v) = some (bl n sh (u2 x 91 19 v) y) := bl_pfi n sh x y v (mk_91 H (by decide)) (by decide)
theorem gv_20 (H : moK n sh) : mj_gf (bl n sh x y) 91 8 20 = some (.inl (x 91 20)) := bl_gfi n sh x y (mk_91 H (by decide)) (by decide)
theorem pv_20 (H : moK n sh) (v : Int32) : mj_pf (bl n sh x y) 91 8 20 (.inl v) = some (bl n sh (u2 x 91 20 v) y) := bl_pfi n sh x y v (mk_91 H (by decide)) (by decide)
theorem gv_21 (H : moK n sh) : mj_gf (bl n sh x y) 91 8 21 = some (.inl (x 91 21)) := bl_gfi n sh x y (mk_91 H (by decide)) (by decide)
theorem pv_21 (H : moK n sh) (v : Int32) : mj_pf (bl n sh x y) 91 8 21 (.inl v) = some (bl n sh (u2 x 91 21 v) y) := bl_pfi n sh x y v (mk_91 H (by decide)) (by decide)
theorem gv_22 (H : moK n sh) : mj_gf (bl n sh x y) 91 8 22 = some (.inl (x 91 22)) := bl_gfi n sh x y (mk_91 H (by decide)) (by decide)
theorem pv_22 (H : moK n sh) (v : Int32) : mj_pf (bl n sh x y) 91 8 22 (.inl v) = some (bl n sh (u2 x 91 22 v) y) := bl_pfi n sh x y v (mk_91 H (by decide)) (by decide)
theorem gv_23 (H : moK n sh) : mj_gf (bl n sh x y) 91 8 23 = some (.inl (x 91 23)) := bl_gfi n sh x y (mk_91 H (by decide)) (by decide)
theorem pv_23 (H : moK n sh) (v : Int32) : mj_pf (bl n sh x y) 91 8 23 (.inl v) = some (bl n sh (u2 x 91 23 v) y) := bl_pfi n sh x y v (mk_91 H (by decide)) (by decide)
theorem gv_43 (H : moK n sh) : mj_gf (bl n sh x y) 91 8 43 = some (.inl (x 91 43)) := bl_gfi n sh x y (mk_91 H (by decide)) (by decide)
theorem pv_43 (H : moK n sh) (v : Int32) : mj_pf (bl n sh x y) 91 8 43 (.inl v) = some (bl n sh (u2 x 91 43 v) y) := bl_pfi n sh x y v (mk_91 H (by decide)) (by decide)
end MO
theorem ie_m1_0 : (((-1) : Int32) = 0) = False := eq_false (by decide)
theorem ie_m1_1 : (((-1) : Int32) = 1) = False := eq_false (by decide)
theorem ie_m1_2 : (((-1) : Int32) = 2) = False := eq_false (by decide)
theorem ie_m1_3 : (((-1) : Int32) = 3) = False := eq_false (by decide)
theorem ie_m1_4 : (((-1) : Int32) = 4) = False := eq_false (by decide)
theorem ie_m1_5 : (((-1) : Int32) = 5) = False := eq_false (by decide)
theorem ie_0_m1 : ((0 : Int32) = (-1)) = False := eq_false (by decide)
theorem ie_0_1 : ((0 : Int32) = 1) = False := eq_false (by decide)
theorem ie_0_2 : ((0 : Int32) = 2) = False := eq_false (by decide)
theorem ie_0_3 : ((0 : Int32) = 3) = False := eq_false (by decide)
theorem ie_0_4 : ((0 : Int32) = 4) = False := eq_false (by decide)
theorem ie_0_5 : ((0 : Int32) = 5) = False := eq_false (by decide)
theorem ie_1_m1 : ((1 : Int32) = (-1)) = False := eq_false (by decide)
theorem ie_1_0 : ((1 : Int32) = 0) = False := eq_false (by decide)
theorem ie_1_2 : ((1 : Int32) = 2) = False := eq_false (by decide)
theorem ie_1_3 : ((1 : Int32) = 3) = False := eq_false (by decide)
theorem ie_1_4 : ((1 : Int32) = 4) = False := eq_false (by decide)
theorem ie_1_5 : ((1 : Int32) = 5) = False := eq_false (by decide)
theorem ie_2_m1 : ((2 : Int32) = (-1)) = False := eq_false (by decide)
theorem ie_2_0 : ((2 : Int32) = 0) = False := eq_false (by decide)
theorem ie_2_1 : ((2 : Int32) = 1) = False := eq_false (by decide)
theorem ie_2_3 : ((2 : Int32) = 3) = False := eq_false (by decide)
theorem ie_2_4 : ((2 : Int32) = 4) = False := eq_false (by decide)
theorem ie_2_5 : ((2 : Int32) = 5) = False := eq_false (by decide)
theorem ie_3_m1 : ((3 : Int32) = (-1)) = False := eq_false (by decide)
theorem ie_3_0 : ((3 : Int32) = 0) = False := eq_false (by decide)
theorem ie_3_1 : ((3 : Int32) = 1) = False := eq_false (by decide)
theorem ie_3_2 : ((3 : Int32) = 2) = False := eq_false (by decide)
theorem ie_3_4 : ((3 : Int32) = 4) = False := eq_false (by decide)
theorem ie_3_5 : ((3 : Int32) = 5) = False := eq_false (by decide)
theorem ie_4_m1 : ((4 : Int32) = (-1)) = False := eq_false (by decide)
theorem ie_4_0 : ((4 : Int32) = 0) = False := eq_false (by decide)
theorem ie_4_1 : ((4 : Int32) = 1) = False := eq_false (by decide)
theorem ie_4_2 : ((4 : Int32) = 2) = False := eq_false (by decide)
theorem ie_4_3 : ((4 : Int32) = 3) = False := eq_false (by decide)
theorem ie_4_5 : ((4 : Int32) = 5) = False := eq_false (by decide)
theorem ie_5_m1 : ((5 : Int32) = (-1)) = False := eq_false (by decide)
theorem ie_5_0 : ((5 : Int32) = 0) = False := eq_false (by decide)
theorem ie_5_1 : ((5 : Int32) = 1) = False := eq_false (by decide)
theorem ie_5_2 : ((5 : Int32) = 2) = False := eq_false (by decide)
theorem ie_5_3 : ((5 : Int32) = 3) = False := eq_false (by decide)
theorem ie_5_4 : ((5 : Int32) = 4) = False := eq_false (by decide)
theorem i_le_of {x y : Int32} (h : ¬ x < y) : y ≤ x := Int32.not_lt.mp h
theorem i_lt_of {x y : Int32} (h : ¬ x ≤ y) : y < x := Int32.not_le.mp h
/-- an int that is within -/
theorem i_in {x : Int32} {n : Nat} (hn : n < 2 ^ 31) (h0 : ¬ x < 0) (h1 : ¬ nI n ≤ x) : ∃ j, j < n ∧ x = nI j := by
  obtain ⟨j, hj, rfl⟩ := nI_of h0
  refine ⟨j, ?_, rfl⟩
  rcases Nat.lt_or_ge j n with q | q
  · exact q
  · exact absurd (nI_le q hj) h1
