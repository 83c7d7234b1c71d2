section OPC
variable {P : mj_P} {d M pc len a b : Nat} (L : mj_L) (S : List mj_V) (h : mj_H)
theorem op_call (as : List mj_V) (hb : as.length = b) : (mj_inv (mj_Cl P d) a b pc L (as.reverse ++ S) h).bind (mj_Rn P (d + 1) M) = mj_s8 S (mj_bc (mj_Cl P d a as h) (fun r h' => mj_Rn P (d + 1) M (pc + 3, L, r ++ S, h'))) := by
  subst hb
  unfold mj_s8
  have e1 : (as.reverse ++ S).length = as.length + S.length := by simp
  by_cases h8 : S.length ≤ 8
  · rw [if_pos h8, op_inv0 L _ h ⟨by rw [e1]; omega, by rw [e1]; omega⟩]
    have e2 : (as.reverse ++ S).take as.length = as.reverse := by
      rw [List.take_append_of_le_length (by simp), List.take_of_length_le (by simp)]
    have e3 : (as.reverse ++ S).drop as.length = S := by
      rw [List.drop_append_of_le_length (by simp), List.drop_of_length_le (by simp)]; rfl
    rw [e2, e3, List.reverse_reverse]
  · rw [if_neg h8]
    unfold mj_inv
    rw [if_neg (fun q => h8 (by have := q.2; rw [e1] at this; omega))]
    rfl
theorem op_st {x : Nat} (hc : P.1 M pc = some (.invokestatic x, len, a, b)) (h1 : a ≠ 9998) (h2 : a ≠ 9997) (as : List mj_V) (hb : as.length = b) : mj_Rn P (d + 1) M (pc, L, as.reverse ++ S, h) = mj_s8 S (mj_bc (mj_Cl P d a as h) (fun r h' => mj_Rn P (d + 1) M (pc + 3, L, r ++ S, h'))) := by
  rw [mj_Rn_eq hc rfl L _ h]
  show (if a = 9998 then mj_b3 (fun x y => if y < x then y else x) pc L (as.reverse ++ S) h else if a = 9997 then mj_b3 (fun x y => if x < y then y else x) pc L (as.reverse ++ S) h else mj_inv (mj_Cl P d) a b pc L (as.reverse ++ S) h).bind _ = _
  rw [if_neg h1, if_neg h2]
  exact op_call L S h as hb
theorem op_b3 (f : Int32 → Int32 → Int32) (x y : Int32) : (mj_b3 f pc L (.inl y :: .inl x :: S) h).bind (mj_Rn P (d + 1) M) = mj_s8 S (mj_Rn P (d + 1) M (pc + 3, L, .inl (f x y) :: S, h)) := by
  unfold mj_b3 mj_s8
  by_cases h8 : S.length ≤ 8
  · simp only [if_pos h8]; rfl
  · simp only [if_neg h8]; rfl
theorem op_min {z : Nat} (hc : P.1 M pc = some (.invokestatic z, len, 9998, b)) (x y : Int32) : mj_Rn P (d + 1) M (pc, L, .inl y :: .inl x :: S, h) = mj_s8 S (mj_Rn P (d + 1) M (pc + 3, L, .inl (if y < x then y else x) :: S, h)) := by
  rw [mj_Rn_eq hc rfl L _ h]
  exact op_b3 L S h (fun x y => if y < x then y else x) x y
theorem op_max {z : Nat} (hc : P.1 M pc = some (.invokestatic z, len, 9997, b)) (x y : Int32) : mj_Rn P (d + 1) M (pc, L, .inl y :: .inl x :: S, h) = mj_s8 S (mj_Rn P (d + 1) M (pc + 3, L, .inl (if x < y then y else x) :: S, h)) := by
  rw [mj_Rn_eq hc rfl L _ h]
  exact op_b3 L S h (fun x y => if x < y then y else x) x y
theorem op_rcv (c q : Nat) (as : List mj_V) : mj_rcv c as.length (as.reverse ++ .inr (some q) :: S) h = mj_tg h q c := by
  unfold mj_rcv
  rw [List.getElem?_append_right (by simp)]
  simp
theorem op_vi {x c : Nat} (hc : P.1 M pc = some (.invokevirtual x, len, a, b)) (hm : P.2.2.2.2.2 a = c) (q : Nat) (as : List mj_V) (hb : as.length + 1 = b) : mj_Rn P (d + 1) M (pc, L, as.reverse ++ .inr (some q) :: S, h) = if mj_tg h q c = true then (mj_s8 S (mj_bc (mj_Cl P d a (.inr (some q) :: as) h) (fun r h' => mj_Rn P (d + 1) M (pc + 3, L, r ++ S, h')))) else none := by
  rw [mj_Rn_eq hc rfl L _ h]
  show (if mj_rcv (P.2.2.2.2.2 a) (b - 1) (as.reverse ++ .inr (some q) :: S) h = true then mj_inv (mj_Cl P d) a b pc L (as.reverse ++ .inr (some q) :: S) h else none).bind _ = _
  subst hb
  rw [hm, Nat.add_sub_cancel, op_rcv]
  by_cases ht : mj_tg h q c = true
  · rw [if_pos ht, if_pos ht]
    have e := op_call (P := P) (d := d) (M := M) (pc := pc) (a := a) L S h (.inr (some q) :: as) rfl
    rw [List.reverse_cons, List.append_assoc] at e
    exact e
  · rw [if_neg ht, if_neg ht]; rfl
theorem op_in {x c : Nat} (hc : P.1 M pc = some (.invokespecial x, len, a, b)) (h9 : a ≠ 9999) (hm : P.2.2.2.2.2 a = c) (q : Nat) (as : List mj_V) (hb : as.length + 1 = b) : mj_Rn P (d + 1) M (pc, L, as.reverse ++ .inr (some q) :: S, h) = if mj_tg h q c = true then (mj_s8 S (mj_bc (mj_Cl P d a (.inr (some q) :: as) h) (fun r h' => mj_Rn P (d + 1) M (pc + 3, L, r ++ S, h')))) else none := by
  rw [mj_Rn_eq hc rfl L _ h]
  show (if a = 9999 then mj_oin pc L (as.reverse ++ .inr (some q) :: S) h else if mj_rcv (P.2.2.2.2.2 a) (b - 1) (as.reverse ++ .inr (some q) :: S) h = true then mj_inv (mj_Cl P d) a b pc L (as.reverse ++ .inr (some q) :: S) h else none).bind _ = _
  subst hb
  rw [if_neg h9, hm, Nat.add_sub_cancel, op_rcv]
  by_cases ht : mj_tg h q c = true
  · rw [if_pos ht, if_pos ht]
    have e := op_call (P := P) (d := d) (M := M) (pc := pc) (a := a) L S h (.inr (some q) :: as) rfl
    rw [List.reverse_cons, List.append_assoc] at e
    exact e
  · rw [if_neg ht, if_neg ht]; rfl
theorem op_oi {x : Nat} (hc : P.1 M pc = some (.invokespecial x, len, 9999, b)) (q : Nat) : mj_Rn P (d + 1) M (pc, L, .inr (some q) :: S, h) = mj_s8 S (mj_Rn P (d + 1) M (pc + 3, L, S, h)) := by
  rw [mj_Rn_eq hc rfl L _ h]
  unfold mj_s8
  show (if S.length ≤ 8 then mj_go (pc + 3) L S h else none).bind _ = _
  by_cases h8 : S.length ≤ 8
  · simp only [if_pos h8]; rfl
  · simp only [if_neg h8]; rfl
theorem op_ri (hc : P.1 M pc = some (.ireturn, len, a, b)) (hr : P.2.2.1 M = 1) (x : Int32) : mj_Rn P (d + 1) M (pc, L, [.inl x], h) = some (some (.inl x), h) := by
  rw [mj_Rn_ret hc rfl L _ h, hr]
  rfl
theorem op_rz (hc : P.1 M pc = some (.ireturn, len, a, b)) (hr : P.2.2.1 M = 2) (x : Int32) : mj_Rn P (d + 1) M (pc, L, [.inl x], h) = if x = 0 ∨ x = 1 then some (some (.inl x), h) else none := by
  rw [mj_Rn_ret hc rfl L _ h, hr]
  show (if (2 = 1 ∨ (2 = 2 ∧ (x = 0 ∨ x = 1))) then (some (some (.inl x), h) : Option mj_R) else none) = _
  by_cases hx : x = 0 ∨ x = 1
  · rw [if_pos hx, if_pos (Or.inr ⟨rfl, hx⟩)]
  · rw [if_neg hx, if_neg (fun q => q.elim (fun w => absurd w (by decide)) (fun w => hx w.2))]
theorem op_ra (hc : P.1 M pc = some (.areturn, len, a, b)) (hr : P.2.2.1 M = 3) (x : Option Nat) : mj_Rn P (d + 1) M (pc, L, [.inr x], h) = some (some (.inr x), h) := by
  rw [mj_Rn_ret hc rfl L _ h, hr]
  rfl
theorem op_rv (hc : P.1 M pc = some (.return_, len, a, b)) (hr : P.2.2.1 M = 0) : mj_Rn P (d + 1) M (pc, L, [], h) = some (none, h) := by
  rw [mj_Rn_ret hc rfl L _ h, hr]
  rfl
theorem op_ts {df lo hi : Int} {os : Array Int} (hc : P.1 M pc = some (.tableswitch df lo hi os, len, a, b)) (x : Int32) : mj_Rn P (d + 1) M (pc, L, .inl x :: S, h) = if 0 ≤ (pc : Int) + mj_tbl df lo hi os x.toInt then mj_Rn P (d + 1) M (((pc : Int) + mj_tbl df lo hi os x.toInt).toNat, L, S, h) else none := by
  rw [mj_Rn_eq hc rfl L _ h]
  show (if 0 ≤ (pc : Int) + mj_tbl df lo hi os x.toInt then mj_go ((pc : Int) + mj_tbl df lo hi os x.toInt).toNat L S h else none).bind _ = _
  by_cases h8 : 0 ≤ (pc : Int) + mj_tbl df lo hi os x.toInt
  · simp only [if_pos h8]; rfl
  · simp only [if_neg h8]; rfl
theorem op_clx {as : List mj_V} {n : Nat} (hn : P.2.1 a = n) : mj_Cl P d a as h = mj_Rn P d a (0, as.map some ++ List.replicate (n - as.length) none, [], h) := by
  subst hn; rfl
end OPC
