/-! one instruction of the small machine as an equation: rows for rewriting -/
def mj_lI (L : mj_L) (k : Nat) (f : Int32 → Option mj_R) : Option mj_R := match L[k]? with
  | some (some (.inl x)) => f x
  | _ => none
def mj_lA (L : mj_L) (k : Nat) (f : Option Nat → Option mj_R) : Option mj_R := match L[k]? with
  | some (some (.inr x)) => f x
  | _ => none
theorem mj_lI_s (a : Option mj_V) (L : mj_L) (k : Nat) (f : Int32 → Option mj_R) : mj_lI (a :: L) (k + 1) f = mj_lI L k f := by
  simp only [mj_lI, List.getElem?_cons_succ]
theorem mj_lI_0 (x : Int32) (L : mj_L) (f : Int32 → Option mj_R) : mj_lI (some (.inl x) :: L) 0 f = f x := rfl
theorem mj_lA_s (a : Option mj_V) (L : mj_L) (k : Nat) (f : Option Nat → Option mj_R) : mj_lA (a :: L) (k + 1) f = mj_lA L k f := by
  simp only [mj_lA, List.getElem?_cons_succ]
theorem mj_lA_0 (x : Option Nat) (L : mj_L) (f : Option Nat → Option mj_R) : mj_lA (some (.inr x) :: L) 0 f = f x := rfl
/-- storing into the locals -/
def mj_sL (L : mj_L) (k : Nat) (v : mj_V) (f : mj_L → Option mj_R) : Option mj_R := if k < L.length then f (L.set k (some v)) else none
theorem mj_sL_s (a : Option mj_V) (L : mj_L) (k : Nat) (v : mj_V) (f : mj_L → Option mj_R) : mj_sL (a :: L) (k + 1) v f = mj_sL L k v (fun L' => f (a :: L')) := by
  unfold mj_sL
  rw [List.set_cons_succ, List.length_cons]
  by_cases hk : k < L.length
  · rw [if_pos hk, if_pos (by omega)]
  · rw [if_neg hk, if_neg (by omega)]
theorem mj_sL_0 (a : Option mj_V) (L : mj_L) (v : mj_V) (f : mj_L → Option mj_R) : mj_sL (a :: L) 0 v f = f (some v :: L) := by
  unfold mj_sL
  rw [if_pos (by rw [List.length_cons]; omega), List.set_cons_zero]
/-- few operands below a call -/
def mj_s8 (S : List mj_V) (x : Option mj_R) : Option mj_R := if S.length ≤ 8 then x else none
theorem mj_s8_0 (x : Option mj_R) : mj_s8 [] x = x := if_pos (by decide)
theorem mj_s8_1 (a : mj_V) (x : Option mj_R) : mj_s8 [a] x = x := if_pos (Nat.le_of_ble_eq_true rfl)
theorem mj_s8_2 (a b : mj_V) (x : Option mj_R) : mj_s8 [a, b] x = x := if_pos (Nat.le_of_ble_eq_true rfl)
theorem mj_s8_3 (a b c : mj_V) (x : Option mj_R) : mj_s8 [a, b, c] x = x := if_pos (Nat.le_of_ble_eq_true rfl)
theorem mj_s8_4 (a b c d : mj_V) (x : Option mj_R) : mj_s8 [a, b, c, d] x = x := if_pos (Nat.le_of_ble_eq_true rfl)
/-- an int out of an array of a tag -/
def mj_aI (h : mj_H) (a t : Nat) (i : Int32) (f : Int32 → Option mj_R) : Option mj_R := if i < 0 then none else match mj_gf h a t i.toNatClampNeg with
  | some (.inl v) => f v
  | _ => none
def mj_aR (h : mj_H) (a t : Nat) (i : Int32) (f : Option Nat → Option mj_R) : Option mj_R := if i < 0 then none else match mj_gf h a t i.toNatClampNeg with
  | some (.inr v) => f v
  | _ => none
/-- a write at a place of an array -/
def mj_aP (h : mj_H) (a t : Nat) (i : Int32) (v : mj_V) (f : mj_H → Option mj_R) : Option mj_R := if i < 0 then none else (mj_pf h a t i.toNatClampNeg v).bind f
/-- behind a call -/
def mj_bc (o : Option mj_R) (f : List mj_V → mj_H → Option mj_R) : Option mj_R := o.bind (fun r => f r.1.toList r.2)
theorem mj_bc_n (h : mj_H) (f : List mj_V → mj_H → Option mj_R) : mj_bc (some (none, h)) f = f [] h := rfl
theorem mj_bc_s (v : mj_V) (h : mj_H) (f : List mj_V → mj_H → Option mj_R) : mj_bc (some (some v, h)) f = f [v] h := rfl
section OPS
variable {P : mj_P} {d M pc len a b : Nat} (L : mj_L) (S : List mj_V) (h : mj_H)
theorem op_iconst {n : Int} (hc : P.1 M pc = some (.iconst n, len, a, b)) : mj_Rn P (d + 1) M (pc, L, S, h) = mj_Rn P (d + 1) M (pc + 1, L, .inl (Int32.ofInt n) :: S, h) := mj_Rn_eq hc rfl L S h
theorem op_bipush {n : Int} (hc : P.1 M pc = some (.bipush n, len, a, b)) : mj_Rn P (d + 1) M (pc, L, S, h) = mj_Rn P (d + 1) M (pc + 2, L, .inl (Int8.ofInt n).toInt32 :: S, h) := mj_Rn_eq hc rfl L S h
theorem op_sipush {n : Int} (hc : P.1 M pc = some (.sipush n, len, a, b)) : mj_Rn P (d + 1) M (pc, L, S, h) = mj_Rn P (d + 1) M (pc + 3, L, .inl (Int16.ofInt n).toInt32 :: S, h) := mj_Rn_eq hc rfl L S h
theorem op_null (hc : P.1 M pc = some (.aconst_null, len, a, b)) : mj_Rn P (d + 1) M (pc, L, S, h) = mj_Rn P (d + 1) M (pc + 1, L, .inr none :: S, h) := mj_Rn_eq hc rfl L S h
theorem op_li {k n : Nat} : (mj_li k n pc L S h).bind (mj_Rn P (d + 1) M) = mj_lI L k (fun x => mj_Rn P (d + 1) M (pc + n, L, .inl x :: S, h)) := by
  unfold mj_li mj_lI
  cases L[k]? with
  | none => rfl
  | some w => rcases w with _ | ⟨v | v⟩ <;> rfl
theorem op_la {k n : Nat} : (mj_la k n pc L S h).bind (mj_Rn P (d + 1) M) = mj_lA L k (fun x => mj_Rn P (d + 1) M (pc + n, L, .inr x :: S, h)) := by
  unfold mj_la mj_lA
  cases L[k]? with
  | none => rfl
  | some w => rcases w with _ | ⟨v | v⟩ <;> rfl
theorem op_iload_n {k : Fin 4} (hc : P.1 M pc = some (.iload_n k, len, a, b)) : mj_Rn P (d + 1) M (pc, L, S, h) = mj_lI L k.val (fun x => mj_Rn P (d + 1) M (pc + 1, L, .inl x :: S, h)) := (mj_Rn_eq hc rfl L S h).trans (op_li L S h)
theorem op_iload {k : Nat} (hc : P.1 M pc = some (.iload k, len, a, b)) : mj_Rn P (d + 1) M (pc, L, S, h) = mj_lI L k (fun x => mj_Rn P (d + 1) M (pc + 2, L, .inl x :: S, h)) := (mj_Rn_eq hc rfl L S h).trans (op_li L S h)
theorem op_aload_n {k : Fin 4} (hc : P.1 M pc = some (.aload_n k, len, a, b)) : mj_Rn P (d + 1) M (pc, L, S, h) = mj_lA L k.val (fun x => mj_Rn P (d + 1) M (pc + 1, L, .inr x :: S, h)) := (mj_Rn_eq hc rfl L S h).trans (op_la L S h)
theorem op_aload {k : Nat} (hc : P.1 M pc = some (.aload k, len, a, b)) : mj_Rn P (d + 1) M (pc, L, S, h) = mj_lA L k (fun x => mj_Rn P (d + 1) M (pc + 2, L, .inr x :: S, h)) := (mj_Rn_eq hc rfl L S h).trans (op_la L S h)
theorem op_si {k n : Nat} (v : Int32) : (mj_si k n pc L (.inl v :: S) h).bind (mj_Rn P (d + 1) M) = mj_sL L k (.inl v) (fun L' => mj_Rn P (d + 1) M (pc + n, L', S, h)) := by
  unfold mj_si mj_sL
  by_cases hk : k < L.length
  · simp only [if_pos hk]; rfl
  · simp only [if_neg hk]; rfl
theorem op_sa {k n : Nat} (v : Option Nat) : (mj_sa k n pc L (.inr v :: S) h).bind (mj_Rn P (d + 1) M) = mj_sL L k (.inr v) (fun L' => mj_Rn P (d + 1) M (pc + n, L', S, h)) := by
  unfold mj_sa mj_sL
  by_cases hk : k < L.length
  · simp only [if_pos hk]; rfl
  · simp only [if_neg hk]; rfl
theorem op_istore_n {k : Fin 4} (hc : P.1 M pc = some (.istore_n k, len, a, b)) (v : Int32) : mj_Rn P (d + 1) M (pc, L, .inl v :: S, h) = mj_sL L k.val (.inl v) (fun L' => mj_Rn P (d + 1) M (pc + 1, L', S, h)) := (mj_Rn_eq hc rfl L _ h).trans (op_si L S h v)
theorem op_istore {k : Nat} (hc : P.1 M pc = some (.istore k, len, a, b)) (v : Int32) : mj_Rn P (d + 1) M (pc, L, .inl v :: S, h) = mj_sL L k (.inl v) (fun L' => mj_Rn P (d + 1) M (pc + 2, L', S, h)) := (mj_Rn_eq hc rfl L _ h).trans (op_si L S h v)
theorem op_astore_n {k : Fin 4} (hc : P.1 M pc = some (.astore_n k, len, a, b)) (v : Option Nat) : mj_Rn P (d + 1) M (pc, L, .inr v :: S, h) = mj_sL L k.val (.inr v) (fun L' => mj_Rn P (d + 1) M (pc + 1, L', S, h)) := (mj_Rn_eq hc rfl L _ h).trans (op_sa L S h v)
theorem op_astore {k : Nat} (hc : P.1 M pc = some (.astore k, len, a, b)) (v : Option Nat) : mj_Rn P (d + 1) M (pc, L, .inr v :: S, h) = mj_sL L k (.inr v) (fun L' => mj_Rn P (d + 1) M (pc + 2, L', S, h)) := (mj_Rn_eq hc rfl L _ h).trans (op_sa L S h v)
theorem op_iinc {k : Nat} {n : Int} (hc : P.1 M pc = some (.iinc k n, len, a, b)) : mj_Rn P (d + 1) M (pc, L, S, h) = mj_lI L k (fun x => mj_sL L k (.inl (x + Int32.ofInt n)) (fun L' => mj_Rn P (d + 1) M (pc + 3, L', S, h))) := by
  rw [mj_Rn_eq hc rfl L S h]
  show (match L[k]? with
    | some (some (.inl x)) => mj_go (pc + 3) (L.set k (some (.inl (x + Int32.ofInt n)))) S h
    | _ => none).bind (mj_Rn P (d + 1) M) = _
  unfold mj_lI mj_sL
  cases hk : L[k]? with
  | none => rfl
  | some w =>
    have hl : k < L.length := (List.getElem?_eq_some_iff.mp hk).1
    rcases w with _ | ⟨v | v⟩ <;> first | rfl | (simp only [if_pos hl]; rfl)
theorem op_iadd (hc : P.1 M pc = some (.iadd, len, a, b)) (x y : Int32) : mj_Rn P (d + 1) M (pc, L, .inl y :: .inl x :: S, h) = mj_Rn P (d + 1) M (pc + 1, L, .inl (x + y) :: S, h) := mj_Rn_eq hc rfl L _ h
theorem op_isub (hc : P.1 M pc = some (.isub, len, a, b)) (x y : Int32) : mj_Rn P (d + 1) M (pc, L, .inl y :: .inl x :: S, h) = mj_Rn P (d + 1) M (pc + 1, L, .inl (x - y) :: S, h) := mj_Rn_eq hc rfl L _ h
theorem op_imul (hc : P.1 M pc = some (.imul, len, a, b)) (x y : Int32) : mj_Rn P (d + 1) M (pc, L, .inl y :: .inl x :: S, h) = mj_Rn P (d + 1) M (pc + 1, L, .inl (x * y) :: S, h) := mj_Rn_eq hc rfl L _ h
theorem op_iand (hc : P.1 M pc = some (.iand, len, a, b)) (x y : Int32) : mj_Rn P (d + 1) M (pc, L, .inl y :: .inl x :: S, h) = mj_Rn P (d + 1) M (pc + 1, L, .inl (x &&& y) :: S, h) := mj_Rn_eq hc rfl L _ h
theorem op_ior (hc : P.1 M pc = some (.ior, len, a, b)) (x y : Int32) : mj_Rn P (d + 1) M (pc, L, .inl y :: .inl x :: S, h) = mj_Rn P (d + 1) M (pc + 1, L, .inl (x ||| y) :: S, h) := mj_Rn_eq hc rfl L _ h
theorem op_ixor (hc : P.1 M pc = some (.ixor, len, a, b)) (x y : Int32) : mj_Rn P (d + 1) M (pc, L, .inl y :: .inl x :: S, h) = mj_Rn P (d + 1) M (pc + 1, L, .inl (x ^^^ y) :: S, h) := mj_Rn_eq hc rfl L _ h
theorem op_ishl (hc : P.1 M pc = some (.ishl, len, a, b)) (x y : Int32) : mj_Rn P (d + 1) M (pc, L, .inl y :: .inl x :: S, h) = mj_Rn P (d + 1) M (pc + 1, L, .inl (x <<< (y &&& 31)) :: S, h) := mj_Rn_eq hc rfl L _ h
theorem op_ishr (hc : P.1 M pc = some (.ishr, len, a, b)) (x y : Int32) : mj_Rn P (d + 1) M (pc, L, .inl y :: .inl x :: S, h) = mj_Rn P (d + 1) M (pc + 1, L, .inl (x >>> (y &&& 31)) :: S, h) := mj_Rn_eq hc rfl L _ h
theorem op_idiv (hc : P.1 M pc = some (.idiv, len, a, b)) (x y : Int32) : mj_Rn P (d + 1) M (pc, L, .inl y :: .inl x :: S, h) = if y = 0 then none else mj_Rn P (d + 1) M (pc + 1, L, .inl (x / y) :: S, h) := by
  rw [mj_Rn_eq hc rfl L _ h]
  show (if y = 0 then none else mj_go (pc + 1) L (.inl (x / y) :: S) h).bind _ = _
  by_cases hy : y = 0
  · simp only [if_pos hy]; rfl
  · simp only [if_neg hy]; rfl
theorem op_irem (hc : P.1 M pc = some (.irem, len, a, b)) (x y : Int32) : mj_Rn P (d + 1) M (pc, L, .inl y :: .inl x :: S, h) = if y = 0 then none else mj_Rn P (d + 1) M (pc + 1, L, .inl (x - x / y * y) :: S, h) := by
  rw [mj_Rn_eq hc rfl L _ h]
  show (if y = 0 then none else mj_go (pc + 1) L (.inl (x - x / y * y) :: S) h).bind _ = _
  by_cases hy : y = 0
  · simp only [if_pos hy]; rfl
  · simp only [if_neg hy]; rfl
theorem op_dup (hc : P.1 M pc = some (.dup, len, a, b)) (v : mj_V) : mj_Rn P (d + 1) M (pc, L, v :: S, h) = mj_Rn P (d + 1) M (pc + 1, L, v :: v :: S, h) := mj_Rn_eq hc rfl L _ h
theorem op_pop (hc : P.1 M pc = some (.pop, len, a, b)) (v : mj_V) : mj_Rn P (d + 1) M (pc, L, v :: S, h) = mj_Rn P (d + 1) M (pc + 1, L, S, h) := mj_Rn_eq hc rfl L _ h
theorem op_dup_x1 (hc : P.1 M pc = some (.dup_x1, len, a, b)) (v w : mj_V) : mj_Rn P (d + 1) M (pc, L, v :: w :: S, h) = mj_Rn P (d + 1) M (pc + 1, L, v :: w :: v :: S, h) := mj_Rn_eq hc rfl L _ h
theorem op_dup2 (hc : P.1 M pc = some (.dup2, len, a, b)) (v w : mj_V) : mj_Rn P (d + 1) M (pc, L, v :: w :: S, h) = mj_Rn P (d + 1) M (pc + 1, L, v :: w :: v :: w :: S, h) := mj_Rn_eq hc rfl L _ h
theorem op_if_eq {o : Int} (hc : P.1 M pc = some (.ifCond .eq o, len, a, b)) (x : Int32) : mj_Rn P (d + 1) M (pc, L, .inl x :: S, h) = if x = 0 then mj_Rn P (d + 1) M (a, L, S, h) else mj_Rn P (d + 1) M (pc + 3, L, S, h) := by
  rw [mj_Rn_eq hc rfl L _ h]
  show (if decide (x = 0) = true then mj_go a L S h else mj_go (pc + 3) L S h).bind _ = _
  by_cases hq : x = 0
  · rw [if_pos hq, if_pos (decide_eq_true hq)]; rfl
  · rw [if_neg hq, if_neg (by rw [decide_eq_false hq]; decide)]; rfl
theorem op_if_ne {o : Int} (hc : P.1 M pc = some (.ifCond .ne o, len, a, b)) (x : Int32) : mj_Rn P (d + 1) M (pc, L, .inl x :: S, h) = if ¬ x = 0 then mj_Rn P (d + 1) M (a, L, S, h) else mj_Rn P (d + 1) M (pc + 3, L, S, h) := by
  rw [mj_Rn_eq hc rfl L _ h]
  show (if decide (¬ x = 0) = true then mj_go a L S h else mj_go (pc + 3) L S h).bind _ = _
  by_cases hq : ¬ x = 0
  · rw [if_pos hq, if_pos (decide_eq_true hq)]; rfl
  · rw [if_neg hq, if_neg (by rw [decide_eq_false hq]; decide)]; rfl
theorem op_if_lt {o : Int} (hc : P.1 M pc = some (.ifCond .lt o, len, a, b)) (x : Int32) : mj_Rn P (d + 1) M (pc, L, .inl x :: S, h) = if x < 0 then mj_Rn P (d + 1) M (a, L, S, h) else mj_Rn P (d + 1) M (pc + 3, L, S, h) := by
  rw [mj_Rn_eq hc rfl L _ h]
  show (if decide (x < 0) = true then mj_go a L S h else mj_go (pc + 3) L S h).bind _ = _
  by_cases hq : x < 0
  · rw [if_pos hq, if_pos (decide_eq_true hq)]; rfl
  · rw [if_neg hq, if_neg (by rw [decide_eq_false hq]; decide)]; rfl
theorem op_if_ge {o : Int} (hc : P.1 M pc = some (.ifCond .ge o, len, a, b)) (x : Int32) : mj_Rn P (d + 1) M (pc, L, .inl x :: S, h) = if 0 ≤ x then mj_Rn P (d + 1) M (a, L, S, h) else mj_Rn P (d + 1) M (pc + 3, L, S, h) := by
  rw [mj_Rn_eq hc rfl L _ h]
  show (if decide (0 ≤ x) = true then mj_go a L S h else mj_go (pc + 3) L S h).bind _ = _
  by_cases hq : 0 ≤ x
  · rw [if_pos hq, if_pos (decide_eq_true hq)]; rfl
  · rw [if_neg hq, if_neg (by rw [decide_eq_false hq]; decide)]; rfl
theorem op_if_gt {o : Int} (hc : P.1 M pc = some (.ifCond .gt o, len, a, b)) (x : Int32) : mj_Rn P (d + 1) M (pc, L, .inl x :: S, h) = if 0 < x then mj_Rn P (d + 1) M (a, L, S, h) else mj_Rn P (d + 1) M (pc + 3, L, S, h) := by
  rw [mj_Rn_eq hc rfl L _ h]
  show (if decide (0 < x) = true then mj_go a L S h else mj_go (pc + 3) L S h).bind _ = _
  by_cases hq : 0 < x
  · rw [if_pos hq, if_pos (decide_eq_true hq)]; rfl
  · rw [if_neg hq, if_neg (by rw [decide_eq_false hq]; decide)]; rfl
theorem op_if_le {o : Int} (hc : P.1 M pc = some (.ifCond .le o, len, a, b)) (x : Int32) : mj_Rn P (d + 1) M (pc, L, .inl x :: S, h) = if x ≤ 0 then mj_Rn P (d + 1) M (a, L, S, h) else mj_Rn P (d + 1) M (pc + 3, L, S, h) := by
  rw [mj_Rn_eq hc rfl L _ h]
  show (if decide (x ≤ 0) = true then mj_go a L S h else mj_go (pc + 3) L S h).bind _ = _
  by_cases hq : x ≤ 0
  · rw [if_pos hq, if_pos (decide_eq_true hq)]; rfl
  · rw [if_neg hq, if_neg (by rw [decide_eq_false hq]; decide)]; rfl
theorem op_ic_eq {o : Int} (hc : P.1 M pc = some (.if_icmp .eq o, len, a, b)) (x y : Int32) : mj_Rn P (d + 1) M (pc, L, .inl y :: .inl x :: S, h) = if x = y then mj_Rn P (d + 1) M (a, L, S, h) else mj_Rn P (d + 1) M (pc + 3, L, S, h) := by
  rw [mj_Rn_eq hc rfl L _ h]
  show (if decide (x = y) = true then mj_go a L S h else mj_go (pc + 3) L S h).bind _ = _
  by_cases hq : x = y
  · rw [if_pos hq, if_pos (decide_eq_true hq)]; rfl
  · rw [if_neg hq, if_neg (by rw [decide_eq_false hq]; decide)]; rfl
theorem op_ic_ne {o : Int} (hc : P.1 M pc = some (.if_icmp .ne o, len, a, b)) (x y : Int32) : mj_Rn P (d + 1) M (pc, L, .inl y :: .inl x :: S, h) = if ¬ x = y then mj_Rn P (d + 1) M (a, L, S, h) else mj_Rn P (d + 1) M (pc + 3, L, S, h) := by
  rw [mj_Rn_eq hc rfl L _ h]
  show (if decide (¬ x = y) = true then mj_go a L S h else mj_go (pc + 3) L S h).bind _ = _
  by_cases hq : ¬ x = y
  · rw [if_pos hq, if_pos (decide_eq_true hq)]; rfl
  · rw [if_neg hq, if_neg (by rw [decide_eq_false hq]; decide)]; rfl
theorem op_ic_lt {o : Int} (hc : P.1 M pc = some (.if_icmp .lt o, len, a, b)) (x y : Int32) : mj_Rn P (d + 1) M (pc, L, .inl y :: .inl x :: S, h) = if x < y then mj_Rn P (d + 1) M (a, L, S, h) else mj_Rn P (d + 1) M (pc + 3, L, S, h) := by
  rw [mj_Rn_eq hc rfl L _ h]
  show (if decide (x < y) = true then mj_go a L S h else mj_go (pc + 3) L S h).bind _ = _
  by_cases hq : x < y
  · rw [if_pos hq, if_pos (decide_eq_true hq)]; rfl
  · rw [if_neg hq, if_neg (by rw [decide_eq_false hq]; decide)]; rfl
theorem op_ic_ge {o : Int} (hc : P.1 M pc = some (.if_icmp .ge o, len, a, b)) (x y : Int32) : mj_Rn P (d + 1) M (pc, L, .inl y :: .inl x :: S, h) = if y ≤ x then mj_Rn P (d + 1) M (a, L, S, h) else mj_Rn P (d + 1) M (pc + 3, L, S, h) := by
  rw [mj_Rn_eq hc rfl L _ h]
  show (if decide (y ≤ x) = true then mj_go a L S h else mj_go (pc + 3) L S h).bind _ = _
  by_cases hq : y ≤ x
  · rw [if_pos hq, if_pos (decide_eq_true hq)]; rfl
  · rw [if_neg hq, if_neg (by rw [decide_eq_false hq]; decide)]; rfl
theorem op_ic_gt {o : Int} (hc : P.1 M pc = some (.if_icmp .gt o, len, a, b)) (x y : Int32) : mj_Rn P (d + 1) M (pc, L, .inl y :: .inl x :: S, h) = if y < x then mj_Rn P (d + 1) M (a, L, S, h) else mj_Rn P (d + 1) M (pc + 3, L, S, h) := by
  rw [mj_Rn_eq hc rfl L _ h]
  show (if decide (y < x) = true then mj_go a L S h else mj_go (pc + 3) L S h).bind _ = _
  by_cases hq : y < x
  · rw [if_pos hq, if_pos (decide_eq_true hq)]; rfl
  · rw [if_neg hq, if_neg (by rw [decide_eq_false hq]; decide)]; rfl
theorem op_ic_le {o : Int} (hc : P.1 M pc = some (.if_icmp .le o, len, a, b)) (x y : Int32) : mj_Rn P (d + 1) M (pc, L, .inl y :: .inl x :: S, h) = if x ≤ y then mj_Rn P (d + 1) M (a, L, S, h) else mj_Rn P (d + 1) M (pc + 3, L, S, h) := by
  rw [mj_Rn_eq hc rfl L _ h]
  show (if decide (x ≤ y) = true then mj_go a L S h else mj_go (pc + 3) L S h).bind _ = _
  by_cases hq : x ≤ y
  · rw [if_pos hq, if_pos (decide_eq_true hq)]; rfl
  · rw [if_neg hq, if_neg (by rw [decide_eq_false hq]; decide)]; rfl
theorem op_ac_eq {o : Int} (hc : P.1 M pc = some (.if_acmp .eq o, len, a, b)) (x y : Option Nat) : mj_Rn P (d + 1) M (pc, L, .inr y :: .inr x :: S, h) = if x = y then mj_Rn P (d + 1) M (a, L, S, h) else mj_Rn P (d + 1) M (pc + 3, L, S, h) := by
  rw [mj_Rn_eq hc rfl L _ h]
  show (if decide (x = y) = true then mj_go a L S h else mj_go (pc + 3) L S h).bind _ = _
  by_cases hq : x = y
  · rw [if_pos hq, if_pos (decide_eq_true hq)]; rfl
  · rw [if_neg hq, if_neg (by rw [decide_eq_false hq]; decide)]; rfl
theorem op_ac_ne {o : Int} (hc : P.1 M pc = some (.if_acmp .ne o, len, a, b)) (x y : Option Nat) : mj_Rn P (d + 1) M (pc, L, .inr y :: .inr x :: S, h) = if ¬ x = y then mj_Rn P (d + 1) M (a, L, S, h) else mj_Rn P (d + 1) M (pc + 3, L, S, h) := by
  rw [mj_Rn_eq hc rfl L _ h]
  show (if decide (¬ x = y) = true then mj_go a L S h else mj_go (pc + 3) L S h).bind _ = _
  by_cases hq : ¬ x = y
  · rw [if_pos hq, if_pos (decide_eq_true hq)]; rfl
  · rw [if_neg hq, if_neg (by rw [decide_eq_false hq]; decide)]; rfl
theorem op_nl_0 {o : Int} (hc : P.1 M pc = some (.ifnull o, len, a, b)) : mj_Rn P (d + 1) M (pc, L, .inr none :: S, h) = mj_Rn P (d + 1) M (a, L, S, h) := mj_Rn_eq hc rfl L _ h
theorem op_nl_1 {o : Int} (hc : P.1 M pc = some (.ifnull o, len, a, b)) (q : Nat) : mj_Rn P (d + 1) M (pc, L, .inr (some q) :: S, h) = mj_Rn P (d + 1) M (pc + 3, L, S, h) := mj_Rn_eq hc rfl L _ h
theorem op_nn_0 {o : Int} (hc : P.1 M pc = some (.ifnonnull o, len, a, b)) : mj_Rn P (d + 1) M (pc, L, .inr none :: S, h) = mj_Rn P (d + 1) M (pc + 3, L, S, h) := mj_Rn_eq hc rfl L _ h
theorem op_nn_1 {o : Int} (hc : P.1 M pc = some (.ifnonnull o, len, a, b)) (q : Nat) : mj_Rn P (d + 1) M (pc, L, .inr (some q) :: S, h) = mj_Rn P (d + 1) M (a, L, S, h) := mj_Rn_eq hc rfl L _ h
theorem op_goto {o : Int} (hc : P.1 M pc = some (.goto o, len, a, b)) : mj_Rn P (d + 1) M (pc, L, S, h) = mj_Rn P (d + 1) M (a, L, S, h) := mj_Rn_eq hc rfl L S h
theorem op_get {x : Nat} (hc : P.1 M pc = some (.getfield x, len, a, b)) (q : Nat) : mj_Rn P (d + 1) M (pc, L, .inr (some q) :: S, h) = (mj_gf h q a b).bind (fun v => mj_Rn P (d + 1) M (pc + 3, L, v :: S, h)) := by
  rw [mj_Rn_eq hc rfl L _ h]
  show (match mj_gf h q a b with | some v => mj_go (pc + 3) L (v :: S) h | none => none).bind _ = _
  cases mj_gf h q a b <;> rfl
theorem op_put {x : Nat} (hc : P.1 M pc = some (.putfield x, len, a, b)) (q : Nat) (v : mj_V) : mj_Rn P (d + 1) M (pc, L, v :: .inr (some q) :: S, h) = if mj_zk (P.2.2.2.2.1 a b) v = true then (mj_pf h q a b v).bind (fun h' => mj_Rn P (d + 1) M (pc + 3, L, S, h')) else none := by
  rw [mj_Rn_eq hc rfl L _ h]
  show (if mj_zk (P.2.2.2.2.1 a b) v = true then (match mj_pf h q a b v with | some h' => mj_go (pc + 3) L S h' | none => none) else none).bind _ = _
  by_cases hz : mj_zk (P.2.2.2.2.1 a b) v = true
  · simp only [if_pos hz]
    cases mj_pf h q a b v <;> rfl
  · simp only [if_neg hz]; rfl
theorem op_new {x : Nat} (hc : P.1 M pc = some (.new x, len, a, b)) : mj_Rn P (d + 1) M (pc, L, S, h) = mj_Rn P (d + 1) M (pc + 3, L, .inr (some h.length) :: S, h ++ [(a, P.2.2.2.1 a)]) := mj_Rn_eq hc rfl L S h
theorem op_mk {t n : Nat} (v : mj_V) (x : Int32) : (mj_mk t n pc v L (.inl x :: S) h).bind (mj_Rn P (d + 1) M) = if x < 0 ∨ 100000 < x.toNatClampNeg then none else mj_Rn P (d + 1) M (pc + n, L, .inr (some h.length) :: S, h ++ [(t, List.replicate x.toNatClampNeg v)]) := by
  unfold mj_mk
  by_cases hk : x < 0 ∨ 100000 < x.toNatClampNeg
  · simp only [if_pos hk]; rfl
  · simp only [if_neg hk]; rfl
theorem op_na_int (hc : P.1 M pc = some (.newarray .int, len, a, b)) (x : Int32) : mj_Rn P (d + 1) M (pc, L, .inl x :: S, h) = if x < 0 ∨ 100000 < x.toNatClampNeg then none else mj_Rn P (d + 1) M (pc + 2, L, .inr (some h.length) :: S, h ++ [(100, List.replicate x.toNatClampNeg (.inl 0))]) := (mj_Rn_eq hc rfl L _ h).trans (op_mk L S h _ x)
theorem op_na_boolean (hc : P.1 M pc = some (.newarray .boolean, len, a, b)) (x : Int32) : mj_Rn P (d + 1) M (pc, L, .inl x :: S, h) = if x < 0 ∨ 100000 < x.toNatClampNeg then none else mj_Rn P (d + 1) M (pc + 2, L, .inr (some h.length) :: S, h ++ [(200, List.replicate x.toNatClampNeg (.inl 0))]) := (mj_Rn_eq hc rfl L _ h).trans (op_mk L S h _ x)
theorem op_an {y : Nat} (hc : P.1 M pc = some (.anewarray y, len, a, b)) (x : Int32) : mj_Rn P (d + 1) M (pc, L, .inl x :: S, h) = if x < 0 ∨ 100000 < x.toNatClampNeg then none else mj_Rn P (d + 1) M (pc + 3, L, .inr (some h.length) :: S, h ++ [(101 + a, List.replicate x.toNatClampNeg (.inr none))]) := (mj_Rn_eq hc rfl L _ h).trans (op_mk L S h _ x)
theorem op_len (hc : P.1 M pc = some (.arraylength, len, a, b)) (q : Nat) : mj_Rn P (d + 1) M (pc, L, .inr (some q) :: S, h) = (mj_ln h q).bind (fun n => mj_Rn P (d + 1) M (pc + 1, L, .inl (Int32.ofNat n) :: S, h)) := by
  rw [mj_Rn_eq hc rfl L _ h]
  show (match mj_ln h q with | some n => mj_go (pc + 1) L (.inl (Int32.ofNat n) :: S) h | none => none).bind _ = _
  cases mj_ln h q <;> rfl
theorem op_ald (hc : P.1 M pc = some (.iaload, len, a, b)) (q : Nat) (i : Int32) : mj_Rn P (d + 1) M (pc, L, .inl i :: .inr (some q) :: S, h) = mj_aI h q 100 i (fun v => mj_Rn P (d + 1) M (pc + 1, L, .inl v :: S, h)) := by
  rw [mj_Rn_eq hc rfl L _ h]
  show (if i < 0 then none else (match mj_gf h q 100 i.toNatClampNeg with | some (.inl v) => mj_go (pc + 1) L (.inl v :: S) h | _ => none)).bind _ = _
  unfold mj_aI
  by_cases hi : i < 0
  · simp only [if_pos hi]; rfl
  · simp only [if_neg hi]
    cases mj_gf h q 100 i.toNatClampNeg with
    | none => rfl
    | some w => cases w <;> rfl
theorem op_bld (hc : P.1 M pc = some (.baload, len, a, b)) (q : Nat) (i : Int32) : mj_Rn P (d + 1) M (pc, L, .inl i :: .inr (some q) :: S, h) = mj_aI h q 200 i (fun v => mj_Rn P (d + 1) M (pc + 1, L, .inl v :: S, h)) := by
  rw [mj_Rn_eq hc rfl L _ h]
  show (if i < 0 then none else (match mj_gf h q 200 i.toNatClampNeg with | some (.inl v) => mj_go (pc + 1) L (.inl v :: S) h | _ => none)).bind _ = _
  unfold mj_aI
  by_cases hi : i < 0
  · simp only [if_pos hi]; rfl
  · simp only [if_neg hi]
    cases mj_gf h q 200 i.toNatClampNeg with
    | none => rfl
    | some w => cases w <;> rfl
theorem op_rld (hc : P.1 M pc = some (.aaload, len, a, b)) (q : Nat) (i : Int32) : mj_Rn P (d + 1) M (pc, L, .inl i :: .inr (some q) :: S, h) = mj_aR h q (101 + a) i (fun v => mj_Rn P (d + 1) M (pc + 1, L, .inr v :: S, h)) := by
  rw [mj_Rn_eq hc rfl L _ h]
  show (if i < 0 then none else (match mj_gf h q (101 + a) i.toNatClampNeg with | some (.inr v) => mj_go (pc + 1) L (.inr v :: S) h | _ => none)).bind _ = _
  unfold mj_aR
  by_cases hi : i < 0
  · simp only [if_pos hi]; rfl
  · simp only [if_neg hi]
    cases mj_gf h q (101 + a) i.toNatClampNeg with
    | none => rfl
    | some w => cases w <;> rfl
theorem op_ast (hc : P.1 M pc = some (.iastore, len, a, b)) (q : Nat) (i x : Int32) : mj_Rn P (d + 1) M (pc, L, .inl x :: .inl i :: .inr (some q) :: S, h) = mj_aP h q 100 i (.inl x) (fun h' => mj_Rn P (d + 1) M (pc + 1, L, S, h')) := by
  rw [mj_Rn_eq hc rfl L _ h]
  show (if i < 0 then none else (match mj_pf h q 100 i.toNatClampNeg (.inl x) with | some h' => mj_go (pc + 1) L S h' | none => none)).bind _ = _
  unfold mj_aP
  by_cases hi : i < 0
  · simp only [if_pos hi]; rfl
  · simp only [if_neg hi]
    cases mj_pf h q 100 i.toNatClampNeg (.inl x) <;> rfl
theorem op_bst (hc : P.1 M pc = some (.bastore, len, a, b)) (q : Nat) (i x : Int32) : mj_Rn P (d + 1) M (pc, L, .inl x :: .inl i :: .inr (some q) :: S, h) = if x = 0 ∨ x = 1 then mj_aP h q 200 i (.inl x) (fun h' => mj_Rn P (d + 1) M (pc + 1, L, S, h')) else none := by
  rw [mj_Rn_eq hc rfl L _ h]
  show (if i < 0 ∨ ¬ (x = 0 ∨ x = 1) then none else (match mj_pf h q 200 i.toNatClampNeg (.inl x) with | some h' => mj_go (pc + 1) L S h' | none => none)).bind _ = _
  unfold mj_aP
  by_cases hx : x = 0 ∨ x = 1
  · by_cases hi : i < 0
    · rw [if_pos (Or.inl hi), if_pos hx, if_pos hi]; rfl
    · rw [if_neg (fun z => z.elim hi (fun w => w hx)), if_pos hx, if_neg hi]
      cases mj_pf h q 200 i.toNatClampNeg (.inl x) <;> rfl
  · rw [if_pos (Or.inr hx), if_neg hx]; rfl
theorem op_rst (hc : P.1 M pc = some (.aastore, len, a, b)) (q : Nat) (i : Int32) (v : Option Nat) : mj_Rn P (d + 1) M (pc, L, .inr v :: .inl i :: .inr (some q) :: S, h) = if mj_tv h v a = true then mj_aP h q (101 + a) i (.inr v) (fun h' => mj_Rn P (d + 1) M (pc + 1, L, S, h')) else none := by
  rw [mj_Rn_eq hc rfl L _ h]
  show (if i < 0 ∨ mj_tv h v a = false then none else (match mj_pf h q (101 + a) i.toNatClampNeg (.inr v) with | some h' => mj_go (pc + 1) L S h' | none => none)).bind _ = _
  unfold mj_aP
  cases hx : mj_tv h v a with
  | true =>
    by_cases hi : i < 0
    · rw [if_pos (Or.inl hi), if_pos rfl, if_pos hi]; rfl
    · rw [if_neg (fun z => z.elim hi (fun w => by cases w)), if_pos rfl, if_neg hi]
      cases mj_pf h q (101 + a) i.toNatClampNeg (.inr v) <;> rfl
  | false => rw [if_pos (Or.inr rfl), if_neg (by decide)]; rfl
theorem op_inv0 (hn : b ≤ S.length ∧ S.length ≤ b + 8) : (mj_inv (mj_Cl P d) a b pc L S h).bind (mj_Rn P (d + 1) M) = mj_bc (mj_Cl P d a (S.take b).reverse h) (fun r h' => mj_Rn P (d + 1) M (pc + 3, L, r ++ S.drop b, h')) := by
  unfold mj_inv mj_bc
  rw [if_pos hn]
  cases mj_Cl P d a (S.take b).reverse h <;> rfl
end OPS
