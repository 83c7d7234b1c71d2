/-! THE SMALL MACHINE: values without types, a heap that is a list of cells (a tag and a list of values; a handle is a place in the list; place 0 is the script), methods by number, instructions that are resolved. Pure; what it answers is what the machine answers (part 30). -/
abbrev mj_V : Type := Int32 ⊕ Option Nat
abbrev mj_C : Type := Nat × List mj_V
abbrev mj_H : Type := List mj_C
abbrev mj_L : Type := List (Option mj_V)
abbrev mj_R : Type := Option mj_V × mj_H
/-- an instruction, its length, two numbers (class and slot, target, callee and its count of arguments) -/
abbrev mj_I : Type := Instr × Nat × Nat × Nat
/-- where a frame stands: pc, locals, operands, heap -/
abbrev mj_N : Type := Nat × mj_L × List mj_V × mj_H
abbrev mj_O : Type := mj_R ⊕ mj_N
/-- a program: the code, the number of locals, the kind of the answer (0 none, 1 int, 2 boolean, 3 reference), the fields of a new object, the kind of a field (0 int, 1 boolean, 2 reference), the class of a method -/
abbrev mj_P : Type := (Nat → Nat → Option mj_I) × (Nat → Nat) × (Nat → Nat) × (Nat → List mj_V) × (Nat → Nat → Nat) × (Nat → Nat)
def mj_gf (h : mj_H) (a c k : Nat) : Option mj_V := match h[a]? with
  | some q => if q.1 = c then q.2[k]? else none
  | none => none
def mj_pf (h : mj_H) (a c k : Nat) (v : mj_V) : Option mj_H := match h[a]? with
  | some q => if q.1 = c ∧ k < q.2.length ∧ a ≠ 0 then some (h.set a (c, q.2.set k v)) else none
  | none => none
def mj_ln (h : mj_H) (a : Nat) : Option Nat := match h[a]? with
  | some q => if q.1 = 100 then some q.2.length else none
  | none => none
def mj_tg (h : mj_H) (a c : Nat) : Bool := match h[a]? with
  | some q => decide (q.1 = c)
  | none => false
/-- null, or an object of class c -/
def mj_tv (h : mj_H) (v : Option Nat) (c : Nat) : Bool := match v with
  | some q => mj_tg h q c
  | none => true
def mj_go (pc : Nat) (L : mj_L) (S : List mj_V) (h : mj_H) : Option mj_N := some (pc, L, S, h)
def mj_b2 (f : Int32 → Int32 → Int32) (pc : Nat) (L : mj_L) (S : List mj_V) (h : mj_H) : Option mj_N := match S with
  | .inl y :: .inl x :: S => mj_go (pc + 1) L (.inl (f x y) :: S) h
  | _ => none
def mj_d2 (f : Int32 → Int32 → Int32) (pc : Nat) (L : mj_L) (S : List mj_V) (h : mj_H) : Option mj_N := match S with
  | .inl y :: .inl x :: S => if y = 0 then none else mj_go (pc + 1) L (.inl (f x y) :: S) h
  | _ => none
def mj_li (k n pc : Nat) (L : mj_L) (S : List mj_V) (h : mj_H) : Option mj_N := match L[k]? with
  | some (some (.inl x)) => mj_go (pc + n) L (.inl x :: S) h
  | _ => none
def mj_la (k n pc : Nat) (L : mj_L) (S : List mj_V) (h : mj_H) : Option mj_N := match L[k]? with
  | some (some (.inr x)) => mj_go (pc + n) L (.inr x :: S) h
  | _ => none
def mj_si (k n pc : Nat) (L : mj_L) (S : List mj_V) (h : mj_H) : Option mj_N := match S with
  | .inl x :: S => if k < L.length then mj_go (pc + n) (L.set k (some (.inl x))) S h else none
  | _ => none
def mj_sa (k n pc : Nat) (L : mj_L) (S : List mj_V) (h : mj_H) : Option mj_N := match S with
  | .inr x :: S => if k < L.length then mj_go (pc + n) (L.set k (some (.inr x))) S h else none
  | _ => none
def mj_c1 (q : Int32 → Bool) (t pc : Nat) (L : mj_L) (S : List mj_V) (h : mj_H) : Option mj_N := match S with
  | .inl x :: S => if q x then mj_go t L S h else mj_go (pc + 3) L S h
  | _ => none
def mj_c2 (q : Int32 → Int32 → Bool) (t pc : Nat) (L : mj_L) (S : List mj_V) (h : mj_H) : Option mj_N := match S with
  | .inl y :: .inl x :: S => if q x y then mj_go t L S h else mj_go (pc + 3) L S h
  | _ => none
def mj_ca (q : Option Nat → Option Nat → Bool) (t pc : Nat) (L : mj_L) (S : List mj_V) (h : mj_H) : Option mj_N := match S with
  | .inr y :: .inr x :: S => if q x y then mj_go t L S h else mj_go (pc + 3) L S h
  | _ => none
def mj_cn (z : Bool) (t pc : Nat) (L : mj_L) (S : List mj_V) (h : mj_H) : Option mj_N := match S with
  | .inr x :: S => if x.isNone = z then mj_go t L S h else mj_go (pc + 3) L S h
  | _ => none
def mj_get (c k pc : Nat) (L : mj_L) (S : List mj_V) (h : mj_H) : Option mj_N := match S with
  | .inr (some a) :: S => (match mj_gf h a c k with
    | some v => mj_go (pc + 3) L (v :: S) h
    | none => none)
  | _ => none
/-- a value that a slot of that kind (0 int, 1 boolean, 2 reference) holds as it is -/
def mj_zk (z : Nat) (v : mj_V) : Bool := match v with
  | .inl x => decide (z = 0 ∨ (z = 1 ∧ (x = 0 ∨ x = 1)))
  | .inr _ => decide (z = 2)
def mj_put (z : Nat → Nat → Nat) (c k pc : Nat) (L : mj_L) (S : List mj_V) (h : mj_H) : Option mj_N := match S with
  | v :: .inr (some a) :: S => if mj_zk (z c k) v = true then (match mj_pf h a c k v with
    | some h' => mj_go (pc + 3) L S h'
    | none => none) else none
  | _ => none
def mj_ald (pc : Nat) (L : mj_L) (S : List mj_V) (h : mj_H) : Option mj_N := match S with
  | .inl i :: .inr (some a) :: S => if i < 0 then none else (match mj_gf h a 100 i.toNatClampNeg with
    | some (.inl v) => mj_go (pc + 1) L (.inl v :: S) h
    | _ => none)
  | _ => none
def mj_rld (c pc : Nat) (L : mj_L) (S : List mj_V) (h : mj_H) : Option mj_N := match S with
  | .inl i :: .inr (some a) :: S => if i < 0 then none else (match mj_gf h a (101 + c) i.toNatClampNeg with
    | some (.inr v) => mj_go (pc + 1) L (.inr v :: S) h
    | _ => none)
  | _ => none
def mj_bld (pc : Nat) (L : mj_L) (S : List mj_V) (h : mj_H) : Option mj_N := match S with
  | .inl i :: .inr (some a) :: S => if i < 0 then none else (match mj_gf h a 200 i.toNatClampNeg with
    | some (.inl v) => mj_go (pc + 1) L (.inl v :: S) h
    | _ => none)
  | _ => none
def mj_bst (pc : Nat) (L : mj_L) (S : List mj_V) (h : mj_H) : Option mj_N := match S with
  | .inl x :: .inl i :: .inr (some a) :: S => if i < 0 ∨ ¬ (x = 0 ∨ x = 1) then none else (match mj_pf h a 200 i.toNatClampNeg (.inl x) with
    | some h' => mj_go (pc + 1) L S h'
    | none => none)
  | _ => none
def mj_ast (pc : Nat) (L : mj_L) (S : List mj_V) (h : mj_H) : Option mj_N := match S with
  | .inl x :: .inl i :: .inr (some a) :: S => if i < 0 then none else (match mj_pf h a 100 i.toNatClampNeg (.inl x) with
    | some h' => mj_go (pc + 1) L S h'
    | none => none)
  | _ => none
def mj_rst (c pc : Nat) (L : mj_L) (S : List mj_V) (h : mj_H) : Option mj_N := match S with
  | .inr v :: .inl i :: .inr (some a) :: S => if i < 0 ∨ mj_tv h v c = false then none else (match mj_pf h a (101 + c) i.toNatClampNeg (.inr v) with
    | some h' => mj_go (pc + 1) L S h'
    | none => none)
  | _ => none
def mj_al (pc : Nat) (L : mj_L) (S : List mj_V) (h : mj_H) : Option mj_N := match S with
  | .inr (some a) :: S => (match mj_ln h a with
    | some n => mj_go (pc + 1) L (.inl (Int32.ofNat n) :: S) h
    | none => none)
  | _ => none
def mj_mk (t n pc : Nat) (v : mj_V) (L : mj_L) (S : List mj_V) (h : mj_H) : Option mj_N := match S with
  | .inl x :: S => if x < 0 ∨ 100000 < x.toNatClampNeg then none else mj_go (pc + n) L (.inr (some h.length) :: S) (h ++ [(t, List.replicate x.toNatClampNeg v)])
  | _ => none
def mj_sw (o : Int → Int) (pc : Nat) (L : mj_L) (S : List mj_V) (h : mj_H) : Option mj_N := match S with
  | .inl x :: S => if 0 ≤ (pc : Int) + o x.toInt then mj_go ((pc : Int) + o x.toInt).toNat L S h else none
  | _ => none
/-- a call: its arguments (the receiver among them, if there is one) lie on the stack, the last on top -/
def mj_inv (call : Nat → List mj_V → mj_H → Option mj_R) (y n pc : Nat) (L : mj_L) (S : List mj_V) (h : mj_H) : Option mj_N :=
  if n ≤ S.length ∧ S.length ≤ n + 8 then (match call y (S.take n).reverse h with
    | some r => mj_go (pc + 3) L (r.1.toList ++ S.drop n) r.2
    | none => none) else none
/-- the receiver is an object of class c -/
def mj_rcv (c n : Nat) (S : List mj_V) (h : mj_H) : Bool := match S[n]? with
  | some (.inr (some a)) => mj_tg h a c
  | _ => false
/-- Math.min, Math.max -/
def mj_b3 (f : Int32 → Int32 → Int32) (pc : Nat) (L : mj_L) (S : List mj_V) (h : mj_H) : Option mj_N := match S with
  | .inl y :: .inl x :: S => if S.length ≤ 8 then mj_go (pc + 3) L (.inl (f x y) :: S) h else none
  | _ => none
/-- Object's own constructor -/
def mj_oin (pc : Nat) (L : mj_L) (S : List mj_V) (h : mj_H) : Option mj_N := match S with
  | .inr (some _) :: S => if S.length ≤ 8 then mj_go (pc + 3) L S h else none
  | _ => none
def mj_tbl (d lo hi : Int) (os : Array Int) (x : Int) : Int := if x < lo ∨ hi < x then d else (os[(x - lo).toNat]?).getD d
/-- the three that return -/
def mj_ir (i : Instr) : Bool := match i with
  | .ireturn => true
  | .areturn => true
  | .return_ => true
  | _ => false
def mj_rt (rk : Nat) (i : Instr) (S : List mj_V) (h : mj_H) : Option mj_R := match i with
  | .ireturn => (match S with
    | [.inl x] => if rk = 1 ∨ (rk = 2 ∧ (x = 0 ∨ x = 1)) then some (some (.inl x), h) else none
    | _ => none)
  | .areturn => (match S with
    | [.inr x] => if rk = 3 then some (some (.inr x), h) else none
    | _ => none)
  | .return_ => (match S with
    | [] => if rk = 0 then some (none, h) else none
    | _ => none)
  | _ => none
def mj_st (P : mj_P) (call : Nat → List mj_V → mj_H → Option mj_R) (i : mj_I) (pc : Nat) (L : mj_L) (S : List mj_V) (h : mj_H) : Option mj_N := match i.1 with
  | .iconst n => mj_go (pc + 1) L (.inl (Int32.ofInt n) :: S) h
  | .bipush n => mj_go (pc + 2) L (.inl (Int8.ofInt n).toInt32 :: S) h
  | .sipush n => mj_go (pc + 3) L (.inl (Int16.ofInt n).toInt32 :: S) h
  | .aconst_null => mj_go (pc + 1) L (.inr none :: S) h
  | .iload_n k => mj_li k.val 1 pc L S h
  | .iload k => mj_li k 2 pc L S h
  | .aload_n k => mj_la k.val 1 pc L S h
  | .aload k => mj_la k 2 pc L S h
  | .istore_n k => mj_si k.val 1 pc L S h
  | .istore k => mj_si k 2 pc L S h
  | .astore_n k => mj_sa k.val 1 pc L S h
  | .astore k => mj_sa k 2 pc L S h
  | .iinc k n => (match L[k]? with
    | some (some (.inl x)) => mj_go (pc + 3) (L.set k (some (.inl (x + Int32.ofInt n)))) S h
    | _ => none)
  | .iadd => mj_b2 (fun x y => x + y) pc L S h
  | .isub => mj_b2 (fun x y => x - y) pc L S h
  | .imul => mj_b2 (fun x y => x * y) pc L S h
  | .iand => mj_b2 (fun x y => x &&& y) pc L S h
  | .ior => mj_b2 (fun x y => x ||| y) pc L S h
  | .ixor => mj_b2 (fun x y => x ^^^ y) pc L S h
  | .ishl => mj_b2 (fun x y => x <<< (y &&& 31)) pc L S h
  | .ishr => mj_b2 (fun x y => x >>> (y &&& 31)) pc L S h
  | .idiv => mj_d2 (fun x y => x / y) pc L S h
  | .irem => mj_d2 (fun x y => x - x / y * y) pc L S h
  | .dup => (match S with
    | v :: S => mj_go (pc + 1) L (v :: v :: S) h
    | _ => none)
  | .pop => (match S with
    | _ :: S => mj_go (pc + 1) L S h
    | _ => none)
  | .dup_x1 => (match S with
    | v :: w :: S => mj_go (pc + 1) L (v :: w :: v :: S) h
    | _ => none)
  | .dup2 => (match S with
    | v :: w :: S => mj_go (pc + 1) L (v :: w :: v :: w :: S) h
    | _ => none)
  | .ifCond .eq _ => mj_c1 (fun x => decide (x = 0)) i.2.2.1 pc L S h
  | .ifCond .ne _ => mj_c1 (fun x => decide (¬ x = 0)) i.2.2.1 pc L S h
  | .ifCond .lt _ => mj_c1 (fun x => decide (x < 0)) i.2.2.1 pc L S h
  | .ifCond .ge _ => mj_c1 (fun x => decide (0 ≤ x)) i.2.2.1 pc L S h
  | .ifCond .gt _ => mj_c1 (fun x => decide (0 < x)) i.2.2.1 pc L S h
  | .ifCond .le _ => mj_c1 (fun x => decide (x ≤ 0)) i.2.2.1 pc L S h
  | .if_icmp .eq _ => mj_c2 (fun x y => decide (x = y)) i.2.2.1 pc L S h
  | .if_icmp .ne _ => mj_c2 (fun x y => decide (¬ x = y)) i.2.2.1 pc L S h
  | .if_icmp .lt _ => mj_c2 (fun x y => decide (x < y)) i.2.2.1 pc L S h
  | .if_icmp .ge _ => mj_c2 (fun x y => decide (y ≤ x)) i.2.2.1 pc L S h
  | .if_icmp .gt _ => mj_c2 (fun x y => decide (y < x)) i.2.2.1 pc L S h
  | .if_icmp .le _ => mj_c2 (fun x y => decide (x ≤ y)) i.2.2.1 pc L S h
  | .if_acmp .eq _ => mj_ca (fun x y => decide (x = y)) i.2.2.1 pc L S h
  | .if_acmp .ne _ => mj_ca (fun x y => decide (¬ x = y)) i.2.2.1 pc L S h
  | .ifnull _ => mj_cn true i.2.2.1 pc L S h
  | .ifnonnull _ => mj_cn false i.2.2.1 pc L S h
  | .goto _ => mj_go i.2.2.1 L S h
  | .tableswitch d lo hi os => mj_sw (mj_tbl d lo hi os) pc L S h
  | .getfield _ => mj_get i.2.2.1 i.2.2.2 pc L S h
  | .putfield _ => mj_put P.2.2.2.2.1 i.2.2.1 i.2.2.2 pc L S h
  | .new _ => mj_go (pc + 3) L (.inr (some h.length) :: S) (h ++ [(i.2.2.1, P.2.2.2.1 i.2.2.1)])
  | .newarray .int => mj_mk 100 2 pc (.inl 0) L S h
  | .newarray .boolean => mj_mk 200 2 pc (.inl 0) L S h
  | .anewarray _ => mj_mk (101 + i.2.2.1) 3 pc (.inr none) L S h
  | .arraylength => mj_al pc L S h
  | .iaload => mj_ald pc L S h
  | .iastore => mj_ast pc L S h
  | .baload => mj_bld pc L S h
  | .bastore => mj_bst pc L S h
  | .aaload => mj_rld i.2.2.1 pc L S h
  | .aastore => mj_rst i.2.2.1 pc L S h
  | .invokestatic _ => if i.2.2.1 = 9998 then mj_b3 (fun x y => if y < x then y else x) pc L S h else if i.2.2.1 = 9997 then mj_b3 (fun x y => if x < y then y else x) pc L S h else mj_inv call i.2.2.1 i.2.2.2 pc L S h
  | .invokevirtual _ => if mj_rcv (P.2.2.2.2.2 i.2.2.1) (i.2.2.2 - 1) S h = true then mj_inv call i.2.2.1 i.2.2.2 pc L S h else none
  | .invokespecial _ => if i.2.2.1 = 9999 then mj_oin pc L S h else if mj_rcv (P.2.2.2.2.2 i.2.2.1) (i.2.2.2 - 1) S h = true then mj_inv call i.2.2.1 i.2.2.2 pc L S h else none
  | _ => none
def mj_stp (P : mj_P) (call : Nat → List mj_V → mj_H → Option mj_R) (M : Nat) (x : mj_N) : Option mj_O := match P.1 M x.1 with
  | some i => if mj_ir i.1 = true then (mj_rt (P.2.2.1 M) i.1 x.2.2.1 x.2.2.2).map Sum.inl else (mj_st P call i x.1 x.2.1 x.2.2.1 x.2.2.2).map Sum.inr
  | none => none
def mj_it (st : mj_N → Option mj_O) : Nat → mj_N → Option mj_R
  | 0, _ => none
  | n + 1, x => match st x with
    | some (.inl r) => some r
    | some (.inr y) => mj_it st n y
    | none => none
noncomputable def mj_fix (st : mj_N → Option mj_O) (x : mj_N) : Option mj_R := @dite _ (∃ r n, mj_it st n x = some r) (Classical.propDecidable _) (fun h => some h.choose) (fun _ => none)
def mj_en (P : mj_P) (M : Nat) (as : List mj_V) (h : mj_H) : mj_N := (0, as.map some ++ List.replicate (P.2.1 M - as.length) none, [], h)
/-- what a method does from a place of it on, with at most d frames (its own among them) -/
noncomputable def mj_Rn (P : mj_P) : Nat → Nat → mj_N → Option mj_R
  | 0, _, _ => none
  | d + 1, M, x => mj_fix (mj_stp P (fun M' as h => mj_Rn P d M' (mj_en P M' as h)) M) x
noncomputable def mj_Cl (P : mj_P) (d M : Nat) (as : List mj_V) (h : mj_H) : Option mj_R := mj_Rn P d M (mj_en P M as h)
theorem mj_it_det {st : mj_N → Option mj_O} : ∀ (n m : Nat) (x : mj_N) (r q : mj_R), mj_it st n x = some r → mj_it st m x = some q → r = q := by
  intro n
  induction n with
  | zero => intro m x r q h1; cases h1
  | succ n ih =>
    intro m x r q h1 h2
    cases m with
    | zero => cases h2
    | succ m =>
      simp only [mj_it] at h1 h2
      cases hs : st x with
      | none => rw [hs] at h1; cases h1
      | some o =>
        rw [hs] at h1 h2
        cases o with
        | inl z => cases h1; cases h2; rfl
        | inr y => exact ih m y r q h1 h2
theorem mj_fix_some {st : mj_N → Option mj_O} {x : mj_N} {r : mj_R} : mj_fix st x = some r ↔ ∃ n, mj_it st n x = some r := by
  unfold mj_fix
  by_cases h : ∃ r n, mj_it st n x = some r
  · rw [dif_pos h]
    constructor
    · intro e
      cases e
      exact h.choose_spec
    · intro ⟨n, hn⟩
      obtain ⟨m, hm⟩ := h.choose_spec
      rw [mj_it_det m n x _ _ hm hn]
  · rw [dif_neg h]
    constructor
    · intro e; cases e
    · intro hn; exact absurd ⟨r, hn⟩ h
theorem mj_opt_ext {α : Type} {a b : Option α} (h : ∀ r, a = some r ↔ b = some r) : a = b := by
  cases a with
  | none => cases b with
    | none => rfl
    | some y => exact absurd ((h y).mpr rfl) (fun e => by cases e)
  | some x => exact ((h x).mp rfl).symm
theorem mj_fix_eq (st : mj_N → Option mj_O) (x : mj_N) : mj_fix st x = match st x with
    | some (.inl r) => some r
    | some (.inr y) => mj_fix st y
    | none => none := by
  refine mj_opt_ext (fun r => ?_)
  rw [mj_fix_some]
  cases hs : st x with
  | none =>
    refine ⟨fun ⟨n, hn⟩ => ?_, fun e => by cases e⟩
    cases n with
    | zero => cases hn
    | succ n => simp only [mj_it, hs] at hn; cases hn
  | some o =>
    cases o with
    | inl z =>
      refine ⟨fun ⟨n, hn⟩ => ?_, fun e => ⟨1, by simp only [mj_it, hs]; exact e⟩⟩
      cases n with
      | zero => cases hn
      | succ n => simp only [mj_it, hs] at hn; exact hn
    | inr y =>
      show _ ↔ mj_fix st y = some r
      rw [mj_fix_some]
      refine ⟨fun ⟨n, hn⟩ => ?_, fun ⟨n, hn⟩ => ⟨n + 1, by simp only [mj_it, hs]; exact hn⟩⟩
      cases n with
      | zero => cases hn
      | succ n => simp only [mj_it, hs] at hn; exact ⟨n, hn⟩
/-- one instruction -/
theorem mj_Rn_eq {P : mj_P} {d M pc : Nat} {i : mj_I} (hc : P.1 M pc = some i) (hi : mj_ir i.1 = false) (L : mj_L) (S : List mj_V) (h : mj_H) : mj_Rn P (d + 1) M (pc, L, S, h) = (mj_st P (mj_Cl P d) i pc L S h).bind (mj_Rn P (d + 1) M) := by
  show mj_fix _ _ = _
  rw [mj_fix_eq]
  have e : mj_stp P (fun M' as h => mj_Rn P d M' (mj_en P M' as h)) M (pc, L, S, h) = (mj_st P (mj_Cl P d) i pc L S h).map Sum.inr := by
    unfold mj_stp
    simp only [hc, hi]
    rfl
  rw [e]
  cases mj_st P (mj_Cl P d) i pc L S h with
  | none => rfl
  | some y => rfl
theorem mj_Rn_ret {P : mj_P} {d M pc : Nat} {i : mj_I} (hc : P.1 M pc = some i) (hi : mj_ir i.1 = true) (L : mj_L) (S : List mj_V) (h : mj_H) : mj_Rn P (d + 1) M (pc, L, S, h) = mj_rt (P.2.2.1 M) i.1 S h := by
  show mj_fix _ _ = _
  rw [mj_fix_eq]
  have e : mj_stp P (fun M' as h => mj_Rn P d M' (mj_en P M' as h)) M (pc, L, S, h) = (mj_rt (P.2.2.1 M) i.1 S h).map Sum.inl := by
    unfold mj_stp
    simp only [hc, hi]
    rfl
  rw [e]
  cases mj_rt (P.2.2.1 M) i.1 S h with
  | none => rfl
  | some y => rfl
