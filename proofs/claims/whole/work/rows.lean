section
/-! THE SMALL MACHINE: values without types, a heap that is a list of cells (a tag and a list of values; a handle is a place in the list; place 0 is the script), methods by number, instructions that are resolved. Pure; what it answers is what the machine answers (part 30). -/
abbrev mj_V : Type := Int32 ⊕ Option Nat
abbrev mj_C : Type := Nat × List mj_V
abbrev mj_H : Type := List mj_C
abbrev mj_L : Type := List (Option mj_V)
abbrev mj_R : Type := Option mj_V × mj_H
/-- an instruction, its length, two numbers (class and slot, target, callee and its count of arguments) -/
abbrev mj_I : Type := Instr × Nat × Nat × Nat
/-- where a frame stands: pc, locals, operands, heap -/
abbrev mj_N : Type := Nat × mj_L × List mj_V × mj_H
abbrev mj_O : Type := mj_R ⊕ mj_N
/-- a program: the code, the number of locals, the kind of the answer (0 none, 1 int, 2 boolean, 3 reference), the fields of a new object, the kind of a field (0 int, 1 boolean, 2 reference), the class of a method -/
abbrev mj_P : Type := (Nat → Nat → Option mj_I) × (Nat → Nat) × (Nat → Nat) × (Nat → List mj_V) × (Nat → Nat → Nat) × (Nat → Nat)
def mj_gf (h : mj_H) (a c k : Nat) : Option mj_V := match h[a]? with
  | some q => if q.1 = c then q.2[k]? else none
  | none => none
def mj_pf (h : mj_H) (a c k : Nat) (v : mj_V) : Option mj_H := match h[a]? with
  | some q => if q.1 = c ∧ k < q.2.length ∧ a ≠ 0 then some (h.set a (c, q.2.set k v)) else none
  | none => none
def mj_ln (h : mj_H) (a : Nat) : Option Nat := match h[a]? with
  | some q => if q.1 = 100 then some q.2.length else none
  | none => none
def mj_tg (h : mj_H) (a c : Nat) : Bool := match h[a]? with
  | some q => decide (q.1 = c)
  | none => false
/-- null, or an object of class c -/
def mj_tv (h : mj_H) (v : Option Nat) (c : Nat) : Bool := match v with
  | some q => mj_tg h q c
  | none => true
def mj_go (pc : Nat) (L : mj_L) (S : List mj_V) (h : mj_H) : Option mj_N := some (pc, L, S, h)
def mj_b2 (f : Int32 → Int32 → Int32) (pc : Nat) (L : mj_L) (S : List mj_V) (h : mj_H) : Option mj_N := match S with
  | .inl y :: .inl x :: S => mj_go (pc + 1) L (.inl (f x y) :: S) h
  | _ => none
def mj_d2 (f : Int32 → Int32 → Int32) (pc : Nat) (L : mj_L) (S : List mj_V) (h : mj_H) : Option mj_N := match S with
  | .inl y :: .inl x :: S => if y = 0 then none else mj_go (pc + 1) L (.inl (f x y) :: S) h
  | _ => none
def mj_li (k n pc : Nat) (L : mj_L) (S : List mj_V) (h : mj_H) : Option mj_N := match L[k]? with
  | some (some (.inl x)) => mj_go (pc + n) L (.inl x :: S) h
  | _ => none
def mj_la (k n pc : Nat) (L : mj_L) (S : List mj_V) (h : mj_H) : Option mj_N := match L[k]? with
  | some (some (.inr x)) => mj_go (pc + n) L (.inr x :: S) h
  | _ => none
def mj_si (k n pc : Nat) (L : mj_L) (S : List mj_V) (h : mj_H) : Option mj_N := match S with
  | .inl x :: S => if k < L.length then mj_go (pc + n) (L.set k (some (.inl x))) S h else none
  | _ => none
def mj_sa (k n pc : Nat) (L : mj_L) (S : List mj_V) (h : mj_H) : Option mj_N := match S with
  | .inr x :: S => if k < L.length then mj_go (pc + n) (L.set k (some (.inr x))) S h else none
  | _ => none
def mj_c1 (q : Int32 → Bool) (t pc : Nat) (L : mj_L) (S : List mj_V) (h : mj_H) : Option mj_N := match S with
  | .inl x :: S => if q x then mj_go t L S h else mj_go (pc + 3) L S h
  | _ => none
def mj_c2 (q : Int32 → Int32 → Bool) (t pc : Nat) (L : mj_L) (S : List mj_V) (h : mj_H) : Option mj_N := match S with
  | .inl y :: .inl x :: S => if q x y then mj_go t L S h else mj_go (pc + 3) L S h
  | _ => none
def mj_ca (q : Option Nat → Option Nat → Bool) (t pc : Nat) (L : mj_L) (S : List mj_V) (h : mj_H) : Option mj_N := match S with
  | .inr y :: .inr x :: S => if q x y then mj_go t L S h else mj_go (pc + 3) L S h
  | _ => none
def mj_cn (z : Bool) (t pc : Nat) (L : mj_L) (S : List mj_V) (h : mj_H) : Option mj_N := match S with
  | .inr x :: S => if x.isNone = z then mj_go t L S h else mj_go (pc + 3) L S h
  | _ => none
def mj_get (c k pc : Nat) (L : mj_L) (S : List mj_V) (h : mj_H) : Option mj_N := match S with
  | .inr (some a) :: S => (match mj_gf h a c k with
    | some v => mj_go (pc + 3) L (v :: S) h
    | none => none)
  | _ => none
/-- a value that a slot of that kind (0 int, 1 boolean, 2 reference) holds as it is -/
def mj_zk (z : Nat) (v : mj_V) : Bool := match v with
  | .inl x => decide (z = 0 ∨ (z = 1 ∧ (x = 0 ∨ x = 1)))
  | .inr _ => decide (z = 2)
def mj_put (z : Nat → Nat → Nat) (c k pc : Nat) (L : mj_L) (S : List mj_V) (h : mj_H) : Option mj_N := match S with
  | v :: .inr (some a) :: S => if mj_zk (z c k) v = true then (match mj_pf h a c k v with
    | some h' => mj_go (pc + 3) L S h'
    | none => none) else none
  | _ => none
def mj_ald (pc : Nat) (L : mj_L) (S : List mj_V) (h : mj_H) : Option mj_N := match S with
  | .inl i :: .inr (some a) :: S => if i < 0 then none else (match mj_gf h a 100 i.toNatClampNeg with
    | some (.inl v) => mj_go (pc + 1) L (.inl v :: S) h
    | _ => none)
  | _ => none
def mj_rld (c pc : Nat) (L : mj_L) (S : List mj_V) (h : mj_H) : Option mj_N := match S with
  | .inl i :: .inr (some a) :: S => if i < 0 then none else (match mj_gf h a (101 + c) i.toNatClampNeg with
    | some (.inr v) => mj_go (pc + 1) L (.inr v :: S) h
    | _ => none)
  | _ => none
def mj_bld (pc : Nat) (L : mj_L) (S : List mj_V) (h : mj_H) : Option mj_N := match S with
  | .inl i :: .inr (some a) :: S => if i < 0 then none else (match mj_gf h a 200 i.toNatClampNeg with
    | some (.inl v) => mj_go (pc + 1) L (.inl v :: S) h
    | _ => none)
  | _ => none
def mj_bst (pc : Nat) (L : mj_L) (S : List mj_V) (h : mj_H) : Option mj_N := match S with
  | .inl x :: .inl i :: .inr (some a) :: S => if i < 0 ∨ ¬ (x = 0 ∨ x = 1) then none else (match mj_pf h a 200 i.toNatClampNeg (.inl x) with
    | some h' => mj_go (pc + 1) L S h'
    | none => none)
  | _ => none
def mj_ast (pc : Nat) (L : mj_L) (S : List mj_V) (h : mj_H) : Option mj_N := match S with
  | .inl x :: .inl i :: .inr (some a) :: S => if i < 0 then none else (match mj_pf h a 100 i.toNatClampNeg (.inl x) with
    | some h' => mj_go (pc + 1) L S h'
    | none => none)
  | _ => none
def mj_rst (c pc : Nat) (L : mj_L) (S : List mj_V) (h : mj_H) : Option mj_N := match S with
  | .inr v :: .inl i :: .inr (some a) :: S => if i < 0 ∨ mj_tv h v c = false then none else (match mj_pf h a (101 + c) i.toNatClampNeg (.inr v) with
    | some h' => mj_go (pc + 1) L S h'
    | none => none)
  | _ => none
def mj_al (pc : Nat) (L : mj_L) (S : List mj_V) (h : mj_H) : Option mj_N := match S with
  | .inr (some a) :: S => (match mj_ln h a with
    | some n => mj_go (pc + 1) L (.inl (Int32.ofNat n) :: S) h
    | none => none)
  | _ => none
def mj_mk (t n pc : Nat) (v : mj_V) (L : mj_L) (S : List mj_V) (h : mj_H) : Option mj_N := match S with
  | .inl x :: S => if x < 0 ∨ 100000 < x.toNatClampNeg then none else mj_go (pc + n) L (.inr (some h.length) :: S) (h ++ [(t, List.replicate x.toNatClampNeg v)])
  | _ => none
def mj_sw (o : Int → Int) (pc : Nat) (L : mj_L) (S : List mj_V) (h : mj_H) : Option mj_N := match S with
  | .inl x :: S => if 0 ≤ (pc : Int) + o x.toInt then mj_go ((pc : Int) + o x.toInt).toNat L S h else none
  | _ => none
/-- a call: its arguments (the receiver among them, if there is one) lie on the stack, the last on top -/
def mj_inv (call : Nat → List mj_V → mj_H → Option mj_R) (y n pc : Nat) (L : mj_L) (S : List mj_V) (h : mj_H) : Option mj_N :=
  if n ≤ S.length ∧ S.length ≤ n + 8 then (match call y (S.take n).reverse h with
    | some r => mj_go (pc + 3) L (r.1.toList ++ S.drop n) r.2
    | none => none) else none
/-- the receiver is an object of class c -/
def mj_rcv (c n : Nat) (S : List mj_V) (h : mj_H) : Bool := match S[n]? with
  | some (.inr (some a)) => mj_tg h a c
  | _ => false
/-- Object's own constructor -/
def mj_oin (pc : Nat) (L : mj_L) (S : List mj_V) (h : mj_H) : Option mj_N := match S with
  | .inr (some _) :: S => if S.length ≤ 8 then mj_go (pc + 3) L S h else none
  | _ => none
def mj_tbl (d lo hi : Int) (os : Array Int) (x : Int) : Int := if x < lo ∨ hi < x then d else (os[(x - lo).toNat]?).getD d
/-- the three that return -/
def mj_ir (i : Instr) : Bool := match i with
  | .ireturn => true
  | .areturn => true
  | .return_ => true
  | _ => false
def mj_rt (rk : Nat) (i : Instr) (S : List mj_V) (h : mj_H) : Option mj_R := match i with
  | .ireturn => (match S with
    | [.inl x] => if rk = 1 ∨ (rk = 2 ∧ (x = 0 ∨ x = 1)) then some (some (.inl x), h) else none
    | _ => none)
  | .areturn => (match S with
    | [.inr x] => if rk = 3 then some (some (.inr x), h) else none
    | _ => none)
  | .return_ => (match S with
    | [] => if rk = 0 then some (none, h) else none
    | _ => none)
  | _ => none
def mj_st (P : mj_P) (call : Nat → List mj_V → mj_H → Option mj_R) (i : mj_I) (pc : Nat) (L : mj_L) (S : List mj_V) (h : mj_H) : Option mj_N := match i.1 with
  | .iconst n => mj_go (pc + 1) L (.inl (Int32.ofInt n) :: S) h
  | .bipush n => mj_go (pc + 2) L (.inl (Int8.ofInt n).toInt32 :: S) h
  | .sipush n => mj_go (pc + 3) L (.inl (Int16.ofInt n).toInt32 :: S) h
  | .aconst_null => mj_go (pc + 1) L (.inr none :: S) h
  | .iload_n k => mj_li k.val 1 pc L S h
  | .iload k => mj_li k 2 pc L S h
  | .aload_n k => mj_la k.val 1 pc L S h
  | .aload k => mj_la k 2 pc L S h
  | .istore_n k => mj_si k.val 1 pc L S h
  | .istore k => mj_si k 2 pc L S h
  | .astore_n k => mj_sa k.val 1 pc L S h
  | .astore k => mj_sa k 2 pc L S h
  | .iinc k n => (match L[k]? with
    | some (some (.inl x)) => mj_go (pc + 3) (L.set k (some (.inl (x + Int32.ofInt n)))) S h
    | _ => none)
  | .iadd => mj_b2 (fun x y => x + y) pc L S h
  | .isub => mj_b2 (fun x y => x - y) pc L S h
  | .imul => mj_b2 (fun x y => x * y) pc L S h
  | .iand => mj_b2 (fun x y => x &&& y) pc L S h
  | .ior => mj_b2 (fun x y => x ||| y) pc L S h
  | .ixor => mj_b2 (fun x y => x ^^^ y) pc L S h
  | .ishl => mj_b2 (fun x y => x <<< (y &&& 31)) pc L S h
  | .ishr => mj_b2 (fun x y => x >>> (y &&& 31)) pc L S h
  | .idiv => mj_d2 (fun x y => x / y) pc L S h
  | .irem => mj_d2 (fun x y => x - x / y * y) pc L S h
  | .dup => (match S with
    | v :: S => mj_go (pc + 1) L (v :: v :: S) h
    | _ => none)
  | .pop => (match S with
    | _ :: S => mj_go (pc + 1) L S h
    | _ => none)
  | .dup_x1 => (match S with
    | v :: w :: S => mj_go (pc + 1) L (v :: w :: v :: S) h
    | _ => none)
  | .dup2 => (match S with
    | v :: w :: S => mj_go (pc + 1) L (v :: w :: v :: w :: S) h
    | _ => none)
  | .ifCond .eq _ => mj_c1 (fun x => decide (x = 0)) i.2.2.1 pc L S h
  | .ifCond .ne _ => mj_c1 (fun x => decide (¬ x = 0)) i.2.2.1 pc L S h
  | .ifCond .lt _ => mj_c1 (fun x => decide (x < 0)) i.2.2.1 pc L S h
  | .ifCond .ge _ => mj_c1 (fun x => decide (0 ≤ x)) i.2.2.1 pc L S h
  | .ifCond .gt _ => mj_c1 (fun x => decide (0 < x)) i.2.2.1 pc L S h
  | .ifCond .le _ => mj_c1 (fun x => decide (x ≤ 0)) i.2.2.1 pc L S h
  | .if_icmp .eq _ => mj_c2 (fun x y => decide (x = y)) i.2.2.1 pc L S h
  | .if_icmp .ne _ => mj_c2 (fun x y => decide (¬ x = y)) i.2.2.1 pc L S h
  | .if_icmp .lt _ => mj_c2 (fun x y => decide (x < y)) i.2.2.1 pc L S h
  | .if_icmp .ge _ => mj_c2 (fun x y => decide (y ≤ x)) i.2.2.1 pc L S h
  | .if_icmp .gt _ => mj_c2 (fun x y => decide (y < x)) i.2.2.1 pc L S h
  | .if_icmp .le _ => mj_c2 (fun x y => decide (x ≤ y)) i.2.2.1 pc L S h
  | .if_acmp .eq _ => mj_ca (fun x y => decide (x = y)) i.2.2.1 pc L S h
  | .if_acmp .ne _ => mj_ca (fun x y => decide (¬ x = y)) i.2.2.1 pc L S h
  | .ifnull _ => mj_cn true i.2.2.1 pc L S h
  | .ifnonnull _ => mj_cn false i.2.2.1 pc L S h
  | .goto _ => mj_go i.2.2.1 L S h
  | .tableswitch d lo hi os => mj_sw (mj_tbl d lo hi os) pc L S h
  | .getfield _ => mj_get i.2.2.1 i.2.2.2 pc L S h
  | .putfield _ => mj_put P.2.2.2.2.1 i.2.2.1 i.2.2.2 pc L S h
  | .new _ => mj_go (pc + 3) L (.inr (some h.length) :: S) (h ++ [(i.2.2.1, P.2.2.2.1 i.2.2.1)])
  | .newarray .int => mj_mk 100 2 pc (.inl 0) L S h
  | .newarray .boolean => mj_mk 200 2 pc (.inl 0) L S h
  | .anewarray _ => mj_mk (101 + i.2.2.1) 3 pc (.inr none) L S h
  | .arraylength => mj_al pc L S h
  | .iaload => mj_ald pc L S h
  | .iastore => mj_ast pc L S h
  | .baload => mj_bld pc L S h
  | .bastore => mj_bst pc L S h
  | .aaload => mj_rld i.2.2.1 pc L S h
  | .aastore => mj_rst i.2.2.1 pc L S h
  | .invokestatic _ => mj_inv call i.2.2.1 i.2.2.2 pc L S h
  | .invokevirtual _ => if mj_rcv (P.2.2.2.2.2 i.2.2.1) (i.2.2.2 - 1) S h = true then mj_inv call i.2.2.1 i.2.2.2 pc L S h else none
  | .invokespecial _ => if i.2.2.1 = 9999 then mj_oin pc L S h else if mj_rcv (P.2.2.2.2.2 i.2.2.1) (i.2.2.2 - 1) S h = true then mj_inv call i.2.2.1 i.2.2.2 pc L S h else none
  | _ => none
def mj_stp (P : mj_P) (call : Nat → List mj_V → mj_H → Option mj_R) (M : Nat) (x : mj_N) : Option mj_O := match P.1 M x.1 with
  | some i => if mj_ir i.1 = true then (mj_rt (P.2.2.1 M) i.1 x.2.2.1 x.2.2.2).map Sum.inl else (mj_st P call i x.1 x.2.1 x.2.2.1 x.2.2.2).map Sum.inr
  | none => none
def mj_it (st : mj_N → Option mj_O) : Nat → mj_N → Option mj_R
  | 0, _ => none
  | n + 1, x => match st x with
    | some (.inl r) => some r
    | some (.inr y) => mj_it st n y
    | none => none
noncomputable def mj_fix (st : mj_N → Option mj_O) (x : mj_N) : Option mj_R := @dite _ (∃ r n, mj_it st n x = some r) (Classical.propDecidable _) (fun h => some h.choose) (fun _ => none)
def mj_en (P : mj_P) (M : Nat) (as : List mj_V) (h : mj_H) : mj_N := (0, as.map some ++ List.replicate (P.2.1 M - as.length) none, [], h)
/-- what a method does from a place of it on, with at most d frames (its own among them) -/
noncomputable def mj_Rn (P : mj_P) : Nat → Nat → mj_N → Option mj_R
  | 0, _, _ => none
  | d + 1, M, x => mj_fix (mj_stp P (fun M' as h => mj_Rn P d M' (mj_en P M' as h)) M) x
noncomputable def mj_Cl (P : mj_P) (d M : Nat) (as : List mj_V) (h : mj_H) : Option mj_R := mj_Rn P d M (mj_en P M as h)
theorem mj_it_det {st : mj_N → Option mj_O} : ∀ (n m : Nat) (x : mj_N) (r q : mj_R), mj_it st n x = some r → mj_it st m x = some q → r = q := by
  intro n
  induction n with
  | zero => intro m x r q h1; cases h1
  | succ n ih =>
    intro m x r q h1 h2
    cases m with
    | zero => cases h2
    | succ m =>
      simp only [mj_it] at h1 h2
      cases hs : st x with
      | none => rw [hs] at h1; cases h1
      | some o =>
        rw [hs] at h1 h2
        cases o with
        | inl z => cases h1; cases h2; rfl
        | inr y => exact ih m y r q h1 h2
theorem mj_fix_some {st : mj_N → Option mj_O} {x : mj_N} {r : mj_R} : mj_fix st x = some r ↔ ∃ n, mj_it st n x = some r := by
  unfold mj_fix
  by_cases h : ∃ r n, mj_it st n x = some r
  · rw [dif_pos h]
    constructor
    · intro e
      cases e
      exact h.choose_spec
    · intro ⟨n, hn⟩
      obtain ⟨m, hm⟩ := h.choose_spec
      rw [mj_it_det m n x _ _ hm hn]
  · rw [dif_neg h]
    constructor
    · intro e; cases e
    · intro hn; exact absurd ⟨r, hn⟩ h
theorem mj_opt_ext {α : Type} {a b : Option α} (h : ∀ r, a = some r ↔ b = some r) : a = b := by
  cases a with
  | none => cases b with
    | none => rfl
    | some y => exact absurd ((h y).mpr rfl) (fun e => by cases e)
  | some x => exact ((h x).mp rfl).symm
theorem mj_fix_eq (st : mj_N → Option mj_O) (x : mj_N) : mj_fix st x = match st x with
    | some (.inl r) => some r
    | some (.inr y) => mj_fix st y
    | none => none := by
  refine mj_opt_ext (fun r => ?_)
  rw [mj_fix_some]
  cases hs : st x with
  | none =>
    refine ⟨fun ⟨n, hn⟩ => ?_, fun e => by cases e⟩
    cases n with
    | zero => cases hn
    | succ n => simp only [mj_it, hs] at hn; cases hn
  | some o =>
    cases o with
    | inl z =>
      refine ⟨fun ⟨n, hn⟩ => ?_, fun e => ⟨1, by simp only [mj_it, hs]; exact e⟩⟩
      cases n with
      | zero => cases hn
      | succ n => simp only [mj_it, hs] at hn; exact hn
    | inr y =>
      show _ ↔ mj_fix st y = some r
      rw [mj_fix_some]
      refine ⟨fun ⟨n, hn⟩ => ?_, fun ⟨n, hn⟩ => ⟨n + 1, by simp only [mj_it, hs]; exact hn⟩⟩
      cases n with
      | zero => cases hn
      | succ n => simp only [mj_it, hs] at hn; exact ⟨n, hn⟩
/-- one instruction -/
theorem mj_Rn_eq {P : mj_P} {d M pc : Nat} {i : mj_I} (hc : P.1 M pc = some i) (hi : mj_ir i.1 = false) (L : mj_L) (S : List mj_V) (h : mj_H) : mj_Rn P (d + 1) M (pc, L, S, h) = (mj_st P (mj_Cl P d) i pc L S h).bind (mj_Rn P (d + 1) M) := by
  show mj_fix _ _ = _
  rw [mj_fix_eq]
  have e : mj_stp P (fun M' as h => mj_Rn P d M' (mj_en P M' as h)) M (pc, L, S, h) = (mj_st P (mj_Cl P d) i pc L S h).map Sum.inr := by
    unfold mj_stp
    simp only [hc, hi]
    rfl
  rw [e]
  cases mj_st P (mj_Cl P d) i pc L S h with
  | none => rfl
  | some y => rfl
theorem mj_Rn_ret {P : mj_P} {d M pc : Nat} {i : mj_I} (hc : P.1 M pc = some i) (hi : mj_ir i.1 = true) (L : mj_L) (S : List mj_V) (h : mj_H) : mj_Rn P (d + 1) M (pc, L, S, h) = mj_rt (P.2.2.1 M) i.1 S h := by
  show mj_fix _ _ = _
  rw [mj_fix_eq]
  have e : mj_stp P (fun M' as h => mj_Rn P d M' (mj_en P M' as h)) M (pc, L, S, h) = (mj_rt (P.2.2.1 M) i.1 S h).map Sum.inl := by
    unfold mj_stp
    simp only [hc, hi]
    rfl
  rw [e]
  cases mj_rt (P.2.2.1 M) i.1 S h with
  | none => rfl
  | some y => rfl
end
section
/-! THE SMALL MACHINE AND THE MACHINE: what the small one answers, the machine answers. -/
def mj_ad (b base : Nat) : Nat → Nat
  | 0 => b
  | k + 1 => base + k
def mj_cv (ad : Nat → Nat) (v : mj_V) : Value := match v with
  | .inl x => .int x
  | .inr r => va_rf (r.map ad)
theorem mj_cv_cat (ad : Nat → Nat) (v : mj_V) : (mj_cv ad v).category = 1 := by
  cases v with
  | inl x => rfl
  | inr r => cases r <;> rfl
theorem mj_cat_sum (ad : Nat → Nat) (S : List mj_V) : ((S.map (mj_cv ad)).map fun v => v.category).sum = S.length := by
  induction S with
  | nil => rfl
  | cons v S ih => simp only [List.map_cons, List.sum_cons, ih, mj_cv_cat, List.length_cons]; omega
theorem mj_ad_inj {b base : Nat} (hb : b < base) : ∀ x y, mj_ad b base x = mj_ad b base y → x = y := by
  intro x y h
  cases x <;> cases y <;> simp only [mj_ad] at h <;> first | rfl | omega
def mj_int (v : Option mj_V) : Int32 := match v with
  | some (.inl x) => x
  | _ => 0
def mj_ref (ad : Nat → Nat) (v : Option mj_V) : Option Nat := match v with
  | some (.inr r) => r.map ad
  | _ => none
def mj_ce (ad : Nat → Nat) (cA : Nat → ClassId) (q : mj_C) : va_E := if q.1 < 100 then .inr (q.1, q.2.map (mj_cv ad)) else if q.1 = 100 then .inl (cA 0, q.2.length, .inl (fun j => mj_int q.2[j]?)) else if q.1 = 200 then .inl (cA 100, q.2.length, .inl (fun j => mj_int q.2[j]?)) else .inl (cA (q.1 - 100), q.2.length, .inr (.inr (.inr (.inr (fun j => mj_ref ad q.2[j]?)))))
def mj_wo (ad : Nat → Nat) (cA : Nat → ClassId) : Nat → List mj_C → va_W
  | _, [] => []
  | n, q :: t => (n, mj_ce ad cA q) :: mj_wo ad cA (n + 1) t
theorem mj_wo_get (ad : Nat → Nat) (cA : Nat → ClassId) : ∀ (t : List mj_C) (n k : Nat), (mj_wo ad cA n t)[k]? = (t[k]?).map (fun q => (n + k, mj_ce ad cA q)) := by
  intro t
  induction t with
  | nil => intro n k; simp [mj_wo]
  | cons q t ih =>
    intro n k
    cases k with
    | zero => simp [mj_wo]
    | succ k =>
      simp only [mj_wo, List.getElem?_cons_succ, ih]
      rw [show n + 1 + k = n + (k + 1) by omega]
theorem mj_wo_set (ad : Nat → Nat) (cA : Nat → ClassId) (q : mj_C) : ∀ (t : List mj_C) (n k : Nat), (mj_wo ad cA n t).set k (n + k, mj_ce ad cA q) = mj_wo ad cA n (t.set k q) := by
  intro t
  induction t with
  | nil => intro n k; simp [mj_wo]
  | cons r t ih =>
    intro n k
    cases k with
    | zero => simp [mj_wo]
    | succ k =>
      simp only [mj_wo, List.set_cons_succ]
      rw [show n + (k + 1) = n + 1 + k by omega, ih]
theorem mj_wo_app (ad : Nat → Nat) (cA : Nat → ClassId) (q : mj_C) : ∀ (t : List mj_C) (n : Nat), mj_wo ad cA n (t ++ [q]) = mj_wo ad cA n t ++ [(n + t.length, mj_ce ad cA q)] := by
  intro t
  induction t with
  | nil => intro n; simp [mj_wo]
  | cons r t ih =>
    intro n
    simp only [mj_wo, List.cons_append, ih, List.length_cons]
    rw [show n + 1 + t.length = n + (t.length + 1) by omega]
def mj_In (D : va_G) (cl : List vw_C) (cA : Nat → ClassId) (b base : Nat) (z : mj_C) (h : mj_H) (H : Heap) : Prop := ∃ t, h = z :: t ∧ H.size = base + t.length ∧ va_P D cl (mj_wo (mj_ad b base) cA base t) H
theorem mj_wo_D (ad : Nat → Nat) (cA : Nat → ClassId) (base : Nat) (t : List mj_C) : va_D (fun q : Nat => base ≤ q) (mj_wo ad cA base t) := by
  have key : ∀ (k : Nat) (q : Nat × va_E), (mj_wo ad cA base t)[k]? = some q → q.1 = base + k := by
    intro k q hk
    rw [mj_wo_get] at hk
    cases ht : t[k]? with
    | none => rw [ht] at hk; cases hk
    | some r => rw [ht] at hk; cases hk; rfl
  refine ⟨fun i j p q hi hj e => ?_, fun k q hk => ?_⟩
  · have h1 := key i p hi
    have h2 := key j q hj
    omega
  · show base ≤ q.1
    rw [key k q hk]
    omega
/-- a cell of the list is a cell of the world -/
theorem mj_at {ad : Nat → Nat} {cA : Nat → ClassId} {base : Nat} {z : mj_C} {t : List mj_C} {k : Nat} {q : mj_C} (h : (z :: t)[k + 1]? = some q) : (mj_wo ad cA base t)[k]? = some (base + k, mj_ce ad cA q) := by
  rw [mj_wo_get]
  rw [List.getElem?_cons_succ] at h
  rw [h]
  rfl
def mj_lo (ad : Nat → Nat) : Nat → mj_L → List (Nat × Value)
  | _, [] => []
  | n, none :: t => mj_lo ad (n + 1) t
  | n, some v :: t => (n, mj_cv ad v) :: mj_lo ad (n + 1) t
theorem mj_lo_mem {ad : Nat → Nat} {q : Nat × Value} : ∀ (L : mj_L) (n : Nat), q ∈ mj_lo ad n L ↔ ∃ (j : Nat) (v : mj_V), L[j]? = some (some v) ∧ q = (n + j, mj_cv ad v) := by
  intro L
  induction L with
  | nil => intro n; simp [mj_lo]
  | cons x t ih =>
    intro n
    cases x with
    | none =>
      rw [mj_lo, ih]
      constructor
      · rintro ⟨j, v, h1, h2⟩
        exact ⟨j + 1, v, by rw [List.getElem?_cons_succ]; exact h1, by rw [h2]; congr 1; omega⟩
      · rintro ⟨j, v, h1, h2⟩
        cases j with
        | zero => simp at h1
        | succ j => exact ⟨j, v, by rw [List.getElem?_cons_succ] at h1; exact h1, by rw [h2]; congr 1; omega⟩
    | some w =>
      rw [mj_lo, List.mem_cons, ih]
      constructor
      · rintro (h | ⟨j, v, h1, h2⟩)
        · exact ⟨0, w, rfl, h⟩
        · exact ⟨j + 1, v, by rw [List.getElem?_cons_succ]; exact h1, by rw [h2]; congr 1; omega⟩
      · rintro ⟨j, v, h1, h2⟩
        cases j with
        | zero =>
          simp at h1
          subst h1
          exact Or.inl h2
        | succ j => exact Or.inr ⟨j, v, by rw [List.getElem?_cons_succ] at h1; exact h1, by rw [h2]; congr 1; omega⟩
def mj_LO (ad : Nat → Nat) (ls : Array Slot) (nL : Nat) (L : mj_L) : Prop := lv_has ls nL (mj_lo ad 0 L) ∧ L.length = nL
theorem mj_LO.get {ad : Nat → Nat} {ls : Array Slot} {nL k : Nat} {L : mj_L} {v : mj_V} (h : mj_LO ad ls nL L) (hk : L[k]? = some (some v)) : ls[k]? = some (.val (mj_cv ad v)) :=
  h.1.2.2 (k, mj_cv ad v) ((mj_lo_mem L 0).mpr ⟨k, v, hk, by rw [Nat.zero_add]⟩)
theorem mj_LO.set {ad : Nat → Nat} {ls ls' : Array Slot} {nL k : Nat} {L : mj_L} {v : mj_V} (h : mj_LO ad ls nL L) (h' : lv_has ls' nL ((k, mj_cv ad v) :: (mj_lo ad 0 L).filter (fun q => !(q.1 == k) && !(q.1 + 1 == k && q.2.category == 2)))) : mj_LO ad ls' nL (L.set k (some v)) := by
  refine ⟨⟨h'.1, h'.2.1, fun q hq => h'.2.2 q ?_⟩, by rw [List.length_set]; exact h.2⟩
  obtain ⟨j, w, h1, h2⟩ := (mj_lo_mem _ 0).mp hq
  rw [List.getElem?_set] at h1
  by_cases hj : k = j
  · subst hj
    rw [if_pos rfl] at h1
    by_cases hl : k < L.length
    · rw [if_pos hl] at h1
      cases h1
      rw [h2, Nat.zero_add]
      exact List.mem_cons_self
    · rw [if_neg hl] at h1; cases h1
  · rw [if_neg hj] at h1
    refine List.mem_cons_of_mem _ (List.mem_filter.mpr ⟨(mj_lo_mem L 0).mpr ⟨j, w, h1, h2⟩, ?_⟩)
    rw [h2, Nat.zero_add]
    have hc := mj_cv_cat ad w
    have hne : ¬ j = k := fun e => hj e.symm
    simp [hne, hc]
theorem mj_args (ad : Nat → Nat) : ∀ (as : List mj_V) (n : Nat), lv_args n (as.map (mj_cv ad)) = mj_lo ad n (as.map some) := by
  intro as
  induction as with
  | nil => intro n; rfl
  | cons v t ih =>
    intro n
    simp only [List.map_cons, lv_args, mj_lo]
    rw [if_neg (by rw [mj_cv_cat]; decide), ih]
theorem mj_sl (ad : Nat → Nat) : ∀ (as : List mj_V), (lg_sl (as.map (mj_cv ad))).length = as.length := by
  intro as
  induction as with
  | nil => rfl
  | cons v t ih =>
    unfold lg_sl at ih ⊢
    simp only [List.map_cons, List.flatMap_cons, List.length_append, List.length_cons]
    rw [ih, if_neg (by rw [mj_cv_cat]; decide)]
    simp
    omega
theorem mj_lo_pad (ad : Nat → Nat) (m : Nat) : ∀ (L : mj_L) (n : Nat), mj_lo ad n (L ++ List.replicate m none) = mj_lo ad n L := by
  have h0 : ∀ (m n : Nat), mj_lo ad n (List.replicate m none) = [] := by
    intro m
    induction m with
    | zero => intro n; rfl
    | succ m ih => intro n; rw [List.replicate_succ, mj_lo]; exact ih (n + 1)
  intro L
  induction L with
  | nil => intro n; exact h0 m n
  | cons x t ih =>
    intro n
    cases x with
    | none => rw [List.cons_append, mj_lo, mj_lo]; exact ih (n + 1)
    | some v => rw [List.cons_append, mj_lo, mj_lo, ih (n + 1)]
/-- the locals with which a method begins -/
theorem mj_LO.entry (ad : Nat → Nat) (as : List mj_V) {n : Nat} (h : as.length ≤ n) : mj_LO ad ((lg_sl (as.map (mj_cv ad)) ++ List.replicate (n - (lg_sl (as.map (mj_cv ad))).length) Slot.unset).toArray) n (as.map some ++ List.replicate (n - as.length) none) := by
  refine ⟨?_, by simp; omega⟩
  rw [mj_lo_pad, ← mj_args]
  exact lv_entry (as.map (mj_cv ad)) (by rw [mj_sl]; exact h)
def mj_sz (h : mj_H) : Nat := (h.map (fun q => q.2.length)).sum
def mj_le (h h' : mj_H) : Prop := h.length ≤ h'.length ∧ mj_sz h ≤ mj_sz h'
theorem mj_le.rf (h : mj_H) : mj_le h h := ⟨Nat.le_refl _, Nat.le_refl _⟩
theorem mj_le.tr {a b c : mj_H} (h1 : mj_le a b) (h2 : mj_le b c) : mj_le a c := ⟨Nat.le_trans h1.1 h2.1, Nat.le_trans h1.2 h2.2⟩
theorem mj_sz_app (h : mj_H) (q : mj_C) : mj_sz (h ++ [q]) = mj_sz h + q.2.length := by
  simp [mj_sz]
theorem mj_sz_set : ∀ (h : mj_H) (a : Nat) (q r : mj_C), h[a]? = some q → r.2.length = q.2.length → mj_sz (h.set a r) = mj_sz h := by
  intro h
  induction h with
  | nil => intro a q r h1; simp at h1
  | cons x t ih =>
    intro a q r h1 h2
    cases a with
    | zero =>
      simp at h1
      subst h1
      simp [mj_sz, h2]
    | succ a =>
      rw [List.getElem?_cons_succ] at h1
      have := ih a q r h1 h2
      simp only [mj_sz, List.set_cons_succ, List.map_cons, List.sum_cons] at this ⊢
      omega
/-- a write: where, what was there, what is there now -/
theorem mj_pf_inv {h h' : mj_H} {a c k : Nat} {v : mj_V} (hp : mj_pf h a c k v = some h') : ∃ vs, h[a]? = some (c, vs) ∧ k < vs.length ∧ a ≠ 0 ∧ h' = h.set a (c, vs.set k v) := by
  unfold mj_pf at hp
  split at hp
  · next q hq =>
    split at hp
    · next hc =>
      cases hp
      obtain ⟨t, vs⟩ := q
      obtain ⟨rfl, h2, h3⟩ := hc
      exact ⟨vs, hq, h2, h3, rfl⟩
    · cases hp
  · cases hp
theorem mj_gf_inv {h : mj_H} {a c k : Nat} {v : mj_V} (hp : mj_gf h a c k = some v) : ∃ vs, h[a]? = some (c, vs) ∧ vs[k]? = some v := by
  unfold mj_gf at hp
  split at hp
  · next q hq =>
    split at hp
    · next hc =>
      obtain ⟨t, vs⟩ := q
      obtain rfl := hc
      exact ⟨vs, hq, hp⟩
    · cases hp
  · cases hp
theorem mj_pf_le {h h' : mj_H} {a c k : Nat} {v : mj_V} (hp : mj_pf h a c k v = some h') : h'.length = h.length ∧ mj_sz h' = mj_sz h := by
  obtain ⟨vs, h1, h2, h3, rfl⟩ := mj_pf_inv hp
  exact ⟨List.length_set, mj_sz_set h a (c, vs) _ h1 (by simp)⟩
section INV
variable {pc t n k : Nat} {L : mj_L} {S : List mj_V} {h : mj_H} {x : mj_N}
theorem mj_b2_inv {f : Int32 → Int32 → Int32} (e : mj_b2 f pc L S h = some x) : ∃ u v S0, S = .inl v :: .inl u :: S0 ∧ x = (pc + 1, L, .inl (f u v) :: S0, h) := by
  rcases S with _ | ⟨v | v, _ | ⟨u | u, S0⟩⟩ <;> first | (cases e; done) | exact ⟨_, _, _, rfl, (Option.some.inj e).symm⟩
theorem mj_d2_inv {f : Int32 → Int32 → Int32} (e : mj_d2 f pc L S h = some x) : ∃ u v S0, S = .inl v :: .inl u :: S0 ∧ ¬ v = 0 ∧ x = (pc + 1, L, .inl (f u v) :: S0, h) := by
  rcases S with _ | ⟨v | v, _ | ⟨u | u, S0⟩⟩ <;> first | (cases e; done) | skip
  by_cases hv : v = 0
  · simp [mj_d2, hv] at e
  · simp only [mj_d2, if_neg hv] at e
    exact ⟨_, _, _, rfl, hv, (Option.some.inj e).symm⟩
theorem mj_li_inv (e : mj_li k n pc L S h = some x) : ∃ v, L[k]? = some (some (.inl v)) ∧ x = (pc + n, L, .inl v :: S, h) := by
  unfold mj_li at e
  cases hl : L[k]? with
  | none => rw [hl] at e; cases e
  | some w =>
    rw [hl] at e
    rcases w with _ | ⟨v | v⟩ <;> first | (cases e; done) | exact ⟨_, rfl, (Option.some.inj e).symm⟩
theorem mj_la_inv (e : mj_la k n pc L S h = some x) : ∃ v, L[k]? = some (some (.inr v)) ∧ x = (pc + n, L, .inr v :: S, h) := by
  unfold mj_la at e
  cases hl : L[k]? with
  | none => rw [hl] at e; cases e
  | some w =>
    rw [hl] at e
    rcases w with _ | ⟨v | v⟩ <;> first | (cases e; done) | exact ⟨_, rfl, (Option.some.inj e).symm⟩
theorem mj_si_inv (e : mj_si k n pc L S h = some x) : ∃ v S0, S = .inl v :: S0 ∧ k < L.length ∧ x = (pc + n, L.set k (some (.inl v)), S0, h) := by
  rcases S with _ | ⟨v | v, S0⟩ <;> first | (cases e; done) | skip
  by_cases hk : k < L.length
  · simp only [mj_si, if_pos hk] at e
    exact ⟨_, _, rfl, hk, (Option.some.inj e).symm⟩
  · simp [mj_si, hk] at e
theorem mj_sa_inv (e : mj_sa k n pc L S h = some x) : ∃ v S0, S = .inr v :: S0 ∧ k < L.length ∧ x = (pc + n, L.set k (some (.inr v)), S0, h) := by
  rcases S with _ | ⟨v | v, S0⟩ <;> first | (cases e; done) | skip
  by_cases hk : k < L.length
  · simp only [mj_sa, if_pos hk] at e
    exact ⟨_, _, rfl, hk, (Option.some.inj e).symm⟩
  · simp [mj_sa, hk] at e
theorem mj_c1_inv {q : Int32 → Bool} (e : mj_c1 q t pc L S h = some x) : ∃ v S0, S = .inl v :: S0 ∧ ((q v = true ∧ x = (t, L, S0, h)) ∨ (q v = false ∧ x = (pc + 3, L, S0, h))) := by
  rcases S with _ | ⟨v | v, S0⟩ <;> first | (cases e; done) | skip
  by_cases hq : q v = true
  · simp only [mj_c1, if_pos hq] at e
    exact ⟨_, _, rfl, Or.inl ⟨hq, (Option.some.inj e).symm⟩⟩
  · simp only [mj_c1, if_neg hq] at e
    exact ⟨_, _, rfl, Or.inr ⟨by simpa using hq, (Option.some.inj e).symm⟩⟩
theorem mj_c2_inv {q : Int32 → Int32 → Bool} (e : mj_c2 q t pc L S h = some x) : ∃ u v S0, S = .inl v :: .inl u :: S0 ∧ ((q u v = true ∧ x = (t, L, S0, h)) ∨ (q u v = false ∧ x = (pc + 3, L, S0, h))) := by
  rcases S with _ | ⟨v | v, _ | ⟨u | u, S0⟩⟩ <;> first | (cases e; done) | skip
  by_cases hq : q u v = true
  · simp only [mj_c2, if_pos hq] at e
    exact ⟨_, _, _, rfl, Or.inl ⟨hq, (Option.some.inj e).symm⟩⟩
  · simp only [mj_c2, if_neg hq] at e
    exact ⟨_, _, _, rfl, Or.inr ⟨by simpa using hq, (Option.some.inj e).symm⟩⟩
theorem mj_ca_inv {q : Option Nat → Option Nat → Bool} (e : mj_ca q t pc L S h = some x) : ∃ u v S0, S = .inr v :: .inr u :: S0 ∧ ((q u v = true ∧ x = (t, L, S0, h)) ∨ (q u v = false ∧ x = (pc + 3, L, S0, h))) := by
  rcases S with _ | ⟨v | v, _ | ⟨u | u, S0⟩⟩ <;> first | (cases e; done) | skip
  by_cases hq : q u v = true
  · simp only [mj_ca, if_pos hq] at e
    exact ⟨_, _, _, rfl, Or.inl ⟨hq, (Option.some.inj e).symm⟩⟩
  · simp only [mj_ca, if_neg hq] at e
    exact ⟨_, _, _, rfl, Or.inr ⟨by simpa using hq, (Option.some.inj e).symm⟩⟩
theorem mj_cn_inv {q : Bool} (e : mj_cn q t pc L S h = some x) : ∃ v S0, S = .inr v :: S0 ∧ ((v.isNone = q ∧ x = (t, L, S0, h)) ∨ (¬ v.isNone = q ∧ x = (pc + 3, L, S0, h))) := by
  rcases S with _ | ⟨v | v, S0⟩ <;> first | (cases e; done) | skip
  by_cases hq : v.isNone = q
  · simp only [mj_cn, if_pos hq] at e
    exact ⟨_, _, rfl, Or.inl ⟨hq, (Option.some.inj e).symm⟩⟩
  · simp only [mj_cn, if_neg hq] at e
    exact ⟨_, _, rfl, Or.inr ⟨hq, (Option.some.inj e).symm⟩⟩
theorem mj_get_inv {c : Nat} (e : mj_get c k pc L S h = some x) : ∃ a v S0, S = .inr (some a) :: S0 ∧ mj_gf h a c k = some v ∧ x = (pc + 3, L, v :: S0, h) := by
  rcases S with _ | ⟨v | _ | a, S0⟩ <;> first | (cases e; done) | skip
  cases hg : mj_gf h a c k with
  | none => simp [mj_get, hg] at e
  | some v =>
    simp only [mj_get, hg] at e
    exact ⟨_, _, _, rfl, hg, (Option.some.inj e).symm⟩
theorem mj_put_inv {z : Nat → Nat → Nat} {c : Nat} (e : mj_put z c k pc L S h = some x) : ∃ a v S0 h', S = v :: .inr (some a) :: S0 ∧ mj_zk (z c k) v = true ∧ mj_pf h a c k v = some h' ∧ x = (pc + 3, L, S0, h') := by
  rcases S with _ | ⟨v, _ | ⟨u | _ | a, S0⟩⟩ <;> first | (cases e; done) | skip
  by_cases hz : mj_zk (z c k) v = true
  · cases hg : mj_pf h a c k v with
    | none => simp [mj_put, hg] at e
    | some h' =>
      simp only [mj_put, hg, if_pos hz] at e
      exact ⟨_, _, _, _, rfl, hz, hg, (Option.some.inj e).symm⟩
  · simp [mj_put, hz] at e
theorem mj_ald_inv (e : mj_ald pc L S h = some x) : ∃ i a v S0, S = .inl i :: .inr (some a) :: S0 ∧ ¬ i < 0 ∧ mj_gf h a 100 i.toNatClampNeg = some (.inl v) ∧ x = (pc + 1, L, .inl v :: S0, h) := by
  rcases S with _ | ⟨i | i, _ | ⟨u | _ | a, S0⟩⟩ <;> first | (cases e; done) | skip
  by_cases hi : i < 0
  · simp [mj_ald, hi] at e
  · simp only [mj_ald, if_neg hi] at e
    cases hg : mj_gf h a 100 i.toNatClampNeg with
    | none => rw [hg] at e; cases e
    | some w =>
      rw [hg] at e
      rcases w with v | v <;> first | (cases e; done) | exact ⟨_, _, _, _, rfl, hi, hg, (Option.some.inj e).symm⟩
theorem mj_rld_inv {c : Nat} (e : mj_rld c pc L S h = some x) : ∃ i a v S0, S = .inl i :: .inr (some a) :: S0 ∧ ¬ i < 0 ∧ mj_gf h a (101 + c) i.toNatClampNeg = some (.inr v) ∧ x = (pc + 1, L, .inr v :: S0, h) := by
  rcases S with _ | ⟨i | i, _ | ⟨u | _ | a, S0⟩⟩ <;> first | (cases e; done) | skip
  by_cases hi : i < 0
  · simp [mj_rld, hi] at e
  · simp only [mj_rld, if_neg hi] at e
    cases hg : mj_gf h a (101 + c) i.toNatClampNeg with
    | none => rw [hg] at e; cases e
    | some w =>
      rw [hg] at e
      rcases w with v | v <;> first | (cases e; done) | exact ⟨_, _, _, _, rfl, hi, hg, (Option.some.inj e).symm⟩
theorem mj_bld_inv (e : mj_bld pc L S h = some x) : ∃ i a v S0, S = .inl i :: .inr (some a) :: S0 ∧ ¬ i < 0 ∧ mj_gf h a 200 i.toNatClampNeg = some (.inl v) ∧ x = (pc + 1, L, .inl v :: S0, h) := by
  rcases S with _ | ⟨i | i, _ | ⟨u | _ | a, S0⟩⟩ <;> first | (cases e; done) | skip
  by_cases hi : i < 0
  · simp [mj_bld, hi] at e
  · simp only [mj_bld, if_neg hi] at e
    cases hg : mj_gf h a 200 i.toNatClampNeg with
    | none => rw [hg] at e; cases e
    | some w =>
      rw [hg] at e
      rcases w with v | v <;> first | (cases e; done) | exact ⟨_, _, _, _, rfl, hi, hg, (Option.some.inj e).symm⟩
theorem mj_bst_inv (e : mj_bst pc L S h = some x) : ∃ v i a S0 h', S = .inl v :: .inl i :: .inr (some a) :: S0 ∧ ¬ i < 0 ∧ (v = 0 ∨ v = 1) ∧ mj_pf h a 200 i.toNatClampNeg (.inl v) = some h' ∧ x = (pc + 1, L, S0, h') := by
  rcases S with _ | ⟨v | v, _ | ⟨i | i, _ | ⟨u | _ | a, S0⟩⟩⟩ <;> first | (cases e; done) | skip
  by_cases hi : i < 0 ∨ ¬ (v = 0 ∨ v = 1)
  · simp only [mj_bst, if_pos hi] at e; cases e
  · simp only [mj_bst, if_neg hi] at e
    have h1 : ¬ i < 0 := fun q => hi (Or.inl q)
    have h2 : v = 0 ∨ v = 1 := Classical.byContradiction fun q => hi (Or.inr q)
    cases hg : mj_pf h a 200 i.toNatClampNeg (.inl v) with
    | none => rw [hg] at e; cases e
    | some h' => rw [hg] at e; exact ⟨_, _, _, _, _, rfl, h1, h2, hg, (Option.some.inj e).symm⟩
theorem mj_ast_inv (e : mj_ast pc L S h = some x) : ∃ v i a S0 h', S = .inl v :: .inl i :: .inr (some a) :: S0 ∧ ¬ i < 0 ∧ mj_pf h a 100 i.toNatClampNeg (.inl v) = some h' ∧ x = (pc + 1, L, S0, h') := by
  rcases S with _ | ⟨v | v, _ | ⟨i | i, _ | ⟨u | _ | a, S0⟩⟩⟩ <;> first | (cases e; done) | skip
  by_cases hi : i < 0
  · simp [mj_ast, hi] at e
  · simp only [mj_ast, if_neg hi] at e
    cases hg : mj_pf h a 100 i.toNatClampNeg (.inl v) with
    | none => rw [hg] at e; cases e
    | some h' => rw [hg] at e; exact ⟨_, _, _, _, _, rfl, hi, hg, (Option.some.inj e).symm⟩
theorem mj_rst_inv {c : Nat} (e : mj_rst c pc L S h = some x) : ∃ v i a S0 h', S = .inr v :: .inl i :: .inr (some a) :: S0 ∧ ¬ i < 0 ∧ (∀ q, v = some q → mj_tg h q c = true) ∧ mj_pf h a (101 + c) i.toNatClampNeg (.inr v) = some h' ∧ x = (pc + 1, L, S0, h') := by
  rcases S with _ | ⟨v | v, _ | ⟨i | i, _ | ⟨u | _ | a, S0⟩⟩⟩ <;> first | (cases e; done) | skip
  by_cases hi : i < 0 ∨ (mj_tv h v c = false)
  · simp [mj_rst, hi] at e
  · simp only [mj_rst, if_neg hi] at e
    cases hg : mj_pf h a (101 + c) i.toNatClampNeg (.inr v) with
    | none => rw [hg] at e; cases e
    | some h' =>
      rw [hg] at e
      refine ⟨_, _, _, _, _, rfl, fun q => hi (Or.inl q), fun q hq => ?_, hg, (Option.some.inj e).symm⟩
      subst hq
      cases ht : mj_tg h q c with
      | true => rfl
      | false => exact absurd (Or.inr ht) hi
theorem mj_al_inv (e : mj_al pc L S h = some x) : ∃ a n S0, S = .inr (some a) :: S0 ∧ mj_ln h a = some n ∧ x = (pc + 1, L, .inl (Int32.ofNat n) :: S0, h) := by
  rcases S with _ | ⟨v | _ | a, S0⟩ <;> first | (cases e; done) | skip
  cases hg : mj_ln h a with
  | none => simp [mj_al, hg] at e
  | some v =>
    simp only [mj_al, hg] at e
    exact ⟨_, _, _, rfl, hg, (Option.some.inj e).symm⟩
theorem mj_mk_inv {v : mj_V} (e : mj_mk t n pc v L S h = some x) : ∃ i S0, S = .inl i :: S0 ∧ ¬ i < 0 ∧ i.toNatClampNeg ≤ 100000 ∧ x = (pc + n, L, .inr (some h.length) :: S0, h ++ [(t, List.replicate i.toNatClampNeg v)]) := by
  rcases S with _ | ⟨i | i, S0⟩ <;> first | (cases e; done) | skip
  by_cases hi : i < 0 ∨ 100000 < i.toNatClampNeg
  · simp only [mj_mk, if_pos hi] at e; cases e
  · simp only [mj_mk, if_neg hi] at e
    exact ⟨_, _, rfl, fun q => hi (Or.inl q), Nat.le_of_not_lt fun q => hi (Or.inr q), (Option.some.inj e).symm⟩
theorem mj_sw_inv {o : Int → Int} (e : mj_sw o pc L S h = some x) : ∃ v S0, S = .inl v :: S0 ∧ 0 ≤ (pc : Int) + o v.toInt ∧ x = (((pc : Int) + o v.toInt).toNat, L, S0, h) := by
  rcases S with _ | ⟨i | i, S0⟩ <;> first | (cases e; done) | skip
  by_cases hi : 0 ≤ (pc : Int) + o i.toInt
  · simp only [mj_sw, if_pos hi] at e
    exact ⟨_, _, rfl, hi, (Option.some.inj e).symm⟩
  · simp only [mj_sw, if_neg hi] at e; cases e
theorem mj_inv_inv {call : Nat → List mj_V → mj_H → Option mj_R} {y : Nat} (e : mj_inv call y n pc L S h = some x) : ∃ r h', n ≤ S.length ∧ S.length ≤ n + 8 ∧ call y (S.take n).reverse h = some (r, h') ∧ x = (pc + 3, L, r.toList ++ S.drop n, h') := by
  unfold mj_inv at e
  by_cases hn : n ≤ S.length ∧ S.length ≤ n + 8
  · rw [if_pos hn] at e
    cases hc : call y (S.take n).reverse h with
    | none => rw [hc] at e; cases e
    | some r =>
      rw [hc] at e
      obtain ⟨r, h'⟩ := r
      exact ⟨r, h', hn.1, hn.2, rfl, (Option.some.inj e).symm⟩
  · rw [if_neg hn] at e; cases e
theorem mj_rcv_inv {c : Nat} (e : mj_rcv c n S h = true) : ∃ a vs, S[n]? = some (.inr (some a)) ∧ h[a]? = some (c, vs) := by
  unfold mj_rcv at e
  cases hs : S[n]? with
  | none => rw [hs] at e; cases e
  | some w =>
    rw [hs] at e
    rcases w with v | _ | a <;> first | (cases e; done) | skip
    have e : mj_tg h a c = true := e
    unfold mj_tg at e
    cases ha : h[a]? with
    | none => rw [ha] at e; cases e
    | some q =>
      rw [ha] at e
      obtain ⟨u, vs⟩ := q
      have e : u = c := by simpa using e
      subst e
      exact ⟨a, vs, rfl, ha⟩
end INV
end
section
/-! ONE INSTRUCTION of the small machine is one of the machine -/
def mj_ty (cl : List vw_C) (cA : Nat → ClassId) (ak : List Nat) : List (ClassId × FieldType) := (cA 0, .int) :: (cA 100, .boolean) :: ak.map (fun k => (cA (k + 1), .object ((cl[k]?.map (fun q => q.1)).getD "")))
theorem mj_ty_at {cl : List vw_C} {cA : Nat → ClassId} {ak : List Nat} {k : Nat} {q : vw_C} (hk : k ∈ ak) (hq : cl[k]? = some q) : ∃ t0 : Nat, (mj_ty cl cA ak)[t0]? = some (cA (k + 1), FieldType.object q.1) := by
  obtain ⟨i, hi⟩ := List.getElem?_of_mem hk
  refine ⟨i + 2, ?_⟩
  rw [mj_ty, List.getElem?_cons_succ, List.getElem?_cons_succ, List.getElem?_map, hi]
  simp [hq]
section OK
variable (P : mj_P) (cl : List vw_C) (tyf : Nat → Nat → FieldType) (Ts Nw : List Cond) (ak : List Nat) (yn : Nat → MethodName) (cc : Nat → ByteArray) (rt : Nat → Option FieldType)
/-- a class of the list -/
def mj_okc (a : Nat) (C : String) (T : u_T) (N : Nat) : Prop := cl[a]? = some (C, T, N) ∧ a < 100 ∧ (∀ w ∈ u_ws C T N, w ∈ Ts) ∧ (∀ k, k < N → parseFieldDescriptor (T k).2.2.1 = some (tyf a k)) ∧ ∀ x, x < N → ∀ y, y < N → x ≠ y → (T x).2.1 ≠ (T y).2.1
/-- a method -/
def mj_okm (M : Nat) : Prop := plainName (yn M).cls = true ∧ Cond.code (yn M) (cc M) (P.2.1 M) (rt M) ∈ Ts ∧ P.2.1 M ≤ 30 ∧ (P.2.2.1 M = 0 → rt M = none) ∧ (P.2.2.1 M = 1 → rt M = some .int) ∧ (P.2.2.1 M = 2 → rt M = some .boolean) ∧ (P.2.2.1 M = 3 → ∃ C, rt M = some (.object C))
/-- a call's link -/
def mj_okk (M idx y n : Nat) : Prop := mj_okm P Ts yn cc rt y ∧ n ≤ P.2.1 y ∧ Cond.initialized (yn y).cls ∈ Ts ∧ ((yn y).cls ≠ "java/lang/invoke/MethodHandle" ∧ (yn y).cls ≠ "java/lang/invoke/VarHandle") ∧ (Cond.methodLink (yn M).cls idx (yn y) ∈ Ts ∨ ∃ host, Cond.methodLinkNest (yn M).cls idx (yn y) host ∈ Nw)
def mj_len (i : mj_I) : Nat := match i.1 with
  | .iload _ => 2
  | .aload _ => 2
  | .istore _ => 2
  | .astore _ => 2
  | .bipush _ => 2
  | .newarray _ => 2
  | .sipush _ => 3
  | .iinc _ _ => 3
  | .ifCond _ _ => 3
  | .if_icmp _ _ => 3
  | .if_acmp _ _ => 3
  | .ifnull _ => 3
  | .ifnonnull _ => 3
  | .goto _ => 3
  | .getfield _ => 3
  | .putfield _ => 3
  | .new _ => 3
  | .anewarray _ => 3
  | .invokestatic _ => 3
  | .invokevirtual _ => 3
  | .invokespecial _ => 3
  | .tableswitch _ _ _ _ => i.2.1
  | _ => 1
def mj_lk (M pc : Nat) (i : mj_I) : Prop := match i.1 with
  | .ifCond _ o => (pc : Int) + o = (i.2.2.1 : Int)
  | .if_icmp _ o => (pc : Int) + o = (i.2.2.1 : Int)
  | .if_acmp _ o => (pc : Int) + o = (i.2.2.1 : Int)
  | .ifnull o => (pc : Int) + o = (i.2.2.1 : Int)
  | .ifnonnull o => (pc : Int) + o = (i.2.2.1 : Int)
  | .goto o => (pc : Int) + o = (i.2.2.1 : Int)
  | .tableswitch _ lo hi os => os.size = (hi - lo + 1).toNat
  | .getfield x => ∃ C T N, mj_okc cl tyf Ts i.2.2.1 C T N ∧ i.2.2.2 < N ∧ (Cond.fieldLink (yn M).cls x (T i.2.2.2).1 (T i.2.2.2).2.1 (T i.2.2.2).2.2.1 ∈ Ts ∨ ∃ host, Cond.fieldLinkNest (yn M).cls x (T i.2.2.2).1 (T i.2.2.2).2.1 (T i.2.2.2).2.2.1 host ∈ Nw)
  | .putfield x => ∃ C T N, mj_okc cl tyf Ts i.2.2.1 C T N ∧ i.2.2.2 < N ∧ ((P.2.2.2.2.1 i.2.2.1 i.2.2.2 = 0 ∧ tyf i.2.2.1 i.2.2.2 = .int) ∨ (P.2.2.2.2.1 i.2.2.1 i.2.2.2 = 1 ∧ tyf i.2.2.1 i.2.2.2 = .boolean) ∨ (P.2.2.2.2.1 i.2.2.1 i.2.2.2 = 2 ∧ ((∃ E, tyf i.2.2.1 i.2.2.2 = .object E) ∨ ∃ E, tyf i.2.2.1 i.2.2.2 = .array E))) ∧
      (((T i.2.2.2).2.2.2 = false ∧ (Cond.fieldLink (yn M).cls x (T i.2.2.2).1 (T i.2.2.2).2.1 (T i.2.2.2).2.2.1 ∈ Ts ∨ ∃ host, Cond.fieldLinkNest (yn M).cls x (T i.2.2.2).1 (T i.2.2.2).2.1 (T i.2.2.2).2.2.1 host ∈ Nw)) ∨
       ((T i.2.2.2).2.2.2 = true ∧ (yn M).name = "<init>" ∧ (T i.2.2.2).1 = (yn M).cls ∧ Cond.fieldLink (yn M).cls x (T i.2.2.2).1 (T i.2.2.2).2.1 (T i.2.2.2).2.2.1 ∈ Ts))
  | .new x => ∃ C T N, mj_okc cl tyf Ts i.2.2.1 C T N ∧ Cond.classLink (yn M).cls x C ∈ Ts ∧ Cond.instantiable C N ∈ Ts ∧ Cond.initialized C ∈ Ts ∧ (P.2.2.2.1 i.2.2.1).length = N ∧ ∀ (ad : Nat → Nat) (j : Nat), j < N → defaultValue (tyf i.2.2.1 j) = vp_V ((P.2.2.2.1 i.2.2.1).map (mj_cv ad)) j
  | .newarray _ => Cond.arrayClass .int ∈ Ts ∧ Cond.arrayClass .boolean ∈ Ts
  | .anewarray x => ∃ C T N, cl[i.2.2.1]? = some (C, T, N) ∧ i.2.2.1 ∈ ak ∧ i.2.2.1 < 99 ∧ Cond.classLink (yn M).cls x C ∈ Ts ∧ Cond.arrayOver (.object C) ∈ Nw
  | .aaload => ∃ q, cl[i.2.2.1]? = some q ∧ i.2.2.1 ∈ ak ∧ i.2.2.1 < 99
  | .aastore => ∃ q, cl[i.2.2.1]? = some q ∧ i.2.2.1 ∈ ak ∧ i.2.2.1 < 99
  | .invokestatic x => mj_okk P Ts Nw yn cc rt M x i.2.2.1 i.2.2.2 ∧ Cond.static (yn i.2.2.1) ∈ Ts ∧ (parseMethodDescriptor (yn i.2.2.1).desc).map (fun d => d.parameters.length) = some i.2.2.2
  | .invokevirtual x => mj_okk P Ts Nw yn cc rt M x i.2.2.1 i.2.2.2 ∧ 1 ≤ i.2.2.2 ∧ Cond.instanceMethod (yn i.2.2.1) ∈ Ts ∧ Cond.selects (yn i.2.2.1).cls (yn i.2.2.1) (yn i.2.2.1) ∈ Ts ∧ (parseMethodDescriptor (yn i.2.2.1).desc).map (fun d => d.parameters.length) = some (i.2.2.2 - 1) ∧ P.2.2.2.2.2 i.2.2.1 < 100 ∧ ∃ T N, cl[P.2.2.2.2.2 i.2.2.1]? = some ((yn i.2.2.1).cls, T, N)
  | .invokespecial x => (i.2.2.1 = 9999 ∧ Cond.methodLink (yn M).cls x objectInit ∈ Ts ∧ Cond.instanceMethod objectInit ∈ Ts ∧ Cond.code objectInit ⟨#[0xb1]⟩ 1 none ∈ Ts) ∨
      (i.2.2.1 ≠ 9999 ∧ mj_okk P Ts Nw yn cc rt M x i.2.2.1 i.2.2.2 ∧ 1 ≤ i.2.2.2 ∧ Cond.instanceMethod (yn i.2.2.1) ∈ Ts ∧ (yn i.2.2.1).name = "<init>" ∧ rt i.2.2.1 = none ∧ (parseMethodDescriptor (yn i.2.2.1).desc).map (fun d => d.parameters.length) = some (i.2.2.2 - 1) ∧ P.2.2.2.2.2 i.2.2.1 < 100)
  | _ => True
def mj_oki (M pc : Nat) (i : mj_I) : Prop := decode (cc M) pc = .ok (i.1, mj_len i) ∧ mj_lk P cl tyf Ts Nw ak yn cc rt M pc i
/-- words that are carried apart from the others -/
def mj_nwf : Prop := ∀ w ∈ Nw, (∃ a i b n d h, w = Cond.fieldLinkNest a i b n d h) ∨ (∃ a i x h, w = Cond.methodLinkNest a i x h) ∨ ∃ C, w = Cond.arrayOver (.object C)
end OK
theorem mj_nw_warm {Nw : List Cond} (hf : mj_nwf Nw) {s U : State} (hW : s.WarmedH U.vm) (h : ∀ w ∈ Nw, va_Nw w s) : ∀ w ∈ Nw, va_Nw w U := by
  intro w hw
  have h1 := h w hw
  rcases hf w hw with ⟨a, i, b, n, d, q, rfl⟩ | ⟨a, i, x, q, rfl⟩ | ⟨C, rfl⟩
  · exact va_Nw.warmF hW h1
  · exact va_Nw.warmM hW h1
  · exact va_AO.moved hW.alike h1
theorem mj_nw_call {Nw : List Cond} (hf : mj_nwf Nw) {U : State} {g : JFrame} {mk : MethodId} {a : Array Value} (h : ∀ w ∈ Nw, va_Nw w U) : ∀ w ∈ Nw, va_Nw w (U.calling g mk a) := by
  intro w hw
  have h1 := h w hw
  rcases hf w hw with ⟨a, i, b, n, d, q, rfl⟩ | ⟨a, i, x, q, rfl⟩ | ⟨C, rfl⟩
  · exact va_Nw.same rfl rfl h1
  · exact va_Nw.same rfl rfl h1
  · exact va_AO.moved (Vm.Alike.refl U.vm) h1
/-- a method's start and end -/
def mj_Pc (D : va_G) (cl : List vw_C) (cA : Nat → ClassId) (ak : List Nat) (Nw : List Cond) (b base nX : Nat) (xs : Nat → Int32) (z : mj_C) (as : List mj_V) (h : mj_H) : Array Value → State → Prop := va_Pc (as.map (mj_cv (mj_ad b base))) (fun U => mj_In D cl cA b base z h U.heap ∧ va_K D cl (mj_ty cl cA ak) U ∧ (∀ w ∈ Nw, va_Nw w U) ∧ va_X b nX xs U U.heap)
def mj_Qc (D : va_G) (cl : List vw_C) (cA : Nat → ClassId) (b base : Nat) (z : mj_C) (r : Option mj_V) (h : mj_H) : Array Value → State → Outcome → State → Prop := fun _ st oc t => oc = .returned (r.map (mj_cv (mj_ad b base))) ∧ mj_In D cl cA b base z h t.heap ∧ va_F (fun q : Nat => base ≤ q) st t
theorem mj_blind {D : va_G} {cl : List vw_C} {cA : Nat → ClassId} {ak : List Nat} {Nw : List Cond} (hf : mj_nwf Nw) {b base nX : Nat} {xs : Nat → Int32} {z : mj_C} {as : List mj_V} {h : mj_H} : FrameBlind (mj_Pc D cl cA ak Nw b base nX xs z as h) := by
  intro a U g mk q
  obtain ⟨q0, q1, q2, q3, q4⟩ := q
  exact ⟨q0, q1, va_K.moved (u := U) (U := U.calling g mk a) (Vm.Alike.refl U.vm) q2, mj_nw_call hf q3, va_X.moved (u := U) (U := U.calling g mk a) (Vm.Alike.refl U.vm) q4⟩
section STEP
variable {p : Program} {l : Launch} {e : Env} {R : Room} {s : State} {m : MethodId} {args : Array Value} {below : List Frame} {meth : Method} {c : Code} {H : Heap} {locs : List Loc} {cells slots : Nat} {Q : State → Prop}
theorem mj_callk {pc mc ms : Nat} {ls : Array Slot} {st0 rest : List Value} {a : Array Value} {H0 : Heap} {D : va_G} {cl : List vw_C} {cA : Nat → ClassId} {b base : Nat} {z : mj_C} {r : Option mj_V} {h : mj_H}
    (hr : va_Run p l e R s m args below meth c H locs cells slots mc ms (F0 m pc ls st0) rest (mj_Qc D cl cA b base z r h a) (fun q : Nat => base ≤ q)) (hS : va_S (fun q : Nat => base ≤ q) H0 H locs)
    (kk : ∀ (H1 : Heap) (locs1 : List Loc), mj_In D cl cA b base z h H1 → va_S (fun q : Nat => base ≤ q) H0 H1 locs1 → W p l e R s m args below meth c H1 locs1 (cells + mc) (slots + ms) Q (F0 m (pc + 3) ls ((r.map (mj_cv (mj_ad b base))).toList ++ rest))) : W p l e R s m args below meth c H locs cells slots Q (F0 m pc ls st0) := by
  intro T hT X
  obtain ⟨v, st₀, t, T', L, h0, X', hL, e1, e2, ⟨hv, hb, hz, hk⟩, st⟩ := hr T hT X
  cases hv
  rw [h0] at hz hk
  obtain ⟨t2, a1, b1⟩ := kk T'.heap (locs ++ L) (by rw [e1]; exact hb)
    ⟨Nat.le_trans hS.1 (by rw [e1]; exact hz), fun q h1 h2 => by rw [e1, hk q (Nat.lt_of_lt_of_le h1 hS.1) h2]; exact hS.2.1 q h1 h2, fun q hq => by
      rcases List.mem_append.mp hq with h | h
      · exact hS.2.2 q h
      · exact hL q h⟩ T' rfl X'
  exact ⟨t2, st t2 a1, b1⟩
theorem mj_push {D : va_G} {cl : List vw_C} {cA : Nat → ClassId} {b base : Nat} {z : mj_C} {h : mj_H} {q : mj_C} {H H1 : Heap} (hI : mj_In D cl cA b base z h H) (he : va_at D cl (H.size, mj_ce (mj_ad b base) cA q) H1) (hs : H1.size = H.size + 1) (ho : ∀ x : Nat, x < H.size → H1[x]? = H[x]?) : mj_In D cl cA b base z (h ++ [q]) H1 := by
  obtain ⟨t, rfl, h2, h3⟩ := hI
  refine ⟨t ++ [q], rfl, by rw [hs, h2, List.length_append]; simp; omega, ?_⟩
  rw [mj_wo_app]
  refine (h3.kept (fun k x hx => ho x.1 ((h3 k x hx).lt))).app (fun k x hx => ?_)
  have hz : k < 1 := (List.getElem?_eq_some_iff.mp hx).1
  rw [show k = 0 by omega] at hx
  cases hx
  rw [← h2]
  exact he
theorem mj_S_push {A : Nat → Prop} {H0 H H1 : Heap} (hS : va_S A H0 H locs) (hs : H1.size = H.size + 1) (ho : ∀ x : Nat, x < H.size → H1[x]? = H[x]?) : va_S A H0 H1 locs :=
  ⟨Nat.le_trans hS.1 (by omega), fun x h1 h2 => (ho x (Nat.lt_of_lt_of_le h1 hS.1)).trans (hS.2.1 x h1 h2), hS.2.2⟩
end STEP
theorem mj_hd {D : va_G} {cl : List vw_C} {cA : Nat → ClassId} {b base : Nat} {z : mj_C} {h : mj_H} {H : Heap} (hI : mj_In D cl cA b base z h H) : H.size = base + (h.length - 1) := by
  obtain ⟨t, rfl, h2, -⟩ := hI
  rw [h2]; simp
theorem mj_cut {S : List mj_V} {k : Nat} {v : mj_V} (h : S[k]? = some v) : S = S.take k ++ v :: S.drop (k + 1) := by
  obtain ⟨hk, hv⟩ := List.getElem?_eq_some_iff.mp h
  rw [← hv, List.getElem_cons_drop hk, List.take_append_drop]
theorem mj_take {S : List mj_V} {k : Nat} {v : mj_V} (h : S[k]? = some v) : S.take (k + 1) = S.take k ++ [v] := by
  obtain ⟨hk, hv⟩ := List.getElem?_eq_some_iff.mp h
  rw [List.take_succ, h]
  rfl
end
section
/-- instructions that leave the heap -/
def mj_g1 (i : Instr) : Bool := match i with
  | .iconst _ => true
  | .bipush _ => true
  | .sipush _ => true
  | .aconst_null => true
  | .iload_n _ => true
  | .iload _ => true
  | .aload_n _ => true
  | .aload _ => true
  | .istore_n _ => true
  | .istore _ => true
  | .astore_n _ => true
  | .astore _ => true
  | .iinc _ _ => true
  | .iadd => true
  | .isub => true
  | .imul => true
  | .iand => true
  | .ior => true
  | .ixor => true
  | .ishl => true
  | .ishr => true
  | .idiv => true
  | .irem => true
  | .dup => true
  | .pop => true
  | .dup_x1 => true
  | .dup2 => true
  | .ifCond _ _ => true
  | .if_icmp _ _ => true
  | .if_acmp _ _ => true
  | .ifnull _ => true
  | .ifnonnull _ => true
  | .goto _ => true
  | .tableswitch _ _ _ _ => true
  | _ => false
section STEP1
variable {p : Program} {l : Launch} {e : Env} {R : Room} {s : State} {m : MethodId} {args : Array Value} {below : List Frame} {meth : Method} {c : Code} {H : Heap} {locs : List Loc} {cells slots : Nat} {Q : State → Prop}
variable {P : mj_P} {cl : List vw_C} {tyf : Nat → Nat → FieldType} {Ts Nw : List Cond} {ak : List Nat} {yn : Nat → MethodName} {cc : Nat → ByteArray} {rt : Nat → Option FieldType}
set_option maxHeartbeats 4000000 in
set_option maxRecDepth 100000 in
theorem mj_step1 {M pc nL : Nat} {ad : Nat → Nat} {i : mj_I} {L : mj_L} {S : List mj_V} {h : mj_H} {x : mj_N} {call : Nat → List mj_V → mj_H → Option mj_R} {ls : Array Slot} (hx : p.tables.exec = Jvm.exec) (hb : c.code = cc M) (hl : mj_LO ad ls nL L) (hadi : ∀ x y, ad x = ad y → x = y) (hok : mj_oki P cl tyf Ts Nw ak yn cc rt M pc i) (hst : mj_st P call i pc L S h = some x) (hg : mj_g1 i.1 = true) :
    x.2.2.2 = h ∧ ((∀ ls', mj_LO ad ls' nL x.2.1 → W p l e R s m args below meth c H locs cells slots Q (F0 m x.1 ls' (x.2.2.1.map (mj_cv ad)))) → W p l e R s m args below meth c H locs cells slots Q (F0 m pc ls (S.map (mj_cv ad)))) := by
  obtain ⟨ins, len, a, b⟩ := i
  obtain ⟨hd, hk⟩ := hok
  have hadm : ∀ u v : Option Nat, u.map ad = v.map ad → u = v := by
    intro u v huv
    cases u <;> cases v <;> simp at huv <;> first | rfl | (rw [hadi _ _ huv])
  cases ins with
  | iconst n =>
    obtain rfl := Option.some.inj hst
    exact ⟨rfl, fun kk => lv_iconst hx hb hd rfl (kk ls hl)⟩
  | bipush n =>
    obtain rfl := Option.some.inj hst
    exact ⟨rfl, fun kk => lv_bipush hx hb hd rfl (kk ls hl)⟩
  | sipush n =>
    obtain rfl := Option.some.inj hst
    exact ⟨rfl, fun kk => lv_sipush hx hb hd rfl (kk ls hl)⟩
  | aconst_null =>
    obtain rfl := Option.some.inj hst
    exact ⟨rfl, fun kk => lv_null hx hb hd (kk ls hl)⟩
  | iload_n k =>
    obtain ⟨v, hv, rfl⟩ := mj_li_inv (k := k.val) (n := 1) hst
    exact ⟨rfl, fun kk => lv_iload_n hx hb hd rfl (hl.get hv) (kk ls hl)⟩
  | iload k =>
    obtain ⟨v, hv, rfl⟩ := mj_li_inv (k := k) (n := 2) hst
    exact ⟨rfl, fun kk => lv_iload hx hb hd (hl.get hv) (kk ls hl)⟩
  | aload_n k =>
    obtain ⟨v, hv, rfl⟩ := mj_la_inv (k := k.val) (n := 1) hst
    refine ⟨rfl, fun kk => ?_⟩
    cases v with
    | none => exact lv_aload_nN hx hb hd rfl (hl.get hv) (kk ls hl)
    | some v => exact lv_aload_n hx hb hd rfl (hl.get hv) (kk ls hl)
  | aload k =>
    obtain ⟨v, hv, rfl⟩ := mj_la_inv (k := k) (n := 2) hst
    refine ⟨rfl, fun kk => ?_⟩
    cases v with
    | none => exact lv_aloadN hx hb hd (hl.get hv) (kk ls hl)
    | some v => exact lv_aload hx hb hd (hl.get hv) (kk ls hl)
  | istore_n k =>
    obtain ⟨v, S0, rfl, hn, rfl⟩ := mj_si_inv (k := k.val) (n := 1) hst
    exact ⟨rfl, fun kk => lv_istore_n hx hb hd rfl hl.1 (by rw [← hl.2]; exact hn) rfl (fun ls' h' => kk ls' (mj_LO.set (v := .inl v) hl h'))⟩
  | istore k =>
    obtain ⟨v, S0, rfl, hn, rfl⟩ := mj_si_inv (k := k) (n := 2) hst
    exact ⟨rfl, fun kk => lv_istore hx hb hd hl.1 (by rw [← hl.2]; exact hn) rfl (fun ls' h' => kk ls' (mj_LO.set (v := .inl v) hl h'))⟩
  | astore_n k =>
    obtain ⟨v, S0, rfl, hn, rfl⟩ := mj_sa_inv (k := k.val) (n := 1) hst
    refine ⟨rfl, fun kk => ?_⟩
    cases v with
    | none => exact lv_astore_nN hx hb hd rfl hl.1 (by rw [← hl.2]; exact hn) rfl (fun ls' h' => kk ls' (mj_LO.set (v := .inr none) hl h'))
    | some v => exact lv_astore_n hx hb hd rfl hl.1 (by rw [← hl.2]; exact hn) rfl (fun ls' h' => kk ls' (mj_LO.set (v := .inr (some v)) hl h'))
  | astore k =>
    obtain ⟨v, S0, rfl, hn, rfl⟩ := mj_sa_inv (k := k) (n := 2) hst
    refine ⟨rfl, fun kk => ?_⟩
    cases v with
    | none => exact lv_astoreN hx hb hd hl.1 (by rw [← hl.2]; exact hn) rfl (fun ls' h' => kk ls' (mj_LO.set (v := .inr none) hl h'))
    | some v => exact lv_astore hx hb hd hl.1 (by rw [← hl.2]; exact hn) rfl (fun ls' h' => kk ls' (mj_LO.set (v := .inr (some v)) hl h'))
  | iinc k n =>
    have hst : (match L[k]? with
      | some (some (.inl x)) => mj_go (pc + 3) (L.set k (some (.inl (x + Int32.ofInt n)))) S h
      | _ => none) = some x := hst
    cases hv : L[k]? with
    | none => rw [hv] at hst; cases hst
    | some w =>
      rw [hv] at hst
      rcases w with _ | ⟨v | v⟩ <;> first | (cases hst; done) | skip
      obtain rfl := Option.some.inj hst
      obtain ⟨kq, hkq⟩ := List.getElem?_of_mem ((mj_lo_mem (ad := ad) L 0).mpr ⟨k, .inl v, hv, rfl⟩)
      rw [Nat.zero_add] at hkq
      exact ⟨rfl, fun kk => lv_iinc hx hb hd hl.1 hkq rfl (by rw [← hl.2]; exact (List.getElem?_eq_some_iff.mp hv).1) rfl (fun ls' h' => kk ls' (mj_LO.set (v := .inl (v + Int32.ofInt n)) hl h'))⟩
  | iadd =>
    obtain ⟨u, v, S0, rfl, rfl⟩ := mj_b2_inv hst
    exact ⟨rfl, fun kk => lv_iadd hx hb hd (kk ls hl)⟩
  | isub =>
    obtain ⟨u, v, S0, rfl, rfl⟩ := mj_b2_inv hst
    exact ⟨rfl, fun kk => lv_isub hx hb hd (kk ls hl)⟩
  | imul =>
    obtain ⟨u, v, S0, rfl, rfl⟩ := mj_b2_inv hst
    exact ⟨rfl, fun kk => lv_imul hx hb hd (kk ls hl)⟩
  | iand =>
    obtain ⟨u, v, S0, rfl, rfl⟩ := mj_b2_inv hst
    exact ⟨rfl, fun kk => lv_iand hx hb hd (kk ls hl)⟩
  | ior =>
    obtain ⟨u, v, S0, rfl, rfl⟩ := mj_b2_inv hst
    exact ⟨rfl, fun kk => lv_ior hx hb hd (kk ls hl)⟩
  | ixor =>
    obtain ⟨u, v, S0, rfl, rfl⟩ := mj_b2_inv hst
    exact ⟨rfl, fun kk => lv_ixor hx hb hd (kk ls hl)⟩
  | ishl =>
    obtain ⟨u, v, S0, rfl, rfl⟩ := mj_b2_inv hst
    exact ⟨rfl, fun kk => lv_ishl hx hb hd (kk ls hl)⟩
  | ishr =>
    obtain ⟨u, v, S0, rfl, rfl⟩ := mj_b2_inv hst
    exact ⟨rfl, fun kk => lv_ishr hx hb hd (kk ls hl)⟩
  | idiv =>
    obtain ⟨u, v, S0, rfl, hne, rfl⟩ := mj_d2_inv hst
    exact ⟨rfl, fun kk => lv_idiv hx hb hd hne (kk ls hl)⟩
  | irem =>
    obtain ⟨u, v, S0, rfl, hne, rfl⟩ := mj_d2_inv hst
    exact ⟨rfl, fun kk => lv_irem hx hb hd hne (kk ls hl)⟩
  | dup =>
    rcases S with _ | ⟨v, S⟩ <;> first | (cases hst; done) | skip
    obtain rfl := Option.some.inj hst
    exact ⟨rfl, fun kk => lv_dup hx hb hd (mj_cv_cat ad v) (kk ls hl)⟩
  | pop =>
    rcases S with _ | ⟨v, S⟩ <;> first | (cases hst; done) | skip
    obtain rfl := Option.some.inj hst
    exact ⟨rfl, fun kk => lv_pop hx hb hd (mj_cv_cat ad v) (kk ls hl)⟩
  | dup_x1 =>
    rcases S with _ | ⟨v, _ | ⟨w, S⟩⟩ <;> first | (cases hst; done) | skip
    obtain rfl := Option.some.inj hst
    exact ⟨rfl, fun kk => lv_dup_x1 hx hb hd (mj_cv_cat ad v) (mj_cv_cat ad w) (kk ls hl)⟩
  | dup2 =>
    rcases S with _ | ⟨v, _ | ⟨w, S⟩⟩ <;> first | (cases hst; done) | skip
    obtain rfl := Option.some.inj hst
    exact ⟨rfl, fun kk => lv_dup2_11 hx hb hd (mj_cv_cat ad v) (mj_cv_cat ad w) (kk ls hl)⟩
  | ifCond q o =>
    cases q with
    | eq =>
      obtain ⟨v, S0, rfl, ⟨hq, rfl⟩ | ⟨hq, rfl⟩⟩ := mj_c1_inv (t := a) hst
      · exact ⟨rfl, fun kk => lv_if_eq (tgt := a) hx hb hd hk (fun _ => kk ls hl) (fun c1 => absurd (of_decide_eq_true hq) c1)⟩
      · exact ⟨rfl, fun kk => lv_if_eq (tgt := a) hx hb hd hk (fun c1 => absurd c1 (of_decide_eq_false hq)) (fun _ => kk ls hl)⟩
    | ne =>
      obtain ⟨v, S0, rfl, ⟨hq, rfl⟩ | ⟨hq, rfl⟩⟩ := mj_c1_inv (t := a) hst
      · exact ⟨rfl, fun kk => lv_if_ne (tgt := a) hx hb hd hk (fun _ => kk ls hl) (fun c1 => absurd c1 (of_decide_eq_true hq))⟩
      · exact ⟨rfl, fun kk => lv_if_ne (tgt := a) hx hb hd hk (fun c1 => absurd c1 (of_decide_eq_false hq)) (fun _ => kk ls hl)⟩
    | lt =>
      obtain ⟨v, S0, rfl, ⟨hq, rfl⟩ | ⟨hq, rfl⟩⟩ := mj_c1_inv (t := a) hst
      · exact ⟨rfl, fun kk => lv_if_lt (tgt := a) hx hb hd hk (fun _ => kk ls hl) (fun c1 => absurd (of_decide_eq_true hq) c1)⟩
      · exact ⟨rfl, fun kk => lv_if_lt (tgt := a) hx hb hd hk (fun c1 => absurd c1 (of_decide_eq_false hq)) (fun _ => kk ls hl)⟩
    | ge =>
      obtain ⟨v, S0, rfl, ⟨hq, rfl⟩ | ⟨hq, rfl⟩⟩ := mj_c1_inv (t := a) hst
      · exact ⟨rfl, fun kk => lv_if_ge (tgt := a) hx hb hd hk (fun _ => kk ls hl) (fun c1 => absurd (of_decide_eq_true hq) c1)⟩
      · exact ⟨rfl, fun kk => lv_if_ge (tgt := a) hx hb hd hk (fun c1 => absurd c1 (of_decide_eq_false hq)) (fun _ => kk ls hl)⟩
    | gt =>
      obtain ⟨v, S0, rfl, ⟨hq, rfl⟩ | ⟨hq, rfl⟩⟩ := mj_c1_inv (t := a) hst
      · exact ⟨rfl, fun kk => lv_if_gt (tgt := a) hx hb hd hk (fun _ => kk ls hl) (fun c1 => absurd (of_decide_eq_true hq) c1)⟩
      · exact ⟨rfl, fun kk => lv_if_gt (tgt := a) hx hb hd hk (fun c1 => absurd c1 (of_decide_eq_false hq)) (fun _ => kk ls hl)⟩
    | le =>
      obtain ⟨v, S0, rfl, ⟨hq, rfl⟩ | ⟨hq, rfl⟩⟩ := mj_c1_inv (t := a) hst
      · exact ⟨rfl, fun kk => lv_if_le (tgt := a) hx hb hd hk (fun _ => kk ls hl) (fun c1 => absurd (of_decide_eq_true hq) c1)⟩
      · exact ⟨rfl, fun kk => lv_if_le (tgt := a) hx hb hd hk (fun c1 => absurd c1 (of_decide_eq_false hq)) (fun _ => kk ls hl)⟩
  | if_icmp q o =>
    cases q with
    | eq =>
      obtain ⟨u, v, S0, rfl, ⟨hq, rfl⟩ | ⟨hq, rfl⟩⟩ := mj_c2_inv (t := a) hst
      · exact ⟨rfl, fun kk => lv_icmp_eq (tgt := a) hx hb hd hk (fun _ => kk ls hl) (fun c1 => absurd (of_decide_eq_true hq) c1)⟩
      · exact ⟨rfl, fun kk => lv_icmp_eq (tgt := a) hx hb hd hk (fun c1 => absurd c1 (of_decide_eq_false hq)) (fun _ => kk ls hl)⟩
    | ne =>
      obtain ⟨u, v, S0, rfl, ⟨hq, rfl⟩ | ⟨hq, rfl⟩⟩ := mj_c2_inv (t := a) hst
      · exact ⟨rfl, fun kk => lv_icmp_ne (tgt := a) hx hb hd hk (fun _ => kk ls hl) (fun c1 => absurd c1 (of_decide_eq_true hq))⟩
      · exact ⟨rfl, fun kk => lv_icmp_ne (tgt := a) hx hb hd hk (fun c1 => absurd c1 (of_decide_eq_false hq)) (fun _ => kk ls hl)⟩
    | lt =>
      obtain ⟨u, v, S0, rfl, ⟨hq, rfl⟩ | ⟨hq, rfl⟩⟩ := mj_c2_inv (t := a) hst
      · exact ⟨rfl, fun kk => lv_icmp_lt (tgt := a) hx hb hd hk (fun _ => kk ls hl) (fun c1 => absurd (of_decide_eq_true hq) c1)⟩
      · exact ⟨rfl, fun kk => lv_icmp_lt (tgt := a) hx hb hd hk (fun c1 => absurd c1 (of_decide_eq_false hq)) (fun _ => kk ls hl)⟩
    | ge =>
      obtain ⟨u, v, S0, rfl, ⟨hq, rfl⟩ | ⟨hq, rfl⟩⟩ := mj_c2_inv (t := a) hst
      · exact ⟨rfl, fun kk => lv_icmp_ge (tgt := a) hx hb hd hk (fun _ => kk ls hl) (fun c1 => absurd (of_decide_eq_true hq) c1)⟩
      · exact ⟨rfl, fun kk => lv_icmp_ge (tgt := a) hx hb hd hk (fun c1 => absurd c1 (of_decide_eq_false hq)) (fun _ => kk ls hl)⟩
    | gt =>
      obtain ⟨u, v, S0, rfl, ⟨hq, rfl⟩ | ⟨hq, rfl⟩⟩ := mj_c2_inv (t := a) hst
      · exact ⟨rfl, fun kk => lv_icmp_gt (tgt := a) hx hb hd hk (fun _ => kk ls hl) (fun c1 => absurd (of_decide_eq_true hq) c1)⟩
      · exact ⟨rfl, fun kk => lv_icmp_gt (tgt := a) hx hb hd hk (fun c1 => absurd c1 (of_decide_eq_false hq)) (fun _ => kk ls hl)⟩
    | le =>
      obtain ⟨u, v, S0, rfl, ⟨hq, rfl⟩ | ⟨hq, rfl⟩⟩ := mj_c2_inv (t := a) hst
      · exact ⟨rfl, fun kk => lv_icmp_le (tgt := a) hx hb hd hk (fun _ => kk ls hl) (fun c1 => absurd (of_decide_eq_true hq) c1)⟩
      · exact ⟨rfl, fun kk => lv_icmp_le (tgt := a) hx hb hd hk (fun c1 => absurd c1 (of_decide_eq_false hq)) (fun _ => kk ls hl)⟩
  | if_acmp q o =>
    cases q with
    | eq =>
      obtain ⟨u, v, S0, rfl, ⟨hq, rfl⟩ | ⟨hq, rfl⟩⟩ := mj_ca_inv (t := a) hst
      · exact ⟨rfl, fun kk => lv_acmp_eq (tgt := a) (rx := u.map ad) (ry := v.map ad) hx hb hd hk (fun _ => kk ls hl) (fun c1 => absurd (congrArg (Option.map ad) (of_decide_eq_true hq)) c1)⟩
      · exact ⟨rfl, fun kk => lv_acmp_eq (tgt := a) (rx := u.map ad) (ry := v.map ad) hx hb hd hk (fun c1 => absurd (hadm u v c1) (of_decide_eq_false hq)) (fun _ => kk ls hl)⟩
    | ne =>
      obtain ⟨u, v, S0, rfl, ⟨hq, rfl⟩ | ⟨hq, rfl⟩⟩ := mj_ca_inv (t := a) hst
      · exact ⟨rfl, fun kk => lv_acmp_ne (tgt := a) (rx := u.map ad) (ry := v.map ad) hx hb hd hk (fun _ => kk ls hl) (fun c1 => absurd (hadm u v c1) (of_decide_eq_true hq))⟩
      · exact ⟨rfl, fun kk => lv_acmp_ne (tgt := a) (rx := u.map ad) (ry := v.map ad) hx hb hd hk (fun c1 => absurd (show ¬ u = v from fun q => c1 (congrArg (Option.map ad) q)) (of_decide_eq_false (p := ¬ u = v) hq)) (fun _ => kk ls hl)⟩
  | ifnull o =>
    obtain ⟨v, S0, rfl, ⟨hq, rfl⟩ | ⟨hq, rfl⟩⟩ := mj_cn_inv (t := a) (q := true) hst
    · cases v with
      | none => exact ⟨rfl, fun kk => lv_ifnullN (tgt := a) hx hb hd hk (kk ls hl)⟩
      | some v => cases hq
    · cases v with
      | none => exact absurd rfl hq
      | some v => exact ⟨rfl, fun kk => lv_ifnull hx hb hd (kk ls hl)⟩
  | ifnonnull o =>
    obtain ⟨v, S0, rfl, ⟨hq, rfl⟩ | ⟨hq, rfl⟩⟩ := mj_cn_inv (t := a) (q := false) hst
    · cases v with
      | none => cases hq
      | some v => exact ⟨rfl, fun kk => lv_ifnonnull (tgt := a) hx hb hd hk (kk ls hl)⟩
    · cases v with
      | none => exact ⟨rfl, fun kk => lv_ifnonnullN hx hb hd (kk ls hl)⟩
      | some v => exact absurd rfl hq
  | goto o =>
    obtain rfl := Option.some.inj hst
    exact ⟨rfl, fun kk => lv_goto (tgt := a) hx hb hd hk (kk ls hl)⟩
  | tableswitch df lo hi os =>
    obtain ⟨v, S0, rfl, h0, rfl⟩ := mj_sw_inv (o := mj_tbl df lo hi os) hst
    refine ⟨rfl, fun kk => ?_⟩
    have ht : (pc : Int) + mj_tbl df lo hi os v.toInt = ((((pc : Int) + mj_tbl df lo hi os v.toInt).toNat : Nat) : Int) := (Int.toNat_of_nonneg h0).symm
    by_cases hr : v.toInt < lo ∨ hi < v.toInt
    · refine lv_tableOut (tgt := ((pc : Int) + mj_tbl df lo hi os v.toInt).toNat) hx hb hd hr ?_ (kk ls hl)
      have e9 : mj_tbl df lo hi os v.toInt = df := if_pos hr
      rw [e9] at ht ⊢
      exact ht
    · have h1 : ¬ v.toInt < lo := fun q => hr (Or.inl q)
      have h2 : ¬ hi < v.toInt := fun q => hr (Or.inr q)
      have hk : os.size = (hi - lo + 1).toNat := hk
      have h3 : (v.toInt - lo).toNat < os.size := by omega
      have e9 : mj_tbl df lo hi os v.toInt = os[(v.toInt - lo).toNat] := by
        unfold mj_tbl
        rw [if_neg hr, Array.getElem?_eq_getElem h3]
        rfl
      refine lv_tableIn (off := os[(v.toInt - lo).toNat]) (tgt := ((pc : Int) + mj_tbl df lo hi os v.toInt).toNat) hx hb hd h1 h2 (Array.getElem?_eq_getElem h3) ?_ (kk ls hl)
      rw [← e9]
      exact ht
  | _ => cases hg
end STEP1
end
section
/-! writes, with the heap's size -/
section PUTS
variable {p : Program} {l : Launch} {e : Env} {R : Room} {s : State} {m : MethodId} {args : Array Value} {below : List Frame} {meth : Method} {c : Code} {H : Heap} {locs : List Loc} {cells slots : Nat} {Q : State → Prop}
variable {cc : ByteArray} {pc : Nat} {ls : Array Slot} {rest : List Value} {D : va_G} {cl : List vw_C} {A : Nat → Prop} {a : Nat} {tys : List (ClassId × FieldType)} {ws : va_W} {H0 : Heap}
/-- the field's link: a plain one, a nest mate's, a final one in the class's own constructor -/
def mj_lks (s : State) (args : Array Value) (meth : Method) (own : String) (index : Nat) (t : String × String × String × Bool) : Prop :=
  (t.2.2.2 = false ∧ (Cond.fieldLink own index t.1 t.2.1 t.2.2.1).before args s = true) ∨ (t.2.2.2 = false ∧ ∃ host, (Cond.fieldLinkNest own index t.1 t.2.1 t.2.2.1 host).before args s = true) ∨
  (t.2.2.2 = true ∧ meth.name = "<init>" ∧ t.1 = own ∧ (Cond.fieldLink own index t.1 t.2.1 t.2.2.1).before args s = true)
theorem mj_putA (hx : p.tables.exec = Jvm.exec) (hb : c.code = cc) {own C : String} {T : u_T} {N ci index : Nat} {Ts : List Cond} (hts : ∀ w ∈ Ts, w.before args s = true) (hin : ∀ w ∈ u_ws C T N, w ∈ Ts) (tf : Nat → FieldType) (hty : ∀ k, k < N → parseFieldDescriptor (T k).2.2.1 = some (tf k)) (hnm : ∀ a, a < N → ∀ b, b < N → a ≠ b → (T a).2.1 ≠ (T b).2.1) (hown : s.vm.findClass own = some m.cls) (hK : va_K D cl tys s) (hP : va_P D cl ws H) (hD : va_D A ws) (hS0 : va_S A H0 H locs) (q0 : Nat) {fs : List Value} (he : ws[q0]? = some (a, .inr (ci, fs))) (hc : cl[ci]? = some (C, T, N)) (k : Nat) (hk : k < N) (hlk : mj_lks s args meth own index (T k)) {v : Value} (hn : narrow (tf k) v = v) (hfit : fits (tf k) v = true) (hl : k < fs.length) (hdg : decode cc pc = .ok (.putfield index, 3))
    (kk : ∀ (H1 : Heap) (locs1 : List Loc), va_P D cl (ws.set q0 (a, .inr (ci, fs.set k v))) H1 → H1.size = H.size → va_S A H0 H1 locs1 → W p l e R s m args below meth c H1 locs1 cells slots Q (F0 m (pc + 3) ls rest)) : W p l e R s m args below meth c H locs cells slots Q (F0 m pc ls (v :: .ref a :: rest)) := by
  have hap := va_apart (own := own) hts hin tf hty hnm hK hc
  obtain ⟨r, h1, cell, g1, g2, g3, g4⟩ := hP q0 _ he
  obtain rfl : r = (C, T, N) := Option.some.inj (h1.symm.trans hc)
  obtain ⟨hsl, hfc, kC, hkC, hkind⟩ := hK.1 ci _ hc
  obtain ⟨cf, kf, fi, f, hi, hs⟩ := hsl k hk
  have hst := (u_facts hfc hkC (u_lays hts hin hk) hi).1
  have hlay := hts _ (hin _ (u_in_lay hk))
  have fin : ∀ H' : Heap, H'[a]? = some (cell.setSlot f.slot v) → H'.size = H.size → (∀ q, q ≠ a → H'[q]? = H[q]?) → W p l e R s m args below meth c H' (locs ++ [⟨a, f.slot⟩]) cells slots Q (F0 m (pc + 3) ls rest) := by
    intro H' e1 e2 e3
    rw [hs] at e1 ⊢
    exact kk H' _ (hP.set hD he ⟨_, hc, t_OB.to (V := updV (vp_V fs) k v) ⟨_, e1, g2, g3, t_set g4 hap hk v⟩ (fun j _ => vp_updV_set hl v j)⟩ e3) e2 (hS0.put e2 e3 (hD.2 q0 _ he))
  have hslot : f.slot < cell.slots.size := by rw [hs]; exact k2_hasslot (g4 k hk)
  unfold u_lay at hlay
  rcases hlk with ⟨hf, hl1⟩ | ⟨hf, host, hl1⟩ | ⟨hf, hnm1, hdecl, hl1⟩
  · rw [if_neg (by rw [hf]; decide)] at hlay
    have h6 := u_store hfc hkC hkind hlay hi (hty k hk) hn hfit
    exact W.putK hx hb (f := f) ⟨hown, hl1, ⟨_, _, _, hi⟩, hst⟩ (by rw [g2]; exact h6) g1 g3 hslot rfl rfl hdg fin
  · rw [if_neg (by rw [hf]; decide)] at hlay
    have h6 := u_store hfc hkC hkind hlay hi (hty k hk) hn hfit
    exact va_WputK hx hb (f := f) hown hl1 hi hst (by rw [g2]; exact h6) g1 g3 hslot rfl rfl hdg fin
  · rw [if_pos hf] at hlay
    have hcf : m.cls = cf := by
      obtain ⟨_, _, c', _, _, _, -, -, hf', -, -, -, hown2, -⟩ := Cond.laysFinal_spec hlay
      have e1 : c' = cf := by have := hi.symm.trans hf'; simp at this; exact this.1.symm
      rw [hdecl] at hown2
      rw [← e1]; exact Option.some.inj (hown.symm.trans hown2)
    have h6 := u_fits hfc hkC hkind (Or.inr hlay) hi (hty k hk) hn hfit
    exact W.putFinK hx hb hown hl1 hi hst hcf hnm1 (by rw [g2]; exact h6) g1 g3 hslot rfl rfl hdg fin
theorem mj_iast (hx : p.tables.exec = Jvm.exec) (hb : c.code = cc) (hK : va_K D cl tys s) (hP : va_P D cl ws H) (hD : va_D A ws) (hS : va_S A H0 H locs) (q0 t0 : Nat) {cA : ClassId} {n : Nat} {f : Nat → Int32} (ha : ws[q0]? = some (a, .inl (cA, n, .inl f))) (ht : tys[t0]? = some (cA, .int)) {i : Int32} {x : Int32} (hin : vp_in i n) (hdg : decode cc pc = .ok (.iastore, 1))
    (kk : ∀ (H1 : Heap) (locs1 : List Loc), va_P D cl (ws.set q0 (a, .inl (cA, n, .inl (upd f i.toNatClampNeg x)))) H1 → H1.size = H.size → va_S A H0 H1 locs1 → W p l e R s m args below meth c H1 locs1 cells slots Q (F0 m (pc + 1) ls rest)) : W p l e R s m args below meth c H locs cells slots Q (F0 m pc ls (.int x :: .int i :: .ref a :: rest)) := by
  refine W.iast hx hb (hP q0 _ ha) ((hK.2 t0 _ ht).1 n (fun j => .int (f j))) (fun q => by cases q) (by show ¬ (i < 0 ∨ (arrV _ _ _).slots.size ≤ _); rw [arrV_size]; exact hin) rfl rfl hdg fun H1 e1 e2 e3 => ?_
  refine kk H1 _ (hP.set hD ha ?_ e3) e2 (hS.put e2 e3 (hD.2 q0 _ ha))
  show H1[a]? = some (vp_cell _ _)
  rw [e1, vp_cell_i, vp_cell_i, arrV_store]
  congr 2
  funext q
  by_cases hq : q = i.toNatClampNeg <;> simp [updV, upd, hq]
theorem mj_zast (hx : p.tables.exec = Jvm.exec) (hb : c.code = cc) (hK : va_K D cl tys s) (hP : va_P D cl ws H) (hD : va_D A ws) (hS : va_S A H0 H locs) (q0 t0 : Nat) {cA : ClassId} {n : Nat} {f : Nat → Int32} (ha : ws[q0]? = some (a, .inl (cA, n, .inl f))) (ht : tys[t0]? = some (cA, .boolean)) {i : Int32} {x : Int32} (h01 : x = 0 ∨ x = 1) (hin : vp_in i n) (hdg : decode cc pc = .ok (.bastore, 1))
    (kk : ∀ (H1 : Heap) (locs1 : List Loc), va_P D cl (ws.set q0 (a, .inl (cA, n, .inl (upd f i.toNatClampNeg x)))) H1 → H1.size = H.size → va_S A H0 H1 locs1 → W p l e R s m args below meth c H1 locs1 cells slots Q (F0 m (pc + 1) ls rest)) : W p l e R s m args below meth c H locs cells slots Q (F0 m pc ls (.int x :: .int i :: .ref a :: rest)) := by
  refine W.zast hx hb (hP q0 _ ha) ((hK.2 t0 _ ht).1 n (fun j => .int (f j))) (fun q => by cases q) (by show ¬ (i < 0 ∨ (arrV _ _ _).slots.size ≤ _); rw [arrV_size]; exact hin) rfl rfl hdg fun H1 e1 e2 e3 => ?_
  refine kk H1 _ (hP.set hD ha ?_ e3) e2 (hS.put e2 e3 (hD.2 q0 _ ha))
  show H1[a]? = some (vp_cell _ _)
  have e9 : narrow .boolean (.int x) = .int x := by rcases h01 with rfl | rfl <;> decide
  rw [e1, e9, vp_cell_i, vp_cell_i, arrV_store]
  congr 2
  funext q
  by_cases hq : q = i.toNatClampNeg <;> simp [updV, upd, hq]
theorem mj_astq (hx : p.tables.exec = Jvm.exec) (hb : c.code = cc) (hK : va_K D cl tys s) (hP : va_P D cl ws H) (hD : va_D A ws) (hS : va_S A H0 H locs) (q0 t0 qk ci : Nat) {cA : ClassId} {r : vw_C} {n v : Nat} {vs : List Value} {f : Nat → Option Nat} (ha : ws[q0]? = some (a, .inl (cA, n, .inr (.inr (.inr (.inr f)))))) (ht : tys[t0]? = some (cA, .object r.1)) (hv : ws[qk]? = some (v, .inr (ci, vs))) (hc : cl[ci]? = some r) {i : Int32} (hin : vp_in i n) (hdg : decode cc pc = .ok (.aastore, 1))
    (kk : ∀ (H1 : Heap) (locs1 : List Loc), va_P D cl (ws.set q0 (a, .inl (cA, n, .inr (.inr (.inr (.inr (va_up f i.toNatClampNeg (some v)))))))) H1 → H1.size = H.size → va_S A H0 H1 locs1 → W p l e R s m args below meth c H1 locs1 cells slots Q (F0 m (pc + 1) ls rest)) : W p l e R s m args below meth c H locs cells slots Q (F0 m pc ls (.ref v :: .int i :: .ref a :: rest)) := by
  have hlt : i.toNatClampNeg < n := Nat.not_le.mp fun q => hin (Or.inr q)
  obtain ⟨r', hr', cellV, g1, g2, g3, -⟩ := hP qk _ hv
  have hcls := (hK.1 ci r hc).2
  obtain ⟨kA, comp, k1, k2, k3, -⟩ := (hK.2 t0 _ ht).2
  obtain rfl : comp = D.1 ci := Option.some.inj (k3.symm.trans hcls.1)
  obtain ⟨kC, hkC, -⟩ := hcls.2
  refine W.aast hx hb (hP q0 _ ha) (fun q h => by cases h) (fun h => by cases h) k1 k2 rfl hkC ⟨fun q => hin (Or.inl q), by show _ < (arrV _ _ _).slots.size; rw [arrV_size]; exact hlt⟩ g1 (fun q h => by rw [g3] at h; cases h) (by rw [g2]; exact hkC) (by rw [g2]; exact va_assign hcls) rfl rfl hdg fun H1 e1 e2 e3 => ?_
  refine kk H1 _ (hP.set hD ha ?_ e3) e2 (hS.put e2 e3 (hD.2 q0 _ ha))
  show H1[a]? = some (vp_cell _ _)
  rw [e1, vp_cell_q, vp_cell_q, arrV_store]
  congr 2
  funext q
  by_cases hq : q = i.toNatClampNeg <;> simp [updV, va_up, va_rf, hq]
theorem mj_astqN (hx : p.tables.exec = Jvm.exec) (hb : c.code = cc) (hK : va_K D cl tys s) (hP : va_P D cl ws H) (hD : va_D A ws) (hS : va_S A H0 H locs) (q0 t0 : Nat) {cA : ClassId} {C : String} {n : Nat} {f : Nat → Option Nat} (ha : ws[q0]? = some (a, .inl (cA, n, .inr (.inr (.inr (.inr f)))))) (ht : tys[t0]? = some (cA, .object C)) {i : Int32} (hin : vp_in i n) (hdg : decode cc pc = .ok (.aastore, 1))
    (kk : ∀ (H1 : Heap) (locs1 : List Loc), va_P D cl (ws.set q0 (a, .inl (cA, n, .inr (.inr (.inr (.inr (va_up f i.toNatClampNeg none))))))) H1 → H1.size = H.size → va_S A H0 H1 locs1 → W p l e R s m args below meth c H1 locs1 cells slots Q (F0 m (pc + 1) ls rest)) : W p l e R s m args below meth c H locs cells slots Q (F0 m pc ls (.null :: .int i :: .ref a :: rest)) := by
  refine va_WaastN (C := C) hx hb (hP q0 _ ha) ((hK.2 t0 _ ht).1 n (fun j => va_rf (f j))) (fun h => by cases h) (by show ¬ (i < 0 ∨ (arrV _ _ _).slots.size ≤ _); rw [arrV_size]; exact hin) rfl rfl hdg fun H1 e1 e2 e3 => ?_
  refine kk H1 _ (hP.set hD ha ?_ e3) e2 (hS.put e2 e3 (hD.2 q0 _ ha))
  show H1[a]? = some (vp_cell _ _)
  rw [e1, vp_cell_q, vp_cell_q, arrV_store]
  congr 2
  funext q
  by_cases hq : q = i.toNatClampNeg <;> simp [updV, va_up, va_rf, hq]
end PUTS
end
section
/-! instructions that read or write the heap -/
def mj_g2 (i : Instr) : Bool := match i with
  | .getfield _ => true
  | .putfield _ => true
  | .new _ => true
  | .newarray _ => true
  | .anewarray _ => true
  | .arraylength => true
  | .iaload => true
  | .iastore => true
  | .baload => true
  | .bastore => true
  | .aaload => true
  | .aastore => true
  | _ => false
/-- the script's cell -/
def mj_z (nX : Nat) (xs : Nat → Int32) : mj_C := (100, (List.range nX).map (fun j => Sum.inl (xs j)))
theorem mj_z_at {nX j : Nat} {xs : Nat → Int32} {v : mj_V} (h : (mj_z nX xs).2[j]? = some v) : j < nX ∧ v = .inl (xs j) := by
  unfold mj_z at h
  simp only [List.getElem?_map] at h
  cases hr : (List.range nX)[j]? with
  | none => rw [hr] at h; cases h
  | some w =>
    rw [hr] at h
    have hj : j < nX := by
      have := (List.getElem?_eq_some_iff.mp hr).1
      simpa using this
    rw [List.getElem?_range hj] at hr
    cases hr
    cases h
    exact ⟨hj, rfl⟩
theorem mj_map_set {ad : Nat → Nat} (vs : List mj_V) (k : Nat) (v : mj_V) : (vs.map (mj_cv ad)).set k (mj_cv ad v) = (vs.set k v).map (mj_cv ad) := (List.map_set).symm
section STEP2
variable {p : Program} {l : Launch} {e : Env} {R : Room} {s : State} {m : MethodId} {args : Array Value} {below : List Frame} {meth : Method} {c : Code} {H : Heap} {locs : List Loc} {cells slots : Nat} {Q : State → Prop}
variable {P : mj_P} {cl : List vw_C} {tyf : Nat → Nat → FieldType} {Ts Nw : List Cond} {ak : List Nat} {yn : Nat → MethodName} {cc : Nat → ByteArray} {rt : Nat → Option FieldType}
set_option maxHeartbeats 4000000 in
set_option maxRecDepth 100000 in
theorem mj_step2 {M pc nL b base nX : Nat} {xs : Nat → Int32} {D : va_G} {cA : Nat → ClassId} {i : mj_I} {L : mj_L} {S : List mj_V} {h : mj_H} {x : mj_N} {call : Nat → List mj_V → mj_H → Option mj_R} {ls : Array Slot} (hx : p.tables.exec = Jvm.exec) (hb : c.code = cc M) (hown : s.vm.findClass (yn M).cls = some m.cls) (hnm : meth.name = (yn M).name) (hts : ∀ w ∈ Ts, w.before args s = true) (hNw : ∀ w ∈ Nw, va_Nw w s) (hK : va_K D cl (mj_ty cl cA ak) s) (hX : va_X b nX xs s s.heap) (hbl : b < base) (hbs : base ≤ s.heap.size)
    (hl : mj_LO (mj_ad b base) ls nL L) (hI : mj_In D cl cA b base (mj_z nX xs) h H) (hS : va_S (fun q : Nat => base ≤ q) s.heap H locs) (hok : mj_oki P cl tyf Ts Nw ak yn cc rt M pc i) (hst : mj_st P call i pc L S h = some x) (hg : mj_g2 i.1 = true) (hrc : cells + (x.2.2.2.length - h.length) ≤ R.cells) (hrs : slots + (mj_sz x.2.2.2 - mj_sz h) ≤ R.slots)
    (kk : ∀ (H' : Heap) (locs' : List Loc) (cells' slots' : Nat), mj_LO (mj_ad b base) ls nL x.2.1 → mj_In D cl cA b base (mj_z nX xs) x.2.2.2 H' → va_S (fun q : Nat => base ≤ q) s.heap H' locs' → cells' = cells + (x.2.2.2.length - h.length) → slots' = slots + (mj_sz x.2.2.2 - mj_sz h) → W p l e R s m args below meth c H' locs' cells' slots' Q (F0 m x.1 ls (x.2.2.1.map (mj_cv (mj_ad b base))))) :
    W p l e R s m args below meth c H locs cells slots Q (F0 m pc ls (S.map (mj_cv (mj_ad b base)))) := by
  obtain ⟨ins, len, ia, ib⟩ := i
  obtain ⟨hd, hk⟩ := hok
  obtain ⟨t, rfl, hHs, hP⟩ := hI
  have hD := mj_wo_D (mj_ad b base) cA base t
  have hA : ∀ q : Nat, s.heap.size ≤ q → (fun q : Nat => base ≤ q) q := fun q hq => Nat.le_trans hbs hq
  have hbA : ¬ (fun q : Nat => base ≤ q) b := Nat.not_le.mpr hbl
  have hbh : b < s.heap.size := Nat.lt_of_lt_of_le hbl hbs
  -- a handle whose tag isn't 100 is not the script's
  have hnz : ∀ (a tag : Nat) (vs : List mj_V), (mj_z nX xs :: t)[a]? = some (tag, vs) → tag ≠ 100 → ∃ k, a = k + 1 ∧ t[k]? = some (tag, vs) := by
    intro a tag vs ha hne
    cases a with
    | zero =>
      rw [List.getElem?_cons_zero] at ha
      exact absurd (congrArg Prod.fst (Option.some.inj ha)).symm hne
    | succ k => exact ⟨k, rfl, by rw [List.getElem?_cons_succ] at ha; exact ha⟩
  have hcell : ∀ (k tag : Nat) (vs : List mj_V), t[k]? = some (tag, vs) → (mj_wo (mj_ad b base) cA base t)[k]? = some (base + k, mj_ce (mj_ad b base) cA (tag, vs)) := by
    intro k tag vs hk
    rw [mj_wo_get, hk]
    rfl
  have hsetz : ∀ (k : Nat) (q : mj_C), (mj_z nX xs :: t).set (k + 1) q = mj_z nX xs :: t.set k q := fun k q => rfl
  cases ins with
  | getfield ix =>
    obtain ⟨a, v, S0, rfl, hgf, rfl⟩ := mj_get_inv (c := ia) (k := ib) hst
    obtain ⟨C, T, N, ⟨hc, h100, hin, hty, hne⟩, hbN, hlink⟩ := hk
    have h100 : ia < 100 := h100
    obtain ⟨vs, ha, hv⟩ := mj_gf_inv hgf
    obtain ⟨k, rfl, ht⟩ := hnz a ia vs ha (by omega)
    have he := hcell k ia vs ht
    have hce : mj_ce (mj_ad b base) cA (ia, vs) = .inr (ia, vs.map (mj_cv (mj_ad b base))) := if_pos h100
    rw [hce] at he
    have hv' : (vs.map (mj_cv (mj_ad b base)))[ib]? = some (mj_cv (mj_ad b base) v) := by rw [List.getElem?_map, hv]; rfl
    have k9 := kk H locs cells slots hl ⟨t, rfl, hHs, hP⟩ hS (by simp) (by simp)
    rcases hlink with hlk | ⟨host, hlk⟩
    · exact va_get (D := D) (own := (yn M).cls) hx hb hts hin hown hK hP k he hc ib hbN (hts _ hlk) (fun _ h9 => h9) hv' hd k9
    · exact va_getN (D := D) (own := (yn M).cls) hx hb hts hin hown hK hP k he hc ib hbN (va_Nw.use rfl (hNw _ hlk)) (fun _ h9 => h9) hv' hd k9
  | putfield ix =>
    obtain ⟨a, v, S0, h', rfl, hz, hpf, rfl⟩ := mj_put_inv (c := ia) (k := ib) (z := P.2.2.2.2.1) hst
    obtain ⟨C, T, N, ⟨hc, h100, hin, hty, hne⟩, hbN, hkind, hlink⟩ := hk
    have h100 : ia < 100 := h100
    obtain ⟨e1, e2⟩ := mj_pf_le hpf
    obtain ⟨vs, ha, hlen, -, rfl⟩ := mj_pf_inv hpf
    obtain ⟨k, rfl, ht⟩ := hnz a ia vs ha (by omega)
    have he := hcell k ia vs ht
    have hce : ∀ ws : List mj_V, mj_ce (mj_ad b base) cA (ia, ws) = .inr (ia, ws.map (mj_cv (mj_ad b base))) := fun ws => if_pos h100
    rw [hce] at he
    have hkt : k < t.length := (List.getElem?_eq_some_iff.mp ht).1
    have hfit : narrow (tyf ia ib) (mj_cv (mj_ad b base) v) = mj_cv (mj_ad b base) v ∧ fits (tyf ia ib) (mj_cv (mj_ad b base) v) = true := by
      rcases hkind with ⟨z0, ety⟩ | ⟨z0, ety⟩ | ⟨z0, ⟨E, ety⟩ | ⟨E, ety⟩⟩
      · rw [z0] at hz; rw [ety]
        rcases v with v | v
        · exact ⟨rfl, rfl⟩
        · simp [mj_zk] at hz
      · rw [z0] at hz; rw [ety]
        rcases v with v | v
        · have hv : v = 0 ∨ v = 1 := by simpa [mj_zk] using hz
          rcases hv with rfl | rfl
          · exact ⟨(by decide : narrow FieldType.boolean (.int 0) = .int 0), (by decide : fits FieldType.boolean (.int 0) = true)⟩
          · exact ⟨(by decide : narrow FieldType.boolean (.int 1) = .int 1), (by decide : fits FieldType.boolean (.int 1) = true)⟩
        · simp [mj_zk] at hz
      · rw [z0] at hz; rw [ety]
        rcases v with v | _ | v
        · simp [mj_zk] at hz
        · exact ⟨rfl, rfl⟩
        · exact ⟨rfl, rfl⟩
      · rw [z0] at hz; rw [ety]
        rcases v with v | _ | v
        · simp [mj_zk] at hz
        · exact ⟨rfl, rfl⟩
        · exact ⟨rfl, rfl⟩
    have k9 : ∀ (H1 : Heap) (locs1 : List Loc), va_P D cl ((mj_wo (mj_ad b base) cA base t).set k (base + k, .inr (ia, (vs.map (mj_cv (mj_ad b base))).set ib (mj_cv (mj_ad b base) v)))) H1 → H1.size = H.size → va_S (fun q : Nat => base ≤ q) s.heap H1 locs1 → W p l e R s m args below meth c H1 locs1 cells slots Q (F0 m (pc + 3) ls (S0.map (mj_cv (mj_ad b base)))) := by
      intro H1 locs1 hP1 hz1 hS1
      refine kk H1 locs1 cells slots hl ⟨t.set k (ia, vs.set ib v), rfl, by rw [hz1, hHs, List.length_set], ?_⟩ hS1 ?_ ?_
      · rw [← mj_wo_set, hce, ← mj_map_set]
        exact hP1
      · show cells = cells + (List.length ((mj_z nX xs :: t).set (k + 1) (ia, vs.set ib v)) - _)
        rw [e1]; simp
      · show slots = slots + (mj_sz ((mj_z nX xs :: t).set (k + 1) (ia, vs.set ib v)) - _)
        rw [e2]; simp
    have hl9 : ib < (vs.map (mj_cv (mj_ad b base))).length := by rw [List.length_map]; exact hlen
    have hlks : mj_lks s args meth (yn M).cls ix (T ib) := by
      rcases hlink with ⟨hfin, hlk | ⟨host, hlk⟩⟩ | ⟨hfin, hin1, hdecl, hlk⟩
      · exact Or.inl ⟨hfin, hts _ hlk⟩
      · exact Or.inr (Or.inl ⟨hfin, host, va_Nw.use rfl (hNw _ hlk)⟩)
      · exact Or.inr (Or.inr ⟨hfin, by rw [hnm]; exact hin1, hdecl, hts _ hlk⟩)
    exact mj_putA (D := D) (own := (yn M).cls) hx hb hts hin (tyf ia) hty hne hown hK hP hD hS k he hc ib hbN hlks hfit.1 hfit.2 hl9 hd k9
  | new ix =>
    obtain ⟨C, T, N, ⟨hc, h100, hin, hty, hne⟩, hcl, hinst, hini, hdl, hdf⟩ := hk
    obtain rfl := Option.some.inj hst
    have hsz : mj_sz ((mj_z nX xs :: t) ++ [(ia, P.2.2.2.1 ia)]) - mj_sz (mj_z nX xs :: t) = N := by rw [mj_sz_app, hdl]; omega
    have hln : ((mj_z nX xs :: t) ++ [(ia, P.2.2.2.1 ia)]).length - (mj_z nX xs :: t).length = 1 := by rw [List.length_append]; simp
    have hrc : cells + 1 ≤ R.cells := by rw [← hln]; exact hrc
    have hrs : slots + N ≤ R.slots := by rw [← hsz]; exact hrs
    have hKn := hK.1 ia _ hc
    refine W.newcK hx hb hown (hts _ hcl) (hts _ hinst) (hts _ hini) rfl hd hrc hrs hKn.2.1 rfl fun H1 kC hkC e1 z1 o1 => ?_
    have e9 := kk H1 locs (cells + 1) (slots + N) hl (mj_push ⟨t, rfl, hHs, hP⟩ ?_ z1 o1) (mj_S_push hS z1 o1) (by show cells + 1 = _; rw [hln]) (by show slots + N = _; rw [hsz])
    · have hh : mj_ad b base (mj_z nX xs :: t).length = H.size := by rw [hHs]; rfl
      rw [← hh]
      exact e9
    · rw [show mj_ce (mj_ad b base) cA (ia, P.2.2.2.1 ia) = .inr (ia, (P.2.2.2.1 ia).map (mj_cv (mj_ad b base))) from if_pos h100]
      exact ⟨_, hc, (u_born (tyf ia) hts hin hKn hkC e1 hty).to (hdf _)⟩
  | newarray at0 =>
    cases at0 with
    | int =>
      obtain ⟨n, S0, rfl, hn0, hn1, rfl⟩ := mj_mk_inv (t := 100) (n := 2) (v := .inl 0) hst
      have hsz : mj_sz ((mj_z nX xs :: t) ++ [(100, List.replicate n.toNatClampNeg (.inl 0))]) - mj_sz (mj_z nX xs :: t) = n.toNatClampNeg := by rw [mj_sz_app]; simp
      have hln : ((mj_z nX xs :: t) ++ [((100, List.replicate n.toNatClampNeg (.inl 0)) : mj_C)]).length - (mj_z nX xs :: t).length = 1 := by rw [List.length_append]; simp
      have hrc : cells + 1 ≤ R.cells := by rw [← hln]; exact hrc
      have hrs : slots + n.toNatClampNeg ≤ R.slots := by rw [← hsz]; exact hrs
      have hk : (Cond.arrayClass (newarray.typeOf .int)).before args s = true := hts _ hk.1
      refine va_newaK hx hb hk rfl hd rfl hn0 rfl ?_ hrc hrs rfl fun H1 cA' e1 z1 o1 hAr hNm => ?_
      · show n.toNatClampNeg * 4 ≤ 536870912
        omega
      have hcA : cA' = cA 0 := by
        have h2 : s.vm.findClass ("[" ++ (FieldType.int).toString) = some (cA 0) := (hK.2 0 _ rfl).2
        exact Option.some.inj (hNm.symm.trans h2)
      have e9 := kk H1 locs (cells + 1) (slots + n.toNatClampNeg) hl (mj_push ⟨t, rfl, hHs, hP⟩ ?_ z1 o1) (mj_S_push hS z1 o1) (by show cells + 1 = _; rw [hln]) (by show slots + _ = _; rw [hsz])
      · have hh : mj_ad b base (mj_z nX xs :: t).length = H.size := by rw [hHs]; rfl
        rw [← hh]
        exact e9
      · show H1[H.size]? = some (vp_cell _ _)
        rw [e1, hcA]
        congr 1
        show _ = arrV (cA 0) (List.replicate n.toNatClampNeg (Sum.inl 0 : mj_V)).length (fun j => .int (mj_int (List.replicate n.toNatClampNeg (Sum.inl 0 : mj_V))[j]?))
        rw [List.length_replicate]
        congr 1
        funext j
        rw [List.getElem?_replicate]
        by_cases hj : j < n.toNatClampNeg
        · rw [if_pos hj]; rfl
        · rw [if_neg hj]; rfl
    | boolean =>
      obtain ⟨n, S0, rfl, hn0, hn1, rfl⟩ := mj_mk_inv (t := 200) (n := 2) (v := .inl 0) hst
      have hsz : mj_sz ((mj_z nX xs :: t) ++ [(200, List.replicate n.toNatClampNeg (.inl 0))]) - mj_sz (mj_z nX xs :: t) = n.toNatClampNeg := by rw [mj_sz_app]; simp
      have hln : ((mj_z nX xs :: t) ++ [((200, List.replicate n.toNatClampNeg (.inl 0)) : mj_C)]).length - (mj_z nX xs :: t).length = 1 := by rw [List.length_append]; simp
      have hrc : cells + 1 ≤ R.cells := by rw [← hln]; exact hrc
      have hrs : slots + n.toNatClampNeg ≤ R.slots := by rw [← hsz]; exact hrs
      have hk : (Cond.arrayClass (newarray.typeOf .boolean)).before args s = true := hts _ hk.2
      refine va_newaK hx hb hk rfl hd rfl hn0 rfl ?_ hrc hrs rfl fun H1 cA' e1 z1 o1 hAr hNm => ?_
      · show n.toNatClampNeg * 1 ≤ 536870912
        omega
      have hcA : cA' = cA 100 := by
        have h2 : s.vm.findClass ("[" ++ (FieldType.boolean).toString) = some (cA 100) := (hK.2 1 _ rfl).2
        exact Option.some.inj (hNm.symm.trans h2)
      have e9 := kk H1 locs (cells + 1) (slots + n.toNatClampNeg) hl (mj_push ⟨t, rfl, hHs, hP⟩ ?_ z1 o1) (mj_S_push hS z1 o1) (by show cells + 1 = _; rw [hln]) (by show slots + _ = _; rw [hsz])
      · have hh : mj_ad b base (mj_z nX xs :: t).length = H.size := by rw [hHs]; rfl
        rw [← hh]
        exact e9
      · show H1[H.size]? = some (vp_cell _ _)
        rw [e1, hcA]
        congr 1
        show _ = arrV (cA 100) (List.replicate n.toNatClampNeg (Sum.inl 0 : mj_V)).length (fun j => .int (mj_int (List.replicate n.toNatClampNeg (Sum.inl 0 : mj_V))[j]?))
        rw [List.length_replicate]
        congr 1
        funext j
        rw [List.getElem?_replicate]
        by_cases hj : j < n.toNatClampNeg
        · rw [if_pos hj]; rfl
        · rw [if_neg hj]; rfl
    | _ => cases hst
  | anewarray ix =>
    obtain ⟨n, S0, rfl, hn0, hn1, rfl⟩ := mj_mk_inv (t := 101 + ia) (n := 3) (v := .inr none) hst
    obtain ⟨C, T, N, hc, hak, h99, hcl, hov⟩ := hk
    have h99 : ia < 99 := h99
    have hsz : mj_sz ((mj_z nX xs :: t) ++ [(101 + ia, List.replicate n.toNatClampNeg (.inr none))]) - mj_sz (mj_z nX xs :: t) = n.toNatClampNeg := by rw [mj_sz_app]; simp
    have hln : ((mj_z nX xs :: t) ++ [((101 + ia, List.replicate n.toNatClampNeg (.inr none)) : mj_C)]).length - (mj_z nX xs :: t).length = 1 := by rw [List.length_append]; simp
    have hrc : cells + 1 ≤ R.cells := by rw [← hln]; exact hrc
    have hrs : slots + n.toNatClampNeg ≤ R.slots := by rw [← hsz]; exact hrs
    refine W.anew hx hb hown (hts _ hcl) (va_AO.use (hNw _ hov)) rfl hd rfl hn0 (by omega) hrc hrs fun cA' kA comp f1 f2 f3 f4 => ?_
    generalize hH1 : H.push ({ cls := cA', slots := Array.replicate n.toNatClampNeg .null, vm := .none } : Cell) = H1
    have z1 : H1.size = H.size + 1 := by rw [← hH1, Array.size_push]
    have e1 : H1[H.size]? = some (arrV cA' n.toNatClampNeg (fun _ => .null)) := by rw [← hH1, Array.getElem?_push_size, ← arrV_new]
    have o1 : ∀ q : Nat, q < H.size → H1[q]? = H[q]? := fun q hq => by rw [← hH1, Array.getElem?_push, if_neg (Nat.ne_of_lt hq)]
    obtain ⟨t0, ht0⟩ := mj_ty_at (cA := cA) hak hc
    have hcA : cA' = cA (ia + 1) := by
      obtain ⟨_, _, -, -, -, h2⟩ := (hK.2 t0 _ ht0).2
      exact Option.some.inj (f1.symm.trans h2)
    have e9 := kk H1 locs (cells + 1) (slots + n.toNatClampNeg) hl (mj_push ⟨t, rfl, hHs, hP⟩ ?_ z1 o1) (mj_S_push hS z1 o1) (by show cells + 1 = _; rw [hln]) (by show slots + _ = _; rw [hsz])
    · have hh : mj_ad b base (mj_z nX xs :: t).length = H.size := by rw [hHs]; rfl
      rw [← hh]
      exact e9
    · rw [show mj_ce (mj_ad b base) cA (101 + ia, List.replicate n.toNatClampNeg (.inr none)) = .inl (cA (101 + ia - 100), (List.replicate n.toNatClampNeg (Sum.inr none : mj_V)).length, .inr (.inr (.inr (.inr (fun j => mj_ref (mj_ad b base) (List.replicate n.toNatClampNeg (Sum.inr none : mj_V))[j]?))))) from (if_neg (by show ¬ 101 + ia < 100; omega)).trans ((if_neg (by show ¬ 101 + ia = 100; omega)).trans (if_neg (by show ¬ 101 + ia = 200; omega)))]
      show H1[H.size]? = some (vp_cell _ _)
      rw [e1, hcA, vp_cell_q, List.length_replicate, show 101 + ia - 100 = ia + 1 by omega]
      congr 2
      funext j
      rw [List.getElem?_replicate]
      by_cases hj : j < n.toNatClampNeg
      · rw [if_pos hj]; rfl
      · rw [if_neg hj]; rfl
  | arraylength =>
    obtain ⟨a, n, S0, rfl, hln, rfl⟩ := mj_al_inv hst
    have k9 := kk H locs cells slots hl ⟨t, rfl, hHs, hP⟩ hS (by simp) (by simp)
    unfold mj_ln at hln
    cases ha : (mj_z nX xs :: t)[a]? with
    | none => rw [ha] at hln; cases hln
    | some q =>
      rw [ha] at hln
      obtain ⟨tag, vs⟩ := q
      by_cases h100 : tag = 100
      · subst h100
        have hn : vs.length = n := Option.some.inj hln
        subst hn
        cases a with
        | zero =>
          rw [List.getElem?_cons_zero] at ha
          have e2 : (mj_z nX xs).2 = vs := congrArg Prod.snd (Option.some.inj ha)
          have hlz : vs.length = nX := by rw [← e2]; simp [mj_z]
          rw [hlz] at k9
          exact va_slen hx hb hX hbh hbA hS hd k9
        | succ k =>
          rw [List.getElem?_cons_succ] at ha
          have he := hcell k 100 vs ha
          rw [show mj_ce (mj_ad b base) cA (100, vs) = .inl (cA 0, vs.length, .inl (fun j => mj_int vs[j]?)) from rfl] at he
          exact va_alen hx hb hK hP k 0 he rfl rfl hd k9
      · exact absurd ((if_neg h100).symm.trans hln) (fun q => by cases q)
  | iaload =>
    obtain ⟨j, a, v, S0, rfl, hj, hgf, rfl⟩ := mj_ald_inv hst
    have k9 := kk H locs cells slots hl ⟨t, rfl, hHs, hP⟩ hS (by simp) (by simp)
    obtain ⟨vs, ha, hv⟩ := mj_gf_inv hgf
    cases a with
    | zero =>
      rw [List.getElem?_cons_zero] at ha
      have hv2 : (mj_z nX xs).2[j.toNatClampNeg]? = some (.inl v) := by
        have e2 : (mj_z nX xs).2 = vs := congrArg Prod.snd (Option.some.inj ha)
        rw [e2]; exact hv
      obtain ⟨h1, h2⟩ := mj_z_at hv2
      cases h2
      exact va_sld hx hb hX hbh hbA hS (fun q => by rcases q with q | q; exact hj q; omega) hd k9
    | succ k =>
      rw [List.getElem?_cons_succ] at ha
      have he := hcell k 100 vs ha
      rw [show mj_ce (mj_ad b base) cA (100, vs) = .inl (cA 0, vs.length, .inl (fun j => mj_int vs[j]?)) from rfl] at he
      have hlt : j.toNatClampNeg < vs.length := (List.getElem?_eq_some_iff.mp hv).1
      refine va_iald hx hb hK hP k 0 he rfl (i := j) (fun q => by rcases q with q | q; exact hj q; omega) hd ?_
      rw [hv]
      exact k9
  | iastore =>
    obtain ⟨v, j, a, S0, h', rfl, hj, hpf, rfl⟩ := mj_ast_inv hst
    obtain ⟨e1, e2⟩ := mj_pf_le hpf
    obtain ⟨vs, ha, hlen, hane, rfl⟩ := mj_pf_inv hpf
    cases a with
    | zero => exact absurd rfl hane
    | succ k =>
      rw [List.getElem?_cons_succ] at ha
      have he := hcell k 100 vs ha
      rw [show mj_ce (mj_ad b base) cA (100, vs) = .inl (cA 0, vs.length, .inl (fun j => mj_int vs[j]?)) from rfl] at he
      refine mj_iast hx hb hK hP hD hS k 0 he rfl (i := j) (x := v) (fun q => by rcases q with q | q; exact hj q; omega) hd (fun H1 locs1 hP1 hz1 hS1 => ?_)
      refine kk H1 locs1 cells slots hl ⟨t.set k (100, vs.set j.toNatClampNeg (.inl v)), rfl, by rw [hz1, hHs, List.length_set], ?_⟩ hS1 ?_ ?_
      · rw [← mj_wo_set]
        have e9 : mj_ce (mj_ad b base) cA (100, vs.set j.toNatClampNeg (.inl v)) = .inl (cA 0, vs.length, .inl (upd (fun j => mj_int vs[j]?) j.toNatClampNeg v)) := by
          show (Sum.inl (cA 0, (vs.set j.toNatClampNeg (.inl v)).length, Sum.inl (fun q => mj_int (vs.set j.toNatClampNeg (.inl v))[q]?)) : va_E) = _
          rw [List.length_set]
          congr 4
          funext q
          rw [List.getElem?_set]
          unfold upd
          by_cases hq : j.toNatClampNeg = q
          · rw [if_pos hq, if_pos hlen, if_pos hq.symm]; rfl
          · rw [if_neg hq, if_neg (fun z => hq z.symm)]
        rw [e9]
        exact hP1
      · show cells = cells + (List.length ((mj_z nX xs :: t).set (k + 1) (100, vs.set j.toNatClampNeg (.inl v))) - _)
        rw [e1]; simp
      · show slots = slots + (mj_sz ((mj_z nX xs :: t).set (k + 1) (100, vs.set j.toNatClampNeg (.inl v))) - _)
        rw [e2]; simp
  | baload =>
    obtain ⟨j, a, v, S0, rfl, hj, hgf, rfl⟩ := mj_bld_inv hst
    have k9 := kk H locs cells slots hl ⟨t, rfl, hHs, hP⟩ hS (by simp) (by simp)
    obtain ⟨vs, ha, hv⟩ := mj_gf_inv hgf
    obtain ⟨k, rfl, ht⟩ := hnz a 200 vs ha (by omega)
    have he := hcell k 200 vs ht
    rw [show mj_ce (mj_ad b base) cA (200, vs) = .inl (cA 100, vs.length, .inl (fun j => mj_int vs[j]?)) from rfl] at he
    have hlt : j.toNatClampNeg < vs.length := (List.getElem?_eq_some_iff.mp hv).1
    refine va_zald hx hb hK hP k 1 he rfl (i := j) (fun q => by rcases q with q | q; exact hj q; omega) hd ?_
    rw [hv]
    exact k9
  | bastore =>
    obtain ⟨v, j, a, S0, h', rfl, hj, hv01, hpf, rfl⟩ := mj_bst_inv hst
    obtain ⟨e1, e2⟩ := mj_pf_le hpf
    obtain ⟨vs, ha, hlen, hane, rfl⟩ := mj_pf_inv hpf
    cases a with
    | zero => exact absurd rfl hane
    | succ k =>
      rw [List.getElem?_cons_succ] at ha
      have he := hcell k 200 vs ha
      rw [show mj_ce (mj_ad b base) cA (200, vs) = .inl (cA 100, vs.length, .inl (fun j => mj_int vs[j]?)) from rfl] at he
      refine mj_zast hx hb hK hP hD hS k 1 he rfl (i := j) (x := v) hv01 (fun q => by rcases q with q | q; exact hj q; omega) hd (fun H1 locs1 hP1 hz1 hS1 => ?_)
      refine kk H1 locs1 cells slots hl ⟨t.set k (200, vs.set j.toNatClampNeg (.inl v)), rfl, by rw [hz1, hHs, List.length_set], ?_⟩ hS1 ?_ ?_
      · rw [← mj_wo_set]
        have e9 : mj_ce (mj_ad b base) cA (200, vs.set j.toNatClampNeg (.inl v)) = .inl (cA 100, vs.length, .inl (upd (fun j => mj_int vs[j]?) j.toNatClampNeg v)) := by
          show (Sum.inl (cA 100, (vs.set j.toNatClampNeg (.inl v)).length, Sum.inl (fun q => mj_int (vs.set j.toNatClampNeg (.inl v))[q]?)) : va_E) = _
          rw [List.length_set]
          congr 4
          funext q
          rw [List.getElem?_set]
          unfold upd
          by_cases hq : j.toNatClampNeg = q
          · rw [if_pos hq, if_pos hlen, if_pos hq.symm]; rfl
          · rw [if_neg hq, if_neg (fun z => hq z.symm)]
        rw [e9]
        exact hP1
      · show cells = cells + (List.length ((mj_z nX xs :: t).set (k + 1) (200, vs.set j.toNatClampNeg (.inl v))) - _)
        rw [e1]; simp
      · show slots = slots + (mj_sz ((mj_z nX xs :: t).set (k + 1) (200, vs.set j.toNatClampNeg (.inl v))) - _)
        rw [e2]; simp
  | aaload =>
    obtain ⟨j, a, v, S0, rfl, hj, hgf, rfl⟩ := mj_rld_inv (c := ia) hst
    obtain ⟨q, hq, hak, h99⟩ := hk
    have h99 : ia < 99 := h99
    obtain ⟨t0, ht0⟩ := mj_ty_at (cA := cA) hak hq
    have k9 := kk H locs cells slots hl ⟨t, rfl, hHs, hP⟩ hS (by simp) (by simp)
    obtain ⟨vs, ha, hv⟩ := mj_gf_inv hgf
    obtain ⟨k, rfl, ht⟩ := hnz a (101 + ia) vs ha (by omega)
    have he := hcell k (101 + ia) vs ht
    rw [show mj_ce (mj_ad b base) cA (101 + ia, vs) = .inl (cA (101 + ia - 100), vs.length, .inr (.inr (.inr (.inr (fun j => mj_ref (mj_ad b base) vs[j]?))))) from (if_neg (by show ¬ 101 + ia < 100; omega)).trans ((if_neg (by show ¬ 101 + ia = 100; omega)).trans (if_neg (by show ¬ 101 + ia = 200; omega))), show 101 + ia - 100 = ia + 1 by omega] at he
    have hlt : j.toNatClampNeg < vs.length := (List.getElem?_eq_some_iff.mp hv).1
    refine va_aldq hx hb hK hP k t0 he ht0 (i := j) (fun q => by rcases q with q | q; exact hj q; omega) hd ?_
    rw [hv]
    exact k9
  | aastore =>
    obtain ⟨v, j, a, S0, h', rfl, hj, htv, hpf, rfl⟩ := mj_rst_inv (c := ia) hst
    obtain ⟨q, hq, hak, h99⟩ := hk
    have h99 : ia < 99 := h99
    have h100 : ia < 100 := by omega
    obtain ⟨t0, ht0⟩ := mj_ty_at (cA := cA) hak hq
    obtain ⟨e1, e2⟩ := mj_pf_le hpf
    obtain ⟨vs, ha, hlen, hane, rfl⟩ := mj_pf_inv hpf
    obtain ⟨k, rfl, ht⟩ := hnz a (101 + ia) vs ha (by omega)
    have he := hcell k (101 + ia) vs ht
    have hce : ∀ ws : List mj_V, mj_ce (mj_ad b base) cA (101 + ia, ws) = .inl (cA (ia + 1), ws.length, .inr (.inr (.inr (.inr (fun j => mj_ref (mj_ad b base) ws[j]?))))) := by
      intro ws
      rw [show mj_ce (mj_ad b base) cA (101 + ia, ws) = .inl (cA (101 + ia - 100), ws.length, .inr (.inr (.inr (.inr (fun j => mj_ref (mj_ad b base) ws[j]?))))) from (if_neg (by show ¬ 101 + ia < 100; omega)).trans ((if_neg (by show ¬ 101 + ia = 100; omega)).trans (if_neg (by show ¬ 101 + ia = 200; omega))), show 101 + ia - 100 = ia + 1 by omega]
    rw [hce] at he
    have k9 : ∀ (H1 : Heap) (locs1 : List Loc), va_P D cl ((mj_wo (mj_ad b base) cA base t).set k (base + k, .inl (cA (ia + 1), vs.length, .inr (.inr (.inr (.inr (va_up (fun j => mj_ref (mj_ad b base) vs[j]?) j.toNatClampNeg (v.map (mj_ad b base))))))))) H1 → H1.size = H.size → va_S (fun q : Nat => base ≤ q) s.heap H1 locs1 → W p l e R s m args below meth c H1 locs1 cells slots Q (F0 m (pc + 1) ls (S0.map (mj_cv (mj_ad b base)))) := by
      intro H1 locs1 hP1 hz1 hS1
      refine kk H1 locs1 cells slots hl ⟨t.set k (101 + ia, vs.set j.toNatClampNeg (.inr v)), rfl, by rw [hz1, hHs, List.length_set], ?_⟩ hS1 ?_ ?_
      · rw [← mj_wo_set]
        have e9 : mj_ce (mj_ad b base) cA (101 + ia, vs.set j.toNatClampNeg (.inr v)) = .inl (cA (ia + 1), vs.length, .inr (.inr (.inr (.inr (va_up (fun j => mj_ref (mj_ad b base) vs[j]?) j.toNatClampNeg (v.map (mj_ad b base))))))) := by
          rw [hce, List.length_set]
          congr 7
          funext q
          rw [List.getElem?_set]
          unfold va_up
          by_cases hq : j.toNatClampNeg = q
          · rw [if_pos hq, if_pos hlen, if_pos hq.symm]; rfl
          · rw [if_neg hq, if_neg (fun z => hq z.symm)]
        rw [e9]
        exact hP1
      · show cells = cells + (List.length ((mj_z nX xs :: t).set (k + 1) (101 + ia, vs.set j.toNatClampNeg (.inr v))) - _)
        rw [e1]; simp
      · show slots = slots + (mj_sz ((mj_z nX xs :: t).set (k + 1) (101 + ia, vs.set j.toNatClampNeg (.inr v))) - _)
        rw [e2]; simp
    have hin9 : vp_in j vs.length := fun q => by rcases q with q | q; exact hj q; omega
    cases v with
    | none => exact mj_astqN hx hb hK hP hD hS k t0 he ht0 hin9 hd k9
    | some w =>
      have htw := htv w rfl
      unfold mj_tg at htw
      cases hw : (mj_z nX xs :: t)[w]? with
      | none => rw [hw] at htw; cases htw
      | some qw =>
        rw [hw] at htw
        obtain ⟨tag, ws⟩ := qw
        have htag : tag = ia := by simpa using htw
        subst htag
        obtain ⟨kw, rfl, htkw⟩ := hnz w tag ws hw (by omega)
        have hew := hcell kw tag ws htkw
        rw [show mj_ce (mj_ad b base) cA (tag, ws) = .inr (tag, ws.map (mj_cv (mj_ad b base))) from if_pos h100] at hew
        exact mj_astq hx hb hK hP hD hS k t0 kw tag he ht0 hew hq hin9 hd k9
  | _ => cases hg
end STEP2
end
section
/-! the heap grows -/
set_option maxHeartbeats 4000000 in
set_option maxRecDepth 100000 in
theorem mj_st_le {P : mj_P} {call : Nat → List mj_V → mj_H → Option mj_R} (hc : ∀ (y : Nat) (as : List mj_V) (h : mj_H) (r : Option mj_V) (h' : mj_H), call y as h = some (r, h') → mj_le h h') {i : mj_I} {pc : Nat} {L : mj_L} {S : List mj_V} {h : mj_H} {x : mj_N} (hst : mj_st P call i pc L S h = some x) : mj_le h x.2.2.2 := by
  obtain ⟨ins, len, a, b⟩ := i
  have happ : ∀ q : mj_C, mj_le h (h ++ [q]) := fun q => ⟨by rw [List.length_append]; omega, by rw [mj_sz_app]; omega⟩
  cases ins with
  | iconst n => obtain rfl := Option.some.inj hst; exact mj_le.rf h
  | bipush n => obtain rfl := Option.some.inj hst; exact mj_le.rf h
  | sipush n => obtain rfl := Option.some.inj hst; exact mj_le.rf h
  | aconst_null => obtain rfl := Option.some.inj hst; exact mj_le.rf h
  | goto n => obtain rfl := Option.some.inj hst; exact mj_le.rf h
  | iload_n k => obtain ⟨v, hv, rfl⟩ := mj_li_inv (k := k.val) (n := 1) hst; exact mj_le.rf h
  | iload k => obtain ⟨v, hv, rfl⟩ := mj_li_inv (k := k) (n := 2) hst; exact mj_le.rf h
  | aload_n k => obtain ⟨v, hv, rfl⟩ := mj_la_inv (k := k.val) (n := 1) hst; exact mj_le.rf h
  | aload k => obtain ⟨v, hv, rfl⟩ := mj_la_inv (k := k) (n := 2) hst; exact mj_le.rf h
  | istore_n k => obtain ⟨v, S0, rfl, hn, rfl⟩ := mj_si_inv (k := k.val) (n := 1) hst; exact mj_le.rf h
  | istore k => obtain ⟨v, S0, rfl, hn, rfl⟩ := mj_si_inv (k := k) (n := 2) hst; exact mj_le.rf h
  | astore_n k => obtain ⟨v, S0, rfl, hn, rfl⟩ := mj_sa_inv (k := k.val) (n := 1) hst; exact mj_le.rf h
  | astore k => obtain ⟨v, S0, rfl, hn, rfl⟩ := mj_sa_inv (k := k) (n := 2) hst; exact mj_le.rf h
  | iinc k n =>
    have hst : (match L[k]? with
      | some (some (.inl x)) => mj_go (pc + 3) (L.set k (some (.inl (x + Int32.ofInt n)))) S h
      | _ => none) = some x := hst
    cases hv : L[k]? with
    | none => rw [hv] at hst; cases hst
    | some w =>
      rw [hv] at hst
      rcases w with _ | ⟨v | v⟩ <;> first | (cases hst; done) | skip
      obtain rfl := Option.some.inj hst
      exact mj_le.rf h
  | iadd => obtain ⟨u, v, S0, rfl, rfl⟩ := mj_b2_inv hst; exact mj_le.rf h
  | isub => obtain ⟨u, v, S0, rfl, rfl⟩ := mj_b2_inv hst; exact mj_le.rf h
  | imul => obtain ⟨u, v, S0, rfl, rfl⟩ := mj_b2_inv hst; exact mj_le.rf h
  | iand => obtain ⟨u, v, S0, rfl, rfl⟩ := mj_b2_inv hst; exact mj_le.rf h
  | ior => obtain ⟨u, v, S0, rfl, rfl⟩ := mj_b2_inv hst; exact mj_le.rf h
  | ixor => obtain ⟨u, v, S0, rfl, rfl⟩ := mj_b2_inv hst; exact mj_le.rf h
  | ishl => obtain ⟨u, v, S0, rfl, rfl⟩ := mj_b2_inv hst; exact mj_le.rf h
  | ishr => obtain ⟨u, v, S0, rfl, rfl⟩ := mj_b2_inv hst; exact mj_le.rf h
  | idiv => obtain ⟨u, v, S0, rfl, hne, rfl⟩ := mj_d2_inv hst; exact mj_le.rf h
  | irem => obtain ⟨u, v, S0, rfl, hne, rfl⟩ := mj_d2_inv hst; exact mj_le.rf h
  | dup =>
    rcases S with _ | ⟨v, S⟩ <;> first | (cases hst; done) | skip
    obtain rfl := Option.some.inj hst
    exact mj_le.rf h
  | pop =>
    rcases S with _ | ⟨v, S⟩ <;> first | (cases hst; done) | skip
    obtain rfl := Option.some.inj hst
    exact mj_le.rf h
  | dup_x1 =>
    rcases S with _ | ⟨v, _ | ⟨w, S⟩⟩ <;> first | (cases hst; done) | skip
    obtain rfl := Option.some.inj hst
    exact mj_le.rf h
  | dup2 =>
    rcases S with _ | ⟨v, _ | ⟨w, S⟩⟩ <;> first | (cases hst; done) | skip
    obtain rfl := Option.some.inj hst
    exact mj_le.rf h
  | ifCond q o => cases q <;> (obtain ⟨v, S0, rfl, ⟨hq, rfl⟩ | ⟨hq, rfl⟩⟩ := mj_c1_inv (t := a) hst <;> exact mj_le.rf h)
  | if_icmp q o => cases q <;> (obtain ⟨u, v, S0, rfl, ⟨hq, rfl⟩ | ⟨hq, rfl⟩⟩ := mj_c2_inv (t := a) hst <;> exact mj_le.rf h)
  | if_acmp q o => cases q <;> (obtain ⟨u, v, S0, rfl, ⟨hq, rfl⟩ | ⟨hq, rfl⟩⟩ := mj_ca_inv (t := a) hst <;> exact mj_le.rf h)
  | ifnull o => obtain ⟨v, S0, rfl, ⟨hq, rfl⟩ | ⟨hq, rfl⟩⟩ := mj_cn_inv (t := a) (q := true) hst <;> exact mj_le.rf h
  | ifnonnull o => obtain ⟨v, S0, rfl, ⟨hq, rfl⟩ | ⟨hq, rfl⟩⟩ := mj_cn_inv (t := a) (q := false) hst <;> exact mj_le.rf h
  | tableswitch df lo hi os => obtain ⟨v, S0, rfl, h0, rfl⟩ := mj_sw_inv (o := mj_tbl df lo hi os) hst; exact mj_le.rf h
  | getfield ix => obtain ⟨q, v, S0, rfl, hgf, rfl⟩ := mj_get_inv (c := a) (k := b) hst; exact mj_le.rf h
  | putfield ix =>
    obtain ⟨q, v, S0, h', rfl, hz, hpf, rfl⟩ := mj_put_inv (c := a) (k := b) (z := P.2.2.2.2.1) hst
    obtain ⟨e1, e2⟩ := mj_pf_le hpf
    exact ⟨Nat.le_of_eq e1.symm, Nat.le_of_eq e2.symm⟩
  | new ix => obtain rfl := Option.some.inj hst; exact happ _
  | newarray at0 =>
    cases at0 with
    | int => obtain ⟨n, S0, rfl, hn0, hn1, rfl⟩ := mj_mk_inv (t := 100) (n := 2) (v := .inl 0) hst; exact happ _
    | boolean => obtain ⟨n, S0, rfl, hn0, hn1, rfl⟩ := mj_mk_inv (t := 200) (n := 2) (v := .inl 0) hst; exact happ _
    | _ => cases hst
  | anewarray ix => obtain ⟨n, S0, rfl, hn0, hn1, rfl⟩ := mj_mk_inv (t := 101 + a) (n := 3) (v := .inr none) hst; exact happ _
  | arraylength => obtain ⟨q, n, S0, rfl, hln, rfl⟩ := mj_al_inv hst; exact mj_le.rf h
  | iaload => obtain ⟨j, q, v, S0, rfl, hj, hgf, rfl⟩ := mj_ald_inv hst; exact mj_le.rf h
  | baload => obtain ⟨j, q, v, S0, rfl, hj, hgf, rfl⟩ := mj_bld_inv hst; exact mj_le.rf h
  | bastore =>
    obtain ⟨v, j, q, S0, h', rfl, hj, hv01, hpf, rfl⟩ := mj_bst_inv hst
    obtain ⟨e1, e2⟩ := mj_pf_le hpf
    exact ⟨Nat.le_of_eq e1.symm, Nat.le_of_eq e2.symm⟩
  | aaload => obtain ⟨j, q, v, S0, rfl, hj, hgf, rfl⟩ := mj_rld_inv (c := a) hst; exact mj_le.rf h
  | iastore =>
    obtain ⟨v, j, q, S0, h', rfl, hj, hpf, rfl⟩ := mj_ast_inv hst
    obtain ⟨e1, e2⟩ := mj_pf_le hpf
    exact ⟨Nat.le_of_eq e1.symm, Nat.le_of_eq e2.symm⟩
  | aastore =>
    obtain ⟨v, j, q, S0, h', rfl, hj, htv, hpf, rfl⟩ := mj_rst_inv (c := a) hst
    obtain ⟨e1, e2⟩ := mj_pf_le hpf
    exact ⟨Nat.le_of_eq e1.symm, Nat.le_of_eq e2.symm⟩
  | invokestatic ix =>
    obtain ⟨r, h', hn1, hn2, hcall, rfl⟩ := mj_inv_inv (y := a) (n := b) hst
    exact hc _ _ _ _ _ hcall
  | invokevirtual ix =>
    have hst : (if mj_rcv (P.2.2.2.2.2 a) (b - 1) S h = true then mj_inv call a b pc L S h else none) = some x := hst
    by_cases hrv : mj_rcv (P.2.2.2.2.2 a) (b - 1) S h = true
    · rw [if_pos hrv] at hst
      obtain ⟨r, h', hn1, hn2, hcall, rfl⟩ := mj_inv_inv (y := a) (n := b) hst
      exact hc _ _ _ _ _ hcall
    · rw [if_neg hrv] at hst; cases hst
  | invokespecial ix =>
    have hst : (if a = 9999 then mj_oin pc L S h else if mj_rcv (P.2.2.2.2.2 a) (b - 1) S h = true then mj_inv call a b pc L S h else none) = some x := hst
    by_cases ha : a = 9999
    · rw [if_pos ha] at hst
      rcases S with _ | ⟨v | _ | q, S⟩ <;> first | (cases hst; done) | skip
      by_cases h8 : S.length ≤ 8
      · have ex : (pc + 3, L, S, h) = x := Option.some.inj ((if_pos h8).symm.trans hst)
        subst ex
        exact mj_le.rf h
      · exact absurd ((if_neg h8).symm.trans hst) (fun q => by cases q)
    · rw [if_neg ha] at hst
      by_cases hrv : mj_rcv (P.2.2.2.2.2 a) (b - 1) S h = true
      · rw [if_pos hrv] at hst
        obtain ⟨r, h', hn1, hn2, hcall, rfl⟩ := mj_inv_inv (y := a) (n := b) hst
        exact hc _ _ _ _ _ hcall
      · rw [if_neg hrv] at hst; cases hst
  | _ => cases hst
theorem mj_rt_inv {rk : Nat} {i : Instr} {S : List mj_V} {h : mj_H} {r : mj_R} (e : mj_rt rk i S h = some r) : (∃ v, i = .ireturn ∧ S = [.inl v] ∧ (rk = 1 ∨ (rk = 2 ∧ (v = 0 ∨ v = 1))) ∧ r = (some (.inl v), h)) ∨ (∃ v, i = .areturn ∧ S = [.inr v] ∧ rk = 3 ∧ r = (some (.inr v), h)) ∨ (i = .return_ ∧ S = [] ∧ rk = 0 ∧ r = (none, h)) := by
  cases i with
  | ireturn =>
    rcases S with _ | ⟨v | v, _ | ⟨w, S⟩⟩ <;> first | (cases e; done) | skip
    by_cases hq : rk = 1 ∨ (rk = 2 ∧ (v = 0 ∨ v = 1))
    · exact Or.inl ⟨v, rfl, rfl, hq, (Option.some.inj ((if_pos hq).symm.trans e)).symm⟩
    · exact absurd ((if_neg hq).symm.trans e) (fun q => by cases q)
  | areturn =>
    rcases S with _ | ⟨v | v, _ | ⟨w, S⟩⟩ <;> first | (cases e; done) | skip
    by_cases hq : rk = 3
    · exact Or.inr (Or.inl ⟨v, rfl, rfl, hq, (Option.some.inj ((if_pos hq).symm.trans e)).symm⟩)
    · exact absurd ((if_neg hq).symm.trans e) (fun q => by cases q)
  | return_ =>
    rcases S with _ | ⟨w, S⟩ <;> first | (cases e; done) | skip
    by_cases hq : rk = 0
    · exact Or.inr (Or.inr ⟨rfl, rfl, hq, (Option.some.inj ((if_pos hq).symm.trans e)).symm⟩)
    · exact absurd ((if_neg hq).symm.trans e) (fun q => by cases q)
  | _ => cases e
theorem mj_it_le {P : mj_P} {call : Nat → List mj_V → mj_H → Option mj_R} (hc : ∀ (y : Nat) (as : List mj_V) (h : mj_H) (r : Option mj_V) (h' : mj_H), call y as h = some (r, h') → mj_le h h') {M : Nat} : ∀ (n : Nat) (x : mj_N) (r : mj_R), mj_it (mj_stp P call M) n x = some r → mj_le x.2.2.2 r.2 := by
  intro n
  induction n with
  | zero => intro x r e; cases e
  | succ n ih =>
    intro x r e
    simp only [mj_it] at e
    unfold mj_stp at e
    cases hi : P.1 M x.1 with
    | none => rw [hi] at e; cases e
    | some i =>
      rw [hi] at e
      by_cases hr : mj_ir i.1 = true
      · simp only [if_pos hr] at e
        cases hq : mj_rt (P.2.2.1 M) i.1 x.2.2.1 x.2.2.2 with
        | none => rw [hq] at e; cases e
        | some q =>
          rw [hq] at e
          have e : q = r := Option.some.inj e
          subst e
          rcases mj_rt_inv hq with ⟨v, -, -, -, rfl⟩ | ⟨v, -, -, -, rfl⟩ | ⟨-, -, -, rfl⟩ <;> exact mj_le.rf _
      · simp only [if_neg hr] at e
        cases hq : mj_st P call i x.1 x.2.1 x.2.2.1 x.2.2.2 with
        | none => rw [hq] at e; cases e
        | some y =>
          rw [hq] at e
          exact (mj_st_le hc hq).tr (ih y r e)
end
section
/-! calls, a method's whole walk, its contract -/
def mj_g3 (i : Instr) : Bool := match i with
  | .invokestatic _ => true
  | .invokevirtual _ => true
  | .invokespecial _ => true
  | _ => false
abbrev mj_rm (d : Nat) (h h' : mj_H) : Room := { frames := d, cells := h'.length - h.length, slots := mj_sz h' - mj_sz h, locals := 60 * d }
abbrev mj_ws (P : mj_P) (Ts : List Cond) (yn : Nat → MethodName) (cc : Nat → ByteArray) (rt : Nat → Option FieldType) (y : Nat) : List Cond := Cond.code (yn y) (cc y) (P.2.1 y) (rt y) :: Ts
/-- what is known of the calls -/
def mj_CK (l : Launch) (P : mj_P) (cl : List vw_C) (Ts Nw : List Cond) (ak : List Nat) (yn : Nat → MethodName) (cc : Nat → ByteArray) (rt : Nat → Option FieldType) (D : va_G) (cA : Nat → ClassId) (b base nX : Nat) (xs : Nat → Int32) (d : Nat) (call : Nat → List mj_V → mj_H → Option mj_R) : Prop :=
  ∀ (y : Nat) (as : List mj_V) (h : mj_H) (r : Option mj_V) (h' : mj_H), call y as h = some (r, h') → mj_le h h' ∧ (mj_okm P Ts yn cc rt y → as.length ≤ P.2.1 y →
    Met l (yn y) (mj_ws P Ts yn cc rt y) (mj_rm d h h') (mj_Pc D cl cA ak Nw b base nX xs (mj_z nX xs) as h) (mj_Qc D cl cA b base (mj_z nX xs) r h') (h'.length - h.length) (mj_sz h' - mj_sz h) (fun q : Nat => base ≤ q))
section STEP3
variable {p : Program} {l : Launch} {e : Env} {R : Room} {s : State} {m : MethodId} {args : Array Value} {below : List Frame} {meth : Method} {c : Code} {H : Heap} {locs : List Loc} {cells slots : Nat} {Q : State → Prop}
variable {P : mj_P} {cl : List vw_C} {tyf : Nat → Nat → FieldType} {Ts Nw : List Cond} {ak : List Nat} {yn : Nat → MethodName} {cc : Nat → ByteArray} {rt : Nat → Option FieldType}
set_option maxHeartbeats 4000000 in
set_option maxRecDepth 100000 in
theorem mj_step3 {M pc nL b base nX d : Nat} {xs : Nat → Int32} {D : va_G} {cA : Nat → ClassId} {i : mj_I} {L : mj_L} {S : List mj_V} {h : mj_H} {x : mj_N} {call : Nat → List mj_V → mj_H → Option mj_R} {ls : Array Slot} (hx : p.tables.exec = Jvm.exec) (hb : c.code = cc M) (hml : c.maxLocals = nL) (hown : s.vm.findClass (yn M).cls = some m.cls) (hts : ∀ w ∈ Ts, w.before args s = true) (hgd : ∀ w ∈ Ts, goodWord w = true) (hnf : mj_nwf Nw) (hNw : ∀ w ∈ Nw, va_Nw w s) (hK : va_K D cl (mj_ty cl cA ak) s) (hX : va_X b nX xs s s.heap) (hbl : b < base) (hbs : base ≤ s.heap.size)
    (hCK : mj_CK l P cl Ts Nw ak yn cc rt D cA b base nX xs d call) (hfr : d + 1 ≤ R.frames) (hlo : 60 * (d + 1) ≤ R.locals)
    (hl : mj_LO (mj_ad b base) ls nL L) (hI : mj_In D cl cA b base (mj_z nX xs) h H) (hS : va_S (fun q : Nat => base ≤ q) s.heap H locs) (hok : mj_oki P cl tyf Ts Nw ak yn cc rt M pc i) (hst : mj_st P call i pc L S h = some x) (hg : mj_g3 i.1 = true) (hrc : cells + (x.2.2.2.length - h.length) ≤ R.cells) (hrs : slots + (mj_sz x.2.2.2 - mj_sz h) ≤ R.slots)
    (kk : ∀ (H' : Heap) (locs' : List Loc) (cells' slots' : Nat), mj_LO (mj_ad b base) ls nL x.2.1 → mj_In D cl cA b base (mj_z nX xs) x.2.2.2 H' → va_S (fun q : Nat => base ≤ q) s.heap H' locs' → cells' = cells + (x.2.2.2.length - h.length) → slots' = slots + (mj_sz x.2.2.2 - mj_sz h) → W p l e R s m args below meth c H' locs' cells' slots' Q (F0 m x.1 ls (x.2.2.1.map (mj_cv (mj_ad b base))))) :
    W p l e R s m args below meth c H locs cells slots Q (F0 m pc ls (S.map (mj_cv (mj_ad b base)))) := by
  obtain ⟨ins, len, y, n⟩ := i
  obtain ⟨hd, hk⟩ := hok
  have hG : ∀ y', mj_okm P Ts yn cc rt y' → GoodIn Ts (mj_ws P Ts yn cc rt y') := by
    intro y' hm w hw
    have hw : w ∈ Ts := by
      rcases List.mem_cons.mp hw with rfl | h1
      · exact hm.2.1
      · exact h1
    exact ⟨hw, good_of_word (hgd w hw)⟩
  have hF : CallFix p m c (cc M) nL s args Ts (yn M).cls := ⟨hx, hb, hml, hown, hts⟩
  have hroom : ∀ y', mj_okm P Ts yn cc rt y' → ∀ h' : mj_H, (mj_rm d h h').frames + 1 ≤ R.frames ∧ 8 + (P.2.1 y' + 11) + (mj_rm d h h').locals ≤ R.locals := by
    intro y' hm h'
    refine ⟨hfr, ?_⟩
    have := hm.2.2.1
    show 8 + (P.2.1 y' + 11) + 60 * d ≤ R.locals
    omega
  -- the state before a call is the callee's start
  have hpre : ∀ (as : List mj_V) (U : State), U.heap = H → s.WarmedH U.vm → mj_Pc D cl cA ak Nw b base nX xs (mj_z nX xs) as h (as.map (mj_cv (mj_ad b base))).toArray U := by
    intro as U hU hW
    refine ⟨rfl, by rw [hU]; exact hI, va_K.moved hW.alike hK, mj_nw_warm hnf hW hNw, ?_⟩
    have hbh : b < s.heap.size := Nat.lt_of_lt_of_le hbl hbs
    exact va_X.moved hW.alike (va_X.kept hX (by rw [hU]; exact hS.2.1 b hbh (Nat.not_le.mpr hbl)))
  have hcat : ∀ (S' : List mj_V), S'.length ≤ 8 → ((S'.map (mj_cv (mj_ad b base))).map fun v => v.category).sum ≤ 8 := by
    intro S' hS'
    rw [mj_cat_sum]; exact hS'
  -- behind a call
  have hgo : ∀ (r : Option mj_V) (h' : mj_H) (a9 : Array Value), x = (pc + 3, L, r.toList ++ S.drop n, h') → 
      va_Run p l e R s m args below meth c H locs cells slots (h'.length - h.length) (mj_sz h' - mj_sz h) (F0 m pc ls (S.map (mj_cv (mj_ad b base)))) ((S.drop n).map (mj_cv (mj_ad b base))) (mj_Qc D cl cA b base (mj_z nX xs) r h' a9) (fun q : Nat => base ≤ q) → 
      W p l e R s m args below meth c H locs cells slots Q (F0 m pc ls (S.map (mj_cv (mj_ad b base)))) := by
    intro r h' a9 ex hr
    subst ex
    refine mj_callk hr hS (fun H1 locs1 hI1 hS1 => ?_)
    have k9 := kk H1 locs1 _ _ hl hI1 hS1 rfl rfl
    have es : (r.toList ++ S.drop n).map (mj_cv (mj_ad b base)) = (r.map (mj_cv (mj_ad b base))).toList ++ (S.drop n).map (mj_cv (mj_ad b base)) := by
      cases r <;> simp
    have k9 : W p l e R s m args below meth c H1 locs1 (cells + (h'.length - h.length)) (slots + (mj_sz h' - mj_sz h)) Q (F0 m (pc + 3) ls ((r.toList ++ S.drop n).map (mj_cv (mj_ad b base)))) := k9
    rw [es] at k9
    exact k9
  cases ins with
  | invokestatic ix =>
    obtain ⟨r, h', hn1, hn2, hcall, ex⟩ := mj_inv_inv (y := y) (n := n) hst
    obtain ⟨⟨hm, hnl, hini, hcls, hlink⟩, hstc, hpar⟩ := hk
    have hm : mj_okm P Ts yn cc rt y := hm
    have hnl : n ≤ P.2.1 y := hnl
    have hrc : cells + (h'.length - h.length) ≤ R.cells := by rw [ex] at hrc; exact hrc
    have hrs : slots + (mj_sz h' - mj_sz h) ≤ R.slots := by rw [ex] at hrs; exact hrs
    have hlt : ((S.take n).reverse).length = n := by rw [List.length_reverse, List.length_take]; omega
    have hM := (hCK y _ h r h' hcall).2 hm (by rw [hlt]; exact hnl)
    have hst0 : S.map (mj_cv (mj_ad b base)) = (((S.take n).reverse).map (mj_cv (mj_ad b base))).reverse ++ (S.drop n).map (mj_cv (mj_ad b base)) := by
      rw [← List.map_reverse, List.reverse_reverse, ← List.map_append, List.take_append_drop]
    refine hgo r h' (((S.take n).reverse).map (mj_cv (mj_ad b base))).toArray ex ?_
    rcases hlink with hlk | ⟨host, hlk⟩
    · exact va_runS (g := F0 m pc ls (S.map (mj_cv (mj_ad b base)))) hF hM ⟨callB_of n hts (hG y hm) rfl rfl rfl (hts _ hini) (hts _ hlk) ⟨hcls.1, hcls.2, hpar⟩ (hroom y hm h'), hts _ hstc⟩ ⟨mj_blind hnf, hpre _⟩ rfl (by rw [List.length_map]; exact hlt) hl.1.1 hst0 (lv_room (hcat _ (by rw [List.length_drop]; omega))) hd ⟨hrc, hrs⟩
    · exact va_runSN (g := F0 m pc ls (S.map (mj_cv (mj_ad b base)))) hF hM ⟨va_cnB n hts (hG y hm) rfl rfl rfl (hNw _ hlk) (hts _ hini) ⟨hcls.1, hcls.2, hpar⟩ (hroom y hm h'), hts _ hstc, trivial⟩ ⟨mj_blind hnf, hpre _⟩ rfl (by rw [List.length_map]; exact hlt) hl.1.1 hst0 (lv_room (hcat _ (by rw [List.length_drop]; omega))) hd ⟨hrc, hrs⟩
  | invokevirtual ix =>
    have hst : (if mj_rcv (P.2.2.2.2.2 y) (n - 1) S h = true then mj_inv call y n pc L S h else none) = some x := hst
    obtain ⟨⟨hm, hnl, hini, hcls, hlink⟩, hn0, hinst, hsel, hpar, h100, T, N, hcl⟩ := hk
    have hn0 : 1 ≤ n := hn0
    have h100 : P.2.2.2.2.2 y < 100 := h100
    have hm : mj_okm P Ts yn cc rt y := hm
    have hnl : n ≤ P.2.1 y := hnl
    by_cases hrv : mj_rcv (P.2.2.2.2.2 y) (n - 1) S h = true
    · rw [if_pos hrv] at hst
      obtain ⟨r, h', hn1, hn2, hcall, ex⟩ := mj_inv_inv (y := y) (n := n) hst
      obtain ⟨a, vs, hsa, hha⟩ := mj_rcv_inv hrv
      obtain ⟨n, rfl⟩ : ∃ k, n = k + 1 := ⟨n - 1, by omega⟩
      rw [Nat.add_sub_cancel] at hsa
      have hpar : (parseMethodDescriptor (yn y).desc).map (fun d => d.parameters.length) = some n := hpar
      have hrc : cells + (h'.length - h.length) ≤ R.cells := by rw [ex] at hrc; exact hrc
      have hrs : slots + (mj_sz h' - mj_sz h) ≤ R.slots := by rw [ex] at hrs; exact hrs
      have htk := mj_take hsa
      have has : (S.take (n + 1)).reverse = .inr (some a) :: (S.take n).reverse := by rw [htk]; simp
      rw [has] at hcall
      have hlt : ((S.take n).reverse).length = n := by rw [List.length_reverse, List.length_take]; omega
      have hM := (hCK y _ h r h' hcall).2 hm (by rw [List.length_cons, hlt]; exact hnl)
      have hst0 : S.map (mj_cv (mj_ad b base)) = (((S.take n).reverse).map (mj_cv (mj_ad b base))).reverse ++ .ref (mj_ad b base a) :: (S.drop (n + 1)).map (mj_cv (mj_ad b base)) := by
        rw [← List.map_reverse, List.reverse_reverse]
        conv => lhs; rw [mj_cut hsa]
        rw [List.map_append]
        rfl
      obtain ⟨t, rfl, hHs, hP⟩ := id hI
      have hrec : ∃ cell : Cell, H[mj_ad b base a]? = some cell ∧ cell.vm.isStatics = false ∧ s.vm.findClass (yn y).cls = some cell.cls := by
        cases a with
        | zero =>
          rw [List.getElem?_cons_zero] at hha
          have e9 : (100 : Nat) = P.2.2.2.2.2 y := congrArg Prod.fst (Option.some.inj hha)
          omega
        | succ k =>
          have he := mj_at (ad := mj_ad b base) (cA := cA) (base := base) hha
          rw [show mj_ce (mj_ad b base) cA (P.2.2.2.2.2 y, vs) = .inr (P.2.2.2.2.2 y, vs.map (mj_cv (mj_ad b base))) from if_pos h100] at he
          exact va_recv hK hP hcl he
      refine hgo r h' (Value.ref (mj_ad b base a) :: ((S.take n).reverse).map (mj_cv (mj_ad b base))).toArray ex ?_
      rcases hlink with hlk | ⟨host, hlk⟩
      · exact va_runV (g := F0 m pc ls (S.map (mj_cv (mj_ad b base)))) hF hM ⟨callB_of n hts (hG y hm) rfl rfl rfl (hts _ hini) (hts _ hlk) ⟨hcls.1, hcls.2, hpar⟩ (hroom y hm h'), hts _ hinst, hts _ hsel⟩ ⟨mj_blind hnf, hrec, hpre _⟩ rfl (by rw [List.length_map]; exact hlt) hl.1.1 hst0 (lv_room (hcat _ (by rw [List.length_drop]; omega))) hd ⟨hrc, hrs⟩
      · exact va_runVN (g := F0 m pc ls (S.map (mj_cv (mj_ad b base)))) hF hM ⟨va_cnB n hts (hG y hm) rfl rfl rfl (hNw _ hlk) (hts _ hini) ⟨hcls.1, hcls.2, hpar⟩ (hroom y hm h'), hts _ hinst, hts _ hsel⟩ ⟨mj_blind hnf, hrec, hpre _⟩ rfl (by rw [List.length_map]; exact hlt) hl.1.1 hst0 (lv_room (hcat _ (by rw [List.length_drop]; omega))) hd ⟨hrc, hrs⟩
    · rw [if_neg hrv] at hst; cases hst
  | invokespecial ix =>
    rcases hk with ⟨hy, hlk, hin1, hcd⟩ | ⟨hy, ⟨hm, hnl, hini, hcls, hlink⟩, hn0, hinst, hnm, hrt0, hpar, h100⟩
    · have hy : y = 9999 := hy
      subst hy
      rcases S with _ | ⟨v | _ | a, S⟩ <;> first | (cases hst; done) | skip
      by_cases h8 : S.length ≤ 8
      · have ex : (pc + 3, L, S, h) = x := Option.some.inj ((if_pos h8).symm.trans hst)
        subst ex
        refine W.objInit hx hb hown (hts _ hlk) (hts _ hin1) (hts _ hcd) rfl (by rw [hml]; exact hl.1.1) rfl hd (by omega) ?_ ?_
        · have h9 := lv_room (m := m) (pc := pc) (ls := ls) (rest := ((.inr (some a) :: S : List mj_V).map (mj_cv (mj_ad b base)))) (hcat S h8)
          have h10 : 60 ≤ R.locals := by omega
          show 2 * _ + ((S.map (mj_cv (mj_ad b base))).map fun v => v.category).sum + 12 ≤ R.locals
          omega
        · exact kk H locs cells slots hl hI hS (by simp) (by simp)
      · exact absurd ((if_neg h8).symm.trans hst) (fun q => by cases q)
    · have hst : (if y = 9999 then mj_oin pc L S h else if mj_rcv (P.2.2.2.2.2 y) (n - 1) S h = true then mj_inv call y n pc L S h else none) = some x := hst
      rw [if_neg hy] at hst
      by_cases hrv : mj_rcv (P.2.2.2.2.2 y) (n - 1) S h = true
      · rw [if_pos hrv] at hst
        obtain ⟨r, h', hn1, hn2, hcall, ex⟩ := mj_inv_inv (y := y) (n := n) hst
        obtain ⟨a, vs, hsa, hha⟩ := mj_rcv_inv hrv
        obtain ⟨n, rfl⟩ : ∃ k, n = k + 1 := ⟨n - 1, by have : 1 ≤ n := hn0; omega⟩
        rw [Nat.add_sub_cancel] at hsa
        have hpar : (parseMethodDescriptor (yn y).desc).map (fun d => d.parameters.length) = some n := hpar
        have hrc : cells + (h'.length - h.length) ≤ R.cells := by rw [ex] at hrc; exact hrc
        have hrs : slots + (mj_sz h' - mj_sz h) ≤ R.slots := by rw [ex] at hrs; exact hrs
        have htk := mj_take hsa
        have has : (S.take (n + 1)).reverse = .inr (some a) :: (S.take n).reverse := by rw [htk]; simp
        rw [has] at hcall
        have hlt : ((S.take n).reverse).length = n := by rw [List.length_reverse, List.length_take]; omega
        have hM := (hCK y _ h r h' hcall).2 hm (by rw [List.length_cons, hlt]; exact hnl)
        have hrt0 : rt y = none := hrt0
        unfold mj_ws at hM
        have hGy := hG y hm
        unfold mj_ws at hGy
        rw [hrt0] at hM hGy
        have hst0 : S.map (mj_cv (mj_ad b base)) = (((S.take n).reverse).map (mj_cv (mj_ad b base))).reverse ++ .ref (mj_ad b base a) :: (S.drop (n + 1)).map (mj_cv (mj_ad b base)) := by
          rw [← List.map_reverse, List.reverse_reverse]
          conv => lhs; rw [mj_cut hsa]
          rw [List.map_append]
          rfl
        refine hgo r h' (Value.ref (mj_ad b base a) :: ((S.take n).reverse).map (mj_cv (mj_ad b base))).toArray ex ?_
        rcases hlink with hlk | ⟨host, hlk⟩
        · exact va_runI (g := F0 m pc ls (S.map (mj_cv (mj_ad b base)))) hF hM ⟨callB_of n hts hGy rfl rfl rfl (hts _ hini) (hts _ hlk) ⟨hcls.1, hcls.2, hpar⟩ (hroom y hm h'), hnm, hts _ hinst⟩ ⟨mj_blind hnf, hpre (.inr (some a) :: (S.take n).reverse)⟩ rfl (by rw [List.length_map]; exact hlt) hl.1.1 hst0 (lv_room (hcat _ (by rw [List.length_drop]; omega))) hd ⟨hrc, hrs⟩
        · exact va_runIN (g := F0 m pc ls (S.map (mj_cv (mj_ad b base)))) hF hM ⟨va_cnB n hts hGy rfl rfl rfl (hNw _ hlk) (hts _ hini) ⟨hcls.1, hcls.2, hpar⟩ (hroom y hm h'), hnm, hts _ hinst⟩ ⟨mj_blind hnf, hpre (.inr (some a) :: (S.take n).reverse)⟩ rfl (by rw [List.length_map]; exact hlt) hl.1.1 hst0 (lv_room (hcat _ (by rw [List.length_drop]; omega))) hd ⟨hrc, hrs⟩
      · rw [if_neg hrv] at hst; cases hst
  | _ => cases hg
end STEP3
end
section
/-- the program as the tables have it -/
def mj_OK (P : mj_P) (cl : List vw_C) (tyf : Nat → Nat → FieldType) (Ts Nw : List Cond) (ak : List Nat) (yn : Nat → MethodName) (cc : Nat → ByteArray) (rt : Nat → Option FieldType) : Prop :=
  (∀ M pc i, P.1 M pc = some i → mj_oki P cl tyf Ts Nw ak yn cc rt M pc i) ∧ (∀ w ∈ Ts, goodWord w = true) ∧ mj_nwf Nw
theorem mj_cover {P : mj_P} {call : Nat → List mj_V → mj_H → Option mj_R} {i : mj_I} {pc : Nat} {L : mj_L} {S : List mj_V} {h : mj_H} {x : mj_N} (hst : mj_st P call i pc L S h = some x) : mj_g1 i.1 = true ∨ mj_g2 i.1 = true ∨ mj_g3 i.1 = true := by
  obtain ⟨ins, len, a, b⟩ := i
  cases ins <;> first | exact Or.inl rfl | exact Or.inr (Or.inl rfl) | exact Or.inr (Or.inr rfl) | (cases hst; done)
section WALK
variable {p : Program} {l : Launch} {e : Env} {R : Room} {s : State} {m : MethodId} {args : Array Value} {below : List Frame} {meth : Method} {c : Code} {Q : State → Prop}
variable {P : mj_P} {cl : List vw_C} {tyf : Nat → Nat → FieldType} {Ts Nw : List Cond} {ak : List Nat} {yn : Nat → MethodName} {cc : Nat → ByteArray} {rt : Nat → Option FieldType}
set_option maxHeartbeats 4000000 in
theorem mj_walk {M nL b base nX d : Nat} {xs : Nat → Int32} {D : va_G} {cA : Nat → ClassId} {call : Nat → List mj_V → mj_H → Option mj_R} (hOK : mj_OK P cl tyf Ts Nw ak yn cc rt) (hx : p.tables.exec = Jvm.exec) (hb : c.code = cc M) (hml : c.maxLocals = nL) (hown : s.vm.findClass (yn M).cls = some m.cls) (hnm : meth.name = (yn M).name) (hts : ∀ w ∈ Ts, w.before args s = true) (hNw : ∀ w ∈ Nw, va_Nw w s) (hK : va_K D cl (mj_ty cl cA ak) s) (hX : va_X b nX xs s s.heap) (hbl : b < base) (hbs : base ≤ s.heap.size)
    (hCK : mj_CK l P cl Ts Nw ak yn cc rt D cA b base nX xs d call) (hfr : d + 1 ≤ R.frames) (hlo : 60 * (d + 1) ≤ R.locals) {r : Option mj_V} {h' : mj_H} {CE SE : Nat} (hCE : CE ≤ R.cells) (hSE : SE ≤ R.slots)
    (exit : ∀ (pc : Nat) (ls : Array Slot) (S : List mj_V) (H : Heap) (locs : List Loc) (i : mj_I), decode (cc M) pc = .ok (i.1, mj_len i) → mj_rt (P.2.2.1 M) i.1 S h' = some (r, h') → mj_In D cl cA b base (mj_z nX xs) h' H → va_S (fun q : Nat => base ≤ q) s.heap H locs → W p l e R s m args below meth c H locs CE SE Q (F0 m pc ls (S.map (mj_cv (mj_ad b base))))) :
    ∀ (n pc : Nat) (L : mj_L) (S : List mj_V) (h : mj_H), mj_it (mj_stp P call M) n (pc, L, S, h) = some (r, h') → ∀ (ls : Array Slot) (H : Heap) (locs : List Loc) (cells slots : Nat), mj_LO (mj_ad b base) ls nL L → mj_In D cl cA b base (mj_z nX xs) h H → va_S (fun q : Nat => base ≤ q) s.heap H locs → cells + (h'.length - h.length) = CE → slots + (mj_sz h' - mj_sz h) = SE → W p l e R s m args below meth c H locs cells slots Q (F0 m pc ls (S.map (mj_cv (mj_ad b base)))) := by
  have hcm : ∀ (y : Nat) (as : List mj_V) (h : mj_H) (r : Option mj_V) (h' : mj_H), call y as h = some (r, h') → mj_le h h' := fun y as h r h' q => (hCK y as h r h' q).1
  have hadi := mj_ad_inj hbl
  intro n
  induction n with
  | zero => intro pc L S h e9; cases e9
  | succ n ih =>
    intro pc L S h e9 ls H locs cells slots hl hI hS hc hs
    simp only [mj_it] at e9
    unfold mj_stp at e9
    cases hi : P.1 M pc with
    | none => simp only [hi] at e9; cases e9
    | some i =>
      simp only [hi] at e9
      have hok := hOK.1 M pc i hi
      by_cases hr : mj_ir i.1 = true
      · simp only [if_pos hr] at e9
        cases hq : mj_rt (P.2.2.1 M) i.1 S h with
        | none => rw [hq] at e9; cases e9
        | some q =>
          rw [hq] at e9
          have e9 : q = (r, h') := Option.some.inj e9
          subst e9
          have eh : h' = h := by
            rcases mj_rt_inv hq with ⟨v, -, -, -, z⟩ | ⟨v, -, -, -, z⟩ | ⟨-, -, -, z⟩ <;> exact congrArg Prod.snd z
          subst eh
          rw [Nat.sub_self, Nat.add_zero] at hc hs
          subst hc; subst hs
          exact exit pc ls S H locs i hok.1 hq hI hS
      · simp only [if_neg hr] at e9
        cases hq : mj_st P call i pc L S h with
        | none => rw [hq] at e9; cases e9
        | some y =>
          rw [hq] at e9
          obtain ⟨pc', L', S', h2⟩ := y
          have e9 : mj_it (mj_stp P call M) n (pc', L', S', h2) = some (r, h') := e9
          have hle1 : mj_le h h2 := mj_st_le hcm hq
          have hle2 : mj_le h2 h' := mj_it_le hcm n _ _ e9
          obtain ⟨a1, a2⟩ := hle1
          obtain ⟨a3, a4⟩ := hle2
          have hrc : cells + (h2.length - h.length) ≤ R.cells := by omega
          have hrs : slots + (mj_sz h2 - mj_sz h) ≤ R.slots := by omega
          rcases mj_cover hq with hg | hg | hg
          · obtain ⟨eh, hgo⟩ := mj_step1 (p := p) (l := l) (e := e) (R := R) (s := s) (m := m) (args := args) (below := below) (meth := meth) (c := c) (H := H) (locs := locs) (cells := cells) (slots := slots) (Q := Q) hx hb hl hadi hok hq hg
            have eh : h2 = h := eh
            subst eh
            exact hgo (fun ls' hl' => ih pc' L' S' h2 e9 ls' H locs cells slots hl' hI hS hc hs)
          · refine mj_step2 hx hb hown hnm hts hNw hK hX hbl hbs hl hI hS hok hq hg hrc hrs (fun H' locs' cells' slots' hl' hI' hS' ec es => ?_)
            refine ih pc' L' S' h2 e9 ls H' locs' cells' slots' hl' hI' hS' ?_ ?_
            · have ec : cells' = cells + (h2.length - h.length) := ec
              omega
            · have es : slots' = slots + (mj_sz h2 - mj_sz h) := es
              omega
          · refine mj_step3 hx hb hml hown hts hOK.2.1 hOK.2.2 hNw hK hX hbl hbs hCK hfr hlo hl hI hS hok hq hg hrc hrs (fun H' locs' cells' slots' hl' hI' hS' ec es => ?_)
            refine ih pc' L' S' h2 e9 ls H' locs' cells' slots' hl' hI' hS' ?_ ?_
            · have ec : cells' = cells + (h2.length - h.length) := ec
              omega
            · have es : slots' = slots + (mj_sz h2 - mj_sz h) := es
              omega
end WALK
set_option maxHeartbeats 4000000 in
/-- THE CONTRACT of every method, out of what the small machine answers -/
theorem mj_met {P : mj_P} {cl : List vw_C} {tyf : Nat → Nat → FieldType} {Ts Nw : List Cond} {ak : List Nat} {yn : Nat → MethodName} {cc : Nat → ByteArray} {rt : Nat → Option FieldType} (hOK : mj_OK P cl tyf Ts Nw ak yn cc rt) (l : Launch) (D : va_G) (cA : Nat → ClassId) (b base nX : Nat) (xs : Nat → Int32) (hbl : b < base) : ∀ d : Nat, mj_CK l P cl Ts Nw ak yn cc rt D cA b base nX xs d (mj_Cl P d) := by
  intro d
  induction d with
  | zero => intro y as h r h' e9; cases e9
  | succ d ih =>
    intro y as h r h' e9
    have hcm : ∀ (y : Nat) (as : List mj_V) (h : mj_H) (r : Option mj_V) (h' : mj_H), mj_Cl P d y as h = some (r, h') → mj_le h h' := fun y as h r h' q => (ih y as h r h' q).1
    have e9 : mj_fix (mj_stp P (mj_Cl P d) y) (mj_en P y as h) = some (r, h') := e9
    obtain ⟨n, hn⟩ := mj_fix_some.mp e9
    refine ⟨mj_it_le hcm n _ _ hn, fun hm hal => ?_⟩
    refine Met.ofW (cc := cc y) (maxL := P.2.1 y) (ret := rt y) hm.1 rfl ?_
    intro p e s m args below meth c s₁ B hml hv
    obtain ⟨rfl, hI, hK, hNw, hX⟩ := hv
    have hts0 := atoms_spec (ws := mj_ws P Ts yn cc rt y) B.pre
    have hts : ∀ w ∈ Ts, w.before ((as.map (mj_cv (mj_ad b base))).toArray) s = true := fun w hw => hts0 w (List.mem_cons_of_mem _ hw)
    have hown : s.vm.findClass (yn y).cls = some m.cls := findClass_of_methodNamed B.named
    have hnm : meth.name = (yn y).name := (name_of_methodNamed B.named B.method).1
    have hbs : base ≤ s.heap.size := by rw [mj_hd hI]; omega
    have hl := mj_LO.entry (mj_ad b base) as hal
    have hlocks := B.notSynchronized
    rw [lg_entry_eq]
    have hr := B.returns
    refine mj_walk (d := d) (call := mj_Cl P d) hOK B.exec B.bytes hml hown hnm hts hNw hK hX hbl hbs ih (Nat.le_refl _) (Nat.le_refl _) (CE := h'.length - h.length) (SE := mj_sz h' - mj_sz h) (Nat.le_refl _) (Nat.le_refl _) ?_ n 0 _ [] h hn _ s.heap [] 0 0 hl hI va_S.rf (Nat.zero_add _) (Nat.zero_add _)
    intro pc ls S H locs i hd hrt hI' hS'
    rcases mj_rt_inv hrt with ⟨v, ei, rfl, hk, er⟩ | ⟨v, ei, rfl, hk, er⟩ | ⟨ei, rfl, hk, er⟩
    · obtain ⟨ins, len, a1, a2⟩ := i
      have ei : ins = .ireturn := ei
      subst ei
      obtain rfl : r = some (.inl v) := congrArg Prod.fst er
      rcases hk with hk | ⟨hk, hv⟩
      · exact W.iret B.exec B.bytes (hr.trans (hm.2.2.2.2.1 hk)) (fun t ht hW => ⟨rfl, by rw [ht]; exact hI', hS'.F ht⟩) hS'.2.2 hd
      · refine W.zret B.exec B.bytes (hr.trans (hm.2.2.2.2.2.1 hk)) ?_ (fun t ht hW => ⟨rfl, by rw [ht]; exact hI', hS'.F ht⟩) hS'.2.2 hd
        rcases hv with rfl | rfl <;> decide
    · obtain ⟨ins, len, a1, a2⟩ := i
      have ei : ins = .areturn := ei
      subst ei
      obtain rfl : r = some (.inr v) := congrArg Prod.fst er
      obtain ⟨E, hE⟩ := hm.2.2.2.2.2.2 hk
      exact W.aret B.exec B.bytes (hr.trans hE) (Or.inl ⟨E, rfl⟩) (by cases v with
        | none => exact Or.inl rfl
        | some v => exact Or.inr ⟨_, rfl⟩) (fun t ht hW => ⟨rfl, by rw [ht]; exact hI', hS'.F ht⟩) hS'.2.2 hd
    · obtain ⟨ins, len, a1, a2⟩ := i
      have ei : ins = .return_ := ei
      subst ei
      obtain rfl : r = none := congrArg Prod.fst er
      exact W.vret B.exec B.bytes (hr.trans (hm.2.2.2.1 hk)) (fun t ht hW => ⟨rfl, by rw [ht]; exact hI', hS'.F ht⟩) hS'.2.2 hd
end
