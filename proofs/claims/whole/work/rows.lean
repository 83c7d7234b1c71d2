section
-- ===== PART A: goes FIRST, ahead of the names: the tables' words, and 'selects' of the private methods out of them =====
/-- a private method of a class that the tables say can be made, by its rows of tables_1 -/
def lw_okq (q : MethodName × Nat) : Prop := (q.1.cls ≠ "java/lang/invoke/MethodHandle" ∧ q.1.cls ≠ "java/lang/invoke/VarHandle") ∧ Cond.instantiable q.1.cls q.2 ∈ tables_1 ∧ Cond.privateMethod q.1 ∈ tables_1 ∧ Cond.instanceMethod q.1 ∈ tables_1
theorem lw_p0 : lw_okq (⟨"FixtureOrder$Runner", "startRun", "(LFixtureOrder$Suite;)V"⟩, 5) := ⟨⟨by decide +kernel, by decide +kernel⟩, List.mem_of_getElem? (i := 48) (by decide +kernel), List.mem_of_getElem? (i := 368) (by decide +kernel), List.mem_of_getElem? (i := 369) (by decide +kernel)⟩
theorem lw_p1 : lw_okq (⟨"FixtureOrder$Runner", "listCases", "(LFixtureOrder$Suite;)V"⟩, 5) := ⟨⟨by decide +kernel, by decide +kernel⟩, List.mem_of_getElem? (i := 48) (by decide +kernel), List.mem_of_getElem? (i := 381) (by decide +kernel), List.mem_of_getElem? (i := 382) (by decide +kernel)⟩
theorem lw_p2 : lw_okq (⟨"FixtureOrder$Runner", "placeOfFewestUnmade", "(I)I"⟩, 5) := ⟨⟨by decide +kernel, by decide +kernel⟩, List.mem_of_getElem? (i := 48) (by decide +kernel), List.mem_of_getElem? (i := 396) (by decide +kernel), List.mem_of_getElem? (i := 397) (by decide +kernel)⟩
theorem lw_p3 : lw_okq (⟨"FixtureOrder$Runner", "countUnmade", "(LFixtureOrder$Case;)I"⟩, 5) := ⟨⟨by decide +kernel, by decide +kernel⟩, List.mem_of_getElem? (i := 48) (by decide +kernel), List.mem_of_getElem? (i := 400) (by decide +kernel), List.mem_of_getElem? (i := 401) (by decide +kernel)⟩
theorem lw_p4 : lw_okq (⟨"FixtureOrder$Runner", "bringForward", "(II)V"⟩, 5) := ⟨⟨by decide +kernel, by decide +kernel⟩, List.mem_of_getElem? (i := 48) (by decide +kernel), List.mem_of_getElem? (i := 413) (by decide +kernel), List.mem_of_getElem? (i := 414) (by decide +kernel)⟩
theorem lw_p5 : lw_okq (⟨"FixtureOrder$Runner", "takeCase", "(LFixtureOrder$Suite;LFixtureOrder$Case;I)V"⟩, 5) := ⟨⟨by decide +kernel, by decide +kernel⟩, List.mem_of_getElem? (i := 48) (by decide +kernel), List.mem_of_getElem? (i := 417) (by decide +kernel), List.mem_of_getElem? (i := 418) (by decide +kernel)⟩
theorem lw_p6 : lw_okq (⟨"FixtureOrder$Runner", "bitsThatCannotStay", "(LFixtureOrder$Case;)I"⟩, 5) := ⟨⟨by decide +kernel, by decide +kernel⟩, List.mem_of_getElem? (i := 48) (by decide +kernel), List.mem_of_getElem? (i := 421) (by decide +kernel), List.mem_of_getElem? (i := 422) (by decide +kernel)⟩
theorem lw_p7 : lw_okq (⟨"FixtureOrder$Runner", "endMade", "(I)I"⟩, 5) := ⟨⟨by decide +kernel, by decide +kernel⟩, List.mem_of_getElem? (i := 48) (by decide +kernel), List.mem_of_getElem? (i := 426) (by decide +kernel), List.mem_of_getElem? (i := 427) (by decide +kernel)⟩
theorem lw_p8 : lw_okq (⟨"FixtureOrder$Runner", "tryCase", "(LFixtureOrder$Case;II)I"⟩, 5) := ⟨⟨by decide +kernel, by decide +kernel⟩, List.mem_of_getElem? (i := 48) (by decide +kernel), List.mem_of_getElem? (i := 450) (by decide +kernel), List.mem_of_getElem? (i := 451) (by decide +kernel)⟩
theorem lw_p9 : lw_okq (⟨"FixtureOrder$Runner", "make", "(LFixtureOrder$Fixture;LFixtureOrder$Case;)Z"⟩, 5) := ⟨⟨by decide +kernel, by decide +kernel⟩, List.mem_of_getElem? (i := 48) (by decide +kernel), List.mem_of_getElem? (i := 454) (by decide +kernel), List.mem_of_getElem? (i := 455) (by decide +kernel)⟩
theorem lw_p10 : lw_okq (⟨"FixtureOrder$Runner", "bitsOfCaseScope", "()I"⟩, 5) := ⟨⟨by decide +kernel, by decide +kernel⟩, List.mem_of_getElem? (i := 48) (by decide +kernel), List.mem_of_getElem? (i := 483) (by decide +kernel), List.mem_of_getElem? (i := 484) (by decide +kernel)⟩
theorem lw_p11 : lw_okq (⟨"FixtureOrderModel", "isFixture", "(I)Z"⟩, 44) := ⟨⟨by decide +kernel, by decide +kernel⟩, List.mem_of_getElem? (i := 537) (by decide +kernel), List.mem_of_getElem? (i := 685) (by decide +kernel), List.mem_of_getElem? (i := 686) (by decide +kernel)⟩
theorem lw_p12 : lw_okq (⟨"FixtureOrderModel", "isNeed", "(II)Z"⟩, 44) := ⟨⟨by decide +kernel, by decide +kernel⟩, List.mem_of_getElem? (i := 537) (by decide +kernel), List.mem_of_getElem? (i := 689) (by decide +kernel), List.mem_of_getElem? (i := 690) (by decide +kernel)⟩
theorem lw_p13 : lw_okq (⟨"FixtureOrderModel", "leads", "(II)Z"⟩, 44) := ⟨⟨by decide +kernel, by decide +kernel⟩, List.mem_of_getElem? (i := 537) (by decide +kernel), List.mem_of_getElem? (i := 693) (by decide +kernel), List.mem_of_getElem? (i := 694) (by decide +kernel)⟩
theorem lw_p14 : lw_okq (⟨"FixtureOrderModel", "isTest", "(I)Z"⟩, 44) := ⟨⟨by decide +kernel, by decide +kernel⟩, List.mem_of_getElem? (i := 537) (by decide +kernel), List.mem_of_getElem? (i := 705) (by decide +kernel), List.mem_of_getElem? (i := 706) (by decide +kernel)⟩
theorem lw_p15 : lw_okq (⟨"FixtureOrderModel", "closeTest", "(I)V"⟩, 44) := ⟨⟨by decide +kernel, by decide +kernel⟩, List.mem_of_getElem? (i := 537) (by decide +kernel), List.mem_of_getElem? (i := 721) (by decide +kernel), List.mem_of_getElem? (i := 722) (by decide +kernel)⟩
def lw_privs_1 : List (MethodName × Nat) := [(⟨"FixtureOrder$Runner", "startRun", "(LFixtureOrder$Suite;)V"⟩, 5), (⟨"FixtureOrder$Runner", "listCases", "(LFixtureOrder$Suite;)V"⟩, 5), (⟨"FixtureOrder$Runner", "placeOfFewestUnmade", "(I)I"⟩, 5), (⟨"FixtureOrder$Runner", "countUnmade", "(LFixtureOrder$Case;)I"⟩, 5), (⟨"FixtureOrder$Runner", "bringForward", "(II)V"⟩, 5), (⟨"FixtureOrder$Runner", "takeCase", "(LFixtureOrder$Suite;LFixtureOrder$Case;I)V"⟩, 5), (⟨"FixtureOrder$Runner", "bitsThatCannotStay", "(LFixtureOrder$Case;)I"⟩, 5), (⟨"FixtureOrder$Runner", "endMade", "(I)I"⟩, 5), (⟨"FixtureOrder$Runner", "tryCase", "(LFixtureOrder$Case;II)I"⟩, 5), (⟨"FixtureOrder$Runner", "make", "(LFixtureOrder$Fixture;LFixtureOrder$Case;)Z"⟩, 5), (⟨"FixtureOrder$Runner", "bitsOfCaseScope", "()I"⟩, 5), (⟨"FixtureOrderModel", "isFixture", "(I)Z"⟩, 44), (⟨"FixtureOrderModel", "isNeed", "(II)Z"⟩, 44), (⟨"FixtureOrderModel", "leads", "(II)Z"⟩, 44), (⟨"FixtureOrderModel", "isTest", "(I)Z"⟩, 44), (⟨"FixtureOrderModel", "closeTest", "(I)V"⟩, 44)]
theorem lw_r1 : ∀ q ∈ lw_privs_1, lw_okq q := List.forall_mem_cons.mpr ⟨lw_p0, List.forall_mem_cons.mpr ⟨lw_p1, List.forall_mem_cons.mpr ⟨lw_p2, List.forall_mem_cons.mpr ⟨lw_p3, List.forall_mem_cons.mpr ⟨lw_p4, List.forall_mem_cons.mpr ⟨lw_p5, List.forall_mem_cons.mpr ⟨lw_p6, List.forall_mem_cons.mpr ⟨lw_p7, List.forall_mem_cons.mpr ⟨lw_p8, List.forall_mem_cons.mpr ⟨lw_p9, List.forall_mem_cons.mpr ⟨lw_p10, List.forall_mem_cons.mpr ⟨lw_p11, List.forall_mem_cons.mpr ⟨lw_p12, List.forall_mem_cons.mpr ⟨lw_p13, List.forall_mem_cons.mpr ⟨lw_p14, List.forall_mem_cons.mpr ⟨lw_p15, fun _ h => absurd h List.not_mem_nil⟩⟩⟩⟩⟩⟩⟩⟩⟩⟩⟩⟩⟩⟩⟩⟩
theorem lw_p16 : lw_okq (⟨"FixtureOrderModel", "close", "(I)V"⟩, 44) := ⟨⟨by decide +kernel, by decide +kernel⟩, List.mem_of_getElem? (i := 537) (by decide +kernel), List.mem_of_getElem? (i := 725) (by decide +kernel), List.mem_of_getElem? (i := 726) (by decide +kernel)⟩
theorem lw_p17 : lw_okq (⟨"FixtureOrderModel", "isClosed", "(I)Z"⟩, 44) := ⟨⟨by decide +kernel, by decide +kernel⟩, List.mem_of_getElem? (i := 537) (by decide +kernel), List.mem_of_getElem? (i := 729) (by decide +kernel), List.mem_of_getElem? (i := 730) (by decide +kernel)⟩
theorem lw_p18 : lw_okq (⟨"FixtureOrderModel", "casesOf", "(I)I"⟩, 44) := ⟨⟨by decide +kernel, by decide +kernel⟩, List.mem_of_getElem? (i := 537) (by decide +kernel), List.mem_of_getElem? (i := 737) (by decide +kernel), List.mem_of_getElem? (i := 738) (by decide +kernel)⟩
theorem lw_p19 : lw_okq (⟨"FixtureOrderModel", "lacking", "(II)I"⟩, 44) := ⟨⟨by decide +kernel, by decide +kernel⟩, List.mem_of_getElem? (i := 537) (by decide +kernel), List.mem_of_getElem? (i := 745) (by decide +kernel), List.mem_of_getElem? (i := 746) (by decide +kernel)⟩
theorem lw_p20 : lw_okq (⟨"FixtureOrderModel", "valueOf", "(II)I"⟩, 44) := ⟨⟨by decide +kernel, by decide +kernel⟩, List.mem_of_getElem? (i := 537) (by decide +kernel), List.mem_of_getElem? (i := 749) (by decide +kernel), List.mem_of_getElem? (i := 750) (by decide +kernel)⟩
theorem lw_p21 : lw_okq (⟨"FixtureOrderModel", "runCase", "(II)V"⟩, 44) := ⟨⟨by decide +kernel, by decide +kernel⟩, List.mem_of_getElem? (i := 537) (by decide +kernel), List.mem_of_getElem? (i := 753) (by decide +kernel), List.mem_of_getElem? (i := 754) (by decide +kernel)⟩
theorem lw_p22 : lw_okq (⟨"FixtureOrderModel", "part", "(II)V"⟩, 44) := ⟨⟨by decide +kernel, by decide +kernel⟩, List.mem_of_getElem? (i := 537) (by decide +kernel), List.mem_of_getElem? (i := 757) (by decide +kernel), List.mem_of_getElem? (i := 758) (by decide +kernel)⟩
theorem lw_p23 : lw_okq (⟨"FixtureOrderModel", "endMarked", "()V"⟩, 44) := ⟨⟨by decide +kernel, by decide +kernel⟩, List.mem_of_getElem? (i := 537) (by decide +kernel), List.mem_of_getElem? (i := 761) (by decide +kernel), List.mem_of_getElem? (i := 762) (by decide +kernel)⟩
theorem lw_p24 : lw_okq (⟨"FixtureOrderModel", "end", "(I)V"⟩, 44) := ⟨⟨by decide +kernel, by decide +kernel⟩, List.mem_of_getElem? (i := 537) (by decide +kernel), List.mem_of_getElem? (i := 765) (by decide +kernel), List.mem_of_getElem? (i := 766) (by decide +kernel)⟩
theorem lw_p25 : lw_okq (⟨"FixtureOrderModel", "tell", "(III)V"⟩, 44) := ⟨⟨by decide +kernel, by decide +kernel⟩, List.mem_of_getElem? (i := 537) (by decide +kernel), List.mem_of_getElem? (i := 769) (by decide +kernel), List.mem_of_getElem? (i := 770) (by decide +kernel)⟩
theorem lw_p26 : lw_okq (⟨"FixtureOrderModel", "make", "(II)I"⟩, 44) := ⟨⟨by decide +kernel, by decide +kernel⟩, List.mem_of_getElem? (i := 537) (by decide +kernel), List.mem_of_getElem? (i := 773) (by decide +kernel), List.mem_of_getElem? (i := 774) (by decide +kernel)⟩
def lw_privs_2 : List (MethodName × Nat) := [(⟨"FixtureOrderModel", "close", "(I)V"⟩, 44), (⟨"FixtureOrderModel", "isClosed", "(I)Z"⟩, 44), (⟨"FixtureOrderModel", "casesOf", "(I)I"⟩, 44), (⟨"FixtureOrderModel", "lacking", "(II)I"⟩, 44), (⟨"FixtureOrderModel", "valueOf", "(II)I"⟩, 44), (⟨"FixtureOrderModel", "runCase", "(II)V"⟩, 44), (⟨"FixtureOrderModel", "part", "(II)V"⟩, 44), (⟨"FixtureOrderModel", "endMarked", "()V"⟩, 44), (⟨"FixtureOrderModel", "end", "(I)V"⟩, 44), (⟨"FixtureOrderModel", "tell", "(III)V"⟩, 44), (⟨"FixtureOrderModel", "make", "(II)I"⟩, 44)]
theorem lw_r2 : ∀ q ∈ lw_privs_2, lw_okq q := List.forall_mem_cons.mpr ⟨lw_p16, List.forall_mem_cons.mpr ⟨lw_p17, List.forall_mem_cons.mpr ⟨lw_p18, List.forall_mem_cons.mpr ⟨lw_p19, List.forall_mem_cons.mpr ⟨lw_p20, List.forall_mem_cons.mpr ⟨lw_p21, List.forall_mem_cons.mpr ⟨lw_p22, List.forall_mem_cons.mpr ⟨lw_p23, List.forall_mem_cons.mpr ⟨lw_p24, List.forall_mem_cons.mpr ⟨lw_p25, List.forall_mem_cons.mpr ⟨lw_p26, fun _ h => absurd h List.not_mem_nil⟩⟩⟩⟩⟩⟩⟩⟩⟩⟩⟩
def lw_privs : List (MethodName × Nat) := lw_privs_1 ++ (lw_privs_2)
def lw_tbl : List Cond := k2_sels lw_privs ++ tables_1
theorem lw_privs_ok : ∀ q ∈ lw_privs, lw_okq q := by
  show ∀ q ∈ lw_privs_1 ++ (lw_privs_2), lw_okq q
  exact List.forall_mem_append.mpr ⟨lw_r1, lw_r2⟩
end
section
/-! THE SMALL MACHINE: values without types, a heap that is a list of cells (a tag and a list of values; a handle is a place in the list; place 0 is the script), methods by number, instructions that are resolved. Pure; what it answers is what the machine answers (part 30). -/
abbrev mj_V : Type := Int32 ⊕ Option Nat
abbrev mj_C : Type := Nat × List mj_V
abbrev mj_H : Type := List mj_C
abbrev mj_L : Type := List (Option mj_V)
abbrev mj_R : Type := Option mj_V × mj_H
/-- an instruction, its length, two numbers (class and slot, target, callee and its count of arguments) -/
abbrev mj_I : Type := Instr × Nat × Nat × Nat
/-- where a frame stands: pc, locals, operands, heap -/
abbrev mj_N : Type := Nat × mj_L × List mj_V × mj_H
abbrev mj_O : Type := mj_R ⊕ mj_N
/-- a program: the code, the number of locals, the kind of the answer (0 none, 1 int, 2 boolean, 3 reference), the fields of a new object, the kind of a field (0 int, 1 boolean, 2 reference), the class of a method -/
abbrev mj_P : Type := (Nat → Nat → Option mj_I) × (Nat → Nat) × (Nat → Nat) × (Nat → List mj_V) × (Nat → Nat → Nat) × (Nat → Nat)
def mj_gf (h : mj_H) (a c k : Nat) : Option mj_V := match h[a]? with
  | some q => if q.1 = c then q.2[k]? else none
  | none => none
def mj_pf (h : mj_H) (a c k : Nat) (v : mj_V) : Option mj_H := match h[a]? with
  | some q => if q.1 = c ∧ k < q.2.length ∧ a ≠ 0 then some (h.set a (c, q.2.set k v)) else none
  | none => none
def mj_ln (h : mj_H) (a : Nat) : Option Nat := match h[a]? with
  | some q => if q.1 = 100 then some q.2.length else none
  | none => none
def mj_tg (h : mj_H) (a c : Nat) : Bool := match h[a]? with
  | some q => decide (q.1 = c)
  | none => false
/-- null, or an object of class c -/
def mj_tv (h : mj_H) (v : Option Nat) (c : Nat) : Bool := match v with
  | some q => mj_tg h q c
  | none => true
def mj_go (pc : Nat) (L : mj_L) (S : List mj_V) (h : mj_H) : Option mj_N := some (pc, L, S, h)
def mj_b2 (f : Int32 → Int32 → Int32) (pc : Nat) (L : mj_L) (S : List mj_V) (h : mj_H) : Option mj_N := match S with
  | .inl y :: .inl x :: S => mj_go (pc + 1) L (.inl (f x y) :: S) h
  | _ => none
def mj_d2 (f : Int32 → Int32 → Int32) (pc : Nat) (L : mj_L) (S : List mj_V) (h : mj_H) : Option mj_N := match S with
  | .inl y :: .inl x :: S => if y = 0 then none else mj_go (pc + 1) L (.inl (f x y) :: S) h
  | _ => none
def mj_li (k n pc : Nat) (L : mj_L) (S : List mj_V) (h : mj_H) : Option mj_N := match L[k]? with
  | some (some (.inl x)) => mj_go (pc + n) L (.inl x :: S) h
  | _ => none
def mj_la (k n pc : Nat) (L : mj_L) (S : List mj_V) (h : mj_H) : Option mj_N := match L[k]? with
  | some (some (.inr x)) => mj_go (pc + n) L (.inr x :: S) h
  | _ => none
def mj_si (k n pc : Nat) (L : mj_L) (S : List mj_V) (h : mj_H) : Option mj_N := match S with
  | .inl x :: S => if k < L.length then mj_go (pc + n) (L.set k (some (.inl x))) S h else none
  | _ => none
def mj_sa (k n pc : Nat) (L : mj_L) (S : List mj_V) (h : mj_H) : Option mj_N := match S with
  | .inr x :: S => if k < L.length then mj_go (pc + n) (L.set k (some (.inr x))) S h else none
  | _ => none
def mj_c1 (q : Int32 → Bool) (t pc : Nat) (L : mj_L) (S : List mj_V) (h : mj_H) : Option mj_N := match S with
  | .inl x :: S => if q x then mj_go t L S h else mj_go (pc + 3) L S h
  | _ => none
def mj_c2 (q : Int32 → Int32 → Bool) (t pc : Nat) (L : mj_L) (S : List mj_V) (h : mj_H) : Option mj_N := match S with
  | .inl y :: .inl x :: S => if q x y then mj_go t L S h else mj_go (pc + 3) L S h
  | _ => none
def mj_ca (q : Option Nat → Option Nat → Bool) (t pc : Nat) (L : mj_L) (S : List mj_V) (h : mj_H) : Option mj_N := match S with
  | .inr y :: .inr x :: S => if q x y then mj_go t L S h else mj_go (pc + 3) L S h
  | _ => none
def mj_cn (z : Bool) (t pc : Nat) (L : mj_L) (S : List mj_V) (h : mj_H) : Option mj_N := match S with
  | .inr x :: S => if x.isNone = z then mj_go t L S h else mj_go (pc + 3) L S h
  | _ => none
def mj_get (c k pc : Nat) (L : mj_L) (S : List mj_V) (h : mj_H) : Option mj_N := match S with
  | .inr (some a) :: S => (match mj_gf h a c k with
    | some v => mj_go (pc + 3) L (v :: S) h
    | none => none)
  | _ => none
/-- a value that a slot of that kind (0 int, 1 boolean, 2 reference) holds as it is -/
def mj_zk (z : Nat) (v : mj_V) : Bool := match v with
  | .inl x => decide (z = 0 ∨ (z = 1 ∧ (x = 0 ∨ x = 1)))
  | .inr _ => decide (z = 2)
def mj_put (z : Nat → Nat → Nat) (c k pc : Nat) (L : mj_L) (S : List mj_V) (h : mj_H) : Option mj_N := match S with
  | v :: .inr (some a) :: S => if mj_zk (z c k) v = true then (match mj_pf h a c k v with
    | some h' => mj_go (pc + 3) L S h'
    | none => none) else none
  | _ => none
def mj_ald (pc : Nat) (L : mj_L) (S : List mj_V) (h : mj_H) : Option mj_N := match S with
  | .inl i :: .inr (some a) :: S => if i < 0 then none else (match mj_gf h a 100 i.toNatClampNeg with
    | some (.inl v) => mj_go (pc + 1) L (.inl v :: S) h
    | _ => none)
  | _ => none
def mj_rld (c pc : Nat) (L : mj_L) (S : List mj_V) (h : mj_H) : Option mj_N := match S with
  | .inl i :: .inr (some a) :: S => if i < 0 then none else (match mj_gf h a (101 + c) i.toNatClampNeg with
    | some (.inr v) => mj_go (pc + 1) L (.inr v :: S) h
    | _ => none)
  | _ => none
def mj_bld (pc : Nat) (L : mj_L) (S : List mj_V) (h : mj_H) : Option mj_N := match S with
  | .inl i :: .inr (some a) :: S => if i < 0 then none else (match mj_gf h a 200 i.toNatClampNeg with
    | some (.inl v) => mj_go (pc + 1) L (.inl v :: S) h
    | _ => none)
  | _ => none
def mj_bst (pc : Nat) (L : mj_L) (S : List mj_V) (h : mj_H) : Option mj_N := match S with
  | .inl x :: .inl i :: .inr (some a) :: S => if i < 0 ∨ ¬ (x = 0 ∨ x = 1) then none else (match mj_pf h a 200 i.toNatClampNeg (.inl x) with
    | some h' => mj_go (pc + 1) L S h'
    | none => none)
  | _ => none
def mj_ast (pc : Nat) (L : mj_L) (S : List mj_V) (h : mj_H) : Option mj_N := match S with
  | .inl x :: .inl i :: .inr (some a) :: S => if i < 0 then none else (match mj_pf h a 100 i.toNatClampNeg (.inl x) with
    | some h' => mj_go (pc + 1) L S h'
    | none => none)
  | _ => none
def mj_rst (c pc : Nat) (L : mj_L) (S : List mj_V) (h : mj_H) : Option mj_N := match S with
  | .inr v :: .inl i :: .inr (some a) :: S => if i < 0 ∨ mj_tv h v c = false then none else (match mj_pf h a (101 + c) i.toNatClampNeg (.inr v) with
    | some h' => mj_go (pc + 1) L S h'
    | none => none)
  | _ => none
def mj_al (pc : Nat) (L : mj_L) (S : List mj_V) (h : mj_H) : Option mj_N := match S with
  | .inr (some a) :: S => (match mj_ln h a with
    | some n => mj_go (pc + 1) L (.inl (Int32.ofNat n) :: S) h
    | none => none)
  | _ => none
def mj_mk (t n pc : Nat) (v : mj_V) (L : mj_L) (S : List mj_V) (h : mj_H) : Option mj_N := match S with
  | .inl x :: S => if x < 0 ∨ 100000 < x.toNatClampNeg then none else mj_go (pc + n) L (.inr (some h.length) :: S) (h ++ [(t, List.replicate x.toNatClampNeg v)])
  | _ => none
def mj_sw (o : Int → Int) (pc : Nat) (L : mj_L) (S : List mj_V) (h : mj_H) : Option mj_N := match S with
  | .inl x :: S => if 0 ≤ (pc : Int) + o x.toInt then mj_go ((pc : Int) + o x.toInt).toNat L S h else none
  | _ => none
/-- a call: its arguments (the receiver among them, if there is one) lie on the stack, the last on top -/
def mj_inv (call : Nat → List mj_V → mj_H → Option mj_R) (y n pc : Nat) (L : mj_L) (S : List mj_V) (h : mj_H) : Option mj_N :=
  if n ≤ S.length ∧ S.length ≤ n + 8 then (match call y (S.take n).reverse h with
    | some r => mj_go (pc + 3) L (r.1.toList ++ S.drop n) r.2
    | none => none) else none
/-- the receiver is an object of class c -/
def mj_rcv (c n : Nat) (S : List mj_V) (h : mj_H) : Bool := match S[n]? with
  | some (.inr (some a)) => mj_tg h a c
  | _ => false
/-- Math.min, Math.max -/
def mj_b3 (f : Int32 → Int32 → Int32) (pc : Nat) (L : mj_L) (S : List mj_V) (h : mj_H) : Option mj_N := match S with
  | .inl y :: .inl x :: S => if S.length ≤ 8 then mj_go (pc + 3) L (.inl (f x y) :: S) h else none
  | _ => none
/-- Object's own constructor -/
def mj_oin (pc : Nat) (L : mj_L) (S : List mj_V) (h : mj_H) : Option mj_N := match S with
  | .inr (some _) :: S => if S.length ≤ 8 then mj_go (pc + 3) L S h else none
  | _ => none
def mj_tbl (d lo hi : Int) (os : Array Int) (x : Int) : Int := if x < lo ∨ hi < x then d else (os[(x - lo).toNat]?).getD d
/-- the three that return -/
def mj_ir (i : Instr) : Bool := match i with
  | .ireturn => true
  | .areturn => true
  | .return_ => true
  | _ => false
def mj_rt (rk : Nat) (i : Instr) (S : List mj_V) (h : mj_H) : Option mj_R := match i with
  | .ireturn => (match S with
    | [.inl x] => if rk = 1 ∨ (rk = 2 ∧ (x = 0 ∨ x = 1)) then some (some (.inl x), h) else none
    | _ => none)
  | .areturn => (match S with
    | [.inr x] => if rk = 3 then some (some (.inr x), h) else none
    | _ => none)
  | .return_ => (match S with
    | [] => if rk = 0 then some (none, h) else none
    | _ => none)
  | _ => none
def mj_st (P : mj_P) (call : Nat → List mj_V → mj_H → Option mj_R) (i : mj_I) (pc : Nat) (L : mj_L) (S : List mj_V) (h : mj_H) : Option mj_N := match i.1 with
  | .iconst n => mj_go (pc + 1) L (.inl (Int32.ofInt n) :: S) h
  | .bipush n => mj_go (pc + 2) L (.inl (Int8.ofInt n).toInt32 :: S) h
  | .sipush n => mj_go (pc + 3) L (.inl (Int16.ofInt n).toInt32 :: S) h
  | .aconst_null => mj_go (pc + 1) L (.inr none :: S) h
  | .iload_n k => mj_li k.val 1 pc L S h
  | .iload k => mj_li k 2 pc L S h
  | .aload_n k => mj_la k.val 1 pc L S h
  | .aload k => mj_la k 2 pc L S h
  | .istore_n k => mj_si k.val 1 pc L S h
  | .istore k => mj_si k 2 pc L S h
  | .astore_n k => mj_sa k.val 1 pc L S h
  | .astore k => mj_sa k 2 pc L S h
  | .iinc k n => (match L[k]? with
    | some (some (.inl x)) => mj_go (pc + 3) (L.set k (some (.inl (x + Int32.ofInt n)))) S h
    | _ => none)
  | .iadd => mj_b2 (fun x y => x + y) pc L S h
  | .isub => mj_b2 (fun x y => x - y) pc L S h
  | .imul => mj_b2 (fun x y => x * y) pc L S h
  | .iand => mj_b2 (fun x y => x &&& y) pc L S h
  | .ior => mj_b2 (fun x y => x ||| y) pc L S h
  | .ixor => mj_b2 (fun x y => x ^^^ y) pc L S h
  | .ishl => mj_b2 (fun x y => x <<< (y &&& 31)) pc L S h
  | .ishr => mj_b2 (fun x y => x >>> (y &&& 31)) pc L S h
  | .idiv => mj_d2 (fun x y => x / y) pc L S h
  | .irem => mj_d2 (fun x y => x - x / y * y) pc L S h
  | .dup => (match S with
    | v :: S => mj_go (pc + 1) L (v :: v :: S) h
    | _ => none)
  | .pop => (match S with
    | _ :: S => mj_go (pc + 1) L S h
    | _ => none)
  | .dup_x1 => (match S with
    | v :: w :: S => mj_go (pc + 1) L (v :: w :: v :: S) h
    | _ => none)
  | .dup2 => (match S with
    | v :: w :: S => mj_go (pc + 1) L (v :: w :: v :: w :: S) h
    | _ => none)
  | .ifCond .eq _ => mj_c1 (fun x => decide (x = 0)) i.2.2.1 pc L S h
  | .ifCond .ne _ => mj_c1 (fun x => decide (¬ x = 0)) i.2.2.1 pc L S h
  | .ifCond .lt _ => mj_c1 (fun x => decide (x < 0)) i.2.2.1 pc L S h
  | .ifCond .ge _ => mj_c1 (fun x => decide (0 ≤ x)) i.2.2.1 pc L S h
  | .ifCond .gt _ => mj_c1 (fun x => decide (0 < x)) i.2.2.1 pc L S h
  | .ifCond .le _ => mj_c1 (fun x => decide (x ≤ 0)) i.2.2.1 pc L S h
  | .if_icmp .eq _ => mj_c2 (fun x y => decide (x = y)) i.2.2.1 pc L S h
  | .if_icmp .ne _ => mj_c2 (fun x y => decide (¬ x = y)) i.2.2.1 pc L S h
  | .if_icmp .lt _ => mj_c2 (fun x y => decide (x < y)) i.2.2.1 pc L S h
  | .if_icmp .ge _ => mj_c2 (fun x y => decide (y ≤ x)) i.2.2.1 pc L S h
  | .if_icmp .gt _ => mj_c2 (fun x y => decide (y < x)) i.2.2.1 pc L S h
  | .if_icmp .le _ => mj_c2 (fun x y => decide (x ≤ y)) i.2.2.1 pc L S h
  | .if_acmp .eq _ => mj_ca (fun x y => decide (x = y)) i.2.2.1 pc L S h
  | .if_acmp .ne _ => mj_ca (fun x y => decide (¬ x = y)) i.2.2.1 pc L S h
  | .ifnull _ => mj_cn true i.2.2.1 pc L S h
  | .ifnonnull _ => mj_cn false i.2.2.1 pc L S h
  | .goto _ => mj_go i.2.2.1 L S h
  | .tableswitch d lo hi os => mj_sw (mj_tbl d lo hi os) pc L S h
  | .getfield _ => mj_get i.2.2.1 i.2.2.2 pc L S h
  | .putfield _ => mj_put P.2.2.2.2.1 i.2.2.1 i.2.2.2 pc L S h
  | .new _ => mj_go (pc + 3) L (.inr (some h.length) :: S) (h ++ [(i.2.2.1, P.2.2.2.1 i.2.2.1)])
  | .newarray .int => mj_mk 100 2 pc (.inl 0) L S h
  | .newarray .boolean => mj_mk 200 2 pc (.inl 0) L S h
  | .anewarray _ => mj_mk (101 + i.2.2.1) 3 pc (.inr none) L S h
  | .arraylength => mj_al pc L S h
  | .iaload => mj_ald pc L S h
  | .iastore => mj_ast pc L S h
  | .baload => mj_bld pc L S h
  | .bastore => mj_bst pc L S h
  | .aaload => mj_rld i.2.2.1 pc L S h
  | .aastore => mj_rst i.2.2.1 pc L S h
  | .invokestatic _ => if i.2.2.1 = 9998 then mj_b3 (fun x y => if y < x then y else x) pc L S h else if i.2.2.1 = 9997 then mj_b3 (fun x y => if x < y then y else x) pc L S h else mj_inv call i.2.2.1 i.2.2.2 pc L S h
  | .invokevirtual _ => if mj_rcv (P.2.2.2.2.2 i.2.2.1) (i.2.2.2 - 1) S h = true then mj_inv call i.2.2.1 i.2.2.2 pc L S h else none
  | .invokespecial _ => if i.2.2.1 = 9999 then mj_oin pc L S h else if mj_rcv (P.2.2.2.2.2 i.2.2.1) (i.2.2.2 - 1) S h = true then mj_inv call i.2.2.1 i.2.2.2 pc L S h else none
  | _ => none
def mj_stp (P : mj_P) (call : Nat → List mj_V → mj_H → Option mj_R) (M : Nat) (x : mj_N) : Option mj_O := match P.1 M x.1 with
  | some i => if mj_ir i.1 = true then (mj_rt (P.2.2.1 M) i.1 x.2.2.1 x.2.2.2).map Sum.inl else (mj_st P call i x.1 x.2.1 x.2.2.1 x.2.2.2).map Sum.inr
  | none => none
def mj_it (st : mj_N → Option mj_O) : Nat → mj_N → Option mj_R
  | 0, _ => none
  | n + 1, x => match st x with
    | some (.inl r) => some r
    | some (.inr y) => mj_it st n y
    | none => none
noncomputable def mj_fix (st : mj_N → Option mj_O) (x : mj_N) : Option mj_R := @dite _ (∃ r n, mj_it st n x = some r) (Classical.propDecidable _) (fun h => some h.choose) (fun _ => none)
def mj_en (P : mj_P) (M : Nat) (as : List mj_V) (h : mj_H) : mj_N := (0, as.map some ++ List.replicate (P.2.1 M - as.length) none, [], h)
/-- what a method does from a place of it on, with at most d frames (its own among them) -/
noncomputable def mj_Rn (P : mj_P) : Nat → Nat → mj_N → Option mj_R
  | 0, _, _ => none
  | d + 1, M, x => mj_fix (mj_stp P (fun M' as h => mj_Rn P d M' (mj_en P M' as h)) M) x
noncomputable def mj_Cl (P : mj_P) (d M : Nat) (as : List mj_V) (h : mj_H) : Option mj_R := mj_Rn P d M (mj_en P M as h)
theorem mj_it_det {st : mj_N → Option mj_O} : ∀ (n m : Nat) (x : mj_N) (r q : mj_R), mj_it st n x = some r → mj_it st m x = some q → r = q := by
  intro n
  induction n with
  | zero => intro m x r q h1; cases h1
  | succ n ih =>
    intro m x r q h1 h2
    cases m with
    | zero => cases h2
    | succ m =>
      simp only [mj_it] at h1 h2
      cases hs : st x with
      | none => rw [hs] at h1; cases h1
      | some o =>
        rw [hs] at h1 h2
        cases o with
        | inl z => cases h1; cases h2; rfl
        | inr y => exact ih m y r q h1 h2
theorem mj_fix_some {st : mj_N → Option mj_O} {x : mj_N} {r : mj_R} : mj_fix st x = some r ↔ ∃ n, mj_it st n x = some r := by
  unfold mj_fix
  by_cases h : ∃ r n, mj_it st n x = some r
  · rw [dif_pos h]
    constructor
    · intro e
      cases e
      exact h.choose_spec
    · intro ⟨n, hn⟩
      obtain ⟨m, hm⟩ := h.choose_spec
      rw [mj_it_det m n x _ _ hm hn]
  · rw [dif_neg h]
    constructor
    · intro e; cases e
    · intro hn; exact absurd ⟨r, hn⟩ h
theorem mj_opt_ext {α : Type} {a b : Option α} (h : ∀ r, a = some r ↔ b = some r) : a = b := by
  cases a with
  | none => cases b with
    | none => rfl
    | some y => exact absurd ((h y).mpr rfl) (fun e => by cases e)
  | some x => exact ((h x).mp rfl).symm
theorem mj_fix_eq (st : mj_N → Option mj_O) (x : mj_N) : mj_fix st x = match st x with
    | some (.inl r) => some r
    | some (.inr y) => mj_fix st y
    | none => none := by
  refine mj_opt_ext (fun r => ?_)
  rw [mj_fix_some]
  cases hs : st x with
  | none =>
    refine ⟨fun ⟨n, hn⟩ => ?_, fun e => by cases e⟩
    cases n with
    | zero => cases hn
    | succ n => simp only [mj_it, hs] at hn; cases hn
  | some o =>
    cases o with
    | inl z =>
      refine ⟨fun ⟨n, hn⟩ => ?_, fun e => ⟨1, by simp only [mj_it, hs]; exact e⟩⟩
      cases n with
      | zero => cases hn
      | succ n => simp only [mj_it, hs] at hn; exact hn
    | inr y =>
      show _ ↔ mj_fix st y = some r
      rw [mj_fix_some]
      refine ⟨fun ⟨n, hn⟩ => ?_, fun ⟨n, hn⟩ => ⟨n + 1, by simp only [mj_it, hs]; exact hn⟩⟩
      cases n with
      | zero => cases hn
      | succ n => simp only [mj_it, hs] at hn; exact ⟨n, hn⟩
/-- one instruction -/
theorem mj_Rn_eq {P : mj_P} {d M pc : Nat} {i : mj_I} (hc : P.1 M pc = some i) (hi : mj_ir i.1 = false) (L : mj_L) (S : List mj_V) (h : mj_H) : mj_Rn P (d + 1) M (pc, L, S, h) = (mj_st P (mj_Cl P d) i pc L S h).bind (mj_Rn P (d + 1) M) := by
  show mj_fix _ _ = _
  rw [mj_fix_eq]
  have e : mj_stp P (fun M' as h => mj_Rn P d M' (mj_en P M' as h)) M (pc, L, S, h) = (mj_st P (mj_Cl P d) i pc L S h).map Sum.inr := by
    unfold mj_stp
    simp only [hc, hi]
    rfl
  rw [e]
  cases mj_st P (mj_Cl P d) i pc L S h with
  | none => rfl
  | some y => rfl
theorem mj_Rn_ret {P : mj_P} {d M pc : Nat} {i : mj_I} (hc : P.1 M pc = some i) (hi : mj_ir i.1 = true) (L : mj_L) (S : List mj_V) (h : mj_H) : mj_Rn P (d + 1) M (pc, L, S, h) = mj_rt (P.2.2.1 M) i.1 S h := by
  show mj_fix _ _ = _
  rw [mj_fix_eq]
  have e : mj_stp P (fun M' as h => mj_Rn P d M' (mj_en P M' as h)) M (pc, L, S, h) = (mj_rt (P.2.2.1 M) i.1 S h).map Sum.inl := by
    unfold mj_stp
    simp only [hc, hi]
    rfl
  rw [e]
  cases mj_rt (P.2.2.1 M) i.1 S h with
  | none => rfl
  | some y => rfl
end
section
/-! THE SMALL MACHINE AND THE MACHINE: what the small one answers, the machine answers. -/
def mj_ad (b base : Nat) : Nat → Nat
  | 0 => b
  | k + 1 => base + k
def mj_cv (ad : Nat → Nat) (v : mj_V) : Value := match v with
  | .inl x => .int x
  | .inr r => va_rf (r.map ad)
theorem mj_cv_cat (ad : Nat → Nat) (v : mj_V) : (mj_cv ad v).category = 1 := by
  cases v with
  | inl x => rfl
  | inr r => cases r <;> rfl
theorem mj_cat_sum (ad : Nat → Nat) (S : List mj_V) : ((S.map (mj_cv ad)).map fun v => v.category).sum = S.length := by
  induction S with
  | nil => rfl
  | cons v S ih => simp only [List.map_cons, List.sum_cons, ih, mj_cv_cat, List.length_cons]; omega
theorem mj_ad_inj {b base : Nat} (hb : b < base) : ∀ x y, mj_ad b base x = mj_ad b base y → x = y := by
  intro x y h
  cases x <;> cases y <;> simp only [mj_ad] at h <;> first | rfl | omega
def mj_int (v : Option mj_V) : Int32 := match v with
  | some (.inl x) => x
  | _ => 0
def mj_ref (ad : Nat → Nat) (v : Option mj_V) : Option Nat := match v with
  | some (.inr r) => r.map ad
  | _ => none
def mj_ce (ad : Nat → Nat) (cA : Nat → ClassId) (q : mj_C) : va_E := if q.1 < 100 then .inr (q.1, q.2.map (mj_cv ad)) else if q.1 = 100 then .inl (cA 0, q.2.length, .inl (fun j => mj_int q.2[j]?)) else if q.1 = 200 then .inl (cA 100, q.2.length, .inl (fun j => mj_int q.2[j]?)) else .inl (cA (q.1 - 100), q.2.length, .inr (.inr (.inr (.inr (fun j => mj_ref ad q.2[j]?)))))
def mj_wo (ad : Nat → Nat) (cA : Nat → ClassId) : Nat → List mj_C → va_W
  | _, [] => []
  | n, q :: t => (n, mj_ce ad cA q) :: mj_wo ad cA (n + 1) t
theorem mj_wo_get (ad : Nat → Nat) (cA : Nat → ClassId) : ∀ (t : List mj_C) (n k : Nat), (mj_wo ad cA n t)[k]? = (t[k]?).map (fun q => (n + k, mj_ce ad cA q)) := by
  intro t
  induction t with
  | nil => intro n k; simp [mj_wo]
  | cons q t ih =>
    intro n k
    cases k with
    | zero => simp [mj_wo]
    | succ k =>
      simp only [mj_wo, List.getElem?_cons_succ, ih]
      rw [show n + 1 + k = n + (k + 1) by omega]
theorem mj_wo_set (ad : Nat → Nat) (cA : Nat → ClassId) (q : mj_C) : ∀ (t : List mj_C) (n k : Nat), (mj_wo ad cA n t).set k (n + k, mj_ce ad cA q) = mj_wo ad cA n (t.set k q) := by
  intro t
  induction t with
  | nil => intro n k; simp [mj_wo]
  | cons r t ih =>
    intro n k
    cases k with
    | zero => simp [mj_wo]
    | succ k =>
      simp only [mj_wo, List.set_cons_succ]
      rw [show n + (k + 1) = n + 1 + k by omega, ih]
theorem mj_wo_app (ad : Nat → Nat) (cA : Nat → ClassId) (q : mj_C) : ∀ (t : List mj_C) (n : Nat), mj_wo ad cA n (t ++ [q]) = mj_wo ad cA n t ++ [(n + t.length, mj_ce ad cA q)] := by
  intro t
  induction t with
  | nil => intro n; simp [mj_wo]
  | cons r t ih =>
    intro n
    simp only [mj_wo, List.cons_append, ih, List.length_cons]
    rw [show n + 1 + t.length = n + (t.length + 1) by omega]
def mj_In (D : va_G) (cl : List vw_C) (cA : Nat → ClassId) (b base : Nat) (z : mj_C) (h : mj_H) (H : Heap) : Prop := ∃ t, h = z :: t ∧ H.size = base + t.length ∧ va_P D cl (mj_wo (mj_ad b base) cA base t) H
theorem mj_wo_D (ad : Nat → Nat) (cA : Nat → ClassId) (base : Nat) (t : List mj_C) : va_D (fun q : Nat => base ≤ q) (mj_wo ad cA base t) := by
  have key : ∀ (k : Nat) (q : Nat × va_E), (mj_wo ad cA base t)[k]? = some q → q.1 = base + k := by
    intro k q hk
    rw [mj_wo_get] at hk
    cases ht : t[k]? with
    | none => rw [ht] at hk; cases hk
    | some r => rw [ht] at hk; cases hk; rfl
  refine ⟨fun i j p q hi hj e => ?_, fun k q hk => ?_⟩
  · have h1 := key i p hi
    have h2 := key j q hj
    omega
  · show base ≤ q.1
    rw [key k q hk]
    omega
/-- a cell of the list is a cell of the world -/
theorem mj_at {ad : Nat → Nat} {cA : Nat → ClassId} {base : Nat} {z : mj_C} {t : List mj_C} {k : Nat} {q : mj_C} (h : (z :: t)[k + 1]? = some q) : (mj_wo ad cA base t)[k]? = some (base + k, mj_ce ad cA q) := by
  rw [mj_wo_get]
  rw [List.getElem?_cons_succ] at h
  rw [h]
  rfl
def mj_lo (ad : Nat → Nat) : Nat → mj_L → List (Nat × Value)
  | _, [] => []
  | n, none :: t => mj_lo ad (n + 1) t
  | n, some v :: t => (n, mj_cv ad v) :: mj_lo ad (n + 1) t
theorem mj_lo_mem {ad : Nat → Nat} {q : Nat × Value} : ∀ (L : mj_L) (n : Nat), q ∈ mj_lo ad n L ↔ ∃ (j : Nat) (v : mj_V), L[j]? = some (some v) ∧ q = (n + j, mj_cv ad v) := by
  intro L
  induction L with
  | nil => intro n; simp [mj_lo]
  | cons x t ih =>
    intro n
    cases x with
    | none =>
      rw [mj_lo, ih]
      constructor
      · rintro ⟨j, v, h1, h2⟩
        exact ⟨j + 1, v, by rw [List.getElem?_cons_succ]; exact h1, by rw [h2]; congr 1; omega⟩
      · rintro ⟨j, v, h1, h2⟩
        cases j with
        | zero => simp at h1
        | succ j => exact ⟨j, v, by rw [List.getElem?_cons_succ] at h1; exact h1, by rw [h2]; congr 1; omega⟩
    | some w =>
      rw [mj_lo, List.mem_cons, ih]
      constructor
      · rintro (h | ⟨j, v, h1, h2⟩)
        · exact ⟨0, w, rfl, h⟩
        · exact ⟨j + 1, v, by rw [List.getElem?_cons_succ]; exact h1, by rw [h2]; congr 1; omega⟩
      · rintro ⟨j, v, h1, h2⟩
        cases j with
        | zero =>
          simp at h1
          subst h1
          exact Or.inl h2
        | succ j => exact Or.inr ⟨j, v, by rw [List.getElem?_cons_succ] at h1; exact h1, by rw [h2]; congr 1; omega⟩
def mj_LO (ad : Nat → Nat) (ls : Array Slot) (nL : Nat) (L : mj_L) : Prop := lv_has ls nL (mj_lo ad 0 L) ∧ L.length = nL
theorem mj_LO.get {ad : Nat → Nat} {ls : Array Slot} {nL k : Nat} {L : mj_L} {v : mj_V} (h : mj_LO ad ls nL L) (hk : L[k]? = some (some v)) : ls[k]? = some (.val (mj_cv ad v)) :=
  h.1.2.2 (k, mj_cv ad v) ((mj_lo_mem L 0).mpr ⟨k, v, hk, by rw [Nat.zero_add]⟩)
theorem mj_LO.set {ad : Nat → Nat} {ls ls' : Array Slot} {nL k : Nat} {L : mj_L} {v : mj_V} (h : mj_LO ad ls nL L) (h' : lv_has ls' nL ((k, mj_cv ad v) :: (mj_lo ad 0 L).filter (fun q => !(q.1 == k) && !(q.1 + 1 == k && q.2.category == 2)))) : mj_LO ad ls' nL (L.set k (some v)) := by
  refine ⟨⟨h'.1, h'.2.1, fun q hq => h'.2.2 q ?_⟩, by rw [List.length_set]; exact h.2⟩
  obtain ⟨j, w, h1, h2⟩ := (mj_lo_mem _ 0).mp hq
  rw [List.getElem?_set] at h1
  by_cases hj : k = j
  · subst hj
    rw [if_pos rfl] at h1
    by_cases hl : k < L.length
    · rw [if_pos hl] at h1
      cases h1
      rw [h2, Nat.zero_add]
      exact List.mem_cons_self
    · rw [if_neg hl] at h1; cases h1
  · rw [if_neg hj] at h1
    refine List.mem_cons_of_mem _ (List.mem_filter.mpr ⟨(mj_lo_mem L 0).mpr ⟨j, w, h1, h2⟩, ?_⟩)
    rw [h2, Nat.zero_add]
    have hc := mj_cv_cat ad w
    have hne : ¬ j = k := fun e => hj e.symm
    simp [hne, hc]
theorem mj_args (ad : Nat → Nat) : ∀ (as : List mj_V) (n : Nat), lv_args n (as.map (mj_cv ad)) = mj_lo ad n (as.map some) := by
  intro as
  induction as with
  | nil => intro n; rfl
  | cons v t ih =>
    intro n
    simp only [List.map_cons, lv_args, mj_lo]
    rw [if_neg (by rw [mj_cv_cat]; decide), ih]
theorem mj_sl (ad : Nat → Nat) : ∀ (as : List mj_V), (lg_sl (as.map (mj_cv ad))).length = as.length := by
  intro as
  induction as with
  | nil => rfl
  | cons v t ih =>
    unfold lg_sl at ih ⊢
    simp only [List.map_cons, List.flatMap_cons, List.length_append, List.length_cons]
    rw [ih, if_neg (by rw [mj_cv_cat]; decide)]
    simp
    omega
theorem mj_lo_pad (ad : Nat → Nat) (m : Nat) : ∀ (L : mj_L) (n : Nat), mj_lo ad n (L ++ List.replicate m none) = mj_lo ad n L := by
  have h0 : ∀ (m n : Nat), mj_lo ad n (List.replicate m none) = [] := by
    intro m
    induction m with
    | zero => intro n; rfl
    | succ m ih => intro n; rw [List.replicate_succ, mj_lo]; exact ih (n + 1)
  intro L
  induction L with
  | nil => intro n; exact h0 m n
  | cons x t ih =>
    intro n
    cases x with
    | none => rw [List.cons_append, mj_lo, mj_lo]; exact ih (n + 1)
    | some v => rw [List.cons_append, mj_lo, mj_lo, ih (n + 1)]
/-- the locals with which a method begins -/
theorem mj_LO.entry (ad : Nat → Nat) (as : List mj_V) {n : Nat} (h : as.length ≤ n) : mj_LO ad ((lg_sl (as.map (mj_cv ad)) ++ List.replicate (n - (lg_sl (as.map (mj_cv ad))).length) Slot.unset).toArray) n (as.map some ++ List.replicate (n - as.length) none) := by
  refine ⟨?_, by simp; omega⟩
  rw [mj_lo_pad, ← mj_args]
  exact lv_entry (as.map (mj_cv ad)) (by rw [mj_sl]; exact h)
def mj_sz (h : mj_H) : Nat := (h.map (fun q => q.2.length)).sum
def mj_le (h h' : mj_H) : Prop := h.length ≤ h'.length ∧ mj_sz h ≤ mj_sz h'
theorem mj_le.rf (h : mj_H) : mj_le h h := ⟨Nat.le_refl _, Nat.le_refl _⟩
theorem mj_le.tr {a b c : mj_H} (h1 : mj_le a b) (h2 : mj_le b c) : mj_le a c := ⟨Nat.le_trans h1.1 h2.1, Nat.le_trans h1.2 h2.2⟩
theorem mj_sz_app (h : mj_H) (q : mj_C) : mj_sz (h ++ [q]) = mj_sz h + q.2.length := by
  simp [mj_sz]
theorem mj_sz_set : ∀ (h : mj_H) (a : Nat) (q r : mj_C), h[a]? = some q → r.2.length = q.2.length → mj_sz (h.set a r) = mj_sz h := by
  intro h
  induction h with
  | nil => intro a q r h1; simp at h1
  | cons x t ih =>
    intro a q r h1 h2
    cases a with
    | zero =>
      simp at h1
      subst h1
      simp [mj_sz, h2]
    | succ a =>
      rw [List.getElem?_cons_succ] at h1
      have := ih a q r h1 h2
      simp only [mj_sz, List.set_cons_succ, List.map_cons, List.sum_cons] at this ⊢
      omega
/-- a write: where, what was there, what is there now -/
theorem mj_pf_inv {h h' : mj_H} {a c k : Nat} {v : mj_V} (hp : mj_pf h a c k v = some h') : ∃ vs, h[a]? = some (c, vs) ∧ k < vs.length ∧ a ≠ 0 ∧ h' = h.set a (c, vs.set k v) := by
  unfold mj_pf at hp
  split at hp
  · next q hq =>
    split at hp
    · next hc =>
      cases hp
      obtain ⟨t, vs⟩ := q
      obtain ⟨rfl, h2, h3⟩ := hc
      exact ⟨vs, hq, h2, h3, rfl⟩
    · cases hp
  · cases hp
theorem mj_gf_inv {h : mj_H} {a c k : Nat} {v : mj_V} (hp : mj_gf h a c k = some v) : ∃ vs, h[a]? = some (c, vs) ∧ vs[k]? = some v := by
  unfold mj_gf at hp
  split at hp
  · next q hq =>
    split at hp
    · next hc =>
      obtain ⟨t, vs⟩ := q
      obtain rfl := hc
      exact ⟨vs, hq, hp⟩
    · cases hp
  · cases hp
theorem mj_pf_le {h h' : mj_H} {a c k : Nat} {v : mj_V} (hp : mj_pf h a c k v = some h') : h'.length = h.length ∧ mj_sz h' = mj_sz h := by
  obtain ⟨vs, h1, h2, h3, rfl⟩ := mj_pf_inv hp
  exact ⟨List.length_set, mj_sz_set h a (c, vs) _ h1 (by simp)⟩
section INV
variable {pc t n k : Nat} {L : mj_L} {S : List mj_V} {h : mj_H} {x : mj_N}
theorem mj_b2_inv {f : Int32 → Int32 → Int32} (e : mj_b2 f pc L S h = some x) : ∃ u v S0, S = .inl v :: .inl u :: S0 ∧ x = (pc + 1, L, .inl (f u v) :: S0, h) := by
  rcases S with _ | ⟨v | v, _ | ⟨u | u, S0⟩⟩ <;> first | (cases e; done) | exact ⟨_, _, _, rfl, (Option.some.inj e).symm⟩
theorem mj_d2_inv {f : Int32 → Int32 → Int32} (e : mj_d2 f pc L S h = some x) : ∃ u v S0, S = .inl v :: .inl u :: S0 ∧ ¬ v = 0 ∧ x = (pc + 1, L, .inl (f u v) :: S0, h) := by
  rcases S with _ | ⟨v | v, _ | ⟨u | u, S0⟩⟩ <;> first | (cases e; done) | skip
  by_cases hv : v = 0
  · simp [mj_d2, hv] at e
  · simp only [mj_d2, if_neg hv] at e
    exact ⟨_, _, _, rfl, hv, (Option.some.inj e).symm⟩
theorem mj_b3_inv {f : Int32 → Int32 → Int32} (e : mj_b3 f pc L S h = some x) : ∃ u v S0, S = .inl v :: .inl u :: S0 ∧ S0.length ≤ 8 ∧ x = (pc + 3, L, .inl (f u v) :: S0, h) := by
  rcases S with _ | ⟨v | v, _ | ⟨u | u, S0⟩⟩ <;> first | (cases e; done) | skip
  by_cases h8 : S0.length ≤ 8
  · simp only [mj_b3, if_pos h8] at e
    exact ⟨_, _, _, rfl, h8, (Option.some.inj e).symm⟩
  · simp [mj_b3, h8] at e
theorem mj_li_inv (e : mj_li k n pc L S h = some x) : ∃ v, L[k]? = some (some (.inl v)) ∧ x = (pc + n, L, .inl v :: S, h) := by
  unfold mj_li at e
  cases hl : L[k]? with
  | none => rw [hl] at e; cases e
  | some w =>
    rw [hl] at e
    rcases w with _ | ⟨v | v⟩ <;> first | (cases e; done) | exact ⟨_, rfl, (Option.some.inj e).symm⟩
theorem mj_la_inv (e : mj_la k n pc L S h = some x) : ∃ v, L[k]? = some (some (.inr v)) ∧ x = (pc + n, L, .inr v :: S, h) := by
  unfold mj_la at e
  cases hl : L[k]? with
  | none => rw [hl] at e; cases e
  | some w =>
    rw [hl] at e
    rcases w with _ | ⟨v | v⟩ <;> first | (cases e; done) | exact ⟨_, rfl, (Option.some.inj e).symm⟩
theorem mj_si_inv (e : mj_si k n pc L S h = some x) : ∃ v S0, S = .inl v :: S0 ∧ k < L.length ∧ x = (pc + n, L.set k (some (.inl v)), S0, h) := by
  rcases S with _ | ⟨v | v, S0⟩ <;> first | (cases e; done) | skip
  by_cases hk : k < L.length
  · simp only [mj_si, if_pos hk] at e
    exact ⟨_, _, rfl, hk, (Option.some.inj e).symm⟩
  · simp [mj_si, hk] at e
theorem mj_sa_inv (e : mj_sa k n pc L S h = some x) : ∃ v S0, S = .inr v :: S0 ∧ k < L.length ∧ x = (pc + n, L.set k (some (.inr v)), S0, h) := by
  rcases S with _ | ⟨v | v, S0⟩ <;> first | (cases e; done) | skip
  by_cases hk : k < L.length
  · simp only [mj_sa, if_pos hk] at e
    exact ⟨_, _, rfl, hk, (Option.some.inj e).symm⟩
  · simp [mj_sa, hk] at e
theorem mj_c1_inv {q : Int32 → Bool} (e : mj_c1 q t pc L S h = some x) : ∃ v S0, S = .inl v :: S0 ∧ ((q v = true ∧ x = (t, L, S0, h)) ∨ (q v = false ∧ x = (pc + 3, L, S0, h))) := by
  rcases S with _ | ⟨v | v, S0⟩ <;> first | (cases e; done) | skip
  by_cases hq : q v = true
  · simp only [mj_c1, if_pos hq] at e
    exact ⟨_, _, rfl, Or.inl ⟨hq, (Option.some.inj e).symm⟩⟩
  · simp only [mj_c1, if_neg hq] at e
    exact ⟨_, _, rfl, Or.inr ⟨by simpa using hq, (Option.some.inj e).symm⟩⟩
theorem mj_c2_inv {q : Int32 → Int32 → Bool} (e : mj_c2 q t pc L S h = some x) : ∃ u v S0, S = .inl v :: .inl u :: S0 ∧ ((q u v = true ∧ x = (t, L, S0, h)) ∨ (q u v = false ∧ x = (pc + 3, L, S0, h))) := by
  rcases S with _ | ⟨v | v, _ | ⟨u | u, S0⟩⟩ <;> first | (cases e; done) | skip
  by_cases hq : q u v = true
  · simp only [mj_c2, if_pos hq] at e
    exact ⟨_, _, _, rfl, Or.inl ⟨hq, (Option.some.inj e).symm⟩⟩
  · simp only [mj_c2, if_neg hq] at e
    exact ⟨_, _, _, rfl, Or.inr ⟨by simpa using hq, (Option.some.inj e).symm⟩⟩
theorem mj_ca_inv {q : Option Nat → Option Nat → Bool} (e : mj_ca q t pc L S h = some x) : ∃ u v S0, S = .inr v :: .inr u :: S0 ∧ ((q u v = true ∧ x = (t, L, S0, h)) ∨ (q u v = false ∧ x = (pc + 3, L, S0, h))) := by
  rcases S with _ | ⟨v | v, _ | ⟨u | u, S0⟩⟩ <;> first | (cases e; done) | skip
  by_cases hq : q u v = true
  · simp only [mj_ca, if_pos hq] at e
    exact ⟨_, _, _, rfl, Or.inl ⟨hq, (Option.some.inj e).symm⟩⟩
  · simp only [mj_ca, if_neg hq] at e
    exact ⟨_, _, _, rfl, Or.inr ⟨by simpa using hq, (Option.some.inj e).symm⟩⟩
theorem mj_cn_inv {q : Bool} (e : mj_cn q t pc L S h = some x) : ∃ v S0, S = .inr v :: S0 ∧ ((v.isNone = q ∧ x = (t, L, S0, h)) ∨ (¬ v.isNone = q ∧ x = (pc + 3, L, S0, h))) := by
  rcases S with _ | ⟨v | v, S0⟩ <;> first | (cases e; done) | skip
  by_cases hq : v.isNone = q
  · simp only [mj_cn, if_pos hq] at e
    exact ⟨_, _, rfl, Or.inl ⟨hq, (Option.some.inj e).symm⟩⟩
  · simp only [mj_cn, if_neg hq] at e
    exact ⟨_, _, rfl, Or.inr ⟨hq, (Option.some.inj e).symm⟩⟩
theorem mj_get_inv {c : Nat} (e : mj_get c k pc L S h = some x) : ∃ a v S0, S = .inr (some a) :: S0 ∧ mj_gf h a c k = some v ∧ x = (pc + 3, L, v :: S0, h) := by
  rcases S with _ | ⟨v | _ | a, S0⟩ <;> first | (cases e; done) | skip
  cases hg : mj_gf h a c k with
  | none => simp [mj_get, hg] at e
  | some v =>
    simp only [mj_get, hg] at e
    exact ⟨_, _, _, rfl, hg, (Option.some.inj e).symm⟩
theorem mj_put_inv {z : Nat → Nat → Nat} {c : Nat} (e : mj_put z c k pc L S h = some x) : ∃ a v S0 h', S = v :: .inr (some a) :: S0 ∧ mj_zk (z c k) v = true ∧ mj_pf h a c k v = some h' ∧ x = (pc + 3, L, S0, h') := by
  rcases S with _ | ⟨v, _ | ⟨u | _ | a, S0⟩⟩ <;> first | (cases e; done) | skip
  by_cases hz : mj_zk (z c k) v = true
  · cases hg : mj_pf h a c k v with
    | none => simp [mj_put, hg] at e
    | some h' =>
      simp only [mj_put, hg, if_pos hz] at e
      exact ⟨_, _, _, _, rfl, hz, hg, (Option.some.inj e).symm⟩
  · simp [mj_put, hz] at e
theorem mj_ald_inv (e : mj_ald pc L S h = some x) : ∃ i a v S0, S = .inl i :: .inr (some a) :: S0 ∧ ¬ i < 0 ∧ mj_gf h a 100 i.toNatClampNeg = some (.inl v) ∧ x = (pc + 1, L, .inl v :: S0, h) := by
  rcases S with _ | ⟨i | i, _ | ⟨u | _ | a, S0⟩⟩ <;> first | (cases e; done) | skip
  by_cases hi : i < 0
  · simp [mj_ald, hi] at e
  · simp only [mj_ald, if_neg hi] at e
    cases hg : mj_gf h a 100 i.toNatClampNeg with
    | none => rw [hg] at e; cases e
    | some w =>
      rw [hg] at e
      rcases w with v | v <;> first | (cases e; done) | exact ⟨_, _, _, _, rfl, hi, hg, (Option.some.inj e).symm⟩
theorem mj_rld_inv {c : Nat} (e : mj_rld c pc L S h = some x) : ∃ i a v S0, S = .inl i :: .inr (some a) :: S0 ∧ ¬ i < 0 ∧ mj_gf h a (101 + c) i.toNatClampNeg = some (.inr v) ∧ x = (pc + 1, L, .inr v :: S0, h) := by
  rcases S with _ | ⟨i | i, _ | ⟨u | _ | a, S0⟩⟩ <;> first | (cases e; done) | skip
  by_cases hi : i < 0
  · simp [mj_rld, hi] at e
  · simp only [mj_rld, if_neg hi] at e
    cases hg : mj_gf h a (101 + c) i.toNatClampNeg with
    | none => rw [hg] at e; cases e
    | some w =>
      rw [hg] at e
      rcases w with v | v <;> first | (cases e; done) | exact ⟨_, _, _, _, rfl, hi, hg, (Option.some.inj e).symm⟩
theorem mj_bld_inv (e : mj_bld pc L S h = some x) : ∃ i a v S0, S = .inl i :: .inr (some a) :: S0 ∧ ¬ i < 0 ∧ mj_gf h a 200 i.toNatClampNeg = some (.inl v) ∧ x = (pc + 1, L, .inl v :: S0, h) := by
  rcases S with _ | ⟨i | i, _ | ⟨u | _ | a, S0⟩⟩ <;> first | (cases e; done) | skip
  by_cases hi : i < 0
  · simp [mj_bld, hi] at e
  · simp only [mj_bld, if_neg hi] at e
    cases hg : mj_gf h a 200 i.toNatClampNeg with
    | none => rw [hg] at e; cases e
    | some w =>
      rw [hg] at e
      rcases w with v | v <;> first | (cases e; done) | exact ⟨_, _, _, _, rfl, hi, hg, (Option.some.inj e).symm⟩
theorem mj_bst_inv (e : mj_bst pc L S h = some x) : ∃ v i a S0 h', S = .inl v :: .inl i :: .inr (some a) :: S0 ∧ ¬ i < 0 ∧ (v = 0 ∨ v = 1) ∧ mj_pf h a 200 i.toNatClampNeg (.inl v) = some h' ∧ x = (pc + 1, L, S0, h') := by
  rcases S with _ | ⟨v | v, _ | ⟨i | i, _ | ⟨u | _ | a, S0⟩⟩⟩ <;> first | (cases e; done) | skip
  by_cases hi : i < 0 ∨ ¬ (v = 0 ∨ v = 1)
  · simp only [mj_bst, if_pos hi] at e; cases e
  · simp only [mj_bst, if_neg hi] at e
    have h1 : ¬ i < 0 := fun q => hi (Or.inl q)
    have h2 : v = 0 ∨ v = 1 := Classical.byContradiction fun q => hi (Or.inr q)
    cases hg : mj_pf h a 200 i.toNatClampNeg (.inl v) with
    | none => rw [hg] at e; cases e
    | some h' => rw [hg] at e; exact ⟨_, _, _, _, _, rfl, h1, h2, hg, (Option.some.inj e).symm⟩
theorem mj_ast_inv (e : mj_ast pc L S h = some x) : ∃ v i a S0 h', S = .inl v :: .inl i :: .inr (some a) :: S0 ∧ ¬ i < 0 ∧ mj_pf h a 100 i.toNatClampNeg (.inl v) = some h' ∧ x = (pc + 1, L, S0, h') := by
  rcases S with _ | ⟨v | v, _ | ⟨i | i, _ | ⟨u | _ | a, S0⟩⟩⟩ <;> first | (cases e; done) | skip
  by_cases hi : i < 0
  · simp [mj_ast, hi] at e
  · simp only [mj_ast, if_neg hi] at e
    cases hg : mj_pf h a 100 i.toNatClampNeg (.inl v) with
    | none => rw [hg] at e; cases e
    | some h' => rw [hg] at e; exact ⟨_, _, _, _, _, rfl, hi, hg, (Option.some.inj e).symm⟩
theorem mj_rst_inv {c : Nat} (e : mj_rst c pc L S h = some x) : ∃ v i a S0 h', S = .inr v :: .inl i :: .inr (some a) :: S0 ∧ ¬ i < 0 ∧ (∀ q, v = some q → mj_tg h q c = true) ∧ mj_pf h a (101 + c) i.toNatClampNeg (.inr v) = some h' ∧ x = (pc + 1, L, S0, h') := by
  rcases S with _ | ⟨v | v, _ | ⟨i | i, _ | ⟨u | _ | a, S0⟩⟩⟩ <;> first | (cases e; done) | skip
  by_cases hi : i < 0 ∨ (mj_tv h v c = false)
  · simp [mj_rst, hi] at e
  · simp only [mj_rst, if_neg hi] at e
    cases hg : mj_pf h a (101 + c) i.toNatClampNeg (.inr v) with
    | none => rw [hg] at e; cases e
    | some h' =>
      rw [hg] at e
      refine ⟨_, _, _, _, _, rfl, fun q => hi (Or.inl q), fun q hq => ?_, hg, (Option.some.inj e).symm⟩
      subst hq
      cases ht : mj_tg h q c with
      | true => rfl
      | false => exact absurd (Or.inr ht) hi
theorem mj_al_inv (e : mj_al pc L S h = some x) : ∃ a n S0, S = .inr (some a) :: S0 ∧ mj_ln h a = some n ∧ x = (pc + 1, L, .inl (Int32.ofNat n) :: S0, h) := by
  rcases S with _ | ⟨v | _ | a, S0⟩ <;> first | (cases e; done) | skip
  cases hg : mj_ln h a with
  | none => simp [mj_al, hg] at e
  | some v =>
    simp only [mj_al, hg] at e
    exact ⟨_, _, _, rfl, hg, (Option.some.inj e).symm⟩
theorem mj_mk_inv {v : mj_V} (e : mj_mk t n pc v L S h = some x) : ∃ i S0, S = .inl i :: S0 ∧ ¬ i < 0 ∧ i.toNatClampNeg ≤ 100000 ∧ x = (pc + n, L, .inr (some h.length) :: S0, h ++ [(t, List.replicate i.toNatClampNeg v)]) := by
  rcases S with _ | ⟨i | i, S0⟩ <;> first | (cases e; done) | skip
  by_cases hi : i < 0 ∨ 100000 < i.toNatClampNeg
  · simp only [mj_mk, if_pos hi] at e; cases e
  · simp only [mj_mk, if_neg hi] at e
    exact ⟨_, _, rfl, fun q => hi (Or.inl q), Nat.le_of_not_lt fun q => hi (Or.inr q), (Option.some.inj e).symm⟩
theorem mj_sw_inv {o : Int → Int} (e : mj_sw o pc L S h = some x) : ∃ v S0, S = .inl v :: S0 ∧ 0 ≤ (pc : Int) + o v.toInt ∧ x = (((pc : Int) + o v.toInt).toNat, L, S0, h) := by
  rcases S with _ | ⟨i | i, S0⟩ <;> first | (cases e; done) | skip
  by_cases hi : 0 ≤ (pc : Int) + o i.toInt
  · simp only [mj_sw, if_pos hi] at e
    exact ⟨_, _, rfl, hi, (Option.some.inj e).symm⟩
  · simp only [mj_sw, if_neg hi] at e; cases e
theorem mj_inv_inv {call : Nat → List mj_V → mj_H → Option mj_R} {y : Nat} (e : mj_inv call y n pc L S h = some x) : ∃ r h', n ≤ S.length ∧ S.length ≤ n + 8 ∧ call y (S.take n).reverse h = some (r, h') ∧ x = (pc + 3, L, r.toList ++ S.drop n, h') := by
  unfold mj_inv at e
  by_cases hn : n ≤ S.length ∧ S.length ≤ n + 8
  · rw [if_pos hn] at e
    cases hc : call y (S.take n).reverse h with
    | none => rw [hc] at e; cases e
    | some r =>
      rw [hc] at e
      obtain ⟨r, h'⟩ := r
      exact ⟨r, h', hn.1, hn.2, rfl, (Option.some.inj e).symm⟩
  · rw [if_neg hn] at e; cases e
theorem mj_rcv_inv {c : Nat} (e : mj_rcv c n S h = true) : ∃ a vs, S[n]? = some (.inr (some a)) ∧ h[a]? = some (c, vs) := by
  unfold mj_rcv at e
  cases hs : S[n]? with
  | none => rw [hs] at e; cases e
  | some w =>
    rw [hs] at e
    rcases w with v | _ | a <;> first | (cases e; done) | skip
    have e : mj_tg h a c = true := e
    unfold mj_tg at e
    cases ha : h[a]? with
    | none => rw [ha] at e; cases e
    | some q =>
      rw [ha] at e
      obtain ⟨u, vs⟩ := q
      have e : u = c := by simpa using e
      subst e
      exact ⟨a, vs, rfl, ha⟩
end INV
end
section
/-! ONE INSTRUCTION of the small machine is one of the machine -/
def mj_ty (cl : List vw_C) (cA : Nat → ClassId) (ak : List Nat) : List (ClassId × FieldType) := (cA 0, .int) :: (cA 100, .boolean) :: ak.map (fun k => (cA (k + 1), .object ((cl[k]?.map (fun q => q.1)).getD "")))
theorem mj_ty_at {cl : List vw_C} {cA : Nat → ClassId} {ak : List Nat} {k : Nat} {q : vw_C} (hk : k ∈ ak) (hq : cl[k]? = some q) : ∃ t0 : Nat, (mj_ty cl cA ak)[t0]? = some (cA (k + 1), FieldType.object q.1) := by
  obtain ⟨i, hi⟩ := List.getElem?_of_mem hk
  refine ⟨i + 2, ?_⟩
  rw [mj_ty, List.getElem?_cons_succ, List.getElem?_cons_succ, List.getElem?_map, hi]
  simp [hq]
section OK
variable (P : mj_P) (cl : List vw_C) (tyf : Nat → Nat → FieldType) (Ts Nw : List Cond) (ak : List Nat) (yn : Nat → MethodName) (cc : Nat → ByteArray) (rt : Nat → Option FieldType)
/-- a class of the list -/
def mj_okc (a : Nat) (C : String) (T : u_T) (N : Nat) : Prop := cl[a]? = some (C, T, N) ∧ a < 100 ∧ (∀ w ∈ u_ws C T N, w ∈ Ts) ∧ (∀ k, k < N → parseFieldDescriptor (T k).2.2.1 = some (tyf a k)) ∧ ∀ x, x < N → ∀ y, y < N → x ≠ y → (T x).2.1 ≠ (T y).2.1
/-- a method -/
def mj_okm (M : Nat) : Prop := plainName (yn M).cls = true ∧ Cond.code (yn M) (cc M) (P.2.1 M) (rt M) ∈ Ts ∧ P.2.1 M ≤ 30 ∧ (P.2.2.1 M = 0 → rt M = none) ∧ (P.2.2.1 M = 1 → rt M = some .int) ∧ (P.2.2.1 M = 2 → rt M = some .boolean) ∧ (P.2.2.1 M = 3 → ∃ C, rt M = some (.object C))
/-- a call's link -/
def mj_okk (M idx y n : Nat) : Prop := mj_okm P Ts yn cc rt y ∧ n ≤ P.2.1 y ∧ Cond.initialized (yn y).cls ∈ Ts ∧ ((yn y).cls ≠ "java/lang/invoke/MethodHandle" ∧ (yn y).cls ≠ "java/lang/invoke/VarHandle") ∧ (Cond.methodLink (yn M).cls idx (yn y) ∈ Ts ∨ ∃ host, Cond.methodLinkNest (yn M).cls idx (yn y) host ∈ Nw)
def mj_len (i : mj_I) : Nat := match i.1 with
  | .iload _ => 2
  | .aload _ => 2
  | .istore _ => 2
  | .astore _ => 2
  | .bipush _ => 2
  | .newarray _ => 2
  | .sipush _ => 3
  | .iinc _ _ => 3
  | .ifCond _ _ => 3
  | .if_icmp _ _ => 3
  | .if_acmp _ _ => 3
  | .ifnull _ => 3
  | .ifnonnull _ => 3
  | .goto _ => 3
  | .getfield _ => 3
  | .putfield _ => 3
  | .new _ => 3
  | .anewarray _ => 3
  | .invokestatic _ => 3
  | .invokevirtual _ => 3
  | .invokespecial _ => 3
  | .tableswitch _ _ _ _ => i.2.1
  | _ => 1
def mj_lk (M pc : Nat) (i : mj_I) : Prop := match i.1 with
  | .ifCond _ o => (pc : Int) + o = (i.2.2.1 : Int)
  | .if_icmp _ o => (pc : Int) + o = (i.2.2.1 : Int)
  | .if_acmp _ o => (pc : Int) + o = (i.2.2.1 : Int)
  | .ifnull o => (pc : Int) + o = (i.2.2.1 : Int)
  | .ifnonnull o => (pc : Int) + o = (i.2.2.1 : Int)
  | .goto o => (pc : Int) + o = (i.2.2.1 : Int)
  | .tableswitch _ lo hi os => os.size = (hi - lo + 1).toNat
  | .getfield x => ∃ C T N, mj_okc cl tyf Ts i.2.2.1 C T N ∧ i.2.2.2 < N ∧ (Cond.fieldLink (yn M).cls x (T i.2.2.2).1 (T i.2.2.2).2.1 (T i.2.2.2).2.2.1 ∈ Ts ∨ ∃ host, Cond.fieldLinkNest (yn M).cls x (T i.2.2.2).1 (T i.2.2.2).2.1 (T i.2.2.2).2.2.1 host ∈ Nw)
  | .putfield x => ∃ C T N, mj_okc cl tyf Ts i.2.2.1 C T N ∧ i.2.2.2 < N ∧ ((P.2.2.2.2.1 i.2.2.1 i.2.2.2 = 0 ∧ tyf i.2.2.1 i.2.2.2 = .int) ∨ (P.2.2.2.2.1 i.2.2.1 i.2.2.2 = 1 ∧ tyf i.2.2.1 i.2.2.2 = .boolean) ∨ (P.2.2.2.2.1 i.2.2.1 i.2.2.2 = 2 ∧ ((∃ E, tyf i.2.2.1 i.2.2.2 = .object E) ∨ ∃ E, tyf i.2.2.1 i.2.2.2 = .array E))) ∧
      (((T i.2.2.2).2.2.2 = false ∧ (Cond.fieldLink (yn M).cls x (T i.2.2.2).1 (T i.2.2.2).2.1 (T i.2.2.2).2.2.1 ∈ Ts ∨ ∃ host, Cond.fieldLinkNest (yn M).cls x (T i.2.2.2).1 (T i.2.2.2).2.1 (T i.2.2.2).2.2.1 host ∈ Nw)) ∨
       ((T i.2.2.2).2.2.2 = true ∧ (yn M).name = "<init>" ∧ (T i.2.2.2).1 = (yn M).cls ∧ Cond.fieldLink (yn M).cls x (T i.2.2.2).1 (T i.2.2.2).2.1 (T i.2.2.2).2.2.1 ∈ Ts))
  | .new x => ∃ C T N, mj_okc cl tyf Ts i.2.2.1 C T N ∧ Cond.classLink (yn M).cls x C ∈ Ts ∧ Cond.instantiable C N ∈ Ts ∧ Cond.initialized C ∈ Ts ∧ (P.2.2.2.1 i.2.2.1).length = N ∧ ∀ (ad : Nat → Nat) (j : Nat), j < N → defaultValue (tyf i.2.2.1 j) = vp_V ((P.2.2.2.1 i.2.2.1).map (mj_cv ad)) j
  | .newarray _ => Cond.arrayClass .int ∈ Ts ∧ Cond.arrayClass .boolean ∈ Ts
  | .anewarray x => ∃ C T N, cl[i.2.2.1]? = some (C, T, N) ∧ i.2.2.1 ∈ ak ∧ i.2.2.1 < 99 ∧ Cond.classLink (yn M).cls x C ∈ Ts ∧ Cond.arrayOver (.object C) ∈ Nw
  | .aaload => ∃ q, cl[i.2.2.1]? = some q ∧ i.2.2.1 ∈ ak ∧ i.2.2.1 < 99
  | .aastore => ∃ q, cl[i.2.2.1]? = some q ∧ i.2.2.1 ∈ ak ∧ i.2.2.1 < 99
  | .invokestatic x => (i.2.2.1 = 9998 ∧ Cond.methodLink (yn M).cls x Lib.Math.min.name ∈ Ts ∧ Cond.static Lib.Math.min.name ∈ Ts ∧ Cond.initialized "java/lang/Math" ∈ Ts ∧ Cond.code Lib.Math.min.name Lib.Math.min.code 2 (some .int) ∈ Ts) ∨
      (i.2.2.1 = 9997 ∧ Cond.methodLink (yn M).cls x Lib.Math.max.name ∈ Ts ∧ Cond.static Lib.Math.max.name ∈ Ts ∧ Cond.initialized "java/lang/Math" ∈ Ts ∧ Cond.code Lib.Math.max.name Lib.Math.max.code 2 (some .int) ∈ Ts) ∨
      (i.2.2.1 ≠ 9998 ∧ i.2.2.1 ≠ 9997 ∧ mj_okk P Ts Nw yn cc rt M x i.2.2.1 i.2.2.2 ∧ Cond.static (yn i.2.2.1) ∈ Ts ∧ (parseMethodDescriptor (yn i.2.2.1).desc).map (fun d => d.parameters.length) = some i.2.2.2)
  | .invokevirtual x => mj_okk P Ts Nw yn cc rt M x i.2.2.1 i.2.2.2 ∧ 1 ≤ i.2.2.2 ∧ Cond.instanceMethod (yn i.2.2.1) ∈ Ts ∧ Cond.selects (yn i.2.2.1).cls (yn i.2.2.1) (yn i.2.2.1) ∈ Ts ∧ (parseMethodDescriptor (yn i.2.2.1).desc).map (fun d => d.parameters.length) = some (i.2.2.2 - 1) ∧ P.2.2.2.2.2 i.2.2.1 < 100 ∧ ∃ T N, cl[P.2.2.2.2.2 i.2.2.1]? = some ((yn i.2.2.1).cls, T, N)
  | .invokespecial x => (i.2.2.1 = 9999 ∧ Cond.methodLink (yn M).cls x objectInit ∈ Ts ∧ Cond.instanceMethod objectInit ∈ Ts ∧ Cond.code objectInit ⟨#[0xb1]⟩ 1 none ∈ Ts) ∨
      (i.2.2.1 ≠ 9999 ∧ mj_okk P Ts Nw yn cc rt M x i.2.2.1 i.2.2.2 ∧ 1 ≤ i.2.2.2 ∧ Cond.instanceMethod (yn i.2.2.1) ∈ Ts ∧ (yn i.2.2.1).name = "<init>" ∧ rt i.2.2.1 = none ∧ (parseMethodDescriptor (yn i.2.2.1).desc).map (fun d => d.parameters.length) = some (i.2.2.2 - 1) ∧ P.2.2.2.2.2 i.2.2.1 < 100)
  | _ => True
def mj_oki (M pc : Nat) (i : mj_I) : Prop := decode (cc M) pc = .ok (i.1, mj_len i) ∧ mj_lk P cl tyf Ts Nw ak yn cc rt M pc i
/-- words that are carried apart from the others -/
def mj_nwf : Prop := ∀ w ∈ Nw, (∃ a i b n d h, w = Cond.fieldLinkNest a i b n d h) ∨ (∃ a i x h, w = Cond.methodLinkNest a i x h) ∨ ∃ C, w = Cond.arrayOver (.object C)
end OK
theorem mj_nw_warm {Nw : List Cond} (hf : mj_nwf Nw) {s U : State} (hW : s.WarmedH U.vm) (h : ∀ w ∈ Nw, va_Nw w s) : ∀ w ∈ Nw, va_Nw w U := by
  intro w hw
  have h1 := h w hw
  rcases hf w hw with ⟨a, i, b, n, d, q, rfl⟩ | ⟨a, i, x, q, rfl⟩ | ⟨C, rfl⟩
  · exact va_Nw.warmF hW h1
  · exact va_Nw.warmM hW h1
  · exact va_AO.moved hW.alike h1
theorem mj_nw_call {Nw : List Cond} (hf : mj_nwf Nw) {U : State} {g : JFrame} {mk : MethodId} {a : Array Value} (h : ∀ w ∈ Nw, va_Nw w U) : ∀ w ∈ Nw, va_Nw w (U.calling g mk a) := by
  intro w hw
  have h1 := h w hw
  rcases hf w hw with ⟨a, i, b, n, d, q, rfl⟩ | ⟨a, i, x, q, rfl⟩ | ⟨C, rfl⟩
  · exact va_Nw.same rfl rfl h1
  · exact va_Nw.same rfl rfl h1
  · exact va_AO.moved (Vm.Alike.refl U.vm) h1
/-- a method's start and end -/
def mj_Pc (D : va_G) (cl : List vw_C) (cA : Nat → ClassId) (ak : List Nat) (Nw : List Cond) (b base nX : Nat) (xs : Nat → Int32) (z : mj_C) (as : List mj_V) (h : mj_H) : Array Value → State → Prop := va_Pc (as.map (mj_cv (mj_ad b base))) (fun U => mj_In D cl cA b base z h U.heap ∧ va_K D cl (mj_ty cl cA ak) U ∧ (∀ w ∈ Nw, va_Nw w U) ∧ va_X b nX xs U U.heap)
def mj_Qc (D : va_G) (cl : List vw_C) (cA : Nat → ClassId) (b base : Nat) (z : mj_C) (r : Option mj_V) (h : mj_H) : Array Value → State → Outcome → State → Prop := fun _ st oc t => oc = .returned (r.map (mj_cv (mj_ad b base))) ∧ mj_In D cl cA b base z h t.heap ∧ va_F (fun q : Nat => base ≤ q) st t
theorem mj_blind {D : va_G} {cl : List vw_C} {cA : Nat → ClassId} {ak : List Nat} {Nw : List Cond} (hf : mj_nwf Nw) {b base nX : Nat} {xs : Nat → Int32} {z : mj_C} {as : List mj_V} {h : mj_H} : FrameBlind (mj_Pc D cl cA ak Nw b base nX xs z as h) := by
  intro a U g mk q
  obtain ⟨q0, q1, q2, q3, q4⟩ := q
  exact ⟨q0, q1, va_K.moved (u := U) (U := U.calling g mk a) (Vm.Alike.refl U.vm) q2, mj_nw_call hf q3, va_X.moved (u := U) (U := U.calling g mk a) (Vm.Alike.refl U.vm) q4⟩
section STEP
variable {p : Program} {l : Launch} {e : Env} {R : Room} {s : State} {m : MethodId} {args : Array Value} {below : List Frame} {meth : Method} {c : Code} {H : Heap} {locs : List Loc} {cells slots : Nat} {Q : State → Prop}
theorem mj_callk {pc mc ms : Nat} {ls : Array Slot} {st0 rest : List Value} {a : Array Value} {H0 : Heap} {D : va_G} {cl : List vw_C} {cA : Nat → ClassId} {b base : Nat} {z : mj_C} {r : Option mj_V} {h : mj_H}
    (hr : va_Run p l e R s m args below meth c H locs cells slots mc ms (F0 m pc ls st0) rest (mj_Qc D cl cA b base z r h a) (fun q : Nat => base ≤ q)) (hS : va_S (fun q : Nat => base ≤ q) H0 H locs)
    (kk : ∀ (H1 : Heap) (locs1 : List Loc), mj_In D cl cA b base z h H1 → va_S (fun q : Nat => base ≤ q) H0 H1 locs1 → W p l e R s m args below meth c H1 locs1 (cells + mc) (slots + ms) Q (F0 m (pc + 3) ls ((r.map (mj_cv (mj_ad b base))).toList ++ rest))) : W p l e R s m args below meth c H locs cells slots Q (F0 m pc ls st0) := by
  intro T hT X
  obtain ⟨v, st₀, t, T', L, h0, X', hL, e1, e2, ⟨hv, hb, hz, hk⟩, st⟩ := hr T hT X
  cases hv
  rw [h0] at hz hk
  obtain ⟨t2, a1, b1⟩ := kk T'.heap (locs ++ L) (by rw [e1]; exact hb)
    ⟨Nat.le_trans hS.1 (by rw [e1]; exact hz), fun q h1 h2 => by rw [e1, hk q (Nat.lt_of_lt_of_le h1 hS.1) h2]; exact hS.2.1 q h1 h2, fun q hq => by
      rcases List.mem_append.mp hq with h | h
      · exact hS.2.2 q h
      · exact hL q h⟩ T' rfl X'
  exact ⟨t2, st t2 a1, b1⟩
theorem mj_push {D : va_G} {cl : List vw_C} {cA : Nat → ClassId} {b base : Nat} {z : mj_C} {h : mj_H} {q : mj_C} {H H1 : Heap} (hI : mj_In D cl cA b base z h H) (he : va_at D cl (H.size, mj_ce (mj_ad b base) cA q) H1) (hs : H1.size = H.size + 1) (ho : ∀ x : Nat, x < H.size → H1[x]? = H[x]?) : mj_In D cl cA b base z (h ++ [q]) H1 := by
  obtain ⟨t, rfl, h2, h3⟩ := hI
  refine ⟨t ++ [q], rfl, by rw [hs, h2, List.length_append]; simp; omega, ?_⟩
  rw [mj_wo_app]
  refine (h3.kept (fun k x hx => ho x.1 ((h3 k x hx).lt))).app (fun k x hx => ?_)
  have hz : k < 1 := (List.getElem?_eq_some_iff.mp hx).1
  rw [show k = 0 by omega] at hx
  cases hx
  rw [← h2]
  exact he
theorem mj_S_push {A : Nat → Prop} {H0 H H1 : Heap} (hS : va_S A H0 H locs) (hs : H1.size = H.size + 1) (ho : ∀ x : Nat, x < H.size → H1[x]? = H[x]?) : va_S A H0 H1 locs :=
  ⟨Nat.le_trans hS.1 (by omega), fun x h1 h2 => (ho x (Nat.lt_of_lt_of_le h1 hS.1)).trans (hS.2.1 x h1 h2), hS.2.2⟩
end STEP
theorem mj_hd {D : va_G} {cl : List vw_C} {cA : Nat → ClassId} {b base : Nat} {z : mj_C} {h : mj_H} {H : Heap} (hI : mj_In D cl cA b base z h H) : H.size = base + (h.length - 1) := by
  obtain ⟨t, rfl, h2, -⟩ := hI
  rw [h2]; simp
theorem mj_cut {S : List mj_V} {k : Nat} {v : mj_V} (h : S[k]? = some v) : S = S.take k ++ v :: S.drop (k + 1) := by
  obtain ⟨hk, hv⟩ := List.getElem?_eq_some_iff.mp h
  rw [← hv, List.getElem_cons_drop hk, List.take_append_drop]
theorem mj_take {S : List mj_V} {k : Nat} {v : mj_V} (h : S[k]? = some v) : S.take (k + 1) = S.take k ++ [v] := by
  obtain ⟨hk, hv⟩ := List.getElem?_eq_some_iff.mp h
  rw [List.take_succ, h]
  rfl
end
section
/-- instructions that leave the heap -/
def mj_g1 (i : Instr) : Bool := match i with
  | .iconst _ => true
  | .bipush _ => true
  | .sipush _ => true
  | .aconst_null => true
  | .iload_n _ => true
  | .iload _ => true
  | .aload_n _ => true
  | .aload _ => true
  | .istore_n _ => true
  | .istore _ => true
  | .astore_n _ => true
  | .astore _ => true
  | .iinc _ _ => true
  | .iadd => true
  | .isub => true
  | .imul => true
  | .iand => true
  | .ior => true
  | .ixor => true
  | .ishl => true
  | .ishr => true
  | .idiv => true
  | .irem => true
  | .dup => true
  | .pop => true
  | .dup_x1 => true
  | .dup2 => true
  | .ifCond _ _ => true
  | .if_icmp _ _ => true
  | .if_acmp _ _ => true
  | .ifnull _ => true
  | .ifnonnull _ => true
  | .goto _ => true
  | .tableswitch _ _ _ _ => true
  | _ => false
section STEP1
variable {p : Program} {l : Launch} {e : Env} {R : Room} {s : State} {m : MethodId} {args : Array Value} {below : List Frame} {meth : Method} {c : Code} {H : Heap} {locs : List Loc} {cells slots : Nat} {Q : State → Prop}
variable {P : mj_P} {cl : List vw_C} {tyf : Nat → Nat → FieldType} {Ts Nw : List Cond} {ak : List Nat} {yn : Nat → MethodName} {cc : Nat → ByteArray} {rt : Nat → Option FieldType}
set_option maxHeartbeats 4000000 in
set_option maxRecDepth 100000 in
theorem mj_step1 {M pc nL : Nat} {ad : Nat → Nat} {i : mj_I} {L : mj_L} {S : List mj_V} {h : mj_H} {x : mj_N} {call : Nat → List mj_V → mj_H → Option mj_R} {ls : Array Slot} (hx : p.tables.exec = Jvm.exec) (hb : c.code = cc M) (hl : mj_LO ad ls nL L) (hadi : ∀ x y, ad x = ad y → x = y) (hok : mj_oki P cl tyf Ts Nw ak yn cc rt M pc i) (hst : mj_st P call i pc L S h = some x) (hg : mj_g1 i.1 = true) :
    x.2.2.2 = h ∧ ((∀ ls', mj_LO ad ls' nL x.2.1 → W p l e R s m args below meth c H locs cells slots Q (F0 m x.1 ls' (x.2.2.1.map (mj_cv ad)))) → W p l e R s m args below meth c H locs cells slots Q (F0 m pc ls (S.map (mj_cv ad)))) := by
  obtain ⟨ins, len, a, b⟩ := i
  obtain ⟨hd, hk⟩ := hok
  have hadm : ∀ u v : Option Nat, u.map ad = v.map ad → u = v := by
    intro u v huv
    cases u <;> cases v <;> simp at huv <;> first | rfl | (rw [hadi _ _ huv])
  cases ins with
  | iconst n =>
    obtain rfl := Option.some.inj hst
    exact ⟨rfl, fun kk => lv_iconst hx hb hd rfl (kk ls hl)⟩
  | bipush n =>
    obtain rfl := Option.some.inj hst
    exact ⟨rfl, fun kk => lv_bipush hx hb hd rfl (kk ls hl)⟩
  | sipush n =>
    obtain rfl := Option.some.inj hst
    exact ⟨rfl, fun kk => lv_sipush hx hb hd rfl (kk ls hl)⟩
  | aconst_null =>
    obtain rfl := Option.some.inj hst
    exact ⟨rfl, fun kk => lv_null hx hb hd (kk ls hl)⟩
  | iload_n k =>
    obtain ⟨v, hv, rfl⟩ := mj_li_inv (k := k.val) (n := 1) hst
    exact ⟨rfl, fun kk => lv_iload_n hx hb hd rfl (hl.get hv) (kk ls hl)⟩
  | iload k =>
    obtain ⟨v, hv, rfl⟩ := mj_li_inv (k := k) (n := 2) hst
    exact ⟨rfl, fun kk => lv_iload hx hb hd (hl.get hv) (kk ls hl)⟩
  | aload_n k =>
    obtain ⟨v, hv, rfl⟩ := mj_la_inv (k := k.val) (n := 1) hst
    refine ⟨rfl, fun kk => ?_⟩
    cases v with
    | none => exact lv_aload_nN hx hb hd rfl (hl.get hv) (kk ls hl)
    | some v => exact lv_aload_n hx hb hd rfl (hl.get hv) (kk ls hl)
  | aload k =>
    obtain ⟨v, hv, rfl⟩ := mj_la_inv (k := k) (n := 2) hst
    refine ⟨rfl, fun kk => ?_⟩
    cases v with
    | none => exact lv_aloadN hx hb hd (hl.get hv) (kk ls hl)
    | some v => exact lv_aload hx hb hd (hl.get hv) (kk ls hl)
  | istore_n k =>
    obtain ⟨v, S0, rfl, hn, rfl⟩ := mj_si_inv (k := k.val) (n := 1) hst
    exact ⟨rfl, fun kk => lv_istore_n hx hb hd rfl hl.1 (by rw [← hl.2]; exact hn) rfl (fun ls' h' => kk ls' (mj_LO.set (v := .inl v) hl h'))⟩
  | istore k =>
    obtain ⟨v, S0, rfl, hn, rfl⟩ := mj_si_inv (k := k) (n := 2) hst
    exact ⟨rfl, fun kk => lv_istore hx hb hd hl.1 (by rw [← hl.2]; exact hn) rfl (fun ls' h' => kk ls' (mj_LO.set (v := .inl v) hl h'))⟩
  | astore_n k =>
    obtain ⟨v, S0, rfl, hn, rfl⟩ := mj_sa_inv (k := k.val) (n := 1) hst
    refine ⟨rfl, fun kk => ?_⟩
    cases v with
    | none => exact lv_astore_nN hx hb hd rfl hl.1 (by rw [← hl.2]; exact hn) rfl (fun ls' h' => kk ls' (mj_LO.set (v := .inr none) hl h'))
    | some v => exact lv_astore_n hx hb hd rfl hl.1 (by rw [← hl.2]; exact hn) rfl (fun ls' h' => kk ls' (mj_LO.set (v := .inr (some v)) hl h'))
  | astore k =>
    obtain ⟨v, S0, rfl, hn, rfl⟩ := mj_sa_inv (k := k) (n := 2) hst
    refine ⟨rfl, fun kk => ?_⟩
    cases v with
    | none => exact lv_astoreN hx hb hd hl.1 (by rw [← hl.2]; exact hn) rfl (fun ls' h' => kk ls' (mj_LO.set (v := .inr none) hl h'))
    | some v => exact lv_astore hx hb hd hl.1 (by rw [← hl.2]; exact hn) rfl (fun ls' h' => kk ls' (mj_LO.set (v := .inr (some v)) hl h'))
  | iinc k n =>
    have hst : (match L[k]? with
      | some (some (.inl x)) => mj_go (pc + 3) (L.set k (some (.inl (x + Int32.ofInt n)))) S h
      | _ => none) = some x := hst
    cases hv : L[k]? with
    | none => rw [hv] at hst; cases hst
    | some w =>
      rw [hv] at hst
      rcases w with _ | ⟨v | v⟩ <;> first | (cases hst; done) | skip
      obtain rfl := Option.some.inj hst
      obtain ⟨kq, hkq⟩ := List.getElem?_of_mem ((mj_lo_mem (ad := ad) L 0).mpr ⟨k, .inl v, hv, rfl⟩)
      rw [Nat.zero_add] at hkq
      exact ⟨rfl, fun kk => lv_iinc hx hb hd hl.1 hkq rfl (by rw [← hl.2]; exact (List.getElem?_eq_some_iff.mp hv).1) rfl (fun ls' h' => kk ls' (mj_LO.set (v := .inl (v + Int32.ofInt n)) hl h'))⟩
  | iadd =>
    obtain ⟨u, v, S0, rfl, rfl⟩ := mj_b2_inv hst
    exact ⟨rfl, fun kk => lv_iadd hx hb hd (kk ls hl)⟩
  | isub =>
    obtain ⟨u, v, S0, rfl, rfl⟩ := mj_b2_inv hst
    exact ⟨rfl, fun kk => lv_isub hx hb hd (kk ls hl)⟩
  | imul =>
    obtain ⟨u, v, S0, rfl, rfl⟩ := mj_b2_inv hst
    exact ⟨rfl, fun kk => lv_imul hx hb hd (kk ls hl)⟩
  | iand =>
    obtain ⟨u, v, S0, rfl, rfl⟩ := mj_b2_inv hst
    exact ⟨rfl, fun kk => lv_iand hx hb hd (kk ls hl)⟩
  | ior =>
    obtain ⟨u, v, S0, rfl, rfl⟩ := mj_b2_inv hst
    exact ⟨rfl, fun kk => lv_ior hx hb hd (kk ls hl)⟩
  | ixor =>
    obtain ⟨u, v, S0, rfl, rfl⟩ := mj_b2_inv hst
    exact ⟨rfl, fun kk => lv_ixor hx hb hd (kk ls hl)⟩
  | ishl =>
    obtain ⟨u, v, S0, rfl, rfl⟩ := mj_b2_inv hst
    exact ⟨rfl, fun kk => lv_ishl hx hb hd (kk ls hl)⟩
  | ishr =>
    obtain ⟨u, v, S0, rfl, rfl⟩ := mj_b2_inv hst
    exact ⟨rfl, fun kk => lv_ishr hx hb hd (kk ls hl)⟩
  | idiv =>
    obtain ⟨u, v, S0, rfl, hne, rfl⟩ := mj_d2_inv hst
    exact ⟨rfl, fun kk => lv_idiv hx hb hd hne (kk ls hl)⟩
  | irem =>
    obtain ⟨u, v, S0, rfl, hne, rfl⟩ := mj_d2_inv hst
    exact ⟨rfl, fun kk => lv_irem hx hb hd hne (kk ls hl)⟩
  | dup =>
    rcases S with _ | ⟨v, S⟩ <;> first | (cases hst; done) | skip
    obtain rfl := Option.some.inj hst
    exact ⟨rfl, fun kk => lv_dup hx hb hd (mj_cv_cat ad v) (kk ls hl)⟩
  | pop =>
    rcases S with _ | ⟨v, S⟩ <;> first | (cases hst; done) | skip
    obtain rfl := Option.some.inj hst
    exact ⟨rfl, fun kk => lv_pop hx hb hd (mj_cv_cat ad v) (kk ls hl)⟩
  | dup_x1 =>
    rcases S with _ | ⟨v, _ | ⟨w, S⟩⟩ <;> first | (cases hst; done) | skip
    obtain rfl := Option.some.inj hst
    exact ⟨rfl, fun kk => lv_dup_x1 hx hb hd (mj_cv_cat ad v) (mj_cv_cat ad w) (kk ls hl)⟩
  | dup2 =>
    rcases S with _ | ⟨v, _ | ⟨w, S⟩⟩ <;> first | (cases hst; done) | skip
    obtain rfl := Option.some.inj hst
    exact ⟨rfl, fun kk => lv_dup2_11 hx hb hd (mj_cv_cat ad v) (mj_cv_cat ad w) (kk ls hl)⟩
  | ifCond q o =>
    cases q with
    | eq =>
      obtain ⟨v, S0, rfl, ⟨hq, rfl⟩ | ⟨hq, rfl⟩⟩ := mj_c1_inv (t := a) hst
      · exact ⟨rfl, fun kk => lv_if_eq (tgt := a) hx hb hd hk (fun _ => kk ls hl) (fun c1 => absurd (of_decide_eq_true hq) c1)⟩
      · exact ⟨rfl, fun kk => lv_if_eq (tgt := a) hx hb hd hk (fun c1 => absurd c1 (of_decide_eq_false hq)) (fun _ => kk ls hl)⟩
    | ne =>
      obtain ⟨v, S0, rfl, ⟨hq, rfl⟩ | ⟨hq, rfl⟩⟩ := mj_c1_inv (t := a) hst
      · exact ⟨rfl, fun kk => lv_if_ne (tgt := a) hx hb hd hk (fun _ => kk ls hl) (fun c1 => absurd c1 (of_decide_eq_true hq))⟩
      · exact ⟨rfl, fun kk => lv_if_ne (tgt := a) hx hb hd hk (fun c1 => absurd c1 (of_decide_eq_false hq)) (fun _ => kk ls hl)⟩
    | lt =>
      obtain ⟨v, S0, rfl, ⟨hq, rfl⟩ | ⟨hq, rfl⟩⟩ := mj_c1_inv (t := a) hst
      · exact ⟨rfl, fun kk => lv_if_lt (tgt := a) hx hb hd hk (fun _ => kk ls hl) (fun c1 => absurd (of_decide_eq_true hq) c1)⟩
      · exact ⟨rfl, fun kk => lv_if_lt (tgt := a) hx hb hd hk (fun c1 => absurd c1 (of_decide_eq_false hq)) (fun _ => kk ls hl)⟩
    | ge =>
      obtain ⟨v, S0, rfl, ⟨hq, rfl⟩ | ⟨hq, rfl⟩⟩ := mj_c1_inv (t := a) hst
      · exact ⟨rfl, fun kk => lv_if_ge (tgt := a) hx hb hd hk (fun _ => kk ls hl) (fun c1 => absurd (of_decide_eq_true hq) c1)⟩
      · exact ⟨rfl, fun kk => lv_if_ge (tgt := a) hx hb hd hk (fun c1 => absurd c1 (of_decide_eq_false hq)) (fun _ => kk ls hl)⟩
    | gt =>
      obtain ⟨v, S0, rfl, ⟨hq, rfl⟩ | ⟨hq, rfl⟩⟩ := mj_c1_inv (t := a) hst
      · exact ⟨rfl, fun kk => lv_if_gt (tgt := a) hx hb hd hk (fun _ => kk ls hl) (fun c1 => absurd (of_decide_eq_true hq) c1)⟩
      · exact ⟨rfl, fun kk => lv_if_gt (tgt := a) hx hb hd hk (fun c1 => absurd c1 (of_decide_eq_false hq)) (fun _ => kk ls hl)⟩
    | le =>
      obtain ⟨v, S0, rfl, ⟨hq, rfl⟩ | ⟨hq, rfl⟩⟩ := mj_c1_inv (t := a) hst
      · exact ⟨rfl, fun kk => lv_if_le (tgt := a) hx hb hd hk (fun _ => kk ls hl) (fun c1 => absurd (of_decide_eq_true hq) c1)⟩
      · exact ⟨rfl, fun kk => lv_if_le (tgt := a) hx hb hd hk (fun c1 => absurd c1 (of_decide_eq_false hq)) (fun _ => kk ls hl)⟩
  | if_icmp q o =>
    cases q with
    | eq =>
      obtain ⟨u, v, S0, rfl, ⟨hq, rfl⟩ | ⟨hq, rfl⟩⟩ := mj_c2_inv (t := a) hst
      · exact ⟨rfl, fun kk => lv_icmp_eq (tgt := a) hx hb hd hk (fun _ => kk ls hl) (fun c1 => absurd (of_decide_eq_true hq) c1)⟩
      · exact ⟨rfl, fun kk => lv_icmp_eq (tgt := a) hx hb hd hk (fun c1 => absurd c1 (of_decide_eq_false hq)) (fun _ => kk ls hl)⟩
    | ne =>
      obtain ⟨u, v, S0, rfl, ⟨hq, rfl⟩ | ⟨hq, rfl⟩⟩ := mj_c2_inv (t := a) hst
      · exact ⟨rfl, fun kk => lv_icmp_ne (tgt := a) hx hb hd hk (fun _ => kk ls hl) (fun c1 => absurd c1 (of_decide_eq_true hq))⟩
      · exact ⟨rfl, fun kk => lv_icmp_ne (tgt := a) hx hb hd hk (fun c1 => absurd c1 (of_decide_eq_false hq)) (fun _ => kk ls hl)⟩
    | lt =>
      obtain ⟨u, v, S0, rfl, ⟨hq, rfl⟩ | ⟨hq, rfl⟩⟩ := mj_c2_inv (t := a) hst
      · exact ⟨rfl, fun kk => lv_icmp_lt (tgt := a) hx hb hd hk (fun _ => kk ls hl) (fun c1 => absurd (of_decide_eq_true hq) c1)⟩
      · exact ⟨rfl, fun kk => lv_icmp_lt (tgt := a) hx hb hd hk (fun c1 => absurd c1 (of_decide_eq_false hq)) (fun _ => kk ls hl)⟩
    | ge =>
      obtain ⟨u, v, S0, rfl, ⟨hq, rfl⟩ | ⟨hq, rfl⟩⟩ := mj_c2_inv (t := a) hst
      · exact ⟨rfl, fun kk => lv_icmp_ge (tgt := a) hx hb hd hk (fun _ => kk ls hl) (fun c1 => absurd (of_decide_eq_true hq) c1)⟩
      · exact ⟨rfl, fun kk => lv_icmp_ge (tgt := a) hx hb hd hk (fun c1 => absurd c1 (of_decide_eq_false hq)) (fun _ => kk ls hl)⟩
    | gt =>
      obtain ⟨u, v, S0, rfl, ⟨hq, rfl⟩ | ⟨hq, rfl⟩⟩ := mj_c2_inv (t := a) hst
      · exact ⟨rfl, fun kk => lv_icmp_gt (tgt := a) hx hb hd hk (fun _ => kk ls hl) (fun c1 => absurd (of_decide_eq_true hq) c1)⟩
      · exact ⟨rfl, fun kk => lv_icmp_gt (tgt := a) hx hb hd hk (fun c1 => absurd c1 (of_decide_eq_false hq)) (fun _ => kk ls hl)⟩
    | le =>
      obtain ⟨u, v, S0, rfl, ⟨hq, rfl⟩ | ⟨hq, rfl⟩⟩ := mj_c2_inv (t := a) hst
      · exact ⟨rfl, fun kk => lv_icmp_le (tgt := a) hx hb hd hk (fun _ => kk ls hl) (fun c1 => absurd (of_decide_eq_true hq) c1)⟩
      · exact ⟨rfl, fun kk => lv_icmp_le (tgt := a) hx hb hd hk (fun c1 => absurd c1 (of_decide_eq_false hq)) (fun _ => kk ls hl)⟩
  | if_acmp q o =>
    cases q with
    | eq =>
      obtain ⟨u, v, S0, rfl, ⟨hq, rfl⟩ | ⟨hq, rfl⟩⟩ := mj_ca_inv (t := a) hst
      · exact ⟨rfl, fun kk => lv_acmp_eq (tgt := a) (rx := u.map ad) (ry := v.map ad) hx hb hd hk (fun _ => kk ls hl) (fun c1 => absurd (congrArg (Option.map ad) (of_decide_eq_true hq)) c1)⟩
      · exact ⟨rfl, fun kk => lv_acmp_eq (tgt := a) (rx := u.map ad) (ry := v.map ad) hx hb hd hk (fun c1 => absurd (hadm u v c1) (of_decide_eq_false hq)) (fun _ => kk ls hl)⟩
    | ne =>
      obtain ⟨u, v, S0, rfl, ⟨hq, rfl⟩ | ⟨hq, rfl⟩⟩ := mj_ca_inv (t := a) hst
      · exact ⟨rfl, fun kk => lv_acmp_ne (tgt := a) (rx := u.map ad) (ry := v.map ad) hx hb hd hk (fun _ => kk ls hl) (fun c1 => absurd (hadm u v c1) (of_decide_eq_true hq))⟩
      · exact ⟨rfl, fun kk => lv_acmp_ne (tgt := a) (rx := u.map ad) (ry := v.map ad) hx hb hd hk (fun c1 => absurd (show ¬ u = v from fun q => c1 (congrArg (Option.map ad) q)) (of_decide_eq_false (p := ¬ u = v) hq)) (fun _ => kk ls hl)⟩
  | ifnull o =>
    obtain ⟨v, S0, rfl, ⟨hq, rfl⟩ | ⟨hq, rfl⟩⟩ := mj_cn_inv (t := a) (q := true) hst
    · cases v with
      | none => exact ⟨rfl, fun kk => lv_ifnullN (tgt := a) hx hb hd hk (kk ls hl)⟩
      | some v => cases hq
    · cases v with
      | none => exact absurd rfl hq
      | some v => exact ⟨rfl, fun kk => lv_ifnull hx hb hd (kk ls hl)⟩
  | ifnonnull o =>
    obtain ⟨v, S0, rfl, ⟨hq, rfl⟩ | ⟨hq, rfl⟩⟩ := mj_cn_inv (t := a) (q := false) hst
    · cases v with
      | none => cases hq
      | some v => exact ⟨rfl, fun kk => lv_ifnonnull (tgt := a) hx hb hd hk (kk ls hl)⟩
    · cases v with
      | none => exact ⟨rfl, fun kk => lv_ifnonnullN hx hb hd (kk ls hl)⟩
      | some v => exact absurd rfl hq
  | goto o =>
    obtain rfl := Option.some.inj hst
    exact ⟨rfl, fun kk => lv_goto (tgt := a) hx hb hd hk (kk ls hl)⟩
  | tableswitch df lo hi os =>
    obtain ⟨v, S0, rfl, h0, rfl⟩ := mj_sw_inv (o := mj_tbl df lo hi os) hst
    refine ⟨rfl, fun kk => ?_⟩
    have ht : (pc : Int) + mj_tbl df lo hi os v.toInt = ((((pc : Int) + mj_tbl df lo hi os v.toInt).toNat : Nat) : Int) := (Int.toNat_of_nonneg h0).symm
    by_cases hr : v.toInt < lo ∨ hi < v.toInt
    · refine lv_tableOut (tgt := ((pc : Int) + mj_tbl df lo hi os v.toInt).toNat) hx hb hd hr ?_ (kk ls hl)
      have e9 : mj_tbl df lo hi os v.toInt = df := if_pos hr
      rw [e9] at ht ⊢
      exact ht
    · have h1 : ¬ v.toInt < lo := fun q => hr (Or.inl q)
      have h2 : ¬ hi < v.toInt := fun q => hr (Or.inr q)
      have hk : os.size = (hi - lo + 1).toNat := hk
      have h3 : (v.toInt - lo).toNat < os.size := by omega
      have e9 : mj_tbl df lo hi os v.toInt = os[(v.toInt - lo).toNat] := by
        unfold mj_tbl
        rw [if_neg hr, Array.getElem?_eq_getElem h3]
        rfl
      refine lv_tableIn (off := os[(v.toInt - lo).toNat]) (tgt := ((pc : Int) + mj_tbl df lo hi os v.toInt).toNat) hx hb hd h1 h2 (Array.getElem?_eq_getElem h3) ?_ (kk ls hl)
      rw [← e9]
      exact ht
  | _ => cases hg
end STEP1
end
section
/-! writes, with the heap's size -/
section PUTS
variable {p : Program} {l : Launch} {e : Env} {R : Room} {s : State} {m : MethodId} {args : Array Value} {below : List Frame} {meth : Method} {c : Code} {H : Heap} {locs : List Loc} {cells slots : Nat} {Q : State → Prop}
variable {cc : ByteArray} {pc : Nat} {ls : Array Slot} {rest : List Value} {D : va_G} {cl : List vw_C} {A : Nat → Prop} {a : Nat} {tys : List (ClassId × FieldType)} {ws : va_W} {H0 : Heap}
/-- the field's link: a plain one, a nest mate's, a final one in the class's own constructor -/
def mj_lks (s : State) (args : Array Value) (meth : Method) (own : String) (index : Nat) (t : String × String × String × Bool) : Prop :=
  (t.2.2.2 = false ∧ (Cond.fieldLink own index t.1 t.2.1 t.2.2.1).before args s = true) ∨ (t.2.2.2 = false ∧ ∃ host, (Cond.fieldLinkNest own index t.1 t.2.1 t.2.2.1 host).before args s = true) ∨
  (t.2.2.2 = true ∧ meth.name = "<init>" ∧ t.1 = own ∧ (Cond.fieldLink own index t.1 t.2.1 t.2.2.1).before args s = true)
theorem mj_putA (hx : p.tables.exec = Jvm.exec) (hb : c.code = cc) {own C : String} {T : u_T} {N ci index : Nat} {Ts : List Cond} (hts : ∀ w ∈ Ts, w.before args s = true) (hin : ∀ w ∈ u_ws C T N, w ∈ Ts) (tf : Nat → FieldType) (hty : ∀ k, k < N → parseFieldDescriptor (T k).2.2.1 = some (tf k)) (hnm : ∀ a, a < N → ∀ b, b < N → a ≠ b → (T a).2.1 ≠ (T b).2.1) (hown : s.vm.findClass own = some m.cls) (hK : va_K D cl tys s) (hP : va_P D cl ws H) (hD : va_D A ws) (hS0 : va_S A H0 H locs) (q0 : Nat) {fs : List Value} (he : ws[q0]? = some (a, .inr (ci, fs))) (hc : cl[ci]? = some (C, T, N)) (k : Nat) (hk : k < N) (hlk : mj_lks s args meth own index (T k)) {v : Value} (hn : narrow (tf k) v = v) (hfit : fits (tf k) v = true) (hl : k < fs.length) (hdg : decode cc pc = .ok (.putfield index, 3))
    (kk : ∀ (H1 : Heap) (locs1 : List Loc), va_P D cl (ws.set q0 (a, .inr (ci, fs.set k v))) H1 → H1.size = H.size → va_S A H0 H1 locs1 → W p l e R s m args below meth c H1 locs1 cells slots Q (F0 m (pc + 3) ls rest)) : W p l e R s m args below meth c H locs cells slots Q (F0 m pc ls (v :: .ref a :: rest)) := by
  have hap := va_apart (own := own) hts hin tf hty hnm hK hc
  obtain ⟨r, h1, cell, g1, g2, g3, g4⟩ := hP q0 _ he
  obtain rfl : r = (C, T, N) := Option.some.inj (h1.symm.trans hc)
  obtain ⟨hsl, hfc, kC, hkC, hkind⟩ := hK.1 ci _ hc
  obtain ⟨cf, kf, fi, f, hi, hs⟩ := hsl k hk
  have hst := (u_facts hfc hkC (u_lays hts hin hk) hi).1
  have hlay := hts _ (hin _ (u_in_lay hk))
  have fin : ∀ H' : Heap, H'[a]? = some (cell.setSlot f.slot v) → H'.size = H.size → (∀ q, q ≠ a → H'[q]? = H[q]?) → W p l e R s m args below meth c H' (locs ++ [⟨a, f.slot⟩]) cells slots Q (F0 m (pc + 3) ls rest) := by
    intro H' e1 e2 e3
    rw [hs] at e1 ⊢
    exact kk H' _ (hP.set hD he ⟨_, hc, t_OB.to (V := updV (vp_V fs) k v) ⟨_, e1, g2, g3, t_set g4 hap hk v⟩ (fun j _ => vp_updV_set hl v j)⟩ e3) e2 (hS0.put e2 e3 (hD.2 q0 _ he))
  have hslot : f.slot < cell.slots.size := by rw [hs]; exact k2_hasslot (g4 k hk)
  unfold u_lay at hlay
  rcases hlk with ⟨hf, hl1⟩ | ⟨hf, host, hl1⟩ | ⟨hf, hnm1, hdecl, hl1⟩
  · rw [if_neg (by rw [hf]; decide)] at hlay
    have h6 := u_store hfc hkC hkind hlay hi (hty k hk) hn hfit
    exact W.putK hx hb (f := f) ⟨hown, hl1, ⟨_, _, _, hi⟩, hst⟩ (by rw [g2]; exact h6) g1 g3 hslot rfl rfl hdg fin
  · rw [if_neg (by rw [hf]; decide)] at hlay
    have h6 := u_store hfc hkC hkind hlay hi (hty k hk) hn hfit
    exact va_WputK hx hb (f := f) hown hl1 hi hst (by rw [g2]; exact h6) g1 g3 hslot rfl rfl hdg fin
  · rw [if_pos hf] at hlay
    have hcf : m.cls = cf := by
      obtain ⟨_, _, c', _, _, _, -, -, hf', -, -, -, hown2, -⟩ := Cond.laysFinal_spec hlay
      have e1 : c' = cf := by have := hi.symm.trans hf'; simp at this; exact this.1.symm
      rw [hdecl] at hown2
      rw [← e1]; exact Option.some.inj (hown.symm.trans hown2)
    have h6 := u_fits hfc hkC hkind (Or.inr hlay) hi (hty k hk) hn hfit
    exact W.putFinK hx hb hown hl1 hi hst hcf hnm1 (by rw [g2]; exact h6) g1 g3 hslot rfl rfl hdg fin
theorem mj_iast (hx : p.tables.exec = Jvm.exec) (hb : c.code = cc) (hK : va_K D cl tys s) (hP : va_P D cl ws H) (hD : va_D A ws) (hS : va_S A H0 H locs) (q0 t0 : Nat) {cA : ClassId} {n : Nat} {f : Nat → Int32} (ha : ws[q0]? = some (a, .inl (cA, n, .inl f))) (ht : tys[t0]? = some (cA, .int)) {i : Int32} {x : Int32} (hin : vp_in i n) (hdg : decode cc pc = .ok (.iastore, 1))
    (kk : ∀ (H1 : Heap) (locs1 : List Loc), va_P D cl (ws.set q0 (a, .inl (cA, n, .inl (upd f i.toNatClampNeg x)))) H1 → H1.size = H.size → va_S A H0 H1 locs1 → W p l e R s m args below meth c H1 locs1 cells slots Q (F0 m (pc + 1) ls rest)) : W p l e R s m args below meth c H locs cells slots Q (F0 m pc ls (.int x :: .int i :: .ref a :: rest)) := by
  refine W.iast hx hb (hP q0 _ ha) ((hK.2 t0 _ ht).1 n (fun j => .int (f j))) (fun q => by cases q) (by show ¬ (i < 0 ∨ (arrV _ _ _).slots.size ≤ _); rw [arrV_size]; exact hin) rfl rfl hdg fun H1 e1 e2 e3 => ?_
  refine kk H1 _ (hP.set hD ha ?_ e3) e2 (hS.put e2 e3 (hD.2 q0 _ ha))
  show H1[a]? = some (vp_cell _ _)
  rw [e1, vp_cell_i, vp_cell_i, arrV_store]
  congr 2
  funext q
  by_cases hq : q = i.toNatClampNeg <;> simp [updV, upd, hq]
theorem mj_zast (hx : p.tables.exec = Jvm.exec) (hb : c.code = cc) (hK : va_K D cl tys s) (hP : va_P D cl ws H) (hD : va_D A ws) (hS : va_S A H0 H locs) (q0 t0 : Nat) {cA : ClassId} {n : Nat} {f : Nat → Int32} (ha : ws[q0]? = some (a, .inl (cA, n, .inl f))) (ht : tys[t0]? = some (cA, .boolean)) {i : Int32} {x : Int32} (h01 : x = 0 ∨ x = 1) (hin : vp_in i n) (hdg : decode cc pc = .ok (.bastore, 1))
    (kk : ∀ (H1 : Heap) (locs1 : List Loc), va_P D cl (ws.set q0 (a, .inl (cA, n, .inl (upd f i.toNatClampNeg x)))) H1 → H1.size = H.size → va_S A H0 H1 locs1 → W p l e R s m args below meth c H1 locs1 cells slots Q (F0 m (pc + 1) ls rest)) : W p l e R s m args below meth c H locs cells slots Q (F0 m pc ls (.int x :: .int i :: .ref a :: rest)) := by
  refine W.zast hx hb (hP q0 _ ha) ((hK.2 t0 _ ht).1 n (fun j => .int (f j))) (fun q => by cases q) (by show ¬ (i < 0 ∨ (arrV _ _ _).slots.size ≤ _); rw [arrV_size]; exact hin) rfl rfl hdg fun H1 e1 e2 e3 => ?_
  refine kk H1 _ (hP.set hD ha ?_ e3) e2 (hS.put e2 e3 (hD.2 q0 _ ha))
  show H1[a]? = some (vp_cell _ _)
  have e9 : narrow .boolean (.int x) = .int x := by rcases h01 with rfl | rfl <;> decide
  rw [e1, e9, vp_cell_i, vp_cell_i, arrV_store]
  congr 2
  funext q
  by_cases hq : q = i.toNatClampNeg <;> simp [updV, upd, hq]
theorem mj_astq (hx : p.tables.exec = Jvm.exec) (hb : c.code = cc) (hK : va_K D cl tys s) (hP : va_P D cl ws H) (hD : va_D A ws) (hS : va_S A H0 H locs) (q0 t0 qk ci : Nat) {cA : ClassId} {r : vw_C} {n v : Nat} {vs : List Value} {f : Nat → Option Nat} (ha : ws[q0]? = some (a, .inl (cA, n, .inr (.inr (.inr (.inr f)))))) (ht : tys[t0]? = some (cA, .object r.1)) (hv : ws[qk]? = some (v, .inr (ci, vs))) (hc : cl[ci]? = some r) {i : Int32} (hin : vp_in i n) (hdg : decode cc pc = .ok (.aastore, 1))
    (kk : ∀ (H1 : Heap) (locs1 : List Loc), va_P D cl (ws.set q0 (a, .inl (cA, n, .inr (.inr (.inr (.inr (va_up f i.toNatClampNeg (some v)))))))) H1 → H1.size = H.size → va_S A H0 H1 locs1 → W p l e R s m args below meth c H1 locs1 cells slots Q (F0 m (pc + 1) ls rest)) : W p l e R s m args below meth c H locs cells slots Q (F0 m pc ls (.ref v :: .int i :: .ref a :: rest)) := by
  have hlt : i.toNatClampNeg < n := Nat.not_le.mp fun q => hin (Or.inr q)
  obtain ⟨r', hr', cellV, g1, g2, g3, -⟩ := hP qk _ hv
  have hcls := (hK.1 ci r hc).2
  obtain ⟨kA, comp, k1, k2, k3, -⟩ := (hK.2 t0 _ ht).2
  obtain rfl : comp = D.1 ci := Option.some.inj (k3.symm.trans hcls.1)
  obtain ⟨kC, hkC, -⟩ := hcls.2
  refine W.aast hx hb (hP q0 _ ha) (fun q h => by cases h) (fun h => by cases h) k1 k2 rfl hkC ⟨fun q => hin (Or.inl q), by show _ < (arrV _ _ _).slots.size; rw [arrV_size]; exact hlt⟩ g1 (fun q h => by rw [g3] at h; cases h) (by rw [g2]; exact hkC) (by rw [g2]; exact va_assign hcls) rfl rfl hdg fun H1 e1 e2 e3 => ?_
  refine kk H1 _ (hP.set hD ha ?_ e3) e2 (hS.put e2 e3 (hD.2 q0 _ ha))
  show H1[a]? = some (vp_cell _ _)
  rw [e1, vp_cell_q, vp_cell_q, arrV_store]
  congr 2
  funext q
  by_cases hq : q = i.toNatClampNeg <;> simp [updV, va_up, va_rf, hq]
theorem mj_astqN (hx : p.tables.exec = Jvm.exec) (hb : c.code = cc) (hK : va_K D cl tys s) (hP : va_P D cl ws H) (hD : va_D A ws) (hS : va_S A H0 H locs) (q0 t0 : Nat) {cA : ClassId} {C : String} {n : Nat} {f : Nat → Option Nat} (ha : ws[q0]? = some (a, .inl (cA, n, .inr (.inr (.inr (.inr f)))))) (ht : tys[t0]? = some (cA, .object C)) {i : Int32} (hin : vp_in i n) (hdg : decode cc pc = .ok (.aastore, 1))
    (kk : ∀ (H1 : Heap) (locs1 : List Loc), va_P D cl (ws.set q0 (a, .inl (cA, n, .inr (.inr (.inr (.inr (va_up f i.toNatClampNeg none))))))) H1 → H1.size = H.size → va_S A H0 H1 locs1 → W p l e R s m args below meth c H1 locs1 cells slots Q (F0 m (pc + 1) ls rest)) : W p l e R s m args below meth c H locs cells slots Q (F0 m pc ls (.null :: .int i :: .ref a :: rest)) := by
  refine va_WaastN (C := C) hx hb (hP q0 _ ha) ((hK.2 t0 _ ht).1 n (fun j => va_rf (f j))) (fun h => by cases h) (by show ¬ (i < 0 ∨ (arrV _ _ _).slots.size ≤ _); rw [arrV_size]; exact hin) rfl rfl hdg fun H1 e1 e2 e3 => ?_
  refine kk H1 _ (hP.set hD ha ?_ e3) e2 (hS.put e2 e3 (hD.2 q0 _ ha))
  show H1[a]? = some (vp_cell _ _)
  rw [e1, vp_cell_q, vp_cell_q, arrV_store]
  congr 2
  funext q
  by_cases hq : q = i.toNatClampNeg <;> simp [updV, va_up, va_rf, hq]
end PUTS
end
section
/-! instructions that read or write the heap -/
def mj_g2 (i : Instr) : Bool := match i with
  | .getfield _ => true
  | .putfield _ => true
  | .new _ => true
  | .newarray _ => true
  | .anewarray _ => true
  | .arraylength => true
  | .iaload => true
  | .iastore => true
  | .baload => true
  | .bastore => true
  | .aaload => true
  | .aastore => true
  | _ => false
/-- the script's cell -/
def mj_z (nX : Nat) (xs : Nat → Int32) : mj_C := (100, (List.range nX).map (fun j => Sum.inl (xs j)))
theorem mj_z_at {nX j : Nat} {xs : Nat → Int32} {v : mj_V} (h : (mj_z nX xs).2[j]? = some v) : j < nX ∧ v = .inl (xs j) := by
  unfold mj_z at h
  simp only [List.getElem?_map] at h
  cases hr : (List.range nX)[j]? with
  | none => rw [hr] at h; cases h
  | some w =>
    rw [hr] at h
    have hj : j < nX := by
      have := (List.getElem?_eq_some_iff.mp hr).1
      simpa using this
    rw [List.getElem?_range hj] at hr
    cases hr
    cases h
    exact ⟨hj, rfl⟩
theorem mj_map_set {ad : Nat → Nat} (vs : List mj_V) (k : Nat) (v : mj_V) : (vs.map (mj_cv ad)).set k (mj_cv ad v) = (vs.set k v).map (mj_cv ad) := (List.map_set).symm
section STEP2
variable {p : Program} {l : Launch} {e : Env} {R : Room} {s : State} {m : MethodId} {args : Array Value} {below : List Frame} {meth : Method} {c : Code} {H : Heap} {locs : List Loc} {cells slots : Nat} {Q : State → Prop}
variable {P : mj_P} {cl : List vw_C} {tyf : Nat → Nat → FieldType} {Ts Nw : List Cond} {ak : List Nat} {yn : Nat → MethodName} {cc : Nat → ByteArray} {rt : Nat → Option FieldType}
set_option maxHeartbeats 4000000 in
set_option maxRecDepth 100000 in
theorem mj_step2 {M pc nL b base nX : Nat} {xs : Nat → Int32} {D : va_G} {cA : Nat → ClassId} {i : mj_I} {L : mj_L} {S : List mj_V} {h : mj_H} {x : mj_N} {call : Nat → List mj_V → mj_H → Option mj_R} {ls : Array Slot} (hx : p.tables.exec = Jvm.exec) (hb : c.code = cc M) (hown : s.vm.findClass (yn M).cls = some m.cls) (hnm : (yn M).name = "<init>" → meth.name = "<init>") (hts : ∀ w ∈ Ts, w.before args s = true) (hNw : ∀ w ∈ Nw, va_Nw w s) (hK : va_K D cl (mj_ty cl cA ak) s) (hX : va_X b nX xs s s.heap) (hbl : b < base) (hbs : base ≤ s.heap.size)
    (hl : mj_LO (mj_ad b base) ls nL L) (hI : mj_In D cl cA b base (mj_z nX xs) h H) (hS : va_S (fun q : Nat => base ≤ q) s.heap H locs) (hok : mj_oki P cl tyf Ts Nw ak yn cc rt M pc i) (hst : mj_st P call i pc L S h = some x) (hg : mj_g2 i.1 = true) (hrc : cells + (x.2.2.2.length - h.length) ≤ R.cells) (hrs : slots + (mj_sz x.2.2.2 - mj_sz h) ≤ R.slots)
    (kk : ∀ (H' : Heap) (locs' : List Loc) (cells' slots' : Nat), mj_LO (mj_ad b base) ls nL x.2.1 → mj_In D cl cA b base (mj_z nX xs) x.2.2.2 H' → va_S (fun q : Nat => base ≤ q) s.heap H' locs' → cells' = cells + (x.2.2.2.length - h.length) → slots' = slots + (mj_sz x.2.2.2 - mj_sz h) → W p l e R s m args below meth c H' locs' cells' slots' Q (F0 m x.1 ls (x.2.2.1.map (mj_cv (mj_ad b base))))) :
    W p l e R s m args below meth c H locs cells slots Q (F0 m pc ls (S.map (mj_cv (mj_ad b base)))) := by
  obtain ⟨ins, len, ia, ib⟩ := i
  obtain ⟨hd, hk⟩ := hok
  obtain ⟨t, rfl, hHs, hP⟩ := hI
  have hD := mj_wo_D (mj_ad b base) cA base t
  have hA : ∀ q : Nat, s.heap.size ≤ q → (fun q : Nat => base ≤ q) q := fun q hq => Nat.le_trans hbs hq
  have hbA : ¬ (fun q : Nat => base ≤ q) b := Nat.not_le.mpr hbl
  have hbh : b < s.heap.size := Nat.lt_of_lt_of_le hbl hbs
  -- a handle whose tag isn't 100 is not the script's
  have hnz : ∀ (a tag : Nat) (vs : List mj_V), (mj_z nX xs :: t)[a]? = some (tag, vs) → tag ≠ 100 → ∃ k, a = k + 1 ∧ t[k]? = some (tag, vs) := by
    intro a tag vs ha hne
    cases a with
    | zero =>
      rw [List.getElem?_cons_zero] at ha
      exact absurd (congrArg Prod.fst (Option.some.inj ha)).symm hne
    | succ k => exact ⟨k, rfl, by rw [List.getElem?_cons_succ] at ha; exact ha⟩
  have hcell : ∀ (k tag : Nat) (vs : List mj_V), t[k]? = some (tag, vs) → (mj_wo (mj_ad b base) cA base t)[k]? = some (base + k, mj_ce (mj_ad b base) cA (tag, vs)) := by
    intro k tag vs hk
    rw [mj_wo_get, hk]
    rfl
  have hsetz : ∀ (k : Nat) (q : mj_C), (mj_z nX xs :: t).set (k + 1) q = mj_z nX xs :: t.set k q := fun k q => rfl
  cases ins with
  | getfield ix =>
    obtain ⟨a, v, S0, rfl, hgf, rfl⟩ := mj_get_inv (c := ia) (k := ib) hst
    obtain ⟨C, T, N, ⟨hc, h100, hin, hty, hne⟩, hbN, hlink⟩ := hk
    have h100 : ia < 100 := h100
    obtain ⟨vs, ha, hv⟩ := mj_gf_inv hgf
    obtain ⟨k, rfl, ht⟩ := hnz a ia vs ha (by omega)
    have he := hcell k ia vs ht
    have hce : mj_ce (mj_ad b base) cA (ia, vs) = .inr (ia, vs.map (mj_cv (mj_ad b base))) := if_pos h100
    rw [hce] at he
    have hv' : (vs.map (mj_cv (mj_ad b base)))[ib]? = some (mj_cv (mj_ad b base) v) := by rw [List.getElem?_map, hv]; rfl
    have k9 := kk H locs cells slots hl ⟨t, rfl, hHs, hP⟩ hS (by simp) (by simp)
    rcases hlink with hlk | ⟨host, hlk⟩
    · exact va_get (D := D) (own := (yn M).cls) hx hb hts hin hown hK hP k he hc ib hbN (hts _ hlk) (fun _ h9 => h9) hv' hd k9
    · exact va_getN (D := D) (own := (yn M).cls) hx hb hts hin hown hK hP k he hc ib hbN (va_Nw.use rfl (hNw _ hlk)) (fun _ h9 => h9) hv' hd k9
  | putfield ix =>
    obtain ⟨a, v, S0, h', rfl, hz, hpf, rfl⟩ := mj_put_inv (c := ia) (k := ib) (z := P.2.2.2.2.1) hst
    obtain ⟨C, T, N, ⟨hc, h100, hin, hty, hne⟩, hbN, hkind, hlink⟩ := hk
    have h100 : ia < 100 := h100
    obtain ⟨e1, e2⟩ := mj_pf_le hpf
    obtain ⟨vs, ha, hlen, -, rfl⟩ := mj_pf_inv hpf
    obtain ⟨k, rfl, ht⟩ := hnz a ia vs ha (by omega)
    have he := hcell k ia vs ht
    have hce : ∀ ws : List mj_V, mj_ce (mj_ad b base) cA (ia, ws) = .inr (ia, ws.map (mj_cv (mj_ad b base))) := fun ws => if_pos h100
    rw [hce] at he
    have hkt : k < t.length := (List.getElem?_eq_some_iff.mp ht).1
    have hfit : narrow (tyf ia ib) (mj_cv (mj_ad b base) v) = mj_cv (mj_ad b base) v ∧ fits (tyf ia ib) (mj_cv (mj_ad b base) v) = true := by
      rcases hkind with ⟨z0, ety⟩ | ⟨z0, ety⟩ | ⟨z0, ⟨E, ety⟩ | ⟨E, ety⟩⟩
      · rw [z0] at hz; rw [ety]
        rcases v with v | v
        · exact ⟨rfl, rfl⟩
        · simp [mj_zk] at hz
      · rw [z0] at hz; rw [ety]
        rcases v with v | v
        · have hv : v = 0 ∨ v = 1 := by simpa [mj_zk] using hz
          rcases hv with rfl | rfl
          · exact ⟨(by decide : narrow FieldType.boolean (.int 0) = .int 0), (by decide : fits FieldType.boolean (.int 0) = true)⟩
          · exact ⟨(by decide : narrow FieldType.boolean (.int 1) = .int 1), (by decide : fits FieldType.boolean (.int 1) = true)⟩
        · simp [mj_zk] at hz
      · rw [z0] at hz; rw [ety]
        rcases v with v | _ | v
        · simp [mj_zk] at hz
        · exact ⟨rfl, rfl⟩
        · exact ⟨rfl, rfl⟩
      · rw [z0] at hz; rw [ety]
        rcases v with v | _ | v
        · simp [mj_zk] at hz
        · exact ⟨rfl, rfl⟩
        · exact ⟨rfl, rfl⟩
    have k9 : ∀ (H1 : Heap) (locs1 : List Loc), va_P D cl ((mj_wo (mj_ad b base) cA base t).set k (base + k, .inr (ia, (vs.map (mj_cv (mj_ad b base))).set ib (mj_cv (mj_ad b base) v)))) H1 → H1.size = H.size → va_S (fun q : Nat => base ≤ q) s.heap H1 locs1 → W p l e R s m args below meth c H1 locs1 cells slots Q (F0 m (pc + 3) ls (S0.map (mj_cv (mj_ad b base)))) := by
      intro H1 locs1 hP1 hz1 hS1
      refine kk H1 locs1 cells slots hl ⟨t.set k (ia, vs.set ib v), rfl, by rw [hz1, hHs, List.length_set], ?_⟩ hS1 ?_ ?_
      · rw [← mj_wo_set, hce, ← mj_map_set]
        exact hP1
      · show cells = cells + (List.length ((mj_z nX xs :: t).set (k + 1) (ia, vs.set ib v)) - _)
        rw [e1]; simp
      · show slots = slots + (mj_sz ((mj_z nX xs :: t).set (k + 1) (ia, vs.set ib v)) - _)
        rw [e2]; simp
    have hl9 : ib < (vs.map (mj_cv (mj_ad b base))).length := by rw [List.length_map]; exact hlen
    have hlks : mj_lks s args meth (yn M).cls ix (T ib) := by
      rcases hlink with ⟨hfin, hlk | ⟨host, hlk⟩⟩ | ⟨hfin, hin1, hdecl, hlk⟩
      · exact Or.inl ⟨hfin, hts _ hlk⟩
      · exact Or.inr (Or.inl ⟨hfin, host, va_Nw.use rfl (hNw _ hlk)⟩)
      · exact Or.inr (Or.inr ⟨hfin, hnm hin1, hdecl, hts _ hlk⟩)
    exact mj_putA (D := D) (own := (yn M).cls) hx hb hts hin (tyf ia) hty hne hown hK hP hD hS k he hc ib hbN hlks hfit.1 hfit.2 hl9 hd k9
  | new ix =>
    obtain ⟨C, T, N, ⟨hc, h100, hin, hty, hne⟩, hcl, hinst, hini, hdl, hdf⟩ := hk
    obtain rfl := Option.some.inj hst
    have hsz : mj_sz ((mj_z nX xs :: t) ++ [(ia, P.2.2.2.1 ia)]) - mj_sz (mj_z nX xs :: t) = N := by rw [mj_sz_app, hdl]; omega
    have hln : ((mj_z nX xs :: t) ++ [(ia, P.2.2.2.1 ia)]).length - (mj_z nX xs :: t).length = 1 := by rw [List.length_append]; simp
    have hrc : cells + 1 ≤ R.cells := by rw [← hln]; exact hrc
    have hrs : slots + N ≤ R.slots := by rw [← hsz]; exact hrs
    have hKn := hK.1 ia _ hc
    refine W.newcK hx hb hown (hts _ hcl) (hts _ hinst) (hts _ hini) rfl hd hrc hrs hKn.2.1 rfl fun H1 kC hkC e1 z1 o1 => ?_
    have e9 := kk H1 locs (cells + 1) (slots + N) hl (mj_push ⟨t, rfl, hHs, hP⟩ ?_ z1 o1) (mj_S_push hS z1 o1) (by show cells + 1 = _; rw [hln]) (by show slots + N = _; rw [hsz])
    · have hh : mj_ad b base (mj_z nX xs :: t).length = H.size := by rw [hHs]; rfl
      rw [← hh]
      exact e9
    · rw [show mj_ce (mj_ad b base) cA (ia, P.2.2.2.1 ia) = .inr (ia, (P.2.2.2.1 ia).map (mj_cv (mj_ad b base))) from if_pos h100]
      exact ⟨_, hc, (u_born (tyf ia) hts hin hKn hkC e1 hty).to (hdf _)⟩
  | newarray at0 =>
    cases at0 with
    | int =>
      obtain ⟨n, S0, rfl, hn0, hn1, rfl⟩ := mj_mk_inv (t := 100) (n := 2) (v := .inl 0) hst
      have hsz : mj_sz ((mj_z nX xs :: t) ++ [(100, List.replicate n.toNatClampNeg (.inl 0))]) - mj_sz (mj_z nX xs :: t) = n.toNatClampNeg := by rw [mj_sz_app]; simp
      have hln : ((mj_z nX xs :: t) ++ [((100, List.replicate n.toNatClampNeg (.inl 0)) : mj_C)]).length - (mj_z nX xs :: t).length = 1 := by rw [List.length_append]; simp
      have hrc : cells + 1 ≤ R.cells := by rw [← hln]; exact hrc
      have hrs : slots + n.toNatClampNeg ≤ R.slots := by rw [← hsz]; exact hrs
      have hk : (Cond.arrayClass (newarray.typeOf .int)).before args s = true := hts _ hk.1
      refine va_newaK hx hb hk rfl hd rfl hn0 rfl ?_ hrc hrs rfl fun H1 cA' e1 z1 o1 hAr hNm => ?_
      · show n.toNatClampNeg * 4 ≤ 536870912
        omega
      have hcA : cA' = cA 0 := by
        have h2 : s.vm.findClass ("[" ++ (FieldType.int).toString) = some (cA 0) := (hK.2 0 _ rfl).2
        exact Option.some.inj (hNm.symm.trans h2)
      have e9 := kk H1 locs (cells + 1) (slots + n.toNatClampNeg) hl (mj_push ⟨t, rfl, hHs, hP⟩ ?_ z1 o1) (mj_S_push hS z1 o1) (by show cells + 1 = _; rw [hln]) (by show slots + _ = _; rw [hsz])
      · have hh : mj_ad b base (mj_z nX xs :: t).length = H.size := by rw [hHs]; rfl
        rw [← hh]
        exact e9
      · show H1[H.size]? = some (vp_cell _ _)
        rw [e1, hcA]
        congr 1
        show _ = arrV (cA 0) (List.replicate n.toNatClampNeg (Sum.inl 0 : mj_V)).length (fun j => .int (mj_int (List.replicate n.toNatClampNeg (Sum.inl 0 : mj_V))[j]?))
        rw [List.length_replicate]
        congr 1
        funext j
        rw [List.getElem?_replicate]
        by_cases hj : j < n.toNatClampNeg
        · rw [if_pos hj]; rfl
        · rw [if_neg hj]; rfl
    | boolean =>
      obtain ⟨n, S0, rfl, hn0, hn1, rfl⟩ := mj_mk_inv (t := 200) (n := 2) (v := .inl 0) hst
      have hsz : mj_sz ((mj_z nX xs :: t) ++ [(200, List.replicate n.toNatClampNeg (.inl 0))]) - mj_sz (mj_z nX xs :: t) = n.toNatClampNeg := by rw [mj_sz_app]; simp
      have hln : ((mj_z nX xs :: t) ++ [((200, List.replicate n.toNatClampNeg (.inl 0)) : mj_C)]).length - (mj_z nX xs :: t).length = 1 := by rw [List.length_append]; simp
      have hrc : cells + 1 ≤ R.cells := by rw [← hln]; exact hrc
      have hrs : slots + n.toNatClampNeg ≤ R.slots := by rw [← hsz]; exact hrs
      have hk : (Cond.arrayClass (newarray.typeOf .boolean)).before args s = true := hts _ hk.2
      refine va_newaK hx hb hk rfl hd rfl hn0 rfl ?_ hrc hrs rfl fun H1 cA' e1 z1 o1 hAr hNm => ?_
      · show n.toNatClampNeg * 1 ≤ 536870912
        omega
      have hcA : cA' = cA 100 := by
        have h2 : s.vm.findClass ("[" ++ (FieldType.boolean).toString) = some (cA 100) := (hK.2 1 _ rfl).2
        exact Option.some.inj (hNm.symm.trans h2)
      have e9 := kk H1 locs (cells + 1) (slots + n.toNatClampNeg) hl (mj_push ⟨t, rfl, hHs, hP⟩ ?_ z1 o1) (mj_S_push hS z1 o1) (by show cells + 1 = _; rw [hln]) (by show slots + _ = _; rw [hsz])
      · have hh : mj_ad b base (mj_z nX xs :: t).length = H.size := by rw [hHs]; rfl
        rw [← hh]
        exact e9
      · show H1[H.size]? = some (vp_cell _ _)
        rw [e1, hcA]
        congr 1
        show _ = arrV (cA 100) (List.replicate n.toNatClampNeg (Sum.inl 0 : mj_V)).length (fun j => .int (mj_int (List.replicate n.toNatClampNeg (Sum.inl 0 : mj_V))[j]?))
        rw [List.length_replicate]
        congr 1
        funext j
        rw [List.getElem?_replicate]
        by_cases hj : j < n.toNatClampNeg
        · rw [if_pos hj]; rfl
        · rw [if_neg hj]; rfl
    | _ => cases hst
  | anewarray ix =>
    obtain ⟨n, S0, rfl, hn0, hn1, rfl⟩ := mj_mk_inv (t := 101 + ia) (n := 3) (v := .inr none) hst
    obtain ⟨C, T, N, hc, hak, h99, hcl, hov⟩ := hk
    have h99 : ia < 99 := h99
    have hsz : mj_sz ((mj_z nX xs :: t) ++ [(101 + ia, List.replicate n.toNatClampNeg (.inr none))]) - mj_sz (mj_z nX xs :: t) = n.toNatClampNeg := by rw [mj_sz_app]; simp
    have hln : ((mj_z nX xs :: t) ++ [((101 + ia, List.replicate n.toNatClampNeg (.inr none)) : mj_C)]).length - (mj_z nX xs :: t).length = 1 := by rw [List.length_append]; simp
    have hrc : cells + 1 ≤ R.cells := by rw [← hln]; exact hrc
    have hrs : slots + n.toNatClampNeg ≤ R.slots := by rw [← hsz]; exact hrs
    refine W.anew hx hb hown (hts _ hcl) (va_AO.use (hNw _ hov)) rfl hd rfl hn0 (by omega) hrc hrs fun cA' kA comp f1 f2 f3 f4 => ?_
    generalize hH1 : H.push ({ cls := cA', slots := Array.replicate n.toNatClampNeg .null, vm := .none } : Cell) = H1
    have z1 : H1.size = H.size + 1 := by rw [← hH1, Array.size_push]
    have e1 : H1[H.size]? = some (arrV cA' n.toNatClampNeg (fun _ => .null)) := by rw [← hH1, Array.getElem?_push_size, ← arrV_new]
    have o1 : ∀ q : Nat, q < H.size → H1[q]? = H[q]? := fun q hq => by rw [← hH1, Array.getElem?_push, if_neg (Nat.ne_of_lt hq)]
    obtain ⟨t0, ht0⟩ := mj_ty_at (cA := cA) hak hc
    have hcA : cA' = cA (ia + 1) := by
      obtain ⟨_, _, -, -, -, h2⟩ := (hK.2 t0 _ ht0).2
      exact Option.some.inj (f1.symm.trans h2)
    have e9 := kk H1 locs (cells + 1) (slots + n.toNatClampNeg) hl (mj_push ⟨t, rfl, hHs, hP⟩ ?_ z1 o1) (mj_S_push hS z1 o1) (by show cells + 1 = _; rw [hln]) (by show slots + _ = _; rw [hsz])
    · have hh : mj_ad b base (mj_z nX xs :: t).length = H.size := by rw [hHs]; rfl
      rw [← hh]
      exact e9
    · rw [show mj_ce (mj_ad b base) cA (101 + ia, List.replicate n.toNatClampNeg (.inr none)) = .inl (cA (101 + ia - 100), (List.replicate n.toNatClampNeg (Sum.inr none : mj_V)).length, .inr (.inr (.inr (.inr (fun j => mj_ref (mj_ad b base) (List.replicate n.toNatClampNeg (Sum.inr none : mj_V))[j]?))))) from (if_neg (by show ¬ 101 + ia < 100; omega)).trans ((if_neg (by show ¬ 101 + ia = 100; omega)).trans (if_neg (by show ¬ 101 + ia = 200; omega)))]
      show H1[H.size]? = some (vp_cell _ _)
      rw [e1, hcA, vp_cell_q, List.length_replicate, show 101 + ia - 100 = ia + 1 by omega]
      congr 2
      funext j
      rw [List.getElem?_replicate]
      by_cases hj : j < n.toNatClampNeg
      · rw [if_pos hj]; rfl
      · rw [if_neg hj]; rfl
  | arraylength =>
    obtain ⟨a, n, S0, rfl, hln, rfl⟩ := mj_al_inv hst
    have k9 := kk H locs cells slots hl ⟨t, rfl, hHs, hP⟩ hS (by simp) (by simp)
    unfold mj_ln at hln
    cases ha : (mj_z nX xs :: t)[a]? with
    | none => rw [ha] at hln; cases hln
    | some q =>
      rw [ha] at hln
      obtain ⟨tag, vs⟩ := q
      by_cases h100 : tag = 100
      · subst h100
        have hn : vs.length = n := Option.some.inj hln
        subst hn
        cases a with
        | zero =>
          rw [List.getElem?_cons_zero] at ha
          have e2 : (mj_z nX xs).2 = vs := congrArg Prod.snd (Option.some.inj ha)
          have hlz : vs.length = nX := by rw [← e2]; simp [mj_z]
          rw [hlz] at k9
          exact va_slen hx hb hX hbh hbA hS hd k9
        | succ k =>
          rw [List.getElem?_cons_succ] at ha
          have he := hcell k 100 vs ha
          rw [show mj_ce (mj_ad b base) cA (100, vs) = .inl (cA 0, vs.length, .inl (fun j => mj_int vs[j]?)) from rfl] at he
          exact va_alen hx hb hK hP k 0 he rfl rfl hd k9
      · exact absurd ((if_neg h100).symm.trans hln) (fun q => by cases q)
  | iaload =>
    obtain ⟨j, a, v, S0, rfl, hj, hgf, rfl⟩ := mj_ald_inv hst
    have k9 := kk H locs cells slots hl ⟨t, rfl, hHs, hP⟩ hS (by simp) (by simp)
    obtain ⟨vs, ha, hv⟩ := mj_gf_inv hgf
    cases a with
    | zero =>
      rw [List.getElem?_cons_zero] at ha
      have hv2 : (mj_z nX xs).2[j.toNatClampNeg]? = some (.inl v) := by
        have e2 : (mj_z nX xs).2 = vs := congrArg Prod.snd (Option.some.inj ha)
        rw [e2]; exact hv
      obtain ⟨h1, h2⟩ := mj_z_at hv2
      cases h2
      exact va_sld hx hb hX hbh hbA hS (fun q => by rcases q with q | q; exact hj q; omega) hd k9
    | succ k =>
      rw [List.getElem?_cons_succ] at ha
      have he := hcell k 100 vs ha
      rw [show mj_ce (mj_ad b base) cA (100, vs) = .inl (cA 0, vs.length, .inl (fun j => mj_int vs[j]?)) from rfl] at he
      have hlt : j.toNatClampNeg < vs.length := (List.getElem?_eq_some_iff.mp hv).1
      refine va_iald hx hb hK hP k 0 he rfl (i := j) (fun q => by rcases q with q | q; exact hj q; omega) hd ?_
      rw [hv]
      exact k9
  | iastore =>
    obtain ⟨v, j, a, S0, h', rfl, hj, hpf, rfl⟩ := mj_ast_inv hst
    obtain ⟨e1, e2⟩ := mj_pf_le hpf
    obtain ⟨vs, ha, hlen, hane, rfl⟩ := mj_pf_inv hpf
    cases a with
    | zero => exact absurd rfl hane
    | succ k =>
      rw [List.getElem?_cons_succ] at ha
      have he := hcell k 100 vs ha
      rw [show mj_ce (mj_ad b base) cA (100, vs) = .inl (cA 0, vs.length, .inl (fun j => mj_int vs[j]?)) from rfl] at he
      refine mj_iast hx hb hK hP hD hS k 0 he rfl (i := j) (x := v) (fun q => by rcases q with q | q; exact hj q; omega) hd (fun H1 locs1 hP1 hz1 hS1 => ?_)
      refine kk H1 locs1 cells slots hl ⟨t.set k (100, vs.set j.toNatClampNeg (.inl v)), rfl, by rw [hz1, hHs, List.length_set], ?_⟩ hS1 ?_ ?_
      · rw [← mj_wo_set]
        have e9 : mj_ce (mj_ad b base) cA (100, vs.set j.toNatClampNeg (.inl v)) = .inl (cA 0, vs.length, .inl (upd (fun j => mj_int vs[j]?) j.toNatClampNeg v)) := by
          show (Sum.inl (cA 0, (vs.set j.toNatClampNeg (.inl v)).length, Sum.inl (fun q => mj_int (vs.set j.toNatClampNeg (.inl v))[q]?)) : va_E) = _
          rw [List.length_set]
          congr 4
          funext q
          rw [List.getElem?_set]
          unfold upd
          by_cases hq : j.toNatClampNeg = q
          · rw [if_pos hq, if_pos hlen, if_pos hq.symm]; rfl
          · rw [if_neg hq, if_neg (fun z => hq z.symm)]
        rw [e9]
        exact hP1
      · show cells = cells + (List.length ((mj_z nX xs :: t).set (k + 1) (100, vs.set j.toNatClampNeg (.inl v))) - _)
        rw [e1]; simp
      · show slots = slots + (mj_sz ((mj_z nX xs :: t).set (k + 1) (100, vs.set j.toNatClampNeg (.inl v))) - _)
        rw [e2]; simp
  | baload =>
    obtain ⟨j, a, v, S0, rfl, hj, hgf, rfl⟩ := mj_bld_inv hst
    have k9 := kk H locs cells slots hl ⟨t, rfl, hHs, hP⟩ hS (by simp) (by simp)
    obtain ⟨vs, ha, hv⟩ := mj_gf_inv hgf
    obtain ⟨k, rfl, ht⟩ := hnz a 200 vs ha (by omega)
    have he := hcell k 200 vs ht
    rw [show mj_ce (mj_ad b base) cA (200, vs) = .inl (cA 100, vs.length, .inl (fun j => mj_int vs[j]?)) from rfl] at he
    have hlt : j.toNatClampNeg < vs.length := (List.getElem?_eq_some_iff.mp hv).1
    refine va_zald hx hb hK hP k 1 he rfl (i := j) (fun q => by rcases q with q | q; exact hj q; omega) hd ?_
    rw [hv]
    exact k9
  | bastore =>
    obtain ⟨v, j, a, S0, h', rfl, hj, hv01, hpf, rfl⟩ := mj_bst_inv hst
    obtain ⟨e1, e2⟩ := mj_pf_le hpf
    obtain ⟨vs, ha, hlen, hane, rfl⟩ := mj_pf_inv hpf
    cases a with
    | zero => exact absurd rfl hane
    | succ k =>
      rw [List.getElem?_cons_succ] at ha
      have he := hcell k 200 vs ha
      rw [show mj_ce (mj_ad b base) cA (200, vs) = .inl (cA 100, vs.length, .inl (fun j => mj_int vs[j]?)) from rfl] at he
      refine mj_zast hx hb hK hP hD hS k 1 he rfl (i := j) (x := v) hv01 (fun q => by rcases q with q | q; exact hj q; omega) hd (fun H1 locs1 hP1 hz1 hS1 => ?_)
      refine kk H1 locs1 cells slots hl ⟨t.set k (200, vs.set j.toNatClampNeg (.inl v)), rfl, by rw [hz1, hHs, List.length_set], ?_⟩ hS1 ?_ ?_
      · rw [← mj_wo_set]
        have e9 : mj_ce (mj_ad b base) cA (200, vs.set j.toNatClampNeg (.inl v)) = .inl (cA 100, vs.length, .inl (upd (fun j => mj_int vs[j]?) j.toNatClampNeg v)) := by
          show (Sum.inl (cA 100, (vs.set j.toNatClampNeg (.inl v)).length, Sum.inl (fun q => mj_int (vs.set j.toNatClampNeg (.inl v))[q]?)) : va_E) = _
          rw [List.length_set]
          congr 4
          funext q
          rw [List.getElem?_set]
          unfold upd
          by_cases hq : j.toNatClampNeg = q
          · rw [if_pos hq, if_pos hlen, if_pos hq.symm]; rfl
          · rw [if_neg hq, if_neg (fun z => hq z.symm)]
        rw [e9]
        exact hP1
      · show cells = cells + (List.length ((mj_z nX xs :: t).set (k + 1) (200, vs.set j.toNatClampNeg (.inl v))) - _)
        rw [e1]; simp
      · show slots = slots + (mj_sz ((mj_z nX xs :: t).set (k + 1) (200, vs.set j.toNatClampNeg (.inl v))) - _)
        rw [e2]; simp
  | aaload =>
    obtain ⟨j, a, v, S0, rfl, hj, hgf, rfl⟩ := mj_rld_inv (c := ia) hst
    obtain ⟨q, hq, hak, h99⟩ := hk
    have h99 : ia < 99 := h99
    obtain ⟨t0, ht0⟩ := mj_ty_at (cA := cA) hak hq
    have k9 := kk H locs cells slots hl ⟨t, rfl, hHs, hP⟩ hS (by simp) (by simp)
    obtain ⟨vs, ha, hv⟩ := mj_gf_inv hgf
    obtain ⟨k, rfl, ht⟩ := hnz a (101 + ia) vs ha (by omega)
    have he := hcell k (101 + ia) vs ht
    rw [show mj_ce (mj_ad b base) cA (101 + ia, vs) = .inl (cA (101 + ia - 100), vs.length, .inr (.inr (.inr (.inr (fun j => mj_ref (mj_ad b base) vs[j]?))))) from (if_neg (by show ¬ 101 + ia < 100; omega)).trans ((if_neg (by show ¬ 101 + ia = 100; omega)).trans (if_neg (by show ¬ 101 + ia = 200; omega))), show 101 + ia - 100 = ia + 1 by omega] at he
    have hlt : j.toNatClampNeg < vs.length := (List.getElem?_eq_some_iff.mp hv).1
    refine va_aldq hx hb hK hP k t0 he ht0 (i := j) (fun q => by rcases q with q | q; exact hj q; omega) hd ?_
    rw [hv]
    exact k9
  | aastore =>
    obtain ⟨v, j, a, S0, h', rfl, hj, htv, hpf, rfl⟩ := mj_rst_inv (c := ia) hst
    obtain ⟨q, hq, hak, h99⟩ := hk
    have h99 : ia < 99 := h99
    have h100 : ia < 100 := by omega
    obtain ⟨t0, ht0⟩ := mj_ty_at (cA := cA) hak hq
    obtain ⟨e1, e2⟩ := mj_pf_le hpf
    obtain ⟨vs, ha, hlen, hane, rfl⟩ := mj_pf_inv hpf
    obtain ⟨k, rfl, ht⟩ := hnz a (101 + ia) vs ha (by omega)
    have he := hcell k (101 + ia) vs ht
    have hce : ∀ ws : List mj_V, mj_ce (mj_ad b base) cA (101 + ia, ws) = .inl (cA (ia + 1), ws.length, .inr (.inr (.inr (.inr (fun j => mj_ref (mj_ad b base) ws[j]?))))) := by
      intro ws
      rw [show mj_ce (mj_ad b base) cA (101 + ia, ws) = .inl (cA (101 + ia - 100), ws.length, .inr (.inr (.inr (.inr (fun j => mj_ref (mj_ad b base) ws[j]?))))) from (if_neg (by show ¬ 101 + ia < 100; omega)).trans ((if_neg (by show ¬ 101 + ia = 100; omega)).trans (if_neg (by show ¬ 101 + ia = 200; omega))), show 101 + ia - 100 = ia + 1 by omega]
    rw [hce] at he
    have k9 : ∀ (H1 : Heap) (locs1 : List Loc), va_P D cl ((mj_wo (mj_ad b base) cA base t).set k (base + k, .inl (cA (ia + 1), vs.length, .inr (.inr (.inr (.inr (va_up (fun j => mj_ref (mj_ad b base) vs[j]?) j.toNatClampNeg (v.map (mj_ad b base))))))))) H1 → H1.size = H.size → va_S (fun q : Nat => base ≤ q) s.heap H1 locs1 → W p l e R s m args below meth c H1 locs1 cells slots Q (F0 m (pc + 1) ls (S0.map (mj_cv (mj_ad b base)))) := by
      intro H1 locs1 hP1 hz1 hS1
      refine kk H1 locs1 cells slots hl ⟨t.set k (101 + ia, vs.set j.toNatClampNeg (.inr v)), rfl, by rw [hz1, hHs, List.length_set], ?_⟩ hS1 ?_ ?_
      · rw [← mj_wo_set]
        have e9 : mj_ce (mj_ad b base) cA (101 + ia, vs.set j.toNatClampNeg (.inr v)) = .inl (cA (ia + 1), vs.length, .inr (.inr (.inr (.inr (va_up (fun j => mj_ref (mj_ad b base) vs[j]?) j.toNatClampNeg (v.map (mj_ad b base))))))) := by
          rw [hce, List.length_set]
          congr 7
          funext q
          rw [List.getElem?_set]
          unfold va_up
          by_cases hq : j.toNatClampNeg = q
          · rw [if_pos hq, if_pos hlen, if_pos hq.symm]; rfl
          · rw [if_neg hq, if_neg (fun z => hq z.symm)]
        rw [e9]
        exact hP1
      · show cells = cells + (List.length ((mj_z nX xs :: t).set (k + 1) (101 + ia, vs.set j.toNatClampNeg (.inr v))) - _)
        rw [e1]; simp
      · show slots = slots + (mj_sz ((mj_z nX xs :: t).set (k + 1) (101 + ia, vs.set j.toNatClampNeg (.inr v))) - _)
        rw [e2]; simp
    have hin9 : vp_in j vs.length := fun q => by rcases q with q | q; exact hj q; omega
    cases v with
    | none => exact mj_astqN hx hb hK hP hD hS k t0 he ht0 hin9 hd k9
    | some w =>
      have htw := htv w rfl
      unfold mj_tg at htw
      cases hw : (mj_z nX xs :: t)[w]? with
      | none => rw [hw] at htw; cases htw
      | some qw =>
        rw [hw] at htw
        obtain ⟨tag, ws⟩ := qw
        have htag : tag = ia := by simpa using htw
        subst htag
        obtain ⟨kw, rfl, htkw⟩ := hnz w tag ws hw (by omega)
        have hew := hcell kw tag ws htkw
        rw [show mj_ce (mj_ad b base) cA (tag, ws) = .inr (tag, ws.map (mj_cv (mj_ad b base))) from if_pos h100] at hew
        exact mj_astq hx hb hK hP hD hS k t0 kw tag he ht0 hew hq hin9 hd k9
  | _ => cases hg
end STEP2
end
section
/-! the heap grows -/
set_option maxHeartbeats 4000000 in
set_option maxRecDepth 100000 in
theorem mj_st_le {P : mj_P} {call : Nat → List mj_V → mj_H → Option mj_R} (hc : ∀ (y : Nat) (as : List mj_V) (h : mj_H) (r : Option mj_V) (h' : mj_H), call y as h = some (r, h') → mj_le h h') {i : mj_I} {pc : Nat} {L : mj_L} {S : List mj_V} {h : mj_H} {x : mj_N} (hst : mj_st P call i pc L S h = some x) : mj_le h x.2.2.2 := by
  obtain ⟨ins, len, a, b⟩ := i
  have happ : ∀ q : mj_C, mj_le h (h ++ [q]) := fun q => ⟨by rw [List.length_append]; omega, by rw [mj_sz_app]; omega⟩
  cases ins with
  | iconst n => obtain rfl := Option.some.inj hst; exact mj_le.rf h
  | bipush n => obtain rfl := Option.some.inj hst; exact mj_le.rf h
  | sipush n => obtain rfl := Option.some.inj hst; exact mj_le.rf h
  | aconst_null => obtain rfl := Option.some.inj hst; exact mj_le.rf h
  | goto n => obtain rfl := Option.some.inj hst; exact mj_le.rf h
  | iload_n k => obtain ⟨v, hv, rfl⟩ := mj_li_inv (k := k.val) (n := 1) hst; exact mj_le.rf h
  | iload k => obtain ⟨v, hv, rfl⟩ := mj_li_inv (k := k) (n := 2) hst; exact mj_le.rf h
  | aload_n k => obtain ⟨v, hv, rfl⟩ := mj_la_inv (k := k.val) (n := 1) hst; exact mj_le.rf h
  | aload k => obtain ⟨v, hv, rfl⟩ := mj_la_inv (k := k) (n := 2) hst; exact mj_le.rf h
  | istore_n k => obtain ⟨v, S0, rfl, hn, rfl⟩ := mj_si_inv (k := k.val) (n := 1) hst; exact mj_le.rf h
  | istore k => obtain ⟨v, S0, rfl, hn, rfl⟩ := mj_si_inv (k := k) (n := 2) hst; exact mj_le.rf h
  | astore_n k => obtain ⟨v, S0, rfl, hn, rfl⟩ := mj_sa_inv (k := k.val) (n := 1) hst; exact mj_le.rf h
  | astore k => obtain ⟨v, S0, rfl, hn, rfl⟩ := mj_sa_inv (k := k) (n := 2) hst; exact mj_le.rf h
  | iinc k n =>
    have hst : (match L[k]? with
      | some (some (.inl x)) => mj_go (pc + 3) (L.set k (some (.inl (x + Int32.ofInt n)))) S h
      | _ => none) = some x := hst
    cases hv : L[k]? with
    | none => rw [hv] at hst; cases hst
    | some w =>
      rw [hv] at hst
      rcases w with _ | ⟨v | v⟩ <;> first | (cases hst; done) | skip
      obtain rfl := Option.some.inj hst
      exact mj_le.rf h
  | iadd => obtain ⟨u, v, S0, rfl, rfl⟩ := mj_b2_inv hst; exact mj_le.rf h
  | isub => obtain ⟨u, v, S0, rfl, rfl⟩ := mj_b2_inv hst; exact mj_le.rf h
  | imul => obtain ⟨u, v, S0, rfl, rfl⟩ := mj_b2_inv hst; exact mj_le.rf h
  | iand => obtain ⟨u, v, S0, rfl, rfl⟩ := mj_b2_inv hst; exact mj_le.rf h
  | ior => obtain ⟨u, v, S0, rfl, rfl⟩ := mj_b2_inv hst; exact mj_le.rf h
  | ixor => obtain ⟨u, v, S0, rfl, rfl⟩ := mj_b2_inv hst; exact mj_le.rf h
  | ishl => obtain ⟨u, v, S0, rfl, rfl⟩ := mj_b2_inv hst; exact mj_le.rf h
  | ishr => obtain ⟨u, v, S0, rfl, rfl⟩ := mj_b2_inv hst; exact mj_le.rf h
  | idiv => obtain ⟨u, v, S0, rfl, hne, rfl⟩ := mj_d2_inv hst; exact mj_le.rf h
  | irem => obtain ⟨u, v, S0, rfl, hne, rfl⟩ := mj_d2_inv hst; exact mj_le.rf h
  | dup =>
    rcases S with _ | ⟨v, S⟩ <;> first | (cases hst; done) | skip
    obtain rfl := Option.some.inj hst
    exact mj_le.rf h
  | pop =>
    rcases S with _ | ⟨v, S⟩ <;> first | (cases hst; done) | skip
    obtain rfl := Option.some.inj hst
    exact mj_le.rf h
  | dup_x1 =>
    rcases S with _ | ⟨v, _ | ⟨w, S⟩⟩ <;> first | (cases hst; done) | skip
    obtain rfl := Option.some.inj hst
    exact mj_le.rf h
  | dup2 =>
    rcases S with _ | ⟨v, _ | ⟨w, S⟩⟩ <;> first | (cases hst; done) | skip
    obtain rfl := Option.some.inj hst
    exact mj_le.rf h
  | ifCond q o => cases q <;> (obtain ⟨v, S0, rfl, ⟨hq, rfl⟩ | ⟨hq, rfl⟩⟩ := mj_c1_inv (t := a) hst <;> exact mj_le.rf h)
  | if_icmp q o => cases q <;> (obtain ⟨u, v, S0, rfl, ⟨hq, rfl⟩ | ⟨hq, rfl⟩⟩ := mj_c2_inv (t := a) hst <;> exact mj_le.rf h)
  | if_acmp q o => cases q <;> (obtain ⟨u, v, S0, rfl, ⟨hq, rfl⟩ | ⟨hq, rfl⟩⟩ := mj_ca_inv (t := a) hst <;> exact mj_le.rf h)
  | ifnull o => obtain ⟨v, S0, rfl, ⟨hq, rfl⟩ | ⟨hq, rfl⟩⟩ := mj_cn_inv (t := a) (q := true) hst <;> exact mj_le.rf h
  | ifnonnull o => obtain ⟨v, S0, rfl, ⟨hq, rfl⟩ | ⟨hq, rfl⟩⟩ := mj_cn_inv (t := a) (q := false) hst <;> exact mj_le.rf h
  | tableswitch df lo hi os => obtain ⟨v, S0, rfl, h0, rfl⟩ := mj_sw_inv (o := mj_tbl df lo hi os) hst; exact mj_le.rf h
  | getfield ix => obtain ⟨q, v, S0, rfl, hgf, rfl⟩ := mj_get_inv (c := a) (k := b) hst; exact mj_le.rf h
  | putfield ix =>
    obtain ⟨q, v, S0, h', rfl, hz, hpf, rfl⟩ := mj_put_inv (c := a) (k := b) (z := P.2.2.2.2.1) hst
    obtain ⟨e1, e2⟩ := mj_pf_le hpf
    exact ⟨Nat.le_of_eq e1.symm, Nat.le_of_eq e2.symm⟩
  | new ix => obtain rfl := Option.some.inj hst; exact happ _
  | newarray at0 =>
    cases at0 with
    | int => obtain ⟨n, S0, rfl, hn0, hn1, rfl⟩ := mj_mk_inv (t := 100) (n := 2) (v := .inl 0) hst; exact happ _
    | boolean => obtain ⟨n, S0, rfl, hn0, hn1, rfl⟩ := mj_mk_inv (t := 200) (n := 2) (v := .inl 0) hst; exact happ _
    | _ => cases hst
  | anewarray ix => obtain ⟨n, S0, rfl, hn0, hn1, rfl⟩ := mj_mk_inv (t := 101 + a) (n := 3) (v := .inr none) hst; exact happ _
  | arraylength => obtain ⟨q, n, S0, rfl, hln, rfl⟩ := mj_al_inv hst; exact mj_le.rf h
  | iaload => obtain ⟨j, q, v, S0, rfl, hj, hgf, rfl⟩ := mj_ald_inv hst; exact mj_le.rf h
  | baload => obtain ⟨j, q, v, S0, rfl, hj, hgf, rfl⟩ := mj_bld_inv hst; exact mj_le.rf h
  | bastore =>
    obtain ⟨v, j, q, S0, h', rfl, hj, hv01, hpf, rfl⟩ := mj_bst_inv hst
    obtain ⟨e1, e2⟩ := mj_pf_le hpf
    exact ⟨Nat.le_of_eq e1.symm, Nat.le_of_eq e2.symm⟩
  | aaload => obtain ⟨j, q, v, S0, rfl, hj, hgf, rfl⟩ := mj_rld_inv (c := a) hst; exact mj_le.rf h
  | iastore =>
    obtain ⟨v, j, q, S0, h', rfl, hj, hpf, rfl⟩ := mj_ast_inv hst
    obtain ⟨e1, e2⟩ := mj_pf_le hpf
    exact ⟨Nat.le_of_eq e1.symm, Nat.le_of_eq e2.symm⟩
  | aastore =>
    obtain ⟨v, j, q, S0, h', rfl, hj, htv, hpf, rfl⟩ := mj_rst_inv (c := a) hst
    obtain ⟨e1, e2⟩ := mj_pf_le hpf
    exact ⟨Nat.le_of_eq e1.symm, Nat.le_of_eq e2.symm⟩
  | invokestatic ix =>
    have hst : (if a = 9998 then mj_b3 (fun x y => if y < x then y else x) pc L S h else if a = 9997 then mj_b3 (fun x y => if x < y then y else x) pc L S h else mj_inv call a b pc L S h) = some x := hst
    by_cases h1 : a = 9998
    · rw [if_pos h1] at hst
      obtain ⟨u, v, S0, rfl, -, rfl⟩ := mj_b3_inv hst
      exact mj_le.rf h
    · rw [if_neg h1] at hst
      by_cases h2 : a = 9997
      · rw [if_pos h2] at hst
        obtain ⟨u, v, S0, rfl, -, rfl⟩ := mj_b3_inv hst
        exact mj_le.rf h
      · rw [if_neg h2] at hst
        obtain ⟨r, h', hn1, hn2, hcall, rfl⟩ := mj_inv_inv (y := a) (n := b) hst
        exact hc _ _ _ _ _ hcall
  | invokevirtual ix =>
    have hst : (if mj_rcv (P.2.2.2.2.2 a) (b - 1) S h = true then mj_inv call a b pc L S h else none) = some x := hst
    by_cases hrv : mj_rcv (P.2.2.2.2.2 a) (b - 1) S h = true
    · rw [if_pos hrv] at hst
      obtain ⟨r, h', hn1, hn2, hcall, rfl⟩ := mj_inv_inv (y := a) (n := b) hst
      exact hc _ _ _ _ _ hcall
    · rw [if_neg hrv] at hst; cases hst
  | invokespecial ix =>
    have hst : (if a = 9999 then mj_oin pc L S h else if mj_rcv (P.2.2.2.2.2 a) (b - 1) S h = true then mj_inv call a b pc L S h else none) = some x := hst
    by_cases ha : a = 9999
    · rw [if_pos ha] at hst
      rcases S with _ | ⟨v | _ | q, S⟩ <;> first | (cases hst; done) | skip
      by_cases h8 : S.length ≤ 8
      · have ex : (pc + 3, L, S, h) = x := Option.some.inj ((if_pos h8).symm.trans hst)
        subst ex
        exact mj_le.rf h
      · exact absurd ((if_neg h8).symm.trans hst) (fun q => by cases q)
    · rw [if_neg ha] at hst
      by_cases hrv : mj_rcv (P.2.2.2.2.2 a) (b - 1) S h = true
      · rw [if_pos hrv] at hst
        obtain ⟨r, h', hn1, hn2, hcall, rfl⟩ := mj_inv_inv (y := a) (n := b) hst
        exact hc _ _ _ _ _ hcall
      · rw [if_neg hrv] at hst; cases hst
  | _ => cases hst
theorem mj_rt_inv {rk : Nat} {i : Instr} {S : List mj_V} {h : mj_H} {r : mj_R} (e : mj_rt rk i S h = some r) : (∃ v, i = .ireturn ∧ S = [.inl v] ∧ (rk = 1 ∨ (rk = 2 ∧ (v = 0 ∨ v = 1))) ∧ r = (some (.inl v), h)) ∨ (∃ v, i = .areturn ∧ S = [.inr v] ∧ rk = 3 ∧ r = (some (.inr v), h)) ∨ (i = .return_ ∧ S = [] ∧ rk = 0 ∧ r = (none, h)) := by
  cases i with
  | ireturn =>
    rcases S with _ | ⟨v | v, _ | ⟨w, S⟩⟩ <;> first | (cases e; done) | skip
    by_cases hq : rk = 1 ∨ (rk = 2 ∧ (v = 0 ∨ v = 1))
    · exact Or.inl ⟨v, rfl, rfl, hq, (Option.some.inj ((if_pos hq).symm.trans e)).symm⟩
    · exact absurd ((if_neg hq).symm.trans e) (fun q => by cases q)
  | areturn =>
    rcases S with _ | ⟨v | v, _ | ⟨w, S⟩⟩ <;> first | (cases e; done) | skip
    by_cases hq : rk = 3
    · exact Or.inr (Or.inl ⟨v, rfl, rfl, hq, (Option.some.inj ((if_pos hq).symm.trans e)).symm⟩)
    · exact absurd ((if_neg hq).symm.trans e) (fun q => by cases q)
  | return_ =>
    rcases S with _ | ⟨w, S⟩ <;> first | (cases e; done) | skip
    by_cases hq : rk = 0
    · exact Or.inr (Or.inr ⟨rfl, rfl, hq, (Option.some.inj ((if_pos hq).symm.trans e)).symm⟩)
    · exact absurd ((if_neg hq).symm.trans e) (fun q => by cases q)
  | _ => cases e
theorem mj_it_le {P : mj_P} {call : Nat → List mj_V → mj_H → Option mj_R} (hc : ∀ (y : Nat) (as : List mj_V) (h : mj_H) (r : Option mj_V) (h' : mj_H), call y as h = some (r, h') → mj_le h h') {M : Nat} : ∀ (n : Nat) (x : mj_N) (r : mj_R), mj_it (mj_stp P call M) n x = some r → mj_le x.2.2.2 r.2 := by
  intro n
  induction n with
  | zero => intro x r e; cases e
  | succ n ih =>
    intro x r e
    simp only [mj_it] at e
    unfold mj_stp at e
    cases hi : P.1 M x.1 with
    | none => rw [hi] at e; cases e
    | some i =>
      rw [hi] at e
      by_cases hr : mj_ir i.1 = true
      · simp only [if_pos hr] at e
        cases hq : mj_rt (P.2.2.1 M) i.1 x.2.2.1 x.2.2.2 with
        | none => rw [hq] at e; cases e
        | some q =>
          rw [hq] at e
          have e : q = r := Option.some.inj e
          subst e
          rcases mj_rt_inv hq with ⟨v, -, -, -, rfl⟩ | ⟨v, -, -, -, rfl⟩ | ⟨-, -, -, rfl⟩ <;> exact mj_le.rf _
      · simp only [if_neg hr] at e
        cases hq : mj_st P call i x.1 x.2.1 x.2.2.1 x.2.2.2 with
        | none => rw [hq] at e; cases e
        | some y =>
          rw [hq] at e
          exact (mj_st_le hc hq).tr (ih y r e)
end
section
/-! calls, a method's whole walk, its contract -/
def mj_g3 (i : Instr) : Bool := match i with
  | .invokestatic _ => true
  | .invokevirtual _ => true
  | .invokespecial _ => true
  | _ => false
abbrev mj_rm (d : Nat) (h h' : mj_H) : Room := { frames := d, cells := h'.length - h.length, slots := mj_sz h' - mj_sz h, locals := 60 * d }
abbrev mj_ws (P : mj_P) (Ts : List Cond) (yn : Nat → MethodName) (cc : Nat → ByteArray) (rt : Nat → Option FieldType) (y : Nat) : List Cond := Cond.code (yn y) (cc y) (P.2.1 y) (rt y) :: Ts
/-- what is known of the calls -/
def mj_CK (l : Launch) (P : mj_P) (cl : List vw_C) (Ts Nw : List Cond) (ak : List Nat) (yn : Nat → MethodName) (cc : Nat → ByteArray) (rt : Nat → Option FieldType) (D : va_G) (cA : Nat → ClassId) (b base nX : Nat) (xs : Nat → Int32) (d : Nat) (call : Nat → List mj_V → mj_H → Option mj_R) : Prop :=
  ∀ (y : Nat) (as : List mj_V) (h : mj_H) (r : Option mj_V) (h' : mj_H), call y as h = some (r, h') → mj_le h h' ∧ (mj_okm P Ts yn cc rt y → as.length ≤ P.2.1 y →
    Met l (yn y) (mj_ws P Ts yn cc rt y) (mj_rm d h h') (mj_Pc D cl cA ak Nw b base nX xs (mj_z nX xs) as h) (mj_Qc D cl cA b base (mj_z nX xs) r h') (h'.length - h.length) (mj_sz h' - mj_sz h) (fun q : Nat => base ≤ q))
section STEP3
variable {p : Program} {l : Launch} {e : Env} {R : Room} {s : State} {m : MethodId} {args : Array Value} {below : List Frame} {meth : Method} {c : Code} {H : Heap} {locs : List Loc} {cells slots : Nat} {Q : State → Prop}
variable {P : mj_P} {cl : List vw_C} {tyf : Nat → Nat → FieldType} {Ts Nw : List Cond} {ak : List Nat} {yn : Nat → MethodName} {cc : Nat → ByteArray} {rt : Nat → Option FieldType}
set_option maxHeartbeats 4000000 in
set_option maxRecDepth 100000 in
theorem mj_step3 {M pc nL b base nX d : Nat} {xs : Nat → Int32} {D : va_G} {cA : Nat → ClassId} {i : mj_I} {L : mj_L} {S : List mj_V} {h : mj_H} {x : mj_N} {call : Nat → List mj_V → mj_H → Option mj_R} {ls : Array Slot} (hx : p.tables.exec = Jvm.exec) (hb : c.code = cc M) (hml : c.maxLocals = nL) (hown : s.vm.findClass (yn M).cls = some m.cls) (hts : ∀ w ∈ Ts, w.before args s = true) (hgd : ∀ w ∈ Ts, goodWord w = true) (hnf : mj_nwf Nw) (hNw : ∀ w ∈ Nw, va_Nw w s) (hK : va_K D cl (mj_ty cl cA ak) s) (hX : va_X b nX xs s s.heap) (hbl : b < base) (hbs : base ≤ s.heap.size)
    (hCK : mj_CK l P cl Ts Nw ak yn cc rt D cA b base nX xs d call) (hfr : d + 1 ≤ R.frames) (hlo : 60 * (d + 1) ≤ R.locals)
    (hl : mj_LO (mj_ad b base) ls nL L) (hI : mj_In D cl cA b base (mj_z nX xs) h H) (hS : va_S (fun q : Nat => base ≤ q) s.heap H locs) (hok : mj_oki P cl tyf Ts Nw ak yn cc rt M pc i) (hst : mj_st P call i pc L S h = some x) (hg : mj_g3 i.1 = true) (hrc : cells + (x.2.2.2.length - h.length) ≤ R.cells) (hrs : slots + (mj_sz x.2.2.2 - mj_sz h) ≤ R.slots)
    (kk : ∀ (H' : Heap) (locs' : List Loc) (cells' slots' : Nat), mj_LO (mj_ad b base) ls nL x.2.1 → mj_In D cl cA b base (mj_z nX xs) x.2.2.2 H' → va_S (fun q : Nat => base ≤ q) s.heap H' locs' → cells' = cells + (x.2.2.2.length - h.length) → slots' = slots + (mj_sz x.2.2.2 - mj_sz h) → W p l e R s m args below meth c H' locs' cells' slots' Q (F0 m x.1 ls (x.2.2.1.map (mj_cv (mj_ad b base))))) :
    W p l e R s m args below meth c H locs cells slots Q (F0 m pc ls (S.map (mj_cv (mj_ad b base)))) := by
  obtain ⟨ins, len, y, n⟩ := i
  obtain ⟨hd, hk⟩ := hok
  have hG : ∀ y', mj_okm P Ts yn cc rt y' → GoodIn Ts (mj_ws P Ts yn cc rt y') := by
    intro y' hm w hw
    have hw : w ∈ Ts := by
      rcases List.mem_cons.mp hw with rfl | h1
      · exact hm.2.1
      · exact h1
    exact ⟨hw, good_of_word (hgd w hw)⟩
  have hF : CallFix p m c (cc M) nL s args Ts (yn M).cls := ⟨hx, hb, hml, hown, hts⟩
  have hroom : ∀ y', mj_okm P Ts yn cc rt y' → ∀ h' : mj_H, (mj_rm d h h').frames + 1 ≤ R.frames ∧ 8 + (P.2.1 y' + 11) + (mj_rm d h h').locals ≤ R.locals := by
    intro y' hm h'
    refine ⟨hfr, ?_⟩
    have := hm.2.2.1
    show 8 + (P.2.1 y' + 11) + 60 * d ≤ R.locals
    omega
  -- the state before a call is the callee's start
  have hpre : ∀ (as : List mj_V) (U : State), U.heap = H → s.WarmedH U.vm → mj_Pc D cl cA ak Nw b base nX xs (mj_z nX xs) as h (as.map (mj_cv (mj_ad b base))).toArray U := by
    intro as U hU hW
    refine ⟨rfl, by rw [hU]; exact hI, va_K.moved hW.alike hK, mj_nw_warm hnf hW hNw, ?_⟩
    have hbh : b < s.heap.size := Nat.lt_of_lt_of_le hbl hbs
    exact va_X.moved hW.alike (va_X.kept hX (by rw [hU]; exact hS.2.1 b hbh (Nat.not_le.mpr hbl)))
  have hcat : ∀ (S' : List mj_V), S'.length ≤ 8 → ((S'.map (mj_cv (mj_ad b base))).map fun v => v.category).sum ≤ 8 := by
    intro S' hS'
    rw [mj_cat_sum]; exact hS'
  -- behind a call
  have hgo : ∀ (r : Option mj_V) (h' : mj_H) (a9 : Array Value), x = (pc + 3, L, r.toList ++ S.drop n, h') → 
      va_Run p l e R s m args below meth c H locs cells slots (h'.length - h.length) (mj_sz h' - mj_sz h) (F0 m pc ls (S.map (mj_cv (mj_ad b base)))) ((S.drop n).map (mj_cv (mj_ad b base))) (mj_Qc D cl cA b base (mj_z nX xs) r h' a9) (fun q : Nat => base ≤ q) → 
      W p l e R s m args below meth c H locs cells slots Q (F0 m pc ls (S.map (mj_cv (mj_ad b base)))) := by
    intro r h' a9 ex hr
    subst ex
    refine mj_callk hr hS (fun H1 locs1 hI1 hS1 => ?_)
    have k9 := kk H1 locs1 _ _ hl hI1 hS1 rfl rfl
    have es : (r.toList ++ S.drop n).map (mj_cv (mj_ad b base)) = (r.map (mj_cv (mj_ad b base))).toList ++ (S.drop n).map (mj_cv (mj_ad b base)) := by
      cases r <;> simp
    have k9 : W p l e R s m args below meth c H1 locs1 (cells + (h'.length - h.length)) (slots + (mj_sz h' - mj_sz h)) Q (F0 m (pc + 3) ls ((r.toList ++ S.drop n).map (mj_cv (mj_ad b base)))) := k9
    rw [es] at k9
    exact k9
  cases ins with
  | invokestatic ix =>
    have hst : (if y = 9998 then mj_b3 (fun x y => if y < x then y else x) pc L S h else if y = 9997 then mj_b3 (fun x y => if x < y then y else x) pc L S h else mj_inv call y n pc L S h) = some x := hst
    rcases hk with ⟨h1, hlk, hsc, hin1, hcd⟩ | ⟨h1, hlk, hsc, hin1, hcd⟩ | ⟨h1, h2, hk⟩
    · have h1 : y = 9998 := h1
      rw [if_pos h1] at hst
      obtain ⟨u, v, S0, rfl, h8, rfl⟩ := mj_b3_inv hst
      have hc8 := hcat S0 h8
      refine va_mmin hx hb (by rw [hml]; exact hl.1.1.symm) hown (hts _ hlk) (hts _ hsc) (hts _ hin1) (hts _ hcd) (by omega) (by omega) (by omega) (by omega) hd ?_
      exact kk H locs cells slots hl hI hS (by simp) (by simp)
    · have h1 : y = 9997 := h1
      rw [if_neg (by omega), if_pos h1] at hst
      obtain ⟨u, v, S0, rfl, h8, rfl⟩ := mj_b3_inv hst
      have hc8 := hcat S0 h8
      refine va_mmax hx hb (by rw [hml]; exact hl.1.1.symm) hown (hts _ hlk) (hts _ hsc) (hts _ hin1) (hts _ hcd) (by omega) (by omega) (by omega) (by omega) hd ?_
      exact kk H locs cells slots hl hI hS (by simp) (by simp)
    rw [if_neg h1, if_neg h2] at hst
    obtain ⟨r, h', hn1, hn2, hcall, ex⟩ := mj_inv_inv (y := y) (n := n) hst
    obtain ⟨⟨hm, hnl, hini, hcls, hlink⟩, hstc, hpar⟩ := hk
    have hm : mj_okm P Ts yn cc rt y := hm
    have hnl : n ≤ P.2.1 y := hnl
    have hrc : cells + (h'.length - h.length) ≤ R.cells := by rw [ex] at hrc; exact hrc
    have hrs : slots + (mj_sz h' - mj_sz h) ≤ R.slots := by rw [ex] at hrs; exact hrs
    have hlt : ((S.take n).reverse).length = n := by rw [List.length_reverse, List.length_take]; omega
    have hM := (hCK y _ h r h' hcall).2 hm (by rw [hlt]; exact hnl)
    have hst0 : S.map (mj_cv (mj_ad b base)) = (((S.take n).reverse).map (mj_cv (mj_ad b base))).reverse ++ (S.drop n).map (mj_cv (mj_ad b base)) := by
      rw [← List.map_reverse, List.reverse_reverse, ← List.map_append, List.take_append_drop]
    refine hgo r h' (((S.take n).reverse).map (mj_cv (mj_ad b base))).toArray ex ?_
    rcases hlink with hlk | ⟨host, hlk⟩
    · exact va_runS (g := F0 m pc ls (S.map (mj_cv (mj_ad b base)))) hF hM ⟨callB_of n hts (hG y hm) rfl rfl rfl (hts _ hini) (hts _ hlk) ⟨hcls.1, hcls.2, hpar⟩ (hroom y hm h'), hts _ hstc⟩ ⟨mj_blind hnf, hpre _⟩ rfl (by rw [List.length_map]; exact hlt) hl.1.1 hst0 (lv_room (hcat _ (by rw [List.length_drop]; omega))) hd ⟨hrc, hrs⟩
    · exact va_runSN (g := F0 m pc ls (S.map (mj_cv (mj_ad b base)))) hF hM ⟨va_cnB n hts (hG y hm) rfl rfl rfl (hNw _ hlk) (hts _ hini) ⟨hcls.1, hcls.2, hpar⟩ (hroom y hm h'), hts _ hstc, trivial⟩ ⟨mj_blind hnf, hpre _⟩ rfl (by rw [List.length_map]; exact hlt) hl.1.1 hst0 (lv_room (hcat _ (by rw [List.length_drop]; omega))) hd ⟨hrc, hrs⟩
  | invokevirtual ix =>
    have hst : (if mj_rcv (P.2.2.2.2.2 y) (n - 1) S h = true then mj_inv call y n pc L S h else none) = some x := hst
    obtain ⟨⟨hm, hnl, hini, hcls, hlink⟩, hn0, hinst, hsel, hpar, h100, T, N, hcl⟩ := hk
    have hn0 : 1 ≤ n := hn0
    have h100 : P.2.2.2.2.2 y < 100 := h100
    have hm : mj_okm P Ts yn cc rt y := hm
    have hnl : n ≤ P.2.1 y := hnl
    by_cases hrv : mj_rcv (P.2.2.2.2.2 y) (n - 1) S h = true
    · rw [if_pos hrv] at hst
      obtain ⟨r, h', hn1, hn2, hcall, ex⟩ := mj_inv_inv (y := y) (n := n) hst
      obtain ⟨a, vs, hsa, hha⟩ := mj_rcv_inv hrv
      obtain ⟨n, rfl⟩ : ∃ k, n = k + 1 := ⟨n - 1, by omega⟩
      rw [Nat.add_sub_cancel] at hsa
      have hpar : (parseMethodDescriptor (yn y).desc).map (fun d => d.parameters.length) = some n := hpar
      have hrc : cells + (h'.length - h.length) ≤ R.cells := by rw [ex] at hrc; exact hrc
      have hrs : slots + (mj_sz h' - mj_sz h) ≤ R.slots := by rw [ex] at hrs; exact hrs
      have htk := mj_take hsa
      have has : (S.take (n + 1)).reverse = .inr (some a) :: (S.take n).reverse := by rw [htk]; simp
      rw [has] at hcall
      have hlt : ((S.take n).reverse).length = n := by rw [List.length_reverse, List.length_take]; omega
      have hM := (hCK y _ h r h' hcall).2 hm (by rw [List.length_cons, hlt]; exact hnl)
      have hst0 : S.map (mj_cv (mj_ad b base)) = (((S.take n).reverse).map (mj_cv (mj_ad b base))).reverse ++ .ref (mj_ad b base a) :: (S.drop (n + 1)).map (mj_cv (mj_ad b base)) := by
        rw [← List.map_reverse, List.reverse_reverse]
        conv => lhs; rw [mj_cut hsa]
        rw [List.map_append]
        rfl
      obtain ⟨t, rfl, hHs, hP⟩ := id hI
      have hrec : ∃ cell : Cell, H[mj_ad b base a]? = some cell ∧ cell.vm.isStatics = false ∧ s.vm.findClass (yn y).cls = some cell.cls := by
        cases a with
        | zero =>
          rw [List.getElem?_cons_zero] at hha
          have e9 : (100 : Nat) = P.2.2.2.2.2 y := congrArg Prod.fst (Option.some.inj hha)
          omega
        | succ k =>
          have he := mj_at (ad := mj_ad b base) (cA := cA) (base := base) hha
          rw [show mj_ce (mj_ad b base) cA (P.2.2.2.2.2 y, vs) = .inr (P.2.2.2.2.2 y, vs.map (mj_cv (mj_ad b base))) from if_pos h100] at he
          exact va_recv hK hP hcl he
      refine hgo r h' (Value.ref (mj_ad b base a) :: ((S.take n).reverse).map (mj_cv (mj_ad b base))).toArray ex ?_
      rcases hlink with hlk | ⟨host, hlk⟩
      · exact va_runV (g := F0 m pc ls (S.map (mj_cv (mj_ad b base)))) hF hM ⟨callB_of n hts (hG y hm) rfl rfl rfl (hts _ hini) (hts _ hlk) ⟨hcls.1, hcls.2, hpar⟩ (hroom y hm h'), hts _ hinst, hts _ hsel⟩ ⟨mj_blind hnf, hrec, hpre _⟩ rfl (by rw [List.length_map]; exact hlt) hl.1.1 hst0 (lv_room (hcat _ (by rw [List.length_drop]; omega))) hd ⟨hrc, hrs⟩
      · exact va_runVN (g := F0 m pc ls (S.map (mj_cv (mj_ad b base)))) hF hM ⟨va_cnB n hts (hG y hm) rfl rfl rfl (hNw _ hlk) (hts _ hini) ⟨hcls.1, hcls.2, hpar⟩ (hroom y hm h'), hts _ hinst, hts _ hsel⟩ ⟨mj_blind hnf, hrec, hpre _⟩ rfl (by rw [List.length_map]; exact hlt) hl.1.1 hst0 (lv_room (hcat _ (by rw [List.length_drop]; omega))) hd ⟨hrc, hrs⟩
    · rw [if_neg hrv] at hst; cases hst
  | invokespecial ix =>
    rcases hk with ⟨hy, hlk, hin1, hcd⟩ | ⟨hy, ⟨hm, hnl, hini, hcls, hlink⟩, hn0, hinst, hnm, hrt0, hpar, h100⟩
    · have hy : y = 9999 := hy
      subst hy
      rcases S with _ | ⟨v | _ | a, S⟩ <;> first | (cases hst; done) | skip
      by_cases h8 : S.length ≤ 8
      · have ex : (pc + 3, L, S, h) = x := Option.some.inj ((if_pos h8).symm.trans hst)
        subst ex
        refine W.objInit hx hb hown (hts _ hlk) (hts _ hin1) (hts _ hcd) rfl (by rw [hml]; exact hl.1.1) rfl hd (by omega) ?_ ?_
        · have h9 := lv_room (m := m) (pc := pc) (ls := ls) (rest := ((.inr (some a) :: S : List mj_V).map (mj_cv (mj_ad b base)))) (hcat S h8)
          have h10 : 60 ≤ R.locals := by omega
          show 2 * _ + ((S.map (mj_cv (mj_ad b base))).map fun v => v.category).sum + 12 ≤ R.locals
          omega
        · exact kk H locs cells slots hl hI hS (by simp) (by simp)
      · exact absurd ((if_neg h8).symm.trans hst) (fun q => by cases q)
    · have hst : (if y = 9999 then mj_oin pc L S h else if mj_rcv (P.2.2.2.2.2 y) (n - 1) S h = true then mj_inv call y n pc L S h else none) = some x := hst
      rw [if_neg hy] at hst
      by_cases hrv : mj_rcv (P.2.2.2.2.2 y) (n - 1) S h = true
      · rw [if_pos hrv] at hst
        obtain ⟨r, h', hn1, hn2, hcall, ex⟩ := mj_inv_inv (y := y) (n := n) hst
        obtain ⟨a, vs, hsa, hha⟩ := mj_rcv_inv hrv
        obtain ⟨n, rfl⟩ : ∃ k, n = k + 1 := ⟨n - 1, by have : 1 ≤ n := hn0; omega⟩
        rw [Nat.add_sub_cancel] at hsa
        have hpar : (parseMethodDescriptor (yn y).desc).map (fun d => d.parameters.length) = some n := hpar
        have hrc : cells + (h'.length - h.length) ≤ R.cells := by rw [ex] at hrc; exact hrc
        have hrs : slots + (mj_sz h' - mj_sz h) ≤ R.slots := by rw [ex] at hrs; exact hrs
        have htk := mj_take hsa
        have has : (S.take (n + 1)).reverse = .inr (some a) :: (S.take n).reverse := by rw [htk]; simp
        rw [has] at hcall
        have hlt : ((S.take n).reverse).length = n := by rw [List.length_reverse, List.length_take]; omega
        have hM := (hCK y _ h r h' hcall).2 hm (by rw [List.length_cons, hlt]; exact hnl)
        have hrt0 : rt y = none := hrt0
        unfold mj_ws at hM
        have hGy := hG y hm
        unfold mj_ws at hGy
        rw [hrt0] at hM hGy
        have hst0 : S.map (mj_cv (mj_ad b base)) = (((S.take n).reverse).map (mj_cv (mj_ad b base))).reverse ++ .ref (mj_ad b base a) :: (S.drop (n + 1)).map (mj_cv (mj_ad b base)) := by
          rw [← List.map_reverse, List.reverse_reverse]
          conv => lhs; rw [mj_cut hsa]
          rw [List.map_append]
          rfl
        refine hgo r h' (Value.ref (mj_ad b base a) :: ((S.take n).reverse).map (mj_cv (mj_ad b base))).toArray ex ?_
        rcases hlink with hlk | ⟨host, hlk⟩
        · exact va_runI (g := F0 m pc ls (S.map (mj_cv (mj_ad b base)))) hF hM ⟨callB_of n hts hGy rfl rfl rfl (hts _ hini) (hts _ hlk) ⟨hcls.1, hcls.2, hpar⟩ (hroom y hm h'), hnm, hts _ hinst⟩ ⟨mj_blind hnf, hpre (.inr (some a) :: (S.take n).reverse)⟩ rfl (by rw [List.length_map]; exact hlt) hl.1.1 hst0 (lv_room (hcat _ (by rw [List.length_drop]; omega))) hd ⟨hrc, hrs⟩
        · exact va_runIN (g := F0 m pc ls (S.map (mj_cv (mj_ad b base)))) hF hM ⟨va_cnB n hts hGy rfl rfl rfl (hNw _ hlk) (hts _ hini) ⟨hcls.1, hcls.2, hpar⟩ (hroom y hm h'), hnm, hts _ hinst⟩ ⟨mj_blind hnf, hpre (.inr (some a) :: (S.take n).reverse)⟩ rfl (by rw [List.length_map]; exact hlt) hl.1.1 hst0 (lv_room (hcat _ (by rw [List.length_drop]; omega))) hd ⟨hrc, hrs⟩
      · rw [if_neg hrv] at hst; cases hst
  | _ => cases hg
end STEP3
end
section
/-- the program as the tables have it -/
def mj_OK (P : mj_P) (cl : List vw_C) (tyf : Nat → Nat → FieldType) (Ts Nw : List Cond) (ak : List Nat) (yn : Nat → MethodName) (cc : Nat → ByteArray) (rt : Nat → Option FieldType) : Prop :=
  (∀ M pc i, P.1 M pc = some i → mj_oki P cl tyf Ts Nw ak yn cc rt M pc i) ∧ (∀ w ∈ Ts, goodWord w = true) ∧ mj_nwf Nw
theorem mj_cover {P : mj_P} {call : Nat → List mj_V → mj_H → Option mj_R} {i : mj_I} {pc : Nat} {L : mj_L} {S : List mj_V} {h : mj_H} {x : mj_N} (hst : mj_st P call i pc L S h = some x) : mj_g1 i.1 = true ∨ mj_g2 i.1 = true ∨ mj_g3 i.1 = true := by
  obtain ⟨ins, len, a, b⟩ := i
  cases ins <;> first | exact Or.inl rfl | exact Or.inr (Or.inl rfl) | exact Or.inr (Or.inr rfl) | (cases hst; done)
section WALK
variable {p : Program} {l : Launch} {e : Env} {R : Room} {s : State} {m : MethodId} {args : Array Value} {below : List Frame} {meth : Method} {c : Code} {Q : State → Prop}
variable {P : mj_P} {cl : List vw_C} {tyf : Nat → Nat → FieldType} {Ts Nw : List Cond} {ak : List Nat} {yn : Nat → MethodName} {cc : Nat → ByteArray} {rt : Nat → Option FieldType}
set_option maxHeartbeats 4000000 in
theorem mj_walk {M nL b base nX d : Nat} {xs : Nat → Int32} {D : va_G} {cA : Nat → ClassId} {call : Nat → List mj_V → mj_H → Option mj_R} (hOK : mj_OK P cl tyf Ts Nw ak yn cc rt) (hx : p.tables.exec = Jvm.exec) (hb : c.code = cc M) (hml : c.maxLocals = nL) (hown : s.vm.findClass (yn M).cls = some m.cls) (hnm : (yn M).name = "<init>" → meth.name = "<init>") (hts : ∀ w ∈ Ts, w.before args s = true) (hNw : ∀ w ∈ Nw, va_Nw w s) (hK : va_K D cl (mj_ty cl cA ak) s) (hX : va_X b nX xs s s.heap) (hbl : b < base) (hbs : base ≤ s.heap.size)
    (hCK : mj_CK l P cl Ts Nw ak yn cc rt D cA b base nX xs d call) (hfr : d + 1 ≤ R.frames) (hlo : 60 * (d + 1) ≤ R.locals) {r : Option mj_V} {h' : mj_H} {CE SE : Nat} (hCE : CE ≤ R.cells) (hSE : SE ≤ R.slots)
    (exit : ∀ (pc : Nat) (ls : Array Slot) (S : List mj_V) (H : Heap) (locs : List Loc) (i : mj_I), decode (cc M) pc = .ok (i.1, mj_len i) → mj_rt (P.2.2.1 M) i.1 S h' = some (r, h') → mj_In D cl cA b base (mj_z nX xs) h' H → va_S (fun q : Nat => base ≤ q) s.heap H locs → W p l e R s m args below meth c H locs CE SE Q (F0 m pc ls (S.map (mj_cv (mj_ad b base))))) :
    ∀ (n pc : Nat) (L : mj_L) (S : List mj_V) (h : mj_H), mj_it (mj_stp P call M) n (pc, L, S, h) = some (r, h') → ∀ (ls : Array Slot) (H : Heap) (locs : List Loc) (cells slots : Nat), mj_LO (mj_ad b base) ls nL L → mj_In D cl cA b base (mj_z nX xs) h H → va_S (fun q : Nat => base ≤ q) s.heap H locs → cells + (h'.length - h.length) = CE → slots + (mj_sz h' - mj_sz h) = SE → W p l e R s m args below meth c H locs cells slots Q (F0 m pc ls (S.map (mj_cv (mj_ad b base)))) := by
  have hcm : ∀ (y : Nat) (as : List mj_V) (h : mj_H) (r : Option mj_V) (h' : mj_H), call y as h = some (r, h') → mj_le h h' := fun y as h r h' q => (hCK y as h r h' q).1
  have hadi := mj_ad_inj hbl
  intro n
  induction n with
  | zero => intro pc L S h e9; cases e9
  | succ n ih =>
    intro pc L S h e9 ls H locs cells slots hl hI hS hc hs
    simp only [mj_it] at e9
    unfold mj_stp at e9
    cases hi : P.1 M pc with
    | none => simp only [hi] at e9; cases e9
    | some i =>
      simp only [hi] at e9
      have hok := hOK.1 M pc i hi
      by_cases hr : mj_ir i.1 = true
      · simp only [if_pos hr] at e9
        cases hq : mj_rt (P.2.2.1 M) i.1 S h with
        | none => rw [hq] at e9; cases e9
        | some q =>
          rw [hq] at e9
          have e9 : q = (r, h') := Option.some.inj e9
          subst e9
          have eh : h' = h := by
            rcases mj_rt_inv hq with ⟨v, -, -, -, z⟩ | ⟨v, -, -, -, z⟩ | ⟨-, -, -, z⟩ <;> exact congrArg Prod.snd z
          subst eh
          rw [Nat.sub_self, Nat.add_zero] at hc hs
          subst hc; subst hs
          exact exit pc ls S H locs i hok.1 hq hI hS
      · simp only [if_neg hr] at e9
        cases hq : mj_st P call i pc L S h with
        | none => rw [hq] at e9; cases e9
        | some y =>
          rw [hq] at e9
          obtain ⟨pc', L', S', h2⟩ := y
          have e9 : mj_it (mj_stp P call M) n (pc', L', S', h2) = some (r, h') := e9
          have hle1 : mj_le h h2 := mj_st_le hcm hq
          have hle2 : mj_le h2 h' := mj_it_le hcm n _ _ e9
          obtain ⟨a1, a2⟩ := hle1
          obtain ⟨a3, a4⟩ := hle2
          have hrc : cells + (h2.length - h.length) ≤ R.cells := by omega
          have hrs : slots + (mj_sz h2 - mj_sz h) ≤ R.slots := by omega
          rcases mj_cover hq with hg | hg | hg
          · obtain ⟨eh, hgo⟩ := mj_step1 (p := p) (l := l) (e := e) (R := R) (s := s) (m := m) (args := args) (below := below) (meth := meth) (c := c) (H := H) (locs := locs) (cells := cells) (slots := slots) (Q := Q) hx hb hl hadi hok hq hg
            have eh : h2 = h := eh
            subst eh
            exact hgo (fun ls' hl' => ih pc' L' S' h2 e9 ls' H locs cells slots hl' hI hS hc hs)
          · refine mj_step2 hx hb hown hnm hts hNw hK hX hbl hbs hl hI hS hok hq hg hrc hrs (fun H' locs' cells' slots' hl' hI' hS' ec es => ?_)
            refine ih pc' L' S' h2 e9 ls H' locs' cells' slots' hl' hI' hS' ?_ ?_
            · have ec : cells' = cells + (h2.length - h.length) := ec
              omega
            · have es : slots' = slots + (mj_sz h2 - mj_sz h) := es
              omega
          · refine mj_step3 hx hb hml hown hts hOK.2.1 hOK.2.2 hNw hK hX hbl hbs hCK hfr hlo hl hI hS hok hq hg hrc hrs (fun H' locs' cells' slots' hl' hI' hS' ec es => ?_)
            refine ih pc' L' S' h2 e9 ls H' locs' cells' slots' hl' hI' hS' ?_ ?_
            · have ec : cells' = cells + (h2.length - h.length) := ec
              omega
            · have es : slots' = slots + (mj_sz h2 - mj_sz h) := es
              omega
end WALK
set_option maxHeartbeats 4000000 in
/-- THE CONTRACT of every method, out of what the small machine answers -/
theorem mj_met {P : mj_P} {cl : List vw_C} {tyf : Nat → Nat → FieldType} {Ts Nw : List Cond} {ak : List Nat} {yn : Nat → MethodName} {cc : Nat → ByteArray} {rt : Nat → Option FieldType} (hOK : mj_OK P cl tyf Ts Nw ak yn cc rt) (l : Launch) (D : va_G) (cA : Nat → ClassId) (b base nX : Nat) (xs : Nat → Int32) (hbl : b < base) : ∀ d : Nat, mj_CK l P cl Ts Nw ak yn cc rt D cA b base nX xs d (mj_Cl P d) := by
  intro d
  induction d with
  | zero => intro y as h r h' e9; cases e9
  | succ d ih =>
    intro y as h r h' e9
    have hcm : ∀ (y : Nat) (as : List mj_V) (h : mj_H) (r : Option mj_V) (h' : mj_H), mj_Cl P d y as h = some (r, h') → mj_le h h' := fun y as h r h' q => (ih y as h r h' q).1
    have e9 : mj_fix (mj_stp P (mj_Cl P d) y) (mj_en P y as h) = some (r, h') := e9
    obtain ⟨n, hn⟩ := mj_fix_some.mp e9
    refine ⟨mj_it_le hcm n _ _ hn, fun hm hal => ?_⟩
    refine Met.ofW (cc := cc y) (maxL := P.2.1 y) (ret := rt y) hm.1 rfl ?_
    intro p e s m args below meth c s₁ B hml hv
    obtain ⟨rfl, hI, hK, hNw, hX⟩ := hv
    have hts0 := atoms_spec (ws := mj_ws P Ts yn cc rt y) B.pre
    have hts : ∀ w ∈ Ts, w.before ((as.map (mj_cv (mj_ad b base))).toArray) s = true := fun w hw => hts0 w (List.mem_cons_of_mem _ hw)
    have hown : s.vm.findClass (yn y).cls = some m.cls := findClass_of_methodNamed B.named
    have hnm : (yn y).name = "<init>" → meth.name = "<init>" := fun q => (name_of_methodNamed B.named B.method).1.trans q
    have hbs : base ≤ s.heap.size := by rw [mj_hd hI]; omega
    have hl := mj_LO.entry (mj_ad b base) as hal
    have hlocks := B.notSynchronized
    rw [lg_entry_eq]
    have hr := B.returns
    refine mj_walk (d := d) (call := mj_Cl P d) hOK B.exec B.bytes hml hown hnm hts hNw hK hX hbl hbs ih (Nat.le_refl _) (Nat.le_refl _) (CE := h'.length - h.length) (SE := mj_sz h' - mj_sz h) (Nat.le_refl _) (Nat.le_refl _) ?_ n 0 _ [] h hn _ s.heap [] 0 0 hl hI va_S.rf (Nat.zero_add _) (Nat.zero_add _)
    intro pc ls S H locs i hd hrt hI' hS'
    rcases mj_rt_inv hrt with ⟨v, ei, rfl, hk, er⟩ | ⟨v, ei, rfl, hk, er⟩ | ⟨ei, rfl, hk, er⟩
    · obtain ⟨ins, len, a1, a2⟩ := i
      have ei : ins = .ireturn := ei
      subst ei
      obtain rfl : r = some (.inl v) := congrArg Prod.fst er
      rcases hk with hk | ⟨hk, hv⟩
      · exact W.iret B.exec B.bytes (hr.trans (hm.2.2.2.2.1 hk)) (fun t ht hW => ⟨rfl, by rw [ht]; exact hI', hS'.F ht⟩) hS'.2.2 hd
      · refine W.zret B.exec B.bytes (hr.trans (hm.2.2.2.2.2.1 hk)) ?_ (fun t ht hW => ⟨rfl, by rw [ht]; exact hI', hS'.F ht⟩) hS'.2.2 hd
        rcases hv with rfl | rfl <;> decide
    · obtain ⟨ins, len, a1, a2⟩ := i
      have ei : ins = .areturn := ei
      subst ei
      obtain rfl : r = some (.inr v) := congrArg Prod.fst er
      obtain ⟨E, hE⟩ := hm.2.2.2.2.2.2 hk
      exact W.aret B.exec B.bytes (hr.trans hE) (Or.inl ⟨E, rfl⟩) (by cases v with
        | none => exact Or.inl rfl
        | some v => exact Or.inr ⟨_, rfl⟩) (fun t ht hW => ⟨rfl, by rw [ht]; exact hI', hS'.F ht⟩) hS'.2.2 hd
    · obtain ⟨ins, len, a1, a2⟩ := i
      have ei : ins = .return_ := ei
      subst ei
      obtain rfl : r = none := congrArg Prod.fst er
      exact W.vret B.exec B.bytes (hr.trans (hm.2.2.2.1 hk)) (fun t ht hW => ⟨rfl, by rw [ht]; exact hI', hS'.F ht⟩) hS'.2.2 hd
end
section
/-! THE PROGRAM as data of the small machine (laid by wip/gen/gen.py out of the listing and the tables) -/
def pg_T0 : u_T := fun k => match k with
  | 0 => ("FixtureOrder$Case", "test", "LFixtureOrder$Test;", false)
  | 1 => ("FixtureOrder$Case", "number", "I", false)
  | 2 => ("FixtureOrder$Case", "given", "[I", true)
  | 3 => ("FixtureOrder$Case", "outcome", "I", false)
  | 4 => ("FixtureOrder$Case", "unmade", "I", false)
  | 5 => ("FixtureOrder$Case", "suppressed", "I", false)
  | _ => ("FixtureOrder$Case", "tries", "I", false)
def pg_T1 : u_T := fun k => match k with
  | 0 => ("FixtureOrder$Fixture", "number", "I", true)
  | 1 => ("FixtureOrder$Fixture", "bit", "I", true)
  | 2 => ("FixtureOrder$Fixture", "scope", "I", true)
  | 3 => ("FixtureOrder$Fixture", "values", "I", true)
  | 4 => ("FixtureOrder$Fixture", "makeFails", "Z", true)
  | 5 => ("FixtureOrder$Fixture", "endFails", "Z", true)
  | 6 => ("FixtureOrder$Fixture", "needed", "LFixtureOrder$Row;", true)
  | 7 => ("FixtureOrder$Fixture", "neededBits", "I", false)
  | 8 => ("FixtureOrder$Fixture", "value", "I", false)
  | 9 => ("FixtureOrder$Fixture", "file", "I", false)
  | 10 => ("FixtureOrder$Fixture", "failedValueBits", "I", false)
  | 11 => ("FixtureOrder$Fixture", "failedFile", "I", false)
  | 12 => ("FixtureOrder$Fixture", "timesMade", "I", false)
  | 13 => ("FixtureOrder$Fixture", "timesEnded", "I", false)
  | _ => ("FixtureOrder$Fixture", "timesLeaked", "I", false)
def pg_T2 : u_T := fun k => match k with
  | 0 => ("FixtureOrder$Log", "packed", "[I", true)
  | _ => ("FixtureOrder$Log", "count", "I", false)
def pg_T3 : u_T := fun k => match k with
  | 0 => ("FixtureOrder$Row", "held", "[LFixtureOrder$Fixture;", true)
  | 1 => ("FixtureOrder$Row", "count", "I", false)
  | 2 => ("FixtureOrder$Row", "bits", "I", false)
  | _ => ("FixtureOrder$Row", "most", "I", true)
def pg_T4 : u_T := fun k => match k with
  | 0 => ("FixtureOrder$Runner", "made", "LFixtureOrder$Row;", true)
  | 1 => ("FixtureOrder$Runner", "log", "LFixtureOrder$Log;", true)
  | 2 => ("FixtureOrder$Runner", "cases", "[LFixtureOrder$Case;", true)
  | 3 => ("FixtureOrder$Runner", "caseCount", "I", false)
  | _ => ("FixtureOrder$Runner", "fixturesInRun", "I", false)
def pg_T5 : u_T := fun k => match k with
  | 0 => ("FixtureOrder$Suite", "fixtures", "[LFixtureOrder$Fixture;", true)
  | 1 => ("FixtureOrder$Suite", "fixtureCount", "I", false)
  | 2 => ("FixtureOrder$Suite", "tests", "[LFixtureOrder$Test;", true)
  | _ => ("FixtureOrder$Suite", "testCount", "I", false)
def pg_T6 : u_T := fun k => match k with
  | 0 => ("FixtureOrder$Test", "number", "I", true)
  | 1 => ("FixtureOrder$Test", "file", "I", true)
  | 2 => ("FixtureOrder$Test", "used", "LFixtureOrder$Row;", true)
  | 3 => ("FixtureOrder$Test", "closure", "LFixtureOrder$Row;", true)
  | 4 => ("FixtureOrder$Test", "steps", "I", false)
  | 5 => ("FixtureOrder$Test", "limit", "I", false)
  | 6 => ("FixtureOrder$Test", "failingTries", "I", false)
  | _ => ("FixtureOrder$Test", "retries", "I", false)
def pg_T7 : u_T := fun k => match k with
  | 0 => ("FixtureOrder", "suite", "LFixtureOrder$Suite;", true)
  | _ => ("FixtureOrder", "runner", "LFixtureOrder$Runner;", true)
def pg_T8 : u_T := fun k => match k with
  | 0 => ("FixtureOrderModel", "code", "I", false)
  | 1 => ("FixtureOrderModel", "fixtures", "I", false)
  | 2 => ("FixtureOrderModel", "tests", "I", false)
  | 3 => ("FixtureOrderModel", "scope", "[I", true)
  | 4 => ("FixtureOrderModel", "values", "[I", true)
  | 5 => ("FixtureOrderModel", "needMany", "[I", true)
  | 6 => ("FixtureOrderModel", "need", "[I", true)
  | 7 => ("FixtureOrderModel", "makeFails", "[Z", true)
  | 8 => ("FixtureOrderModel", "endFails", "[Z", true)
  | 9 => ("FixtureOrderModel", "file", "[I", true)
  | 10 => ("FixtureOrderModel", "useMany", "[I", true)
  | 11 => ("FixtureOrderModel", "use", "[I", true)
  | 12 => ("FixtureOrderModel", "steps", "[I", true)
  | 13 => ("FixtureOrderModel", "limit", "[I", true)
  | 14 => ("FixtureOrderModel", "fails", "[I", true)
  | 15 => ("FixtureOrderModel", "retries", "[I", true)
  | 16 => ("FixtureOrderModel", "closure", "[I", true)
  | 17 => ("FixtureOrderModel", "wait", "[I", true)
  | 18 => ("FixtureOrderModel", "waitAt", "[I", true)
  | 19 => ("FixtureOrderModel", "closed", "I", false)
  | 20 => ("FixtureOrderModel", "thenFixtures", "I", false)
  | 21 => ("FixtureOrderModel", "events", "I", false)
  | 22 => ("FixtureOrderModel", "ran", "I", false)
  | 23 => ("FixtureOrderModel", "makings", "I", false)
  | 24 => ("FixtureOrderModel", "madeAt", "[I", true)
  | 25 => ("FixtureOrderModel", "madeValue", "[I", true)
  | 26 => ("FixtureOrderModel", "madeFile", "[I", true)
  | 27 => ("FixtureOrderModel", "remembered", "[I", true)
  | 28 => ("FixtureOrderModel", "rememberedFile", "[I", true)
  | 29 => ("FixtureOrderModel", "made", "[I", true)
  | 30 => ("FixtureOrderModel", "ended", "[I", true)
  | 31 => ("FixtureOrderModel", "leaked", "[I", true)
  | 32 => ("FixtureOrderModel", "eventWhat", "[I", true)
  | 33 => ("FixtureOrderModel", "eventOne", "[I", true)
  | 34 => ("FixtureOrderModel", "eventTwo", "[I", true)
  | 35 => ("FixtureOrderModel", "caseTest", "[I", true)
  | 36 => ("FixtureOrderModel", "caseNumber", "[I", true)
  | 37 => ("FixtureOrderModel", "caseOutcome", "[I", true)
  | 38 => ("FixtureOrderModel", "caseFixture", "[I", true)
  | 39 => ("FixtureOrderModel", "caseSuppressed", "[I", true)
  | 40 => ("FixtureOrderModel", "caseTries", "[I", true)
  | 41 => ("FixtureOrderModel", "done", "[Z", true)
  | 42 => ("FixtureOrderModel", "ending", "[Z", true)
  | _ => ("FixtureOrderModel", "failures", "I", false)
def pg_ty (a k : Nat) : FieldType := match a with
  | 0 => (match k with
    | 0 => .object "FixtureOrder$Test"
    | 1 => .int
    | 2 => .array (.int)
    | 3 => .int
    | 4 => .int
    | 5 => .int
    | _ => .int)
  | 1 => (match k with
    | 0 => .int
    | 1 => .int
    | 2 => .int
    | 3 => .int
    | 4 => .boolean
    | 5 => .boolean
    | 6 => .object "FixtureOrder$Row"
    | 7 => .int
    | 8 => .int
    | 9 => .int
    | 10 => .int
    | 11 => .int
    | 12 => .int
    | 13 => .int
    | _ => .int)
  | 2 => (match k with
    | 0 => .array (.int)
    | _ => .int)
  | 3 => (match k with
    | 0 => .array (.object "FixtureOrder$Fixture")
    | 1 => .int
    | 2 => .int
    | _ => .int)
  | 4 => (match k with
    | 0 => .object "FixtureOrder$Row"
    | 1 => .object "FixtureOrder$Log"
    | 2 => .array (.object "FixtureOrder$Case")
    | 3 => .int
    | _ => .int)
  | 5 => (match k with
    | 0 => .array (.object "FixtureOrder$Fixture")
    | 1 => .int
    | 2 => .array (.object "FixtureOrder$Test")
    | _ => .int)
  | 6 => (match k with
    | 0 => .int
    | 1 => .int
    | 2 => .object "FixtureOrder$Row"
    | 3 => .object "FixtureOrder$Row"
    | 4 => .int
    | 5 => .int
    | 6 => .int
    | _ => .int)
  | 7 => (match k with
    | 0 => .object "FixtureOrder$Suite"
    | _ => .object "FixtureOrder$Runner")
  | _ => (match k with
    | 0 => .int
    | 1 => .int
    | 2 => .int
    | 3 => .array (.int)
    | 4 => .array (.int)
    | 5 => .array (.int)
    | 6 => .array (.int)
    | 7 => .array (.boolean)
    | 8 => .array (.boolean)
    | 9 => .array (.int)
    | 10 => .array (.int)
    | 11 => .array (.int)
    | 12 => .array (.int)
    | 13 => .array (.int)
    | 14 => .array (.int)
    | 15 => .array (.int)
    | 16 => .array (.int)
    | 17 => .array (.int)
    | 18 => .array (.int)
    | 19 => .int
    | 20 => .int
    | 21 => .int
    | 22 => .int
    | 23 => .int
    | 24 => .array (.int)
    | 25 => .array (.int)
    | 26 => .array (.int)
    | 27 => .array (.int)
    | 28 => .array (.int)
    | 29 => .array (.int)
    | 30 => .array (.int)
    | 31 => .array (.int)
    | 32 => .array (.int)
    | 33 => .array (.int)
    | 34 => .array (.int)
    | 35 => .array (.int)
    | 36 => .array (.int)
    | 37 => .array (.int)
    | 38 => .array (.int)
    | 39 => .array (.int)
    | 40 => .array (.int)
    | 41 => .array (.boolean)
    | 42 => .array (.boolean)
    | _ => .int)
def pg_cl : List vw_C := [("FixtureOrder$Case", pg_T0, 7), ("FixtureOrder$Fixture", pg_T1, 15), ("FixtureOrder$Log", pg_T2, 2), ("FixtureOrder$Row", pg_T3, 4), ("FixtureOrder$Runner", pg_T4, 5), ("FixtureOrder$Suite", pg_T5, 4), ("FixtureOrder$Test", pg_T6, 8), ("FixtureOrder", pg_T7, 2), ("FixtureOrderModel", pg_T8, 44)]
def pg_yn (M : Nat) : MethodName := match M with
  | 0 => ⟨"FixtureOrderLaw", "law", "([I)Z"⟩
  | 1 => ⟨"FixtureOrder", "<init>", "()V"⟩
  | 2 => ⟨"FixtureOrder", "fixture", "(IIZZ)I"⟩
  | 3 => ⟨"FixtureOrder", "needs", "(II)I"⟩
  | 4 => ⟨"FixtureOrder", "test", "(I)I"⟩
  | 5 => ⟨"FixtureOrder", "uses", "(II)Z"⟩
  | 6 => ⟨"FixtureOrder", "takes", "(III)Z"⟩
  | 7 => ⟨"FixtureOrder", "fails", "(III)Z"⟩
  | 8 => ⟨"FixtureOrder", "run", "(I)I"⟩
  | 9 => ⟨"FixtureOrder", "events", "()I"⟩
  | 10 => ⟨"FixtureOrder", "event", "(II)I"⟩
  | 11 => ⟨"FixtureOrder", "outcome", "(II)I"⟩
  | 12 => ⟨"FixtureOrder", "counted", "(II)I"⟩
  | 13 => ⟨"FixtureOrder", "closure", "(II)I"⟩
  | 14 => ⟨"FixtureOrder", "cases", "(I)I"⟩
  | 15 => ⟨"FixtureOrder", "isWithin", "(III)Z"⟩
  | 16 => ⟨"FixtureOrderModel", "<init>", "()V"⟩
  | 17 => ⟨"FixtureOrderModel", "isFixture", "(I)Z"⟩
  | 18 => ⟨"FixtureOrderModel", "isTest", "(I)Z"⟩
  | 19 => ⟨"FixtureOrderModel", "fixture", "(IIZZ)I"⟩
  | 20 => ⟨"FixtureOrderModel", "isNeed", "(II)Z"⟩
  | 21 => ⟨"FixtureOrderModel", "leads", "(II)Z"⟩
  | 22 => ⟨"FixtureOrderModel", "needs", "(II)I"⟩
  | 23 => ⟨"FixtureOrderModel", "test", "(I)I"⟩
  | 24 => ⟨"FixtureOrderModel", "uses", "(II)Z"⟩
  | 25 => ⟨"FixtureOrderModel", "takes", "(III)Z"⟩
  | 26 => ⟨"FixtureOrderModel", "fails", "(III)Z"⟩
  | 27 => ⟨"FixtureOrderModel", "isClosed", "(I)Z"⟩
  | 28 => ⟨"FixtureOrderModel", "close", "(I)V"⟩
  | 29 => ⟨"FixtureOrderModel", "closeTest", "(I)V"⟩
  | 30 => ⟨"FixtureOrderModel", "closure", "(II)I"⟩
  | 31 => ⟨"FixtureOrderModel", "casesOf", "(I)I"⟩
  | 32 => ⟨"FixtureOrderModel", "cases", "(I)I"⟩
  | 33 => ⟨"FixtureOrderModel", "valueOf", "(II)I"⟩
  | 34 => ⟨"FixtureOrderModel", "tell", "(III)V"⟩
  | 35 => ⟨"FixtureOrderModel", "end", "(I)V"⟩
  | 36 => ⟨"FixtureOrderModel", "endMarked", "()V"⟩
  | 37 => ⟨"FixtureOrderModel", "part", "(II)V"⟩
  | 38 => ⟨"FixtureOrderModel", "make", "(II)I"⟩
  | 39 => ⟨"FixtureOrderModel", "runCase", "(II)V"⟩
  | 40 => ⟨"FixtureOrderModel", "lacking", "(II)I"⟩
  | 41 => ⟨"FixtureOrderModel", "run", "(I)I"⟩
  | 42 => ⟨"FixtureOrderModel", "events", "()I"⟩
  | 43 => ⟨"FixtureOrderModel", "event", "(II)I"⟩
  | 44 => ⟨"FixtureOrderModel", "outcome", "(II)I"⟩
  | 45 => ⟨"FixtureOrderModel", "counted", "(II)I"⟩
  | 46 => ⟨"FixtureOrder$Case", "<init>", "()V"⟩
  | 47 => ⟨"FixtureOrder$Case", "begin", "(LFixtureOrder$Test;I)V"⟩
  | 48 => ⟨"FixtureOrder$Case", "valueFor", "(LFixtureOrder$Fixture;)I"⟩
  | 49 => ⟨"FixtureOrder$Case", "leavesStanding", "(LFixtureOrder$Fixture;)Z"⟩
  | 50 => ⟨"FixtureOrder$Case", "noteUnmade", "(LFixtureOrder$Fixture;)V"⟩
  | 51 => ⟨"FixtureOrder$Case", "finish", "(IIIZ)V"⟩
  | 52 => ⟨"FixtureOrder$Case", "read", "(I)I"⟩
  | 53 => ⟨"FixtureOrder$Fixture", "<init>", "(IIIZZ)V"⟩
  | 54 => ⟨"FixtureOrder$Fixture", "dependsOnAny", "(I)Z"⟩
  | 55 => ⟨"FixtureOrder$Fixture", "dependAlsoOn", "(LFixtureOrder$Fixture;)V"⟩
  | 56 => ⟨"FixtureOrder$Fixture", "isMadeForAnother", "(I)Z"⟩
  | 57 => ⟨"FixtureOrder$Fixture", "startRun", "()V"⟩
  | 58 => ⟨"FixtureOrder$Fixture", "noteMade", "(II)V"⟩
  | 59 => ⟨"FixtureOrder$Fixture", "noteEnded", "()V"⟩
  | 60 => ⟨"FixtureOrder$Fixture", "rememberFailed", "(II)V"⟩
  | 61 => ⟨"FixtureOrder$Fixture", "isRememberedFailed", "(I)Z"⟩
  | 62 => ⟨"FixtureOrder$Fixture", "forgetIfOfAnother", "(I)V"⟩
  | 63 => ⟨"FixtureOrder$Fixture", "readCount", "(I)I"⟩
  | 64 => ⟨"FixtureOrder$Log", "<init>", "()V"⟩
  | 65 => ⟨"FixtureOrder$Log", "clear", "()V"⟩
  | 66 => ⟨"FixtureOrder$Log", "add", "(III)V"⟩
  | 67 => ⟨"FixtureOrder$Log", "read", "(II)I"⟩
  | 68 => ⟨"FixtureOrder$Row", "<init>", "(I)V"⟩
  | 69 => ⟨"FixtureOrder$Row", "holds", "(LFixtureOrder$Fixture;)Z"⟩
  | 70 => ⟨"FixtureOrder$Row", "canTake", "(LFixtureOrder$Fixture;)Z"⟩
  | 71 => ⟨"FixtureOrder$Row", "append", "(LFixtureOrder$Fixture;)V"⟩
  | 72 => ⟨"FixtureOrder$Row", "removeAt", "(I)V"⟩
  | 73 => ⟨"FixtureOrder$Row", "at", "(I)LFixtureOrder$Fixture;"⟩
  | 74 => ⟨"FixtureOrder$Row", "clear", "()V"⟩
  | 75 => ⟨"FixtureOrder$Runner", "<init>", "()V"⟩
  | 76 => ⟨"FixtureOrder$Runner", "caseAt", "(I)LFixtureOrder$Case;"⟩
  | 77 => ⟨"FixtureOrder$Runner", "runAll", "(LFixtureOrder$Suite;I)V"⟩
  | 78 => ⟨"FixtureOrder$Runner", "startRun", "(LFixtureOrder$Suite;)V"⟩
  | 79 => ⟨"FixtureOrder$Runner", "listCases", "(LFixtureOrder$Suite;)V"⟩
  | 80 => ⟨"FixtureOrder$Runner", "placeOfFewestUnmade", "(I)I"⟩
  | 81 => ⟨"FixtureOrder$Runner", "countUnmade", "(LFixtureOrder$Case;)I"⟩
  | 82 => ⟨"FixtureOrder$Runner", "bringForward", "(II)V"⟩
  | 83 => ⟨"FixtureOrder$Runner", "takeCase", "(LFixtureOrder$Suite;LFixtureOrder$Case;I)V"⟩
  | 84 => ⟨"FixtureOrder$Runner", "bitsThatCannotStay", "(LFixtureOrder$Case;)I"⟩
  | 85 => ⟨"FixtureOrder$Runner", "bitsOfCaseScope", "()I"⟩
  | 86 => ⟨"FixtureOrder$Runner", "tryCase", "(LFixtureOrder$Case;II)I"⟩
  | 87 => ⟨"FixtureOrder$Runner", "make", "(LFixtureOrder$Fixture;LFixtureOrder$Case;)Z"⟩
  | 88 => ⟨"FixtureOrder$Runner", "endMade", "(I)I"⟩
  | 89 => ⟨"FixtureOrder$Suite", "<init>", "()V"⟩
  | 90 => ⟨"FixtureOrder$Suite", "fixtureAt", "(I)LFixtureOrder$Fixture;"⟩
  | 91 => ⟨"FixtureOrder$Suite", "testAt", "(I)LFixtureOrder$Test;"⟩
  | 92 => ⟨"FixtureOrder$Suite", "addFixture", "(IIZZ)I"⟩
  | 93 => ⟨"FixtureOrder$Suite", "addTest", "(I)I"⟩
  | 94 => ⟨"FixtureOrder$Suite", "link", "(LFixtureOrder$Fixture;LFixtureOrder$Fixture;)V"⟩
  | 95 => ⟨"FixtureOrder$Suite", "forgetFailuresOfOtherFiles", "(I)V"⟩
  | 96 => ⟨"FixtureOrder$Suite", "countAllCases", "()I"⟩
  | 97 => ⟨"FixtureOrder$Test", "<init>", "(II)V"⟩
  | 98 => ⟨"FixtureOrder$Test", "findClosure", "()V"⟩
  | 99 => ⟨"FixtureOrder$Test", "includeBehindItsNeeds", "(LFixtureOrder$Row;LFixtureOrder$Fixture;I)V"⟩
  | 100 => ⟨"FixtureOrder$Test", "countCases", "()I"⟩
  | 101 => ⟨"FixtureOrder$Test", "resultOfSteps", "(I)I"⟩
  | _ => ⟨"java/util/Arrays", "fill", "([II)V"⟩
def pg_cc (M : Nat) : ByteArray := match M with
  | 0 => code
  | 1 => prog_1_method_1_code
  | 2 => prog_1_method_2_code
  | 3 => prog_1_method_3_code
  | 4 => prog_1_method_4_code
  | 5 => prog_1_method_5_code
  | 6 => prog_1_method_6_code
  | 7 => prog_1_method_7_code
  | 8 => prog_1_method_8_code
  | 9 => prog_1_method_9_code
  | 10 => prog_1_method_10_code
  | 11 => prog_1_method_11_code
  | 12 => prog_1_method_12_code
  | 13 => prog_1_method_13_code
  | 14 => prog_1_method_14_code
  | 15 => prog_1_method_15_code
  | 16 => prog_10_method_1_code
  | 17 => prog_10_method_3_code
  | 18 => prog_10_method_4_code
  | 19 => prog_10_method_5_code
  | 20 => prog_10_method_6_code
  | 21 => prog_10_method_7_code
  | 22 => prog_10_method_8_code
  | 23 => prog_10_method_9_code
  | 24 => prog_10_method_10_code
  | 25 => prog_10_method_11_code
  | 26 => prog_10_method_12_code
  | 27 => prog_10_method_13_code
  | 28 => prog_10_method_14_code
  | 29 => prog_10_method_15_code
  | 30 => prog_10_method_16_code
  | 31 => prog_10_method_17_code
  | 32 => prog_10_method_18_code
  | 33 => prog_10_method_19_code
  | 34 => prog_10_method_20_code
  | 35 => prog_10_method_21_code
  | 36 => prog_10_method_22_code
  | 37 => prog_10_method_23_code
  | 38 => prog_10_method_24_code
  | 39 => prog_10_method_25_code
  | 40 => prog_10_method_26_code
  | 41 => prog_10_method_27_code
  | 42 => prog_10_method_28_code
  | 43 => prog_10_method_29_code
  | 44 => prog_10_method_30_code
  | 45 => prog_10_method_31_code
  | 46 => prog_2_method_1_code
  | 47 => prog_2_method_2_code
  | 48 => prog_2_method_3_code
  | 49 => prog_2_method_4_code
  | 50 => prog_2_method_5_code
  | 51 => prog_2_method_6_code
  | 52 => prog_2_method_7_code
  | 53 => prog_3_method_1_code
  | 54 => prog_3_method_2_code
  | 55 => prog_3_method_3_code
  | 56 => prog_3_method_4_code
  | 57 => prog_3_method_5_code
  | 58 => prog_3_method_6_code
  | 59 => prog_3_method_7_code
  | 60 => prog_3_method_8_code
  | 61 => prog_3_method_9_code
  | 62 => prog_3_method_10_code
  | 63 => prog_3_method_11_code
  | 64 => prog_4_method_1_code
  | 65 => prog_4_method_2_code
  | 66 => prog_4_method_3_code
  | 67 => prog_4_method_4_code
  | 68 => prog_5_method_1_code
  | 69 => prog_5_method_2_code
  | 70 => prog_5_method_3_code
  | 71 => prog_5_method_4_code
  | 72 => prog_5_method_5_code
  | 73 => prog_5_method_6_code
  | 74 => prog_5_method_7_code
  | 75 => prog_6_method_1_code
  | 76 => prog_6_method_2_code
  | 77 => prog_6_method_3_code
  | 78 => prog_6_method_4_code
  | 79 => prog_6_method_5_code
  | 80 => prog_6_method_6_code
  | 81 => prog_6_method_7_code
  | 82 => prog_6_method_8_code
  | 83 => prog_6_method_9_code
  | 84 => prog_6_method_10_code
  | 85 => prog_6_method_11_code
  | 86 => prog_6_method_12_code
  | 87 => prog_6_method_13_code
  | 88 => prog_6_method_14_code
  | 89 => prog_7_method_1_code
  | 90 => prog_7_method_2_code
  | 91 => prog_7_method_3_code
  | 92 => prog_7_method_4_code
  | 93 => prog_7_method_5_code
  | 94 => prog_7_method_6_code
  | 95 => prog_7_method_7_code
  | 96 => prog_7_method_8_code
  | 97 => prog_8_method_1_code
  | 98 => prog_8_method_2_code
  | 99 => prog_8_method_3_code
  | 100 => prog_8_method_4_code
  | 101 => prog_8_method_5_code
  | _ => prog_12_method_103_code
def pg_rt (M : Nat) : Option FieldType := match M with
  | 0 => some (.boolean)
  | 1 => none
  | 2 => some (.int)
  | 3 => some (.int)
  | 4 => some (.int)
  | 5 => some (.boolean)
  | 6 => some (.boolean)
  | 7 => some (.boolean)
  | 8 => some (.int)
  | 9 => some (.int)
  | 10 => some (.int)
  | 11 => some (.int)
  | 12 => some (.int)
  | 13 => some (.int)
  | 14 => some (.int)
  | 15 => some (.boolean)
  | 16 => none
  | 17 => some (.boolean)
  | 18 => some (.boolean)
  | 19 => some (.int)
  | 20 => some (.boolean)
  | 21 => some (.boolean)
  | 22 => some (.int)
  | 23 => some (.int)
  | 24 => some (.boolean)
  | 25 => some (.boolean)
  | 26 => some (.boolean)
  | 27 => some (.boolean)
  | 28 => none
  | 29 => none
  | 30 => some (.int)
  | 31 => some (.int)
  | 32 => some (.int)
  | 33 => some (.int)
  | 34 => none
  | 35 => none
  | 36 => none
  | 37 => none
  | 38 => some (.int)
  | 39 => none
  | 40 => some (.int)
  | 41 => some (.int)
  | 42 => some (.int)
  | 43 => some (.int)
  | 44 => some (.int)
  | 45 => some (.int)
  | 46 => none
  | 47 => none
  | 48 => some (.int)
  | 49 => some (.boolean)
  | 50 => none
  | 51 => none
  | 52 => some (.int)
  | 53 => none
  | 54 => some (.boolean)
  | 55 => none
  | 56 => some (.boolean)
  | 57 => none
  | 58 => none
  | 59 => none
  | 60 => none
  | 61 => some (.boolean)
  | 62 => none
  | 63 => some (.int)
  | 64 => none
  | 65 => none
  | 66 => none
  | 67 => some (.int)
  | 68 => none
  | 69 => some (.boolean)
  | 70 => some (.boolean)
  | 71 => none
  | 72 => none
  | 73 => some (.object "FixtureOrder$Fixture")
  | 74 => none
  | 75 => none
  | 76 => some (.object "FixtureOrder$Case")
  | 77 => none
  | 78 => none
  | 79 => none
  | 80 => some (.int)
  | 81 => some (.int)
  | 82 => none
  | 83 => none
  | 84 => some (.int)
  | 85 => some (.int)
  | 86 => some (.int)
  | 87 => some (.boolean)
  | 88 => some (.int)
  | 89 => none
  | 90 => some (.object "FixtureOrder$Fixture")
  | 91 => some (.object "FixtureOrder$Test")
  | 92 => some (.int)
  | 93 => some (.int)
  | 94 => none
  | 95 => none
  | 96 => some (.int)
  | 97 => none
  | 98 => none
  | 99 => none
  | 100 => some (.int)
  | 101 => some (.int)
  | _ => none
def pg_mx (M : Nat) : Nat := match M with
  | 0 => 4
  | 1 => 1
  | 2 => 5
  | 3 => 5
  | 4 => 2
  | 5 => 5
  | 6 => 5
  | 7 => 5
  | 8 => 2
  | 9 => 1
  | 10 => 3
  | 11 => 4
  | 12 => 4
  | 13 => 5
  | 14 => 3
  | 15 => 3
  | 16 => 1
  | 17 => 2
  | 18 => 2
  | 19 => 5
  | 20 => 5
  | 21 => 7
  | 22 => 3
  | 23 => 2
  | 24 => 5
  | 25 => 4
  | 26 => 4
  | 27 => 4
  | 28 => 5
  | 29 => 3
  | 30 => 3
  | 31 => 4
  | 32 => 2
  | 33 => 5
  | 34 => 4
  | 35 => 2
  | 36 => 4
  | 37 => 6
  | 38 => 6
  | 39 => 11
  | 40 => 6
  | 41 => 10
  | 42 => 1
  | 43 => 3
  | 44 => 3
  | 45 => 3
  | 46 => 1
  | 47 => 8
  | 48 => 2
  | 49 => 3
  | 50 => 2
  | 51 => 5
  | 52 => 2
  | 53 => 6
  | 54 => 2
  | 55 => 2
  | 56 => 2
  | 57 => 1
  | 58 => 3
  | 59 => 1
  | 60 => 3
  | 61 => 2
  | 62 => 2
  | 63 => 2
  | 64 => 1
  | 65 => 1
  | 66 => 4
  | 67 => 3
  | 68 => 2
  | 69 => 2
  | 70 => 2
  | 71 => 2
  | 72 => 3
  | 73 => 2
  | 74 => 1
  | 75 => 2
  | 76 => 2
  | 77 => 4
  | 78 => 3
  | 79 => 6
  | 80 => 6
  | 81 => 6
  | 82 => 5
  | 83 => 10
  | 84 => 5
  | 85 => 3
  | 86 => 7
  | 87 => 5
  | 88 => 5
  | 89 => 1
  | 90 => 2
  | 91 => 2
  | 92 => 5
  | 93 => 2
  | 94 => 4
  | 95 => 3
  | 96 => 3
  | 97 => 3
  | 98 => 2
  | 99 => 5
  | 100 => 3
  | 101 => 2
  | _ => 4
def pg_rk (M : Nat) : Nat := match M with
  | 0 => 2
  | 1 => 0
  | 2 => 1
  | 3 => 1
  | 4 => 1
  | 5 => 2
  | 6 => 2
  | 7 => 2
  | 8 => 1
  | 9 => 1
  | 10 => 1
  | 11 => 1
  | 12 => 1
  | 13 => 1
  | 14 => 1
  | 15 => 2
  | 16 => 0
  | 17 => 2
  | 18 => 2
  | 19 => 1
  | 20 => 2
  | 21 => 2
  | 22 => 1
  | 23 => 1
  | 24 => 2
  | 25 => 2
  | 26 => 2
  | 27 => 2
  | 28 => 0
  | 29 => 0
  | 30 => 1
  | 31 => 1
  | 32 => 1
  | 33 => 1
  | 34 => 0
  | 35 => 0
  | 36 => 0
  | 37 => 0
  | 38 => 1
  | 39 => 0
  | 40 => 1
  | 41 => 1
  | 42 => 1
  | 43 => 1
  | 44 => 1
  | 45 => 1
  | 46 => 0
  | 47 => 0
  | 48 => 1
  | 49 => 2
  | 50 => 0
  | 51 => 0
  | 52 => 1
  | 53 => 0
  | 54 => 2
  | 55 => 0
  | 56 => 2
  | 57 => 0
  | 58 => 0
  | 59 => 0
  | 60 => 0
  | 61 => 2
  | 62 => 0
  | 63 => 1
  | 64 => 0
  | 65 => 0
  | 66 => 0
  | 67 => 1
  | 68 => 0
  | 69 => 2
  | 70 => 2
  | 71 => 0
  | 72 => 0
  | 73 => 3
  | 74 => 0
  | 75 => 0
  | 76 => 3
  | 77 => 0
  | 78 => 0
  | 79 => 0
  | 80 => 1
  | 81 => 1
  | 82 => 0
  | 83 => 0
  | 84 => 1
  | 85 => 1
  | 86 => 1
  | 87 => 2
  | 88 => 1
  | 89 => 0
  | 90 => 3
  | 91 => 3
  | 92 => 1
  | 93 => 1
  | 94 => 0
  | 95 => 0
  | 96 => 1
  | 97 => 0
  | 98 => 0
  | 99 => 0
  | 100 => 1
  | 101 => 1
  | _ => 0
def pg_mc (M : Nat) : Nat := match M with
  | 0 => 98
  | 1 => 7
  | 2 => 7
  | 3 => 7
  | 4 => 7
  | 5 => 7
  | 6 => 7
  | 7 => 7
  | 8 => 7
  | 9 => 7
  | 10 => 7
  | 11 => 7
  | 12 => 7
  | 13 => 7
  | 14 => 7
  | 15 => 7
  | 16 => 8
  | 17 => 8
  | 18 => 8
  | 19 => 8
  | 20 => 8
  | 21 => 8
  | 22 => 8
  | 23 => 8
  | 24 => 8
  | 25 => 8
  | 26 => 8
  | 27 => 8
  | 28 => 8
  | 29 => 8
  | 30 => 8
  | 31 => 8
  | 32 => 8
  | 33 => 8
  | 34 => 8
  | 35 => 8
  | 36 => 8
  | 37 => 8
  | 38 => 8
  | 39 => 8
  | 40 => 8
  | 41 => 8
  | 42 => 8
  | 43 => 8
  | 44 => 8
  | 45 => 8
  | 46 => 0
  | 47 => 0
  | 48 => 0
  | 49 => 0
  | 50 => 0
  | 51 => 0
  | 52 => 0
  | 53 => 1
  | 54 => 1
  | 55 => 1
  | 56 => 1
  | 57 => 1
  | 58 => 1
  | 59 => 1
  | 60 => 1
  | 61 => 1
  | 62 => 1
  | 63 => 1
  | 64 => 2
  | 65 => 2
  | 66 => 2
  | 67 => 2
  | 68 => 3
  | 69 => 3
  | 70 => 3
  | 71 => 3
  | 72 => 3
  | 73 => 3
  | 74 => 3
  | 75 => 4
  | 76 => 4
  | 77 => 4
  | 78 => 4
  | 79 => 4
  | 80 => 4
  | 81 => 4
  | 82 => 4
  | 83 => 4
  | 84 => 4
  | 85 => 4
  | 86 => 4
  | 87 => 4
  | 88 => 4
  | 89 => 5
  | 90 => 5
  | 91 => 5
  | 92 => 5
  | 93 => 5
  | 94 => 5
  | 95 => 5
  | 96 => 5
  | 97 => 6
  | 98 => 6
  | 99 => 6
  | 100 => 6
  | 101 => 6
  | _ => 98
def pg_df (M : Nat) : List mj_V := match M with
  | 0 => [.inr none, .inl 0, .inr none, .inl 0, .inl 0, .inl 0, .inl 0]
  | 1 => [.inl 0, .inl 0, .inl 0, .inl 0, .inl 0, .inl 0, .inr none, .inl 0, .inl 0, .inl 0, .inl 0, .inl 0, .inl 0, .inl 0, .inl 0]
  | 2 => [.inr none, .inl 0]
  | 3 => [.inr none, .inl 0, .inl 0, .inl 0]
  | 4 => [.inr none, .inr none, .inr none, .inl 0, .inl 0]
  | 5 => [.inr none, .inl 0, .inr none, .inl 0]
  | 6 => [.inl 0, .inl 0, .inr none, .inr none, .inl 0, .inl 0, .inl 0, .inl 0]
  | 7 => [.inr none, .inr none]
  | _ => [.inl 0, .inl 0, .inl 0, .inr none, .inr none, .inr none, .inr none, .inr none, .inr none, .inr none, .inr none, .inr none, .inr none, .inr none, .inr none, .inr none, .inr none, .inr none, .inr none, .inl 0, .inl 0, .inl 0, .inl 0, .inl 0, .inr none, .inr none, .inr none, .inr none, .inr none, .inr none, .inr none, .inr none, .inr none, .inr none, .inr none, .inr none, .inr none, .inr none, .inr none, .inr none, .inr none, .inr none, .inr none, .inl 0]
def pg_zk (a k : Nat) : Nat := match a with
  | 0 => (match k with
    | 0 => 2
    | 1 => 0
    | 2 => 2
    | 3 => 0
    | 4 => 0
    | 5 => 0
    | _ => 0)
  | 1 => (match k with
    | 0 => 0
    | 1 => 0
    | 2 => 0
    | 3 => 0
    | 4 => 1
    | 5 => 1
    | 6 => 2
    | 7 => 0
    | 8 => 0
    | 9 => 0
    | 10 => 0
    | 11 => 0
    | 12 => 0
    | 13 => 0
    | _ => 0)
  | 2 => (match k with
    | 0 => 2
    | _ => 0)
  | 3 => (match k with
    | 0 => 2
    | 1 => 0
    | 2 => 0
    | _ => 0)
  | 4 => (match k with
    | 0 => 2
    | 1 => 2
    | 2 => 2
    | 3 => 0
    | _ => 0)
  | 5 => (match k with
    | 0 => 2
    | 1 => 0
    | 2 => 2
    | _ => 0)
  | 6 => (match k with
    | 0 => 0
    | 1 => 0
    | 2 => 2
    | 3 => 2
    | 4 => 0
    | 5 => 0
    | 6 => 0
    | _ => 0)
  | 7 => (match k with
    | 0 => 2
    | _ => 2)
  | _ => (match k with
    | 0 => 0
    | 1 => 0
    | 2 => 0
    | 3 => 2
    | 4 => 2
    | 5 => 2
    | 6 => 2
    | 7 => 2
    | 8 => 2
    | 9 => 2
    | 10 => 2
    | 11 => 2
    | 12 => 2
    | 13 => 2
    | 14 => 2
    | 15 => 2
    | 16 => 2
    | 17 => 2
    | 18 => 2
    | 19 => 0
    | 20 => 0
    | 21 => 0
    | 22 => 0
    | 23 => 0
    | 24 => 2
    | 25 => 2
    | 26 => 2
    | 27 => 2
    | 28 => 2
    | 29 => 2
    | 30 => 2
    | 31 => 2
    | 32 => 2
    | 33 => 2
    | 34 => 2
    | 35 => 2
    | 36 => 2
    | 37 => 2
    | 38 => 2
    | 39 => 2
    | 40 => 2
    | 41 => 2
    | 42 => 2
    | _ => 0)
/-- FixtureOrderLaw.law([I)Z -/
def pg_c0 : List (Nat × mj_I) := [(0, (.new 7), 3, 7, 0), (3, .dup, 1, 0, 0), (4, (.invokespecial 9), 3, 1, 1), (7, (.astore_n 1), 1, 0, 0), (8, (.new 10), 3, 8, 0), (11, .dup, 1, 0, 0), (12, (.invokespecial 12), 3, 16, 1), (15, (.astore_n 2), 1, 0, 0), (16, (.iconst 0), 1, 0, 0), (17, (.istore_n 3), 1, 0, 0), (18, (.iload_n 3), 1, 0, 0), (19, (.aload_n 0), 1, 0, 0), (20, .arraylength, 1, 0, 0), (21, (.iconst 5), 1, 0, 0), (22, .isub, 1, 0, 0), (23, (.if_icmp .gt 534), 3, 557, 0), (26, (.aload_n 0), 1, 0, 0), (27, (.iload_n 3), 1, 0, 0), (28, .iaload, 1, 0, 0), (29, (.bipush 15), 2, 0, 0), (31, .iand, 1, 0, 0), (32, (.tableswitch 519 0 12 #[68, 153, 186, 209, 242, 285, 328, 351, 364, 397, 430, 463, 496]), 68, 0, 0), (100, (.aload_n 1), 1, 0, 0), (101, (.aload_n 0), 1, 0, 0), (102, (.iload_n 3), 1, 0, 0), (103, (.iconst 1), 1, 0, 0), (104, .iadd, 1, 0, 0), (105, .iaload, 1, 0, 0), (106, (.aload_n 0), 1, 0, 0), (107, (.iload_n 3), 1, 0, 0), (108, (.iconst 2), 1, 0, 0), (109, .iadd, 1, 0, 0), (110, .iaload, 1, 0, 0), (111, (.aload_n 0), 1, 0, 0), (112, (.iload_n 3), 1, 0, 0), (113, (.iconst 3), 1, 0, 0), (114, .iadd, 1, 0, 0), (115, .iaload, 1, 0, 0), (116, (.ifCond .eq 7), 3, 123, 0), (119, (.iconst 1), 1, 0, 0), (120, (.goto 4), 3, 124, 0), (123, (.iconst 0), 1, 0, 0), (124, (.aload_n 0), 1, 0, 0), (125, (.iload_n 3), 1, 0, 0), (126, (.iconst 4), 1, 0, 0), (127, .iadd, 1, 0, 0), (128, .iaload, 1, 0, 0), (129, (.ifCond .eq 7), 3, 136, 0), (132, (.iconst 1), 1, 0, 0), (133, (.goto 4), 3, 137, 0), (136, (.iconst 0), 1, 0, 0), (137, (.invokevirtual 13), 3, 2, 5), (140, (.aload_n 2), 1, 0, 0), (141, (.aload_n 0), 1, 0, 0), (142, (.iload_n 3), 1, 0, 0), (143, (.iconst 1), 1, 0, 0), (144, .iadd, 1, 0, 0), (145, .iaload, 1, 0, 0), (146, (.aload_n 0), 1, 0, 0), (147, (.iload_n 3), 1, 0, 0), (148, (.iconst 2), 1, 0, 0), (149, .iadd, 1, 0, 0), (150, .iaload, 1, 0, 0), (151, (.aload_n 0), 1, 0, 0), (152, (.iload_n 3), 1, 0, 0), (153, (.iconst 3), 1, 0, 0), (154, .iadd, 1, 0, 0), (155, .iaload, 1, 0, 0), (156, (.ifCond .eq 7), 3, 163, 0), (159, (.iconst 1), 1, 0, 0), (160, (.goto 4), 3, 164, 0), (163, (.iconst 0), 1, 0, 0), (164, (.aload_n 0), 1, 0, 0), (165, (.iload_n 3), 1, 0, 0), (166, (.iconst 4), 1, 0, 0), (167, .iadd, 1, 0, 0), (168, .iaload, 1, 0, 0), (169, (.ifCond .eq 7), 3, 176, 0), (172, (.iconst 1), 1, 0, 0), (173, (.goto 4), 3, 177, 0), (176, (.iconst 0), 1, 0, 0), (177, (.invokevirtual 17), 3, 19, 5), (180, (.if_icmp .eq 371), 3, 551, 0), (183, (.iconst 0), 1, 0, 0), (184, .ireturn, 1, 0, 0), (185, (.aload_n 1), 1, 0, 0), (186, (.aload_n 0), 1, 0, 0), (187, (.iload_n 3), 1, 0, 0), (188, (.iconst 1), 1, 0, 0), (189, .iadd, 1, 0, 0), (190, .iaload, 1, 0, 0), (191, (.aload_n 0), 1, 0, 0), (192, (.iload_n 3), 1, 0, 0), (193, (.iconst 2), 1, 0, 0), (194, .iadd, 1, 0, 0), (195, .iaload, 1, 0, 0), (196, (.invokevirtual 18), 3, 3, 3), (199, (.aload_n 2), 1, 0, 0), (200, (.aload_n 0), 1, 0, 0), (201, (.iload_n 3), 1, 0, 0), (202, (.iconst 1), 1, 0, 0), (203, .iadd, 1, 0, 0), (204, .iaload, 1, 0, 0), (205, (.aload_n 0), 1, 0, 0), (206, (.iload_n 3), 1, 0, 0), (207, (.iconst 2), 1, 0, 0), (208, .iadd, 1, 0, 0), (209, .iaload, 1, 0, 0), (210, (.invokevirtual 22), 3, 22, 3), (213, (.if_icmp .eq 338), 3, 551, 0), (216, (.iconst 0), 1, 0, 0), (217, .ireturn, 1, 0, 0), (218, (.aload_n 1), 1, 0, 0), (219, (.aload_n 0), 1, 0, 0), (220, (.iload_n 3), 1, 0, 0), (221, (.iconst 1), 1, 0, 0), (222, .iadd, 1, 0, 0), (223, .iaload, 1, 0, 0), (224, (.invokevirtual 23), 3, 4, 2), (227, (.aload_n 2), 1, 0, 0), (228, (.aload_n 0), 1, 0, 0), (229, (.iload_n 3), 1, 0, 0), (230, (.iconst 1), 1, 0, 0), (231, .iadd, 1, 0, 0), (232, .iaload, 1, 0, 0), (233, (.invokevirtual 27), 3, 23, 2), (236, (.if_icmp .eq 315), 3, 551, 0), (239, (.iconst 0), 1, 0, 0), (240, .ireturn, 1, 0, 0), (241, (.aload_n 1), 1, 0, 0), (242, (.aload_n 0), 1, 0, 0), (243, (.iload_n 3), 1, 0, 0), (244, (.iconst 1), 1, 0, 0), (245, .iadd, 1, 0, 0), (246, .iaload, 1, 0, 0), (247, (.aload_n 0), 1, 0, 0), (248, (.iload_n 3), 1, 0, 0), (249, (.iconst 2), 1, 0, 0), (250, .iadd, 1, 0, 0), (251, .iaload, 1, 0, 0), (252, (.invokevirtual 28), 3, 5, 3), (255, (.aload_n 2), 1, 0, 0), (256, (.aload_n 0), 1, 0, 0), (257, (.iload_n 3), 1, 0, 0), (258, (.iconst 1), 1, 0, 0), (259, .iadd, 1, 0, 0), (260, .iaload, 1, 0, 0), (261, (.aload_n 0), 1, 0, 0), (262, (.iload_n 3), 1, 0, 0), (263, (.iconst 2), 1, 0, 0), (264, .iadd, 1, 0, 0), (265, .iaload, 1, 0, 0), (266, (.invokevirtual 32), 3, 24, 3), (269, (.if_icmp .eq 282), 3, 551, 0), (272, (.iconst 0), 1, 0, 0), (273, .ireturn, 1, 0, 0), (274, (.aload_n 1), 1, 0, 0), (275, (.aload_n 0), 1, 0, 0), (276, (.iload_n 3), 1, 0, 0), (277, (.iconst 1), 1, 0, 0), (278, .iadd, 1, 0, 0), (279, .iaload, 1, 0, 0), (280, (.aload_n 0), 1, 0, 0), (281, (.iload_n 3), 1, 0, 0), (282, (.iconst 2), 1, 0, 0), (283, .iadd, 1, 0, 0), (284, .iaload, 1, 0, 0), (285, (.aload_n 0), 1, 0, 0), (286, (.iload_n 3), 1, 0, 0), (287, (.iconst 3), 1, 0, 0), (288, .iadd, 1, 0, 0), (289, .iaload, 1, 0, 0), (290, (.invokevirtual 33), 3, 6, 4), (293, (.aload_n 2), 1, 0, 0), (294, (.aload_n 0), 1, 0, 0), (295, (.iload_n 3), 1, 0, 0), (296, (.iconst 1), 1, 0, 0), (297, .iadd, 1, 0, 0), (298, .iaload, 1, 0, 0), (299, (.aload_n 0), 1, 0, 0), (300, (.iload_n 3), 1, 0, 0), (301, (.iconst 2), 1, 0, 0), (302, .iadd, 1, 0, 0), (303, .iaload, 1, 0, 0), (304, (.aload_n 0), 1, 0, 0), (305, (.iload_n 3), 1, 0, 0), (306, (.iconst 3), 1, 0, 0), (307, .iadd, 1, 0, 0), (308, .iaload, 1, 0, 0), (309, (.invokevirtual 37), 3, 25, 4), (312, (.if_icmp .eq 239), 3, 551, 0), (315, (.iconst 0), 1, 0, 0), (316, .ireturn, 1, 0, 0), (317, (.aload_n 1), 1, 0, 0), (318, (.aload_n 0), 1, 0, 0), (319, (.iload_n 3), 1, 0, 0), (320, (.iconst 1), 1, 0, 0), (321, .iadd, 1, 0, 0), (322, .iaload, 1, 0, 0), (323, (.aload_n 0), 1, 0, 0), (324, (.iload_n 3), 1, 0, 0), (325, (.iconst 2), 1, 0, 0), (326, .iadd, 1, 0, 0), (327, .iaload, 1, 0, 0), (328, (.aload_n 0), 1, 0, 0), (329, (.iload_n 3), 1, 0, 0), (330, (.iconst 3), 1, 0, 0), (331, .iadd, 1, 0, 0), (332, .iaload, 1, 0, 0), (333, (.invokevirtual 38), 3, 7, 4), (336, (.aload_n 2), 1, 0, 0), (337, (.aload_n 0), 1, 0, 0), (338, (.iload_n 3), 1, 0, 0), (339, (.iconst 1), 1, 0, 0), (340, .iadd, 1, 0, 0), (341, .iaload, 1, 0, 0), (342, (.aload_n 0), 1, 0, 0), (343, (.iload_n 3), 1, 0, 0), (344, (.iconst 2), 1, 0, 0), (345, .iadd, 1, 0, 0), (346, .iaload, 1, 0, 0), (347, (.aload_n 0), 1, 0, 0), (348, (.iload_n 3), 1, 0, 0), (349, (.iconst 3), 1, 0, 0), (350, .iadd, 1, 0, 0), (351, .iaload, 1, 0, 0), (352, (.invokevirtual 41), 3, 26, 4), (355, (.if_icmp .eq 196), 3, 551, 0), (358, (.iconst 0), 1, 0, 0), (359, .ireturn, 1, 0, 0), (360, (.aload_n 1), 1, 0, 0), (361, (.aload_n 0), 1, 0, 0), (362, (.iload_n 3), 1, 0, 0), (363, (.iconst 1), 1, 0, 0), (364, .iadd, 1, 0, 0), (365, .iaload, 1, 0, 0), (366, (.invokevirtual 42), 3, 8, 2), (369, (.aload_n 2), 1, 0, 0), (370, (.aload_n 0), 1, 0, 0), (371, (.iload_n 3), 1, 0, 0), (372, (.iconst 1), 1, 0, 0), (373, .iadd, 1, 0, 0), (374, .iaload, 1, 0, 0), (375, (.invokevirtual 45), 3, 41, 2), (378, (.if_icmp .eq 173), 3, 551, 0), (381, (.iconst 0), 1, 0, 0), (382, .ireturn, 1, 0, 0), (383, (.aload_n 1), 1, 0, 0), (384, (.invokevirtual 46), 3, 9, 1), (387, (.aload_n 2), 1, 0, 0), (388, (.invokevirtual 50), 3, 42, 1), (391, (.if_icmp .eq 160), 3, 551, 0), (394, (.iconst 0), 1, 0, 0), (395, .ireturn, 1, 0, 0), (396, (.aload_n 1), 1, 0, 0), (397, (.aload_n 0), 1, 0, 0), (398, (.iload_n 3), 1, 0, 0), (399, (.iconst 1), 1, 0, 0), (400, .iadd, 1, 0, 0), (401, .iaload, 1, 0, 0), (402, (.aload_n 0), 1, 0, 0), (403, (.iload_n 3), 1, 0, 0), (404, (.iconst 2), 1, 0, 0), (405, .iadd, 1, 0, 0), (406, .iaload, 1, 0, 0), (407, (.invokevirtual 51), 3, 10, 3), (410, (.aload_n 2), 1, 0, 0), (411, (.aload_n 0), 1, 0, 0), (412, (.iload_n 3), 1, 0, 0), (413, (.iconst 1), 1, 0, 0), (414, .iadd, 1, 0, 0), (415, .iaload, 1, 0, 0), (416, (.aload_n 0), 1, 0, 0), (417, (.iload_n 3), 1, 0, 0), (418, (.iconst 2), 1, 0, 0), (419, .iadd, 1, 0, 0), (420, .iaload, 1, 0, 0), (421, (.invokevirtual 54), 3, 43, 3), (424, (.if_icmp .eq 127), 3, 551, 0), (427, (.iconst 0), 1, 0, 0), (428, .ireturn, 1, 0, 0), (429, (.aload_n 1), 1, 0, 0), (430, (.aload_n 0), 1, 0, 0), (431, (.iload_n 3), 1, 0, 0), (432, (.iconst 1), 1, 0, 0), (433, .iadd, 1, 0, 0), (434, .iaload, 1, 0, 0), (435, (.aload_n 0), 1, 0, 0), (436, (.iload_n 3), 1, 0, 0), (437, (.iconst 2), 1, 0, 0), (438, .iadd, 1, 0, 0), (439, .iaload, 1, 0, 0), (440, (.invokevirtual 55), 3, 11, 3), (443, (.aload_n 2), 1, 0, 0), (444, (.aload_n 0), 1, 0, 0), (445, (.iload_n 3), 1, 0, 0), (446, (.iconst 1), 1, 0, 0), (447, .iadd, 1, 0, 0), (448, .iaload, 1, 0, 0), (449, (.aload_n 0), 1, 0, 0), (450, (.iload_n 3), 1, 0, 0), (451, (.iconst 2), 1, 0, 0), (452, .iadd, 1, 0, 0), (453, .iaload, 1, 0, 0), (454, (.invokevirtual 58), 3, 44, 3), (457, (.if_icmp .eq 94), 3, 551, 0), (460, (.iconst 0), 1, 0, 0), (461, .ireturn, 1, 0, 0), (462, (.aload_n 1), 1, 0, 0), (463, (.aload_n 0), 1, 0, 0), (464, (.iload_n 3), 1, 0, 0), (465, (.iconst 1), 1, 0, 0), (466, .iadd, 1, 0, 0), (467, .iaload, 1, 0, 0), (468, (.aload_n 0), 1, 0, 0), (469, (.iload_n 3), 1, 0, 0), (470, (.iconst 2), 1, 0, 0), (471, .iadd, 1, 0, 0), (472, .iaload, 1, 0, 0), (473, (.invokevirtual 59), 3, 12, 3), (476, (.aload_n 2), 1, 0, 0), (477, (.aload_n 0), 1, 0, 0), (478, (.iload_n 3), 1, 0, 0), (479, (.iconst 1), 1, 0, 0), (480, .iadd, 1, 0, 0), (481, .iaload, 1, 0, 0), (482, (.aload_n 0), 1, 0, 0), (483, (.iload_n 3), 1, 0, 0), (484, (.iconst 2), 1, 0, 0), (485, .iadd, 1, 0, 0), (486, .iaload, 1, 0, 0), (487, (.invokevirtual 62), 3, 45, 3), (490, (.if_icmp .eq 61), 3, 551, 0), (493, (.iconst 0), 1, 0, 0), (494, .ireturn, 1, 0, 0), (495, (.aload_n 1), 1, 0, 0), (496, (.aload_n 0), 1, 0, 0), (497, (.iload_n 3), 1, 0, 0), (498, (.iconst 1), 1, 0, 0), (499, .iadd, 1, 0, 0), (500, .iaload, 1, 0, 0), (501, (.aload_n 0), 1, 0, 0), (502, (.iload_n 3), 1, 0, 0), (503, (.iconst 2), 1, 0, 0), (504, .iadd, 1, 0, 0), (505, .iaload, 1, 0, 0), (506, (.invokevirtual 63), 3, 13, 3), (509, (.aload_n 2), 1, 0, 0), (510, (.aload_n 0), 1, 0, 0), (511, (.iload_n 3), 1, 0, 0), (512, (.iconst 1), 1, 0, 0), (513, .iadd, 1, 0, 0), (514, .iaload, 1, 0, 0), (515, (.aload_n 0), 1, 0, 0), (516, (.iload_n 3), 1, 0, 0), (517, (.iconst 2), 1, 0, 0), (518, .iadd, 1, 0, 0), (519, .iaload, 1, 0, 0), (520, (.invokevirtual 66), 3, 30, 3), (523, (.if_icmp .eq 28), 3, 551, 0), (526, (.iconst 0), 1, 0, 0), (527, .ireturn, 1, 0, 0), (528, (.aload_n 1), 1, 0, 0), (529, (.aload_n 0), 1, 0, 0), (530, (.iload_n 3), 1, 0, 0), (531, (.iconst 1), 1, 0, 0), (532, .iadd, 1, 0, 0), (533, .iaload, 1, 0, 0), (534, (.invokevirtual 67), 3, 14, 2), (537, (.aload_n 2), 1, 0, 0), (538, (.aload_n 0), 1, 0, 0), (539, (.iload_n 3), 1, 0, 0), (540, (.iconst 1), 1, 0, 0), (541, .iadd, 1, 0, 0), (542, .iaload, 1, 0, 0), (543, (.invokevirtual 70), 3, 32, 2), (546, (.if_icmp .eq 5), 3, 551, 0), (549, (.iconst 0), 1, 0, 0), (550, .ireturn, 1, 0, 0), (551, (.iinc 3 5), 3, 0, 0), (554, (.goto (-536)), 3, 18, 0), (557, (.iconst 1), 1, 0, 0), (558, .ireturn, 1, 0, 0)]
/-- FixtureOrder.<init>()V -/
def pg_c1 : List (Nat × mj_I) := [(0, (.aload_n 0), 1, 0, 0), (1, (.invokespecial 3), 3, 9999, 1), (4, (.aload_n 0), 1, 0, 0), (5, (.new 9), 3, 5, 0), (8, .dup, 1, 0, 0), (9, (.invokespecial 11), 3, 89, 1), (12, (.putfield 12), 3, 7, 0), (15, (.aload_n 0), 1, 0, 0), (16, (.new 16), 3, 4, 0), (19, .dup, 1, 0, 0), (20, (.invokespecial 18), 3, 75, 1), (23, (.putfield 19), 3, 7, 1), (26, .return_, 1, 0, 0)]
/-- FixtureOrder.fixture(IIZZ)I -/
def pg_c2 : List (Nat × mj_I) := [(0, (.iload_n 1), 1, 0, 0), (1, (.iconst 0), 1, 0, 0), (2, (.iconst 2), 1, 0, 0), (3, (.invokestatic 23), 3, 15, 3), (6, (.ifCond .eq 12), 3, 18, 0), (9, (.iload_n 2), 1, 0, 0), (10, (.iconst 1), 1, 0, 0), (11, (.iconst 3), 1, 0, 0), (12, (.invokestatic 23), 3, 15, 3), (15, (.ifCond .ne 5), 3, 20, 0), (18, (.iconst (-1)), 1, 0, 0), (19, .ireturn, 1, 0, 0), (20, (.aload_n 0), 1, 0, 0), (21, (.getfield 12), 3, 7, 0), (24, (.iload_n 1), 1, 0, 0), (25, (.iload_n 2), 1, 0, 0), (26, (.iload_n 3), 1, 0, 0), (27, (.iload 4), 2, 0, 0), (29, (.invokevirtual 27), 3, 92, 5), (32, .ireturn, 1, 0, 0)]
/-- FixtureOrder.needs(II)I -/
def pg_c3 : List (Nat × mj_I) := [(0, (.aload_n 0), 1, 0, 0), (1, (.getfield 12), 3, 7, 0), (4, (.iload_n 1), 1, 0, 0), (5, (.invokevirtual 31), 3, 90, 2), (8, (.astore_n 3), 1, 0, 0), (9, (.aload_n 0), 1, 0, 0), (10, (.getfield 12), 3, 7, 0), (13, (.iload_n 2), 1, 0, 0), (14, (.invokevirtual 31), 3, 90, 2), (17, (.astore 4), 2, 0, 0), (19, (.aload_n 3), 1, 0, 0), (20, (.ifnull 8), 3, 28, 0), (23, (.aload 4), 2, 0, 0), (25, (.ifnonnull 5), 3, 30, 0), (28, (.iconst (-1)), 1, 0, 0), (29, .ireturn, 1, 0, 0), (30, (.aload_n 3), 1, 0, 0), (31, (.getfield 35), 3, 1, 6), (34, (.aload 4), 2, 0, 0), (36, (.invokevirtual 41), 3, 70, 2), (39, (.ifCond .eq 15), 3, 54, 0), (42, (.aload 4), 2, 0, 0), (44, (.getfield 47), 3, 1, 2), (47, (.aload_n 3), 1, 0, 0), (48, (.getfield 47), 3, 1, 2), (51, (.if_icmp .ge 5), 3, 56, 0), (54, (.iconst (-1)), 1, 0, 0), (55, .ireturn, 1, 0, 0), (56, (.aload 4), 2, 0, 0), (58, (.aload_n 3), 1, 0, 0), (59, (.if_acmp .eq 15), 3, 74, 0), (62, (.aload 4), 2, 0, 0), (64, (.aload_n 3), 1, 0, 0), (65, (.getfield 51), 3, 1, 1), (68, (.invokevirtual 54), 3, 54, 2), (71, (.ifCond .eq 6), 3, 77, 0), (74, (.bipush (-2)), 2, 0, 0), (76, .ireturn, 1, 0, 0), (77, (.aload_n 0), 1, 0, 0), (78, (.getfield 12), 3, 7, 0), (81, (.aload_n 3), 1, 0, 0), (82, (.aload 4), 2, 0, 0), (84, (.invokevirtual 58), 3, 94, 3), (87, (.iconst 1), 1, 0, 0), (88, .ireturn, 1, 0, 0)]
/-- FixtureOrder.test(I)I -/
def pg_c4 : List (Nat × mj_I) := [(0, (.iload_n 1), 1, 0, 0), (1, (.iconst 0), 1, 0, 0), (2, (.bipush 7), 2, 0, 0), (4, (.invokestatic 23), 3, 15, 3), (7, (.ifCond .eq 14), 3, 21, 0), (10, (.aload_n 0), 1, 0, 0), (11, (.getfield 12), 3, 7, 0), (14, (.iload_n 1), 1, 0, 0), (15, (.invokevirtual 62), 3, 93, 2), (18, (.goto 4), 3, 22, 0), (21, (.iconst (-1)), 1, 0, 0), (22, .ireturn, 1, 0, 0)]
/-- FixtureOrder.uses(II)Z -/
def pg_c5 : List (Nat × mj_I) := [(0, (.aload_n 0), 1, 0, 0), (1, (.getfield 12), 3, 7, 0), (4, (.iload_n 1), 1, 0, 0), (5, (.invokevirtual 66), 3, 91, 2), (8, (.astore_n 3), 1, 0, 0), (9, (.aload_n 0), 1, 0, 0), (10, (.getfield 12), 3, 7, 0), (13, (.iload_n 2), 1, 0, 0), (14, (.invokevirtual 31), 3, 90, 2), (17, (.astore 4), 2, 0, 0), (19, (.aload_n 3), 1, 0, 0), (20, (.ifnull 20), 3, 40, 0), (23, (.aload 4), 2, 0, 0), (25, (.ifnull 15), 3, 40, 0), (28, (.aload_n 3), 1, 0, 0), (29, (.getfield 70), 3, 6, 2), (32, (.aload 4), 2, 0, 0), (34, (.invokevirtual 41), 3, 70, 2), (37, (.ifCond .ne 5), 3, 42, 0), (40, (.iconst 0), 1, 0, 0), (41, .ireturn, 1, 0, 0), (42, (.aload_n 3), 1, 0, 0), (43, (.getfield 70), 3, 6, 2), (46, (.aload 4), 2, 0, 0), (48, (.invokevirtual 75), 3, 71, 2), (51, (.iconst 1), 1, 0, 0), (52, .ireturn, 1, 0, 0)]
/-- FixtureOrder.takes(III)Z -/
def pg_c6 : List (Nat × mj_I) := [(0, (.aload_n 0), 1, 0, 0), (1, (.getfield 12), 3, 7, 0), (4, (.iload_n 1), 1, 0, 0), (5, (.invokevirtual 66), 3, 91, 2), (8, (.astore 4), 2, 0, 0), (10, (.aload 4), 2, 0, 0), (12, (.ifnull 11), 3, 23, 0), (15, (.iload_n 2), 1, 0, 0), (16, (.ifCond .lt 7), 3, 23, 0), (19, (.iload_n 3), 1, 0, 0), (20, (.ifCond .ge 5), 3, 25, 0), (23, (.iconst 0), 1, 0, 0), (24, .ireturn, 1, 0, 0), (25, (.aload 4), 2, 0, 0), (27, (.iload_n 2), 1, 0, 0), (28, (.putfield 79), 3, 6, 4), (31, (.aload 4), 2, 0, 0), (33, (.iload_n 3), 1, 0, 0), (34, (.putfield 82), 3, 6, 5), (37, (.iconst 1), 1, 0, 0), (38, .ireturn, 1, 0, 0)]
/-- FixtureOrder.fails(III)Z -/
def pg_c7 : List (Nat × mj_I) := [(0, (.aload_n 0), 1, 0, 0), (1, (.getfield 12), 3, 7, 0), (4, (.iload_n 1), 1, 0, 0), (5, (.invokevirtual 66), 3, 91, 2), (8, (.astore 4), 2, 0, 0), (10, (.aload 4), 2, 0, 0), (12, (.ifnull 21), 3, 33, 0), (15, (.iload_n 2), 1, 0, 0), (16, (.iconst 0), 1, 0, 0), (17, (.iconst 2), 1, 0, 0), (18, (.invokestatic 23), 3, 15, 3), (21, (.ifCond .eq 12), 3, 33, 0), (24, (.iload_n 3), 1, 0, 0), (25, (.iconst 0), 1, 0, 0), (26, (.iconst 2), 1, 0, 0), (27, (.invokestatic 23), 3, 15, 3), (30, (.ifCond .ne 5), 3, 35, 0), (33, (.iconst 0), 1, 0, 0), (34, .ireturn, 1, 0, 0), (35, (.aload 4), 2, 0, 0), (37, (.iload_n 2), 1, 0, 0), (38, (.putfield 85), 3, 6, 6), (41, (.aload 4), 2, 0, 0), (43, (.iload_n 3), 1, 0, 0), (44, (.putfield 88), 3, 6, 7), (47, (.iconst 1), 1, 0, 0), (48, .ireturn, 1, 0, 0)]
/-- FixtureOrder.run(I)I -/
def pg_c8 : List (Nat × mj_I) := [(0, (.iload_n 1), 1, 0, 0), (1, (.iconst 0), 1, 0, 0), (2, (.iconst 1), 1, 0, 0), (3, (.invokestatic 23), 3, 15, 3), (6, (.ifCond .ne 5), 3, 11, 0), (9, (.iconst (-1)), 1, 0, 0), (10, .ireturn, 1, 0, 0), (11, (.aload_n 0), 1, 0, 0), (12, (.getfield 12), 3, 7, 0), (15, (.invokevirtual 91), 3, 96, 1), (18, (.bipush 40), 2, 0, 0), (20, (.if_icmp .le 5), 3, 25, 0), (23, (.iconst (-1)), 1, 0, 0), (24, .ireturn, 1, 0, 0), (25, (.aload_n 0), 1, 0, 0), (26, (.getfield 19), 3, 7, 1), (29, (.aload_n 0), 1, 0, 0), (30, (.getfield 12), 3, 7, 0), (33, (.iload_n 1), 1, 0, 0), (34, (.invokevirtual 95), 3, 77, 3), (37, (.aload_n 0), 1, 0, 0), (38, (.getfield 19), 3, 7, 1), (41, (.getfield 99), 3, 4, 3), (44, .ireturn, 1, 0, 0)]
/-- FixtureOrder.events()I -/
def pg_c9 : List (Nat × mj_I) := [(0, (.aload_n 0), 1, 0, 0), (1, (.getfield 19), 3, 7, 1), (4, (.getfield 102), 3, 4, 1), (7, (.getfield 106), 3, 2, 1), (10, .ireturn, 1, 0, 0)]
/-- FixtureOrder.event(II)I -/
def pg_c10 : List (Nat × mj_I) := [(0, (.aload_n 0), 1, 0, 0), (1, (.getfield 19), 3, 7, 1), (4, (.getfield 102), 3, 4, 1), (7, (.iload_n 1), 1, 0, 0), (8, (.iload_n 2), 1, 0, 0), (9, (.invokevirtual 111), 3, 67, 3), (12, .ireturn, 1, 0, 0)]
/-- FixtureOrder.outcome(II)I -/
def pg_c11 : List (Nat × mj_I) := [(0, (.aload_n 0), 1, 0, 0), (1, (.getfield 19), 3, 7, 1), (4, (.iload_n 1), 1, 0, 0), (5, (.invokevirtual 115), 3, 76, 2), (8, (.astore_n 3), 1, 0, 0), (9, (.aload_n 3), 1, 0, 0), (10, (.ifnonnull 7), 3, 17, 0), (13, (.iconst (-1)), 1, 0, 0), (14, (.goto 8), 3, 22, 0), (17, (.aload_n 3), 1, 0, 0), (18, (.iload_n 2), 1, 0, 0), (19, (.invokevirtual 119), 3, 52, 2), (22, .ireturn, 1, 0, 0)]
/-- FixtureOrder.counted(II)I -/
def pg_c12 : List (Nat × mj_I) := [(0, (.aload_n 0), 1, 0, 0), (1, (.getfield 12), 3, 7, 0), (4, (.iload_n 1), 1, 0, 0), (5, (.invokevirtual 31), 3, 90, 2), (8, (.astore_n 3), 1, 0, 0), (9, (.aload_n 3), 1, 0, 0), (10, (.ifnull 14), 3, 24, 0), (13, (.iload_n 1), 1, 0, 0), (14, (.aload_n 0), 1, 0, 0), (15, (.getfield 19), 3, 7, 1), (18, (.getfield 123), 3, 4, 4), (21, (.if_icmp .lt 5), 3, 26, 0), (24, (.iconst (-1)), 1, 0, 0), (25, .ireturn, 1, 0, 0), (26, (.aload_n 3), 1, 0, 0), (27, (.iload_n 2), 1, 0, 0), (28, (.invokevirtual 126), 3, 63, 2), (31, .ireturn, 1, 0, 0)]
/-- FixtureOrder.closure(II)I -/
def pg_c13 : List (Nat × mj_I) := [(0, (.aload_n 0), 1, 0, 0), (1, (.getfield 12), 3, 7, 0), (4, (.iload_n 1), 1, 0, 0), (5, (.invokevirtual 66), 3, 91, 2), (8, (.astore_n 3), 1, 0, 0), (9, (.aload_n 3), 1, 0, 0), (10, (.ifnonnull 5), 3, 15, 0), (13, (.iconst (-1)), 1, 0, 0), (14, .ireturn, 1, 0, 0), (15, (.aload_n 3), 1, 0, 0), (16, (.invokevirtual 129), 3, 98, 1), (19, (.aload_n 3), 1, 0, 0), (20, (.getfield 132), 3, 6, 3), (23, (.iload_n 2), 1, 0, 0), (24, (.invokevirtual 135), 3, 73, 2), (27, (.astore 4), 2, 0, 0), (29, (.aload 4), 2, 0, 0), (31, (.ifnonnull 7), 3, 38, 0), (34, (.iconst (-1)), 1, 0, 0), (35, (.goto 8), 3, 43, 0), (38, (.aload 4), 2, 0, 0), (40, (.getfield 138), 3, 1, 0), (43, .ireturn, 1, 0, 0)]
/-- FixtureOrder.cases(I)I -/
def pg_c14 : List (Nat × mj_I) := [(0, (.aload_n 0), 1, 0, 0), (1, (.getfield 12), 3, 7, 0), (4, (.iload_n 1), 1, 0, 0), (5, (.invokevirtual 66), 3, 91, 2), (8, (.astore_n 2), 1, 0, 0), (9, (.aload_n 2), 1, 0, 0), (10, (.ifnonnull 7), 3, 17, 0), (13, (.iconst (-1)), 1, 0, 0), (14, (.goto 7), 3, 21, 0), (17, (.aload_n 2), 1, 0, 0), (18, (.invokevirtual 141), 3, 100, 1), (21, .ireturn, 1, 0, 0)]
/-- FixtureOrder.isWithin(III)Z -/
def pg_c15 : List (Nat × mj_I) := [(0, (.iload_n 0), 1, 0, 0), (1, (.iload_n 1), 1, 0, 0), (2, (.if_icmp .lt 12), 3, 14, 0), (5, (.iload_n 0), 1, 0, 0), (6, (.iload_n 2), 1, 0, 0), (7, (.if_icmp .gt 7), 3, 14, 0), (10, (.iconst 1), 1, 0, 0), (11, (.goto 4), 3, 15, 0), (14, (.iconst 0), 1, 0, 0), (15, .ireturn, 1, 0, 0)]
/-- FixtureOrderModel.<init>()V -/
def pg_c16 : List (Nat × mj_I) := [(0, (.aload_n 0), 1, 0, 0), (1, (.invokespecial 1), 3, 9999, 1), (4, (.aload_n 0), 1, 0, 0), (5, (.bipush 12), 2, 0, 0), (7, (.newarray .int), 2, 0, 0), (9, (.putfield 7), 3, 8, 3), (12, (.aload_n 0), 1, 0, 0), (13, (.bipush 12), 2, 0, 0), (15, (.newarray .int), 2, 0, 0), (17, (.putfield 13), 3, 8, 4), (20, (.aload_n 0), 1, 0, 0), (21, (.bipush 12), 2, 0, 0), (23, (.newarray .int), 2, 0, 0), (25, (.putfield 16), 3, 8, 5), (28, (.aload_n 0), 1, 0, 0), (29, (.bipush 72), 2, 0, 0), (31, (.newarray .int), 2, 0, 0), (33, (.putfield 19), 3, 8, 6), (36, (.aload_n 0), 1, 0, 0), (37, (.bipush 12), 2, 0, 0), (39, (.newarray .boolean), 2, 0, 0), (41, (.putfield 22), 3, 8, 7), (44, (.aload_n 0), 1, 0, 0), (45, (.bipush 12), 2, 0, 0), (47, (.newarray .boolean), 2, 0, 0), (49, (.putfield 26), 3, 8, 8), (52, (.aload_n 0), 1, 0, 0), (53, (.bipush 20), 2, 0, 0), (55, (.newarray .int), 2, 0, 0), (57, (.putfield 29), 3, 8, 9), (60, (.aload_n 0), 1, 0, 0), (61, (.bipush 20), 2, 0, 0), (63, (.newarray .int), 2, 0, 0), (65, (.putfield 32), 3, 8, 10), (68, (.aload_n 0), 1, 0, 0), (69, (.bipush 120), 2, 0, 0), (71, (.newarray .int), 2, 0, 0), (73, (.putfield 35), 3, 8, 11), (76, (.aload_n 0), 1, 0, 0), (77, (.bipush 20), 2, 0, 0), (79, (.newarray .int), 2, 0, 0), (81, (.putfield 38), 3, 8, 12), (84, (.aload_n 0), 1, 0, 0), (85, (.bipush 20), 2, 0, 0), (87, (.newarray .int), 2, 0, 0), (89, (.putfield 41), 3, 8, 13), (92, (.aload_n 0), 1, 0, 0), (93, (.bipush 20), 2, 0, 0), (95, (.newarray .int), 2, 0, 0), (97, (.putfield 44), 3, 8, 14), (100, (.aload_n 0), 1, 0, 0), (101, (.bipush 20), 2, 0, 0), (103, (.newarray .int), 2, 0, 0), (105, (.putfield 47), 3, 8, 15), (108, (.aload_n 0), 1, 0, 0), (109, (.bipush 12), 2, 0, 0), (111, (.newarray .int), 2, 0, 0), (113, (.putfield 50), 3, 8, 16), (116, (.aload_n 0), 1, 0, 0), (117, (.bipush 80), 2, 0, 0), (119, (.newarray .int), 2, 0, 0), (121, (.putfield 53), 3, 8, 17), (124, (.aload_n 0), 1, 0, 0), (125, (.bipush 80), 2, 0, 0), (127, (.newarray .int), 2, 0, 0), (129, (.putfield 56), 3, 8, 18), (132, (.aload_n 0), 1, 0, 0), (133, (.bipush 12), 2, 0, 0), (135, (.newarray .int), 2, 0, 0), (137, (.putfield 59), 3, 8, 24), (140, (.aload_n 0), 1, 0, 0), (141, (.bipush 12), 2, 0, 0), (143, (.newarray .int), 2, 0, 0), (145, (.putfield 62), 3, 8, 25), (148, (.aload_n 0), 1, 0, 0), (149, (.bipush 12), 2, 0, 0), (151, (.newarray .int), 2, 0, 0), (153, (.putfield 65), 3, 8, 26), (156, (.aload_n 0), 1, 0, 0), (157, (.bipush 12), 2, 0, 0), (159, (.newarray .int), 2, 0, 0), (161, (.putfield 68), 3, 8, 27), (164, (.aload_n 0), 1, 0, 0), (165, (.bipush 12), 2, 0, 0), (167, (.newarray .int), 2, 0, 0), (169, (.putfield 71), 3, 8, 28), (172, (.aload_n 0), 1, 0, 0), (173, (.bipush 12), 2, 0, 0), (175, (.newarray .int), 2, 0, 0), (177, (.putfield 74), 3, 8, 29), (180, (.aload_n 0), 1, 0, 0), (181, (.bipush 12), 2, 0, 0), (183, (.newarray .int), 2, 0, 0), (185, (.putfield 77), 3, 8, 30), (188, (.aload_n 0), 1, 0, 0), (189, (.bipush 12), 2, 0, 0), (191, (.newarray .int), 2, 0, 0), (193, (.putfield 80), 3, 8, 31), (196, (.aload_n 0), 1, 0, 0), (197, (.sipush 8000), 3, 0, 0), (200, (.newarray .int), 2, 0, 0), (202, (.putfield 83), 3, 8, 32), (205, (.aload_n 0), 1, 0, 0), (206, (.sipush 8000), 3, 0, 0), (209, (.newarray .int), 2, 0, 0), (211, (.putfield 86), 3, 8, 33), (214, (.aload_n 0), 1, 0, 0), (215, (.sipush 8000), 3, 0, 0), (218, (.newarray .int), 2, 0, 0), (220, (.putfield 89), 3, 8, 34), (223, (.aload_n 0), 1, 0, 0), (224, (.bipush 40), 2, 0, 0), (226, (.newarray .int), 2, 0, 0), (228, (.putfield 92), 3, 8, 35), (231, (.aload_n 0), 1, 0, 0), (232, (.bipush 40), 2, 0, 0), (234, (.newarray .int), 2, 0, 0), (236, (.putfield 95), 3, 8, 36), (239, (.aload_n 0), 1, 0, 0), (240, (.bipush 40), 2, 0, 0), (242, (.newarray .int), 2, 0, 0), (244, (.putfield 98), 3, 8, 37), (247, (.aload_n 0), 1, 0, 0), (248, (.bipush 40), 2, 0, 0), (250, (.newarray .int), 2, 0, 0), (252, (.putfield 101), 3, 8, 38), (255, (.aload_n 0), 1, 0, 0), (256, (.bipush 40), 2, 0, 0), (258, (.newarray .int), 2, 0, 0), (260, (.putfield 104), 3, 8, 39), (263, (.aload_n 0), 1, 0, 0), (264, (.bipush 40), 2, 0, 0), (266, (.newarray .int), 2, 0, 0), (268, (.putfield 107), 3, 8, 40), (271, (.aload_n 0), 1, 0, 0), (272, (.sipush 160), 3, 0, 0), (275, (.newarray .boolean), 2, 0, 0), (277, (.putfield 110), 3, 8, 41), (280, (.aload_n 0), 1, 0, 0), (281, (.bipush 12), 2, 0, 0), (283, (.newarray .boolean), 2, 0, 0), (285, (.putfield 113), 3, 8, 42), (288, .return_, 1, 0, 0)]
/-- FixtureOrderModel.isFixture(I)Z -/
def pg_c17 : List (Nat × mj_I) := [(0, (.iload_n 1), 1, 0, 0), (1, (.ifCond .lt 15), 3, 16, 0), (4, (.iload_n 1), 1, 0, 0), (5, (.aload_n 0), 1, 0, 0), (6, (.getfield 120), 3, 8, 1), (9, (.if_icmp .ge 7), 3, 16, 0), (12, (.iconst 1), 1, 0, 0), (13, (.goto 4), 3, 17, 0), (16, (.iconst 0), 1, 0, 0), (17, .ireturn, 1, 0, 0)]
/-- FixtureOrderModel.isTest(I)Z -/
def pg_c18 : List (Nat × mj_I) := [(0, (.iload_n 1), 1, 0, 0), (1, (.ifCond .lt 15), 3, 16, 0), (4, (.iload_n 1), 1, 0, 0), (5, (.aload_n 0), 1, 0, 0), (6, (.getfield 123), 3, 8, 2), (9, (.if_icmp .ge 7), 3, 16, 0), (12, (.iconst 1), 1, 0, 0), (13, (.goto 4), 3, 17, 0), (16, (.iconst 0), 1, 0, 0), (17, .ireturn, 1, 0, 0)]
/-- FixtureOrderModel.fixture(IIZZ)I -/
def pg_c19 : List (Nat × mj_I) := [(0, (.aload_n 0), 1, 0, 0), (1, (.iconst 0), 1, 0, 0), (2, (.putfield 116), 3, 8, 0), (5, (.aload_n 0), 1, 0, 0), (6, (.getfield 120), 3, 8, 1), (9, (.bipush 12), 2, 0, 0), (11, (.if_icmp .eq 22), 3, 33, 0), (14, (.iload_n 1), 1, 0, 0), (15, (.ifCond .lt 18), 3, 33, 0), (18, (.iload_n 1), 1, 0, 0), (19, (.iconst 2), 1, 0, 0), (20, (.if_icmp .gt 13), 3, 33, 0), (23, (.iload_n 2), 1, 0, 0), (24, (.iconst 1), 1, 0, 0), (25, (.if_icmp .lt 8), 3, 33, 0), (28, (.iload_n 2), 1, 0, 0), (29, (.iconst 3), 1, 0, 0), (30, (.if_icmp .le 5), 3, 35, 0), (33, (.iconst (-1)), 1, 0, 0), (34, .ireturn, 1, 0, 0), (35, (.aload_n 0), 1, 0, 0), (36, (.getfield 7), 3, 8, 3), (39, (.aload_n 0), 1, 0, 0), (40, (.getfield 120), 3, 8, 1), (43, (.iload_n 1), 1, 0, 0), (44, .iastore, 1, 0, 0), (45, (.aload_n 0), 1, 0, 0), (46, (.getfield 13), 3, 8, 4), (49, (.aload_n 0), 1, 0, 0), (50, (.getfield 120), 3, 8, 1), (53, (.iload_n 2), 1, 0, 0), (54, .iastore, 1, 0, 0), (55, (.aload_n 0), 1, 0, 0), (56, (.getfield 22), 3, 8, 7), (59, (.aload_n 0), 1, 0, 0), (60, (.getfield 120), 3, 8, 1), (63, (.iload_n 3), 1, 0, 0), (64, .bastore, 1, 0, 0), (65, (.aload_n 0), 1, 0, 0), (66, (.getfield 26), 3, 8, 8), (69, (.aload_n 0), 1, 0, 0), (70, (.getfield 120), 3, 8, 1), (73, (.iload 4), 2, 0, 0), (75, .bastore, 1, 0, 0), (76, (.aload_n 0), 1, 0, 0), (77, .dup, 1, 0, 0), (78, (.getfield 120), 3, 8, 1), (81, (.iconst 1), 1, 0, 0), (82, .iadd, 1, 0, 0), (83, (.putfield 120), 3, 8, 1), (86, (.aload_n 0), 1, 0, 0), (87, (.getfield 120), 3, 8, 1), (90, (.iconst 1), 1, 0, 0), (91, .isub, 1, 0, 0), (92, .ireturn, 1, 0, 0)]
/-- FixtureOrderModel.isNeed(II)Z -/
def pg_c20 : List (Nat × mj_I) := [(0, (.iconst 0), 1, 0, 0), (1, (.istore_n 3), 1, 0, 0), (2, (.iconst 0), 1, 0, 0), (3, (.istore 4), 2, 0, 0), (5, (.iload 4), 2, 0, 0), (7, (.aload_n 0), 1, 0, 0), (8, (.getfield 16), 3, 8, 5), (11, (.iload_n 1), 1, 0, 0), (12, .iaload, 1, 0, 0), (13, (.if_icmp .ge 35), 3, 48, 0), (16, (.iload_n 3), 1, 0, 0), (17, (.ifCond .ne 19), 3, 36, 0), (20, (.aload_n 0), 1, 0, 0), (21, (.getfield 19), 3, 8, 6), (24, (.bipush 6), 2, 0, 0), (26, (.iload_n 1), 1, 0, 0), (27, .imul, 1, 0, 0), (28, (.iload 4), 2, 0, 0), (30, .iadd, 1, 0, 0), (31, .iaload, 1, 0, 0), (32, (.iload_n 2), 1, 0, 0), (33, (.if_icmp .ne 7), 3, 40, 0), (36, (.iconst 1), 1, 0, 0), (37, (.goto 4), 3, 41, 0), (40, (.iconst 0), 1, 0, 0), (41, (.istore_n 3), 1, 0, 0), (42, (.iinc 4 1), 3, 0, 0), (45, (.goto (-40)), 3, 5, 0), (48, (.iload_n 3), 1, 0, 0), (49, .ireturn, 1, 0, 0)]
/-- FixtureOrderModel.leads(II)Z -/
def pg_c21 : List (Nat × mj_I) := [(0, (.iconst 1), 1, 0, 0), (1, (.iload_n 1), 1, 0, 0), (2, .ishl, 1, 0, 0), (3, (.istore_n 3), 1, 0, 0), (4, (.iconst 0), 1, 0, 0), (5, (.istore 4), 2, 0, 0), (7, (.iload 4), 2, 0, 0), (9, (.bipush 12), 2, 0, 0), (11, (.if_icmp .ge 80), 3, 91, 0), (14, (.iconst 0), 1, 0, 0), (15, (.istore 5), 2, 0, 0), (17, (.iload 5), 2, 0, 0), (19, (.aload_n 0), 1, 0, 0), (20, (.getfield 120), 3, 8, 1), (23, (.if_icmp .ge 62), 3, 85, 0), (26, (.iconst 0), 1, 0, 0), (27, (.istore 6), 2, 0, 0), (29, (.iload 6), 2, 0, 0), (31, (.aload_n 0), 1, 0, 0), (32, (.getfield 16), 3, 8, 5), (35, (.iload 5), 2, 0, 0), (37, .iaload, 1, 0, 0), (38, (.if_icmp .ge 41), 3, 79, 0), (41, (.iload_n 3), 1, 0, 0), (42, (.iload_n 3), 1, 0, 0), (43, (.iload 5), 2, 0, 0), (45, .ishr, 1, 0, 0), (46, (.iconst 1), 1, 0, 0), (47, .iand, 1, 0, 0), (48, (.iconst 1), 1, 0, 0), (49, (.if_icmp .ne 21), 3, 70, 0), (52, (.iconst 1), 1, 0, 0), (53, (.aload_n 0), 1, 0, 0), (54, (.getfield 19), 3, 8, 6), (57, (.bipush 6), 2, 0, 0), (59, (.iload 5), 2, 0, 0), (61, .imul, 1, 0, 0), (62, (.iload 6), 2, 0, 0), (64, .iadd, 1, 0, 0), (65, .iaload, 1, 0, 0), (66, .ishl, 1, 0, 0), (67, (.goto 4), 3, 71, 0), (70, (.iconst 0), 1, 0, 0), (71, .ior, 1, 0, 0), (72, (.istore_n 3), 1, 0, 0), (73, (.iinc 6 1), 3, 0, 0), (76, (.goto (-47)), 3, 29, 0), (79, (.iinc 5 1), 3, 0, 0), (82, (.goto (-65)), 3, 17, 0), (85, (.iinc 4 1), 3, 0, 0), (88, (.goto (-81)), 3, 7, 0), (91, (.iload_n 3), 1, 0, 0), (92, (.iload_n 2), 1, 0, 0), (93, .ishr, 1, 0, 0), (94, (.iconst 1), 1, 0, 0), (95, .iand, 1, 0, 0), (96, (.iconst 1), 1, 0, 0), (97, (.if_icmp .ne 7), 3, 104, 0), (100, (.iconst 1), 1, 0, 0), (101, (.goto 4), 3, 105, 0), (104, (.iconst 0), 1, 0, 0), (105, .ireturn, 1, 0, 0)]
/-- FixtureOrderModel.needs(II)I -/
def pg_c22 : List (Nat × mj_I) := [(0, (.aload_n 0), 1, 0, 0), (1, (.iconst 0), 1, 0, 0), (2, (.putfield 116), 3, 8, 0), (5, (.aload_n 0), 1, 0, 0), (6, (.iload_n 1), 1, 0, 0), (7, (.invokevirtual 126), 3, 17, 2), (10, (.ifCond .eq 46), 3, 56, 0), (13, (.aload_n 0), 1, 0, 0), (14, (.iload_n 2), 1, 0, 0), (15, (.invokevirtual 126), 3, 17, 2), (18, (.ifCond .eq 38), 3, 56, 0), (21, (.aload_n 0), 1, 0, 0), (22, (.iload_n 1), 1, 0, 0), (23, (.iload_n 2), 1, 0, 0), (24, (.invokevirtual 130), 3, 20, 3), (27, (.ifCond .ne 29), 3, 56, 0), (30, (.aload_n 0), 1, 0, 0), (31, (.getfield 16), 3, 8, 5), (34, (.iload_n 1), 1, 0, 0), (35, .iaload, 1, 0, 0), (36, (.bipush 6), 2, 0, 0), (38, (.if_icmp .eq 18), 3, 56, 0), (41, (.aload_n 0), 1, 0, 0), (42, (.getfield 7), 3, 8, 3), (45, (.iload_n 2), 1, 0, 0), (46, .iaload, 1, 0, 0), (47, (.aload_n 0), 1, 0, 0), (48, (.getfield 7), 3, 8, 3), (51, (.iload_n 1), 1, 0, 0), (52, .iaload, 1, 0, 0), (53, (.if_icmp .ge 5), 3, 58, 0), (56, (.iconst (-1)), 1, 0, 0), (57, .ireturn, 1, 0, 0), (58, (.aload_n 0), 1, 0, 0), (59, (.iload_n 2), 1, 0, 0), (60, (.iload_n 1), 1, 0, 0), (61, (.invokevirtual 134), 3, 21, 3), (64, (.ifCond .eq 6), 3, 70, 0), (67, (.bipush (-2)), 2, 0, 0), (69, .ireturn, 1, 0, 0), (70, (.aload_n 0), 1, 0, 0), (71, (.getfield 19), 3, 8, 6), (74, (.bipush 6), 2, 0, 0), (76, (.iload_n 1), 1, 0, 0), (77, .imul, 1, 0, 0), (78, (.aload_n 0), 1, 0, 0), (79, (.getfield 16), 3, 8, 5), (82, (.iload_n 1), 1, 0, 0), (83, .iaload, 1, 0, 0), (84, .iadd, 1, 0, 0), (85, (.iload_n 2), 1, 0, 0), (86, .iastore, 1, 0, 0), (87, (.aload_n 0), 1, 0, 0), (88, (.getfield 16), 3, 8, 5), (91, (.iload_n 1), 1, 0, 0), (92, .dup2, 1, 0, 0), (93, .iaload, 1, 0, 0), (94, (.iconst 1), 1, 0, 0), (95, .iadd, 1, 0, 0), (96, .iastore, 1, 0, 0), (97, (.iconst 1), 1, 0, 0), (98, .ireturn, 1, 0, 0)]
/-- FixtureOrderModel.test(I)I -/
def pg_c23 : List (Nat × mj_I) := [(0, (.aload_n 0), 1, 0, 0), (1, (.iconst 0), 1, 0, 0), (2, (.putfield 116), 3, 8, 0), (5, (.aload_n 0), 1, 0, 0), (6, (.getfield 123), 3, 8, 2), (9, (.bipush 20), 2, 0, 0), (11, (.if_icmp .eq 13), 3, 24, 0), (14, (.iload_n 1), 1, 0, 0), (15, (.ifCond .lt 9), 3, 24, 0), (18, (.iload_n 1), 1, 0, 0), (19, (.bipush 7), 2, 0, 0), (21, (.if_icmp .le 5), 3, 26, 0), (24, (.iconst (-1)), 1, 0, 0), (25, .ireturn, 1, 0, 0), (26, (.aload_n 0), 1, 0, 0), (27, (.getfield 29), 3, 8, 9), (30, (.aload_n 0), 1, 0, 0), (31, (.getfield 123), 3, 8, 2), (34, (.iload_n 1), 1, 0, 0), (35, .iastore, 1, 0, 0), (36, (.aload_n 0), 1, 0, 0), (37, .dup, 1, 0, 0), (38, (.getfield 123), 3, 8, 2), (41, (.iconst 1), 1, 0, 0), (42, .iadd, 1, 0, 0), (43, (.putfield 123), 3, 8, 2), (46, (.aload_n 0), 1, 0, 0), (47, (.getfield 123), 3, 8, 2), (50, (.iconst 1), 1, 0, 0), (51, .isub, 1, 0, 0), (52, .ireturn, 1, 0, 0)]
/-- FixtureOrderModel.uses(II)Z -/
def pg_c24 : List (Nat × mj_I) := [(0, (.aload_n 0), 1, 0, 0), (1, (.iconst 0), 1, 0, 0), (2, (.putfield 116), 3, 8, 0), (5, (.aload_n 0), 1, 0, 0), (6, (.iload_n 1), 1, 0, 0), (7, (.invokevirtual 137), 3, 18, 2), (10, (.ifCond .eq 22), 3, 32, 0), (13, (.aload_n 0), 1, 0, 0), (14, (.iload_n 2), 1, 0, 0), (15, (.invokevirtual 126), 3, 17, 2), (18, (.ifCond .eq 14), 3, 32, 0), (21, (.aload_n 0), 1, 0, 0), (22, (.getfield 32), 3, 8, 10), (25, (.iload_n 1), 1, 0, 0), (26, .iaload, 1, 0, 0), (27, (.bipush 6), 2, 0, 0), (29, (.if_icmp .ne 7), 3, 36, 0), (32, (.iconst 1), 1, 0, 0), (33, (.goto 4), 3, 37, 0), (36, (.iconst 0), 1, 0, 0), (37, (.istore_n 3), 1, 0, 0), (38, (.iconst 0), 1, 0, 0), (39, (.istore 4), 2, 0, 0), (41, (.iload_n 3), 1, 0, 0), (42, (.ifCond .ne 42), 3, 84, 0), (45, (.iload 4), 2, 0, 0), (47, (.aload_n 0), 1, 0, 0), (48, (.getfield 32), 3, 8, 10), (51, (.iload_n 1), 1, 0, 0), (52, .iaload, 1, 0, 0), (53, (.if_icmp .ge 31), 3, 84, 0), (56, (.aload_n 0), 1, 0, 0), (57, (.getfield 35), 3, 8, 11), (60, (.bipush 6), 2, 0, 0), (62, (.iload_n 1), 1, 0, 0), (63, .imul, 1, 0, 0), (64, (.iload 4), 2, 0, 0), (66, .iadd, 1, 0, 0), (67, .iaload, 1, 0, 0), (68, (.iload_n 2), 1, 0, 0), (69, (.if_icmp .ne 7), 3, 76, 0), (72, (.iconst 1), 1, 0, 0), (73, (.goto 4), 3, 77, 0), (76, (.iconst 0), 1, 0, 0), (77, (.istore_n 3), 1, 0, 0), (78, (.iinc 4 1), 3, 0, 0), (81, (.goto (-40)), 3, 41, 0), (84, (.iload_n 3), 1, 0, 0), (85, (.ifCond .eq 5), 3, 90, 0), (88, (.iconst 0), 1, 0, 0), (89, .ireturn, 1, 0, 0), (90, (.aload_n 0), 1, 0, 0), (91, (.getfield 35), 3, 8, 11), (94, (.bipush 6), 2, 0, 0), (96, (.iload_n 1), 1, 0, 0), (97, .imul, 1, 0, 0), (98, (.aload_n 0), 1, 0, 0), (99, (.getfield 32), 3, 8, 10), (102, (.iload_n 1), 1, 0, 0), (103, .iaload, 1, 0, 0), (104, .iadd, 1, 0, 0), (105, (.iload_n 2), 1, 0, 0), (106, .iastore, 1, 0, 0), (107, (.aload_n 0), 1, 0, 0), (108, (.getfield 32), 3, 8, 10), (111, (.iload_n 1), 1, 0, 0), (112, .dup2, 1, 0, 0), (113, .iaload, 1, 0, 0), (114, (.iconst 1), 1, 0, 0), (115, .iadd, 1, 0, 0), (116, .iastore, 1, 0, 0), (117, (.iconst 1), 1, 0, 0), (118, .ireturn, 1, 0, 0)]
/-- FixtureOrderModel.takes(III)Z -/
def pg_c25 : List (Nat × mj_I) := [(0, (.aload_n 0), 1, 0, 0), (1, (.iconst 0), 1, 0, 0), (2, (.putfield 116), 3, 8, 0), (5, (.aload_n 0), 1, 0, 0), (6, (.iload_n 1), 1, 0, 0), (7, (.invokevirtual 137), 3, 18, 2), (10, (.ifCond .eq 11), 3, 21, 0), (13, (.iload_n 2), 1, 0, 0), (14, (.ifCond .lt 7), 3, 21, 0), (17, (.iload_n 3), 1, 0, 0), (18, (.ifCond .ge 5), 3, 23, 0), (21, (.iconst 0), 1, 0, 0), (22, .ireturn, 1, 0, 0), (23, (.aload_n 0), 1, 0, 0), (24, (.getfield 38), 3, 8, 12), (27, (.iload_n 1), 1, 0, 0), (28, (.iload_n 2), 1, 0, 0), (29, .iastore, 1, 0, 0), (30, (.aload_n 0), 1, 0, 0), (31, (.getfield 41), 3, 8, 13), (34, (.iload_n 1), 1, 0, 0), (35, (.iload_n 3), 1, 0, 0), (36, .iastore, 1, 0, 0), (37, (.iconst 1), 1, 0, 0), (38, .ireturn, 1, 0, 0)]
/-- FixtureOrderModel.fails(III)Z -/
def pg_c26 : List (Nat × mj_I) := [(0, (.aload_n 0), 1, 0, 0), (1, (.iconst 0), 1, 0, 0), (2, (.putfield 116), 3, 8, 0), (5, (.aload_n 0), 1, 0, 0), (6, (.iload_n 1), 1, 0, 0), (7, (.invokevirtual 137), 3, 18, 2), (10, (.ifCond .eq 21), 3, 31, 0), (13, (.iload_n 2), 1, 0, 0), (14, (.ifCond .lt 17), 3, 31, 0), (17, (.iload_n 2), 1, 0, 0), (18, (.iconst 2), 1, 0, 0), (19, (.if_icmp .gt 12), 3, 31, 0), (22, (.iload_n 3), 1, 0, 0), (23, (.ifCond .lt 8), 3, 31, 0), (26, (.iload_n 3), 1, 0, 0), (27, (.iconst 2), 1, 0, 0), (28, (.if_icmp .le 5), 3, 33, 0), (31, (.iconst 0), 1, 0, 0), (32, .ireturn, 1, 0, 0), (33, (.aload_n 0), 1, 0, 0), (34, (.getfield 44), 3, 8, 14), (37, (.iload_n 1), 1, 0, 0), (38, (.iload_n 2), 1, 0, 0), (39, .iastore, 1, 0, 0), (40, (.aload_n 0), 1, 0, 0), (41, (.getfield 47), 3, 8, 15), (44, (.iload_n 1), 1, 0, 0), (45, (.iload_n 3), 1, 0, 0), (46, .iastore, 1, 0, 0), (47, (.iconst 1), 1, 0, 0), (48, .ireturn, 1, 0, 0)]
/-- FixtureOrderModel.isClosed(I)Z -/
def pg_c27 : List (Nat × mj_I) := [(0, (.iconst 0), 1, 0, 0), (1, (.istore_n 2), 1, 0, 0), (2, (.iconst 0), 1, 0, 0), (3, (.istore_n 3), 1, 0, 0), (4, (.iload_n 3), 1, 0, 0), (5, (.aload_n 0), 1, 0, 0), (6, (.getfield 140), 3, 8, 19), (9, (.if_icmp .ge 29), 3, 38, 0), (12, (.iload_n 2), 1, 0, 0), (13, (.ifCond .ne 13), 3, 26, 0), (16, (.aload_n 0), 1, 0, 0), (17, (.getfield 50), 3, 8, 16), (20, (.iload_n 3), 1, 0, 0), (21, .iaload, 1, 0, 0), (22, (.iload_n 1), 1, 0, 0), (23, (.if_icmp .ne 7), 3, 30, 0), (26, (.iconst 1), 1, 0, 0), (27, (.goto 4), 3, 31, 0), (30, (.iconst 0), 1, 0, 0), (31, (.istore_n 2), 1, 0, 0), (32, (.iinc 3 1), 3, 0, 0), (35, (.goto (-31)), 3, 4, 0), (38, (.iload_n 2), 1, 0, 0), (39, .ireturn, 1, 0, 0)]
/-- FixtureOrderModel.close(I)V -/
def pg_c28 : List (Nat × mj_I) := [(0, (.iconst 1), 1, 0, 0), (1, (.istore_n 2), 1, 0, 0), (2, (.aload_n 0), 1, 0, 0), (3, (.getfield 53), 3, 8, 17), (6, (.iconst 0), 1, 0, 0), (7, (.iload_n 1), 1, 0, 0), (8, .iastore, 1, 0, 0), (9, (.aload_n 0), 1, 0, 0), (10, (.getfield 56), 3, 8, 18), (13, (.iconst 0), 1, 0, 0), (14, (.iconst 0), 1, 0, 0), (15, .iastore, 1, 0, 0), (16, (.iload_n 2), 1, 0, 0), (17, (.ifCond .le 116), 3, 133, 0), (20, (.aload_n 0), 1, 0, 0), (21, (.getfield 53), 3, 8, 17), (24, (.iload_n 2), 1, 0, 0), (25, (.iconst 1), 1, 0, 0), (26, .isub, 1, 0, 0), (27, .iaload, 1, 0, 0), (28, (.istore_n 3), 1, 0, 0), (29, (.aload_n 0), 1, 0, 0), (30, (.getfield 56), 3, 8, 18), (33, (.iload_n 2), 1, 0, 0), (34, (.iconst 1), 1, 0, 0), (35, .isub, 1, 0, 0), (36, .iaload, 1, 0, 0), (37, (.istore 4), 2, 0, 0), (39, (.aload_n 0), 1, 0, 0), (40, (.iload_n 3), 1, 0, 0), (41, (.invokevirtual 143), 3, 27, 2), (44, (.ifCond .eq 9), 3, 53, 0), (47, (.iinc 2 (-1)), 3, 0, 0), (50, (.goto 80), 3, 130, 0), (53, (.iload 4), 2, 0, 0), (55, (.aload_n 0), 1, 0, 0), (56, (.getfield 16), 3, 8, 5), (59, (.iload_n 3), 1, 0, 0), (60, .iaload, 1, 0, 0), (61, (.if_icmp .ne 29), 3, 90, 0), (64, (.aload_n 0), 1, 0, 0), (65, (.getfield 50), 3, 8, 16), (68, (.aload_n 0), 1, 0, 0), (69, (.getfield 140), 3, 8, 19), (72, (.iload_n 3), 1, 0, 0), (73, .iastore, 1, 0, 0), (74, (.aload_n 0), 1, 0, 0), (75, .dup, 1, 0, 0), (76, (.getfield 140), 3, 8, 19), (79, (.iconst 1), 1, 0, 0), (80, .iadd, 1, 0, 0), (81, (.putfield 140), 3, 8, 19), (84, (.iinc 2 (-1)), 3, 0, 0), (87, (.goto 43), 3, 130, 0), (90, (.aload_n 0), 1, 0, 0), (91, (.getfield 56), 3, 8, 18), (94, (.iload_n 2), 1, 0, 0), (95, (.iconst 1), 1, 0, 0), (96, .isub, 1, 0, 0), (97, .dup2, 1, 0, 0), (98, .iaload, 1, 0, 0), (99, (.iconst 1), 1, 0, 0), (100, .iadd, 1, 0, 0), (101, .iastore, 1, 0, 0), (102, (.aload_n 0), 1, 0, 0), (103, (.getfield 53), 3, 8, 17), (106, (.iload_n 2), 1, 0, 0), (107, (.aload_n 0), 1, 0, 0), (108, (.getfield 19), 3, 8, 6), (111, (.bipush 6), 2, 0, 0), (113, (.iload_n 3), 1, 0, 0), (114, .imul, 1, 0, 0), (115, (.iload 4), 2, 0, 0), (117, .iadd, 1, 0, 0), (118, .iaload, 1, 0, 0), (119, .iastore, 1, 0, 0), (120, (.aload_n 0), 1, 0, 0), (121, (.getfield 56), 3, 8, 18), (124, (.iload_n 2), 1, 0, 0), (125, (.iconst 0), 1, 0, 0), (126, .iastore, 1, 0, 0), (127, (.iinc 2 1), 3, 0, 0), (130, (.goto (-114)), 3, 16, 0), (133, .return_, 1, 0, 0)]
/-- FixtureOrderModel.closeTest(I)V -/
def pg_c29 : List (Nat × mj_I) := [(0, (.aload_n 0), 1, 0, 0), (1, (.iconst 0), 1, 0, 0), (2, (.putfield 140), 3, 8, 19), (5, (.iconst 0), 1, 0, 0), (6, (.istore_n 2), 1, 0, 0), (7, (.iload_n 2), 1, 0, 0), (8, (.aload_n 0), 1, 0, 0), (9, (.getfield 32), 3, 8, 10), (12, (.iload_n 1), 1, 0, 0), (13, .iaload, 1, 0, 0), (14, (.if_icmp .ge 24), 3, 38, 0), (17, (.aload_n 0), 1, 0, 0), (18, (.aload_n 0), 1, 0, 0), (19, (.getfield 35), 3, 8, 11), (22, (.bipush 6), 2, 0, 0), (24, (.iload_n 1), 1, 0, 0), (25, .imul, 1, 0, 0), (26, (.iload_n 2), 1, 0, 0), (27, .iadd, 1, 0, 0), (28, .iaload, 1, 0, 0), (29, (.invokevirtual 146), 3, 28, 2), (32, (.iinc 2 1), 3, 0, 0), (35, (.goto (-28)), 3, 7, 0), (38, .return_, 1, 0, 0)]
/-- FixtureOrderModel.closure(II)I -/
def pg_c30 : List (Nat × mj_I) := [(0, (.aload_n 0), 1, 0, 0), (1, (.iconst 0), 1, 0, 0), (2, (.putfield 116), 3, 8, 0), (5, (.aload_n 0), 1, 0, 0), (6, (.iload_n 1), 1, 0, 0), (7, (.invokevirtual 137), 3, 18, 2), (10, (.ifCond .ne 5), 3, 15, 0), (13, (.iconst (-1)), 1, 0, 0), (14, .ireturn, 1, 0, 0), (15, (.aload_n 0), 1, 0, 0), (16, (.iload_n 1), 1, 0, 0), (17, (.invokevirtual 150), 3, 29, 2), (20, (.iload_n 2), 1, 0, 0), (21, (.ifCond .lt 11), 3, 32, 0), (24, (.iload_n 2), 1, 0, 0), (25, (.aload_n 0), 1, 0, 0), (26, (.getfield 140), 3, 8, 19), (29, (.if_icmp .lt 7), 3, 36, 0), (32, (.iconst (-1)), 1, 0, 0), (33, (.goto 9), 3, 42, 0), (36, (.aload_n 0), 1, 0, 0), (37, (.getfield 50), 3, 8, 16), (40, (.iload_n 2), 1, 0, 0), (41, .iaload, 1, 0, 0), (42, .ireturn, 1, 0, 0)]
/-- FixtureOrderModel.casesOf(I)I -/
def pg_c31 : List (Nat × mj_I) := [(0, (.aload_n 0), 1, 0, 0), (1, (.iload_n 1), 1, 0, 0), (2, (.invokevirtual 150), 3, 29, 2), (5, (.iconst 1), 1, 0, 0), (6, (.istore_n 2), 1, 0, 0), (7, (.iconst 0), 1, 0, 0), (8, (.istore_n 3), 1, 0, 0), (9, (.iload_n 3), 1, 0, 0), (10, (.aload_n 0), 1, 0, 0), (11, (.getfield 140), 3, 8, 19), (14, (.if_icmp .ge 33), 3, 47, 0), (17, (.iload_n 2), 1, 0, 0), (18, (.bipush 8), 2, 0, 0), (20, (.if_icmp .le 7), 3, 27, 0), (23, (.iload_n 2), 1, 0, 0), (24, (.goto 16), 3, 40, 0), (27, (.iload_n 2), 1, 0, 0), (28, (.aload_n 0), 1, 0, 0), (29, (.getfield 13), 3, 8, 4), (32, (.aload_n 0), 1, 0, 0), (33, (.getfield 50), 3, 8, 16), (36, (.iload_n 3), 1, 0, 0), (37, .iaload, 1, 0, 0), (38, .iaload, 1, 0, 0), (39, .imul, 1, 0, 0), (40, (.istore_n 2), 1, 0, 0), (41, (.iinc 3 1), 3, 0, 0), (44, (.goto (-35)), 3, 9, 0), (47, (.iload_n 2), 1, 0, 0), (48, (.bipush 8), 2, 0, 0), (50, (.if_icmp .ge 7), 3, 57, 0), (53, (.iload_n 2), 1, 0, 0), (54, (.goto 5), 3, 59, 0), (57, (.bipush 8), 2, 0, 0), (59, .ireturn, 1, 0, 0)]
/-- FixtureOrderModel.cases(I)I -/
def pg_c32 : List (Nat × mj_I) := [(0, (.aload_n 0), 1, 0, 0), (1, (.iconst 0), 1, 0, 0), (2, (.putfield 116), 3, 8, 0), (5, (.aload_n 0), 1, 0, 0), (6, (.iload_n 1), 1, 0, 0), (7, (.invokevirtual 137), 3, 18, 2), (10, (.ifCond .eq 11), 3, 21, 0), (13, (.aload_n 0), 1, 0, 0), (14, (.iload_n 1), 1, 0, 0), (15, (.invokevirtual 153), 3, 31, 2), (18, (.goto 4), 3, 22, 0), (21, (.iconst (-1)), 1, 0, 0), (22, .ireturn, 1, 0, 0)]
/-- FixtureOrderModel.valueOf(II)I -/
def pg_c33 : List (Nat × mj_I) := [(0, (.iload_n 1), 1, 0, 0), (1, (.istore_n 3), 1, 0, 0), (2, (.aload_n 0), 1, 0, 0), (3, (.getfield 140), 3, 8, 19), (6, (.iconst 1), 1, 0, 0), (7, .isub, 1, 0, 0), (8, (.istore 4), 2, 0, 0), (10, (.iload 4), 2, 0, 0), (12, (.iload_n 2), 1, 0, 0), (13, (.if_icmp .le 24), 3, 37, 0), (16, (.iload_n 3), 1, 0, 0), (17, (.aload_n 0), 1, 0, 0), (18, (.getfield 13), 3, 8, 4), (21, (.aload_n 0), 1, 0, 0), (22, (.getfield 50), 3, 8, 16), (25, (.iload 4), 2, 0, 0), (27, .iaload, 1, 0, 0), (28, .iaload, 1, 0, 0), (29, .idiv, 1, 0, 0), (30, (.istore_n 3), 1, 0, 0), (31, (.iinc 4 (-1)), 3, 0, 0), (34, (.goto (-24)), 3, 10, 0), (37, (.iload_n 3), 1, 0, 0), (38, (.aload_n 0), 1, 0, 0), (39, (.getfield 13), 3, 8, 4), (42, (.aload_n 0), 1, 0, 0), (43, (.getfield 50), 3, 8, 16), (46, (.iload_n 2), 1, 0, 0), (47, .iaload, 1, 0, 0), (48, .iaload, 1, 0, 0), (49, .irem, 1, 0, 0), (50, .ireturn, 1, 0, 0)]
/-- FixtureOrderModel.tell(III)V -/
def pg_c34 : List (Nat × mj_I) := [(0, (.aload_n 0), 1, 0, 0), (1, (.getfield 83), 3, 8, 32), (4, (.aload_n 0), 1, 0, 0), (5, (.getfield 157), 3, 8, 21), (8, (.iload_n 1), 1, 0, 0), (9, .iastore, 1, 0, 0), (10, (.aload_n 0), 1, 0, 0), (11, (.getfield 86), 3, 8, 33), (14, (.aload_n 0), 1, 0, 0), (15, (.getfield 157), 3, 8, 21), (18, (.iload_n 2), 1, 0, 0), (19, .iastore, 1, 0, 0), (20, (.aload_n 0), 1, 0, 0), (21, (.getfield 89), 3, 8, 34), (24, (.aload_n 0), 1, 0, 0), (25, (.getfield 157), 3, 8, 21), (28, (.iload_n 3), 1, 0, 0), (29, .iastore, 1, 0, 0), (30, (.aload_n 0), 1, 0, 0), (31, .dup, 1, 0, 0), (32, (.getfield 157), 3, 8, 21), (35, (.iconst 1), 1, 0, 0), (36, .iadd, 1, 0, 0), (37, (.putfield 157), 3, 8, 21), (40, .return_, 1, 0, 0)]
/-- FixtureOrderModel.end(I)V -/
def pg_c35 : List (Nat × mj_I) := [(0, (.aload_n 0), 1, 0, 0), (1, (.getfield 59), 3, 8, 24), (4, (.iload_n 1), 1, 0, 0), (5, (.iconst 0), 1, 0, 0), (6, .iastore, 1, 0, 0), (7, (.aload_n 0), 1, 0, 0), (8, (.getfield 77), 3, 8, 30), (11, (.iload_n 1), 1, 0, 0), (12, .dup2, 1, 0, 0), (13, .iaload, 1, 0, 0), (14, (.iconst 1), 1, 0, 0), (15, .iadd, 1, 0, 0), (16, .iastore, 1, 0, 0), (17, (.aload_n 0), 1, 0, 0), (18, (.getfield 80), 3, 8, 31), (21, (.iload_n 1), 1, 0, 0), (22, .dup2, 1, 0, 0), (23, .iaload, 1, 0, 0), (24, (.aload_n 0), 1, 0, 0), (25, (.getfield 26), 3, 8, 8), (28, (.iload_n 1), 1, 0, 0), (29, .baload, 1, 0, 0), (30, (.ifCond .eq 7), 3, 37, 0), (33, (.iconst 1), 1, 0, 0), (34, (.goto 4), 3, 38, 0), (37, (.iconst 0), 1, 0, 0), (38, .iadd, 1, 0, 0), (39, .iastore, 1, 0, 0), (40, (.aload_n 0), 1, 0, 0), (41, .dup, 1, 0, 0), (42, (.getfield 160), 3, 8, 43), (45, (.aload_n 0), 1, 0, 0), (46, (.getfield 26), 3, 8, 8), (49, (.iload_n 1), 1, 0, 0), (50, .baload, 1, 0, 0), (51, (.ifCond .eq 7), 3, 58, 0), (54, (.iconst 1), 1, 0, 0), (55, (.goto 4), 3, 59, 0), (58, (.iconst 0), 1, 0, 0), (59, .iadd, 1, 0, 0), (60, (.putfield 160), 3, 8, 43), (63, (.aload_n 0), 1, 0, 0), (64, (.aload_n 0), 1, 0, 0), (65, (.getfield 26), 3, 8, 8), (68, (.iload_n 1), 1, 0, 0), (69, .baload, 1, 0, 0), (70, (.ifCond .eq 7), 3, 77, 0), (73, (.iconst 3), 1, 0, 0), (74, (.goto 4), 3, 78, 0), (77, (.iconst 2), 1, 0, 0), (78, (.iload_n 1), 1, 0, 0), (79, (.aload_n 0), 1, 0, 0), (80, (.getfield 62), 3, 8, 25), (83, (.iload_n 1), 1, 0, 0), (84, .iaload, 1, 0, 0), (85, (.invokevirtual 163), 3, 34, 4), (88, .return_, 1, 0, 0)]
/-- FixtureOrderModel.endMarked()V -/
def pg_c36 : List (Nat × mj_I) := [(0, (.iconst 1), 1, 0, 0), (1, (.istore_n 1), 1, 0, 0), (2, (.iload_n 1), 1, 0, 0), (3, (.ifCond .eq 84), 3, 87, 0), (6, (.iconst (-1)), 1, 0, 0), (7, (.istore_n 2), 1, 0, 0), (8, (.iconst 0), 1, 0, 0), (9, (.istore_n 3), 1, 0, 0), (10, (.iload_n 3), 1, 0, 0), (11, (.aload_n 0), 1, 0, 0), (12, (.getfield 120), 3, 8, 1), (15, (.if_icmp .ge 49), 3, 64, 0), (18, (.aload_n 0), 1, 0, 0), (19, (.getfield 113), 3, 8, 42), (22, (.iload_n 3), 1, 0, 0), (23, .baload, 1, 0, 0), (24, (.ifCond .eq 34), 3, 58, 0), (27, (.aload_n 0), 1, 0, 0), (28, (.getfield 59), 3, 8, 24), (31, (.iload_n 3), 1, 0, 0), (32, .iaload, 1, 0, 0), (33, (.ifCond .le 25), 3, 58, 0), (36, (.iload_n 2), 1, 0, 0), (37, (.iconst (-1)), 1, 0, 0), (38, (.if_icmp .eq 18), 3, 56, 0), (41, (.aload_n 0), 1, 0, 0), (42, (.getfield 59), 3, 8, 24), (45, (.iload_n 3), 1, 0, 0), (46, .iaload, 1, 0, 0), (47, (.aload_n 0), 1, 0, 0), (48, (.getfield 59), 3, 8, 24), (51, (.iload_n 2), 1, 0, 0), (52, .iaload, 1, 0, 0), (53, (.if_icmp .le 5), 3, 58, 0), (56, (.iload_n 3), 1, 0, 0), (57, (.istore_n 2), 1, 0, 0), (58, (.iinc 3 1), 3, 0, 0), (61, (.goto (-51)), 3, 10, 0), (64, (.iload_n 2), 1, 0, 0), (65, (.iconst (-1)), 1, 0, 0), (66, (.if_icmp .eq 7), 3, 73, 0), (69, (.iconst 1), 1, 0, 0), (70, (.goto 4), 3, 74, 0), (73, (.iconst 0), 1, 0, 0), (74, (.istore_n 1), 1, 0, 0), (75, (.iload_n 1), 1, 0, 0), (76, (.ifCond .eq 8), 3, 84, 0), (79, (.aload_n 0), 1, 0, 0), (80, (.iload_n 2), 1, 0, 0), (81, (.invokevirtual 167), 3, 35, 2), (84, (.goto (-82)), 3, 2, 0), (87, .return_, 1, 0, 0)]
/-- FixtureOrderModel.part(II)V -/
def pg_c37 : List (Nat × mj_I) := [(0, (.iconst 0), 1, 0, 0), (1, (.istore_n 3), 1, 0, 0), (2, (.iload_n 3), 1, 0, 0), (3, (.aload_n 0), 1, 0, 0), (4, (.getfield 120), 3, 8, 1), (7, (.if_icmp .ge 86), 3, 93, 0), (10, (.aload_n 0), 1, 0, 0), (11, (.getfield 113), 3, 8, 42), (14, (.iload_n 3), 1, 0, 0), (15, (.aload_n 0), 1, 0, 0), (16, (.getfield 59), 3, 8, 24), (19, (.iload_n 3), 1, 0, 0), (20, .iaload, 1, 0, 0), (21, (.ifCond .le 32), 3, 53, 0), (24, (.aload_n 0), 1, 0, 0), (25, (.getfield 7), 3, 8, 3), (28, (.iload_n 3), 1, 0, 0), (29, .iaload, 1, 0, 0), (30, (.iconst 1), 1, 0, 0), (31, (.if_icmp .ne 22), 3, 53, 0), (34, (.aload_n 0), 1, 0, 0), (35, (.getfield 65), 3, 8, 26), (38, (.iload_n 3), 1, 0, 0), (39, .iaload, 1, 0, 0), (40, (.aload_n 0), 1, 0, 0), (41, (.getfield 29), 3, 8, 9), (44, (.iload_n 1), 1, 0, 0), (45, .iaload, 1, 0, 0), (46, (.if_icmp .eq 7), 3, 53, 0), (49, (.iconst 1), 1, 0, 0), (50, (.goto 4), 3, 54, 0), (53, (.iconst 0), 1, 0, 0), (54, .bastore, 1, 0, 0), (55, (.aload_n 0), 1, 0, 0), (56, (.getfield 7), 3, 8, 3), (59, (.iload_n 3), 1, 0, 0), (60, .iaload, 1, 0, 0), (61, (.iconst 1), 1, 0, 0), (62, (.if_icmp .ne 25), 3, 87, 0), (65, (.aload_n 0), 1, 0, 0), (66, (.getfield 71), 3, 8, 28), (69, (.iload_n 3), 1, 0, 0), (70, .iaload, 1, 0, 0), (71, (.aload_n 0), 1, 0, 0), (72, (.getfield 29), 3, 8, 9), (75, (.iload_n 1), 1, 0, 0), (76, .iaload, 1, 0, 0), (77, (.if_icmp .eq 10), 3, 87, 0), (80, (.aload_n 0), 1, 0, 0), (81, (.getfield 68), 3, 8, 27), (84, (.iload_n 3), 1, 0, 0), (85, (.iconst 0), 1, 0, 0), (86, .iastore, 1, 0, 0), (87, (.iinc 3 1), 3, 0, 0), (90, (.goto (-88)), 3, 2, 0), (93, (.iconst 0), 1, 0, 0), (94, (.istore_n 3), 1, 0, 0), (95, (.iload_n 3), 1, 0, 0), (96, (.aload_n 0), 1, 0, 0), (97, (.getfield 140), 3, 8, 19), (100, (.if_icmp .ge 55), 3, 155, 0), (103, (.aload_n 0), 1, 0, 0), (104, (.getfield 59), 3, 8, 24), (107, (.aload_n 0), 1, 0, 0), (108, (.getfield 50), 3, 8, 16), (111, (.iload_n 3), 1, 0, 0), (112, .iaload, 1, 0, 0), (113, .iaload, 1, 0, 0), (114, (.ifCond .le 35), 3, 149, 0), (117, (.aload_n 0), 1, 0, 0), (118, (.getfield 62), 3, 8, 25), (121, (.aload_n 0), 1, 0, 0), (122, (.getfield 50), 3, 8, 16), (125, (.iload_n 3), 1, 0, 0), (126, .iaload, 1, 0, 0), (127, .iaload, 1, 0, 0), (128, (.aload_n 0), 1, 0, 0), (129, (.iload_n 2), 1, 0, 0), (130, (.iload_n 3), 1, 0, 0), (131, (.invokevirtual 170), 3, 33, 3), (134, (.if_icmp .eq 15), 3, 149, 0), (137, (.aload_n 0), 1, 0, 0), (138, (.getfield 113), 3, 8, 42), (141, (.aload_n 0), 1, 0, 0), (142, (.getfield 50), 3, 8, 16), (145, (.iload_n 3), 1, 0, 0), (146, .iaload, 1, 0, 0), (147, (.iconst 1), 1, 0, 0), (148, .bastore, 1, 0, 0), (149, (.iinc 3 1), 3, 0, 0), (152, (.goto (-57)), 3, 95, 0), (155, (.iconst 0), 1, 0, 0), (156, (.istore_n 3), 1, 0, 0), (157, (.iload_n 3), 1, 0, 0), (158, (.bipush 12), 2, 0, 0), (160, (.if_icmp .ge 101), 3, 261, 0), (163, (.iconst 0), 1, 0, 0), (164, (.istore 4), 2, 0, 0), (166, (.iload 4), 2, 0, 0), (168, (.aload_n 0), 1, 0, 0), (169, (.getfield 120), 3, 8, 1), (172, (.if_icmp .ge 83), 3, 255, 0), (175, (.iconst 0), 1, 0, 0), (176, (.istore 5), 2, 0, 0), (178, (.iload 5), 2, 0, 0), (180, (.aload_n 0), 1, 0, 0), (181, (.getfield 16), 3, 8, 5), (184, (.iload 4), 2, 0, 0), (186, .iaload, 1, 0, 0), (187, (.if_icmp .ge 62), 3, 249, 0), (190, (.aload_n 0), 1, 0, 0), (191, (.getfield 113), 3, 8, 42), (194, (.iload 4), 2, 0, 0), (196, (.aload_n 0), 1, 0, 0), (197, (.getfield 113), 3, 8, 42), (200, (.iload 4), 2, 0, 0), (202, .baload, 1, 0, 0), (203, (.ifCond .ne 34), 3, 237, 0), (206, (.aload_n 0), 1, 0, 0), (207, (.getfield 59), 3, 8, 24), (210, (.iload 4), 2, 0, 0), (212, .iaload, 1, 0, 0), (213, (.ifCond .le 28), 3, 241, 0), (216, (.aload_n 0), 1, 0, 0), (217, (.getfield 113), 3, 8, 42), (220, (.aload_n 0), 1, 0, 0), (221, (.getfield 19), 3, 8, 6), (224, (.bipush 6), 2, 0, 0), (226, (.iload 4), 2, 0, 0), (228, .imul, 1, 0, 0), (229, (.iload 5), 2, 0, 0), (231, .iadd, 1, 0, 0), (232, .iaload, 1, 0, 0), (233, .baload, 1, 0, 0), (234, (.ifCond .eq 7), 3, 241, 0), (237, (.iconst 1), 1, 0, 0), (238, (.goto 4), 3, 242, 0), (241, (.iconst 0), 1, 0, 0), (242, .bastore, 1, 0, 0), (243, (.iinc 5 1), 3, 0, 0), (246, (.goto (-68)), 3, 178, 0), (249, (.iinc 4 1), 3, 0, 0), (252, (.goto (-86)), 3, 166, 0), (255, (.iinc 3 1), 3, 0, 0), (258, (.goto (-101)), 3, 157, 0), (261, (.aload_n 0), 1, 0, 0), (262, (.invokevirtual 174), 3, 36, 1), (265, .return_, 1, 0, 0)]
/-- FixtureOrderModel.make(II)I -/
def pg_c38 : List (Nat × mj_I) := [(0, (.iconst 0), 1, 0, 0), (1, (.istore_n 3), 1, 0, 0), (2, (.iload_n 3), 1, 0, 0), (3, (.aload_n 0), 1, 0, 0), (4, (.getfield 140), 3, 8, 19), (7, (.if_icmp .ge 179), 3, 186, 0), (10, (.aload_n 0), 1, 0, 0), (11, (.getfield 50), 3, 8, 16), (14, (.iload_n 3), 1, 0, 0), (15, .iaload, 1, 0, 0), (16, (.istore 4), 2, 0, 0), (18, (.aload_n 0), 1, 0, 0), (19, (.iload_n 2), 1, 0, 0), (20, (.iload_n 3), 1, 0, 0), (21, (.invokevirtual 170), 3, 33, 3), (24, (.istore 5), 2, 0, 0), (26, (.aload_n 0), 1, 0, 0), (27, (.getfield 59), 3, 8, 24), (30, (.iload 4), 2, 0, 0), (32, .iaload, 1, 0, 0), (33, (.ifCond .le 6), 3, 39, 0), (36, (.goto 144), 3, 180, 0), (39, (.aload_n 0), 1, 0, 0), (40, (.getfield 68), 3, 8, 27), (43, (.iload 4), 2, 0, 0), (45, .iaload, 1, 0, 0), (46, (.iload 5), 2, 0, 0), (48, .ishr, 1, 0, 0), (49, (.iconst 1), 1, 0, 0), (50, .iand, 1, 0, 0), (51, (.iconst 1), 1, 0, 0), (52, (.if_icmp .ne 6), 3, 58, 0), (55, (.iload 4), 2, 0, 0), (57, .ireturn, 1, 0, 0), (58, (.aload_n 0), 1, 0, 0), (59, (.getfield 22), 3, 8, 7), (62, (.iload 4), 2, 0, 0), (64, .baload, 1, 0, 0), (65, (.ifCond .eq 52), 3, 117, 0), (68, (.aload_n 0), 1, 0, 0), (69, (.iconst 1), 1, 0, 0), (70, (.iload 4), 2, 0, 0), (72, (.iload 5), 2, 0, 0), (74, (.invokevirtual 163), 3, 34, 4), (77, (.aload_n 0), 1, 0, 0), (78, (.getfield 7), 3, 8, 3), (81, (.iload 4), 2, 0, 0), (83, .iaload, 1, 0, 0), (84, (.ifCond .eq 17), 3, 101, 0), (87, (.aload_n 0), 1, 0, 0), (88, (.getfield 68), 3, 8, 27), (91, (.iload 4), 2, 0, 0), (93, .dup2, 1, 0, 0), (94, .iaload, 1, 0, 0), (95, (.iconst 1), 1, 0, 0), (96, (.iload 5), 2, 0, 0), (98, .ishl, 1, 0, 0), (99, .ior, 1, 0, 0), (100, .iastore, 1, 0, 0), (101, (.aload_n 0), 1, 0, 0), (102, (.getfield 71), 3, 8, 28), (105, (.iload 4), 2, 0, 0), (107, (.aload_n 0), 1, 0, 0), (108, (.getfield 29), 3, 8, 9), (111, (.iload_n 1), 1, 0, 0), (112, .iaload, 1, 0, 0), (113, .iastore, 1, 0, 0), (114, (.iload 4), 2, 0, 0), (116, .ireturn, 1, 0, 0), (117, (.aload_n 0), 1, 0, 0), (118, .dup, 1, 0, 0), (119, (.getfield 177), 3, 8, 23), (122, (.iconst 1), 1, 0, 0), (123, .iadd, 1, 0, 0), (124, (.putfield 177), 3, 8, 23), (127, (.aload_n 0), 1, 0, 0), (128, (.getfield 59), 3, 8, 24), (131, (.iload 4), 2, 0, 0), (133, (.aload_n 0), 1, 0, 0), (134, (.getfield 177), 3, 8, 23), (137, .iastore, 1, 0, 0), (138, (.aload_n 0), 1, 0, 0), (139, (.getfield 62), 3, 8, 25), (142, (.iload 4), 2, 0, 0), (144, (.iload 5), 2, 0, 0), (146, .iastore, 1, 0, 0), (147, (.aload_n 0), 1, 0, 0), (148, (.getfield 65), 3, 8, 26), (151, (.iload 4), 2, 0, 0), (153, (.aload_n 0), 1, 0, 0), (154, (.getfield 29), 3, 8, 9), (157, (.iload_n 1), 1, 0, 0), (158, .iaload, 1, 0, 0), (159, .iastore, 1, 0, 0), (160, (.aload_n 0), 1, 0, 0), (161, (.getfield 74), 3, 8, 29), (164, (.iload 4), 2, 0, 0), (166, .dup2, 1, 0, 0), (167, .iaload, 1, 0, 0), (168, (.iconst 1), 1, 0, 0), (169, .iadd, 1, 0, 0), (170, .iastore, 1, 0, 0), (171, (.aload_n 0), 1, 0, 0), (172, (.iconst 0), 1, 0, 0), (173, (.iload 4), 2, 0, 0), (175, (.iload 5), 2, 0, 0), (177, (.invokevirtual 163), 3, 34, 4), (180, (.iinc 3 1), 3, 0, 0), (183, (.goto (-181)), 3, 2, 0), (186, (.iconst (-1)), 1, 0, 0), (187, .ireturn, 1, 0, 0)]
/-- FixtureOrderModel.runCase(II)V -/
def pg_c39 : List (Nat × mj_I) := [(0, (.aload_n 0), 1, 0, 0), (1, (.getfield 180), 3, 8, 22), (4, (.istore_n 3), 1, 0, 0), (5, (.aload_n 0), 1, 0, 0), (6, (.getfield 92), 3, 8, 35), (9, (.iload_n 3), 1, 0, 0), (10, (.iload_n 1), 1, 0, 0), (11, .iastore, 1, 0, 0), (12, (.aload_n 0), 1, 0, 0), (13, (.getfield 95), 3, 8, 36), (16, (.iload_n 3), 1, 0, 0), (17, (.iload_n 2), 1, 0, 0), (18, .iastore, 1, 0, 0), (19, (.aload_n 0), 1, 0, 0), (20, (.iload_n 1), 1, 0, 0), (21, (.invokevirtual 150), 3, 29, 2), (24, (.aload_n 0), 1, 0, 0), (25, (.iconst 0), 1, 0, 0), (26, (.putfield 160), 3, 8, 43), (29, (.aload_n 0), 1, 0, 0), (30, (.iload_n 1), 1, 0, 0), (31, (.iload_n 2), 1, 0, 0), (32, (.invokevirtual 183), 3, 37, 3), (35, (.aload_n 0), 1, 0, 0), (36, (.getfield 160), 3, 8, 43), (39, (.istore 4), 2, 0, 0), (41, (.iconst 0), 1, 0, 0), (42, (.istore 5), 2, 0, 0), (44, (.iconst 2), 1, 0, 0), (45, (.istore 6), 2, 0, 0), (47, (.iconst 0), 1, 0, 0), (48, (.istore 7), 2, 0, 0), (50, (.iconst (-1)), 1, 0, 0), (51, (.istore 8), 2, 0, 0), (53, (.iload 5), 2, 0, 0), (55, (.ifCond .eq 26), 3, 81, 0), (58, (.iload 6), 2, 0, 0), (60, (.iconst 2), 1, 0, 0), (61, (.if_icmp .eq 9), 3, 70, 0), (64, (.iload 6), 2, 0, 0), (66, (.iconst 3), 1, 0, 0), (67, (.if_icmp .ne 141), 3, 208, 0), (70, (.iload 5), 2, 0, 0), (72, (.aload_n 0), 1, 0, 0), (73, (.getfield 47), 3, 8, 15), (76, (.iload_n 1), 1, 0, 0), (77, .iaload, 1, 0, 0), (78, (.if_icmp .gt 130), 3, 208, 0), (81, (.aload_n 0), 1, 0, 0), (82, (.iload_n 1), 1, 0, 0), (83, (.iload_n 2), 1, 0, 0), (84, (.invokevirtual 187), 3, 38, 3), (87, (.istore 8), 2, 0, 0), (89, (.iconst 4), 1, 0, 0), (90, (.istore 6), 2, 0, 0), (92, (.iload 8), 2, 0, 0), (94, (.iconst (-1)), 1, 0, 0), (95, (.if_icmp .ne 48), 3, 143, 0), (98, (.aload_n 0), 1, 0, 0), (99, (.iconst 4), 1, 0, 0), (100, (.iload_n 3), 1, 0, 0), (101, (.iload 5), 2, 0, 0), (103, (.invokevirtual 163), 3, 34, 4), (106, (.aload_n 0), 1, 0, 0), (107, (.getfield 38), 3, 8, 12), (110, (.iload_n 1), 1, 0, 0), (111, .iaload, 1, 0, 0), (112, (.aload_n 0), 1, 0, 0), (113, (.getfield 41), 3, 8, 13), (116, (.iload_n 1), 1, 0, 0), (117, .iaload, 1, 0, 0), (118, (.if_icmp .le 7), 3, 125, 0), (121, (.iconst 3), 1, 0, 0), (122, (.goto 19), 3, 141, 0), (125, (.iload 5), 2, 0, 0), (127, (.aload_n 0), 1, 0, 0), (128, (.getfield 44), 3, 8, 14), (131, (.iload_n 1), 1, 0, 0), (132, .iaload, 1, 0, 0), (133, (.if_icmp .ge 7), 3, 140, 0), (136, (.iconst 2), 1, 0, 0), (137, (.goto 4), 3, 141, 0), (140, (.iconst 1), 1, 0, 0), (141, (.istore 6), 2, 0, 0), (143, (.aload_n 0), 1, 0, 0), (144, (.getfield 160), 3, 8, 43), (147, (.istore 9), 2, 0, 0), (149, (.iconst 0), 1, 0, 0), (150, (.istore 10), 2, 0, 0), (152, (.iload 10), 2, 0, 0), (154, (.aload_n 0), 1, 0, 0), (155, (.getfield 120), 3, 8, 1), (158, (.if_icmp .ge 31), 3, 189, 0), (161, (.aload_n 0), 1, 0, 0), (162, (.getfield 113), 3, 8, 42), (165, (.iload 10), 2, 0, 0), (167, (.aload_n 0), 1, 0, 0), (168, (.getfield 7), 3, 8, 3), (171, (.iload 10), 2, 0, 0), (173, .iaload, 1, 0, 0), (174, (.ifCond .ne 7), 3, 181, 0), (177, (.iconst 1), 1, 0, 0), (178, (.goto 4), 3, 182, 0), (181, (.iconst 0), 1, 0, 0), (182, .bastore, 1, 0, 0), (183, (.iinc 10 1), 3, 0, 0), (186, (.goto (-34)), 3, 152, 0), (189, (.aload_n 0), 1, 0, 0), (190, (.invokevirtual 174), 3, 36, 1), (193, (.aload_n 0), 1, 0, 0), (194, (.getfield 160), 3, 8, 43), (197, (.iload 9), 2, 0, 0), (199, .isub, 1, 0, 0), (200, (.istore 7), 2, 0, 0), (202, (.iinc 5 1), 3, 0, 0), (205, (.goto (-152)), 3, 53, 0), (208, (.iload 6), 2, 0, 0), (210, (.iconst 1), 1, 0, 0), (211, (.if_icmp .ne 15), 3, 226, 0), (214, (.iload 4), 2, 0, 0), (216, (.iload 7), 2, 0, 0), (218, .iadd, 1, 0, 0), (219, (.ifCond .le 7), 3, 226, 0), (222, (.iconst 1), 1, 0, 0), (223, (.goto 4), 3, 227, 0), (226, (.iconst 0), 1, 0, 0), (227, (.istore 9), 2, 0, 0), (229, (.aload_n 0), 1, 0, 0), (230, (.getfield 98), 3, 8, 37), (233, (.iload_n 3), 1, 0, 0), (234, (.iload 9), 2, 0, 0), (236, (.ifCond .eq 7), 3, 243, 0), (239, (.iconst 5), 1, 0, 0), (240, (.goto 5), 3, 245, 0), (243, (.iload 6), 2, 0, 0), (245, .iastore, 1, 0, 0), (246, (.aload_n 0), 1, 0, 0), (247, (.getfield 101), 3, 8, 38), (250, (.iload_n 3), 1, 0, 0), (251, (.iload 8), 2, 0, 0), (253, .iastore, 1, 0, 0), (254, (.aload_n 0), 1, 0, 0), (255, (.getfield 104), 3, 8, 39), (258, (.iload_n 3), 1, 0, 0), (259, (.aload_n 0), 1, 0, 0), (260, (.getfield 160), 3, 8, 43), (263, (.iload 9), 2, 0, 0), (265, (.ifCond .eq 7), 3, 272, 0), (268, (.iconst 1), 1, 0, 0), (269, (.goto 4), 3, 273, 0), (272, (.iconst 0), 1, 0, 0), (273, .isub, 1, 0, 0), (274, .iastore, 1, 0, 0), (275, (.aload_n 0), 1, 0, 0), (276, (.getfield 107), 3, 8, 40), (279, (.iload_n 3), 1, 0, 0), (280, (.iload 5), 2, 0, 0), (282, .iastore, 1, 0, 0), (283, (.aload_n 0), 1, 0, 0), (284, .dup, 1, 0, 0), (285, (.getfield 180), 3, 8, 22), (288, (.iconst 1), 1, 0, 0), (289, .iadd, 1, 0, 0), (290, (.putfield 180), 3, 8, 22), (293, .return_, 1, 0, 0)]
/-- FixtureOrderModel.lacking(II)I -/
def pg_c40 : List (Nat × mj_I) := [(0, (.aload_n 0), 1, 0, 0), (1, (.iload_n 1), 1, 0, 0), (2, (.invokevirtual 150), 3, 29, 2), (5, (.iconst 0), 1, 0, 0), (6, (.istore_n 3), 1, 0, 0), (7, (.iconst 0), 1, 0, 0), (8, (.istore 4), 2, 0, 0), (10, (.iload 4), 2, 0, 0), (12, (.aload_n 0), 1, 0, 0), (13, (.getfield 140), 3, 8, 19), (16, (.if_icmp .ge 80), 3, 96, 0), (19, (.aload_n 0), 1, 0, 0), (20, (.getfield 50), 3, 8, 16), (23, (.iload 4), 2, 0, 0), (25, .iaload, 1, 0, 0), (26, (.istore 5), 2, 0, 0), (28, (.iload_n 3), 1, 0, 0), (29, (.aload_n 0), 1, 0, 0), (30, (.getfield 59), 3, 8, 24), (33, (.iload 5), 2, 0, 0), (35, .iaload, 1, 0, 0), (36, (.ifCond .le 51), 3, 87, 0), (39, (.aload_n 0), 1, 0, 0), (40, (.getfield 62), 3, 8, 25), (43, (.iload 5), 2, 0, 0), (45, .iaload, 1, 0, 0), (46, (.aload_n 0), 1, 0, 0), (47, (.iload_n 2), 1, 0, 0), (48, (.iload 4), 2, 0, 0), (50, (.invokevirtual 170), 3, 33, 3), (53, (.if_icmp .ne 34), 3, 87, 0), (56, (.aload_n 0), 1, 0, 0), (57, (.getfield 7), 3, 8, 3), (60, (.iload 5), 2, 0, 0), (62, .iaload, 1, 0, 0), (63, (.iconst 1), 1, 0, 0), (64, (.if_icmp .ne 19), 3, 83, 0), (67, (.aload_n 0), 1, 0, 0), (68, (.getfield 65), 3, 8, 26), (71, (.iload 5), 2, 0, 0), (73, .iaload, 1, 0, 0), (74, (.aload_n 0), 1, 0, 0), (75, (.getfield 29), 3, 8, 9), (78, (.iload_n 1), 1, 0, 0), (79, .iaload, 1, 0, 0), (80, (.if_icmp .ne 7), 3, 87, 0), (83, (.iconst 0), 1, 0, 0), (84, (.goto 4), 3, 88, 0), (87, (.iconst 1), 1, 0, 0), (88, .iadd, 1, 0, 0), (89, (.istore_n 3), 1, 0, 0), (90, (.iinc 4 1), 3, 0, 0), (93, (.goto (-83)), 3, 10, 0), (96, (.iload_n 3), 1, 0, 0), (97, .ireturn, 1, 0, 0)]
/-- FixtureOrderModel.run(I)I -/
def pg_c41 : List (Nat × mj_I) := [(0, (.aload_n 0), 1, 0, 0), (1, (.iconst 0), 1, 0, 0), (2, (.putfield 116), 3, 8, 0), (5, (.iconst 0), 1, 0, 0), (6, (.istore_n 2), 1, 0, 0), (7, (.iconst 0), 1, 0, 0), (8, (.istore_n 3), 1, 0, 0), (9, (.iload_n 3), 1, 0, 0), (10, (.aload_n 0), 1, 0, 0), (11, (.getfield 123), 3, 8, 2), (14, (.if_icmp .ge 17), 3, 31, 0), (17, (.iload_n 2), 1, 0, 0), (18, (.aload_n 0), 1, 0, 0), (19, (.iload_n 3), 1, 0, 0), (20, (.invokevirtual 153), 3, 31, 2), (23, .iadd, 1, 0, 0), (24, (.istore_n 2), 1, 0, 0), (25, (.iinc 3 1), 3, 0, 0), (28, (.goto (-19)), 3, 9, 0), (31, (.iload_n 1), 1, 0, 0), (32, (.ifCond .lt 14), 3, 46, 0), (35, (.iload_n 1), 1, 0, 0), (36, (.iconst 1), 1, 0, 0), (37, (.if_icmp .gt 9), 3, 46, 0), (40, (.iload_n 2), 1, 0, 0), (41, (.bipush 40), 2, 0, 0), (43, (.if_icmp .le 5), 3, 48, 0), (46, (.iconst (-1)), 1, 0, 0), (47, .ireturn, 1, 0, 0), (48, (.aload_n 0), 1, 0, 0), (49, (.aload_n 0), 1, 0, 0), (50, (.getfield 120), 3, 8, 1), (53, (.putfield 190), 3, 8, 20), (56, (.aload_n 0), 1, 0, 0), (57, (.iconst 0), 1, 0, 0), (58, (.putfield 157), 3, 8, 21), (61, (.aload_n 0), 1, 0, 0), (62, (.iconst 0), 1, 0, 0), (63, (.putfield 180), 3, 8, 22), (66, (.aload_n 0), 1, 0, 0), (67, (.iconst 0), 1, 0, 0), (68, (.putfield 177), 3, 8, 23), (71, (.iconst 0), 1, 0, 0), (72, (.istore_n 3), 1, 0, 0), (73, (.iload_n 3), 1, 0, 0), (74, (.bipush 12), 2, 0, 0), (76, (.if_icmp .ge 44), 3, 120, 0), (79, (.aload_n 0), 1, 0, 0), (80, (.getfield 59), 3, 8, 24), (83, (.iload_n 3), 1, 0, 0), (84, (.iconst 0), 1, 0, 0), (85, .iastore, 1, 0, 0), (86, (.aload_n 0), 1, 0, 0), (87, (.getfield 68), 3, 8, 27), (90, (.iload_n 3), 1, 0, 0), (91, (.iconst 0), 1, 0, 0), (92, .iastore, 1, 0, 0), (93, (.aload_n 0), 1, 0, 0), (94, (.getfield 74), 3, 8, 29), (97, (.iload_n 3), 1, 0, 0), (98, (.iconst 0), 1, 0, 0), (99, .iastore, 1, 0, 0), (100, (.aload_n 0), 1, 0, 0), (101, (.getfield 77), 3, 8, 30), (104, (.iload_n 3), 1, 0, 0), (105, (.iconst 0), 1, 0, 0), (106, .iastore, 1, 0, 0), (107, (.aload_n 0), 1, 0, 0), (108, (.getfield 80), 3, 8, 31), (111, (.iload_n 3), 1, 0, 0), (112, (.iconst 0), 1, 0, 0), (113, .iastore, 1, 0, 0), (114, (.iinc 3 1), 3, 0, 0), (117, (.goto (-44)), 3, 73, 0), (120, (.iconst 0), 1, 0, 0), (121, (.istore_n 3), 1, 0, 0), (122, (.iload_n 3), 1, 0, 0), (123, (.sipush 160), 3, 0, 0), (126, (.if_icmp .ge 16), 3, 142, 0), (129, (.aload_n 0), 1, 0, 0), (130, (.getfield 110), 3, 8, 41), (133, (.iload_n 3), 1, 0, 0), (134, (.iconst 0), 1, 0, 0), (135, .bastore, 1, 0, 0), (136, (.iinc 3 1), 3, 0, 0), (139, (.goto (-17)), 3, 122, 0), (142, (.aload_n 0), 1, 0, 0), (143, (.getfield 180), 3, 8, 22), (146, (.iload_n 2), 1, 0, 0), (147, (.if_icmp .ge 137), 3, 284, 0), (150, (.iconst (-1)), 1, 0, 0), (151, (.istore_n 3), 1, 0, 0), (152, (.iconst (-1)), 1, 0, 0), (153, (.istore 4), 2, 0, 0), (155, (.iconst 0), 1, 0, 0), (156, (.istore 5), 2, 0, 0), (158, (.iconst 0), 1, 0, 0), (159, (.istore 6), 2, 0, 0), (161, (.iload 6), 2, 0, 0), (163, (.aload_n 0), 1, 0, 0), (164, (.getfield 123), 3, 8, 2), (167, (.if_icmp .ge 94), 3, 261, 0), (170, (.aload_n 0), 1, 0, 0), (171, (.iload 6), 2, 0, 0), (173, (.invokevirtual 153), 3, 31, 2), (176, (.istore 7), 2, 0, 0), (178, (.iconst 0), 1, 0, 0), (179, (.istore 8), 2, 0, 0), (181, (.iload 8), 2, 0, 0), (183, (.iload 7), 2, 0, 0), (185, (.if_icmp .ge 70), 3, 255, 0), (188, (.iload_n 1), 1, 0, 0), (189, (.ifCond .ne 7), 3, 196, 0), (192, (.iconst 0), 1, 0, 0), (193, (.goto 11), 3, 204, 0), (196, (.aload_n 0), 1, 0, 0), (197, (.iload 6), 2, 0, 0), (199, (.iload 8), 2, 0, 0), (201, (.invokevirtual 193), 3, 40, 3), (204, (.istore 9), 2, 0, 0), (206, (.aload_n 0), 1, 0, 0), (207, (.getfield 110), 3, 8, 41), (210, (.bipush 8), 2, 0, 0), (212, (.iload 6), 2, 0, 0), (214, .imul, 1, 0, 0), (215, (.iload 8), 2, 0, 0), (217, .iadd, 1, 0, 0), (218, .baload, 1, 0, 0), (219, (.ifCond .ne 30), 3, 249, 0), (222, (.iload 4), 2, 0, 0), (224, (.iconst (-1)), 1, 0, 0), (225, (.if_icmp .eq 13), 3, 238, 0), (228, (.iload 9), 2, 0, 0), (230, (.iload 5), 2, 0, 0), (232, (.if_icmp .lt 6), 3, 238, 0), (235, (.goto 14), 3, 249, 0), (238, (.iload 6), 2, 0, 0), (240, (.istore_n 3), 1, 0, 0), (241, (.iload 8), 2, 0, 0), (243, (.istore 4), 2, 0, 0), (245, (.iload 9), 2, 0, 0), (247, (.istore 5), 2, 0, 0), (249, (.iinc 8 1), 3, 0, 0), (252, (.goto (-71)), 3, 181, 0), (255, (.iinc 6 1), 3, 0, 0), (258, (.goto (-97)), 3, 161, 0), (261, (.aload_n 0), 1, 0, 0), (262, (.getfield 110), 3, 8, 41), (265, (.bipush 8), 2, 0, 0), (267, (.iload_n 3), 1, 0, 0), (268, .imul, 1, 0, 0), (269, (.iload 4), 2, 0, 0), (271, .iadd, 1, 0, 0), (272, (.iconst 1), 1, 0, 0), (273, .bastore, 1, 0, 0), (274, (.aload_n 0), 1, 0, 0), (275, (.iload_n 3), 1, 0, 0), (276, (.iload 4), 2, 0, 0), (278, (.invokevirtual 196), 3, 39, 3), (281, (.goto (-139)), 3, 142, 0), (284, (.iconst 0), 1, 0, 0), (285, (.istore_n 3), 1, 0, 0), (286, (.iload_n 3), 1, 0, 0), (287, (.aload_n 0), 1, 0, 0), (288, (.getfield 120), 3, 8, 1), (291, (.if_icmp .ge 16), 3, 307, 0), (294, (.aload_n 0), 1, 0, 0), (295, (.getfield 113), 3, 8, 42), (298, (.iload_n 3), 1, 0, 0), (299, (.iconst 1), 1, 0, 0), (300, .bastore, 1, 0, 0), (301, (.iinc 3 1), 3, 0, 0), (304, (.goto (-18)), 3, 286, 0), (307, (.aload_n 0), 1, 0, 0), (308, (.invokevirtual 174), 3, 36, 1), (311, (.iload_n 2), 1, 0, 0), (312, .ireturn, 1, 0, 0)]
/-- FixtureOrderModel.events()I -/
def pg_c42 : List (Nat × mj_I) := [(0, (.aload_n 0), 1, 0, 0), (1, (.iconst 0), 1, 0, 0), (2, (.putfield 116), 3, 8, 0), (5, (.aload_n 0), 1, 0, 0), (6, (.getfield 157), 3, 8, 21), (9, .ireturn, 1, 0, 0)]
/-- FixtureOrderModel.event(II)I -/
def pg_c43 : List (Nat × mj_I) := [(0, (.aload_n 0), 1, 0, 0), (1, (.iconst 0), 1, 0, 0), (2, (.putfield 116), 3, 8, 0), (5, (.iload_n 1), 1, 0, 0), (6, (.ifCond .lt 11), 3, 17, 0), (9, (.iload_n 1), 1, 0, 0), (10, (.aload_n 0), 1, 0, 0), (11, (.getfield 157), 3, 8, 21), (14, (.if_icmp .lt 5), 3, 19, 0), (17, (.iconst (-1)), 1, 0, 0), (18, .ireturn, 1, 0, 0), (19, (.iload_n 2), 1, 0, 0), (20, (.ifCond .ne 12), 3, 32, 0), (23, (.aload_n 0), 1, 0, 0), (24, (.getfield 83), 3, 8, 32), (27, (.iload_n 1), 1, 0, 0), (28, .iaload, 1, 0, 0), (29, (.goto 32), 3, 61, 0), (32, (.iload_n 2), 1, 0, 0), (33, (.iconst 1), 1, 0, 0), (34, (.if_icmp .ne 12), 3, 46, 0), (37, (.aload_n 0), 1, 0, 0), (38, (.getfield 86), 3, 8, 33), (41, (.iload_n 1), 1, 0, 0), (42, .iaload, 1, 0, 0), (43, (.goto 18), 3, 61, 0), (46, (.iload_n 2), 1, 0, 0), (47, (.iconst 2), 1, 0, 0), (48, (.if_icmp .ne 12), 3, 60, 0), (51, (.aload_n 0), 1, 0, 0), (52, (.getfield 89), 3, 8, 34), (55, (.iload_n 1), 1, 0, 0), (56, .iaload, 1, 0, 0), (57, (.goto 4), 3, 61, 0), (60, (.iconst (-1)), 1, 0, 0), (61, .ireturn, 1, 0, 0)]
/-- FixtureOrderModel.outcome(II)I -/
def pg_c44 : List (Nat × mj_I) := [(0, (.aload_n 0), 1, 0, 0), (1, (.iconst 0), 1, 0, 0), (2, (.putfield 116), 3, 8, 0), (5, (.iload_n 1), 1, 0, 0), (6, (.ifCond .lt 11), 3, 17, 0), (9, (.iload_n 1), 1, 0, 0), (10, (.aload_n 0), 1, 0, 0), (11, (.getfield 180), 3, 8, 22), (14, (.if_icmp .lt 5), 3, 19, 0), (17, (.iconst (-1)), 1, 0, 0), (18, .ireturn, 1, 0, 0), (19, (.iload_n 2), 1, 0, 0), (20, (.tableswitch 82 0 5 #[40, 47, 54, 61, 68, 75]), 40, 0, 0), (60, (.aload_n 0), 1, 0, 0), (61, (.getfield 92), 3, 8, 35), (64, (.iload_n 1), 1, 0, 0), (65, .iaload, 1, 0, 0), (66, .ireturn, 1, 0, 0), (67, (.aload_n 0), 1, 0, 0), (68, (.getfield 95), 3, 8, 36), (71, (.iload_n 1), 1, 0, 0), (72, .iaload, 1, 0, 0), (73, .ireturn, 1, 0, 0), (74, (.aload_n 0), 1, 0, 0), (75, (.getfield 98), 3, 8, 37), (78, (.iload_n 1), 1, 0, 0), (79, .iaload, 1, 0, 0), (80, .ireturn, 1, 0, 0), (81, (.aload_n 0), 1, 0, 0), (82, (.getfield 101), 3, 8, 38), (85, (.iload_n 1), 1, 0, 0), (86, .iaload, 1, 0, 0), (87, .ireturn, 1, 0, 0), (88, (.aload_n 0), 1, 0, 0), (89, (.getfield 104), 3, 8, 39), (92, (.iload_n 1), 1, 0, 0), (93, .iaload, 1, 0, 0), (94, .ireturn, 1, 0, 0), (95, (.aload_n 0), 1, 0, 0), (96, (.getfield 107), 3, 8, 40), (99, (.iload_n 1), 1, 0, 0), (100, .iaload, 1, 0, 0), (101, .ireturn, 1, 0, 0), (102, (.iconst (-1)), 1, 0, 0), (103, .ireturn, 1, 0, 0)]
/-- FixtureOrderModel.counted(II)I -/
def pg_c45 : List (Nat × mj_I) := [(0, (.aload_n 0), 1, 0, 0), (1, (.iconst 0), 1, 0, 0), (2, (.putfield 116), 3, 8, 0), (5, (.iload_n 1), 1, 0, 0), (6, (.ifCond .lt 11), 3, 17, 0), (9, (.iload_n 1), 1, 0, 0), (10, (.aload_n 0), 1, 0, 0), (11, (.getfield 190), 3, 8, 20), (14, (.if_icmp .lt 5), 3, 19, 0), (17, (.iconst (-1)), 1, 0, 0), (18, .ireturn, 1, 0, 0), (19, (.iload_n 2), 1, 0, 0), (20, (.ifCond .ne 12), 3, 32, 0), (23, (.aload_n 0), 1, 0, 0), (24, (.getfield 74), 3, 8, 29), (27, (.iload_n 1), 1, 0, 0), (28, .iaload, 1, 0, 0), (29, (.goto 32), 3, 61, 0), (32, (.iload_n 2), 1, 0, 0), (33, (.iconst 1), 1, 0, 0), (34, (.if_icmp .ne 12), 3, 46, 0), (37, (.aload_n 0), 1, 0, 0), (38, (.getfield 77), 3, 8, 30), (41, (.iload_n 1), 1, 0, 0), (42, .iaload, 1, 0, 0), (43, (.goto 18), 3, 61, 0), (46, (.iload_n 2), 1, 0, 0), (47, (.iconst 2), 1, 0, 0), (48, (.if_icmp .ne 12), 3, 60, 0), (51, (.aload_n 0), 1, 0, 0), (52, (.getfield 80), 3, 8, 31), (55, (.iload_n 1), 1, 0, 0), (56, .iaload, 1, 0, 0), (57, (.goto 4), 3, 61, 0), (60, (.iconst (-1)), 1, 0, 0), (61, .ireturn, 1, 0, 0)]
/-- FixtureOrder$Case.<init>()V -/
def pg_c46 : List (Nat × mj_I) := [(0, (.aload_n 0), 1, 0, 0), (1, (.invokespecial 3), 3, 9999, 1), (4, (.aload_n 0), 1, 0, 0), (5, (.bipush 12), 2, 0, 0), (7, (.newarray .int), 2, 0, 0), (9, (.putfield 9), 3, 0, 2), (12, .return_, 1, 0, 0)]
/-- FixtureOrder$Case.begin(LFixtureOrder$Test;I)V -/
def pg_c47 : List (Nat × mj_I) := [(0, (.aload_n 0), 1, 0, 0), (1, (.aload_n 1), 1, 0, 0), (2, (.putfield 15), 3, 0, 0), (5, (.aload_n 0), 1, 0, 0), (6, (.iload_n 2), 1, 0, 0), (7, (.putfield 19), 3, 0, 1), (10, (.aload_n 0), 1, 0, 0), (11, (.iconst (-1)), 1, 0, 0), (12, (.putfield 23), 3, 0, 4), (15, (.aload_n 0), 1, 0, 0), (16, (.getfield 9), 3, 0, 2), (19, (.iconst (-1)), 1, 0, 0), (20, (.invokestatic 26), 3, 102, 2), (23, (.aload_n 1), 1, 0, 0), (24, (.getfield 32), 3, 6, 3), (27, (.astore_n 3), 1, 0, 0), (28, (.iload_n 2), 1, 0, 0), (29, (.istore 4), 2, 0, 0), (31, (.aload_n 3), 1, 0, 0), (32, (.getfield 38), 3, 3, 1), (35, (.iconst 1), 1, 0, 0), (36, .isub, 1, 0, 0), (37, (.istore 5), 2, 0, 0), (39, (.iload 5), 2, 0, 0), (41, (.ifCond .lt 51), 3, 92, 0), (44, (.aload_n 3), 1, 0, 0), (45, (.getfield 43), 3, 3, 0), (48, (.iload 5), 2, 0, 0), (50, .aaload, 1, 1, 0), (51, (.astore 6), 2, 0, 0), (53, (.iconst 1), 1, 0, 0), (54, (.aload 6), 2, 0, 0), (56, (.getfield 47), 3, 1, 3), (59, (.invokestatic 52), 3, 9997, 2), (62, (.istore 7), 2, 0, 0), (64, (.aload_n 0), 1, 0, 0), (65, (.getfield 9), 3, 0, 2), (68, (.aload 6), 2, 0, 0), (70, (.getfield 58), 3, 1, 0), (73, (.iload 4), 2, 0, 0), (75, (.iload 7), 2, 0, 0), (77, .irem, 1, 0, 0), (78, .iastore, 1, 0, 0), (79, (.iload 4), 2, 0, 0), (81, (.iload 7), 2, 0, 0), (83, .idiv, 1, 0, 0), (84, (.istore 4), 2, 0, 0), (86, (.iinc 5 (-1)), 3, 0, 0), (89, (.goto (-50)), 3, 39, 0), (92, .return_, 1, 0, 0)]
/-- FixtureOrder$Case.valueFor(LFixtureOrder$Fixture;)I -/
def pg_c48 : List (Nat × mj_I) := [(0, (.aload_n 0), 1, 0, 0), (1, (.getfield 9), 3, 0, 2), (4, (.aload_n 1), 1, 0, 0), (5, (.getfield 58), 3, 1, 0), (8, .iaload, 1, 0, 0), (9, .ireturn, 1, 0, 0)]
/-- FixtureOrder$Case.leavesStanding(LFixtureOrder$Fixture;)Z -/
def pg_c49 : List (Nat × mj_I) := [(0, (.aload_n 0), 1, 0, 0), (1, (.getfield 9), 3, 0, 2), (4, (.aload_n 1), 1, 0, 0), (5, (.getfield 58), 3, 1, 0), (8, .iaload, 1, 0, 0), (9, (.istore_n 2), 1, 0, 0), (10, (.aload_n 1), 1, 0, 0), (11, (.aload_n 0), 1, 0, 0), (12, (.getfield 15), 3, 0, 0), (15, (.getfield 59), 3, 6, 1), (18, (.invokevirtual 62), 3, 56, 2), (21, (.ifCond .ne 20), 3, 41, 0), (24, (.iload_n 2), 1, 0, 0), (25, (.iconst (-1)), 1, 0, 0), (26, (.if_icmp .eq 11), 3, 37, 0), (29, (.iload_n 2), 1, 0, 0), (30, (.aload_n 1), 1, 0, 0), (31, (.getfield 66), 3, 1, 8), (34, (.if_icmp .ne 7), 3, 41, 0), (37, (.iconst 1), 1, 0, 0), (38, (.goto 4), 3, 42, 0), (41, (.iconst 0), 1, 0, 0), (42, .ireturn, 1, 0, 0)]
/-- FixtureOrder$Case.noteUnmade(LFixtureOrder$Fixture;)V -/
def pg_c50 : List (Nat × mj_I) := [(0, (.aload_n 0), 1, 0, 0), (1, (.aload_n 1), 1, 0, 0), (2, (.getfield 58), 3, 1, 0), (5, (.putfield 23), 3, 0, 4), (8, .return_, 1, 0, 0)]
/-- FixtureOrder$Case.finish(IIIZ)V -/
def pg_c51 : List (Nat × mj_I) := [(0, (.aload_n 0), 1, 0, 0), (1, (.iload_n 2), 1, 0, 0), (2, (.putfield 69), 3, 0, 6), (5, (.iload_n 1), 1, 0, 0), (6, (.iconst 1), 1, 0, 0), (7, (.if_icmp .ne 23), 3, 30, 0), (10, (.iload 4), 2, 0, 0), (12, (.ifCond .eq 18), 3, 30, 0), (15, (.aload_n 0), 1, 0, 0), (16, (.iconst 5), 1, 0, 0), (17, (.putfield 72), 3, 0, 3), (20, (.aload_n 0), 1, 0, 0), (21, (.iload_n 3), 1, 0, 0), (22, (.iconst 1), 1, 0, 0), (23, .isub, 1, 0, 0), (24, (.putfield 75), 3, 0, 5), (27, (.goto 13), 3, 40, 0), (30, (.aload_n 0), 1, 0, 0), (31, (.iload_n 1), 1, 0, 0), (32, (.putfield 72), 3, 0, 3), (35, (.aload_n 0), 1, 0, 0), (36, (.iload_n 3), 1, 0, 0), (37, (.putfield 75), 3, 0, 5), (40, .return_, 1, 0, 0)]
/-- FixtureOrder$Case.read(I)I -/
def pg_c52 : List (Nat × mj_I) := [(0, (.iload_n 1), 1, 0, 0), (1, (.tableswitch 72 0 5 #[39, 47, 52, 57, 62, 67]), 39, 0, 0), (40, (.aload_n 0), 1, 0, 0), (41, (.getfield 15), 3, 0, 0), (44, (.getfield 78), 3, 6, 0), (47, .ireturn, 1, 0, 0), (48, (.aload_n 0), 1, 0, 0), (49, (.getfield 19), 3, 0, 1), (52, .ireturn, 1, 0, 0), (53, (.aload_n 0), 1, 0, 0), (54, (.getfield 72), 3, 0, 3), (57, .ireturn, 1, 0, 0), (58, (.aload_n 0), 1, 0, 0), (59, (.getfield 23), 3, 0, 4), (62, .ireturn, 1, 0, 0), (63, (.aload_n 0), 1, 0, 0), (64, (.getfield 75), 3, 0, 5), (67, .ireturn, 1, 0, 0), (68, (.aload_n 0), 1, 0, 0), (69, (.getfield 69), 3, 0, 6), (72, .ireturn, 1, 0, 0), (73, (.iconst (-1)), 1, 0, 0), (74, .ireturn, 1, 0, 0)]
/-- FixtureOrder$Fixture.<init>(IIIZZ)V -/
def pg_c53 : List (Nat × mj_I) := [(0, (.aload_n 0), 1, 0, 0), (1, (.invokespecial 3), 3, 9999, 1), (4, (.aload_n 0), 1, 0, 0), (5, (.iload_n 1), 1, 0, 0), (6, (.putfield 9), 3, 1, 0), (9, (.aload_n 0), 1, 0, 0), (10, (.iconst 1), 1, 0, 0), (11, (.iload_n 1), 1, 0, 0), (12, .ishl, 1, 0, 0), (13, (.putfield 15), 3, 1, 1), (16, (.aload_n 0), 1, 0, 0), (17, (.iload_n 2), 1, 0, 0), (18, (.putfield 18), 3, 1, 2), (21, (.aload_n 0), 1, 0, 0), (22, (.iload_n 3), 1, 0, 0), (23, (.putfield 21), 3, 1, 3), (26, (.aload_n 0), 1, 0, 0), (27, (.iload 4), 2, 0, 0), (29, (.putfield 24), 3, 1, 4), (32, (.aload_n 0), 1, 0, 0), (33, (.iload 5), 2, 0, 0), (35, (.putfield 28), 3, 1, 5), (38, (.aload_n 0), 1, 0, 0), (39, (.new 31), 3, 3, 0), (42, .dup, 1, 0, 0), (43, (.bipush 6), 2, 0, 0), (45, (.invokespecial 33), 3, 68, 2), (48, (.putfield 36), 3, 1, 6), (51, .return_, 1, 0, 0)]
/-- FixtureOrder$Fixture.dependsOnAny(I)Z -/
def pg_c54 : List (Nat × mj_I) := [(0, (.aload_n 0), 1, 0, 0), (1, (.getfield 40), 3, 1, 7), (4, (.iload_n 1), 1, 0, 0), (5, .iand, 1, 0, 0), (6, (.ifCond .eq 7), 3, 13, 0), (9, (.iconst 1), 1, 0, 0), (10, (.goto 4), 3, 14, 0), (13, (.iconst 0), 1, 0, 0), (14, .ireturn, 1, 0, 0)]
/-- FixtureOrder$Fixture.dependAlsoOn(LFixtureOrder$Fixture;)V -/
def pg_c55 : List (Nat × mj_I) := [(0, (.aload_n 0), 1, 0, 0), (1, .dup, 1, 0, 0), (2, (.getfield 40), 3, 1, 7), (5, (.aload_n 1), 1, 0, 0), (6, (.getfield 15), 3, 1, 1), (9, (.aload_n 1), 1, 0, 0), (10, (.getfield 40), 3, 1, 7), (13, .ior, 1, 0, 0), (14, .ior, 1, 0, 0), (15, (.putfield 40), 3, 1, 7), (18, .return_, 1, 0, 0)]
/-- FixtureOrder$Fixture.isMadeForAnother(I)Z -/
def pg_c56 : List (Nat × mj_I) := [(0, (.aload_n 0), 1, 0, 0), (1, (.getfield 18), 3, 1, 2), (4, (.iconst 1), 1, 0, 0), (5, (.if_icmp .ne 15), 3, 20, 0), (8, (.aload_n 0), 1, 0, 0), (9, (.getfield 43), 3, 1, 9), (12, (.iload_n 1), 1, 0, 0), (13, (.if_icmp .eq 7), 3, 20, 0), (16, (.iconst 1), 1, 0, 0), (17, (.goto 4), 3, 21, 0), (20, (.iconst 0), 1, 0, 0), (21, .ireturn, 1, 0, 0)]
/-- FixtureOrder$Fixture.startRun()V -/
def pg_c57 : List (Nat × mj_I) := [(0, (.aload_n 0), 1, 0, 0), (1, (.iconst 0), 1, 0, 0), (2, (.putfield 46), 3, 1, 10), (5, (.aload_n 0), 1, 0, 0), (6, (.iconst 0), 1, 0, 0), (7, (.putfield 49), 3, 1, 12), (10, (.aload_n 0), 1, 0, 0), (11, (.iconst 0), 1, 0, 0), (12, (.putfield 52), 3, 1, 13), (15, (.aload_n 0), 1, 0, 0), (16, (.iconst 0), 1, 0, 0), (17, (.putfield 55), 3, 1, 14), (20, .return_, 1, 0, 0)]
/-- FixtureOrder$Fixture.noteMade(II)V -/
def pg_c58 : List (Nat × mj_I) := [(0, (.aload_n 0), 1, 0, 0), (1, (.iload_n 1), 1, 0, 0), (2, (.putfield 58), 3, 1, 8), (5, (.aload_n 0), 1, 0, 0), (6, (.iload_n 2), 1, 0, 0), (7, (.putfield 43), 3, 1, 9), (10, (.aload_n 0), 1, 0, 0), (11, .dup, 1, 0, 0), (12, (.getfield 49), 3, 1, 12), (15, (.iconst 1), 1, 0, 0), (16, .iadd, 1, 0, 0), (17, (.putfield 49), 3, 1, 12), (20, .return_, 1, 0, 0)]
/-- FixtureOrder$Fixture.noteEnded()V -/
def pg_c59 : List (Nat × mj_I) := [(0, (.aload_n 0), 1, 0, 0), (1, .dup, 1, 0, 0), (2, (.getfield 52), 3, 1, 13), (5, (.iconst 1), 1, 0, 0), (6, .iadd, 1, 0, 0), (7, (.putfield 52), 3, 1, 13), (10, (.aload_n 0), 1, 0, 0), (11, (.getfield 28), 3, 1, 5), (14, (.ifCond .eq 13), 3, 27, 0), (17, (.aload_n 0), 1, 0, 0), (18, .dup, 1, 0, 0), (19, (.getfield 55), 3, 1, 14), (22, (.iconst 1), 1, 0, 0), (23, .iadd, 1, 0, 0), (24, (.putfield 55), 3, 1, 14), (27, .return_, 1, 0, 0)]
/-- FixtureOrder$Fixture.rememberFailed(II)V -/
def pg_c60 : List (Nat × mj_I) := [(0, (.aload_n 0), 1, 0, 0), (1, (.getfield 18), 3, 1, 2), (4, (.ifCond .eq 20), 3, 24, 0), (7, (.aload_n 0), 1, 0, 0), (8, .dup, 1, 0, 0), (9, (.getfield 46), 3, 1, 10), (12, (.iconst 1), 1, 0, 0), (13, (.iload_n 1), 1, 0, 0), (14, .ishl, 1, 0, 0), (15, .ior, 1, 0, 0), (16, (.putfield 46), 3, 1, 10), (19, (.aload_n 0), 1, 0, 0), (20, (.iload_n 2), 1, 0, 0), (21, (.putfield 61), 3, 1, 11), (24, .return_, 1, 0, 0)]
/-- FixtureOrder$Fixture.isRememberedFailed(I)Z -/
def pg_c61 : List (Nat × mj_I) := [(0, (.aload_n 0), 1, 0, 0), (1, (.getfield 46), 3, 1, 10), (4, (.iconst 1), 1, 0, 0), (5, (.iload_n 1), 1, 0, 0), (6, .ishl, 1, 0, 0), (7, .iand, 1, 0, 0), (8, (.ifCond .eq 7), 3, 15, 0), (11, (.iconst 1), 1, 0, 0), (12, (.goto 4), 3, 16, 0), (15, (.iconst 0), 1, 0, 0), (16, .ireturn, 1, 0, 0)]
/-- FixtureOrder$Fixture.forgetIfOfAnother(I)V -/
def pg_c62 : List (Nat × mj_I) := [(0, (.aload_n 0), 1, 0, 0), (1, (.getfield 18), 3, 1, 2), (4, (.iconst 1), 1, 0, 0), (5, (.if_icmp .ne 16), 3, 21, 0), (8, (.aload_n 0), 1, 0, 0), (9, (.getfield 61), 3, 1, 11), (12, (.iload_n 1), 1, 0, 0), (13, (.if_icmp .eq 8), 3, 21, 0), (16, (.aload_n 0), 1, 0, 0), (17, (.iconst 0), 1, 0, 0), (18, (.putfield 46), 3, 1, 10), (21, .return_, 1, 0, 0)]
/-- FixtureOrder$Fixture.readCount(I)I -/
def pg_c63 : List (Nat × mj_I) := [(0, (.iload_n 1), 1, 0, 0), (1, (.tableswitch 42 0 2 #[27, 32, 37]), 27, 0, 0), (28, (.aload_n 0), 1, 0, 0), (29, (.getfield 49), 3, 1, 12), (32, .ireturn, 1, 0, 0), (33, (.aload_n 0), 1, 0, 0), (34, (.getfield 52), 3, 1, 13), (37, .ireturn, 1, 0, 0), (38, (.aload_n 0), 1, 0, 0), (39, (.getfield 55), 3, 1, 14), (42, .ireturn, 1, 0, 0), (43, (.iconst (-1)), 1, 0, 0), (44, .ireturn, 1, 0, 0)]
/-- FixtureOrder$Log.<init>()V -/
def pg_c64 : List (Nat × mj_I) := [(0, (.aload_n 0), 1, 0, 0), (1, (.invokespecial 3), 3, 9999, 1), (4, (.aload_n 0), 1, 0, 0), (5, (.sipush 3492), 3, 0, 0), (8, (.newarray .int), 2, 0, 0), (10, (.putfield 9), 3, 2, 0), (13, .return_, 1, 0, 0)]
/-- FixtureOrder$Log.clear()V -/
def pg_c65 : List (Nat × mj_I) := [(0, (.aload_n 0), 1, 0, 0), (1, (.iconst 0), 1, 0, 0), (2, (.putfield 15), 3, 2, 1), (5, .return_, 1, 0, 0)]
/-- FixtureOrder$Log.add(III)V -/
def pg_c66 : List (Nat × mj_I) := [(0, (.aload_n 0), 1, 0, 0), (1, (.getfield 15), 3, 2, 1), (4, (.aload_n 0), 1, 0, 0), (5, (.getfield 9), 3, 2, 0), (8, .arraylength, 1, 0, 0), (9, (.if_icmp .ge 32), 3, 41, 0), (12, (.aload_n 0), 1, 0, 0), (13, (.getfield 9), 3, 2, 0), (16, (.aload_n 0), 1, 0, 0), (17, (.getfield 15), 3, 2, 1), (20, (.iload_n 1), 1, 0, 0), (21, (.iload_n 2), 1, 0, 0), (22, (.iconst 4), 1, 0, 0), (23, .ishl, 1, 0, 0), (24, .ior, 1, 0, 0), (25, (.iload_n 3), 1, 0, 0), (26, (.bipush 12), 2, 0, 0), (28, .ishl, 1, 0, 0), (29, .ior, 1, 0, 0), (30, .iastore, 1, 0, 0), (31, (.aload_n 0), 1, 0, 0), (32, .dup, 1, 0, 0), (33, (.getfield 15), 3, 2, 1), (36, (.iconst 1), 1, 0, 0), (37, .iadd, 1, 0, 0), (38, (.putfield 15), 3, 2, 1), (41, .return_, 1, 0, 0)]
/-- FixtureOrder$Log.read(II)I -/
def pg_c67 : List (Nat × mj_I) := [(0, (.iload_n 1), 1, 0, 0), (1, (.ifCond .lt 11), 3, 12, 0), (4, (.iload_n 1), 1, 0, 0), (5, (.aload_n 0), 1, 0, 0), (6, (.getfield 15), 3, 2, 1), (9, (.if_icmp .lt 5), 3, 14, 0), (12, (.iconst (-1)), 1, 0, 0), (13, .ireturn, 1, 0, 0), (14, (.iload_n 2), 1, 0, 0), (15, (.tableswitch 58 0 2 #[25, 35, 48]), 25, 0, 0), (40, (.aload_n 0), 1, 0, 0), (41, (.getfield 9), 3, 2, 0), (44, (.iload_n 1), 1, 0, 0), (45, .iaload, 1, 0, 0), (46, (.bipush 15), 2, 0, 0), (48, .iand, 1, 0, 0), (49, .ireturn, 1, 0, 0), (50, (.aload_n 0), 1, 0, 0), (51, (.getfield 9), 3, 2, 0), (54, (.iload_n 1), 1, 0, 0), (55, .iaload, 1, 0, 0), (56, (.iconst 4), 1, 0, 0), (57, .ishr, 1, 0, 0), (58, (.sipush 255), 3, 0, 0), (61, .iand, 1, 0, 0), (62, .ireturn, 1, 0, 0), (63, (.aload_n 0), 1, 0, 0), (64, (.getfield 9), 3, 2, 0), (67, (.iload_n 1), 1, 0, 0), (68, .iaload, 1, 0, 0), (69, (.bipush 12), 2, 0, 0), (71, .ishr, 1, 0, 0), (72, .ireturn, 1, 0, 0), (73, (.iconst (-1)), 1, 0, 0), (74, .ireturn, 1, 0, 0)]
/-- FixtureOrder$Row.<init>(I)V -/
def pg_c68 : List (Nat × mj_I) := [(0, (.aload_n 0), 1, 0, 0), (1, (.invokespecial 3), 3, 9999, 1), (4, (.aload_n 0), 1, 0, 0), (5, (.bipush 12), 2, 0, 0), (7, (.anewarray 9), 3, 1, 0), (10, (.putfield 11), 3, 3, 0), (13, (.aload_n 0), 1, 0, 0), (14, (.iload_n 1), 1, 0, 0), (15, (.bipush 12), 2, 0, 0), (17, (.invokestatic 17), 3, 9998, 2), (20, (.putfield 23), 3, 3, 3), (23, .return_, 1, 0, 0)]
/-- FixtureOrder$Row.holds(LFixtureOrder$Fixture;)Z -/
def pg_c69 : List (Nat × mj_I) := [(0, (.aload_n 0), 1, 0, 0), (1, (.getfield 27), 3, 3, 2), (4, (.aload_n 1), 1, 0, 0), (5, (.getfield 30), 3, 1, 1), (8, .iand, 1, 0, 0), (9, (.ifCond .eq 7), 3, 16, 0), (12, (.iconst 1), 1, 0, 0), (13, (.goto 4), 3, 17, 0), (16, (.iconst 0), 1, 0, 0), (17, .ireturn, 1, 0, 0)]
/-- FixtureOrder$Row.canTake(LFixtureOrder$Fixture;)Z -/
def pg_c70 : List (Nat × mj_I) := [(0, (.aload_n 0), 1, 0, 0), (1, (.getfield 33), 3, 3, 1), (4, (.aload_n 0), 1, 0, 0), (5, (.getfield 23), 3, 3, 3), (8, (.if_icmp .ge 19), 3, 27, 0), (11, (.aload_n 0), 1, 0, 0), (12, (.getfield 27), 3, 3, 2), (15, (.aload_n 1), 1, 0, 0), (16, (.getfield 30), 3, 1, 1), (19, .iand, 1, 0, 0), (20, (.ifCond .ne 7), 3, 27, 0), (23, (.iconst 1), 1, 0, 0), (24, (.goto 4), 3, 28, 0), (27, (.iconst 0), 1, 0, 0), (28, .ireturn, 1, 0, 0)]
/-- FixtureOrder$Row.append(LFixtureOrder$Fixture;)V -/
def pg_c71 : List (Nat × mj_I) := [(0, (.aload_n 0), 1, 0, 0), (1, (.aload_n 1), 1, 0, 0), (2, (.invokevirtual 36), 3, 70, 2), (5, (.ifCond .eq 36), 3, 41, 0), (8, (.aload_n 0), 1, 0, 0), (9, (.getfield 11), 3, 3, 0), (12, (.aload_n 0), 1, 0, 0), (13, (.getfield 33), 3, 3, 1), (16, (.aload_n 1), 1, 0, 0), (17, .aastore, 1, 1, 0), (18, (.aload_n 0), 1, 0, 0), (19, .dup, 1, 0, 0), (20, (.getfield 27), 3, 3, 2), (23, (.aload_n 1), 1, 0, 0), (24, (.getfield 30), 3, 1, 1), (27, .ior, 1, 0, 0), (28, (.putfield 27), 3, 3, 2), (31, (.aload_n 0), 1, 0, 0), (32, .dup, 1, 0, 0), (33, (.getfield 33), 3, 3, 1), (36, (.iconst 1), 1, 0, 0), (37, .iadd, 1, 0, 0), (38, (.putfield 33), 3, 3, 1), (41, .return_, 1, 0, 0)]
/-- FixtureOrder$Row.removeAt(I)V -/
def pg_c72 : List (Nat × mj_I) := [(0, (.iload_n 1), 1, 0, 0), (1, (.ifCond .lt 11), 3, 12, 0), (4, (.iload_n 1), 1, 0, 0), (5, (.aload_n 0), 1, 0, 0), (6, (.getfield 33), 3, 3, 1), (9, (.if_icmp .lt 4), 3, 13, 0), (12, .return_, 1, 0, 0), (13, (.aload_n 0), 1, 0, 0), (14, .dup, 1, 0, 0), (15, (.getfield 27), 3, 3, 2), (18, (.aload_n 0), 1, 0, 0), (19, (.getfield 11), 3, 3, 0), (22, (.iload_n 1), 1, 0, 0), (23, .aaload, 1, 1, 0), (24, (.getfield 30), 3, 1, 1), (27, (.iconst (-1)), 1, 0, 0), (28, .ixor, 1, 0, 0), (29, .iand, 1, 0, 0), (30, (.putfield 27), 3, 3, 2), (33, (.iload_n 1), 1, 0, 0), (34, (.istore_n 2), 1, 0, 0), (35, (.iload_n 2), 1, 0, 0), (36, (.iconst 1), 1, 0, 0), (37, .iadd, 1, 0, 0), (38, (.aload_n 0), 1, 0, 0), (39, (.getfield 33), 3, 3, 1), (42, (.if_icmp .ge 23), 3, 65, 0), (45, (.aload_n 0), 1, 0, 0), (46, (.getfield 11), 3, 3, 0), (49, (.iload_n 2), 1, 0, 0), (50, (.aload_n 0), 1, 0, 0), (51, (.getfield 11), 3, 3, 0), (54, (.iload_n 2), 1, 0, 0), (55, (.iconst 1), 1, 0, 0), (56, .iadd, 1, 0, 0), (57, .aaload, 1, 1, 0), (58, .aastore, 1, 1, 0), (59, (.iinc 2 1), 3, 0, 0), (62, (.goto (-27)), 3, 35, 0), (65, (.aload_n 0), 1, 0, 0), (66, .dup, 1, 0, 0), (67, (.getfield 33), 3, 3, 1), (70, (.iconst 1), 1, 0, 0), (71, .isub, 1, 0, 0), (72, (.putfield 33), 3, 3, 1), (75, .return_, 1, 0, 0)]
/-- FixtureOrder$Row.at(I)LFixtureOrder$Fixture; -/
def pg_c73 : List (Nat × mj_I) := [(0, (.iload_n 1), 1, 0, 0), (1, (.ifCond .lt 20), 3, 21, 0), (4, (.iload_n 1), 1, 0, 0), (5, (.aload_n 0), 1, 0, 0), (6, (.getfield 33), 3, 3, 1), (9, (.if_icmp .ge 12), 3, 21, 0), (12, (.aload_n 0), 1, 0, 0), (13, (.getfield 11), 3, 3, 0), (16, (.iload_n 1), 1, 0, 0), (17, .aaload, 1, 1, 0), (18, (.goto 4), 3, 22, 0), (21, .aconst_null, 1, 0, 0), (22, .areturn, 1, 0, 0)]
/-- FixtureOrder$Row.clear()V -/
def pg_c74 : List (Nat × mj_I) := [(0, (.aload_n 0), 1, 0, 0), (1, (.iconst 0), 1, 0, 0), (2, (.putfield 33), 3, 3, 1), (5, (.aload_n 0), 1, 0, 0), (6, (.iconst 0), 1, 0, 0), (7, (.putfield 27), 3, 3, 2), (10, .return_, 1, 0, 0)]
/-- FixtureOrder$Runner.<init>()V -/
def pg_c75 : List (Nat × mj_I) := [(0, (.aload_n 0), 1, 0, 0), (1, (.invokespecial 3), 3, 9999, 1), (4, (.aload_n 0), 1, 0, 0), (5, (.new 9), 3, 3, 0), (8, .dup, 1, 0, 0), (9, (.bipush 12), 2, 0, 0), (11, (.invokespecial 11), 3, 68, 2), (14, (.putfield 14), 3, 4, 0), (17, (.aload_n 0), 1, 0, 0), (18, (.new 20), 3, 2, 0), (21, .dup, 1, 0, 0), (22, (.invokespecial 22), 3, 64, 1), (25, (.putfield 23), 3, 4, 1), (28, (.aload_n 0), 1, 0, 0), (29, (.bipush 40), 2, 0, 0), (31, (.anewarray 27), 3, 0, 0), (34, (.putfield 29), 3, 4, 2), (37, (.iconst 0), 1, 0, 0), (38, (.istore_n 1), 1, 0, 0), (39, (.iload_n 1), 1, 0, 0), (40, (.bipush 40), 2, 0, 0), (42, (.if_icmp .ge 22), 3, 64, 0), (45, (.aload_n 0), 1, 0, 0), (46, (.getfield 29), 3, 4, 2), (49, (.iload_n 1), 1, 0, 0), (50, (.new 27), 3, 0, 0), (53, .dup, 1, 0, 0), (54, (.invokespecial 33), 3, 46, 1), (57, .aastore, 1, 0, 0), (58, (.iinc 1 1), 3, 0, 0), (61, (.goto (-22)), 3, 39, 0), (64, .return_, 1, 0, 0)]
/-- FixtureOrder$Runner.caseAt(I)LFixtureOrder$Case; -/
def pg_c76 : List (Nat × mj_I) := [(0, (.iload_n 1), 1, 0, 0), (1, (.ifCond .lt 20), 3, 21, 0), (4, (.iload_n 1), 1, 0, 0), (5, (.aload_n 0), 1, 0, 0), (6, (.getfield 34), 3, 4, 3), (9, (.if_icmp .ge 12), 3, 21, 0), (12, (.aload_n 0), 1, 0, 0), (13, (.getfield 29), 3, 4, 2), (16, (.iload_n 1), 1, 0, 0), (17, .aaload, 1, 0, 0), (18, (.goto 4), 3, 22, 0), (21, .aconst_null, 1, 0, 0), (22, .areturn, 1, 0, 0)]
/-- FixtureOrder$Runner.runAll(LFixtureOrder$Suite;I)V -/
def pg_c77 : List (Nat × mj_I) := [(0, (.aload_n 0), 1, 0, 0), (1, (.aload_n 1), 1, 0, 0), (2, (.invokevirtual 38), 3, 78, 2), (5, (.aload_n 0), 1, 0, 0), (6, (.aload_n 1), 1, 0, 0), (7, (.invokevirtual 42), 3, 79, 2), (10, (.iconst 0), 1, 0, 0), (11, (.istore_n 3), 1, 0, 0), (12, (.iload_n 3), 1, 0, 0), (13, (.aload_n 0), 1, 0, 0), (14, (.getfield 34), 3, 4, 3), (17, (.if_icmp .ge 36), 3, 53, 0), (20, (.iload_n 2), 1, 0, 0), (21, (.iconst 1), 1, 0, 0), (22, (.if_icmp .ne 13), 3, 35, 0), (25, (.aload_n 0), 1, 0, 0), (26, (.aload_n 0), 1, 0, 0), (27, (.iload_n 3), 1, 0, 0), (28, (.invokevirtual 45), 3, 80, 2), (31, (.iload_n 3), 1, 0, 0), (32, (.invokevirtual 49), 3, 82, 3), (35, (.aload_n 0), 1, 0, 0), (36, (.aload_n 1), 1, 0, 0), (37, (.aload_n 0), 1, 0, 0), (38, (.getfield 29), 3, 4, 2), (41, (.iload_n 3), 1, 0, 0), (42, .aaload, 1, 0, 0), (43, (.iload_n 3), 1, 0, 0), (44, (.invokevirtual 53), 3, 83, 4), (47, (.iinc 3 1), 3, 0, 0), (50, (.goto (-38)), 3, 12, 0), (53, (.aload_n 0), 1, 0, 0), (54, (.aload_n 0), 1, 0, 0), (55, (.getfield 14), 3, 4, 0), (58, (.getfield 57), 3, 3, 2), (61, (.invokevirtual 60), 3, 88, 2), (64, .pop, 1, 0, 0), (65, .return_, 1, 0, 0)]
/-- FixtureOrder$Runner.startRun(LFixtureOrder$Suite;)V -/
def pg_c78 : List (Nat × mj_I) := [(0, (.aload_n 0), 1, 0, 0), (1, (.getfield 23), 3, 4, 1), (4, (.invokevirtual 63), 3, 65, 1), (7, (.aload_n 0), 1, 0, 0), (8, (.getfield 14), 3, 4, 0), (11, (.invokevirtual 66), 3, 74, 1), (14, (.aload_n 0), 1, 0, 0), (15, (.aload_n 1), 1, 0, 0), (16, (.getfield 67), 3, 5, 1), (19, (.putfield 72), 3, 4, 4), (22, (.iconst 0), 1, 0, 0), (23, (.istore_n 2), 1, 0, 0), (24, (.iload_n 2), 1, 0, 0), (25, (.aload_n 0), 1, 0, 0), (26, (.getfield 72), 3, 4, 4), (29, (.if_icmp .ge 18), 3, 47, 0), (32, (.aload_n 1), 1, 0, 0), (33, (.getfield 75), 3, 5, 0), (36, (.iload_n 2), 1, 0, 0), (37, .aaload, 1, 1, 0), (38, (.invokevirtual 79), 3, 57, 1), (41, (.iinc 2 1), 3, 0, 0), (44, (.goto (-20)), 3, 24, 0), (47, .return_, 1, 0, 0)]
/-- FixtureOrder$Runner.listCases(LFixtureOrder$Suite;)V -/
def pg_c79 : List (Nat × mj_I) := [(0, (.aload_n 0), 1, 0, 0), (1, (.iconst 0), 1, 0, 0), (2, (.putfield 34), 3, 4, 3), (5, (.iconst 0), 1, 0, 0), (6, (.istore_n 2), 1, 0, 0), (7, (.iload_n 2), 1, 0, 0), (8, (.aload_n 1), 1, 0, 0), (9, (.getfield 83), 3, 5, 3), (12, (.if_icmp .ge 72), 3, 84, 0), (15, (.aload_n 1), 1, 0, 0), (16, (.getfield 86), 3, 5, 2), (19, (.iload_n 2), 1, 0, 0), (20, .aaload, 1, 6, 0), (21, (.astore_n 3), 1, 0, 0), (22, (.aload_n 3), 1, 0, 0), (23, (.invokevirtual 90), 3, 100, 1), (26, (.istore 4), 2, 0, 0), (28, (.iconst 0), 1, 0, 0), (29, (.istore 5), 2, 0, 0), (31, (.iload 5), 2, 0, 0), (33, (.iload 4), 2, 0, 0), (35, (.if_icmp .ge 43), 3, 78, 0), (38, (.aload_n 0), 1, 0, 0), (39, (.getfield 34), 3, 4, 3), (42, (.bipush 40), 2, 0, 0), (44, (.if_icmp .ge 34), 3, 78, 0), (47, (.aload_n 0), 1, 0, 0), (48, (.getfield 29), 3, 4, 2), (51, (.aload_n 0), 1, 0, 0), (52, (.getfield 34), 3, 4, 3), (55, .aaload, 1, 0, 0), (56, (.aload_n 3), 1, 0, 0), (57, (.iload 5), 2, 0, 0), (59, (.invokevirtual 96), 3, 47, 3), (62, (.aload_n 0), 1, 0, 0), (63, .dup, 1, 0, 0), (64, (.getfield 34), 3, 4, 3), (67, (.iconst 1), 1, 0, 0), (68, .iadd, 1, 0, 0), (69, (.putfield 34), 3, 4, 3), (72, (.iinc 5 1), 3, 0, 0), (75, (.goto (-44)), 3, 31, 0), (78, (.iinc 2 1), 3, 0, 0), (81, (.goto (-74)), 3, 7, 0), (84, .return_, 1, 0, 0)]
/-- FixtureOrder$Runner.placeOfFewestUnmade(I)I -/
def pg_c80 : List (Nat × mj_I) := [(0, (.iload_n 1), 1, 0, 0), (1, (.istore_n 2), 1, 0, 0), (2, (.bipush 13), 2, 0, 0), (4, (.istore_n 3), 1, 0, 0), (5, (.iload_n 1), 1, 0, 0), (6, (.istore 4), 2, 0, 0), (8, (.iload 4), 2, 0, 0), (10, (.aload_n 0), 1, 0, 0), (11, (.getfield 34), 3, 4, 3), (14, (.if_icmp .ge 34), 3, 48, 0), (17, (.aload_n 0), 1, 0, 0), (18, (.aload_n 0), 1, 0, 0), (19, (.getfield 29), 3, 4, 2), (22, (.iload 4), 2, 0, 0), (24, .aaload, 1, 0, 0), (25, (.invokevirtual 100), 3, 81, 2), (28, (.istore 5), 2, 0, 0), (30, (.iload 5), 2, 0, 0), (32, (.iload_n 3), 1, 0, 0), (33, (.if_icmp .ge 9), 3, 42, 0), (36, (.iload 5), 2, 0, 0), (38, (.istore_n 3), 1, 0, 0), (39, (.iload 4), 2, 0, 0), (41, (.istore_n 2), 1, 0, 0), (42, (.iinc 4 1), 3, 0, 0), (45, (.goto (-37)), 3, 8, 0), (48, (.iload_n 2), 1, 0, 0), (49, .ireturn, 1, 0, 0)]
/-- FixtureOrder$Runner.countUnmade(LFixtureOrder$Case;)I -/
def pg_c81 : List (Nat × mj_I) := [(0, (.aload_n 1), 1, 0, 0), (1, (.getfield 104), 3, 0, 0), (4, (.getfield 108), 3, 6, 3), (7, (.astore_n 2), 1, 0, 0), (8, (.iconst 0), 1, 0, 0), (9, (.istore_n 3), 1, 0, 0), (10, (.iconst 0), 1, 0, 0), (11, (.istore 4), 2, 0, 0), (13, (.iload 4), 2, 0, 0), (15, (.aload_n 2), 1, 0, 0), (16, (.getfield 111), 3, 3, 1), (19, (.if_icmp .ge 42), 3, 61, 0), (22, (.aload_n 2), 1, 0, 0), (23, (.getfield 114), 3, 3, 0), (26, (.iload 4), 2, 0, 0), (28, .aaload, 1, 1, 0), (29, (.astore 5), 2, 0, 0), (31, (.aload_n 0), 1, 0, 0), (32, (.getfield 14), 3, 4, 0), (35, (.aload 5), 2, 0, 0), (37, (.invokevirtual 117), 3, 69, 2), (40, (.ifCond .eq 12), 3, 52, 0), (43, (.aload_n 1), 1, 0, 0), (44, (.aload 5), 2, 0, 0), (46, (.invokevirtual 121), 3, 49, 2), (49, (.ifCond .ne 6), 3, 55, 0), (52, (.iinc 3 1), 3, 0, 0), (55, (.iinc 4 1), 3, 0, 0), (58, (.goto (-45)), 3, 13, 0), (61, (.iload_n 3), 1, 0, 0), (62, .ireturn, 1, 0, 0)]
/-- FixtureOrder$Runner.bringForward(II)V -/
def pg_c82 : List (Nat × mj_I) := [(0, (.aload_n 0), 1, 0, 0), (1, (.getfield 29), 3, 4, 2), (4, (.iload_n 1), 1, 0, 0), (5, .aaload, 1, 0, 0), (6, (.astore_n 3), 1, 0, 0), (7, (.iload_n 1), 1, 0, 0), (8, (.istore 4), 2, 0, 0), (10, (.iload 4), 2, 0, 0), (12, (.iload_n 2), 1, 0, 0), (13, (.if_icmp .le 25), 3, 38, 0), (16, (.aload_n 0), 1, 0, 0), (17, (.getfield 29), 3, 4, 2), (20, (.iload 4), 2, 0, 0), (22, (.aload_n 0), 1, 0, 0), (23, (.getfield 29), 3, 4, 2), (26, (.iload 4), 2, 0, 0), (28, (.iconst 1), 1, 0, 0), (29, .isub, 1, 0, 0), (30, .aaload, 1, 0, 0), (31, .aastore, 1, 0, 0), (32, (.iinc 4 (-1)), 3, 0, 0), (35, (.goto (-25)), 3, 10, 0), (38, (.aload_n 0), 1, 0, 0), (39, (.getfield 29), 3, 4, 2), (42, (.iload_n 2), 1, 0, 0), (43, (.aload_n 3), 1, 0, 0), (44, .aastore, 1, 0, 0), (45, .return_, 1, 0, 0)]
/-- FixtureOrder$Runner.takeCase(LFixtureOrder$Suite;LFixtureOrder$Case;I)V -/
def pg_c83 : List (Nat × mj_I) := [(0, (.aload_n 0), 1, 0, 0), (1, (.aload_n 0), 1, 0, 0), (2, (.aload_n 2), 1, 0, 0), (3, (.invokevirtual 124), 3, 84, 2), (6, (.invokevirtual 60), 3, 88, 2), (9, (.istore 4), 2, 0, 0), (11, (.aload_n 1), 1, 0, 0), (12, (.aload_n 2), 1, 0, 0), (13, (.getfield 104), 3, 0, 0), (16, (.getfield 127), 3, 6, 1), (19, (.invokevirtual 130), 3, 95, 2), (22, (.iload 4), 2, 0, 0), (24, (.istore 5), 2, 0, 0), (26, (.iconst 0), 1, 0, 0), (27, (.istore 6), 2, 0, 0), (29, (.iconst 4), 1, 0, 0), (30, (.istore 7), 2, 0, 0), (32, (.iconst 0), 1, 0, 0), (33, (.istore 8), 2, 0, 0), (35, (.iconst 0), 1, 0, 0), (36, (.istore 9), 2, 0, 0), (38, (.iload 9), 2, 0, 0), (40, (.aload_n 2), 1, 0, 0), (41, (.getfield 104), 3, 0, 0), (44, (.getfield 133), 3, 6, 7), (47, (.if_icmp .gt 54), 3, 101, 0), (50, (.aload_n 0), 1, 0, 0), (51, (.aload_n 2), 1, 0, 0), (52, (.iload_n 3), 1, 0, 0), (53, (.iload 9), 2, 0, 0), (55, (.invokevirtual 136), 3, 86, 4), (58, (.istore 7), 2, 0, 0), (60, (.aload_n 0), 1, 0, 0), (61, (.aload_n 0), 1, 0, 0), (62, (.invokevirtual 140), 3, 85, 1), (65, (.invokevirtual 60), 3, 88, 2), (68, (.istore 6), 2, 0, 0), (70, (.iload 5), 2, 0, 0), (72, (.iload 6), 2, 0, 0), (74, .iadd, 1, 0, 0), (75, (.istore 5), 2, 0, 0), (77, (.iinc 8 1), 3, 0, 0), (80, (.iload 7), 2, 0, 0), (82, (.iconst 2), 1, 0, 0), (83, (.if_icmp .eq 12), 3, 95, 0), (86, (.iload 7), 2, 0, 0), (88, (.iconst 3), 1, 0, 0), (89, (.if_icmp .eq 6), 3, 95, 0), (92, (.goto 9), 3, 101, 0), (95, (.iinc 9 1), 3, 0, 0), (98, (.goto (-60)), 3, 38, 0), (101, (.aload_n 2), 1, 0, 0), (102, (.iload 7), 2, 0, 0), (104, (.iload 8), 2, 0, 0), (106, (.iload 5), 2, 0, 0), (108, (.iload 4), 2, 0, 0), (110, (.iload 6), 2, 0, 0), (112, .iadd, 1, 0, 0), (113, (.ifCond .le 7), 3, 120, 0), (116, (.iconst 1), 1, 0, 0), (117, (.goto 4), 3, 121, 0), (120, (.iconst 0), 1, 0, 0), (121, (.invokevirtual 143), 3, 51, 5), (124, .return_, 1, 0, 0)]
/-- FixtureOrder$Runner.bitsThatCannotStay(LFixtureOrder$Case;)I -/
def pg_c84 : List (Nat × mj_I) := [(0, (.iconst 0), 1, 0, 0), (1, (.istore_n 2), 1, 0, 0), (2, (.iconst 0), 1, 0, 0), (3, (.istore_n 3), 1, 0, 0), (4, (.iload_n 3), 1, 0, 0), (5, (.aload_n 0), 1, 0, 0), (6, (.getfield 14), 3, 4, 0), (9, (.getfield 111), 3, 3, 1), (12, (.if_icmp .ge 40), 3, 52, 0), (15, (.aload_n 1), 1, 0, 0), (16, (.aload_n 0), 1, 0, 0), (17, (.getfield 14), 3, 4, 0), (20, (.getfield 114), 3, 3, 0), (23, (.iload_n 3), 1, 0, 0), (24, .aaload, 1, 1, 0), (25, (.invokevirtual 121), 3, 49, 2), (28, (.ifCond .ne 18), 3, 46, 0), (31, (.iload_n 2), 1, 0, 0), (32, (.aload_n 0), 1, 0, 0), (33, (.getfield 14), 3, 4, 0), (36, (.getfield 114), 3, 3, 0), (39, (.iload_n 3), 1, 0, 0), (40, .aaload, 1, 1, 0), (41, (.getfield 147), 3, 1, 1), (44, .ior, 1, 0, 0), (45, (.istore_n 2), 1, 0, 0), (46, (.iinc 3 1), 3, 0, 0), (49, (.goto (-45)), 3, 4, 0), (52, (.iconst 0), 1, 0, 0), (53, (.istore_n 3), 1, 0, 0), (54, (.iconst 0), 1, 0, 0), (55, (.istore 4), 2, 0, 0), (57, (.iload 4), 2, 0, 0), (59, (.aload_n 0), 1, 0, 0), (60, (.getfield 14), 3, 4, 0), (63, (.getfield 111), 3, 3, 1), (66, (.if_icmp .ge 42), 3, 108, 0), (69, (.aload_n 0), 1, 0, 0), (70, (.getfield 14), 3, 4, 0), (73, (.getfield 114), 3, 3, 0), (76, (.iload 4), 2, 0, 0), (78, .aaload, 1, 1, 0), (79, (.iload_n 2), 1, 0, 0), (80, (.invokevirtual 150), 3, 54, 2), (83, (.ifCond .eq 19), 3, 102, 0), (86, (.iload_n 3), 1, 0, 0), (87, (.aload_n 0), 1, 0, 0), (88, (.getfield 14), 3, 4, 0), (91, (.getfield 114), 3, 3, 0), (94, (.iload 4), 2, 0, 0), (96, .aaload, 1, 1, 0), (97, (.getfield 147), 3, 1, 1), (100, .ior, 1, 0, 0), (101, (.istore_n 3), 1, 0, 0), (102, (.iinc 4 1), 3, 0, 0), (105, (.goto (-48)), 3, 57, 0), (108, (.iload_n 2), 1, 0, 0), (109, (.iload_n 3), 1, 0, 0), (110, .ior, 1, 0, 0), (111, .ireturn, 1, 0, 0)]
/-- FixtureOrder$Runner.bitsOfCaseScope()I -/
def pg_c85 : List (Nat × mj_I) := [(0, (.iconst 0), 1, 0, 0), (1, (.istore_n 1), 1, 0, 0), (2, (.iconst 0), 1, 0, 0), (3, (.istore_n 2), 1, 0, 0), (4, (.iload_n 2), 1, 0, 0), (5, (.aload_n 0), 1, 0, 0), (6, (.getfield 14), 3, 4, 0), (9, (.getfield 111), 3, 3, 1), (12, (.if_icmp .ge 39), 3, 51, 0), (15, (.aload_n 0), 1, 0, 0), (16, (.getfield 14), 3, 4, 0), (19, (.getfield 114), 3, 3, 0), (22, (.iload_n 2), 1, 0, 0), (23, .aaload, 1, 1, 0), (24, (.getfield 154), 3, 1, 2), (27, (.ifCond .ne 18), 3, 45, 0), (30, (.iload_n 1), 1, 0, 0), (31, (.aload_n 0), 1, 0, 0), (32, (.getfield 14), 3, 4, 0), (35, (.getfield 114), 3, 3, 0), (38, (.iload_n 2), 1, 0, 0), (39, .aaload, 1, 1, 0), (40, (.getfield 147), 3, 1, 1), (43, .ior, 1, 0, 0), (44, (.istore_n 1), 1, 0, 0), (45, (.iinc 2 1), 3, 0, 0), (48, (.goto (-44)), 3, 4, 0), (51, (.iload_n 1), 1, 0, 0), (52, .ireturn, 1, 0, 0)]
/-- FixtureOrder$Runner.tryCase(LFixtureOrder$Case;II)I -/
def pg_c86 : List (Nat × mj_I) := [(0, (.aload_n 1), 1, 0, 0), (1, (.getfield 104), 3, 0, 0), (4, (.getfield 108), 3, 6, 3), (7, (.astore 4), 2, 0, 0), (9, (.iconst 0), 1, 0, 0), (10, (.istore 5), 2, 0, 0), (12, (.iload 5), 2, 0, 0), (14, (.aload 4), 2, 0, 0), (16, (.getfield 111), 3, 3, 1), (19, (.if_icmp .ge 49), 3, 68, 0), (22, (.aload 4), 2, 0, 0), (24, (.getfield 114), 3, 3, 0), (27, (.iload 5), 2, 0, 0), (29, .aaload, 1, 1, 0), (30, (.astore 6), 2, 0, 0), (32, (.aload_n 0), 1, 0, 0), (33, (.getfield 14), 3, 4, 0), (36, (.aload 6), 2, 0, 0), (38, (.invokevirtual 117), 3, 69, 2), (41, (.ifCond .ne 21), 3, 62, 0), (44, (.aload_n 0), 1, 0, 0), (45, (.aload 6), 2, 0, 0), (47, (.aload_n 1), 1, 0, 0), (48, (.invokevirtual 157), 3, 87, 3), (51, (.ifCond .ne 11), 3, 62, 0), (54, (.aload_n 1), 1, 0, 0), (55, (.aload 6), 2, 0, 0), (57, (.invokevirtual 161), 3, 50, 2), (60, (.iconst 4), 1, 0, 0), (61, .ireturn, 1, 0, 0), (62, (.iinc 5 1), 3, 0, 0), (65, (.goto (-53)), 3, 12, 0), (68, (.aload_n 0), 1, 0, 0), (69, (.getfield 23), 3, 4, 1), (72, (.iconst 4), 1, 0, 0), (73, (.iload_n 2), 1, 0, 0), (74, (.iload_n 3), 1, 0, 0), (75, (.invokevirtual 165), 3, 66, 4), (78, (.aload_n 1), 1, 0, 0), (79, (.getfield 104), 3, 0, 0), (82, (.iload_n 3), 1, 0, 0), (83, (.invokevirtual 169), 3, 101, 2), (86, .ireturn, 1, 0, 0)]
/-- FixtureOrder$Runner.make(LFixtureOrder$Fixture;LFixtureOrder$Case;)Z -/
def pg_c87 : List (Nat × mj_I) := [(0, (.aload_n 2), 1, 0, 0), (1, (.aload_n 1), 1, 0, 0), (2, (.invokevirtual 172), 3, 48, 2), (5, (.istore_n 3), 1, 0, 0), (6, (.aload_n 2), 1, 0, 0), (7, (.getfield 104), 3, 0, 0), (10, (.getfield 127), 3, 6, 1), (13, (.istore 4), 2, 0, 0), (15, (.aload_n 1), 1, 0, 0), (16, (.iload_n 3), 1, 0, 0), (17, (.invokevirtual 176), 3, 61, 2), (20, (.ifCond .eq 5), 3, 25, 0), (23, (.iconst 0), 1, 0, 0), (24, .ireturn, 1, 0, 0), (25, (.aload_n 1), 1, 0, 0), (26, (.getfield 179), 3, 1, 4), (29, (.ifCond .eq 25), 3, 54, 0), (32, (.aload_n 1), 1, 0, 0), (33, (.iload_n 3), 1, 0, 0), (34, (.iload 4), 2, 0, 0), (36, (.invokevirtual 183), 3, 60, 3), (39, (.aload_n 0), 1, 0, 0), (40, (.getfield 23), 3, 4, 1), (43, (.iconst 1), 1, 0, 0), (44, (.aload_n 1), 1, 0, 0), (45, (.getfield 186), 3, 1, 0), (48, (.iload_n 3), 1, 0, 0), (49, (.invokevirtual 165), 3, 66, 4), (52, (.iconst 0), 1, 0, 0), (53, .ireturn, 1, 0, 0), (54, (.aload_n 1), 1, 0, 0), (55, (.iload_n 3), 1, 0, 0), (56, (.iload 4), 2, 0, 0), (58, (.invokevirtual 189), 3, 58, 3), (61, (.aload_n 0), 1, 0, 0), (62, (.getfield 14), 3, 4, 0), (65, (.aload_n 1), 1, 0, 0), (66, (.invokevirtual 192), 3, 71, 2), (69, (.aload_n 0), 1, 0, 0), (70, (.getfield 23), 3, 4, 1), (73, (.iconst 0), 1, 0, 0), (74, (.aload_n 1), 1, 0, 0), (75, (.getfield 186), 3, 1, 0), (78, (.iload_n 3), 1, 0, 0), (79, (.invokevirtual 165), 3, 66, 4), (82, (.iconst 1), 1, 0, 0), (83, .ireturn, 1, 0, 0)]
/-- FixtureOrder$Runner.endMade(I)I -/
def pg_c88 : List (Nat × mj_I) := [(0, (.iconst 0), 1, 0, 0), (1, (.istore_n 2), 1, 0, 0), (2, (.aload_n 0), 1, 0, 0), (3, (.getfield 14), 3, 4, 0), (6, (.getfield 111), 3, 3, 1), (9, (.iconst 1), 1, 0, 0), (10, .isub, 1, 0, 0), (11, (.istore_n 3), 1, 0, 0), (12, (.iload_n 3), 1, 0, 0), (13, (.ifCond .lt 89), 3, 102, 0), (16, (.aload_n 0), 1, 0, 0), (17, (.getfield 14), 3, 4, 0), (20, (.getfield 114), 3, 3, 0), (23, (.iload_n 3), 1, 0, 0), (24, .aaload, 1, 1, 0), (25, (.astore 4), 2, 0, 0), (27, (.iload_n 1), 1, 0, 0), (28, (.aload 4), 2, 0, 0), (30, (.getfield 147), 3, 1, 1), (33, .iand, 1, 0, 0), (34, (.ifCond .eq 62), 3, 96, 0), (37, (.aload_n 0), 1, 0, 0), (38, (.getfield 14), 3, 4, 0), (41, (.iload_n 3), 1, 0, 0), (42, (.invokevirtual 195), 3, 72, 2), (45, (.aload 4), 2, 0, 0), (47, (.invokevirtual 198), 3, 59, 1), (50, (.aload_n 0), 1, 0, 0), (51, (.getfield 23), 3, 4, 1), (54, (.aload 4), 2, 0, 0), (56, (.getfield 201), 3, 1, 5), (59, (.ifCond .eq 7), 3, 66, 0), (62, (.iconst 3), 1, 0, 0), (63, (.goto 4), 3, 67, 0), (66, (.iconst 2), 1, 0, 0), (67, (.aload 4), 2, 0, 0), (69, (.getfield 186), 3, 1, 0), (72, (.aload 4), 2, 0, 0), (74, (.getfield 204), 3, 1, 8), (77, (.invokevirtual 165), 3, 66, 4), (80, (.iload_n 2), 1, 0, 0), (81, (.aload 4), 2, 0, 0), (83, (.getfield 201), 3, 1, 5), (86, (.ifCond .eq 7), 3, 93, 0), (89, (.iconst 1), 1, 0, 0), (90, (.goto 4), 3, 94, 0), (93, (.iconst 0), 1, 0, 0), (94, .iadd, 1, 0, 0), (95, (.istore_n 2), 1, 0, 0), (96, (.iinc 3 (-1)), 3, 0, 0), (99, (.goto (-87)), 3, 12, 0), (102, (.iload_n 2), 1, 0, 0), (103, .ireturn, 1, 0, 0)]
/-- FixtureOrder$Suite.<init>()V -/
def pg_c89 : List (Nat × mj_I) := [(0, (.aload_n 0), 1, 0, 0), (1, (.invokespecial 3), 3, 9999, 1), (4, (.aload_n 0), 1, 0, 0), (5, (.bipush 12), 2, 0, 0), (7, (.anewarray 9), 3, 1, 0), (10, (.putfield 11), 3, 5, 0), (13, (.aload_n 0), 1, 0, 0), (14, (.bipush 20), 2, 0, 0), (16, (.anewarray 17), 3, 6, 0), (19, (.putfield 19), 3, 5, 2), (22, .return_, 1, 0, 0)]
/-- FixtureOrder$Suite.fixtureAt(I)LFixtureOrder$Fixture; -/
def pg_c90 : List (Nat × mj_I) := [(0, (.iload_n 1), 1, 0, 0), (1, (.ifCond .lt 20), 3, 21, 0), (4, (.iload_n 1), 1, 0, 0), (5, (.aload_n 0), 1, 0, 0), (6, (.getfield 23), 3, 5, 1), (9, (.if_icmp .ge 12), 3, 21, 0), (12, (.aload_n 0), 1, 0, 0), (13, (.getfield 11), 3, 5, 0), (16, (.iload_n 1), 1, 0, 0), (17, .aaload, 1, 1, 0), (18, (.goto 4), 3, 22, 0), (21, .aconst_null, 1, 0, 0), (22, .areturn, 1, 0, 0)]
/-- FixtureOrder$Suite.testAt(I)LFixtureOrder$Test; -/
def pg_c91 : List (Nat × mj_I) := [(0, (.iload_n 1), 1, 0, 0), (1, (.ifCond .lt 20), 3, 21, 0), (4, (.iload_n 1), 1, 0, 0), (5, (.aload_n 0), 1, 0, 0), (6, (.getfield 27), 3, 5, 3), (9, (.if_icmp .ge 12), 3, 21, 0), (12, (.aload_n 0), 1, 0, 0), (13, (.getfield 19), 3, 5, 2), (16, (.iload_n 1), 1, 0, 0), (17, .aaload, 1, 6, 0), (18, (.goto 4), 3, 22, 0), (21, .aconst_null, 1, 0, 0), (22, .areturn, 1, 0, 0)]
/-- FixtureOrder$Suite.addFixture(IIZZ)I -/
def pg_c92 : List (Nat × mj_I) := [(0, (.aload_n 0), 1, 0, 0), (1, (.getfield 23), 3, 5, 1), (4, (.bipush 12), 2, 0, 0), (6, (.if_icmp .lt 5), 3, 11, 0), (9, (.iconst (-1)), 1, 0, 0), (10, .ireturn, 1, 0, 0), (11, (.aload_n 0), 1, 0, 0), (12, (.getfield 11), 3, 5, 0), (15, (.aload_n 0), 1, 0, 0), (16, (.getfield 23), 3, 5, 1), (19, (.new 9), 3, 1, 0), (22, .dup, 1, 0, 0), (23, (.aload_n 0), 1, 0, 0), (24, (.getfield 23), 3, 5, 1), (27, (.iload_n 1), 1, 0, 0), (28, (.iload_n 2), 1, 0, 0), (29, (.iload_n 3), 1, 0, 0), (30, (.iload 4), 2, 0, 0), (32, (.invokespecial 30), 3, 53, 6), (35, .aastore, 1, 1, 0), (36, (.aload_n 0), 1, 0, 0), (37, .dup, 1, 0, 0), (38, (.getfield 23), 3, 5, 1), (41, .dup_x1, 1, 0, 0), (42, (.iconst 1), 1, 0, 0), (43, .iadd, 1, 0, 0), (44, (.putfield 23), 3, 5, 1), (47, .ireturn, 1, 0, 0)]
/-- FixtureOrder$Suite.addTest(I)I -/
def pg_c93 : List (Nat × mj_I) := [(0, (.aload_n 0), 1, 0, 0), (1, (.getfield 27), 3, 5, 3), (4, (.bipush 20), 2, 0, 0), (6, (.if_icmp .lt 5), 3, 11, 0), (9, (.iconst (-1)), 1, 0, 0), (10, .ireturn, 1, 0, 0), (11, (.aload_n 0), 1, 0, 0), (12, (.getfield 19), 3, 5, 2), (15, (.aload_n 0), 1, 0, 0), (16, (.getfield 27), 3, 5, 3), (19, (.new 17), 3, 6, 0), (22, .dup, 1, 0, 0), (23, (.aload_n 0), 1, 0, 0), (24, (.getfield 27), 3, 5, 3), (27, (.iload_n 1), 1, 0, 0), (28, (.invokespecial 33), 3, 97, 3), (31, .aastore, 1, 6, 0), (32, (.aload_n 0), 1, 0, 0), (33, .dup, 1, 0, 0), (34, (.getfield 27), 3, 5, 3), (37, .dup_x1, 1, 0, 0), (38, (.iconst 1), 1, 0, 0), (39, .iadd, 1, 0, 0), (40, (.putfield 27), 3, 5, 3), (43, .ireturn, 1, 0, 0)]
/-- FixtureOrder$Suite.link(LFixtureOrder$Fixture;LFixtureOrder$Fixture;)V -/
def pg_c94 : List (Nat × mj_I) := [(0, (.aload_n 1), 1, 0, 0), (1, (.getfield 36), 3, 1, 6), (4, (.aload_n 2), 1, 0, 0), (5, (.invokevirtual 40), 3, 71, 2), (8, (.iconst 0), 1, 0, 0), (9, (.istore_n 3), 1, 0, 0), (10, (.iload_n 3), 1, 0, 0), (11, (.aload_n 0), 1, 0, 0), (12, (.getfield 23), 3, 5, 1), (15, (.if_icmp .ge 45), 3, 60, 0), (18, (.aload_n 0), 1, 0, 0), (19, (.getfield 11), 3, 5, 0), (22, (.iload_n 3), 1, 0, 0), (23, .aaload, 1, 1, 0), (24, (.aload_n 1), 1, 0, 0), (25, (.if_acmp .eq 19), 3, 44, 0), (28, (.aload_n 0), 1, 0, 0), (29, (.getfield 11), 3, 5, 0), (32, (.iload_n 3), 1, 0, 0), (33, .aaload, 1, 1, 0), (34, (.aload_n 1), 1, 0, 0), (35, (.getfield 46), 3, 1, 1), (38, (.invokevirtual 49), 3, 54, 2), (41, (.ifCond .eq 13), 3, 54, 0), (44, (.aload_n 0), 1, 0, 0), (45, (.getfield 11), 3, 5, 0), (48, (.iload_n 3), 1, 0, 0), (49, .aaload, 1, 1, 0), (50, (.aload_n 2), 1, 0, 0), (51, (.invokevirtual 53), 3, 55, 2), (54, (.iinc 3 1), 3, 0, 0), (57, (.goto (-47)), 3, 10, 0), (60, .return_, 1, 0, 0)]
/-- FixtureOrder$Suite.forgetFailuresOfOtherFiles(I)V -/
def pg_c95 : List (Nat × mj_I) := [(0, (.iconst 0), 1, 0, 0), (1, (.istore_n 2), 1, 0, 0), (2, (.iload_n 2), 1, 0, 0), (3, (.aload_n 0), 1, 0, 0), (4, (.getfield 23), 3, 5, 1), (7, (.if_icmp .ge 19), 3, 26, 0), (10, (.aload_n 0), 1, 0, 0), (11, (.getfield 11), 3, 5, 0), (14, (.iload_n 2), 1, 0, 0), (15, .aaload, 1, 1, 0), (16, (.iload_n 1), 1, 0, 0), (17, (.invokevirtual 56), 3, 62, 2), (20, (.iinc 2 1), 3, 0, 0), (23, (.goto (-21)), 3, 2, 0), (26, .return_, 1, 0, 0)]
/-- FixtureOrder$Suite.countAllCases()I -/
def pg_c96 : List (Nat × mj_I) := [(0, (.iconst 0), 1, 0, 0), (1, (.istore_n 1), 1, 0, 0), (2, (.iconst 0), 1, 0, 0), (3, (.istore_n 2), 1, 0, 0), (4, (.iload_n 2), 1, 0, 0), (5, (.aload_n 0), 1, 0, 0), (6, (.getfield 27), 3, 5, 3), (9, (.if_icmp .ge 21), 3, 30, 0), (12, (.iload_n 1), 1, 0, 0), (13, (.aload_n 0), 1, 0, 0), (14, (.getfield 19), 3, 5, 2), (17, (.iload_n 2), 1, 0, 0), (18, .aaload, 1, 6, 0), (19, (.invokevirtual 60), 3, 100, 1), (22, .iadd, 1, 0, 0), (23, (.istore_n 1), 1, 0, 0), (24, (.iinc 2 1), 3, 0, 0), (27, (.goto (-23)), 3, 4, 0), (30, (.iload_n 1), 1, 0, 0), (31, .ireturn, 1, 0, 0)]
/-- FixtureOrder$Test.<init>(II)V -/
def pg_c97 : List (Nat × mj_I) := [(0, (.aload_n 0), 1, 0, 0), (1, (.invokespecial 3), 3, 9999, 1), (4, (.aload_n 0), 1, 0, 0), (5, (.iload_n 1), 1, 0, 0), (6, (.putfield 9), 3, 6, 0), (9, (.aload_n 0), 1, 0, 0), (10, (.iload_n 2), 1, 0, 0), (11, (.putfield 15), 3, 6, 1), (14, (.aload_n 0), 1, 0, 0), (15, (.new 18), 3, 3, 0), (18, .dup, 1, 0, 0), (19, (.bipush 6), 2, 0, 0), (21, (.invokespecial 20), 3, 68, 2), (24, (.putfield 23), 3, 6, 2), (27, (.aload_n 0), 1, 0, 0), (28, (.new 18), 3, 3, 0), (31, .dup, 1, 0, 0), (32, (.bipush 12), 2, 0, 0), (34, (.invokespecial 20), 3, 68, 2), (37, (.putfield 27), 3, 6, 3), (40, .return_, 1, 0, 0)]
/-- FixtureOrder$Test.findClosure()V -/
def pg_c98 : List (Nat × mj_I) := [(0, (.aload_n 0), 1, 0, 0), (1, (.getfield 27), 3, 6, 3), (4, (.invokevirtual 30), 3, 74, 1), (7, (.iconst 0), 1, 0, 0), (8, (.istore_n 1), 1, 0, 0), (9, (.iload_n 1), 1, 0, 0), (10, (.aload_n 0), 1, 0, 0), (11, (.getfield 23), 3, 6, 2), (14, (.getfield 33), 3, 3, 1), (17, (.if_icmp .ge 26), 3, 43, 0), (20, (.aload_n 0), 1, 0, 0), (21, (.getfield 27), 3, 6, 3), (24, (.aload_n 0), 1, 0, 0), (25, (.getfield 23), 3, 6, 2), (28, (.getfield 36), 3, 3, 0), (31, (.iload_n 1), 1, 0, 0), (32, .aaload, 1, 1, 0), (33, (.iconst 1), 1, 0, 0), (34, (.invokestatic 40), 3, 99, 3), (37, (.iinc 1 1), 3, 0, 0), (40, (.goto (-31)), 3, 9, 0), (43, .return_, 1, 0, 0)]
/-- FixtureOrder$Test.includeBehindItsNeeds(LFixtureOrder$Row;LFixtureOrder$Fixture;I)V -/
def pg_c99 : List (Nat × mj_I) := [(0, (.iload_n 2), 1, 0, 0), (1, (.bipush 12), 2, 0, 0), (3, (.if_icmp .gt 11), 3, 14, 0), (6, (.aload_n 0), 1, 0, 0), (7, (.aload_n 1), 1, 0, 0), (8, (.invokevirtual 44), 3, 69, 2), (11, (.ifCond .eq 4), 3, 15, 0), (14, .return_, 1, 0, 0), (15, (.aload_n 1), 1, 0, 0), (16, (.getfield 48), 3, 1, 6), (19, (.astore_n 3), 1, 0, 0), (20, (.iconst 0), 1, 0, 0), (21, (.istore 4), 2, 0, 0), (23, (.iload 4), 2, 0, 0), (25, (.aload_n 3), 1, 0, 0), (26, (.getfield 33), 3, 3, 1), (29, (.if_icmp .ge 23), 3, 52, 0), (32, (.aload_n 0), 1, 0, 0), (33, (.aload_n 3), 1, 0, 0), (34, (.getfield 36), 3, 3, 0), (37, (.iload 4), 2, 0, 0), (39, .aaload, 1, 1, 0), (40, (.iload_n 2), 1, 0, 0), (41, (.iconst 1), 1, 0, 0), (42, .iadd, 1, 0, 0), (43, (.invokestatic 40), 3, 99, 3), (46, (.iinc 4 1), 3, 0, 0), (49, (.goto (-26)), 3, 23, 0), (52, (.aload_n 0), 1, 0, 0), (53, (.aload_n 1), 1, 0, 0), (54, (.invokevirtual 53), 3, 71, 2), (57, .return_, 1, 0, 0)]
/-- FixtureOrder$Test.countCases()I -/
def pg_c100 : List (Nat × mj_I) := [(0, (.aload_n 0), 1, 0, 0), (1, (.invokevirtual 57), 3, 98, 1), (4, (.iconst 1), 1, 0, 0), (5, (.istore_n 1), 1, 0, 0), (6, (.iconst 0), 1, 0, 0), (7, (.istore_n 2), 1, 0, 0), (8, (.iload_n 2), 1, 0, 0), (9, (.aload_n 0), 1, 0, 0), (10, (.getfield 27), 3, 6, 3), (13, (.getfield 33), 3, 3, 1), (16, (.if_icmp .ge 29), 3, 45, 0), (19, (.bipush 8), 2, 0, 0), (21, (.iload_n 1), 1, 0, 0), (22, (.aload_n 0), 1, 0, 0), (23, (.getfield 27), 3, 6, 3), (26, (.getfield 36), 3, 3, 0), (29, (.iload_n 2), 1, 0, 0), (30, .aaload, 1, 1, 0), (31, (.getfield 60), 3, 1, 3), (34, .imul, 1, 0, 0), (35, (.invokestatic 63), 3, 9998, 2), (38, (.istore_n 1), 1, 0, 0), (39, (.iinc 2 1), 3, 0, 0), (42, (.goto (-34)), 3, 8, 0), (45, (.iload_n 1), 1, 0, 0), (46, .ireturn, 1, 0, 0)]
/-- FixtureOrder$Test.resultOfSteps(I)I -/
def pg_c101 : List (Nat × mj_I) := [(0, (.aload_n 0), 1, 0, 0), (1, (.getfield 69), 3, 6, 4), (4, (.aload_n 0), 1, 0, 0), (5, (.getfield 72), 3, 6, 5), (8, (.if_icmp .le 5), 3, 13, 0), (11, (.iconst 3), 1, 0, 0), (12, .ireturn, 1, 0, 0), (13, (.iload_n 1), 1, 0, 0), (14, (.aload_n 0), 1, 0, 0), (15, (.getfield 75), 3, 6, 6), (18, (.if_icmp .ge 7), 3, 25, 0), (21, (.iconst 2), 1, 0, 0), (22, (.goto 4), 3, 26, 0), (25, (.iconst 1), 1, 0, 0), (26, .ireturn, 1, 0, 0)]
/-- java/util/Arrays.fill([II)V -/
def pg_c102 : List (Nat × mj_I) := [(0, (.iconst 0), 1, 0, 0), (1, (.istore_n 2), 1, 0, 0), (2, (.aload_n 0), 1, 0, 0), (3, .arraylength, 1, 0, 0), (4, (.istore_n 3), 1, 0, 0), (5, (.iload_n 2), 1, 0, 0), (6, (.iload_n 3), 1, 0, 0), (7, (.if_icmp .ge 13), 3, 20, 0), (10, (.aload_n 0), 1, 0, 0), (11, (.iload_n 2), 1, 0, 0), (12, (.iload_n 1), 1, 0, 0), (13, .iastore, 1, 0, 0), (14, (.iinc 2 1), 3, 0, 0), (17, (.goto (-12)), 3, 5, 0), (20, .return_, 1, 0, 0)]
def pg_cs (M : Nat) : List (Nat × mj_I) := match M with
  | 0 => pg_c0
  | 1 => pg_c1
  | 2 => pg_c2
  | 3 => pg_c3
  | 4 => pg_c4
  | 5 => pg_c5
  | 6 => pg_c6
  | 7 => pg_c7
  | 8 => pg_c8
  | 9 => pg_c9
  | 10 => pg_c10
  | 11 => pg_c11
  | 12 => pg_c12
  | 13 => pg_c13
  | 14 => pg_c14
  | 15 => pg_c15
  | 16 => pg_c16
  | 17 => pg_c17
  | 18 => pg_c18
  | 19 => pg_c19
  | 20 => pg_c20
  | 21 => pg_c21
  | 22 => pg_c22
  | 23 => pg_c23
  | 24 => pg_c24
  | 25 => pg_c25
  | 26 => pg_c26
  | 27 => pg_c27
  | 28 => pg_c28
  | 29 => pg_c29
  | 30 => pg_c30
  | 31 => pg_c31
  | 32 => pg_c32
  | 33 => pg_c33
  | 34 => pg_c34
  | 35 => pg_c35
  | 36 => pg_c36
  | 37 => pg_c37
  | 38 => pg_c38
  | 39 => pg_c39
  | 40 => pg_c40
  | 41 => pg_c41
  | 42 => pg_c42
  | 43 => pg_c43
  | 44 => pg_c44
  | 45 => pg_c45
  | 46 => pg_c46
  | 47 => pg_c47
  | 48 => pg_c48
  | 49 => pg_c49
  | 50 => pg_c50
  | 51 => pg_c51
  | 52 => pg_c52
  | 53 => pg_c53
  | 54 => pg_c54
  | 55 => pg_c55
  | 56 => pg_c56
  | 57 => pg_c57
  | 58 => pg_c58
  | 59 => pg_c59
  | 60 => pg_c60
  | 61 => pg_c61
  | 62 => pg_c62
  | 63 => pg_c63
  | 64 => pg_c64
  | 65 => pg_c65
  | 66 => pg_c66
  | 67 => pg_c67
  | 68 => pg_c68
  | 69 => pg_c69
  | 70 => pg_c70
  | 71 => pg_c71
  | 72 => pg_c72
  | 73 => pg_c73
  | 74 => pg_c74
  | 75 => pg_c75
  | 76 => pg_c76
  | 77 => pg_c77
  | 78 => pg_c78
  | 79 => pg_c79
  | 80 => pg_c80
  | 81 => pg_c81
  | 82 => pg_c82
  | 83 => pg_c83
  | 84 => pg_c84
  | 85 => pg_c85
  | 86 => pg_c86
  | 87 => pg_c87
  | 88 => pg_c88
  | 89 => pg_c89
  | 90 => pg_c90
  | 91 => pg_c91
  | 92 => pg_c92
  | 93 => pg_c93
  | 94 => pg_c94
  | 95 => pg_c95
  | 96 => pg_c96
  | 97 => pg_c97
  | 98 => pg_c98
  | 99 => pg_c99
  | 100 => pg_c100
  | 101 => pg_c101
  | 102 => pg_c102
  | _ => []
def pg_cd (M pc : Nat) : Option mj_I := (pg_cs M).lookup pc
def pg : mj_P := (pg_cd, pg_mx, pg_rk, pg_df, pg_zk, pg_mc)
def pg_ak : List Nat := [0, 1, 6]
def pg_Ts : List Cond := lw_tbl.filter goodWord
def pg_Nw : List Cond := [(Jvm.Cond.methodLinkNest "FixtureOrder" (11 : Nat) ({ cls := "FixtureOrder$Suite", name := "<init>", desc := "()V" } : Jvm.MethodName) "FixtureOrder"), (Jvm.Cond.arrayOver (Jvm.ClassFile.FieldType.object "FixtureOrder$Fixture")), (Jvm.Cond.arrayOver (Jvm.ClassFile.FieldType.object "FixtureOrder$Test")), (Jvm.Cond.methodLinkNest "FixtureOrder$Runner" (22 : Nat) ({ cls := "FixtureOrder$Log", name := "<init>", desc := "()V" } : Jvm.MethodName) "FixtureOrder"), (Jvm.Cond.arrayOver (Jvm.ClassFile.FieldType.object "FixtureOrder$Case")), (Jvm.Cond.methodLinkNest "FixtureOrder$Runner" (33 : Nat) ({ cls := "FixtureOrder$Case", name := "<init>", desc := "()V" } : Jvm.MethodName) "FixtureOrder")]
theorem pg_in {w : Cond} (h : w ∈ tables_1) (hg : goodWord w = true) : w ∈ pg_Ts := List.mem_filter.mpr ⟨List.mem_append_right _ h, hg⟩
theorem pg_inS {w : Cond} (h : w ∈ k2_sels lw_privs) (hg : goodWord w = true) : w ∈ pg_Ts := List.mem_filter.mpr ⟨List.mem_append_left _ h, hg⟩
end
section
/-! the words of the tables that the links need -/
theorem tw_125 : (Jvm.Cond.lays "FixtureOrder$Case" "FixtureOrder$Case" "tries" "I") ∈ pg_Ts := pg_in (List.mem_of_getElem? (i := 125) (by decide +kernel)) rfl
theorem tw_123 : (Jvm.Cond.lays "FixtureOrder$Case" "FixtureOrder$Case" "suppressed" "I") ∈ pg_Ts := pg_in (List.mem_of_getElem? (i := 123) (by decide +kernel)) rfl
theorem tw_121 : (Jvm.Cond.lays "FixtureOrder$Case" "FixtureOrder$Case" "unmade" "I") ∈ pg_Ts := pg_in (List.mem_of_getElem? (i := 121) (by decide +kernel)) rfl
theorem tw_119 : (Jvm.Cond.lays "FixtureOrder$Case" "FixtureOrder$Case" "outcome" "I") ∈ pg_Ts := pg_in (List.mem_of_getElem? (i := 119) (by decide +kernel)) rfl
theorem tw_117 : (Jvm.Cond.laysFinal "FixtureOrder$Case" "FixtureOrder$Case" "given" "[I") ∈ pg_Ts := pg_in (List.mem_of_getElem? (i := 117) (by decide +kernel)) rfl
theorem tw_115 : (Jvm.Cond.lays "FixtureOrder$Case" "FixtureOrder$Case" "number" "I") ∈ pg_Ts := pg_in (List.mem_of_getElem? (i := 115) (by decide +kernel)) rfl
theorem tw_113 : (Jvm.Cond.lays "FixtureOrder$Case" "FixtureOrder$Case" "test" "LFixtureOrder$Test;") ∈ pg_Ts := pg_in (List.mem_of_getElem? (i := 113) (by decide +kernel)) rfl
theorem tw_233 : (Jvm.Cond.lays "FixtureOrder$Fixture" "FixtureOrder$Fixture" "timesLeaked" "I") ∈ pg_Ts := pg_in (List.mem_of_getElem? (i := 233) (by decide +kernel)) rfl
theorem tw_231 : (Jvm.Cond.lays "FixtureOrder$Fixture" "FixtureOrder$Fixture" "timesEnded" "I") ∈ pg_Ts := pg_in (List.mem_of_getElem? (i := 231) (by decide +kernel)) rfl
theorem tw_229 : (Jvm.Cond.lays "FixtureOrder$Fixture" "FixtureOrder$Fixture" "timesMade" "I") ∈ pg_Ts := pg_in (List.mem_of_getElem? (i := 229) (by decide +kernel)) rfl
theorem tw_227 : (Jvm.Cond.lays "FixtureOrder$Fixture" "FixtureOrder$Fixture" "failedFile" "I") ∈ pg_Ts := pg_in (List.mem_of_getElem? (i := 227) (by decide +kernel)) rfl
theorem tw_225 : (Jvm.Cond.lays "FixtureOrder$Fixture" "FixtureOrder$Fixture" "failedValueBits" "I") ∈ pg_Ts := pg_in (List.mem_of_getElem? (i := 225) (by decide +kernel)) rfl
theorem tw_223 : (Jvm.Cond.lays "FixtureOrder$Fixture" "FixtureOrder$Fixture" "file" "I") ∈ pg_Ts := pg_in (List.mem_of_getElem? (i := 223) (by decide +kernel)) rfl
theorem tw_221 : (Jvm.Cond.lays "FixtureOrder$Fixture" "FixtureOrder$Fixture" "value" "I") ∈ pg_Ts := pg_in (List.mem_of_getElem? (i := 221) (by decide +kernel)) rfl
theorem tw_219 : (Jvm.Cond.lays "FixtureOrder$Fixture" "FixtureOrder$Fixture" "neededBits" "I") ∈ pg_Ts := pg_in (List.mem_of_getElem? (i := 219) (by decide +kernel)) rfl
theorem tw_217 : (Jvm.Cond.laysFinal "FixtureOrder$Fixture" "FixtureOrder$Fixture" "needed" "LFixtureOrder$Row;") ∈ pg_Ts := pg_in (List.mem_of_getElem? (i := 217) (by decide +kernel)) rfl
theorem tw_215 : (Jvm.Cond.laysFinal "FixtureOrder$Fixture" "FixtureOrder$Fixture" "endFails" "Z") ∈ pg_Ts := pg_in (List.mem_of_getElem? (i := 215) (by decide +kernel)) rfl
theorem tw_213 : (Jvm.Cond.laysFinal "FixtureOrder$Fixture" "FixtureOrder$Fixture" "makeFails" "Z") ∈ pg_Ts := pg_in (List.mem_of_getElem? (i := 213) (by decide +kernel)) rfl
theorem tw_211 : (Jvm.Cond.laysFinal "FixtureOrder$Fixture" "FixtureOrder$Fixture" "values" "I") ∈ pg_Ts := pg_in (List.mem_of_getElem? (i := 211) (by decide +kernel)) rfl
theorem tw_209 : (Jvm.Cond.laysFinal "FixtureOrder$Fixture" "FixtureOrder$Fixture" "scope" "I") ∈ pg_Ts := pg_in (List.mem_of_getElem? (i := 209) (by decide +kernel)) rfl
theorem tw_207 : (Jvm.Cond.laysFinal "FixtureOrder$Fixture" "FixtureOrder$Fixture" "bit" "I") ∈ pg_Ts := pg_in (List.mem_of_getElem? (i := 207) (by decide +kernel)) rfl
theorem tw_205 : (Jvm.Cond.laysFinal "FixtureOrder$Fixture" "FixtureOrder$Fixture" "number" "I") ∈ pg_Ts := pg_in (List.mem_of_getElem? (i := 205) (by decide +kernel)) rfl
theorem tw_94 : (Jvm.Cond.lays "FixtureOrder$Log" "FixtureOrder$Log" "count" "I") ∈ pg_Ts := pg_in (List.mem_of_getElem? (i := 94) (by decide +kernel)) rfl
theorem tw_92 : (Jvm.Cond.laysFinal "FixtureOrder$Log" "FixtureOrder$Log" "packed" "[I") ∈ pg_Ts := pg_in (List.mem_of_getElem? (i := 92) (by decide +kernel)) rfl
theorem tw_80 : (Jvm.Cond.laysFinal "FixtureOrder$Row" "FixtureOrder$Row" "most" "I") ∈ pg_Ts := pg_in (List.mem_of_getElem? (i := 80) (by decide +kernel)) rfl
theorem tw_78 : (Jvm.Cond.lays "FixtureOrder$Row" "FixtureOrder$Row" "bits" "I") ∈ pg_Ts := pg_in (List.mem_of_getElem? (i := 78) (by decide +kernel)) rfl
theorem tw_76 : (Jvm.Cond.lays "FixtureOrder$Row" "FixtureOrder$Row" "count" "I") ∈ pg_Ts := pg_in (List.mem_of_getElem? (i := 76) (by decide +kernel)) rfl
theorem tw_74 : (Jvm.Cond.laysFinal "FixtureOrder$Row" "FixtureOrder$Row" "held" "[LFixtureOrder$Fixture;") ∈ pg_Ts := pg_in (List.mem_of_getElem? (i := 74) (by decide +kernel)) rfl
theorem tw_144 : (Jvm.Cond.lays "FixtureOrder$Runner" "FixtureOrder$Runner" "fixturesInRun" "I") ∈ pg_Ts := pg_in (List.mem_of_getElem? (i := 144) (by decide +kernel)) rfl
theorem tw_142 : (Jvm.Cond.lays "FixtureOrder$Runner" "FixtureOrder$Runner" "caseCount" "I") ∈ pg_Ts := pg_in (List.mem_of_getElem? (i := 142) (by decide +kernel)) rfl
theorem tw_140 : (Jvm.Cond.laysFinal "FixtureOrder$Runner" "FixtureOrder$Runner" "cases" "[LFixtureOrder$Case;") ∈ pg_Ts := pg_in (List.mem_of_getElem? (i := 140) (by decide +kernel)) rfl
theorem tw_138 : (Jvm.Cond.laysFinal "FixtureOrder$Runner" "FixtureOrder$Runner" "log" "LFixtureOrder$Log;") ∈ pg_Ts := pg_in (List.mem_of_getElem? (i := 138) (by decide +kernel)) rfl
theorem tw_136 : (Jvm.Cond.laysFinal "FixtureOrder$Runner" "FixtureOrder$Runner" "made" "LFixtureOrder$Row;") ∈ pg_Ts := pg_in (List.mem_of_getElem? (i := 136) (by decide +kernel)) rfl
theorem tw_44 : (Jvm.Cond.lays "FixtureOrder$Suite" "FixtureOrder$Suite" "testCount" "I") ∈ pg_Ts := pg_in (List.mem_of_getElem? (i := 44) (by decide +kernel)) rfl
theorem tw_42 : (Jvm.Cond.laysFinal "FixtureOrder$Suite" "FixtureOrder$Suite" "tests" "[LFixtureOrder$Test;") ∈ pg_Ts := pg_in (List.mem_of_getElem? (i := 42) (by decide +kernel)) rfl
theorem tw_40 : (Jvm.Cond.lays "FixtureOrder$Suite" "FixtureOrder$Suite" "fixtureCount" "I") ∈ pg_Ts := pg_in (List.mem_of_getElem? (i := 40) (by decide +kernel)) rfl
theorem tw_38 : (Jvm.Cond.laysFinal "FixtureOrder$Suite" "FixtureOrder$Suite" "fixtures" "[LFixtureOrder$Fixture;") ∈ pg_Ts := pg_in (List.mem_of_getElem? (i := 38) (by decide +kernel)) rfl
theorem tw_314 : (Jvm.Cond.lays "FixtureOrder$Test" "FixtureOrder$Test" "retries" "I") ∈ pg_Ts := pg_in (List.mem_of_getElem? (i := 314) (by decide +kernel)) rfl
theorem tw_312 : (Jvm.Cond.lays "FixtureOrder$Test" "FixtureOrder$Test" "failingTries" "I") ∈ pg_Ts := pg_in (List.mem_of_getElem? (i := 312) (by decide +kernel)) rfl
theorem tw_310 : (Jvm.Cond.lays "FixtureOrder$Test" "FixtureOrder$Test" "limit" "I") ∈ pg_Ts := pg_in (List.mem_of_getElem? (i := 310) (by decide +kernel)) rfl
theorem tw_308 : (Jvm.Cond.lays "FixtureOrder$Test" "FixtureOrder$Test" "steps" "I") ∈ pg_Ts := pg_in (List.mem_of_getElem? (i := 308) (by decide +kernel)) rfl
theorem tw_306 : (Jvm.Cond.laysFinal "FixtureOrder$Test" "FixtureOrder$Test" "closure" "LFixtureOrder$Row;") ∈ pg_Ts := pg_in (List.mem_of_getElem? (i := 306) (by decide +kernel)) rfl
theorem tw_304 : (Jvm.Cond.laysFinal "FixtureOrder$Test" "FixtureOrder$Test" "used" "LFixtureOrder$Row;") ∈ pg_Ts := pg_in (List.mem_of_getElem? (i := 304) (by decide +kernel)) rfl
theorem tw_302 : (Jvm.Cond.laysFinal "FixtureOrder$Test" "FixtureOrder$Test" "file" "I") ∈ pg_Ts := pg_in (List.mem_of_getElem? (i := 302) (by decide +kernel)) rfl
theorem tw_300 : (Jvm.Cond.laysFinal "FixtureOrder$Test" "FixtureOrder$Test" "number" "I") ∈ pg_Ts := pg_in (List.mem_of_getElem? (i := 300) (by decide +kernel)) rfl
theorem tw_151 : (Jvm.Cond.laysFinal "FixtureOrder" "FixtureOrder" "runner" "LFixtureOrder$Runner;") ∈ pg_Ts := pg_in (List.mem_of_getElem? (i := 151) (by decide +kernel)) rfl
theorem tw_149 : (Jvm.Cond.laysFinal "FixtureOrder" "FixtureOrder" "suite" "LFixtureOrder$Suite;") ∈ pg_Ts := pg_in (List.mem_of_getElem? (i := 149) (by decide +kernel)) rfl
theorem tw_672 : (Jvm.Cond.lays "FixtureOrderModel" "FixtureOrderModel" "failures" "I") ∈ pg_Ts := pg_in (List.mem_of_getElem? (i := 672) (by decide +kernel)) rfl
theorem tw_670 : (Jvm.Cond.laysFinal "FixtureOrderModel" "FixtureOrderModel" "ending" "[Z") ∈ pg_Ts := pg_in (List.mem_of_getElem? (i := 670) (by decide +kernel)) rfl
theorem tw_668 : (Jvm.Cond.laysFinal "FixtureOrderModel" "FixtureOrderModel" "done" "[Z") ∈ pg_Ts := pg_in (List.mem_of_getElem? (i := 668) (by decide +kernel)) rfl
theorem tw_666 : (Jvm.Cond.laysFinal "FixtureOrderModel" "FixtureOrderModel" "caseTries" "[I") ∈ pg_Ts := pg_in (List.mem_of_getElem? (i := 666) (by decide +kernel)) rfl
theorem tw_664 : (Jvm.Cond.laysFinal "FixtureOrderModel" "FixtureOrderModel" "caseSuppressed" "[I") ∈ pg_Ts := pg_in (List.mem_of_getElem? (i := 664) (by decide +kernel)) rfl
theorem tw_662 : (Jvm.Cond.laysFinal "FixtureOrderModel" "FixtureOrderModel" "caseFixture" "[I") ∈ pg_Ts := pg_in (List.mem_of_getElem? (i := 662) (by decide +kernel)) rfl
theorem tw_660 : (Jvm.Cond.laysFinal "FixtureOrderModel" "FixtureOrderModel" "caseOutcome" "[I") ∈ pg_Ts := pg_in (List.mem_of_getElem? (i := 660) (by decide +kernel)) rfl
theorem tw_658 : (Jvm.Cond.laysFinal "FixtureOrderModel" "FixtureOrderModel" "caseNumber" "[I") ∈ pg_Ts := pg_in (List.mem_of_getElem? (i := 658) (by decide +kernel)) rfl
theorem tw_656 : (Jvm.Cond.laysFinal "FixtureOrderModel" "FixtureOrderModel" "caseTest" "[I") ∈ pg_Ts := pg_in (List.mem_of_getElem? (i := 656) (by decide +kernel)) rfl
theorem tw_654 : (Jvm.Cond.laysFinal "FixtureOrderModel" "FixtureOrderModel" "eventTwo" "[I") ∈ pg_Ts := pg_in (List.mem_of_getElem? (i := 654) (by decide +kernel)) rfl
theorem tw_652 : (Jvm.Cond.laysFinal "FixtureOrderModel" "FixtureOrderModel" "eventOne" "[I") ∈ pg_Ts := pg_in (List.mem_of_getElem? (i := 652) (by decide +kernel)) rfl
theorem tw_650 : (Jvm.Cond.laysFinal "FixtureOrderModel" "FixtureOrderModel" "eventWhat" "[I") ∈ pg_Ts := pg_in (List.mem_of_getElem? (i := 650) (by decide +kernel)) rfl
theorem tw_648 : (Jvm.Cond.laysFinal "FixtureOrderModel" "FixtureOrderModel" "leaked" "[I") ∈ pg_Ts := pg_in (List.mem_of_getElem? (i := 648) (by decide +kernel)) rfl
theorem tw_646 : (Jvm.Cond.laysFinal "FixtureOrderModel" "FixtureOrderModel" "ended" "[I") ∈ pg_Ts := pg_in (List.mem_of_getElem? (i := 646) (by decide +kernel)) rfl
theorem tw_644 : (Jvm.Cond.laysFinal "FixtureOrderModel" "FixtureOrderModel" "made" "[I") ∈ pg_Ts := pg_in (List.mem_of_getElem? (i := 644) (by decide +kernel)) rfl
theorem tw_642 : (Jvm.Cond.laysFinal "FixtureOrderModel" "FixtureOrderModel" "rememberedFile" "[I") ∈ pg_Ts := pg_in (List.mem_of_getElem? (i := 642) (by decide +kernel)) rfl
theorem tw_640 : (Jvm.Cond.laysFinal "FixtureOrderModel" "FixtureOrderModel" "remembered" "[I") ∈ pg_Ts := pg_in (List.mem_of_getElem? (i := 640) (by decide +kernel)) rfl
theorem tw_638 : (Jvm.Cond.laysFinal "FixtureOrderModel" "FixtureOrderModel" "madeFile" "[I") ∈ pg_Ts := pg_in (List.mem_of_getElem? (i := 638) (by decide +kernel)) rfl
theorem tw_636 : (Jvm.Cond.laysFinal "FixtureOrderModel" "FixtureOrderModel" "madeValue" "[I") ∈ pg_Ts := pg_in (List.mem_of_getElem? (i := 636) (by decide +kernel)) rfl
theorem tw_634 : (Jvm.Cond.laysFinal "FixtureOrderModel" "FixtureOrderModel" "madeAt" "[I") ∈ pg_Ts := pg_in (List.mem_of_getElem? (i := 634) (by decide +kernel)) rfl
theorem tw_632 : (Jvm.Cond.lays "FixtureOrderModel" "FixtureOrderModel" "makings" "I") ∈ pg_Ts := pg_in (List.mem_of_getElem? (i := 632) (by decide +kernel)) rfl
theorem tw_630 : (Jvm.Cond.lays "FixtureOrderModel" "FixtureOrderModel" "ran" "I") ∈ pg_Ts := pg_in (List.mem_of_getElem? (i := 630) (by decide +kernel)) rfl
theorem tw_628 : (Jvm.Cond.lays "FixtureOrderModel" "FixtureOrderModel" "events" "I") ∈ pg_Ts := pg_in (List.mem_of_getElem? (i := 628) (by decide +kernel)) rfl
theorem tw_626 : (Jvm.Cond.lays "FixtureOrderModel" "FixtureOrderModel" "thenFixtures" "I") ∈ pg_Ts := pg_in (List.mem_of_getElem? (i := 626) (by decide +kernel)) rfl
theorem tw_624 : (Jvm.Cond.lays "FixtureOrderModel" "FixtureOrderModel" "closed" "I") ∈ pg_Ts := pg_in (List.mem_of_getElem? (i := 624) (by decide +kernel)) rfl
theorem tw_622 : (Jvm.Cond.laysFinal "FixtureOrderModel" "FixtureOrderModel" "waitAt" "[I") ∈ pg_Ts := pg_in (List.mem_of_getElem? (i := 622) (by decide +kernel)) rfl
theorem tw_620 : (Jvm.Cond.laysFinal "FixtureOrderModel" "FixtureOrderModel" "wait" "[I") ∈ pg_Ts := pg_in (List.mem_of_getElem? (i := 620) (by decide +kernel)) rfl
theorem tw_618 : (Jvm.Cond.laysFinal "FixtureOrderModel" "FixtureOrderModel" "closure" "[I") ∈ pg_Ts := pg_in (List.mem_of_getElem? (i := 618) (by decide +kernel)) rfl
theorem tw_616 : (Jvm.Cond.laysFinal "FixtureOrderModel" "FixtureOrderModel" "retries" "[I") ∈ pg_Ts := pg_in (List.mem_of_getElem? (i := 616) (by decide +kernel)) rfl
theorem tw_614 : (Jvm.Cond.laysFinal "FixtureOrderModel" "FixtureOrderModel" "fails" "[I") ∈ pg_Ts := pg_in (List.mem_of_getElem? (i := 614) (by decide +kernel)) rfl
theorem tw_612 : (Jvm.Cond.laysFinal "FixtureOrderModel" "FixtureOrderModel" "limit" "[I") ∈ pg_Ts := pg_in (List.mem_of_getElem? (i := 612) (by decide +kernel)) rfl
theorem tw_610 : (Jvm.Cond.laysFinal "FixtureOrderModel" "FixtureOrderModel" "steps" "[I") ∈ pg_Ts := pg_in (List.mem_of_getElem? (i := 610) (by decide +kernel)) rfl
theorem tw_608 : (Jvm.Cond.laysFinal "FixtureOrderModel" "FixtureOrderModel" "use" "[I") ∈ pg_Ts := pg_in (List.mem_of_getElem? (i := 608) (by decide +kernel)) rfl
theorem tw_606 : (Jvm.Cond.laysFinal "FixtureOrderModel" "FixtureOrderModel" "useMany" "[I") ∈ pg_Ts := pg_in (List.mem_of_getElem? (i := 606) (by decide +kernel)) rfl
theorem tw_604 : (Jvm.Cond.laysFinal "FixtureOrderModel" "FixtureOrderModel" "file" "[I") ∈ pg_Ts := pg_in (List.mem_of_getElem? (i := 604) (by decide +kernel)) rfl
theorem tw_602 : (Jvm.Cond.laysFinal "FixtureOrderModel" "FixtureOrderModel" "endFails" "[Z") ∈ pg_Ts := pg_in (List.mem_of_getElem? (i := 602) (by decide +kernel)) rfl
theorem tw_600 : (Jvm.Cond.laysFinal "FixtureOrderModel" "FixtureOrderModel" "makeFails" "[Z") ∈ pg_Ts := pg_in (List.mem_of_getElem? (i := 600) (by decide +kernel)) rfl
theorem tw_598 : (Jvm.Cond.laysFinal "FixtureOrderModel" "FixtureOrderModel" "need" "[I") ∈ pg_Ts := pg_in (List.mem_of_getElem? (i := 598) (by decide +kernel)) rfl
theorem tw_596 : (Jvm.Cond.laysFinal "FixtureOrderModel" "FixtureOrderModel" "needMany" "[I") ∈ pg_Ts := pg_in (List.mem_of_getElem? (i := 596) (by decide +kernel)) rfl
theorem tw_594 : (Jvm.Cond.laysFinal "FixtureOrderModel" "FixtureOrderModel" "values" "[I") ∈ pg_Ts := pg_in (List.mem_of_getElem? (i := 594) (by decide +kernel)) rfl
theorem tw_592 : (Jvm.Cond.laysFinal "FixtureOrderModel" "FixtureOrderModel" "scope" "[I") ∈ pg_Ts := pg_in (List.mem_of_getElem? (i := 592) (by decide +kernel)) rfl
theorem tw_590 : (Jvm.Cond.lays "FixtureOrderModel" "FixtureOrderModel" "tests" "I") ∈ pg_Ts := pg_in (List.mem_of_getElem? (i := 590) (by decide +kernel)) rfl
theorem tw_588 : (Jvm.Cond.lays "FixtureOrderModel" "FixtureOrderModel" "fixtures" "I") ∈ pg_Ts := pg_in (List.mem_of_getElem? (i := 588) (by decide +kernel)) rfl
theorem tw_586 : (Jvm.Cond.lays "FixtureOrderModel" "FixtureOrderModel" "code" "I") ∈ pg_Ts := pg_in (List.mem_of_getElem? (i := 586) (by decide +kernel)) rfl
theorem tw_16 : (Jvm.Cond.code ({ cls := "FixtureOrder", name := "<init>", desc := "()V" } : Jvm.MethodName) prog_1_method_1_code (1 : Nat) (Option.none : Option Jvm.ClassFile.FieldType)) ∈ pg_Ts := pg_in (List.mem_of_getElem? (i := 16) (by decide +kernel)) rfl
theorem tw_157 : (Jvm.Cond.code ({ cls := "FixtureOrder", name := "fixture", desc := "(IIZZ)I" } : Jvm.MethodName) prog_1_method_2_code (5 : Nat) (Option.some Jvm.ClassFile.FieldType.int)) ∈ pg_Ts := pg_in (List.mem_of_getElem? (i := 157) (by decide +kernel)) rfl
theorem tw_239 : (Jvm.Cond.code ({ cls := "FixtureOrder", name := "needs", desc := "(II)I" } : Jvm.MethodName) prog_1_method_3_code (5 : Nat) (Option.some Jvm.ClassFile.FieldType.int)) ∈ pg_Ts := pg_in (List.mem_of_getElem? (i := 239) (by decide +kernel)) rfl
theorem tw_269 : (Jvm.Cond.code ({ cls := "FixtureOrder", name := "test", desc := "(I)I" } : Jvm.MethodName) prog_1_method_4_code (2 : Nat) (Option.some Jvm.ClassFile.FieldType.int)) ∈ pg_Ts := pg_in (List.mem_of_getElem? (i := 269) (by decide +kernel)) rfl
theorem tw_320 : (Jvm.Cond.code ({ cls := "FixtureOrder", name := "uses", desc := "(II)Z" } : Jvm.MethodName) prog_1_method_5_code (5 : Nat) (Option.some Jvm.ClassFile.FieldType.boolean)) ∈ pg_Ts := pg_in (List.mem_of_getElem? (i := 320) (by decide +kernel)) rfl
theorem tw_329 : (Jvm.Cond.code ({ cls := "FixtureOrder", name := "takes", desc := "(III)Z" } : Jvm.MethodName) prog_1_method_6_code (5 : Nat) (Option.some Jvm.ClassFile.FieldType.boolean)) ∈ pg_Ts := pg_in (List.mem_of_getElem? (i := 329) (by decide +kernel)) rfl
theorem tw_333 : (Jvm.Cond.code ({ cls := "FixtureOrder", name := "fails", desc := "(III)Z" } : Jvm.MethodName) prog_1_method_7_code (5 : Nat) (Option.some Jvm.ClassFile.FieldType.boolean)) ∈ pg_Ts := pg_in (List.mem_of_getElem? (i := 333) (by decide +kernel)) rfl
theorem tw_337 : (Jvm.Cond.code ({ cls := "FixtureOrder", name := "run", desc := "(I)I" } : Jvm.MethodName) prog_1_method_8_code (2 : Nat) (Option.some Jvm.ClassFile.FieldType.int)) ∈ pg_Ts := pg_in (List.mem_of_getElem? (i := 337) (by decide +kernel)) rfl
theorem tw_493 : (Jvm.Cond.code ({ cls := "FixtureOrder", name := "events", desc := "()I" } : Jvm.MethodName) prog_1_method_9_code (1 : Nat) (Option.some Jvm.ClassFile.FieldType.int)) ∈ pg_Ts := pg_in (List.mem_of_getElem? (i := 493) (by decide +kernel)) rfl
theorem tw_497 : (Jvm.Cond.code ({ cls := "FixtureOrder", name := "event", desc := "(II)I" } : Jvm.MethodName) prog_1_method_10_code (3 : Nat) (Option.some Jvm.ClassFile.FieldType.int)) ∈ pg_Ts := pg_in (List.mem_of_getElem? (i := 497) (by decide +kernel)) rfl
theorem tw_505 : (Jvm.Cond.code ({ cls := "FixtureOrder", name := "outcome", desc := "(II)I" } : Jvm.MethodName) prog_1_method_11_code (4 : Nat) (Option.some Jvm.ClassFile.FieldType.int)) ∈ pg_Ts := pg_in (List.mem_of_getElem? (i := 505) (by decide +kernel)) rfl
theorem tw_517 : (Jvm.Cond.code ({ cls := "FixtureOrder", name := "counted", desc := "(II)I" } : Jvm.MethodName) prog_1_method_12_code (4 : Nat) (Option.some Jvm.ClassFile.FieldType.int)) ∈ pg_Ts := pg_in (List.mem_of_getElem? (i := 517) (by decide +kernel)) rfl
theorem tw_525 : (Jvm.Cond.code ({ cls := "FixtureOrder", name := "closure", desc := "(II)I" } : Jvm.MethodName) prog_1_method_13_code (5 : Nat) (Option.some Jvm.ClassFile.FieldType.int)) ∈ pg_Ts := pg_in (List.mem_of_getElem? (i := 525) (by decide +kernel)) rfl
theorem tw_534 : (Jvm.Cond.code ({ cls := "FixtureOrder", name := "cases", desc := "(I)I" } : Jvm.MethodName) prog_1_method_14_code (3 : Nat) (Option.some Jvm.ClassFile.FieldType.int)) ∈ pg_Ts := pg_in (List.mem_of_getElem? (i := 534) (by decide +kernel)) rfl
theorem tw_160 : (Jvm.Cond.code ({ cls := "FixtureOrder", name := "isWithin", desc := "(III)Z" } : Jvm.MethodName) prog_1_method_15_code (3 : Nat) (Option.some Jvm.ClassFile.FieldType.boolean)) ∈ pg_Ts := pg_in (List.mem_of_getElem? (i := 160) (by decide +kernel)) rfl
theorem tw_540 : (Jvm.Cond.code ({ cls := "FixtureOrderModel", name := "<init>", desc := "()V" } : Jvm.MethodName) prog_10_method_1_code (1 : Nat) (Option.none : Option Jvm.ClassFile.FieldType)) ∈ pg_Ts := pg_in (List.mem_of_getElem? (i := 540) (by decide +kernel)) rfl
theorem tw_687 : (Jvm.Cond.code ({ cls := "FixtureOrderModel", name := "isFixture", desc := "(I)Z" } : Jvm.MethodName) prog_10_method_3_code (2 : Nat) (Option.some Jvm.ClassFile.FieldType.boolean)) ∈ pg_Ts := pg_in (List.mem_of_getElem? (i := 687) (by decide +kernel)) rfl
theorem tw_707 : (Jvm.Cond.code ({ cls := "FixtureOrderModel", name := "isTest", desc := "(I)Z" } : Jvm.MethodName) prog_10_method_4_code (2 : Nat) (Option.some Jvm.ClassFile.FieldType.boolean)) ∈ pg_Ts := pg_in (List.mem_of_getElem? (i := 707) (by decide +kernel)) rfl
theorem tw_679 : (Jvm.Cond.code ({ cls := "FixtureOrderModel", name := "fixture", desc := "(IIZZ)I" } : Jvm.MethodName) prog_10_method_5_code (5 : Nat) (Option.some Jvm.ClassFile.FieldType.int)) ∈ pg_Ts := pg_in (List.mem_of_getElem? (i := 679) (by decide +kernel)) rfl
theorem tw_691 : (Jvm.Cond.code ({ cls := "FixtureOrderModel", name := "isNeed", desc := "(II)Z" } : Jvm.MethodName) prog_10_method_6_code (5 : Nat) (Option.some Jvm.ClassFile.FieldType.boolean)) ∈ pg_Ts := pg_in (List.mem_of_getElem? (i := 691) (by decide +kernel)) rfl
theorem tw_695 : (Jvm.Cond.code ({ cls := "FixtureOrderModel", name := "leads", desc := "(II)Z" } : Jvm.MethodName) prog_10_method_7_code (7 : Nat) (Option.some Jvm.ClassFile.FieldType.boolean)) ∈ pg_Ts := pg_in (List.mem_of_getElem? (i := 695) (by decide +kernel)) rfl
theorem tw_683 : (Jvm.Cond.code ({ cls := "FixtureOrderModel", name := "needs", desc := "(II)I" } : Jvm.MethodName) prog_10_method_8_code (3 : Nat) (Option.some Jvm.ClassFile.FieldType.int)) ∈ pg_Ts := pg_in (List.mem_of_getElem? (i := 683) (by decide +kernel)) rfl
theorem tw_699 : (Jvm.Cond.code ({ cls := "FixtureOrderModel", name := "test", desc := "(I)I" } : Jvm.MethodName) prog_10_method_9_code (2 : Nat) (Option.some Jvm.ClassFile.FieldType.int)) ∈ pg_Ts := pg_in (List.mem_of_getElem? (i := 699) (by decide +kernel)) rfl
theorem tw_703 : (Jvm.Cond.code ({ cls := "FixtureOrderModel", name := "uses", desc := "(II)Z" } : Jvm.MethodName) prog_10_method_10_code (5 : Nat) (Option.some Jvm.ClassFile.FieldType.boolean)) ∈ pg_Ts := pg_in (List.mem_of_getElem? (i := 703) (by decide +kernel)) rfl
theorem tw_711 : (Jvm.Cond.code ({ cls := "FixtureOrderModel", name := "takes", desc := "(III)Z" } : Jvm.MethodName) prog_10_method_11_code (4 : Nat) (Option.some Jvm.ClassFile.FieldType.boolean)) ∈ pg_Ts := pg_in (List.mem_of_getElem? (i := 711) (by decide +kernel)) rfl
theorem tw_715 : (Jvm.Cond.code ({ cls := "FixtureOrderModel", name := "fails", desc := "(III)Z" } : Jvm.MethodName) prog_10_method_12_code (4 : Nat) (Option.some Jvm.ClassFile.FieldType.boolean)) ∈ pg_Ts := pg_in (List.mem_of_getElem? (i := 715) (by decide +kernel)) rfl
theorem tw_731 : (Jvm.Cond.code ({ cls := "FixtureOrderModel", name := "isClosed", desc := "(I)Z" } : Jvm.MethodName) prog_10_method_13_code (4 : Nat) (Option.some Jvm.ClassFile.FieldType.boolean)) ∈ pg_Ts := pg_in (List.mem_of_getElem? (i := 731) (by decide +kernel)) rfl
theorem tw_727 : (Jvm.Cond.code ({ cls := "FixtureOrderModel", name := "close", desc := "(I)V" } : Jvm.MethodName) prog_10_method_14_code (5 : Nat) (Option.none : Option Jvm.ClassFile.FieldType)) ∈ pg_Ts := pg_in (List.mem_of_getElem? (i := 727) (by decide +kernel)) rfl
theorem tw_723 : (Jvm.Cond.code ({ cls := "FixtureOrderModel", name := "closeTest", desc := "(I)V" } : Jvm.MethodName) prog_10_method_15_code (3 : Nat) (Option.none : Option Jvm.ClassFile.FieldType)) ∈ pg_Ts := pg_in (List.mem_of_getElem? (i := 723) (by decide +kernel)) rfl
theorem tw_719 : (Jvm.Cond.code ({ cls := "FixtureOrderModel", name := "closure", desc := "(II)I" } : Jvm.MethodName) prog_10_method_16_code (3 : Nat) (Option.some Jvm.ClassFile.FieldType.int)) ∈ pg_Ts := pg_in (List.mem_of_getElem? (i := 719) (by decide +kernel)) rfl
theorem tw_739 : (Jvm.Cond.code ({ cls := "FixtureOrderModel", name := "casesOf", desc := "(I)I" } : Jvm.MethodName) prog_10_method_17_code (4 : Nat) (Option.some Jvm.ClassFile.FieldType.int)) ∈ pg_Ts := pg_in (List.mem_of_getElem? (i := 739) (by decide +kernel)) rfl
theorem tw_735 : (Jvm.Cond.code ({ cls := "FixtureOrderModel", name := "cases", desc := "(I)I" } : Jvm.MethodName) prog_10_method_18_code (2 : Nat) (Option.some Jvm.ClassFile.FieldType.int)) ∈ pg_Ts := pg_in (List.mem_of_getElem? (i := 735) (by decide +kernel)) rfl
theorem tw_751 : (Jvm.Cond.code ({ cls := "FixtureOrderModel", name := "valueOf", desc := "(II)I" } : Jvm.MethodName) prog_10_method_19_code (5 : Nat) (Option.some Jvm.ClassFile.FieldType.int)) ∈ pg_Ts := pg_in (List.mem_of_getElem? (i := 751) (by decide +kernel)) rfl
theorem tw_771 : (Jvm.Cond.code ({ cls := "FixtureOrderModel", name := "tell", desc := "(III)V" } : Jvm.MethodName) prog_10_method_20_code (4 : Nat) (Option.none : Option Jvm.ClassFile.FieldType)) ∈ pg_Ts := pg_in (List.mem_of_getElem? (i := 771) (by decide +kernel)) rfl
theorem tw_767 : (Jvm.Cond.code ({ cls := "FixtureOrderModel", name := "end", desc := "(I)V" } : Jvm.MethodName) prog_10_method_21_code (2 : Nat) (Option.none : Option Jvm.ClassFile.FieldType)) ∈ pg_Ts := pg_in (List.mem_of_getElem? (i := 767) (by decide +kernel)) rfl
theorem tw_763 : (Jvm.Cond.code ({ cls := "FixtureOrderModel", name := "endMarked", desc := "()V" } : Jvm.MethodName) prog_10_method_22_code (4 : Nat) (Option.none : Option Jvm.ClassFile.FieldType)) ∈ pg_Ts := pg_in (List.mem_of_getElem? (i := 763) (by decide +kernel)) rfl
theorem tw_759 : (Jvm.Cond.code ({ cls := "FixtureOrderModel", name := "part", desc := "(II)V" } : Jvm.MethodName) prog_10_method_23_code (6 : Nat) (Option.none : Option Jvm.ClassFile.FieldType)) ∈ pg_Ts := pg_in (List.mem_of_getElem? (i := 759) (by decide +kernel)) rfl
theorem tw_775 : (Jvm.Cond.code ({ cls := "FixtureOrderModel", name := "make", desc := "(II)I" } : Jvm.MethodName) prog_10_method_24_code (6 : Nat) (Option.some Jvm.ClassFile.FieldType.int)) ∈ pg_Ts := pg_in (List.mem_of_getElem? (i := 775) (by decide +kernel)) rfl
theorem tw_755 : (Jvm.Cond.code ({ cls := "FixtureOrderModel", name := "runCase", desc := "(II)V" } : Jvm.MethodName) prog_10_method_25_code (11 : Nat) (Option.none : Option Jvm.ClassFile.FieldType)) ∈ pg_Ts := pg_in (List.mem_of_getElem? (i := 755) (by decide +kernel)) rfl
theorem tw_747 : (Jvm.Cond.code ({ cls := "FixtureOrderModel", name := "lacking", desc := "(II)I" } : Jvm.MethodName) prog_10_method_26_code (6 : Nat) (Option.some Jvm.ClassFile.FieldType.int)) ∈ pg_Ts := pg_in (List.mem_of_getElem? (i := 747) (by decide +kernel)) rfl
theorem tw_743 : (Jvm.Cond.code ({ cls := "FixtureOrderModel", name := "run", desc := "(I)I" } : Jvm.MethodName) prog_10_method_27_code (10 : Nat) (Option.some Jvm.ClassFile.FieldType.int)) ∈ pg_Ts := pg_in (List.mem_of_getElem? (i := 743) (by decide +kernel)) rfl
theorem tw_779 : (Jvm.Cond.code ({ cls := "FixtureOrderModel", name := "events", desc := "()I" } : Jvm.MethodName) prog_10_method_28_code (1 : Nat) (Option.some Jvm.ClassFile.FieldType.int)) ∈ pg_Ts := pg_in (List.mem_of_getElem? (i := 779) (by decide +kernel)) rfl
theorem tw_783 : (Jvm.Cond.code ({ cls := "FixtureOrderModel", name := "event", desc := "(II)I" } : Jvm.MethodName) prog_10_method_29_code (3 : Nat) (Option.some Jvm.ClassFile.FieldType.int)) ∈ pg_Ts := pg_in (List.mem_of_getElem? (i := 783) (by decide +kernel)) rfl
theorem tw_787 : (Jvm.Cond.code ({ cls := "FixtureOrderModel", name := "outcome", desc := "(II)I" } : Jvm.MethodName) prog_10_method_30_code (3 : Nat) (Option.some Jvm.ClassFile.FieldType.int)) ∈ pg_Ts := pg_in (List.mem_of_getElem? (i := 787) (by decide +kernel)) rfl
theorem tw_791 : (Jvm.Cond.code ({ cls := "FixtureOrderModel", name := "counted", desc := "(II)I" } : Jvm.MethodName) prog_10_method_31_code (3 : Nat) (Option.some Jvm.ClassFile.FieldType.int)) ∈ pg_Ts := pg_in (List.mem_of_getElem? (i := 791) (by decide +kernel)) rfl
theorem tw_103 : (Jvm.Cond.code ({ cls := "FixtureOrder$Case", name := "<init>", desc := "()V" } : Jvm.MethodName) prog_2_method_1_code (1 : Nat) (Option.none : Option Jvm.ClassFile.FieldType)) ∈ pg_Ts := pg_in (List.mem_of_getElem? (i := 103) (by decide +kernel)) rfl
theorem tw_388 : (Jvm.Cond.code ({ cls := "FixtureOrder$Case", name := "begin", desc := "(LFixtureOrder$Test;I)V" } : Jvm.MethodName) prog_2_method_2_code (8 : Nat) (Option.none : Option Jvm.ClassFile.FieldType)) ∈ pg_Ts := pg_in (List.mem_of_getElem? (i := 388) (by decide +kernel)) rfl
theorem tw_460 : (Jvm.Cond.code ({ cls := "FixtureOrder$Case", name := "valueFor", desc := "(LFixtureOrder$Fixture;)I" } : Jvm.MethodName) prog_2_method_3_code (2 : Nat) (Option.some Jvm.ClassFile.FieldType.int)) ∈ pg_Ts := pg_in (List.mem_of_getElem? (i := 460) (by decide +kernel)) rfl
theorem tw_407 : (Jvm.Cond.code ({ cls := "FixtureOrder$Case", name := "leavesStanding", desc := "(LFixtureOrder$Fixture;)Z" } : Jvm.MethodName) prog_2_method_4_code (3 : Nat) (Option.some Jvm.ClassFile.FieldType.boolean)) ∈ pg_Ts := pg_in (List.mem_of_getElem? (i := 407) (by decide +kernel)) rfl
theorem tw_477 : (Jvm.Cond.code ({ cls := "FixtureOrder$Case", name := "noteUnmade", desc := "(LFixtureOrder$Fixture;)V" } : Jvm.MethodName) prog_2_method_5_code (2 : Nat) (Option.none : Option Jvm.ClassFile.FieldType)) ∈ pg_Ts := pg_in (List.mem_of_getElem? (i := 477) (by decide +kernel)) rfl
theorem tw_489 : (Jvm.Cond.code ({ cls := "FixtureOrder$Case", name := "finish", desc := "(IIIZ)V" } : Jvm.MethodName) prog_2_method_6_code (5 : Nat) (Option.none : Option Jvm.ClassFile.FieldType)) ∈ pg_Ts := pg_in (List.mem_of_getElem? (i := 489) (by decide +kernel)) rfl
theorem tw_513 : (Jvm.Cond.code ({ cls := "FixtureOrder$Case", name := "read", desc := "(I)I" } : Jvm.MethodName) prog_2_method_7_code (2 : Nat) (Option.some Jvm.ClassFile.FieldType.int)) ∈ pg_Ts := pg_in (List.mem_of_getElem? (i := 513) (by decide +kernel)) rfl
theorem tw_168 : (Jvm.Cond.code ({ cls := "FixtureOrder$Fixture", name := "<init>", desc := "(IIIZZ)V" } : Jvm.MethodName) prog_3_method_1_code (6 : Nat) (Option.none : Option Jvm.ClassFile.FieldType)) ∈ pg_Ts := pg_in (List.mem_of_getElem? (i := 168) (by decide +kernel)) rfl
theorem tw_251 : (Jvm.Cond.code ({ cls := "FixtureOrder$Fixture", name := "dependsOnAny", desc := "(I)Z" } : Jvm.MethodName) prog_3_method_2_code (2 : Nat) (Option.some Jvm.ClassFile.FieldType.boolean)) ∈ pg_Ts := pg_in (List.mem_of_getElem? (i := 251) (by decide +kernel)) rfl
theorem tw_265 : (Jvm.Cond.code ({ cls := "FixtureOrder$Fixture", name := "dependAlsoOn", desc := "(LFixtureOrder$Fixture;)V" } : Jvm.MethodName) prog_3_method_3_code (2 : Nat) (Option.none : Option Jvm.ClassFile.FieldType)) ∈ pg_Ts := pg_in (List.mem_of_getElem? (i := 265) (by decide +kernel)) rfl
theorem tw_411 : (Jvm.Cond.code ({ cls := "FixtureOrder$Fixture", name := "isMadeForAnother", desc := "(I)Z" } : Jvm.MethodName) prog_3_method_4_code (2 : Nat) (Option.some Jvm.ClassFile.FieldType.boolean)) ∈ pg_Ts := pg_in (List.mem_of_getElem? (i := 411) (by decide +kernel)) rfl
theorem tw_379 : (Jvm.Cond.code ({ cls := "FixtureOrder$Fixture", name := "startRun", desc := "()V" } : Jvm.MethodName) prog_3_method_5_code (1 : Nat) (Option.none : Option Jvm.ClassFile.FieldType)) ∈ pg_Ts := pg_in (List.mem_of_getElem? (i := 379) (by decide +kernel)) rfl
theorem tw_472 : (Jvm.Cond.code ({ cls := "FixtureOrder$Fixture", name := "noteMade", desc := "(II)V" } : Jvm.MethodName) prog_3_method_6_code (3 : Nat) (Option.none : Option Jvm.ClassFile.FieldType)) ∈ pg_Ts := pg_in (List.mem_of_getElem? (i := 472) (by decide +kernel)) rfl
theorem tw_436 : (Jvm.Cond.code ({ cls := "FixtureOrder$Fixture", name := "noteEnded", desc := "()V" } : Jvm.MethodName) prog_3_method_7_code (1 : Nat) (Option.none : Option Jvm.ClassFile.FieldType)) ∈ pg_Ts := pg_in (List.mem_of_getElem? (i := 436) (by decide +kernel)) rfl
theorem tw_468 : (Jvm.Cond.code ({ cls := "FixtureOrder$Fixture", name := "rememberFailed", desc := "(II)V" } : Jvm.MethodName) prog_3_method_8_code (3 : Nat) (Option.none : Option Jvm.ClassFile.FieldType)) ∈ pg_Ts := pg_in (List.mem_of_getElem? (i := 468) (by decide +kernel)) rfl
theorem tw_464 : (Jvm.Cond.code ({ cls := "FixtureOrder$Fixture", name := "isRememberedFailed", desc := "(I)Z" } : Jvm.MethodName) prog_3_method_9_code (2 : Nat) (Option.some Jvm.ClassFile.FieldType.boolean)) ∈ pg_Ts := pg_in (List.mem_of_getElem? (i := 464) (by decide +kernel)) rfl
theorem tw_448 : (Jvm.Cond.code ({ cls := "FixtureOrder$Fixture", name := "forgetIfOfAnother", desc := "(I)V" } : Jvm.MethodName) prog_3_method_10_code (2 : Nat) (Option.none : Option Jvm.ClassFile.FieldType)) ∈ pg_Ts := pg_in (List.mem_of_getElem? (i := 448) (by decide +kernel)) rfl
theorem tw_521 : (Jvm.Cond.code ({ cls := "FixtureOrder$Fixture", name := "readCount", desc := "(I)I" } : Jvm.MethodName) prog_3_method_11_code (2 : Nat) (Option.some Jvm.ClassFile.FieldType.int)) ∈ pg_Ts := pg_in (List.mem_of_getElem? (i := 521) (by decide +kernel)) rfl
theorem tw_87 : (Jvm.Cond.code ({ cls := "FixtureOrder$Log", name := "<init>", desc := "()V" } : Jvm.MethodName) prog_4_method_1_code (1 : Nat) (Option.none : Option Jvm.ClassFile.FieldType)) ∈ pg_Ts := pg_in (List.mem_of_getElem? (i := 87) (by decide +kernel)) rfl
theorem tw_374 : (Jvm.Cond.code ({ cls := "FixtureOrder$Log", name := "clear", desc := "()V" } : Jvm.MethodName) prog_4_method_2_code (1 : Nat) (Option.none : Option Jvm.ClassFile.FieldType)) ∈ pg_Ts := pg_in (List.mem_of_getElem? (i := 374) (by decide +kernel)) rfl
theorem tw_440 : (Jvm.Cond.code ({ cls := "FixtureOrder$Log", name := "add", desc := "(III)V" } : Jvm.MethodName) prog_4_method_3_code (4 : Nat) (Option.none : Option Jvm.ClassFile.FieldType)) ∈ pg_Ts := pg_in (List.mem_of_getElem? (i := 440) (by decide +kernel)) rfl
theorem tw_501 : (Jvm.Cond.code ({ cls := "FixtureOrder$Log", name := "read", desc := "(II)I" } : Jvm.MethodName) prog_4_method_4_code (3 : Nat) (Option.some Jvm.ClassFile.FieldType.int)) ∈ pg_Ts := pg_in (List.mem_of_getElem? (i := 501) (by decide +kernel)) rfl
theorem tw_57 : (Jvm.Cond.code ({ cls := "FixtureOrder$Row", name := "<init>", desc := "(I)V" } : Jvm.MethodName) prog_5_method_1_code (2 : Nat) (Option.none : Option Jvm.ClassFile.FieldType)) ∈ pg_Ts := pg_in (List.mem_of_getElem? (i := 57) (by decide +kernel)) rfl
theorem tw_360 : (Jvm.Cond.code ({ cls := "FixtureOrder$Row", name := "holds", desc := "(LFixtureOrder$Fixture;)Z" } : Jvm.MethodName) prog_5_method_2_code (2 : Nat) (Option.some Jvm.ClassFile.FieldType.boolean)) ∈ pg_Ts := pg_in (List.mem_of_getElem? (i := 360) (by decide +kernel)) rfl
theorem tw_247 : (Jvm.Cond.code ({ cls := "FixtureOrder$Row", name := "canTake", desc := "(LFixtureOrder$Fixture;)Z" } : Jvm.MethodName) prog_5_method_3_code (2 : Nat) (Option.some Jvm.ClassFile.FieldType.boolean)) ∈ pg_Ts := pg_in (List.mem_of_getElem? (i := 247) (by decide +kernel)) rfl
theorem tw_259 : (Jvm.Cond.code ({ cls := "FixtureOrder$Row", name := "append", desc := "(LFixtureOrder$Fixture;)V" } : Jvm.MethodName) prog_5_method_4_code (2 : Nat) (Option.none : Option Jvm.ClassFile.FieldType)) ∈ pg_Ts := pg_in (List.mem_of_getElem? (i := 259) (by decide +kernel)) rfl
theorem tw_432 : (Jvm.Cond.code ({ cls := "FixtureOrder$Row", name := "removeAt", desc := "(I)V" } : Jvm.MethodName) prog_5_method_5_code (3 : Nat) (Option.none : Option Jvm.ClassFile.FieldType)) ∈ pg_Ts := pg_in (List.mem_of_getElem? (i := 432) (by decide +kernel)) rfl
theorem tw_530 : (Jvm.Cond.code ({ cls := "FixtureOrder$Row", name := "at", desc := "(I)LFixtureOrder$Fixture;" } : Jvm.MethodName) prog_5_method_6_code (2 : Nat) (Option.some (Jvm.ClassFile.FieldType.object "FixtureOrder$Fixture"))) ∈ pg_Ts := pg_in (List.mem_of_getElem? (i := 530) (by decide +kernel)) rfl
theorem tw_353 : (Jvm.Cond.code ({ cls := "FixtureOrder$Row", name := "clear", desc := "()V" } : Jvm.MethodName) prog_5_method_7_code (1 : Nat) (Option.none : Option Jvm.ClassFile.FieldType)) ∈ pg_Ts := pg_in (List.mem_of_getElem? (i := 353) (by decide +kernel)) rfl
theorem tw_51 : (Jvm.Cond.code ({ cls := "FixtureOrder$Runner", name := "<init>", desc := "()V" } : Jvm.MethodName) prog_6_method_1_code (2 : Nat) (Option.none : Option Jvm.ClassFile.FieldType)) ∈ pg_Ts := pg_in (List.mem_of_getElem? (i := 51) (by decide +kernel)) rfl
theorem tw_509 : (Jvm.Cond.code ({ cls := "FixtureOrder$Runner", name := "caseAt", desc := "(I)LFixtureOrder$Case;" } : Jvm.MethodName) prog_6_method_2_code (2 : Nat) (Option.some (Jvm.ClassFile.FieldType.object "FixtureOrder$Case"))) ∈ pg_Ts := pg_in (List.mem_of_getElem? (i := 509) (by decide +kernel)) rfl
theorem tw_366 : (Jvm.Cond.code ({ cls := "FixtureOrder$Runner", name := "runAll", desc := "(LFixtureOrder$Suite;I)V" } : Jvm.MethodName) prog_6_method_3_code (4 : Nat) (Option.none : Option Jvm.ClassFile.FieldType)) ∈ pg_Ts := pg_in (List.mem_of_getElem? (i := 366) (by decide +kernel)) rfl
theorem tw_370 : (Jvm.Cond.code ({ cls := "FixtureOrder$Runner", name := "startRun", desc := "(LFixtureOrder$Suite;)V" } : Jvm.MethodName) prog_6_method_4_code (3 : Nat) (Option.none : Option Jvm.ClassFile.FieldType)) ∈ pg_Ts := pg_in (List.mem_of_getElem? (i := 370) (by decide +kernel)) rfl
theorem tw_383 : (Jvm.Cond.code ({ cls := "FixtureOrder$Runner", name := "listCases", desc := "(LFixtureOrder$Suite;)V" } : Jvm.MethodName) prog_6_method_5_code (6 : Nat) (Option.none : Option Jvm.ClassFile.FieldType)) ∈ pg_Ts := pg_in (List.mem_of_getElem? (i := 383) (by decide +kernel)) rfl
theorem tw_398 : (Jvm.Cond.code ({ cls := "FixtureOrder$Runner", name := "placeOfFewestUnmade", desc := "(I)I" } : Jvm.MethodName) prog_6_method_6_code (6 : Nat) (Option.some Jvm.ClassFile.FieldType.int)) ∈ pg_Ts := pg_in (List.mem_of_getElem? (i := 398) (by decide +kernel)) rfl
theorem tw_402 : (Jvm.Cond.code ({ cls := "FixtureOrder$Runner", name := "countUnmade", desc := "(LFixtureOrder$Case;)I" } : Jvm.MethodName) prog_6_method_7_code (6 : Nat) (Option.some Jvm.ClassFile.FieldType.int)) ∈ pg_Ts := pg_in (List.mem_of_getElem? (i := 402) (by decide +kernel)) rfl
theorem tw_415 : (Jvm.Cond.code ({ cls := "FixtureOrder$Runner", name := "bringForward", desc := "(II)V" } : Jvm.MethodName) prog_6_method_8_code (5 : Nat) (Option.none : Option Jvm.ClassFile.FieldType)) ∈ pg_Ts := pg_in (List.mem_of_getElem? (i := 415) (by decide +kernel)) rfl
theorem tw_419 : (Jvm.Cond.code ({ cls := "FixtureOrder$Runner", name := "takeCase", desc := "(LFixtureOrder$Suite;LFixtureOrder$Case;I)V" } : Jvm.MethodName) prog_6_method_9_code (10 : Nat) (Option.none : Option Jvm.ClassFile.FieldType)) ∈ pg_Ts := pg_in (List.mem_of_getElem? (i := 419) (by decide +kernel)) rfl
theorem tw_423 : (Jvm.Cond.code ({ cls := "FixtureOrder$Runner", name := "bitsThatCannotStay", desc := "(LFixtureOrder$Case;)I" } : Jvm.MethodName) prog_6_method_10_code (5 : Nat) (Option.some Jvm.ClassFile.FieldType.int)) ∈ pg_Ts := pg_in (List.mem_of_getElem? (i := 423) (by decide +kernel)) rfl
theorem tw_485 : (Jvm.Cond.code ({ cls := "FixtureOrder$Runner", name := "bitsOfCaseScope", desc := "()I" } : Jvm.MethodName) prog_6_method_11_code (3 : Nat) (Option.some Jvm.ClassFile.FieldType.int)) ∈ pg_Ts := pg_in (List.mem_of_getElem? (i := 485) (by decide +kernel)) rfl
theorem tw_452 : (Jvm.Cond.code ({ cls := "FixtureOrder$Runner", name := "tryCase", desc := "(LFixtureOrder$Case;II)I" } : Jvm.MethodName) prog_6_method_12_code (7 : Nat) (Option.some Jvm.ClassFile.FieldType.int)) ∈ pg_Ts := pg_in (List.mem_of_getElem? (i := 452) (by decide +kernel)) rfl
theorem tw_456 : (Jvm.Cond.code ({ cls := "FixtureOrder$Runner", name := "make", desc := "(LFixtureOrder$Fixture;LFixtureOrder$Case;)Z" } : Jvm.MethodName) prog_6_method_13_code (5 : Nat) (Option.some Jvm.ClassFile.FieldType.boolean)) ∈ pg_Ts := pg_in (List.mem_of_getElem? (i := 456) (by decide +kernel)) rfl
theorem tw_428 : (Jvm.Cond.code ({ cls := "FixtureOrder$Runner", name := "endMade", desc := "(I)I" } : Jvm.MethodName) prog_6_method_14_code (5 : Nat) (Option.some Jvm.ClassFile.FieldType.int)) ∈ pg_Ts := pg_in (List.mem_of_getElem? (i := 428) (by decide +kernel)) rfl
theorem tw_24 : (Jvm.Cond.code ({ cls := "FixtureOrder$Suite", name := "<init>", desc := "()V" } : Jvm.MethodName) prog_7_method_1_code (1 : Nat) (Option.none : Option Jvm.ClassFile.FieldType)) ∈ pg_Ts := pg_in (List.mem_of_getElem? (i := 24) (by decide +kernel)) rfl
theorem tw_243 : (Jvm.Cond.code ({ cls := "FixtureOrder$Suite", name := "fixtureAt", desc := "(I)LFixtureOrder$Fixture;" } : Jvm.MethodName) prog_7_method_2_code (2 : Nat) (Option.some (Jvm.ClassFile.FieldType.object "FixtureOrder$Fixture"))) ∈ pg_Ts := pg_in (List.mem_of_getElem? (i := 243) (by decide +kernel)) rfl
theorem tw_324 : (Jvm.Cond.code ({ cls := "FixtureOrder$Suite", name := "testAt", desc := "(I)LFixtureOrder$Test;" } : Jvm.MethodName) prog_7_method_3_code (2 : Nat) (Option.some (Jvm.ClassFile.FieldType.object "FixtureOrder$Test"))) ∈ pg_Ts := pg_in (List.mem_of_getElem? (i := 324) (by decide +kernel)) rfl
theorem tw_164 : (Jvm.Cond.code ({ cls := "FixtureOrder$Suite", name := "addFixture", desc := "(IIZZ)I" } : Jvm.MethodName) prog_7_method_4_code (5 : Nat) (Option.some Jvm.ClassFile.FieldType.int)) ∈ pg_Ts := pg_in (List.mem_of_getElem? (i := 164) (by decide +kernel)) rfl
theorem tw_273 : (Jvm.Cond.code ({ cls := "FixtureOrder$Suite", name := "addTest", desc := "(I)I" } : Jvm.MethodName) prog_7_method_5_code (2 : Nat) (Option.some Jvm.ClassFile.FieldType.int)) ∈ pg_Ts := pg_in (List.mem_of_getElem? (i := 273) (by decide +kernel)) rfl
theorem tw_255 : (Jvm.Cond.code ({ cls := "FixtureOrder$Suite", name := "link", desc := "(LFixtureOrder$Fixture;LFixtureOrder$Fixture;)V" } : Jvm.MethodName) prog_7_method_6_code (4 : Nat) (Option.none : Option Jvm.ClassFile.FieldType)) ∈ pg_Ts := pg_in (List.mem_of_getElem? (i := 255) (by decide +kernel)) rfl
theorem tw_444 : (Jvm.Cond.code ({ cls := "FixtureOrder$Suite", name := "forgetFailuresOfOtherFiles", desc := "(I)V" } : Jvm.MethodName) prog_7_method_7_code (3 : Nat) (Option.none : Option Jvm.ClassFile.FieldType)) ∈ pg_Ts := pg_in (List.mem_of_getElem? (i := 444) (by decide +kernel)) rfl
theorem tw_341 : (Jvm.Cond.code ({ cls := "FixtureOrder$Suite", name := "countAllCases", desc := "()I" } : Jvm.MethodName) prog_7_method_8_code (3 : Nat) (Option.some Jvm.ClassFile.FieldType.int)) ∈ pg_Ts := pg_in (List.mem_of_getElem? (i := 341) (by decide +kernel)) rfl
theorem tw_277 : (Jvm.Cond.code ({ cls := "FixtureOrder$Test", name := "<init>", desc := "(II)V" } : Jvm.MethodName) prog_8_method_1_code (3 : Nat) (Option.none : Option Jvm.ClassFile.FieldType)) ∈ pg_Ts := pg_in (List.mem_of_getElem? (i := 277) (by decide +kernel)) rfl
theorem tw_349 : (Jvm.Cond.code ({ cls := "FixtureOrder$Test", name := "findClosure", desc := "()V" } : Jvm.MethodName) prog_8_method_2_code (2 : Nat) (Option.none : Option Jvm.ClassFile.FieldType)) ∈ pg_Ts := pg_in (List.mem_of_getElem? (i := 349) (by decide +kernel)) rfl
theorem tw_356 : (Jvm.Cond.code ({ cls := "FixtureOrder$Test", name := "includeBehindItsNeeds", desc := "(LFixtureOrder$Row;LFixtureOrder$Fixture;I)V" } : Jvm.MethodName) prog_8_method_3_code (5 : Nat) (Option.none : Option Jvm.ClassFile.FieldType)) ∈ pg_Ts := pg_in (List.mem_of_getElem? (i := 356) (by decide +kernel)) rfl
theorem tw_345 : (Jvm.Cond.code ({ cls := "FixtureOrder$Test", name := "countCases", desc := "()I" } : Jvm.MethodName) prog_8_method_4_code (3 : Nat) (Option.some Jvm.ClassFile.FieldType.int)) ∈ pg_Ts := pg_in (List.mem_of_getElem? (i := 345) (by decide +kernel)) rfl
theorem tw_481 : (Jvm.Cond.code ({ cls := "FixtureOrder$Test", name := "resultOfSteps", desc := "(I)I" } : Jvm.MethodName) prog_8_method_5_code (2 : Nat) (Option.some Jvm.ClassFile.FieldType.int)) ∈ pg_Ts := pg_in (List.mem_of_getElem? (i := 481) (by decide +kernel)) rfl
theorem tw_391 : (Jvm.Cond.code ({ cls := "java/util/Arrays", name := "fill", desc := "([II)V" } : Jvm.MethodName) prog_12_method_103_code (4 : Nat) (Option.none : Option Jvm.ClassFile.FieldType)) ∈ pg_Ts := pg_in (List.mem_of_getElem? (i := 391) (by decide +kernel)) rfl
theorem tw_97 : (Jvm.Cond.arrayClass Jvm.ClassFile.FieldType.int) ∈ pg_Ts := pg_in (List.mem_of_getElem? (i := 97) (by decide +kernel)) rfl
theorem tw_675 : (Jvm.Cond.arrayClass Jvm.ClassFile.FieldType.boolean) ∈ pg_Ts := pg_in (List.mem_of_getElem? (i := 675) (by decide +kernel)) rfl
theorem tw_538 : (Jvm.Cond.methodLink "FixtureOrderLaw" (12 : Nat) ({ cls := "FixtureOrderModel", name := "<init>", desc := "()V" } : Jvm.MethodName)) ∈ pg_Ts := pg_in (List.mem_of_getElem? (i := 538) (by decide +kernel)) rfl
theorem tw_8 : (Jvm.Cond.initialized "FixtureOrderModel") ∈ pg_Ts := pg_in (List.mem_of_getElem? (i := 8) (by decide +kernel)) rfl
theorem tw_539 : (Jvm.Cond.instanceMethod ({ cls := "FixtureOrderModel", name := "<init>", desc := "()V" } : Jvm.MethodName)) ∈ pg_Ts := pg_in (List.mem_of_getElem? (i := 539) (by decide +kernel)) rfl
theorem tw_536 : (Jvm.Cond.classLink "FixtureOrderLaw" (10 : Nat) "FixtureOrderModel") ∈ pg_Ts := pg_in (List.mem_of_getElem? (i := 536) (by decide +kernel)) rfl
theorem tw_537 : (Jvm.Cond.instantiable "FixtureOrderModel" (44 : Nat)) ∈ pg_Ts := pg_in (List.mem_of_getElem? (i := 537) (by decide +kernel)) rfl
theorem tw_14 : (Jvm.Cond.methodLink "FixtureOrderLaw" (9 : Nat) ({ cls := "FixtureOrder", name := "<init>", desc := "()V" } : Jvm.MethodName)) ∈ pg_Ts := pg_in (List.mem_of_getElem? (i := 14) (by decide +kernel)) rfl
theorem tw_1 : (Jvm.Cond.initialized "FixtureOrder") ∈ pg_Ts := pg_in (List.mem_of_getElem? (i := 1) (by decide +kernel)) rfl
theorem tw_15 : (Jvm.Cond.instanceMethod ({ cls := "FixtureOrder", name := "<init>", desc := "()V" } : Jvm.MethodName)) ∈ pg_Ts := pg_in (List.mem_of_getElem? (i := 15) (by decide +kernel)) rfl
theorem tw_12 : (Jvm.Cond.classLink "FixtureOrderLaw" (7 : Nat) "FixtureOrder") ∈ pg_Ts := pg_in (List.mem_of_getElem? (i := 12) (by decide +kernel)) rfl
theorem tw_13 : (Jvm.Cond.instantiable "FixtureOrder" (2 : Nat)) ∈ pg_Ts := pg_in (List.mem_of_getElem? (i := 13) (by decide +kernel)) rfl
theorem tw_154 : (Jvm.Cond.methodLink "FixtureOrderLaw" (13 : Nat) ({ cls := "FixtureOrder", name := "fixture", desc := "(IIZZ)I" } : Jvm.MethodName)) ∈ pg_Ts := pg_in (List.mem_of_getElem? (i := 154) (by decide +kernel)) rfl
theorem tw_155 : (Jvm.Cond.instanceMethod ({ cls := "FixtureOrder", name := "fixture", desc := "(IIZZ)I" } : Jvm.MethodName)) ∈ pg_Ts := pg_in (List.mem_of_getElem? (i := 155) (by decide +kernel)) rfl
theorem tw_156 : (Jvm.Cond.selects "FixtureOrder" ({ cls := "FixtureOrder", name := "fixture", desc := "(IIZZ)I" } : Jvm.MethodName) ({ cls := "FixtureOrder", name := "fixture", desc := "(IIZZ)I" } : Jvm.MethodName)) ∈ pg_Ts := pg_in (List.mem_of_getElem? (i := 156) (by decide +kernel)) rfl
theorem tw_266 : (Jvm.Cond.methodLink "FixtureOrderLaw" (23 : Nat) ({ cls := "FixtureOrder", name := "test", desc := "(I)I" } : Jvm.MethodName)) ∈ pg_Ts := pg_in (List.mem_of_getElem? (i := 266) (by decide +kernel)) rfl
theorem tw_267 : (Jvm.Cond.instanceMethod ({ cls := "FixtureOrder", name := "test", desc := "(I)I" } : Jvm.MethodName)) ∈ pg_Ts := pg_in (List.mem_of_getElem? (i := 267) (by decide +kernel)) rfl
theorem tw_268 : (Jvm.Cond.selects "FixtureOrder" ({ cls := "FixtureOrder", name := "test", desc := "(I)I" } : Jvm.MethodName) ({ cls := "FixtureOrder", name := "test", desc := "(I)I" } : Jvm.MethodName)) ∈ pg_Ts := pg_in (List.mem_of_getElem? (i := 268) (by decide +kernel)) rfl
theorem tw_680 : (Jvm.Cond.methodLink "FixtureOrderLaw" (22 : Nat) ({ cls := "FixtureOrderModel", name := "needs", desc := "(II)I" } : Jvm.MethodName)) ∈ pg_Ts := pg_in (List.mem_of_getElem? (i := 680) (by decide +kernel)) rfl
theorem tw_681 : (Jvm.Cond.instanceMethod ({ cls := "FixtureOrderModel", name := "needs", desc := "(II)I" } : Jvm.MethodName)) ∈ pg_Ts := pg_in (List.mem_of_getElem? (i := 681) (by decide +kernel)) rfl
theorem tw_682 : (Jvm.Cond.selects "FixtureOrderModel" ({ cls := "FixtureOrderModel", name := "needs", desc := "(II)I" } : Jvm.MethodName) ({ cls := "FixtureOrderModel", name := "needs", desc := "(II)I" } : Jvm.MethodName)) ∈ pg_Ts := pg_in (List.mem_of_getElem? (i := 682) (by decide +kernel)) rfl
theorem tw_236 : (Jvm.Cond.methodLink "FixtureOrderLaw" (18 : Nat) ({ cls := "FixtureOrder", name := "needs", desc := "(II)I" } : Jvm.MethodName)) ∈ pg_Ts := pg_in (List.mem_of_getElem? (i := 236) (by decide +kernel)) rfl
theorem tw_237 : (Jvm.Cond.instanceMethod ({ cls := "FixtureOrder", name := "needs", desc := "(II)I" } : Jvm.MethodName)) ∈ pg_Ts := pg_in (List.mem_of_getElem? (i := 237) (by decide +kernel)) rfl
theorem tw_238 : (Jvm.Cond.selects "FixtureOrder" ({ cls := "FixtureOrder", name := "needs", desc := "(II)I" } : Jvm.MethodName) ({ cls := "FixtureOrder", name := "needs", desc := "(II)I" } : Jvm.MethodName)) ∈ pg_Ts := pg_in (List.mem_of_getElem? (i := 238) (by decide +kernel)) rfl
theorem tw_676 : (Jvm.Cond.methodLink "FixtureOrderLaw" (17 : Nat) ({ cls := "FixtureOrderModel", name := "fixture", desc := "(IIZZ)I" } : Jvm.MethodName)) ∈ pg_Ts := pg_in (List.mem_of_getElem? (i := 676) (by decide +kernel)) rfl
theorem tw_677 : (Jvm.Cond.instanceMethod ({ cls := "FixtureOrderModel", name := "fixture", desc := "(IIZZ)I" } : Jvm.MethodName)) ∈ pg_Ts := pg_in (List.mem_of_getElem? (i := 677) (by decide +kernel)) rfl
theorem tw_678 : (Jvm.Cond.selects "FixtureOrderModel" ({ cls := "FixtureOrderModel", name := "fixture", desc := "(IIZZ)I" } : Jvm.MethodName) ({ cls := "FixtureOrderModel", name := "fixture", desc := "(IIZZ)I" } : Jvm.MethodName)) ∈ pg_Ts := pg_in (List.mem_of_getElem? (i := 678) (by decide +kernel)) rfl
theorem tw_700 : (Jvm.Cond.methodLink "FixtureOrderLaw" (32 : Nat) ({ cls := "FixtureOrderModel", name := "uses", desc := "(II)Z" } : Jvm.MethodName)) ∈ pg_Ts := pg_in (List.mem_of_getElem? (i := 700) (by decide +kernel)) rfl
theorem tw_701 : (Jvm.Cond.instanceMethod ({ cls := "FixtureOrderModel", name := "uses", desc := "(II)Z" } : Jvm.MethodName)) ∈ pg_Ts := pg_in (List.mem_of_getElem? (i := 701) (by decide +kernel)) rfl
theorem tw_702 : (Jvm.Cond.selects "FixtureOrderModel" ({ cls := "FixtureOrderModel", name := "uses", desc := "(II)Z" } : Jvm.MethodName) ({ cls := "FixtureOrderModel", name := "uses", desc := "(II)Z" } : Jvm.MethodName)) ∈ pg_Ts := pg_in (List.mem_of_getElem? (i := 702) (by decide +kernel)) rfl
theorem tw_317 : (Jvm.Cond.methodLink "FixtureOrderLaw" (28 : Nat) ({ cls := "FixtureOrder", name := "uses", desc := "(II)Z" } : Jvm.MethodName)) ∈ pg_Ts := pg_in (List.mem_of_getElem? (i := 317) (by decide +kernel)) rfl
theorem tw_318 : (Jvm.Cond.instanceMethod ({ cls := "FixtureOrder", name := "uses", desc := "(II)Z" } : Jvm.MethodName)) ∈ pg_Ts := pg_in (List.mem_of_getElem? (i := 318) (by decide +kernel)) rfl
theorem tw_319 : (Jvm.Cond.selects "FixtureOrder" ({ cls := "FixtureOrder", name := "uses", desc := "(II)Z" } : Jvm.MethodName) ({ cls := "FixtureOrder", name := "uses", desc := "(II)Z" } : Jvm.MethodName)) ∈ pg_Ts := pg_in (List.mem_of_getElem? (i := 319) (by decide +kernel)) rfl
theorem tw_696 : (Jvm.Cond.methodLink "FixtureOrderLaw" (27 : Nat) ({ cls := "FixtureOrderModel", name := "test", desc := "(I)I" } : Jvm.MethodName)) ∈ pg_Ts := pg_in (List.mem_of_getElem? (i := 696) (by decide +kernel)) rfl
theorem tw_697 : (Jvm.Cond.instanceMethod ({ cls := "FixtureOrderModel", name := "test", desc := "(I)I" } : Jvm.MethodName)) ∈ pg_Ts := pg_in (List.mem_of_getElem? (i := 697) (by decide +kernel)) rfl
theorem tw_698 : (Jvm.Cond.selects "FixtureOrderModel" ({ cls := "FixtureOrderModel", name := "test", desc := "(I)I" } : Jvm.MethodName) ({ cls := "FixtureOrderModel", name := "test", desc := "(I)I" } : Jvm.MethodName)) ∈ pg_Ts := pg_in (List.mem_of_getElem? (i := 698) (by decide +kernel)) rfl
theorem tw_708 : (Jvm.Cond.methodLink "FixtureOrderLaw" (37 : Nat) ({ cls := "FixtureOrderModel", name := "takes", desc := "(III)Z" } : Jvm.MethodName)) ∈ pg_Ts := pg_in (List.mem_of_getElem? (i := 708) (by decide +kernel)) rfl
theorem tw_709 : (Jvm.Cond.instanceMethod ({ cls := "FixtureOrderModel", name := "takes", desc := "(III)Z" } : Jvm.MethodName)) ∈ pg_Ts := pg_in (List.mem_of_getElem? (i := 709) (by decide +kernel)) rfl
theorem tw_710 : (Jvm.Cond.selects "FixtureOrderModel" ({ cls := "FixtureOrderModel", name := "takes", desc := "(III)Z" } : Jvm.MethodName) ({ cls := "FixtureOrderModel", name := "takes", desc := "(III)Z" } : Jvm.MethodName)) ∈ pg_Ts := pg_in (List.mem_of_getElem? (i := 710) (by decide +kernel)) rfl
theorem tw_326 : (Jvm.Cond.methodLink "FixtureOrderLaw" (33 : Nat) ({ cls := "FixtureOrder", name := "takes", desc := "(III)Z" } : Jvm.MethodName)) ∈ pg_Ts := pg_in (List.mem_of_getElem? (i := 326) (by decide +kernel)) rfl
theorem tw_327 : (Jvm.Cond.instanceMethod ({ cls := "FixtureOrder", name := "takes", desc := "(III)Z" } : Jvm.MethodName)) ∈ pg_Ts := pg_in (List.mem_of_getElem? (i := 327) (by decide +kernel)) rfl
theorem tw_328 : (Jvm.Cond.selects "FixtureOrder" ({ cls := "FixtureOrder", name := "takes", desc := "(III)Z" } : Jvm.MethodName) ({ cls := "FixtureOrder", name := "takes", desc := "(III)Z" } : Jvm.MethodName)) ∈ pg_Ts := pg_in (List.mem_of_getElem? (i := 328) (by decide +kernel)) rfl
theorem tw_334 : (Jvm.Cond.methodLink "FixtureOrderLaw" (42 : Nat) ({ cls := "FixtureOrder", name := "run", desc := "(I)I" } : Jvm.MethodName)) ∈ pg_Ts := pg_in (List.mem_of_getElem? (i := 334) (by decide +kernel)) rfl
theorem tw_335 : (Jvm.Cond.instanceMethod ({ cls := "FixtureOrder", name := "run", desc := "(I)I" } : Jvm.MethodName)) ∈ pg_Ts := pg_in (List.mem_of_getElem? (i := 335) (by decide +kernel)) rfl
theorem tw_336 : (Jvm.Cond.selects "FixtureOrder" ({ cls := "FixtureOrder", name := "run", desc := "(I)I" } : Jvm.MethodName) ({ cls := "FixtureOrder", name := "run", desc := "(I)I" } : Jvm.MethodName)) ∈ pg_Ts := pg_in (List.mem_of_getElem? (i := 336) (by decide +kernel)) rfl
theorem tw_712 : (Jvm.Cond.methodLink "FixtureOrderLaw" (41 : Nat) ({ cls := "FixtureOrderModel", name := "fails", desc := "(III)Z" } : Jvm.MethodName)) ∈ pg_Ts := pg_in (List.mem_of_getElem? (i := 712) (by decide +kernel)) rfl
theorem tw_713 : (Jvm.Cond.instanceMethod ({ cls := "FixtureOrderModel", name := "fails", desc := "(III)Z" } : Jvm.MethodName)) ∈ pg_Ts := pg_in (List.mem_of_getElem? (i := 713) (by decide +kernel)) rfl
theorem tw_714 : (Jvm.Cond.selects "FixtureOrderModel" ({ cls := "FixtureOrderModel", name := "fails", desc := "(III)Z" } : Jvm.MethodName) ({ cls := "FixtureOrderModel", name := "fails", desc := "(III)Z" } : Jvm.MethodName)) ∈ pg_Ts := pg_in (List.mem_of_getElem? (i := 714) (by decide +kernel)) rfl
theorem tw_330 : (Jvm.Cond.methodLink "FixtureOrderLaw" (38 : Nat) ({ cls := "FixtureOrder", name := "fails", desc := "(III)Z" } : Jvm.MethodName)) ∈ pg_Ts := pg_in (List.mem_of_getElem? (i := 330) (by decide +kernel)) rfl
theorem tw_331 : (Jvm.Cond.instanceMethod ({ cls := "FixtureOrder", name := "fails", desc := "(III)Z" } : Jvm.MethodName)) ∈ pg_Ts := pg_in (List.mem_of_getElem? (i := 331) (by decide +kernel)) rfl
theorem tw_332 : (Jvm.Cond.selects "FixtureOrder" ({ cls := "FixtureOrder", name := "fails", desc := "(III)Z" } : Jvm.MethodName) ({ cls := "FixtureOrder", name := "fails", desc := "(III)Z" } : Jvm.MethodName)) ∈ pg_Ts := pg_in (List.mem_of_getElem? (i := 332) (by decide +kernel)) rfl
theorem tw_780 : (Jvm.Cond.methodLink "FixtureOrderLaw" (54 : Nat) ({ cls := "FixtureOrderModel", name := "event", desc := "(II)I" } : Jvm.MethodName)) ∈ pg_Ts := pg_in (List.mem_of_getElem? (i := 780) (by decide +kernel)) rfl
theorem tw_781 : (Jvm.Cond.instanceMethod ({ cls := "FixtureOrderModel", name := "event", desc := "(II)I" } : Jvm.MethodName)) ∈ pg_Ts := pg_in (List.mem_of_getElem? (i := 781) (by decide +kernel)) rfl
theorem tw_782 : (Jvm.Cond.selects "FixtureOrderModel" ({ cls := "FixtureOrderModel", name := "event", desc := "(II)I" } : Jvm.MethodName) ({ cls := "FixtureOrderModel", name := "event", desc := "(II)I" } : Jvm.MethodName)) ∈ pg_Ts := pg_in (List.mem_of_getElem? (i := 782) (by decide +kernel)) rfl
theorem tw_494 : (Jvm.Cond.methodLink "FixtureOrderLaw" (51 : Nat) ({ cls := "FixtureOrder", name := "event", desc := "(II)I" } : Jvm.MethodName)) ∈ pg_Ts := pg_in (List.mem_of_getElem? (i := 494) (by decide +kernel)) rfl
theorem tw_495 : (Jvm.Cond.instanceMethod ({ cls := "FixtureOrder", name := "event", desc := "(II)I" } : Jvm.MethodName)) ∈ pg_Ts := pg_in (List.mem_of_getElem? (i := 495) (by decide +kernel)) rfl
theorem tw_496 : (Jvm.Cond.selects "FixtureOrder" ({ cls := "FixtureOrder", name := "event", desc := "(II)I" } : Jvm.MethodName) ({ cls := "FixtureOrder", name := "event", desc := "(II)I" } : Jvm.MethodName)) ∈ pg_Ts := pg_in (List.mem_of_getElem? (i := 496) (by decide +kernel)) rfl
theorem tw_776 : (Jvm.Cond.methodLink "FixtureOrderLaw" (50 : Nat) ({ cls := "FixtureOrderModel", name := "events", desc := "()I" } : Jvm.MethodName)) ∈ pg_Ts := pg_in (List.mem_of_getElem? (i := 776) (by decide +kernel)) rfl
theorem tw_777 : (Jvm.Cond.instanceMethod ({ cls := "FixtureOrderModel", name := "events", desc := "()I" } : Jvm.MethodName)) ∈ pg_Ts := pg_in (List.mem_of_getElem? (i := 777) (by decide +kernel)) rfl
theorem tw_778 : (Jvm.Cond.selects "FixtureOrderModel" ({ cls := "FixtureOrderModel", name := "events", desc := "()I" } : Jvm.MethodName) ({ cls := "FixtureOrderModel", name := "events", desc := "()I" } : Jvm.MethodName)) ∈ pg_Ts := pg_in (List.mem_of_getElem? (i := 778) (by decide +kernel)) rfl
theorem tw_490 : (Jvm.Cond.methodLink "FixtureOrderLaw" (46 : Nat) ({ cls := "FixtureOrder", name := "events", desc := "()I" } : Jvm.MethodName)) ∈ pg_Ts := pg_in (List.mem_of_getElem? (i := 490) (by decide +kernel)) rfl
theorem tw_491 : (Jvm.Cond.instanceMethod ({ cls := "FixtureOrder", name := "events", desc := "()I" } : Jvm.MethodName)) ∈ pg_Ts := pg_in (List.mem_of_getElem? (i := 491) (by decide +kernel)) rfl
theorem tw_492 : (Jvm.Cond.selects "FixtureOrder" ({ cls := "FixtureOrder", name := "events", desc := "()I" } : Jvm.MethodName) ({ cls := "FixtureOrder", name := "events", desc := "()I" } : Jvm.MethodName)) ∈ pg_Ts := pg_in (List.mem_of_getElem? (i := 492) (by decide +kernel)) rfl
theorem tw_740 : (Jvm.Cond.methodLink "FixtureOrderLaw" (45 : Nat) ({ cls := "FixtureOrderModel", name := "run", desc := "(I)I" } : Jvm.MethodName)) ∈ pg_Ts := pg_in (List.mem_of_getElem? (i := 740) (by decide +kernel)) rfl
theorem tw_741 : (Jvm.Cond.instanceMethod ({ cls := "FixtureOrderModel", name := "run", desc := "(I)I" } : Jvm.MethodName)) ∈ pg_Ts := pg_in (List.mem_of_getElem? (i := 741) (by decide +kernel)) rfl
theorem tw_742 : (Jvm.Cond.selects "FixtureOrderModel" ({ cls := "FixtureOrderModel", name := "run", desc := "(I)I" } : Jvm.MethodName) ({ cls := "FixtureOrderModel", name := "run", desc := "(I)I" } : Jvm.MethodName)) ∈ pg_Ts := pg_in (List.mem_of_getElem? (i := 742) (by decide +kernel)) rfl
theorem tw_514 : (Jvm.Cond.methodLink "FixtureOrderLaw" (59 : Nat) ({ cls := "FixtureOrder", name := "counted", desc := "(II)I" } : Jvm.MethodName)) ∈ pg_Ts := pg_in (List.mem_of_getElem? (i := 514) (by decide +kernel)) rfl
theorem tw_515 : (Jvm.Cond.instanceMethod ({ cls := "FixtureOrder", name := "counted", desc := "(II)I" } : Jvm.MethodName)) ∈ pg_Ts := pg_in (List.mem_of_getElem? (i := 515) (by decide +kernel)) rfl
theorem tw_516 : (Jvm.Cond.selects "FixtureOrder" ({ cls := "FixtureOrder", name := "counted", desc := "(II)I" } : Jvm.MethodName) ({ cls := "FixtureOrder", name := "counted", desc := "(II)I" } : Jvm.MethodName)) ∈ pg_Ts := pg_in (List.mem_of_getElem? (i := 516) (by decide +kernel)) rfl
theorem tw_784 : (Jvm.Cond.methodLink "FixtureOrderLaw" (58 : Nat) ({ cls := "FixtureOrderModel", name := "outcome", desc := "(II)I" } : Jvm.MethodName)) ∈ pg_Ts := pg_in (List.mem_of_getElem? (i := 784) (by decide +kernel)) rfl
theorem tw_785 : (Jvm.Cond.instanceMethod ({ cls := "FixtureOrderModel", name := "outcome", desc := "(II)I" } : Jvm.MethodName)) ∈ pg_Ts := pg_in (List.mem_of_getElem? (i := 785) (by decide +kernel)) rfl
theorem tw_786 : (Jvm.Cond.selects "FixtureOrderModel" ({ cls := "FixtureOrderModel", name := "outcome", desc := "(II)I" } : Jvm.MethodName) ({ cls := "FixtureOrderModel", name := "outcome", desc := "(II)I" } : Jvm.MethodName)) ∈ pg_Ts := pg_in (List.mem_of_getElem? (i := 786) (by decide +kernel)) rfl
theorem tw_502 : (Jvm.Cond.methodLink "FixtureOrderLaw" (55 : Nat) ({ cls := "FixtureOrder", name := "outcome", desc := "(II)I" } : Jvm.MethodName)) ∈ pg_Ts := pg_in (List.mem_of_getElem? (i := 502) (by decide +kernel)) rfl
theorem tw_503 : (Jvm.Cond.instanceMethod ({ cls := "FixtureOrder", name := "outcome", desc := "(II)I" } : Jvm.MethodName)) ∈ pg_Ts := pg_in (List.mem_of_getElem? (i := 503) (by decide +kernel)) rfl
theorem tw_504 : (Jvm.Cond.selects "FixtureOrder" ({ cls := "FixtureOrder", name := "outcome", desc := "(II)I" } : Jvm.MethodName) ({ cls := "FixtureOrder", name := "outcome", desc := "(II)I" } : Jvm.MethodName)) ∈ pg_Ts := pg_in (List.mem_of_getElem? (i := 504) (by decide +kernel)) rfl
theorem tw_716 : (Jvm.Cond.methodLink "FixtureOrderLaw" (66 : Nat) ({ cls := "FixtureOrderModel", name := "closure", desc := "(II)I" } : Jvm.MethodName)) ∈ pg_Ts := pg_in (List.mem_of_getElem? (i := 716) (by decide +kernel)) rfl
theorem tw_717 : (Jvm.Cond.instanceMethod ({ cls := "FixtureOrderModel", name := "closure", desc := "(II)I" } : Jvm.MethodName)) ∈ pg_Ts := pg_in (List.mem_of_getElem? (i := 717) (by decide +kernel)) rfl
theorem tw_718 : (Jvm.Cond.selects "FixtureOrderModel" ({ cls := "FixtureOrderModel", name := "closure", desc := "(II)I" } : Jvm.MethodName) ({ cls := "FixtureOrderModel", name := "closure", desc := "(II)I" } : Jvm.MethodName)) ∈ pg_Ts := pg_in (List.mem_of_getElem? (i := 718) (by decide +kernel)) rfl
theorem tw_522 : (Jvm.Cond.methodLink "FixtureOrderLaw" (63 : Nat) ({ cls := "FixtureOrder", name := "closure", desc := "(II)I" } : Jvm.MethodName)) ∈ pg_Ts := pg_in (List.mem_of_getElem? (i := 522) (by decide +kernel)) rfl
theorem tw_523 : (Jvm.Cond.instanceMethod ({ cls := "FixtureOrder", name := "closure", desc := "(II)I" } : Jvm.MethodName)) ∈ pg_Ts := pg_in (List.mem_of_getElem? (i := 523) (by decide +kernel)) rfl
theorem tw_524 : (Jvm.Cond.selects "FixtureOrder" ({ cls := "FixtureOrder", name := "closure", desc := "(II)I" } : Jvm.MethodName) ({ cls := "FixtureOrder", name := "closure", desc := "(II)I" } : Jvm.MethodName)) ∈ pg_Ts := pg_in (List.mem_of_getElem? (i := 524) (by decide +kernel)) rfl
theorem tw_788 : (Jvm.Cond.methodLink "FixtureOrderLaw" (62 : Nat) ({ cls := "FixtureOrderModel", name := "counted", desc := "(II)I" } : Jvm.MethodName)) ∈ pg_Ts := pg_in (List.mem_of_getElem? (i := 788) (by decide +kernel)) rfl
theorem tw_789 : (Jvm.Cond.instanceMethod ({ cls := "FixtureOrderModel", name := "counted", desc := "(II)I" } : Jvm.MethodName)) ∈ pg_Ts := pg_in (List.mem_of_getElem? (i := 789) (by decide +kernel)) rfl
theorem tw_790 : (Jvm.Cond.selects "FixtureOrderModel" ({ cls := "FixtureOrderModel", name := "counted", desc := "(II)I" } : Jvm.MethodName) ({ cls := "FixtureOrderModel", name := "counted", desc := "(II)I" } : Jvm.MethodName)) ∈ pg_Ts := pg_in (List.mem_of_getElem? (i := 790) (by decide +kernel)) rfl
theorem tw_732 : (Jvm.Cond.methodLink "FixtureOrderLaw" (70 : Nat) ({ cls := "FixtureOrderModel", name := "cases", desc := "(I)I" } : Jvm.MethodName)) ∈ pg_Ts := pg_in (List.mem_of_getElem? (i := 732) (by decide +kernel)) rfl
theorem tw_733 : (Jvm.Cond.instanceMethod ({ cls := "FixtureOrderModel", name := "cases", desc := "(I)I" } : Jvm.MethodName)) ∈ pg_Ts := pg_in (List.mem_of_getElem? (i := 733) (by decide +kernel)) rfl
theorem tw_734 : (Jvm.Cond.selects "FixtureOrderModel" ({ cls := "FixtureOrderModel", name := "cases", desc := "(I)I" } : Jvm.MethodName) ({ cls := "FixtureOrderModel", name := "cases", desc := "(I)I" } : Jvm.MethodName)) ∈ pg_Ts := pg_in (List.mem_of_getElem? (i := 734) (by decide +kernel)) rfl
theorem tw_531 : (Jvm.Cond.methodLink "FixtureOrderLaw" (67 : Nat) ({ cls := "FixtureOrder", name := "cases", desc := "(I)I" } : Jvm.MethodName)) ∈ pg_Ts := pg_in (List.mem_of_getElem? (i := 531) (by decide +kernel)) rfl
theorem tw_532 : (Jvm.Cond.instanceMethod ({ cls := "FixtureOrder", name := "cases", desc := "(I)I" } : Jvm.MethodName)) ∈ pg_Ts := pg_in (List.mem_of_getElem? (i := 532) (by decide +kernel)) rfl
theorem tw_533 : (Jvm.Cond.selects "FixtureOrder" ({ cls := "FixtureOrder", name := "cases", desc := "(I)I" } : Jvm.MethodName) ({ cls := "FixtureOrder", name := "cases", desc := "(I)I" } : Jvm.MethodName)) ∈ pg_Ts := pg_in (List.mem_of_getElem? (i := 533) (by decide +kernel)) rfl
theorem tw_148 : (Jvm.Cond.fieldLink "FixtureOrder" (19 : Nat) "FixtureOrder" "runner" "LFixtureOrder$Runner;") ∈ pg_Ts := pg_in (List.mem_of_getElem? (i := 148) (by decide +kernel)) rfl
theorem tw_49 : (Jvm.Cond.methodLink "FixtureOrder" (18 : Nat) ({ cls := "FixtureOrder$Runner", name := "<init>", desc := "()V" } : Jvm.MethodName)) ∈ pg_Ts := pg_in (List.mem_of_getElem? (i := 49) (by decide +kernel)) rfl
theorem tw_3 : (Jvm.Cond.initialized "FixtureOrder$Runner") ∈ pg_Ts := pg_in (List.mem_of_getElem? (i := 3) (by decide +kernel)) rfl
theorem tw_50 : (Jvm.Cond.instanceMethod ({ cls := "FixtureOrder$Runner", name := "<init>", desc := "()V" } : Jvm.MethodName)) ∈ pg_Ts := pg_in (List.mem_of_getElem? (i := 50) (by decide +kernel)) rfl
theorem tw_47 : (Jvm.Cond.classLink "FixtureOrder" (16 : Nat) "FixtureOrder$Runner") ∈ pg_Ts := pg_in (List.mem_of_getElem? (i := 47) (by decide +kernel)) rfl
theorem tw_48 : (Jvm.Cond.instantiable "FixtureOrder$Runner" (5 : Nat)) ∈ pg_Ts := pg_in (List.mem_of_getElem? (i := 48) (by decide +kernel)) rfl
theorem tw_147 : (Jvm.Cond.fieldLink "FixtureOrder" (12 : Nat) "FixtureOrder" "suite" "LFixtureOrder$Suite;") ∈ pg_Ts := pg_in (List.mem_of_getElem? (i := 147) (by decide +kernel)) rfl
theorem tw_2 : (Jvm.Cond.initialized "FixtureOrder$Suite") ∈ pg_Ts := pg_in (List.mem_of_getElem? (i := 2) (by decide +kernel)) rfl
theorem tw_23 : (Jvm.Cond.instanceMethod ({ cls := "FixtureOrder$Suite", name := "<init>", desc := "()V" } : Jvm.MethodName)) ∈ pg_Ts := pg_in (List.mem_of_getElem? (i := 23) (by decide +kernel)) rfl
theorem tw_20 : (Jvm.Cond.classLink "FixtureOrder" (9 : Nat) "FixtureOrder$Suite") ∈ pg_Ts := pg_in (List.mem_of_getElem? (i := 20) (by decide +kernel)) rfl
theorem tw_21 : (Jvm.Cond.instantiable "FixtureOrder$Suite" (4 : Nat)) ∈ pg_Ts := pg_in (List.mem_of_getElem? (i := 21) (by decide +kernel)) rfl
theorem tw_17 : (Jvm.Cond.methodLink "FixtureOrder" (3 : Nat) ({ cls := "java/lang/Object", name := "<init>", desc := "()V" } : Jvm.MethodName)) ∈ pg_Ts := pg_in (List.mem_of_getElem? (i := 17) (by decide +kernel)) rfl
theorem tw_18 : (Jvm.Cond.instanceMethod ({ cls := "java/lang/Object", name := "<init>", desc := "()V" } : Jvm.MethodName)) ∈ pg_Ts := pg_in (List.mem_of_getElem? (i := 18) (by decide +kernel)) rfl
theorem tw_19 : (Jvm.Cond.code ({ cls := "java/lang/Object", name := "<init>", desc := "()V" } : Jvm.MethodName) object_method_1_code (1 : Nat) (Option.none : Option Jvm.ClassFile.FieldType)) ∈ pg_Ts := pg_in (List.mem_of_getElem? (i := 19) (by decide +kernel)) rfl
theorem tw_161 : (Jvm.Cond.methodLink "FixtureOrder" (27 : Nat) ({ cls := "FixtureOrder$Suite", name := "addFixture", desc := "(IIZZ)I" } : Jvm.MethodName)) ∈ pg_Ts := pg_in (List.mem_of_getElem? (i := 161) (by decide +kernel)) rfl
theorem tw_162 : (Jvm.Cond.instanceMethod ({ cls := "FixtureOrder$Suite", name := "addFixture", desc := "(IIZZ)I" } : Jvm.MethodName)) ∈ pg_Ts := pg_in (List.mem_of_getElem? (i := 162) (by decide +kernel)) rfl
theorem tw_163 : (Jvm.Cond.selects "FixtureOrder$Suite" ({ cls := "FixtureOrder$Suite", name := "addFixture", desc := "(IIZZ)I" } : Jvm.MethodName) ({ cls := "FixtureOrder$Suite", name := "addFixture", desc := "(IIZZ)I" } : Jvm.MethodName)) ∈ pg_Ts := pg_in (List.mem_of_getElem? (i := 163) (by decide +kernel)) rfl
theorem tw_158 : (Jvm.Cond.methodLink "FixtureOrder" (23 : Nat) ({ cls := "FixtureOrder", name := "isWithin", desc := "(III)Z" } : Jvm.MethodName)) ∈ pg_Ts := pg_in (List.mem_of_getElem? (i := 158) (by decide +kernel)) rfl
theorem tw_159 : (Jvm.Cond.static ({ cls := "FixtureOrder", name := "isWithin", desc := "(III)Z" } : Jvm.MethodName)) ∈ pg_Ts := pg_in (List.mem_of_getElem? (i := 159) (by decide +kernel)) rfl
theorem tw_248 : (Jvm.Cond.methodLink "FixtureOrder" (54 : Nat) ({ cls := "FixtureOrder$Fixture", name := "dependsOnAny", desc := "(I)Z" } : Jvm.MethodName)) ∈ pg_Ts := pg_in (List.mem_of_getElem? (i := 248) (by decide +kernel)) rfl
theorem tw_9 : (Jvm.Cond.initialized "FixtureOrder$Fixture") ∈ pg_Ts := pg_in (List.mem_of_getElem? (i := 9) (by decide +kernel)) rfl
theorem tw_249 : (Jvm.Cond.instanceMethod ({ cls := "FixtureOrder$Fixture", name := "dependsOnAny", desc := "(I)Z" } : Jvm.MethodName)) ∈ pg_Ts := pg_in (List.mem_of_getElem? (i := 249) (by decide +kernel)) rfl
theorem tw_250 : (Jvm.Cond.selects "FixtureOrder$Fixture" ({ cls := "FixtureOrder$Fixture", name := "dependsOnAny", desc := "(I)Z" } : Jvm.MethodName) ({ cls := "FixtureOrder$Fixture", name := "dependsOnAny", desc := "(I)Z" } : Jvm.MethodName)) ∈ pg_Ts := pg_in (List.mem_of_getElem? (i := 250) (by decide +kernel)) rfl
theorem tw_178 : (Jvm.Cond.fieldLink "FixtureOrder" (51 : Nat) "FixtureOrder$Fixture" "bit" "I") ∈ pg_Ts := pg_in (List.mem_of_getElem? (i := 178) (by decide +kernel)) rfl
theorem tw_182 : (Jvm.Cond.fieldLink "FixtureOrder" (47 : Nat) "FixtureOrder$Fixture" "scope" "I") ∈ pg_Ts := pg_in (List.mem_of_getElem? (i := 182) (by decide +kernel)) rfl
theorem tw_244 : (Jvm.Cond.methodLink "FixtureOrder" (41 : Nat) ({ cls := "FixtureOrder$Row", name := "canTake", desc := "(LFixtureOrder$Fixture;)Z" } : Jvm.MethodName)) ∈ pg_Ts := pg_in (List.mem_of_getElem? (i := 244) (by decide +kernel)) rfl
theorem tw_4 : (Jvm.Cond.initialized "FixtureOrder$Row") ∈ pg_Ts := pg_in (List.mem_of_getElem? (i := 4) (by decide +kernel)) rfl
theorem tw_245 : (Jvm.Cond.instanceMethod ({ cls := "FixtureOrder$Row", name := "canTake", desc := "(LFixtureOrder$Fixture;)Z" } : Jvm.MethodName)) ∈ pg_Ts := pg_in (List.mem_of_getElem? (i := 245) (by decide +kernel)) rfl
theorem tw_246 : (Jvm.Cond.selects "FixtureOrder$Row" ({ cls := "FixtureOrder$Row", name := "canTake", desc := "(LFixtureOrder$Fixture;)Z" } : Jvm.MethodName) ({ cls := "FixtureOrder$Row", name := "canTake", desc := "(LFixtureOrder$Fixture;)Z" } : Jvm.MethodName)) ∈ pg_Ts := pg_in (List.mem_of_getElem? (i := 246) (by decide +kernel)) rfl
theorem tw_193 : (Jvm.Cond.fieldLink "FixtureOrder" (35 : Nat) "FixtureOrder$Fixture" "needed" "LFixtureOrder$Row;") ∈ pg_Ts := pg_in (List.mem_of_getElem? (i := 193) (by decide +kernel)) rfl
theorem tw_240 : (Jvm.Cond.methodLink "FixtureOrder" (31 : Nat) ({ cls := "FixtureOrder$Suite", name := "fixtureAt", desc := "(I)LFixtureOrder$Fixture;" } : Jvm.MethodName)) ∈ pg_Ts := pg_in (List.mem_of_getElem? (i := 240) (by decide +kernel)) rfl
theorem tw_241 : (Jvm.Cond.instanceMethod ({ cls := "FixtureOrder$Suite", name := "fixtureAt", desc := "(I)LFixtureOrder$Fixture;" } : Jvm.MethodName)) ∈ pg_Ts := pg_in (List.mem_of_getElem? (i := 241) (by decide +kernel)) rfl
theorem tw_242 : (Jvm.Cond.selects "FixtureOrder$Suite" ({ cls := "FixtureOrder$Suite", name := "fixtureAt", desc := "(I)LFixtureOrder$Fixture;" } : Jvm.MethodName) ({ cls := "FixtureOrder$Suite", name := "fixtureAt", desc := "(I)LFixtureOrder$Fixture;" } : Jvm.MethodName)) ∈ pg_Ts := pg_in (List.mem_of_getElem? (i := 242) (by decide +kernel)) rfl
theorem tw_252 : (Jvm.Cond.methodLink "FixtureOrder" (58 : Nat) ({ cls := "FixtureOrder$Suite", name := "link", desc := "(LFixtureOrder$Fixture;LFixtureOrder$Fixture;)V" } : Jvm.MethodName)) ∈ pg_Ts := pg_in (List.mem_of_getElem? (i := 252) (by decide +kernel)) rfl
theorem tw_253 : (Jvm.Cond.instanceMethod ({ cls := "FixtureOrder$Suite", name := "link", desc := "(LFixtureOrder$Fixture;LFixtureOrder$Fixture;)V" } : Jvm.MethodName)) ∈ pg_Ts := pg_in (List.mem_of_getElem? (i := 253) (by decide +kernel)) rfl
theorem tw_254 : (Jvm.Cond.selects "FixtureOrder$Suite" ({ cls := "FixtureOrder$Suite", name := "link", desc := "(LFixtureOrder$Fixture;LFixtureOrder$Fixture;)V" } : Jvm.MethodName) ({ cls := "FixtureOrder$Suite", name := "link", desc := "(LFixtureOrder$Fixture;LFixtureOrder$Fixture;)V" } : Jvm.MethodName)) ∈ pg_Ts := pg_in (List.mem_of_getElem? (i := 254) (by decide +kernel)) rfl
theorem tw_270 : (Jvm.Cond.methodLink "FixtureOrder" (62 : Nat) ({ cls := "FixtureOrder$Suite", name := "addTest", desc := "(I)I" } : Jvm.MethodName)) ∈ pg_Ts := pg_in (List.mem_of_getElem? (i := 270) (by decide +kernel)) rfl
theorem tw_271 : (Jvm.Cond.instanceMethod ({ cls := "FixtureOrder$Suite", name := "addTest", desc := "(I)I" } : Jvm.MethodName)) ∈ pg_Ts := pg_in (List.mem_of_getElem? (i := 271) (by decide +kernel)) rfl
theorem tw_272 : (Jvm.Cond.selects "FixtureOrder$Suite" ({ cls := "FixtureOrder$Suite", name := "addTest", desc := "(I)I" } : Jvm.MethodName) ({ cls := "FixtureOrder$Suite", name := "addTest", desc := "(I)I" } : Jvm.MethodName)) ∈ pg_Ts := pg_in (List.mem_of_getElem? (i := 272) (by decide +kernel)) rfl
theorem tw_325 : (Jvm.Cond.methodLink "FixtureOrder" (75 : Nat) ({ cls := "FixtureOrder$Row", name := "append", desc := "(LFixtureOrder$Fixture;)V" } : Jvm.MethodName)) ∈ pg_Ts := pg_in (List.mem_of_getElem? (i := 325) (by decide +kernel)) rfl
theorem tw_257 : (Jvm.Cond.instanceMethod ({ cls := "FixtureOrder$Row", name := "append", desc := "(LFixtureOrder$Fixture;)V" } : Jvm.MethodName)) ∈ pg_Ts := pg_in (List.mem_of_getElem? (i := 257) (by decide +kernel)) rfl
theorem tw_258 : (Jvm.Cond.selects "FixtureOrder$Row" ({ cls := "FixtureOrder$Row", name := "append", desc := "(LFixtureOrder$Fixture;)V" } : Jvm.MethodName) ({ cls := "FixtureOrder$Row", name := "append", desc := "(LFixtureOrder$Fixture;)V" } : Jvm.MethodName)) ∈ pg_Ts := pg_in (List.mem_of_getElem? (i := 258) (by decide +kernel)) rfl
theorem tw_287 : (Jvm.Cond.fieldLink "FixtureOrder" (70 : Nat) "FixtureOrder$Test" "used" "LFixtureOrder$Row;") ∈ pg_Ts := pg_in (List.mem_of_getElem? (i := 287) (by decide +kernel)) rfl
theorem tw_321 : (Jvm.Cond.methodLink "FixtureOrder" (66 : Nat) ({ cls := "FixtureOrder$Suite", name := "testAt", desc := "(I)LFixtureOrder$Test;" } : Jvm.MethodName)) ∈ pg_Ts := pg_in (List.mem_of_getElem? (i := 321) (by decide +kernel)) rfl
theorem tw_322 : (Jvm.Cond.instanceMethod ({ cls := "FixtureOrder$Suite", name := "testAt", desc := "(I)LFixtureOrder$Test;" } : Jvm.MethodName)) ∈ pg_Ts := pg_in (List.mem_of_getElem? (i := 322) (by decide +kernel)) rfl
theorem tw_323 : (Jvm.Cond.selects "FixtureOrder$Suite" ({ cls := "FixtureOrder$Suite", name := "testAt", desc := "(I)LFixtureOrder$Test;" } : Jvm.MethodName) ({ cls := "FixtureOrder$Suite", name := "testAt", desc := "(I)LFixtureOrder$Test;" } : Jvm.MethodName)) ∈ pg_Ts := pg_in (List.mem_of_getElem? (i := 323) (by decide +kernel)) rfl
theorem tw_295 : (Jvm.Cond.fieldLink "FixtureOrder" (82 : Nat) "FixtureOrder$Test" "limit" "I") ∈ pg_Ts := pg_in (List.mem_of_getElem? (i := 295) (by decide +kernel)) rfl
theorem tw_293 : (Jvm.Cond.fieldLink "FixtureOrder" (79 : Nat) "FixtureOrder$Test" "steps" "I") ∈ pg_Ts := pg_in (List.mem_of_getElem? (i := 293) (by decide +kernel)) rfl
theorem tw_298 : (Jvm.Cond.fieldLink "FixtureOrder" (88 : Nat) "FixtureOrder$Test" "retries" "I") ∈ pg_Ts := pg_in (List.mem_of_getElem? (i := 298) (by decide +kernel)) rfl
theorem tw_297 : (Jvm.Cond.fieldLink "FixtureOrder" (85 : Nat) "FixtureOrder$Test" "failingTries" "I") ∈ pg_Ts := pg_in (List.mem_of_getElem? (i := 297) (by decide +kernel)) rfl
theorem tw_133 : (Jvm.Cond.fieldLink "FixtureOrder" (99 : Nat) "FixtureOrder$Runner" "caseCount" "I") ∈ pg_Ts := pg_in (List.mem_of_getElem? (i := 133) (by decide +kernel)) rfl
theorem tw_363 : (Jvm.Cond.methodLink "FixtureOrder" (95 : Nat) ({ cls := "FixtureOrder$Runner", name := "runAll", desc := "(LFixtureOrder$Suite;I)V" } : Jvm.MethodName)) ∈ pg_Ts := pg_in (List.mem_of_getElem? (i := 363) (by decide +kernel)) rfl
theorem tw_364 : (Jvm.Cond.instanceMethod ({ cls := "FixtureOrder$Runner", name := "runAll", desc := "(LFixtureOrder$Suite;I)V" } : Jvm.MethodName)) ∈ pg_Ts := pg_in (List.mem_of_getElem? (i := 364) (by decide +kernel)) rfl
theorem tw_365 : (Jvm.Cond.selects "FixtureOrder$Runner" ({ cls := "FixtureOrder$Runner", name := "runAll", desc := "(LFixtureOrder$Suite;I)V" } : Jvm.MethodName) ({ cls := "FixtureOrder$Runner", name := "runAll", desc := "(LFixtureOrder$Suite;I)V" } : Jvm.MethodName)) ∈ pg_Ts := pg_in (List.mem_of_getElem? (i := 365) (by decide +kernel)) rfl
theorem tw_338 : (Jvm.Cond.methodLink "FixtureOrder" (91 : Nat) ({ cls := "FixtureOrder$Suite", name := "countAllCases", desc := "()I" } : Jvm.MethodName)) ∈ pg_Ts := pg_in (List.mem_of_getElem? (i := 338) (by decide +kernel)) rfl
theorem tw_339 : (Jvm.Cond.instanceMethod ({ cls := "FixtureOrder$Suite", name := "countAllCases", desc := "()I" } : Jvm.MethodName)) ∈ pg_Ts := pg_in (List.mem_of_getElem? (i := 339) (by decide +kernel)) rfl
theorem tw_340 : (Jvm.Cond.selects "FixtureOrder$Suite" ({ cls := "FixtureOrder$Suite", name := "countAllCases", desc := "()I" } : Jvm.MethodName) ({ cls := "FixtureOrder$Suite", name := "countAllCases", desc := "()I" } : Jvm.MethodName)) ∈ pg_Ts := pg_in (List.mem_of_getElem? (i := 340) (by decide +kernel)) rfl
theorem tw_91 : (Jvm.Cond.fieldLink "FixtureOrder" (106 : Nat) "FixtureOrder$Log" "count" "I") ∈ pg_Ts := pg_in (List.mem_of_getElem? (i := 91) (by decide +kernel)) rfl
theorem tw_130 : (Jvm.Cond.fieldLink "FixtureOrder" (102 : Nat) "FixtureOrder$Runner" "log" "LFixtureOrder$Log;") ∈ pg_Ts := pg_in (List.mem_of_getElem? (i := 130) (by decide +kernel)) rfl
theorem tw_498 : (Jvm.Cond.methodLink "FixtureOrder" (111 : Nat) ({ cls := "FixtureOrder$Log", name := "read", desc := "(II)I" } : Jvm.MethodName)) ∈ pg_Ts := pg_in (List.mem_of_getElem? (i := 498) (by decide +kernel)) rfl
theorem tw_6 : (Jvm.Cond.initialized "FixtureOrder$Log") ∈ pg_Ts := pg_in (List.mem_of_getElem? (i := 6) (by decide +kernel)) rfl
theorem tw_499 : (Jvm.Cond.instanceMethod ({ cls := "FixtureOrder$Log", name := "read", desc := "(II)I" } : Jvm.MethodName)) ∈ pg_Ts := pg_in (List.mem_of_getElem? (i := 499) (by decide +kernel)) rfl
theorem tw_500 : (Jvm.Cond.selects "FixtureOrder$Log" ({ cls := "FixtureOrder$Log", name := "read", desc := "(II)I" } : Jvm.MethodName) ({ cls := "FixtureOrder$Log", name := "read", desc := "(II)I" } : Jvm.MethodName)) ∈ pg_Ts := pg_in (List.mem_of_getElem? (i := 500) (by decide +kernel)) rfl
theorem tw_510 : (Jvm.Cond.methodLink "FixtureOrder" (119 : Nat) ({ cls := "FixtureOrder$Case", name := "read", desc := "(I)I" } : Jvm.MethodName)) ∈ pg_Ts := pg_in (List.mem_of_getElem? (i := 510) (by decide +kernel)) rfl
theorem tw_7 : (Jvm.Cond.initialized "FixtureOrder$Case") ∈ pg_Ts := pg_in (List.mem_of_getElem? (i := 7) (by decide +kernel)) rfl
theorem tw_511 : (Jvm.Cond.instanceMethod ({ cls := "FixtureOrder$Case", name := "read", desc := "(I)I" } : Jvm.MethodName)) ∈ pg_Ts := pg_in (List.mem_of_getElem? (i := 511) (by decide +kernel)) rfl
theorem tw_512 : (Jvm.Cond.selects "FixtureOrder$Case" ({ cls := "FixtureOrder$Case", name := "read", desc := "(I)I" } : Jvm.MethodName) ({ cls := "FixtureOrder$Case", name := "read", desc := "(I)I" } : Jvm.MethodName)) ∈ pg_Ts := pg_in (List.mem_of_getElem? (i := 512) (by decide +kernel)) rfl
theorem tw_506 : (Jvm.Cond.methodLink "FixtureOrder" (115 : Nat) ({ cls := "FixtureOrder$Runner", name := "caseAt", desc := "(I)LFixtureOrder$Case;" } : Jvm.MethodName)) ∈ pg_Ts := pg_in (List.mem_of_getElem? (i := 506) (by decide +kernel)) rfl
theorem tw_507 : (Jvm.Cond.instanceMethod ({ cls := "FixtureOrder$Runner", name := "caseAt", desc := "(I)LFixtureOrder$Case;" } : Jvm.MethodName)) ∈ pg_Ts := pg_in (List.mem_of_getElem? (i := 507) (by decide +kernel)) rfl
theorem tw_508 : (Jvm.Cond.selects "FixtureOrder$Runner" ({ cls := "FixtureOrder$Runner", name := "caseAt", desc := "(I)LFixtureOrder$Case;" } : Jvm.MethodName) ({ cls := "FixtureOrder$Runner", name := "caseAt", desc := "(I)LFixtureOrder$Case;" } : Jvm.MethodName)) ∈ pg_Ts := pg_in (List.mem_of_getElem? (i := 508) (by decide +kernel)) rfl
theorem tw_518 : (Jvm.Cond.methodLink "FixtureOrder" (126 : Nat) ({ cls := "FixtureOrder$Fixture", name := "readCount", desc := "(I)I" } : Jvm.MethodName)) ∈ pg_Ts := pg_in (List.mem_of_getElem? (i := 518) (by decide +kernel)) rfl
theorem tw_519 : (Jvm.Cond.instanceMethod ({ cls := "FixtureOrder$Fixture", name := "readCount", desc := "(I)I" } : Jvm.MethodName)) ∈ pg_Ts := pg_in (List.mem_of_getElem? (i := 519) (by decide +kernel)) rfl
theorem tw_520 : (Jvm.Cond.selects "FixtureOrder$Fixture" ({ cls := "FixtureOrder$Fixture", name := "readCount", desc := "(I)I" } : Jvm.MethodName) ({ cls := "FixtureOrder$Fixture", name := "readCount", desc := "(I)I" } : Jvm.MethodName)) ∈ pg_Ts := pg_in (List.mem_of_getElem? (i := 520) (by decide +kernel)) rfl
theorem tw_135 : (Jvm.Cond.fieldLink "FixtureOrder" (123 : Nat) "FixtureOrder$Runner" "fixturesInRun" "I") ∈ pg_Ts := pg_in (List.mem_of_getElem? (i := 135) (by decide +kernel)) rfl
theorem tw_174 : (Jvm.Cond.fieldLink "FixtureOrder" (138 : Nat) "FixtureOrder$Fixture" "number" "I") ∈ pg_Ts := pg_in (List.mem_of_getElem? (i := 174) (by decide +kernel)) rfl
theorem tw_527 : (Jvm.Cond.methodLink "FixtureOrder" (135 : Nat) ({ cls := "FixtureOrder$Row", name := "at", desc := "(I)LFixtureOrder$Fixture;" } : Jvm.MethodName)) ∈ pg_Ts := pg_in (List.mem_of_getElem? (i := 527) (by decide +kernel)) rfl
theorem tw_528 : (Jvm.Cond.instanceMethod ({ cls := "FixtureOrder$Row", name := "at", desc := "(I)LFixtureOrder$Fixture;" } : Jvm.MethodName)) ∈ pg_Ts := pg_in (List.mem_of_getElem? (i := 528) (by decide +kernel)) rfl
theorem tw_529 : (Jvm.Cond.selects "FixtureOrder$Row" ({ cls := "FixtureOrder$Row", name := "at", desc := "(I)LFixtureOrder$Fixture;" } : Jvm.MethodName) ({ cls := "FixtureOrder$Row", name := "at", desc := "(I)LFixtureOrder$Fixture;" } : Jvm.MethodName)) ∈ pg_Ts := pg_in (List.mem_of_getElem? (i := 529) (by decide +kernel)) rfl
theorem tw_291 : (Jvm.Cond.fieldLink "FixtureOrder" (132 : Nat) "FixtureOrder$Test" "closure" "LFixtureOrder$Row;") ∈ pg_Ts := pg_in (List.mem_of_getElem? (i := 291) (by decide +kernel)) rfl
theorem tw_526 : (Jvm.Cond.methodLink "FixtureOrder" (129 : Nat) ({ cls := "FixtureOrder$Test", name := "findClosure", desc := "()V" } : Jvm.MethodName)) ∈ pg_Ts := pg_in (List.mem_of_getElem? (i := 526) (by decide +kernel)) rfl
theorem tw_10 : (Jvm.Cond.initialized "FixtureOrder$Test") ∈ pg_Ts := pg_in (List.mem_of_getElem? (i := 10) (by decide +kernel)) rfl
theorem tw_347 : (Jvm.Cond.instanceMethod ({ cls := "FixtureOrder$Test", name := "findClosure", desc := "()V" } : Jvm.MethodName)) ∈ pg_Ts := pg_in (List.mem_of_getElem? (i := 347) (by decide +kernel)) rfl
theorem tw_348 : (Jvm.Cond.selects "FixtureOrder$Test" ({ cls := "FixtureOrder$Test", name := "findClosure", desc := "()V" } : Jvm.MethodName) ({ cls := "FixtureOrder$Test", name := "findClosure", desc := "()V" } : Jvm.MethodName)) ∈ pg_Ts := pg_in (List.mem_of_getElem? (i := 348) (by decide +kernel)) rfl
theorem tw_535 : (Jvm.Cond.methodLink "FixtureOrder" (141 : Nat) ({ cls := "FixtureOrder$Test", name := "countCases", desc := "()I" } : Jvm.MethodName)) ∈ pg_Ts := pg_in (List.mem_of_getElem? (i := 535) (by decide +kernel)) rfl
theorem tw_343 : (Jvm.Cond.instanceMethod ({ cls := "FixtureOrder$Test", name := "countCases", desc := "()I" } : Jvm.MethodName)) ∈ pg_Ts := pg_in (List.mem_of_getElem? (i := 343) (by decide +kernel)) rfl
theorem tw_344 : (Jvm.Cond.selects "FixtureOrder$Test" ({ cls := "FixtureOrder$Test", name := "countCases", desc := "()I" } : Jvm.MethodName) ({ cls := "FixtureOrder$Test", name := "countCases", desc := "()I" } : Jvm.MethodName)) ∈ pg_Ts := pg_in (List.mem_of_getElem? (i := 344) (by decide +kernel)) rfl
theorem tw_553 : (Jvm.Cond.fieldLink "FixtureOrderModel" (35 : Nat) "FixtureOrderModel" "use" "[I") ∈ pg_Ts := pg_in (List.mem_of_getElem? (i := 553) (by decide +kernel)) rfl
theorem tw_552 : (Jvm.Cond.fieldLink "FixtureOrderModel" (32 : Nat) "FixtureOrderModel" "useMany" "[I") ∈ pg_Ts := pg_in (List.mem_of_getElem? (i := 552) (by decide +kernel)) rfl
theorem tw_551 : (Jvm.Cond.fieldLink "FixtureOrderModel" (29 : Nat) "FixtureOrderModel" "file" "[I") ∈ pg_Ts := pg_in (List.mem_of_getElem? (i := 551) (by decide +kernel)) rfl
theorem tw_550 : (Jvm.Cond.fieldLink "FixtureOrderModel" (26 : Nat) "FixtureOrderModel" "endFails" "[Z") ∈ pg_Ts := pg_in (List.mem_of_getElem? (i := 550) (by decide +kernel)) rfl
theorem tw_549 : (Jvm.Cond.fieldLink "FixtureOrderModel" (22 : Nat) "FixtureOrderModel" "makeFails" "[Z") ∈ pg_Ts := pg_in (List.mem_of_getElem? (i := 549) (by decide +kernel)) rfl
theorem tw_548 : (Jvm.Cond.fieldLink "FixtureOrderModel" (19 : Nat) "FixtureOrderModel" "need" "[I") ∈ pg_Ts := pg_in (List.mem_of_getElem? (i := 548) (by decide +kernel)) rfl
theorem tw_547 : (Jvm.Cond.fieldLink "FixtureOrderModel" (16 : Nat) "FixtureOrderModel" "needMany" "[I") ∈ pg_Ts := pg_in (List.mem_of_getElem? (i := 547) (by decide +kernel)) rfl
theorem tw_546 : (Jvm.Cond.fieldLink "FixtureOrderModel" (13 : Nat) "FixtureOrderModel" "values" "[I") ∈ pg_Ts := pg_in (List.mem_of_getElem? (i := 546) (by decide +kernel)) rfl
theorem tw_545 : (Jvm.Cond.fieldLink "FixtureOrderModel" (7 : Nat) "FixtureOrderModel" "scope" "[I") ∈ pg_Ts := pg_in (List.mem_of_getElem? (i := 545) (by decide +kernel)) rfl
theorem tw_541 : (Jvm.Cond.methodLink "FixtureOrderModel" (1 : Nat) ({ cls := "java/lang/Object", name := "<init>", desc := "()V" } : Jvm.MethodName)) ∈ pg_Ts := pg_in (List.mem_of_getElem? (i := 541) (by decide +kernel)) rfl
theorem tw_568 : (Jvm.Cond.fieldLink "FixtureOrderModel" (65 : Nat) "FixtureOrderModel" "madeFile" "[I") ∈ pg_Ts := pg_in (List.mem_of_getElem? (i := 568) (by decide +kernel)) rfl
theorem tw_567 : (Jvm.Cond.fieldLink "FixtureOrderModel" (62 : Nat) "FixtureOrderModel" "madeValue" "[I") ∈ pg_Ts := pg_in (List.mem_of_getElem? (i := 567) (by decide +kernel)) rfl
theorem tw_566 : (Jvm.Cond.fieldLink "FixtureOrderModel" (59 : Nat) "FixtureOrderModel" "madeAt" "[I") ∈ pg_Ts := pg_in (List.mem_of_getElem? (i := 566) (by decide +kernel)) rfl
theorem tw_560 : (Jvm.Cond.fieldLink "FixtureOrderModel" (56 : Nat) "FixtureOrderModel" "waitAt" "[I") ∈ pg_Ts := pg_in (List.mem_of_getElem? (i := 560) (by decide +kernel)) rfl
theorem tw_559 : (Jvm.Cond.fieldLink "FixtureOrderModel" (53 : Nat) "FixtureOrderModel" "wait" "[I") ∈ pg_Ts := pg_in (List.mem_of_getElem? (i := 559) (by decide +kernel)) rfl
theorem tw_558 : (Jvm.Cond.fieldLink "FixtureOrderModel" (50 : Nat) "FixtureOrderModel" "closure" "[I") ∈ pg_Ts := pg_in (List.mem_of_getElem? (i := 558) (by decide +kernel)) rfl
theorem tw_557 : (Jvm.Cond.fieldLink "FixtureOrderModel" (47 : Nat) "FixtureOrderModel" "retries" "[I") ∈ pg_Ts := pg_in (List.mem_of_getElem? (i := 557) (by decide +kernel)) rfl
theorem tw_556 : (Jvm.Cond.fieldLink "FixtureOrderModel" (44 : Nat) "FixtureOrderModel" "fails" "[I") ∈ pg_Ts := pg_in (List.mem_of_getElem? (i := 556) (by decide +kernel)) rfl
theorem tw_555 : (Jvm.Cond.fieldLink "FixtureOrderModel" (41 : Nat) "FixtureOrderModel" "limit" "[I") ∈ pg_Ts := pg_in (List.mem_of_getElem? (i := 555) (by decide +kernel)) rfl
theorem tw_554 : (Jvm.Cond.fieldLink "FixtureOrderModel" (38 : Nat) "FixtureOrderModel" "steps" "[I") ∈ pg_Ts := pg_in (List.mem_of_getElem? (i := 554) (by decide +kernel)) rfl
theorem tw_578 : (Jvm.Cond.fieldLink "FixtureOrderModel" (95 : Nat) "FixtureOrderModel" "caseNumber" "[I") ∈ pg_Ts := pg_in (List.mem_of_getElem? (i := 578) (by decide +kernel)) rfl
theorem tw_577 : (Jvm.Cond.fieldLink "FixtureOrderModel" (92 : Nat) "FixtureOrderModel" "caseTest" "[I") ∈ pg_Ts := pg_in (List.mem_of_getElem? (i := 577) (by decide +kernel)) rfl
theorem tw_576 : (Jvm.Cond.fieldLink "FixtureOrderModel" (89 : Nat) "FixtureOrderModel" "eventTwo" "[I") ∈ pg_Ts := pg_in (List.mem_of_getElem? (i := 576) (by decide +kernel)) rfl
theorem tw_575 : (Jvm.Cond.fieldLink "FixtureOrderModel" (86 : Nat) "FixtureOrderModel" "eventOne" "[I") ∈ pg_Ts := pg_in (List.mem_of_getElem? (i := 575) (by decide +kernel)) rfl
theorem tw_574 : (Jvm.Cond.fieldLink "FixtureOrderModel" (83 : Nat) "FixtureOrderModel" "eventWhat" "[I") ∈ pg_Ts := pg_in (List.mem_of_getElem? (i := 574) (by decide +kernel)) rfl
theorem tw_573 : (Jvm.Cond.fieldLink "FixtureOrderModel" (80 : Nat) "FixtureOrderModel" "leaked" "[I") ∈ pg_Ts := pg_in (List.mem_of_getElem? (i := 573) (by decide +kernel)) rfl
theorem tw_572 : (Jvm.Cond.fieldLink "FixtureOrderModel" (77 : Nat) "FixtureOrderModel" "ended" "[I") ∈ pg_Ts := pg_in (List.mem_of_getElem? (i := 572) (by decide +kernel)) rfl
theorem tw_571 : (Jvm.Cond.fieldLink "FixtureOrderModel" (74 : Nat) "FixtureOrderModel" "made" "[I") ∈ pg_Ts := pg_in (List.mem_of_getElem? (i := 571) (by decide +kernel)) rfl
theorem tw_570 : (Jvm.Cond.fieldLink "FixtureOrderModel" (71 : Nat) "FixtureOrderModel" "rememberedFile" "[I") ∈ pg_Ts := pg_in (List.mem_of_getElem? (i := 570) (by decide +kernel)) rfl
theorem tw_569 : (Jvm.Cond.fieldLink "FixtureOrderModel" (68 : Nat) "FixtureOrderModel" "remembered" "[I") ∈ pg_Ts := pg_in (List.mem_of_getElem? (i := 569) (by decide +kernel)) rfl
theorem tw_584 : (Jvm.Cond.fieldLink "FixtureOrderModel" (113 : Nat) "FixtureOrderModel" "ending" "[Z") ∈ pg_Ts := pg_in (List.mem_of_getElem? (i := 584) (by decide +kernel)) rfl
theorem tw_583 : (Jvm.Cond.fieldLink "FixtureOrderModel" (110 : Nat) "FixtureOrderModel" "done" "[Z") ∈ pg_Ts := pg_in (List.mem_of_getElem? (i := 583) (by decide +kernel)) rfl
theorem tw_582 : (Jvm.Cond.fieldLink "FixtureOrderModel" (107 : Nat) "FixtureOrderModel" "caseTries" "[I") ∈ pg_Ts := pg_in (List.mem_of_getElem? (i := 582) (by decide +kernel)) rfl
theorem tw_581 : (Jvm.Cond.fieldLink "FixtureOrderModel" (104 : Nat) "FixtureOrderModel" "caseSuppressed" "[I") ∈ pg_Ts := pg_in (List.mem_of_getElem? (i := 581) (by decide +kernel)) rfl
theorem tw_580 : (Jvm.Cond.fieldLink "FixtureOrderModel" (101 : Nat) "FixtureOrderModel" "caseFixture" "[I") ∈ pg_Ts := pg_in (List.mem_of_getElem? (i := 580) (by decide +kernel)) rfl
theorem tw_579 : (Jvm.Cond.fieldLink "FixtureOrderModel" (98 : Nat) "FixtureOrderModel" "caseOutcome" "[I") ∈ pg_Ts := pg_in (List.mem_of_getElem? (i := 579) (by decide +kernel)) rfl
theorem tw_543 : (Jvm.Cond.fieldLink "FixtureOrderModel" (120 : Nat) "FixtureOrderModel" "fixtures" "I") ∈ pg_Ts := pg_in (List.mem_of_getElem? (i := 543) (by decide +kernel)) rfl
theorem tw_544 : (Jvm.Cond.fieldLink "FixtureOrderModel" (123 : Nat) "FixtureOrderModel" "tests" "I") ∈ pg_Ts := pg_in (List.mem_of_getElem? (i := 544) (by decide +kernel)) rfl
theorem tw_542 : (Jvm.Cond.fieldLink "FixtureOrderModel" (116 : Nat) "FixtureOrderModel" "code" "I") ∈ pg_Ts := pg_in (List.mem_of_getElem? (i := 542) (by decide +kernel)) rfl
theorem tw_692 : (Jvm.Cond.methodLink "FixtureOrderModel" (134 : Nat) ({ cls := "FixtureOrderModel", name := "leads", desc := "(II)Z" } : Jvm.MethodName)) ∈ pg_Ts := pg_in (List.mem_of_getElem? (i := 692) (by decide +kernel)) rfl
theorem tw_694 : (Jvm.Cond.instanceMethod ({ cls := "FixtureOrderModel", name := "leads", desc := "(II)Z" } : Jvm.MethodName)) ∈ pg_Ts := pg_in (List.mem_of_getElem? (i := 694) (by decide +kernel)) rfl
theorem ts_13 : Cond.selects "FixtureOrderModel" ⟨"FixtureOrderModel", "leads", "(II)Z"⟩ ⟨"FixtureOrderModel", "leads", "(II)Z"⟩ ∈ pg_Ts := pg_inS (List.mem_of_getElem? (i := 13) (by decide +kernel)) rfl
theorem tw_688 : (Jvm.Cond.methodLink "FixtureOrderModel" (130 : Nat) ({ cls := "FixtureOrderModel", name := "isNeed", desc := "(II)Z" } : Jvm.MethodName)) ∈ pg_Ts := pg_in (List.mem_of_getElem? (i := 688) (by decide +kernel)) rfl
theorem tw_690 : (Jvm.Cond.instanceMethod ({ cls := "FixtureOrderModel", name := "isNeed", desc := "(II)Z" } : Jvm.MethodName)) ∈ pg_Ts := pg_in (List.mem_of_getElem? (i := 690) (by decide +kernel)) rfl
theorem ts_12 : Cond.selects "FixtureOrderModel" ⟨"FixtureOrderModel", "isNeed", "(II)Z"⟩ ⟨"FixtureOrderModel", "isNeed", "(II)Z"⟩ ∈ pg_Ts := pg_inS (List.mem_of_getElem? (i := 12) (by decide +kernel)) rfl
theorem tw_684 : (Jvm.Cond.methodLink "FixtureOrderModel" (126 : Nat) ({ cls := "FixtureOrderModel", name := "isFixture", desc := "(I)Z" } : Jvm.MethodName)) ∈ pg_Ts := pg_in (List.mem_of_getElem? (i := 684) (by decide +kernel)) rfl
theorem tw_686 : (Jvm.Cond.instanceMethod ({ cls := "FixtureOrderModel", name := "isFixture", desc := "(I)Z" } : Jvm.MethodName)) ∈ pg_Ts := pg_in (List.mem_of_getElem? (i := 686) (by decide +kernel)) rfl
theorem ts_11 : Cond.selects "FixtureOrderModel" ⟨"FixtureOrderModel", "isFixture", "(I)Z"⟩ ⟨"FixtureOrderModel", "isFixture", "(I)Z"⟩ ∈ pg_Ts := pg_inS (List.mem_of_getElem? (i := 11) (by decide +kernel)) rfl
theorem tw_704 : (Jvm.Cond.methodLink "FixtureOrderModel" (137 : Nat) ({ cls := "FixtureOrderModel", name := "isTest", desc := "(I)Z" } : Jvm.MethodName)) ∈ pg_Ts := pg_in (List.mem_of_getElem? (i := 704) (by decide +kernel)) rfl
theorem tw_706 : (Jvm.Cond.instanceMethod ({ cls := "FixtureOrderModel", name := "isTest", desc := "(I)Z" } : Jvm.MethodName)) ∈ pg_Ts := pg_in (List.mem_of_getElem? (i := 706) (by decide +kernel)) rfl
theorem ts_14 : Cond.selects "FixtureOrderModel" ⟨"FixtureOrderModel", "isTest", "(I)Z"⟩ ⟨"FixtureOrderModel", "isTest", "(I)Z"⟩ ∈ pg_Ts := pg_inS (List.mem_of_getElem? (i := 14) (by decide +kernel)) rfl
theorem tw_561 : (Jvm.Cond.fieldLink "FixtureOrderModel" (140 : Nat) "FixtureOrderModel" "closed" "I") ∈ pg_Ts := pg_in (List.mem_of_getElem? (i := 561) (by decide +kernel)) rfl
theorem tw_728 : (Jvm.Cond.methodLink "FixtureOrderModel" (143 : Nat) ({ cls := "FixtureOrderModel", name := "isClosed", desc := "(I)Z" } : Jvm.MethodName)) ∈ pg_Ts := pg_in (List.mem_of_getElem? (i := 728) (by decide +kernel)) rfl
theorem tw_730 : (Jvm.Cond.instanceMethod ({ cls := "FixtureOrderModel", name := "isClosed", desc := "(I)Z" } : Jvm.MethodName)) ∈ pg_Ts := pg_in (List.mem_of_getElem? (i := 730) (by decide +kernel)) rfl
theorem ts_17 : Cond.selects "FixtureOrderModel" ⟨"FixtureOrderModel", "isClosed", "(I)Z"⟩ ⟨"FixtureOrderModel", "isClosed", "(I)Z"⟩ ∈ pg_Ts := pg_inS (List.mem_of_getElem? (i := 17) (by decide +kernel)) rfl
theorem tw_724 : (Jvm.Cond.methodLink "FixtureOrderModel" (146 : Nat) ({ cls := "FixtureOrderModel", name := "close", desc := "(I)V" } : Jvm.MethodName)) ∈ pg_Ts := pg_in (List.mem_of_getElem? (i := 724) (by decide +kernel)) rfl
theorem tw_726 : (Jvm.Cond.instanceMethod ({ cls := "FixtureOrderModel", name := "close", desc := "(I)V" } : Jvm.MethodName)) ∈ pg_Ts := pg_in (List.mem_of_getElem? (i := 726) (by decide +kernel)) rfl
theorem ts_16 : Cond.selects "FixtureOrderModel" ⟨"FixtureOrderModel", "close", "(I)V"⟩ ⟨"FixtureOrderModel", "close", "(I)V"⟩ ∈ pg_Ts := pg_inS (List.mem_of_getElem? (i := 16) (by decide +kernel)) rfl
theorem tw_720 : (Jvm.Cond.methodLink "FixtureOrderModel" (150 : Nat) ({ cls := "FixtureOrderModel", name := "closeTest", desc := "(I)V" } : Jvm.MethodName)) ∈ pg_Ts := pg_in (List.mem_of_getElem? (i := 720) (by decide +kernel)) rfl
theorem tw_722 : (Jvm.Cond.instanceMethod ({ cls := "FixtureOrderModel", name := "closeTest", desc := "(I)V" } : Jvm.MethodName)) ∈ pg_Ts := pg_in (List.mem_of_getElem? (i := 722) (by decide +kernel)) rfl
theorem ts_15 : Cond.selects "FixtureOrderModel" ⟨"FixtureOrderModel", "closeTest", "(I)V"⟩ ⟨"FixtureOrderModel", "closeTest", "(I)V"⟩ ∈ pg_Ts := pg_inS (List.mem_of_getElem? (i := 15) (by decide +kernel)) rfl
theorem tw_736 : (Jvm.Cond.methodLink "FixtureOrderModel" (153 : Nat) ({ cls := "FixtureOrderModel", name := "casesOf", desc := "(I)I" } : Jvm.MethodName)) ∈ pg_Ts := pg_in (List.mem_of_getElem? (i := 736) (by decide +kernel)) rfl
theorem tw_738 : (Jvm.Cond.instanceMethod ({ cls := "FixtureOrderModel", name := "casesOf", desc := "(I)I" } : Jvm.MethodName)) ∈ pg_Ts := pg_in (List.mem_of_getElem? (i := 738) (by decide +kernel)) rfl
theorem ts_18 : Cond.selects "FixtureOrderModel" ⟨"FixtureOrderModel", "casesOf", "(I)I"⟩ ⟨"FixtureOrderModel", "casesOf", "(I)I"⟩ ∈ pg_Ts := pg_inS (List.mem_of_getElem? (i := 18) (by decide +kernel)) rfl
theorem tw_563 : (Jvm.Cond.fieldLink "FixtureOrderModel" (157 : Nat) "FixtureOrderModel" "events" "I") ∈ pg_Ts := pg_in (List.mem_of_getElem? (i := 563) (by decide +kernel)) rfl
theorem tw_585 : (Jvm.Cond.fieldLink "FixtureOrderModel" (160 : Nat) "FixtureOrderModel" "failures" "I") ∈ pg_Ts := pg_in (List.mem_of_getElem? (i := 585) (by decide +kernel)) rfl
theorem tw_768 : (Jvm.Cond.methodLink "FixtureOrderModel" (163 : Nat) ({ cls := "FixtureOrderModel", name := "tell", desc := "(III)V" } : Jvm.MethodName)) ∈ pg_Ts := pg_in (List.mem_of_getElem? (i := 768) (by decide +kernel)) rfl
theorem tw_770 : (Jvm.Cond.instanceMethod ({ cls := "FixtureOrderModel", name := "tell", desc := "(III)V" } : Jvm.MethodName)) ∈ pg_Ts := pg_in (List.mem_of_getElem? (i := 770) (by decide +kernel)) rfl
theorem ts_25 : Cond.selects "FixtureOrderModel" ⟨"FixtureOrderModel", "tell", "(III)V"⟩ ⟨"FixtureOrderModel", "tell", "(III)V"⟩ ∈ pg_Ts := pg_inS (List.mem_of_getElem? (i := 25) (by decide +kernel)) rfl
theorem tw_764 : (Jvm.Cond.methodLink "FixtureOrderModel" (167 : Nat) ({ cls := "FixtureOrderModel", name := "end", desc := "(I)V" } : Jvm.MethodName)) ∈ pg_Ts := pg_in (List.mem_of_getElem? (i := 764) (by decide +kernel)) rfl
theorem tw_766 : (Jvm.Cond.instanceMethod ({ cls := "FixtureOrderModel", name := "end", desc := "(I)V" } : Jvm.MethodName)) ∈ pg_Ts := pg_in (List.mem_of_getElem? (i := 766) (by decide +kernel)) rfl
theorem ts_24 : Cond.selects "FixtureOrderModel" ⟨"FixtureOrderModel", "end", "(I)V"⟩ ⟨"FixtureOrderModel", "end", "(I)V"⟩ ∈ pg_Ts := pg_inS (List.mem_of_getElem? (i := 24) (by decide +kernel)) rfl
theorem tw_748 : (Jvm.Cond.methodLink "FixtureOrderModel" (170 : Nat) ({ cls := "FixtureOrderModel", name := "valueOf", desc := "(II)I" } : Jvm.MethodName)) ∈ pg_Ts := pg_in (List.mem_of_getElem? (i := 748) (by decide +kernel)) rfl
theorem tw_750 : (Jvm.Cond.instanceMethod ({ cls := "FixtureOrderModel", name := "valueOf", desc := "(II)I" } : Jvm.MethodName)) ∈ pg_Ts := pg_in (List.mem_of_getElem? (i := 750) (by decide +kernel)) rfl
theorem ts_20 : Cond.selects "FixtureOrderModel" ⟨"FixtureOrderModel", "valueOf", "(II)I"⟩ ⟨"FixtureOrderModel", "valueOf", "(II)I"⟩ ∈ pg_Ts := pg_inS (List.mem_of_getElem? (i := 20) (by decide +kernel)) rfl
theorem tw_760 : (Jvm.Cond.methodLink "FixtureOrderModel" (174 : Nat) ({ cls := "FixtureOrderModel", name := "endMarked", desc := "()V" } : Jvm.MethodName)) ∈ pg_Ts := pg_in (List.mem_of_getElem? (i := 760) (by decide +kernel)) rfl
theorem tw_762 : (Jvm.Cond.instanceMethod ({ cls := "FixtureOrderModel", name := "endMarked", desc := "()V" } : Jvm.MethodName)) ∈ pg_Ts := pg_in (List.mem_of_getElem? (i := 762) (by decide +kernel)) rfl
theorem ts_23 : Cond.selects "FixtureOrderModel" ⟨"FixtureOrderModel", "endMarked", "()V"⟩ ⟨"FixtureOrderModel", "endMarked", "()V"⟩ ∈ pg_Ts := pg_inS (List.mem_of_getElem? (i := 23) (by decide +kernel)) rfl
theorem tw_565 : (Jvm.Cond.fieldLink "FixtureOrderModel" (177 : Nat) "FixtureOrderModel" "makings" "I") ∈ pg_Ts := pg_in (List.mem_of_getElem? (i := 565) (by decide +kernel)) rfl
theorem tw_756 : (Jvm.Cond.methodLink "FixtureOrderModel" (183 : Nat) ({ cls := "FixtureOrderModel", name := "part", desc := "(II)V" } : Jvm.MethodName)) ∈ pg_Ts := pg_in (List.mem_of_getElem? (i := 756) (by decide +kernel)) rfl
theorem tw_758 : (Jvm.Cond.instanceMethod ({ cls := "FixtureOrderModel", name := "part", desc := "(II)V" } : Jvm.MethodName)) ∈ pg_Ts := pg_in (List.mem_of_getElem? (i := 758) (by decide +kernel)) rfl
theorem ts_22 : Cond.selects "FixtureOrderModel" ⟨"FixtureOrderModel", "part", "(II)V"⟩ ⟨"FixtureOrderModel", "part", "(II)V"⟩ ∈ pg_Ts := pg_inS (List.mem_of_getElem? (i := 22) (by decide +kernel)) rfl
theorem tw_564 : (Jvm.Cond.fieldLink "FixtureOrderModel" (180 : Nat) "FixtureOrderModel" "ran" "I") ∈ pg_Ts := pg_in (List.mem_of_getElem? (i := 564) (by decide +kernel)) rfl
theorem tw_772 : (Jvm.Cond.methodLink "FixtureOrderModel" (187 : Nat) ({ cls := "FixtureOrderModel", name := "make", desc := "(II)I" } : Jvm.MethodName)) ∈ pg_Ts := pg_in (List.mem_of_getElem? (i := 772) (by decide +kernel)) rfl
theorem tw_774 : (Jvm.Cond.instanceMethod ({ cls := "FixtureOrderModel", name := "make", desc := "(II)I" } : Jvm.MethodName)) ∈ pg_Ts := pg_in (List.mem_of_getElem? (i := 774) (by decide +kernel)) rfl
theorem ts_26 : Cond.selects "FixtureOrderModel" ⟨"FixtureOrderModel", "make", "(II)I"⟩ ⟨"FixtureOrderModel", "make", "(II)I"⟩ ∈ pg_Ts := pg_inS (List.mem_of_getElem? (i := 26) (by decide +kernel)) rfl
theorem tw_562 : (Jvm.Cond.fieldLink "FixtureOrderModel" (190 : Nat) "FixtureOrderModel" "thenFixtures" "I") ∈ pg_Ts := pg_in (List.mem_of_getElem? (i := 562) (by decide +kernel)) rfl
theorem tw_744 : (Jvm.Cond.methodLink "FixtureOrderModel" (193 : Nat) ({ cls := "FixtureOrderModel", name := "lacking", desc := "(II)I" } : Jvm.MethodName)) ∈ pg_Ts := pg_in (List.mem_of_getElem? (i := 744) (by decide +kernel)) rfl
theorem tw_746 : (Jvm.Cond.instanceMethod ({ cls := "FixtureOrderModel", name := "lacking", desc := "(II)I" } : Jvm.MethodName)) ∈ pg_Ts := pg_in (List.mem_of_getElem? (i := 746) (by decide +kernel)) rfl
theorem ts_19 : Cond.selects "FixtureOrderModel" ⟨"FixtureOrderModel", "lacking", "(II)I"⟩ ⟨"FixtureOrderModel", "lacking", "(II)I"⟩ ∈ pg_Ts := pg_inS (List.mem_of_getElem? (i := 19) (by decide +kernel)) rfl
theorem tw_752 : (Jvm.Cond.methodLink "FixtureOrderModel" (196 : Nat) ({ cls := "FixtureOrderModel", name := "runCase", desc := "(II)V" } : Jvm.MethodName)) ∈ pg_Ts := pg_in (List.mem_of_getElem? (i := 752) (by decide +kernel)) rfl
theorem tw_754 : (Jvm.Cond.instanceMethod ({ cls := "FixtureOrderModel", name := "runCase", desc := "(II)V" } : Jvm.MethodName)) ∈ pg_Ts := pg_in (List.mem_of_getElem? (i := 754) (by decide +kernel)) rfl
theorem ts_21 : Cond.selects "FixtureOrderModel" ⟨"FixtureOrderModel", "runCase", "(II)V"⟩ ⟨"FixtureOrderModel", "runCase", "(II)V"⟩ ∈ pg_Ts := pg_inS (List.mem_of_getElem? (i := 21) (by decide +kernel)) rfl
theorem tw_108 : (Jvm.Cond.fieldLink "FixtureOrder$Case" (9 : Nat) "FixtureOrder$Case" "given" "[I") ∈ pg_Ts := pg_in (List.mem_of_getElem? (i := 108) (by decide +kernel)) rfl
theorem tw_104 : (Jvm.Cond.methodLink "FixtureOrder$Case" (3 : Nat) ({ cls := "java/lang/Object", name := "<init>", desc := "()V" } : Jvm.MethodName)) ∈ pg_Ts := pg_in (List.mem_of_getElem? (i := 104) (by decide +kernel)) rfl
theorem tw_173 : (Jvm.Cond.fieldLink "FixtureOrder$Case" (58 : Nat) "FixtureOrder$Fixture" "number" "I") ∈ pg_Ts := pg_in (List.mem_of_getElem? (i := 173) (by decide +kernel)) rfl
theorem tw_392 : (Jvm.Cond.methodLink "FixtureOrder$Case" (52 : Nat) ({ cls := "java/lang/Math", name := "max", desc := "(II)I" } : Jvm.MethodName)) ∈ pg_Ts := pg_in (List.mem_of_getElem? (i := 392) (by decide +kernel)) rfl
theorem tw_393 : (Jvm.Cond.static ({ cls := "java/lang/Math", name := "max", desc := "(II)I" } : Jvm.MethodName)) ∈ pg_Ts := pg_in (List.mem_of_getElem? (i := 393) (by decide +kernel)) rfl
theorem tw_5 : (Jvm.Cond.initialized "java/lang/Math") ∈ pg_Ts := pg_in (List.mem_of_getElem? (i := 5) (by decide +kernel)) rfl
theorem tw_394 : (Jvm.Cond.code ({ cls := "java/lang/Math", name := "max", desc := "(II)I" } : Jvm.MethodName) prog_11_method_65_code (2 : Nat) (Option.some Jvm.ClassFile.FieldType.int)) ∈ pg_Ts := pg_in (List.mem_of_getElem? (i := 394) (by decide +kernel)) rfl
theorem tw_185 : (Jvm.Cond.fieldLink "FixtureOrder$Case" (47 : Nat) "FixtureOrder$Fixture" "values" "I") ∈ pg_Ts := pg_in (List.mem_of_getElem? (i := 185) (by decide +kernel)) rfl
theorem tw_65 : (Jvm.Cond.fieldLink "FixtureOrder$Case" (43 : Nat) "FixtureOrder$Row" "held" "[LFixtureOrder$Fixture;") ∈ pg_Ts := pg_in (List.mem_of_getElem? (i := 65) (by decide +kernel)) rfl
theorem tw_68 : (Jvm.Cond.fieldLink "FixtureOrder$Case" (38 : Nat) "FixtureOrder$Row" "count" "I") ∈ pg_Ts := pg_in (List.mem_of_getElem? (i := 68) (by decide +kernel)) rfl
theorem tw_289 : (Jvm.Cond.fieldLink "FixtureOrder$Case" (32 : Nat) "FixtureOrder$Test" "closure" "LFixtureOrder$Row;") ∈ pg_Ts := pg_in (List.mem_of_getElem? (i := 289) (by decide +kernel)) rfl
theorem tw_389 : (Jvm.Cond.methodLink "FixtureOrder$Case" (26 : Nat) ({ cls := "java/util/Arrays", name := "fill", desc := "([II)V" } : Jvm.MethodName)) ∈ pg_Ts := pg_in (List.mem_of_getElem? (i := 389) (by decide +kernel)) rfl
theorem tw_11 : (Jvm.Cond.initialized "java/util/Arrays") ∈ pg_Ts := pg_in (List.mem_of_getElem? (i := 11) (by decide +kernel)) rfl
theorem tw_390 : (Jvm.Cond.static ({ cls := "java/util/Arrays", name := "fill", desc := "([II)V" } : Jvm.MethodName)) ∈ pg_Ts := pg_in (List.mem_of_getElem? (i := 390) (by decide +kernel)) rfl
theorem tw_110 : (Jvm.Cond.fieldLink "FixtureOrder$Case" (23 : Nat) "FixtureOrder$Case" "unmade" "I") ∈ pg_Ts := pg_in (List.mem_of_getElem? (i := 110) (by decide +kernel)) rfl
theorem tw_107 : (Jvm.Cond.fieldLink "FixtureOrder$Case" (19 : Nat) "FixtureOrder$Case" "number" "I") ∈ pg_Ts := pg_in (List.mem_of_getElem? (i := 107) (by decide +kernel)) rfl
theorem tw_105 : (Jvm.Cond.fieldLink "FixtureOrder$Case" (15 : Nat) "FixtureOrder$Case" "test" "LFixtureOrder$Test;") ∈ pg_Ts := pg_in (List.mem_of_getElem? (i := 105) (by decide +kernel)) rfl
theorem tw_196 : (Jvm.Cond.fieldLink "FixtureOrder$Case" (66 : Nat) "FixtureOrder$Fixture" "value" "I") ∈ pg_Ts := pg_in (List.mem_of_getElem? (i := 196) (by decide +kernel)) rfl
theorem tw_408 : (Jvm.Cond.methodLink "FixtureOrder$Case" (62 : Nat) ({ cls := "FixtureOrder$Fixture", name := "isMadeForAnother", desc := "(I)Z" } : Jvm.MethodName)) ∈ pg_Ts := pg_in (List.mem_of_getElem? (i := 408) (by decide +kernel)) rfl
theorem tw_409 : (Jvm.Cond.instanceMethod ({ cls := "FixtureOrder$Fixture", name := "isMadeForAnother", desc := "(I)Z" } : Jvm.MethodName)) ∈ pg_Ts := pg_in (List.mem_of_getElem? (i := 409) (by decide +kernel)) rfl
theorem tw_410 : (Jvm.Cond.selects "FixtureOrder$Fixture" ({ cls := "FixtureOrder$Fixture", name := "isMadeForAnother", desc := "(I)Z" } : Jvm.MethodName) ({ cls := "FixtureOrder$Fixture", name := "isMadeForAnother", desc := "(I)Z" } : Jvm.MethodName)) ∈ pg_Ts := pg_in (List.mem_of_getElem? (i := 410) (by decide +kernel)) rfl
theorem tw_284 : (Jvm.Cond.fieldLink "FixtureOrder$Case" (59 : Nat) "FixtureOrder$Test" "file" "I") ∈ pg_Ts := pg_in (List.mem_of_getElem? (i := 284) (by decide +kernel)) rfl
theorem tw_111 : (Jvm.Cond.fieldLink "FixtureOrder$Case" (75 : Nat) "FixtureOrder$Case" "suppressed" "I") ∈ pg_Ts := pg_in (List.mem_of_getElem? (i := 111) (by decide +kernel)) rfl
theorem tw_109 : (Jvm.Cond.fieldLink "FixtureOrder$Case" (72 : Nat) "FixtureOrder$Case" "outcome" "I") ∈ pg_Ts := pg_in (List.mem_of_getElem? (i := 109) (by decide +kernel)) rfl
theorem tw_112 : (Jvm.Cond.fieldLink "FixtureOrder$Case" (69 : Nat) "FixtureOrder$Case" "tries" "I") ∈ pg_Ts := pg_in (List.mem_of_getElem? (i := 112) (by decide +kernel)) rfl
theorem tw_282 : (Jvm.Cond.fieldLink "FixtureOrder$Case" (78 : Nat) "FixtureOrder$Test" "number" "I") ∈ pg_Ts := pg_in (List.mem_of_getElem? (i := 282) (by decide +kernel)) rfl
theorem tw_191 : (Jvm.Cond.fieldLink "FixtureOrder$Fixture" (36 : Nat) "FixtureOrder$Fixture" "needed" "LFixtureOrder$Row;") ∈ pg_Ts := pg_in (List.mem_of_getElem? (i := 191) (by decide +kernel)) rfl
theorem tw_171 : (Jvm.Cond.methodLink "FixtureOrder$Fixture" (33 : Nat) ({ cls := "FixtureOrder$Row", name := "<init>", desc := "(I)V" } : Jvm.MethodName)) ∈ pg_Ts := pg_in (List.mem_of_getElem? (i := 171) (by decide +kernel)) rfl
theorem tw_56 : (Jvm.Cond.instanceMethod ({ cls := "FixtureOrder$Row", name := "<init>", desc := "(I)V" } : Jvm.MethodName)) ∈ pg_Ts := pg_in (List.mem_of_getElem? (i := 56) (by decide +kernel)) rfl
theorem tw_170 : (Jvm.Cond.classLink "FixtureOrder$Fixture" (31 : Nat) "FixtureOrder$Row") ∈ pg_Ts := pg_in (List.mem_of_getElem? (i := 170) (by decide +kernel)) rfl
theorem tw_54 : (Jvm.Cond.instantiable "FixtureOrder$Row" (4 : Nat)) ∈ pg_Ts := pg_in (List.mem_of_getElem? (i := 54) (by decide +kernel)) rfl
theorem tw_189 : (Jvm.Cond.fieldLink "FixtureOrder$Fixture" (28 : Nat) "FixtureOrder$Fixture" "endFails" "Z") ∈ pg_Ts := pg_in (List.mem_of_getElem? (i := 189) (by decide +kernel)) rfl
theorem tw_187 : (Jvm.Cond.fieldLink "FixtureOrder$Fixture" (24 : Nat) "FixtureOrder$Fixture" "makeFails" "Z") ∈ pg_Ts := pg_in (List.mem_of_getElem? (i := 187) (by decide +kernel)) rfl
theorem tw_184 : (Jvm.Cond.fieldLink "FixtureOrder$Fixture" (21 : Nat) "FixtureOrder$Fixture" "values" "I") ∈ pg_Ts := pg_in (List.mem_of_getElem? (i := 184) (by decide +kernel)) rfl
theorem tw_181 : (Jvm.Cond.fieldLink "FixtureOrder$Fixture" (18 : Nat) "FixtureOrder$Fixture" "scope" "I") ∈ pg_Ts := pg_in (List.mem_of_getElem? (i := 181) (by decide +kernel)) rfl
theorem tw_176 : (Jvm.Cond.fieldLink "FixtureOrder$Fixture" (15 : Nat) "FixtureOrder$Fixture" "bit" "I") ∈ pg_Ts := pg_in (List.mem_of_getElem? (i := 176) (by decide +kernel)) rfl
theorem tw_172 : (Jvm.Cond.fieldLink "FixtureOrder$Fixture" (9 : Nat) "FixtureOrder$Fixture" "number" "I") ∈ pg_Ts := pg_in (List.mem_of_getElem? (i := 172) (by decide +kernel)) rfl
theorem tw_169 : (Jvm.Cond.methodLink "FixtureOrder$Fixture" (3 : Nat) ({ cls := "java/lang/Object", name := "<init>", desc := "()V" } : Jvm.MethodName)) ∈ pg_Ts := pg_in (List.mem_of_getElem? (i := 169) (by decide +kernel)) rfl
theorem tw_195 : (Jvm.Cond.fieldLink "FixtureOrder$Fixture" (40 : Nat) "FixtureOrder$Fixture" "neededBits" "I") ∈ pg_Ts := pg_in (List.mem_of_getElem? (i := 195) (by decide +kernel)) rfl
theorem tw_199 : (Jvm.Cond.fieldLink "FixtureOrder$Fixture" (43 : Nat) "FixtureOrder$Fixture" "file" "I") ∈ pg_Ts := pg_in (List.mem_of_getElem? (i := 199) (by decide +kernel)) rfl
theorem tw_204 : (Jvm.Cond.fieldLink "FixtureOrder$Fixture" (55 : Nat) "FixtureOrder$Fixture" "timesLeaked" "I") ∈ pg_Ts := pg_in (List.mem_of_getElem? (i := 204) (by decide +kernel)) rfl
theorem tw_203 : (Jvm.Cond.fieldLink "FixtureOrder$Fixture" (52 : Nat) "FixtureOrder$Fixture" "timesEnded" "I") ∈ pg_Ts := pg_in (List.mem_of_getElem? (i := 203) (by decide +kernel)) rfl
theorem tw_202 : (Jvm.Cond.fieldLink "FixtureOrder$Fixture" (49 : Nat) "FixtureOrder$Fixture" "timesMade" "I") ∈ pg_Ts := pg_in (List.mem_of_getElem? (i := 202) (by decide +kernel)) rfl
theorem tw_200 : (Jvm.Cond.fieldLink "FixtureOrder$Fixture" (46 : Nat) "FixtureOrder$Fixture" "failedValueBits" "I") ∈ pg_Ts := pg_in (List.mem_of_getElem? (i := 200) (by decide +kernel)) rfl
theorem tw_197 : (Jvm.Cond.fieldLink "FixtureOrder$Fixture" (58 : Nat) "FixtureOrder$Fixture" "value" "I") ∈ pg_Ts := pg_in (List.mem_of_getElem? (i := 197) (by decide +kernel)) rfl
theorem tw_201 : (Jvm.Cond.fieldLink "FixtureOrder$Fixture" (61 : Nat) "FixtureOrder$Fixture" "failedFile" "I") ∈ pg_Ts := pg_in (List.mem_of_getElem? (i := 201) (by decide +kernel)) rfl
theorem tw_89 : (Jvm.Cond.fieldLink "FixtureOrder$Log" (9 : Nat) "FixtureOrder$Log" "packed" "[I") ∈ pg_Ts := pg_in (List.mem_of_getElem? (i := 89) (by decide +kernel)) rfl
theorem tw_88 : (Jvm.Cond.methodLink "FixtureOrder$Log" (3 : Nat) ({ cls := "java/lang/Object", name := "<init>", desc := "()V" } : Jvm.MethodName)) ∈ pg_Ts := pg_in (List.mem_of_getElem? (i := 88) (by decide +kernel)) rfl
theorem tw_90 : (Jvm.Cond.fieldLink "FixtureOrder$Log" (15 : Nat) "FixtureOrder$Log" "count" "I") ∈ pg_Ts := pg_in (List.mem_of_getElem? (i := 90) (by decide +kernel)) rfl
theorem tw_73 : (Jvm.Cond.fieldLink "FixtureOrder$Row" (23 : Nat) "FixtureOrder$Row" "most" "I") ∈ pg_Ts := pg_in (List.mem_of_getElem? (i := 73) (by decide +kernel)) rfl
theorem tw_60 : (Jvm.Cond.methodLink "FixtureOrder$Row" (17 : Nat) ({ cls := "java/lang/Math", name := "min", desc := "(II)I" } : Jvm.MethodName)) ∈ pg_Ts := pg_in (List.mem_of_getElem? (i := 60) (by decide +kernel)) rfl
theorem tw_61 : (Jvm.Cond.static ({ cls := "java/lang/Math", name := "min", desc := "(II)I" } : Jvm.MethodName)) ∈ pg_Ts := pg_in (List.mem_of_getElem? (i := 61) (by decide +kernel)) rfl
theorem tw_62 : (Jvm.Cond.code ({ cls := "java/lang/Math", name := "min", desc := "(II)I" } : Jvm.MethodName) prog_11_method_69_code (2 : Nat) (Option.some Jvm.ClassFile.FieldType.int)) ∈ pg_Ts := pg_in (List.mem_of_getElem? (i := 62) (by decide +kernel)) rfl
theorem tw_63 : (Jvm.Cond.fieldLink "FixtureOrder$Row" (11 : Nat) "FixtureOrder$Row" "held" "[LFixtureOrder$Fixture;") ∈ pg_Ts := pg_in (List.mem_of_getElem? (i := 63) (by decide +kernel)) rfl
theorem tw_59 : (Jvm.Cond.classLink "FixtureOrder$Row" (9 : Nat) "FixtureOrder$Fixture") ∈ pg_Ts := pg_in (List.mem_of_getElem? (i := 59) (by decide +kernel)) rfl
theorem tw_58 : (Jvm.Cond.methodLink "FixtureOrder$Row" (3 : Nat) ({ cls := "java/lang/Object", name := "<init>", desc := "()V" } : Jvm.MethodName)) ∈ pg_Ts := pg_in (List.mem_of_getElem? (i := 58) (by decide +kernel)) rfl
theorem tw_177 : (Jvm.Cond.fieldLink "FixtureOrder$Row" (30 : Nat) "FixtureOrder$Fixture" "bit" "I") ∈ pg_Ts := pg_in (List.mem_of_getElem? (i := 177) (by decide +kernel)) rfl
theorem tw_71 : (Jvm.Cond.fieldLink "FixtureOrder$Row" (27 : Nat) "FixtureOrder$Row" "bits" "I") ∈ pg_Ts := pg_in (List.mem_of_getElem? (i := 71) (by decide +kernel)) rfl
theorem tw_69 : (Jvm.Cond.fieldLink "FixtureOrder$Row" (33 : Nat) "FixtureOrder$Row" "count" "I") ∈ pg_Ts := pg_in (List.mem_of_getElem? (i := 69) (by decide +kernel)) rfl
theorem tw_260 : (Jvm.Cond.methodLink "FixtureOrder$Row" (36 : Nat) ({ cls := "FixtureOrder$Row", name := "canTake", desc := "(LFixtureOrder$Fixture;)Z" } : Jvm.MethodName)) ∈ pg_Ts := pg_in (List.mem_of_getElem? (i := 260) (by decide +kernel)) rfl
theorem tw_102 : (Jvm.Cond.instanceMethod ({ cls := "FixtureOrder$Case", name := "<init>", desc := "()V" } : Jvm.MethodName)) ∈ pg_Ts := pg_in (List.mem_of_getElem? (i := 102) (by decide +kernel)) rfl
theorem tw_98 : (Jvm.Cond.classLink "FixtureOrder$Runner" (27 : Nat) "FixtureOrder$Case") ∈ pg_Ts := pg_in (List.mem_of_getElem? (i := 98) (by decide +kernel)) rfl
theorem tw_100 : (Jvm.Cond.instantiable "FixtureOrder$Case" (7 : Nat)) ∈ pg_Ts := pg_in (List.mem_of_getElem? (i := 100) (by decide +kernel)) rfl
theorem tw_131 : (Jvm.Cond.fieldLink "FixtureOrder$Runner" (29 : Nat) "FixtureOrder$Runner" "cases" "[LFixtureOrder$Case;") ∈ pg_Ts := pg_in (List.mem_of_getElem? (i := 131) (by decide +kernel)) rfl
theorem tw_129 : (Jvm.Cond.fieldLink "FixtureOrder$Runner" (23 : Nat) "FixtureOrder$Runner" "log" "LFixtureOrder$Log;") ∈ pg_Ts := pg_in (List.mem_of_getElem? (i := 129) (by decide +kernel)) rfl
theorem tw_86 : (Jvm.Cond.instanceMethod ({ cls := "FixtureOrder$Log", name := "<init>", desc := "()V" } : Jvm.MethodName)) ∈ pg_Ts := pg_in (List.mem_of_getElem? (i := 86) (by decide +kernel)) rfl
theorem tw_83 : (Jvm.Cond.classLink "FixtureOrder$Runner" (20 : Nat) "FixtureOrder$Log") ∈ pg_Ts := pg_in (List.mem_of_getElem? (i := 83) (by decide +kernel)) rfl
theorem tw_84 : (Jvm.Cond.instantiable "FixtureOrder$Log" (2 : Nat)) ∈ pg_Ts := pg_in (List.mem_of_getElem? (i := 84) (by decide +kernel)) rfl
theorem tw_128 : (Jvm.Cond.fieldLink "FixtureOrder$Runner" (14 : Nat) "FixtureOrder$Runner" "made" "LFixtureOrder$Row;") ∈ pg_Ts := pg_in (List.mem_of_getElem? (i := 128) (by decide +kernel)) rfl
theorem tw_55 : (Jvm.Cond.methodLink "FixtureOrder$Runner" (11 : Nat) ({ cls := "FixtureOrder$Row", name := "<init>", desc := "(I)V" } : Jvm.MethodName)) ∈ pg_Ts := pg_in (List.mem_of_getElem? (i := 55) (by decide +kernel)) rfl
theorem tw_53 : (Jvm.Cond.classLink "FixtureOrder$Runner" (9 : Nat) "FixtureOrder$Row") ∈ pg_Ts := pg_in (List.mem_of_getElem? (i := 53) (by decide +kernel)) rfl
theorem tw_52 : (Jvm.Cond.methodLink "FixtureOrder$Runner" (3 : Nat) ({ cls := "java/lang/Object", name := "<init>", desc := "()V" } : Jvm.MethodName)) ∈ pg_Ts := pg_in (List.mem_of_getElem? (i := 52) (by decide +kernel)) rfl
theorem tw_132 : (Jvm.Cond.fieldLink "FixtureOrder$Runner" (34 : Nat) "FixtureOrder$Runner" "caseCount" "I") ∈ pg_Ts := pg_in (List.mem_of_getElem? (i := 132) (by decide +kernel)) rfl
theorem tw_425 : (Jvm.Cond.methodLink "FixtureOrder$Runner" (60 : Nat) ({ cls := "FixtureOrder$Runner", name := "endMade", desc := "(I)I" } : Jvm.MethodName)) ∈ pg_Ts := pg_in (List.mem_of_getElem? (i := 425) (by decide +kernel)) rfl
theorem tw_427 : (Jvm.Cond.instanceMethod ({ cls := "FixtureOrder$Runner", name := "endMade", desc := "(I)I" } : Jvm.MethodName)) ∈ pg_Ts := pg_in (List.mem_of_getElem? (i := 427) (by decide +kernel)) rfl
theorem ts_7 : Cond.selects "FixtureOrder$Runner" ⟨"FixtureOrder$Runner", "endMade", "(I)I"⟩ ⟨"FixtureOrder$Runner", "endMade", "(I)I"⟩ ∈ pg_Ts := pg_inS (List.mem_of_getElem? (i := 7) (by decide +kernel)) rfl
theorem tw_72 : (Jvm.Cond.fieldLink "FixtureOrder$Runner" (57 : Nat) "FixtureOrder$Row" "bits" "I") ∈ pg_Ts := pg_in (List.mem_of_getElem? (i := 72) (by decide +kernel)) rfl
theorem tw_416 : (Jvm.Cond.methodLink "FixtureOrder$Runner" (53 : Nat) ({ cls := "FixtureOrder$Runner", name := "takeCase", desc := "(LFixtureOrder$Suite;LFixtureOrder$Case;I)V" } : Jvm.MethodName)) ∈ pg_Ts := pg_in (List.mem_of_getElem? (i := 416) (by decide +kernel)) rfl
theorem tw_418 : (Jvm.Cond.instanceMethod ({ cls := "FixtureOrder$Runner", name := "takeCase", desc := "(LFixtureOrder$Suite;LFixtureOrder$Case;I)V" } : Jvm.MethodName)) ∈ pg_Ts := pg_in (List.mem_of_getElem? (i := 418) (by decide +kernel)) rfl
theorem ts_5 : Cond.selects "FixtureOrder$Runner" ⟨"FixtureOrder$Runner", "takeCase", "(LFixtureOrder$Suite;LFixtureOrder$Case;I)V"⟩ ⟨"FixtureOrder$Runner", "takeCase", "(LFixtureOrder$Suite;LFixtureOrder$Case;I)V"⟩ ∈ pg_Ts := pg_inS (List.mem_of_getElem? (i := 5) (by decide +kernel)) rfl
theorem tw_412 : (Jvm.Cond.methodLink "FixtureOrder$Runner" (49 : Nat) ({ cls := "FixtureOrder$Runner", name := "bringForward", desc := "(II)V" } : Jvm.MethodName)) ∈ pg_Ts := pg_in (List.mem_of_getElem? (i := 412) (by decide +kernel)) rfl
theorem tw_414 : (Jvm.Cond.instanceMethod ({ cls := "FixtureOrder$Runner", name := "bringForward", desc := "(II)V" } : Jvm.MethodName)) ∈ pg_Ts := pg_in (List.mem_of_getElem? (i := 414) (by decide +kernel)) rfl
theorem ts_4 : Cond.selects "FixtureOrder$Runner" ⟨"FixtureOrder$Runner", "bringForward", "(II)V"⟩ ⟨"FixtureOrder$Runner", "bringForward", "(II)V"⟩ ∈ pg_Ts := pg_inS (List.mem_of_getElem? (i := 4) (by decide +kernel)) rfl
theorem tw_395 : (Jvm.Cond.methodLink "FixtureOrder$Runner" (45 : Nat) ({ cls := "FixtureOrder$Runner", name := "placeOfFewestUnmade", desc := "(I)I" } : Jvm.MethodName)) ∈ pg_Ts := pg_in (List.mem_of_getElem? (i := 395) (by decide +kernel)) rfl
theorem tw_397 : (Jvm.Cond.instanceMethod ({ cls := "FixtureOrder$Runner", name := "placeOfFewestUnmade", desc := "(I)I" } : Jvm.MethodName)) ∈ pg_Ts := pg_in (List.mem_of_getElem? (i := 397) (by decide +kernel)) rfl
theorem ts_2 : Cond.selects "FixtureOrder$Runner" ⟨"FixtureOrder$Runner", "placeOfFewestUnmade", "(I)I"⟩ ⟨"FixtureOrder$Runner", "placeOfFewestUnmade", "(I)I"⟩ ∈ pg_Ts := pg_inS (List.mem_of_getElem? (i := 2) (by decide +kernel)) rfl
theorem tw_380 : (Jvm.Cond.methodLink "FixtureOrder$Runner" (42 : Nat) ({ cls := "FixtureOrder$Runner", name := "listCases", desc := "(LFixtureOrder$Suite;)V" } : Jvm.MethodName)) ∈ pg_Ts := pg_in (List.mem_of_getElem? (i := 380) (by decide +kernel)) rfl
theorem tw_382 : (Jvm.Cond.instanceMethod ({ cls := "FixtureOrder$Runner", name := "listCases", desc := "(LFixtureOrder$Suite;)V" } : Jvm.MethodName)) ∈ pg_Ts := pg_in (List.mem_of_getElem? (i := 382) (by decide +kernel)) rfl
theorem ts_1 : Cond.selects "FixtureOrder$Runner" ⟨"FixtureOrder$Runner", "listCases", "(LFixtureOrder$Suite;)V"⟩ ⟨"FixtureOrder$Runner", "listCases", "(LFixtureOrder$Suite;)V"⟩ ∈ pg_Ts := pg_inS (List.mem_of_getElem? (i := 1) (by decide +kernel)) rfl
theorem tw_367 : (Jvm.Cond.methodLink "FixtureOrder$Runner" (38 : Nat) ({ cls := "FixtureOrder$Runner", name := "startRun", desc := "(LFixtureOrder$Suite;)V" } : Jvm.MethodName)) ∈ pg_Ts := pg_in (List.mem_of_getElem? (i := 367) (by decide +kernel)) rfl
theorem tw_369 : (Jvm.Cond.instanceMethod ({ cls := "FixtureOrder$Runner", name := "startRun", desc := "(LFixtureOrder$Suite;)V" } : Jvm.MethodName)) ∈ pg_Ts := pg_in (List.mem_of_getElem? (i := 369) (by decide +kernel)) rfl
theorem ts_0 : Cond.selects "FixtureOrder$Runner" ⟨"FixtureOrder$Runner", "startRun", "(LFixtureOrder$Suite;)V"⟩ ⟨"FixtureOrder$Runner", "startRun", "(LFixtureOrder$Suite;)V"⟩ ∈ pg_Ts := pg_inS (List.mem_of_getElem? (i := 0) (by decide +kernel)) rfl
theorem tw_376 : (Jvm.Cond.methodLink "FixtureOrder$Runner" (79 : Nat) ({ cls := "FixtureOrder$Fixture", name := "startRun", desc := "()V" } : Jvm.MethodName)) ∈ pg_Ts := pg_in (List.mem_of_getElem? (i := 376) (by decide +kernel)) rfl
theorem tw_377 : (Jvm.Cond.instanceMethod ({ cls := "FixtureOrder$Fixture", name := "startRun", desc := "()V" } : Jvm.MethodName)) ∈ pg_Ts := pg_in (List.mem_of_getElem? (i := 377) (by decide +kernel)) rfl
theorem tw_378 : (Jvm.Cond.selects "FixtureOrder$Fixture" ({ cls := "FixtureOrder$Fixture", name := "startRun", desc := "()V" } : Jvm.MethodName) ({ cls := "FixtureOrder$Fixture", name := "startRun", desc := "()V" } : Jvm.MethodName)) ∈ pg_Ts := pg_in (List.mem_of_getElem? (i := 378) (by decide +kernel)) rfl
theorem tw_31 : (Jvm.Cond.fieldLink "FixtureOrder$Runner" (75 : Nat) "FixtureOrder$Suite" "fixtures" "[LFixtureOrder$Fixture;") ∈ pg_Ts := pg_in (List.mem_of_getElem? (i := 31) (by decide +kernel)) rfl
theorem tw_134 : (Jvm.Cond.fieldLink "FixtureOrder$Runner" (72 : Nat) "FixtureOrder$Runner" "fixturesInRun" "I") ∈ pg_Ts := pg_in (List.mem_of_getElem? (i := 134) (by decide +kernel)) rfl
theorem tw_33 : (Jvm.Cond.fieldLink "FixtureOrder$Runner" (67 : Nat) "FixtureOrder$Suite" "fixtureCount" "I") ∈ pg_Ts := pg_in (List.mem_of_getElem? (i := 33) (by decide +kernel)) rfl
theorem tw_375 : (Jvm.Cond.methodLink "FixtureOrder$Runner" (66 : Nat) ({ cls := "FixtureOrder$Row", name := "clear", desc := "()V" } : Jvm.MethodName)) ∈ pg_Ts := pg_in (List.mem_of_getElem? (i := 375) (by decide +kernel)) rfl
theorem tw_351 : (Jvm.Cond.instanceMethod ({ cls := "FixtureOrder$Row", name := "clear", desc := "()V" } : Jvm.MethodName)) ∈ pg_Ts := pg_in (List.mem_of_getElem? (i := 351) (by decide +kernel)) rfl
theorem tw_352 : (Jvm.Cond.selects "FixtureOrder$Row" ({ cls := "FixtureOrder$Row", name := "clear", desc := "()V" } : Jvm.MethodName) ({ cls := "FixtureOrder$Row", name := "clear", desc := "()V" } : Jvm.MethodName)) ∈ pg_Ts := pg_in (List.mem_of_getElem? (i := 352) (by decide +kernel)) rfl
theorem tw_371 : (Jvm.Cond.methodLink "FixtureOrder$Runner" (63 : Nat) ({ cls := "FixtureOrder$Log", name := "clear", desc := "()V" } : Jvm.MethodName)) ∈ pg_Ts := pg_in (List.mem_of_getElem? (i := 371) (by decide +kernel)) rfl
theorem tw_372 : (Jvm.Cond.instanceMethod ({ cls := "FixtureOrder$Log", name := "clear", desc := "()V" } : Jvm.MethodName)) ∈ pg_Ts := pg_in (List.mem_of_getElem? (i := 372) (by decide +kernel)) rfl
theorem tw_373 : (Jvm.Cond.selects "FixtureOrder$Log" ({ cls := "FixtureOrder$Log", name := "clear", desc := "()V" } : Jvm.MethodName) ({ cls := "FixtureOrder$Log", name := "clear", desc := "()V" } : Jvm.MethodName)) ∈ pg_Ts := pg_in (List.mem_of_getElem? (i := 373) (by decide +kernel)) rfl
theorem tw_385 : (Jvm.Cond.methodLink "FixtureOrder$Runner" (96 : Nat) ({ cls := "FixtureOrder$Case", name := "begin", desc := "(LFixtureOrder$Test;I)V" } : Jvm.MethodName)) ∈ pg_Ts := pg_in (List.mem_of_getElem? (i := 385) (by decide +kernel)) rfl
theorem tw_386 : (Jvm.Cond.instanceMethod ({ cls := "FixtureOrder$Case", name := "begin", desc := "(LFixtureOrder$Test;I)V" } : Jvm.MethodName)) ∈ pg_Ts := pg_in (List.mem_of_getElem? (i := 386) (by decide +kernel)) rfl
theorem tw_387 : (Jvm.Cond.selects "FixtureOrder$Case" ({ cls := "FixtureOrder$Case", name := "begin", desc := "(LFixtureOrder$Test;I)V" } : Jvm.MethodName) ({ cls := "FixtureOrder$Case", name := "begin", desc := "(LFixtureOrder$Test;I)V" } : Jvm.MethodName)) ∈ pg_Ts := pg_in (List.mem_of_getElem? (i := 387) (by decide +kernel)) rfl
theorem tw_384 : (Jvm.Cond.methodLink "FixtureOrder$Runner" (90 : Nat) ({ cls := "FixtureOrder$Test", name := "countCases", desc := "()I" } : Jvm.MethodName)) ∈ pg_Ts := pg_in (List.mem_of_getElem? (i := 384) (by decide +kernel)) rfl
theorem tw_35 : (Jvm.Cond.fieldLink "FixtureOrder$Runner" (86 : Nat) "FixtureOrder$Suite" "tests" "[LFixtureOrder$Test;") ∈ pg_Ts := pg_in (List.mem_of_getElem? (i := 35) (by decide +kernel)) rfl
theorem tw_37 : (Jvm.Cond.fieldLink "FixtureOrder$Runner" (83 : Nat) "FixtureOrder$Suite" "testCount" "I") ∈ pg_Ts := pg_in (List.mem_of_getElem? (i := 37) (by decide +kernel)) rfl
theorem tw_399 : (Jvm.Cond.methodLink "FixtureOrder$Runner" (100 : Nat) ({ cls := "FixtureOrder$Runner", name := "countUnmade", desc := "(LFixtureOrder$Case;)I" } : Jvm.MethodName)) ∈ pg_Ts := pg_in (List.mem_of_getElem? (i := 399) (by decide +kernel)) rfl
theorem tw_401 : (Jvm.Cond.instanceMethod ({ cls := "FixtureOrder$Runner", name := "countUnmade", desc := "(LFixtureOrder$Case;)I" } : Jvm.MethodName)) ∈ pg_Ts := pg_in (List.mem_of_getElem? (i := 401) (by decide +kernel)) rfl
theorem ts_3 : Cond.selects "FixtureOrder$Runner" ⟨"FixtureOrder$Runner", "countUnmade", "(LFixtureOrder$Case;)I"⟩ ⟨"FixtureOrder$Runner", "countUnmade", "(LFixtureOrder$Case;)I"⟩ ∈ pg_Ts := pg_inS (List.mem_of_getElem? (i := 3) (by decide +kernel)) rfl
theorem tw_404 : (Jvm.Cond.methodLink "FixtureOrder$Runner" (121 : Nat) ({ cls := "FixtureOrder$Case", name := "leavesStanding", desc := "(LFixtureOrder$Fixture;)Z" } : Jvm.MethodName)) ∈ pg_Ts := pg_in (List.mem_of_getElem? (i := 404) (by decide +kernel)) rfl
theorem tw_405 : (Jvm.Cond.instanceMethod ({ cls := "FixtureOrder$Case", name := "leavesStanding", desc := "(LFixtureOrder$Fixture;)Z" } : Jvm.MethodName)) ∈ pg_Ts := pg_in (List.mem_of_getElem? (i := 405) (by decide +kernel)) rfl
theorem tw_406 : (Jvm.Cond.selects "FixtureOrder$Case" ({ cls := "FixtureOrder$Case", name := "leavesStanding", desc := "(LFixtureOrder$Fixture;)Z" } : Jvm.MethodName) ({ cls := "FixtureOrder$Case", name := "leavesStanding", desc := "(LFixtureOrder$Fixture;)Z" } : Jvm.MethodName)) ∈ pg_Ts := pg_in (List.mem_of_getElem? (i := 406) (by decide +kernel)) rfl
theorem tw_403 : (Jvm.Cond.methodLink "FixtureOrder$Runner" (117 : Nat) ({ cls := "FixtureOrder$Row", name := "holds", desc := "(LFixtureOrder$Fixture;)Z" } : Jvm.MethodName)) ∈ pg_Ts := pg_in (List.mem_of_getElem? (i := 403) (by decide +kernel)) rfl
theorem tw_358 : (Jvm.Cond.instanceMethod ({ cls := "FixtureOrder$Row", name := "holds", desc := "(LFixtureOrder$Fixture;)Z" } : Jvm.MethodName)) ∈ pg_Ts := pg_in (List.mem_of_getElem? (i := 358) (by decide +kernel)) rfl
theorem tw_359 : (Jvm.Cond.selects "FixtureOrder$Row" ({ cls := "FixtureOrder$Row", name := "holds", desc := "(LFixtureOrder$Fixture;)Z" } : Jvm.MethodName) ({ cls := "FixtureOrder$Row", name := "holds", desc := "(LFixtureOrder$Fixture;)Z" } : Jvm.MethodName)) ∈ pg_Ts := pg_in (List.mem_of_getElem? (i := 359) (by decide +kernel)) rfl
theorem tw_66 : (Jvm.Cond.fieldLink "FixtureOrder$Runner" (114 : Nat) "FixtureOrder$Row" "held" "[LFixtureOrder$Fixture;") ∈ pg_Ts := pg_in (List.mem_of_getElem? (i := 66) (by decide +kernel)) rfl
theorem tw_70 : (Jvm.Cond.fieldLink "FixtureOrder$Runner" (111 : Nat) "FixtureOrder$Row" "count" "I") ∈ pg_Ts := pg_in (List.mem_of_getElem? (i := 70) (by decide +kernel)) rfl
theorem tw_290 : (Jvm.Cond.fieldLink "FixtureOrder$Runner" (108 : Nat) "FixtureOrder$Test" "closure" "LFixtureOrder$Row;") ∈ pg_Ts := pg_in (List.mem_of_getElem? (i := 290) (by decide +kernel)) rfl
theorem tw_106 : (Jvm.Cond.fieldLink "FixtureOrder$Runner" (104 : Nat) "FixtureOrder$Case" "test" "LFixtureOrder$Test;") ∈ pg_Ts := pg_in (List.mem_of_getElem? (i := 106) (by decide +kernel)) rfl
theorem tw_482 : (Jvm.Cond.methodLink "FixtureOrder$Runner" (140 : Nat) ({ cls := "FixtureOrder$Runner", name := "bitsOfCaseScope", desc := "()I" } : Jvm.MethodName)) ∈ pg_Ts := pg_in (List.mem_of_getElem? (i := 482) (by decide +kernel)) rfl
theorem tw_484 : (Jvm.Cond.instanceMethod ({ cls := "FixtureOrder$Runner", name := "bitsOfCaseScope", desc := "()I" } : Jvm.MethodName)) ∈ pg_Ts := pg_in (List.mem_of_getElem? (i := 484) (by decide +kernel)) rfl
theorem ts_10 : Cond.selects "FixtureOrder$Runner" ⟨"FixtureOrder$Runner", "bitsOfCaseScope", "()I"⟩ ⟨"FixtureOrder$Runner", "bitsOfCaseScope", "()I"⟩ ∈ pg_Ts := pg_inS (List.mem_of_getElem? (i := 10) (by decide +kernel)) rfl
theorem tw_449 : (Jvm.Cond.methodLink "FixtureOrder$Runner" (136 : Nat) ({ cls := "FixtureOrder$Runner", name := "tryCase", desc := "(LFixtureOrder$Case;II)I" } : Jvm.MethodName)) ∈ pg_Ts := pg_in (List.mem_of_getElem? (i := 449) (by decide +kernel)) rfl
theorem tw_451 : (Jvm.Cond.instanceMethod ({ cls := "FixtureOrder$Runner", name := "tryCase", desc := "(LFixtureOrder$Case;II)I" } : Jvm.MethodName)) ∈ pg_Ts := pg_in (List.mem_of_getElem? (i := 451) (by decide +kernel)) rfl
theorem ts_8 : Cond.selects "FixtureOrder$Runner" ⟨"FixtureOrder$Runner", "tryCase", "(LFixtureOrder$Case;II)I"⟩ ⟨"FixtureOrder$Runner", "tryCase", "(LFixtureOrder$Case;II)I"⟩ ∈ pg_Ts := pg_inS (List.mem_of_getElem? (i := 8) (by decide +kernel)) rfl
theorem tw_299 : (Jvm.Cond.fieldLink "FixtureOrder$Runner" (133 : Nat) "FixtureOrder$Test" "retries" "I") ∈ pg_Ts := pg_in (List.mem_of_getElem? (i := 299) (by decide +kernel)) rfl
theorem tw_441 : (Jvm.Cond.methodLink "FixtureOrder$Runner" (130 : Nat) ({ cls := "FixtureOrder$Suite", name := "forgetFailuresOfOtherFiles", desc := "(I)V" } : Jvm.MethodName)) ∈ pg_Ts := pg_in (List.mem_of_getElem? (i := 441) (by decide +kernel)) rfl
theorem tw_442 : (Jvm.Cond.instanceMethod ({ cls := "FixtureOrder$Suite", name := "forgetFailuresOfOtherFiles", desc := "(I)V" } : Jvm.MethodName)) ∈ pg_Ts := pg_in (List.mem_of_getElem? (i := 442) (by decide +kernel)) rfl
theorem tw_443 : (Jvm.Cond.selects "FixtureOrder$Suite" ({ cls := "FixtureOrder$Suite", name := "forgetFailuresOfOtherFiles", desc := "(I)V" } : Jvm.MethodName) ({ cls := "FixtureOrder$Suite", name := "forgetFailuresOfOtherFiles", desc := "(I)V" } : Jvm.MethodName)) ∈ pg_Ts := pg_in (List.mem_of_getElem? (i := 443) (by decide +kernel)) rfl
theorem tw_285 : (Jvm.Cond.fieldLink "FixtureOrder$Runner" (127 : Nat) "FixtureOrder$Test" "file" "I") ∈ pg_Ts := pg_in (List.mem_of_getElem? (i := 285) (by decide +kernel)) rfl
theorem tw_420 : (Jvm.Cond.methodLink "FixtureOrder$Runner" (124 : Nat) ({ cls := "FixtureOrder$Runner", name := "bitsThatCannotStay", desc := "(LFixtureOrder$Case;)I" } : Jvm.MethodName)) ∈ pg_Ts := pg_in (List.mem_of_getElem? (i := 420) (by decide +kernel)) rfl
theorem tw_422 : (Jvm.Cond.instanceMethod ({ cls := "FixtureOrder$Runner", name := "bitsThatCannotStay", desc := "(LFixtureOrder$Case;)I" } : Jvm.MethodName)) ∈ pg_Ts := pg_in (List.mem_of_getElem? (i := 422) (by decide +kernel)) rfl
theorem ts_6 : Cond.selects "FixtureOrder$Runner" ⟨"FixtureOrder$Runner", "bitsThatCannotStay", "(LFixtureOrder$Case;)I"⟩ ⟨"FixtureOrder$Runner", "bitsThatCannotStay", "(LFixtureOrder$Case;)I"⟩ ∈ pg_Ts := pg_inS (List.mem_of_getElem? (i := 6) (by decide +kernel)) rfl
theorem tw_486 : (Jvm.Cond.methodLink "FixtureOrder$Runner" (143 : Nat) ({ cls := "FixtureOrder$Case", name := "finish", desc := "(IIIZ)V" } : Jvm.MethodName)) ∈ pg_Ts := pg_in (List.mem_of_getElem? (i := 486) (by decide +kernel)) rfl
theorem tw_487 : (Jvm.Cond.instanceMethod ({ cls := "FixtureOrder$Case", name := "finish", desc := "(IIIZ)V" } : Jvm.MethodName)) ∈ pg_Ts := pg_in (List.mem_of_getElem? (i := 487) (by decide +kernel)) rfl
theorem tw_488 : (Jvm.Cond.selects "FixtureOrder$Case" ({ cls := "FixtureOrder$Case", name := "finish", desc := "(IIIZ)V" } : Jvm.MethodName) ({ cls := "FixtureOrder$Case", name := "finish", desc := "(IIIZ)V" } : Jvm.MethodName)) ∈ pg_Ts := pg_in (List.mem_of_getElem? (i := 488) (by decide +kernel)) rfl
theorem tw_180 : (Jvm.Cond.fieldLink "FixtureOrder$Runner" (147 : Nat) "FixtureOrder$Fixture" "bit" "I") ∈ pg_Ts := pg_in (List.mem_of_getElem? (i := 180) (by decide +kernel)) rfl
theorem tw_424 : (Jvm.Cond.methodLink "FixtureOrder$Runner" (150 : Nat) ({ cls := "FixtureOrder$Fixture", name := "dependsOnAny", desc := "(I)Z" } : Jvm.MethodName)) ∈ pg_Ts := pg_in (List.mem_of_getElem? (i := 424) (by decide +kernel)) rfl
theorem tw_183 : (Jvm.Cond.fieldLink "FixtureOrder$Runner" (154 : Nat) "FixtureOrder$Fixture" "scope" "I") ∈ pg_Ts := pg_in (List.mem_of_getElem? (i := 183) (by decide +kernel)) rfl
theorem tw_437 : (Jvm.Cond.methodLink "FixtureOrder$Runner" (165 : Nat) ({ cls := "FixtureOrder$Log", name := "add", desc := "(III)V" } : Jvm.MethodName)) ∈ pg_Ts := pg_in (List.mem_of_getElem? (i := 437) (by decide +kernel)) rfl
theorem tw_438 : (Jvm.Cond.instanceMethod ({ cls := "FixtureOrder$Log", name := "add", desc := "(III)V" } : Jvm.MethodName)) ∈ pg_Ts := pg_in (List.mem_of_getElem? (i := 438) (by decide +kernel)) rfl
theorem tw_439 : (Jvm.Cond.selects "FixtureOrder$Log" ({ cls := "FixtureOrder$Log", name := "add", desc := "(III)V" } : Jvm.MethodName) ({ cls := "FixtureOrder$Log", name := "add", desc := "(III)V" } : Jvm.MethodName)) ∈ pg_Ts := pg_in (List.mem_of_getElem? (i := 439) (by decide +kernel)) rfl
theorem tw_474 : (Jvm.Cond.methodLink "FixtureOrder$Runner" (161 : Nat) ({ cls := "FixtureOrder$Case", name := "noteUnmade", desc := "(LFixtureOrder$Fixture;)V" } : Jvm.MethodName)) ∈ pg_Ts := pg_in (List.mem_of_getElem? (i := 474) (by decide +kernel)) rfl
theorem tw_475 : (Jvm.Cond.instanceMethod ({ cls := "FixtureOrder$Case", name := "noteUnmade", desc := "(LFixtureOrder$Fixture;)V" } : Jvm.MethodName)) ∈ pg_Ts := pg_in (List.mem_of_getElem? (i := 475) (by decide +kernel)) rfl
theorem tw_476 : (Jvm.Cond.selects "FixtureOrder$Case" ({ cls := "FixtureOrder$Case", name := "noteUnmade", desc := "(LFixtureOrder$Fixture;)V" } : Jvm.MethodName) ({ cls := "FixtureOrder$Case", name := "noteUnmade", desc := "(LFixtureOrder$Fixture;)V" } : Jvm.MethodName)) ∈ pg_Ts := pg_in (List.mem_of_getElem? (i := 476) (by decide +kernel)) rfl
theorem tw_453 : (Jvm.Cond.methodLink "FixtureOrder$Runner" (157 : Nat) ({ cls := "FixtureOrder$Runner", name := "make", desc := "(LFixtureOrder$Fixture;LFixtureOrder$Case;)Z" } : Jvm.MethodName)) ∈ pg_Ts := pg_in (List.mem_of_getElem? (i := 453) (by decide +kernel)) rfl
theorem tw_455 : (Jvm.Cond.instanceMethod ({ cls := "FixtureOrder$Runner", name := "make", desc := "(LFixtureOrder$Fixture;LFixtureOrder$Case;)Z" } : Jvm.MethodName)) ∈ pg_Ts := pg_in (List.mem_of_getElem? (i := 455) (by decide +kernel)) rfl
theorem ts_9 : Cond.selects "FixtureOrder$Runner" ⟨"FixtureOrder$Runner", "make", "(LFixtureOrder$Fixture;LFixtureOrder$Case;)Z"⟩ ⟨"FixtureOrder$Runner", "make", "(LFixtureOrder$Fixture;LFixtureOrder$Case;)Z"⟩ ∈ pg_Ts := pg_inS (List.mem_of_getElem? (i := 9) (by decide +kernel)) rfl
theorem tw_478 : (Jvm.Cond.methodLink "FixtureOrder$Runner" (169 : Nat) ({ cls := "FixtureOrder$Test", name := "resultOfSteps", desc := "(I)I" } : Jvm.MethodName)) ∈ pg_Ts := pg_in (List.mem_of_getElem? (i := 478) (by decide +kernel)) rfl
theorem tw_479 : (Jvm.Cond.instanceMethod ({ cls := "FixtureOrder$Test", name := "resultOfSteps", desc := "(I)I" } : Jvm.MethodName)) ∈ pg_Ts := pg_in (List.mem_of_getElem? (i := 479) (by decide +kernel)) rfl
theorem tw_480 : (Jvm.Cond.selects "FixtureOrder$Test" ({ cls := "FixtureOrder$Test", name := "resultOfSteps", desc := "(I)I" } : Jvm.MethodName) ({ cls := "FixtureOrder$Test", name := "resultOfSteps", desc := "(I)I" } : Jvm.MethodName)) ∈ pg_Ts := pg_in (List.mem_of_getElem? (i := 480) (by decide +kernel)) rfl
theorem tw_473 : (Jvm.Cond.methodLink "FixtureOrder$Runner" (192 : Nat) ({ cls := "FixtureOrder$Row", name := "append", desc := "(LFixtureOrder$Fixture;)V" } : Jvm.MethodName)) ∈ pg_Ts := pg_in (List.mem_of_getElem? (i := 473) (by decide +kernel)) rfl
theorem tw_469 : (Jvm.Cond.methodLink "FixtureOrder$Runner" (189 : Nat) ({ cls := "FixtureOrder$Fixture", name := "noteMade", desc := "(II)V" } : Jvm.MethodName)) ∈ pg_Ts := pg_in (List.mem_of_getElem? (i := 469) (by decide +kernel)) rfl
theorem tw_470 : (Jvm.Cond.instanceMethod ({ cls := "FixtureOrder$Fixture", name := "noteMade", desc := "(II)V" } : Jvm.MethodName)) ∈ pg_Ts := pg_in (List.mem_of_getElem? (i := 470) (by decide +kernel)) rfl
theorem tw_471 : (Jvm.Cond.selects "FixtureOrder$Fixture" ({ cls := "FixtureOrder$Fixture", name := "noteMade", desc := "(II)V" } : Jvm.MethodName) ({ cls := "FixtureOrder$Fixture", name := "noteMade", desc := "(II)V" } : Jvm.MethodName)) ∈ pg_Ts := pg_in (List.mem_of_getElem? (i := 471) (by decide +kernel)) rfl
theorem tw_175 : (Jvm.Cond.fieldLink "FixtureOrder$Runner" (186 : Nat) "FixtureOrder$Fixture" "number" "I") ∈ pg_Ts := pg_in (List.mem_of_getElem? (i := 175) (by decide +kernel)) rfl
theorem tw_465 : (Jvm.Cond.methodLink "FixtureOrder$Runner" (183 : Nat) ({ cls := "FixtureOrder$Fixture", name := "rememberFailed", desc := "(II)V" } : Jvm.MethodName)) ∈ pg_Ts := pg_in (List.mem_of_getElem? (i := 465) (by decide +kernel)) rfl
theorem tw_466 : (Jvm.Cond.instanceMethod ({ cls := "FixtureOrder$Fixture", name := "rememberFailed", desc := "(II)V" } : Jvm.MethodName)) ∈ pg_Ts := pg_in (List.mem_of_getElem? (i := 466) (by decide +kernel)) rfl
theorem tw_467 : (Jvm.Cond.selects "FixtureOrder$Fixture" ({ cls := "FixtureOrder$Fixture", name := "rememberFailed", desc := "(II)V" } : Jvm.MethodName) ({ cls := "FixtureOrder$Fixture", name := "rememberFailed", desc := "(II)V" } : Jvm.MethodName)) ∈ pg_Ts := pg_in (List.mem_of_getElem? (i := 467) (by decide +kernel)) rfl
theorem tw_188 : (Jvm.Cond.fieldLink "FixtureOrder$Runner" (179 : Nat) "FixtureOrder$Fixture" "makeFails" "Z") ∈ pg_Ts := pg_in (List.mem_of_getElem? (i := 188) (by decide +kernel)) rfl
theorem tw_461 : (Jvm.Cond.methodLink "FixtureOrder$Runner" (176 : Nat) ({ cls := "FixtureOrder$Fixture", name := "isRememberedFailed", desc := "(I)Z" } : Jvm.MethodName)) ∈ pg_Ts := pg_in (List.mem_of_getElem? (i := 461) (by decide +kernel)) rfl
theorem tw_462 : (Jvm.Cond.instanceMethod ({ cls := "FixtureOrder$Fixture", name := "isRememberedFailed", desc := "(I)Z" } : Jvm.MethodName)) ∈ pg_Ts := pg_in (List.mem_of_getElem? (i := 462) (by decide +kernel)) rfl
theorem tw_463 : (Jvm.Cond.selects "FixtureOrder$Fixture" ({ cls := "FixtureOrder$Fixture", name := "isRememberedFailed", desc := "(I)Z" } : Jvm.MethodName) ({ cls := "FixtureOrder$Fixture", name := "isRememberedFailed", desc := "(I)Z" } : Jvm.MethodName)) ∈ pg_Ts := pg_in (List.mem_of_getElem? (i := 463) (by decide +kernel)) rfl
theorem tw_457 : (Jvm.Cond.methodLink "FixtureOrder$Runner" (172 : Nat) ({ cls := "FixtureOrder$Case", name := "valueFor", desc := "(LFixtureOrder$Fixture;)I" } : Jvm.MethodName)) ∈ pg_Ts := pg_in (List.mem_of_getElem? (i := 457) (by decide +kernel)) rfl
theorem tw_458 : (Jvm.Cond.instanceMethod ({ cls := "FixtureOrder$Case", name := "valueFor", desc := "(LFixtureOrder$Fixture;)I" } : Jvm.MethodName)) ∈ pg_Ts := pg_in (List.mem_of_getElem? (i := 458) (by decide +kernel)) rfl
theorem tw_459 : (Jvm.Cond.selects "FixtureOrder$Case" ({ cls := "FixtureOrder$Case", name := "valueFor", desc := "(LFixtureOrder$Fixture;)I" } : Jvm.MethodName) ({ cls := "FixtureOrder$Case", name := "valueFor", desc := "(LFixtureOrder$Fixture;)I" } : Jvm.MethodName)) ∈ pg_Ts := pg_in (List.mem_of_getElem? (i := 459) (by decide +kernel)) rfl
theorem tw_198 : (Jvm.Cond.fieldLink "FixtureOrder$Runner" (204 : Nat) "FixtureOrder$Fixture" "value" "I") ∈ pg_Ts := pg_in (List.mem_of_getElem? (i := 198) (by decide +kernel)) rfl
theorem tw_190 : (Jvm.Cond.fieldLink "FixtureOrder$Runner" (201 : Nat) "FixtureOrder$Fixture" "endFails" "Z") ∈ pg_Ts := pg_in (List.mem_of_getElem? (i := 190) (by decide +kernel)) rfl
theorem tw_433 : (Jvm.Cond.methodLink "FixtureOrder$Runner" (198 : Nat) ({ cls := "FixtureOrder$Fixture", name := "noteEnded", desc := "()V" } : Jvm.MethodName)) ∈ pg_Ts := pg_in (List.mem_of_getElem? (i := 433) (by decide +kernel)) rfl
theorem tw_434 : (Jvm.Cond.instanceMethod ({ cls := "FixtureOrder$Fixture", name := "noteEnded", desc := "()V" } : Jvm.MethodName)) ∈ pg_Ts := pg_in (List.mem_of_getElem? (i := 434) (by decide +kernel)) rfl
theorem tw_435 : (Jvm.Cond.selects "FixtureOrder$Fixture" ({ cls := "FixtureOrder$Fixture", name := "noteEnded", desc := "()V" } : Jvm.MethodName) ({ cls := "FixtureOrder$Fixture", name := "noteEnded", desc := "()V" } : Jvm.MethodName)) ∈ pg_Ts := pg_in (List.mem_of_getElem? (i := 435) (by decide +kernel)) rfl
theorem tw_429 : (Jvm.Cond.methodLink "FixtureOrder$Runner" (195 : Nat) ({ cls := "FixtureOrder$Row", name := "removeAt", desc := "(I)V" } : Jvm.MethodName)) ∈ pg_Ts := pg_in (List.mem_of_getElem? (i := 429) (by decide +kernel)) rfl
theorem tw_430 : (Jvm.Cond.instanceMethod ({ cls := "FixtureOrder$Row", name := "removeAt", desc := "(I)V" } : Jvm.MethodName)) ∈ pg_Ts := pg_in (List.mem_of_getElem? (i := 430) (by decide +kernel)) rfl
theorem tw_431 : (Jvm.Cond.selects "FixtureOrder$Row" ({ cls := "FixtureOrder$Row", name := "removeAt", desc := "(I)V" } : Jvm.MethodName) ({ cls := "FixtureOrder$Row", name := "removeAt", desc := "(I)V" } : Jvm.MethodName)) ∈ pg_Ts := pg_in (List.mem_of_getElem? (i := 431) (by decide +kernel)) rfl
theorem tw_34 : (Jvm.Cond.fieldLink "FixtureOrder$Suite" (19 : Nat) "FixtureOrder$Suite" "tests" "[LFixtureOrder$Test;") ∈ pg_Ts := pg_in (List.mem_of_getElem? (i := 34) (by decide +kernel)) rfl
theorem tw_28 : (Jvm.Cond.classLink "FixtureOrder$Suite" (17 : Nat) "FixtureOrder$Test") ∈ pg_Ts := pg_in (List.mem_of_getElem? (i := 28) (by decide +kernel)) rfl
theorem tw_30 : (Jvm.Cond.fieldLink "FixtureOrder$Suite" (11 : Nat) "FixtureOrder$Suite" "fixtures" "[LFixtureOrder$Fixture;") ∈ pg_Ts := pg_in (List.mem_of_getElem? (i := 30) (by decide +kernel)) rfl
theorem tw_26 : (Jvm.Cond.classLink "FixtureOrder$Suite" (9 : Nat) "FixtureOrder$Fixture") ∈ pg_Ts := pg_in (List.mem_of_getElem? (i := 26) (by decide +kernel)) rfl
theorem tw_25 : (Jvm.Cond.methodLink "FixtureOrder$Suite" (3 : Nat) ({ cls := "java/lang/Object", name := "<init>", desc := "()V" } : Jvm.MethodName)) ∈ pg_Ts := pg_in (List.mem_of_getElem? (i := 25) (by decide +kernel)) rfl
theorem tw_32 : (Jvm.Cond.fieldLink "FixtureOrder$Suite" (23 : Nat) "FixtureOrder$Suite" "fixtureCount" "I") ∈ pg_Ts := pg_in (List.mem_of_getElem? (i := 32) (by decide +kernel)) rfl
theorem tw_36 : (Jvm.Cond.fieldLink "FixtureOrder$Suite" (27 : Nat) "FixtureOrder$Suite" "testCount" "I") ∈ pg_Ts := pg_in (List.mem_of_getElem? (i := 36) (by decide +kernel)) rfl
theorem tw_166 : (Jvm.Cond.methodLink "FixtureOrder$Suite" (30 : Nat) ({ cls := "FixtureOrder$Fixture", name := "<init>", desc := "(IIIZZ)V" } : Jvm.MethodName)) ∈ pg_Ts := pg_in (List.mem_of_getElem? (i := 166) (by decide +kernel)) rfl
theorem tw_167 : (Jvm.Cond.instanceMethod ({ cls := "FixtureOrder$Fixture", name := "<init>", desc := "(IIIZZ)V" } : Jvm.MethodName)) ∈ pg_Ts := pg_in (List.mem_of_getElem? (i := 167) (by decide +kernel)) rfl
theorem tw_165 : (Jvm.Cond.instantiable "FixtureOrder$Fixture" (15 : Nat)) ∈ pg_Ts := pg_in (List.mem_of_getElem? (i := 165) (by decide +kernel)) rfl
theorem tw_275 : (Jvm.Cond.methodLink "FixtureOrder$Suite" (33 : Nat) ({ cls := "FixtureOrder$Test", name := "<init>", desc := "(II)V" } : Jvm.MethodName)) ∈ pg_Ts := pg_in (List.mem_of_getElem? (i := 275) (by decide +kernel)) rfl
theorem tw_276 : (Jvm.Cond.instanceMethod ({ cls := "FixtureOrder$Test", name := "<init>", desc := "(II)V" } : Jvm.MethodName)) ∈ pg_Ts := pg_in (List.mem_of_getElem? (i := 276) (by decide +kernel)) rfl
theorem tw_274 : (Jvm.Cond.instantiable "FixtureOrder$Test" (8 : Nat)) ∈ pg_Ts := pg_in (List.mem_of_getElem? (i := 274) (by decide +kernel)) rfl
theorem tw_262 : (Jvm.Cond.methodLink "FixtureOrder$Suite" (53 : Nat) ({ cls := "FixtureOrder$Fixture", name := "dependAlsoOn", desc := "(LFixtureOrder$Fixture;)V" } : Jvm.MethodName)) ∈ pg_Ts := pg_in (List.mem_of_getElem? (i := 262) (by decide +kernel)) rfl
theorem tw_263 : (Jvm.Cond.instanceMethod ({ cls := "FixtureOrder$Fixture", name := "dependAlsoOn", desc := "(LFixtureOrder$Fixture;)V" } : Jvm.MethodName)) ∈ pg_Ts := pg_in (List.mem_of_getElem? (i := 263) (by decide +kernel)) rfl
theorem tw_264 : (Jvm.Cond.selects "FixtureOrder$Fixture" ({ cls := "FixtureOrder$Fixture", name := "dependAlsoOn", desc := "(LFixtureOrder$Fixture;)V" } : Jvm.MethodName) ({ cls := "FixtureOrder$Fixture", name := "dependAlsoOn", desc := "(LFixtureOrder$Fixture;)V" } : Jvm.MethodName)) ∈ pg_Ts := pg_in (List.mem_of_getElem? (i := 264) (by decide +kernel)) rfl
theorem tw_261 : (Jvm.Cond.methodLink "FixtureOrder$Suite" (49 : Nat) ({ cls := "FixtureOrder$Fixture", name := "dependsOnAny", desc := "(I)Z" } : Jvm.MethodName)) ∈ pg_Ts := pg_in (List.mem_of_getElem? (i := 261) (by decide +kernel)) rfl
theorem tw_179 : (Jvm.Cond.fieldLink "FixtureOrder$Suite" (46 : Nat) "FixtureOrder$Fixture" "bit" "I") ∈ pg_Ts := pg_in (List.mem_of_getElem? (i := 179) (by decide +kernel)) rfl
theorem tw_256 : (Jvm.Cond.methodLink "FixtureOrder$Suite" (40 : Nat) ({ cls := "FixtureOrder$Row", name := "append", desc := "(LFixtureOrder$Fixture;)V" } : Jvm.MethodName)) ∈ pg_Ts := pg_in (List.mem_of_getElem? (i := 256) (by decide +kernel)) rfl
theorem tw_194 : (Jvm.Cond.fieldLink "FixtureOrder$Suite" (36 : Nat) "FixtureOrder$Fixture" "needed" "LFixtureOrder$Row;") ∈ pg_Ts := pg_in (List.mem_of_getElem? (i := 194) (by decide +kernel)) rfl
theorem tw_445 : (Jvm.Cond.methodLink "FixtureOrder$Suite" (56 : Nat) ({ cls := "FixtureOrder$Fixture", name := "forgetIfOfAnother", desc := "(I)V" } : Jvm.MethodName)) ∈ pg_Ts := pg_in (List.mem_of_getElem? (i := 445) (by decide +kernel)) rfl
theorem tw_446 : (Jvm.Cond.instanceMethod ({ cls := "FixtureOrder$Fixture", name := "forgetIfOfAnother", desc := "(I)V" } : Jvm.MethodName)) ∈ pg_Ts := pg_in (List.mem_of_getElem? (i := 446) (by decide +kernel)) rfl
theorem tw_447 : (Jvm.Cond.selects "FixtureOrder$Fixture" ({ cls := "FixtureOrder$Fixture", name := "forgetIfOfAnother", desc := "(I)V" } : Jvm.MethodName) ({ cls := "FixtureOrder$Fixture", name := "forgetIfOfAnother", desc := "(I)V" } : Jvm.MethodName)) ∈ pg_Ts := pg_in (List.mem_of_getElem? (i := 447) (by decide +kernel)) rfl
theorem tw_342 : (Jvm.Cond.methodLink "FixtureOrder$Suite" (60 : Nat) ({ cls := "FixtureOrder$Test", name := "countCases", desc := "()I" } : Jvm.MethodName)) ∈ pg_Ts := pg_in (List.mem_of_getElem? (i := 342) (by decide +kernel)) rfl
theorem tw_288 : (Jvm.Cond.fieldLink "FixtureOrder$Test" (27 : Nat) "FixtureOrder$Test" "closure" "LFixtureOrder$Row;") ∈ pg_Ts := pg_in (List.mem_of_getElem? (i := 288) (by decide +kernel)) rfl
theorem tw_280 : (Jvm.Cond.methodLink "FixtureOrder$Test" (20 : Nat) ({ cls := "FixtureOrder$Row", name := "<init>", desc := "(I)V" } : Jvm.MethodName)) ∈ pg_Ts := pg_in (List.mem_of_getElem? (i := 280) (by decide +kernel)) rfl
theorem tw_279 : (Jvm.Cond.classLink "FixtureOrder$Test" (18 : Nat) "FixtureOrder$Row") ∈ pg_Ts := pg_in (List.mem_of_getElem? (i := 279) (by decide +kernel)) rfl
theorem tw_286 : (Jvm.Cond.fieldLink "FixtureOrder$Test" (23 : Nat) "FixtureOrder$Test" "used" "LFixtureOrder$Row;") ∈ pg_Ts := pg_in (List.mem_of_getElem? (i := 286) (by decide +kernel)) rfl
theorem tw_283 : (Jvm.Cond.fieldLink "FixtureOrder$Test" (15 : Nat) "FixtureOrder$Test" "file" "I") ∈ pg_Ts := pg_in (List.mem_of_getElem? (i := 283) (by decide +kernel)) rfl
theorem tw_281 : (Jvm.Cond.fieldLink "FixtureOrder$Test" (9 : Nat) "FixtureOrder$Test" "number" "I") ∈ pg_Ts := pg_in (List.mem_of_getElem? (i := 281) (by decide +kernel)) rfl
theorem tw_278 : (Jvm.Cond.methodLink "FixtureOrder$Test" (3 : Nat) ({ cls := "java/lang/Object", name := "<init>", desc := "()V" } : Jvm.MethodName)) ∈ pg_Ts := pg_in (List.mem_of_getElem? (i := 278) (by decide +kernel)) rfl
theorem tw_354 : (Jvm.Cond.methodLink "FixtureOrder$Test" (40 : Nat) ({ cls := "FixtureOrder$Test", name := "includeBehindItsNeeds", desc := "(LFixtureOrder$Row;LFixtureOrder$Fixture;I)V" } : Jvm.MethodName)) ∈ pg_Ts := pg_in (List.mem_of_getElem? (i := 354) (by decide +kernel)) rfl
theorem tw_355 : (Jvm.Cond.static ({ cls := "FixtureOrder$Test", name := "includeBehindItsNeeds", desc := "(LFixtureOrder$Row;LFixtureOrder$Fixture;I)V" } : Jvm.MethodName)) ∈ pg_Ts := pg_in (List.mem_of_getElem? (i := 355) (by decide +kernel)) rfl
theorem tw_64 : (Jvm.Cond.fieldLink "FixtureOrder$Test" (36 : Nat) "FixtureOrder$Row" "held" "[LFixtureOrder$Fixture;") ∈ pg_Ts := pg_in (List.mem_of_getElem? (i := 64) (by decide +kernel)) rfl
theorem tw_67 : (Jvm.Cond.fieldLink "FixtureOrder$Test" (33 : Nat) "FixtureOrder$Row" "count" "I") ∈ pg_Ts := pg_in (List.mem_of_getElem? (i := 67) (by decide +kernel)) rfl
theorem tw_350 : (Jvm.Cond.methodLink "FixtureOrder$Test" (30 : Nat) ({ cls := "FixtureOrder$Row", name := "clear", desc := "()V" } : Jvm.MethodName)) ∈ pg_Ts := pg_in (List.mem_of_getElem? (i := 350) (by decide +kernel)) rfl
theorem tw_361 : (Jvm.Cond.methodLink "FixtureOrder$Test" (53 : Nat) ({ cls := "FixtureOrder$Row", name := "append", desc := "(LFixtureOrder$Fixture;)V" } : Jvm.MethodName)) ∈ pg_Ts := pg_in (List.mem_of_getElem? (i := 361) (by decide +kernel)) rfl
theorem tw_192 : (Jvm.Cond.fieldLink "FixtureOrder$Test" (48 : Nat) "FixtureOrder$Fixture" "needed" "LFixtureOrder$Row;") ∈ pg_Ts := pg_in (List.mem_of_getElem? (i := 192) (by decide +kernel)) rfl
theorem tw_357 : (Jvm.Cond.methodLink "FixtureOrder$Test" (44 : Nat) ({ cls := "FixtureOrder$Row", name := "holds", desc := "(LFixtureOrder$Fixture;)Z" } : Jvm.MethodName)) ∈ pg_Ts := pg_in (List.mem_of_getElem? (i := 357) (by decide +kernel)) rfl
theorem tw_362 : (Jvm.Cond.methodLink "FixtureOrder$Test" (63 : Nat) ({ cls := "java/lang/Math", name := "min", desc := "(II)I" } : Jvm.MethodName)) ∈ pg_Ts := pg_in (List.mem_of_getElem? (i := 362) (by decide +kernel)) rfl
theorem tw_186 : (Jvm.Cond.fieldLink "FixtureOrder$Test" (60 : Nat) "FixtureOrder$Fixture" "values" "I") ∈ pg_Ts := pg_in (List.mem_of_getElem? (i := 186) (by decide +kernel)) rfl
theorem tw_346 : (Jvm.Cond.methodLink "FixtureOrder$Test" (57 : Nat) ({ cls := "FixtureOrder$Test", name := "findClosure", desc := "()V" } : Jvm.MethodName)) ∈ pg_Ts := pg_in (List.mem_of_getElem? (i := 346) (by decide +kernel)) rfl
theorem tw_296 : (Jvm.Cond.fieldLink "FixtureOrder$Test" (75 : Nat) "FixtureOrder$Test" "failingTries" "I") ∈ pg_Ts := pg_in (List.mem_of_getElem? (i := 296) (by decide +kernel)) rfl
theorem tw_294 : (Jvm.Cond.fieldLink "FixtureOrder$Test" (72 : Nat) "FixtureOrder$Test" "limit" "I") ∈ pg_Ts := pg_in (List.mem_of_getElem? (i := 294) (by decide +kernel)) rfl
theorem tw_292 : (Jvm.Cond.fieldLink "FixtureOrder$Test" (69 : Nat) "FixtureOrder$Test" "steps" "I") ∈ pg_Ts := pg_in (List.mem_of_getElem? (i := 292) (by decide +kernel)) rfl
end
section
/-! every instruction is linked as the tables say -/
section LK
variable {P : mj_P} {cl : List vw_C} {tyf : Nat → Nat → FieldType} {Ts Nw : List Cond} {ak : List Nat} {yn : Nat → MethodName} {cc : Nat → ByteArray} {rt : Nat → Option FieldType} {M pc x len a b : Nat}
theorem lk_get {C : String} {T : u_T} {N : Nat} (h1 : mj_okc cl tyf Ts a C T N) (h2 : b < N) (h3 : Cond.fieldLink (yn M).cls x (T b).1 (T b).2.1 (T b).2.2.1 ∈ Ts) : mj_lk P cl tyf Ts Nw ak yn cc rt M pc (.getfield x, len, a, b) := ⟨C, T, N, h1, h2, Or.inl h3⟩
theorem lk_put {C : String} {T : u_T} {N : Nat} (h1 : mj_okc cl tyf Ts a C T N) (h2 : b < N) (hk : (P.2.2.2.2.1 a b = 0 ∧ tyf a b = .int) ∨ (P.2.2.2.2.1 a b = 1 ∧ tyf a b = .boolean) ∨ (P.2.2.2.2.1 a b = 2 ∧ ((∃ E, tyf a b = .object E) ∨ ∃ E, tyf a b = .array E))) (hf : (T b).2.2.2 = false) (h3 : Cond.fieldLink (yn M).cls x (T b).1 (T b).2.1 (T b).2.2.1 ∈ Ts) : mj_lk P cl tyf Ts Nw ak yn cc rt M pc (.putfield x, len, a, b) := ⟨C, T, N, h1, h2, hk, Or.inl ⟨hf, Or.inl h3⟩⟩
theorem lk_putF {C : String} {T : u_T} {N : Nat} (h1 : mj_okc cl tyf Ts a C T N) (h2 : b < N) (hk : (P.2.2.2.2.1 a b = 0 ∧ tyf a b = .int) ∨ (P.2.2.2.2.1 a b = 1 ∧ tyf a b = .boolean) ∨ (P.2.2.2.2.1 a b = 2 ∧ ((∃ E, tyf a b = .object E) ∨ ∃ E, tyf a b = .array E))) (hf : (T b).2.2.2 = true) (hi : (yn M).name = "<init>") (hd : (T b).1 = (yn M).cls) (h3 : Cond.fieldLink (yn M).cls x (T b).1 (T b).2.1 (T b).2.2.1 ∈ Ts) : mj_lk P cl tyf Ts Nw ak yn cc rt M pc (.putfield x, len, a, b) := ⟨C, T, N, h1, h2, hk, Or.inr ⟨hf, hi, hd, h3⟩⟩
theorem lk_new {C : String} {T : u_T} {N : Nat} (h1 : mj_okc cl tyf Ts a C T N) (h2 : Cond.classLink (yn M).cls x C ∈ Ts) (h3 : Cond.instantiable C N ∈ Ts) (h4 : Cond.initialized C ∈ Ts) (h5 : (P.2.2.2.1 a).length = N) (h6 : ∀ (ad : Nat → Nat) (j : Nat), j < N → defaultValue (tyf a j) = vp_V ((P.2.2.2.1 a).map (mj_cv ad)) j) : mj_lk P cl tyf Ts Nw ak yn cc rt M pc (.new x, len, a, b) := ⟨C, T, N, h1, h2, h3, h4, h5, h6⟩
theorem lk_na {y : ArrayType} (h1 : Cond.arrayClass .int ∈ Ts) (h2 : Cond.arrayClass .boolean ∈ Ts) : mj_lk P cl tyf Ts Nw ak yn cc rt M pc (.newarray y, len, a, b) := ⟨h1, h2⟩
theorem lk_an {C : String} {T : u_T} {N : Nat} (h1 : cl[a]? = some (C, T, N)) (h2 : a ∈ ak) (h3 : a < 99) (h4 : Cond.classLink (yn M).cls x C ∈ Ts) (h5 : Cond.arrayOver (.object C) ∈ Nw) : mj_lk P cl tyf Ts Nw ak yn cc rt M pc (.anewarray x, len, a, b) := ⟨C, T, N, h1, h2, h3, h4, h5⟩
theorem lk_al {q : vw_C} (h1 : cl[a]? = some q) (h2 : a ∈ ak) (h3 : a < 99) : mj_lk P cl tyf Ts Nw ak yn cc rt M pc (.aaload, len, a, b) := ⟨q, h1, h2, h3⟩
theorem lk_as {q : vw_C} (h1 : cl[a]? = some q) (h2 : a ∈ ak) (h3 : a < 99) : mj_lk P cl tyf Ts Nw ak yn cc rt M pc (.aastore, len, a, b) := ⟨q, h1, h2, h3⟩
theorem lk_v {T : u_T} {N : Nat} (h1 : mj_okk P Ts Nw yn cc rt M x a b) (h2 : 1 ≤ b) (h3 : Cond.instanceMethod (yn a) ∈ Ts) (h4 : Cond.selects (yn a).cls (yn a) (yn a) ∈ Ts) (h5 : (parseMethodDescriptor (yn a).desc).map (fun d => d.parameters.length) = some (b - 1)) (h6 : P.2.2.2.2.2 a < 100) (h7 : cl[P.2.2.2.2.2 a]? = some ((yn a).cls, T, N)) : mj_lk P cl tyf Ts Nw ak yn cc rt M pc (.invokevirtual x, len, a, b) := ⟨h1, h2, h3, h4, h5, h6, T, N, h7⟩
theorem lk_i (h0 : a ≠ 9999) (h1 : mj_okk P Ts Nw yn cc rt M x a b) (h2 : 1 ≤ b) (h3 : Cond.instanceMethod (yn a) ∈ Ts) (h4 : (yn a).name = "<init>") (h5 : rt a = none) (h6 : (parseMethodDescriptor (yn a).desc).map (fun d => d.parameters.length) = some (b - 1)) (h7 : P.2.2.2.2.2 a < 100) : mj_lk P cl tyf Ts Nw ak yn cc rt M pc (.invokespecial x, len, a, b) := Or.inr ⟨h0, h1, h2, h3, h4, h5, h6, h7⟩
theorem lk_o (h1 : Cond.methodLink (yn M).cls x objectInit ∈ Ts) (h2 : Cond.instanceMethod objectInit ∈ Ts) (h3 : Cond.code objectInit ⟨#[0xb1]⟩ 1 none ∈ Ts) : mj_lk P cl tyf Ts Nw ak yn cc rt M pc (.invokespecial x, len, 9999, b) := Or.inl ⟨rfl, h1, h2, h3⟩
theorem lk_s (h0 : a ≠ 9998) (h9 : a ≠ 9997) (h1 : mj_okk P Ts Nw yn cc rt M x a b) (h2 : Cond.static (yn a) ∈ Ts) (h3 : (parseMethodDescriptor (yn a).desc).map (fun d => d.parameters.length) = some b) : mj_lk P cl tyf Ts Nw ak yn cc rt M pc (.invokestatic x, len, a, b) := Or.inr (Or.inr ⟨h0, h9, h1, h2, h3⟩)
theorem lk_mn (h1 : Cond.methodLink (yn M).cls x Lib.Math.min.name ∈ Ts) (h2 : Cond.static Lib.Math.min.name ∈ Ts) (h3 : Cond.initialized "java/lang/Math" ∈ Ts) (h4 : Cond.code Lib.Math.min.name Lib.Math.min.code 2 (some .int) ∈ Ts) : mj_lk P cl tyf Ts Nw ak yn cc rt M pc (.invokestatic x, len, 9998, b) := Or.inl ⟨rfl, h1, h2, h3, h4⟩
theorem lk_mx (h1 : Cond.methodLink (yn M).cls x Lib.Math.max.name ∈ Ts) (h2 : Cond.static Lib.Math.max.name ∈ Ts) (h3 : Cond.initialized "java/lang/Math" ∈ Ts) (h4 : Cond.code Lib.Math.max.name Lib.Math.max.code 2 (some .int) ∈ Ts) : mj_lk P cl tyf Ts Nw ak yn cc rt M pc (.invokestatic x, len, 9997, b) := Or.inr (Or.inl ⟨rfl, h1, h2, h3, h4⟩)
end LK
set_option maxRecDepth 100000 in
theorem pg_lay0 : ∀ w ∈ u_ws "FixtureOrder$Case" pg_T0 7, w ∈ pg_Ts := by
  show ∀ w ∈ [u_lay "FixtureOrder$Case" pg_T0 0, u_lay "FixtureOrder$Case" pg_T0 1, u_lay "FixtureOrder$Case" pg_T0 2, u_lay "FixtureOrder$Case" pg_T0 3, u_lay "FixtureOrder$Case" pg_T0 4, u_lay "FixtureOrder$Case" pg_T0 5, u_lay "FixtureOrder$Case" pg_T0 6], w ∈ pg_Ts
  exact List.forall_mem_cons.mpr ⟨tw_113, List.forall_mem_cons.mpr ⟨tw_115, List.forall_mem_cons.mpr ⟨tw_117, List.forall_mem_cons.mpr ⟨tw_119, List.forall_mem_cons.mpr ⟨tw_121, List.forall_mem_cons.mpr ⟨tw_123, List.forall_mem_cons.mpr ⟨tw_125, fun _ h => absurd h List.not_mem_nil⟩⟩⟩⟩⟩⟩⟩
theorem pg_okc0 : mj_okc pg_cl pg_ty pg_Ts 0 "FixtureOrder$Case" pg_T0 7 := ⟨rfl, by decide, pg_lay0, by decide +kernel, by decide +kernel⟩
set_option maxRecDepth 100000 in
theorem pg_lay1 : ∀ w ∈ u_ws "FixtureOrder$Fixture" pg_T1 15, w ∈ pg_Ts := by
  show ∀ w ∈ [u_lay "FixtureOrder$Fixture" pg_T1 0, u_lay "FixtureOrder$Fixture" pg_T1 1, u_lay "FixtureOrder$Fixture" pg_T1 2, u_lay "FixtureOrder$Fixture" pg_T1 3, u_lay "FixtureOrder$Fixture" pg_T1 4, u_lay "FixtureOrder$Fixture" pg_T1 5, u_lay "FixtureOrder$Fixture" pg_T1 6, u_lay "FixtureOrder$Fixture" pg_T1 7, u_lay "FixtureOrder$Fixture" pg_T1 8, u_lay "FixtureOrder$Fixture" pg_T1 9, u_lay "FixtureOrder$Fixture" pg_T1 10, u_lay "FixtureOrder$Fixture" pg_T1 11, u_lay "FixtureOrder$Fixture" pg_T1 12, u_lay "FixtureOrder$Fixture" pg_T1 13, u_lay "FixtureOrder$Fixture" pg_T1 14], w ∈ pg_Ts
  exact List.forall_mem_cons.mpr ⟨tw_205, List.forall_mem_cons.mpr ⟨tw_207, List.forall_mem_cons.mpr ⟨tw_209, List.forall_mem_cons.mpr ⟨tw_211, List.forall_mem_cons.mpr ⟨tw_213, List.forall_mem_cons.mpr ⟨tw_215, List.forall_mem_cons.mpr ⟨tw_217, List.forall_mem_cons.mpr ⟨tw_219, List.forall_mem_cons.mpr ⟨tw_221, List.forall_mem_cons.mpr ⟨tw_223, List.forall_mem_cons.mpr ⟨tw_225, List.forall_mem_cons.mpr ⟨tw_227, List.forall_mem_cons.mpr ⟨tw_229, List.forall_mem_cons.mpr ⟨tw_231, List.forall_mem_cons.mpr ⟨tw_233, fun _ h => absurd h List.not_mem_nil⟩⟩⟩⟩⟩⟩⟩⟩⟩⟩⟩⟩⟩⟩⟩
theorem pg_okc1 : mj_okc pg_cl pg_ty pg_Ts 1 "FixtureOrder$Fixture" pg_T1 15 := ⟨rfl, by decide, pg_lay1, by decide +kernel, by decide +kernel⟩
set_option maxRecDepth 100000 in
theorem pg_lay2 : ∀ w ∈ u_ws "FixtureOrder$Log" pg_T2 2, w ∈ pg_Ts := by
  show ∀ w ∈ [u_lay "FixtureOrder$Log" pg_T2 0, u_lay "FixtureOrder$Log" pg_T2 1], w ∈ pg_Ts
  exact List.forall_mem_cons.mpr ⟨tw_92, List.forall_mem_cons.mpr ⟨tw_94, fun _ h => absurd h List.not_mem_nil⟩⟩
theorem pg_okc2 : mj_okc pg_cl pg_ty pg_Ts 2 "FixtureOrder$Log" pg_T2 2 := ⟨rfl, by decide, pg_lay2, by decide +kernel, by decide +kernel⟩
set_option maxRecDepth 100000 in
theorem pg_lay3 : ∀ w ∈ u_ws "FixtureOrder$Row" pg_T3 4, w ∈ pg_Ts := by
  show ∀ w ∈ [u_lay "FixtureOrder$Row" pg_T3 0, u_lay "FixtureOrder$Row" pg_T3 1, u_lay "FixtureOrder$Row" pg_T3 2, u_lay "FixtureOrder$Row" pg_T3 3], w ∈ pg_Ts
  exact List.forall_mem_cons.mpr ⟨tw_74, List.forall_mem_cons.mpr ⟨tw_76, List.forall_mem_cons.mpr ⟨tw_78, List.forall_mem_cons.mpr ⟨tw_80, fun _ h => absurd h List.not_mem_nil⟩⟩⟩⟩
theorem pg_okc3 : mj_okc pg_cl pg_ty pg_Ts 3 "FixtureOrder$Row" pg_T3 4 := ⟨rfl, by decide, pg_lay3, by decide +kernel, by decide +kernel⟩
set_option maxRecDepth 100000 in
theorem pg_lay4 : ∀ w ∈ u_ws "FixtureOrder$Runner" pg_T4 5, w ∈ pg_Ts := by
  show ∀ w ∈ [u_lay "FixtureOrder$Runner" pg_T4 0, u_lay "FixtureOrder$Runner" pg_T4 1, u_lay "FixtureOrder$Runner" pg_T4 2, u_lay "FixtureOrder$Runner" pg_T4 3, u_lay "FixtureOrder$Runner" pg_T4 4], w ∈ pg_Ts
  exact List.forall_mem_cons.mpr ⟨tw_136, List.forall_mem_cons.mpr ⟨tw_138, List.forall_mem_cons.mpr ⟨tw_140, List.forall_mem_cons.mpr ⟨tw_142, List.forall_mem_cons.mpr ⟨tw_144, fun _ h => absurd h List.not_mem_nil⟩⟩⟩⟩⟩
theorem pg_okc4 : mj_okc pg_cl pg_ty pg_Ts 4 "FixtureOrder$Runner" pg_T4 5 := ⟨rfl, by decide, pg_lay4, by decide +kernel, by decide +kernel⟩
set_option maxRecDepth 100000 in
theorem pg_lay5 : ∀ w ∈ u_ws "FixtureOrder$Suite" pg_T5 4, w ∈ pg_Ts := by
  show ∀ w ∈ [u_lay "FixtureOrder$Suite" pg_T5 0, u_lay "FixtureOrder$Suite" pg_T5 1, u_lay "FixtureOrder$Suite" pg_T5 2, u_lay "FixtureOrder$Suite" pg_T5 3], w ∈ pg_Ts
  exact List.forall_mem_cons.mpr ⟨tw_38, List.forall_mem_cons.mpr ⟨tw_40, List.forall_mem_cons.mpr ⟨tw_42, List.forall_mem_cons.mpr ⟨tw_44, fun _ h => absurd h List.not_mem_nil⟩⟩⟩⟩
theorem pg_okc5 : mj_okc pg_cl pg_ty pg_Ts 5 "FixtureOrder$Suite" pg_T5 4 := ⟨rfl, by decide, pg_lay5, by decide +kernel, by decide +kernel⟩
set_option maxRecDepth 100000 in
theorem pg_lay6 : ∀ w ∈ u_ws "FixtureOrder$Test" pg_T6 8, w ∈ pg_Ts := by
  show ∀ w ∈ [u_lay "FixtureOrder$Test" pg_T6 0, u_lay "FixtureOrder$Test" pg_T6 1, u_lay "FixtureOrder$Test" pg_T6 2, u_lay "FixtureOrder$Test" pg_T6 3, u_lay "FixtureOrder$Test" pg_T6 4, u_lay "FixtureOrder$Test" pg_T6 5, u_lay "FixtureOrder$Test" pg_T6 6, u_lay "FixtureOrder$Test" pg_T6 7], w ∈ pg_Ts
  exact List.forall_mem_cons.mpr ⟨tw_300, List.forall_mem_cons.mpr ⟨tw_302, List.forall_mem_cons.mpr ⟨tw_304, List.forall_mem_cons.mpr ⟨tw_306, List.forall_mem_cons.mpr ⟨tw_308, List.forall_mem_cons.mpr ⟨tw_310, List.forall_mem_cons.mpr ⟨tw_312, List.forall_mem_cons.mpr ⟨tw_314, fun _ h => absurd h List.not_mem_nil⟩⟩⟩⟩⟩⟩⟩⟩
theorem pg_okc6 : mj_okc pg_cl pg_ty pg_Ts 6 "FixtureOrder$Test" pg_T6 8 := ⟨rfl, by decide, pg_lay6, by decide +kernel, by decide +kernel⟩
set_option maxRecDepth 100000 in
theorem pg_lay7 : ∀ w ∈ u_ws "FixtureOrder" pg_T7 2, w ∈ pg_Ts := by
  show ∀ w ∈ [u_lay "FixtureOrder" pg_T7 0, u_lay "FixtureOrder" pg_T7 1], w ∈ pg_Ts
  exact List.forall_mem_cons.mpr ⟨tw_149, List.forall_mem_cons.mpr ⟨tw_151, fun _ h => absurd h List.not_mem_nil⟩⟩
theorem pg_okc7 : mj_okc pg_cl pg_ty pg_Ts 7 "FixtureOrder" pg_T7 2 := ⟨rfl, by decide, pg_lay7, by decide +kernel, by decide +kernel⟩
set_option maxRecDepth 100000 in
theorem pg_lay8 : ∀ w ∈ u_ws "FixtureOrderModel" pg_T8 44, w ∈ pg_Ts := by
  show ∀ w ∈ [u_lay "FixtureOrderModel" pg_T8 0, u_lay "FixtureOrderModel" pg_T8 1, u_lay "FixtureOrderModel" pg_T8 2, u_lay "FixtureOrderModel" pg_T8 3, u_lay "FixtureOrderModel" pg_T8 4, u_lay "FixtureOrderModel" pg_T8 5, u_lay "FixtureOrderModel" pg_T8 6, u_lay "FixtureOrderModel" pg_T8 7, u_lay "FixtureOrderModel" pg_T8 8, u_lay "FixtureOrderModel" pg_T8 9, u_lay "FixtureOrderModel" pg_T8 10, u_lay "FixtureOrderModel" pg_T8 11, u_lay "FixtureOrderModel" pg_T8 12, u_lay "FixtureOrderModel" pg_T8 13, u_lay "FixtureOrderModel" pg_T8 14, u_lay "FixtureOrderModel" pg_T8 15, u_lay "FixtureOrderModel" pg_T8 16, u_lay "FixtureOrderModel" pg_T8 17, u_lay "FixtureOrderModel" pg_T8 18, u_lay "FixtureOrderModel" pg_T8 19, u_lay "FixtureOrderModel" pg_T8 20, u_lay "FixtureOrderModel" pg_T8 21, u_lay "FixtureOrderModel" pg_T8 22, u_lay "FixtureOrderModel" pg_T8 23, u_lay "FixtureOrderModel" pg_T8 24, u_lay "FixtureOrderModel" pg_T8 25, u_lay "FixtureOrderModel" pg_T8 26, u_lay "FixtureOrderModel" pg_T8 27, u_lay "FixtureOrderModel" pg_T8 28, u_lay "FixtureOrderModel" pg_T8 29, u_lay "FixtureOrderModel" pg_T8 30, u_lay "FixtureOrderModel" pg_T8 31, u_lay "FixtureOrderModel" pg_T8 32, u_lay "FixtureOrderModel" pg_T8 33, u_lay "FixtureOrderModel" pg_T8 34, u_lay "FixtureOrderModel" pg_T8 35, u_lay "FixtureOrderModel" pg_T8 36, u_lay "FixtureOrderModel" pg_T8 37, u_lay "FixtureOrderModel" pg_T8 38, u_lay "FixtureOrderModel" pg_T8 39, u_lay "FixtureOrderModel" pg_T8 40, u_lay "FixtureOrderModel" pg_T8 41, u_lay "FixtureOrderModel" pg_T8 42, u_lay "FixtureOrderModel" pg_T8 43], w ∈ pg_Ts
  exact List.forall_mem_cons.mpr ⟨tw_586, List.forall_mem_cons.mpr ⟨tw_588, List.forall_mem_cons.mpr ⟨tw_590, List.forall_mem_cons.mpr ⟨tw_592, List.forall_mem_cons.mpr ⟨tw_594, List.forall_mem_cons.mpr ⟨tw_596, List.forall_mem_cons.mpr ⟨tw_598, List.forall_mem_cons.mpr ⟨tw_600, List.forall_mem_cons.mpr ⟨tw_602, List.forall_mem_cons.mpr ⟨tw_604, List.forall_mem_cons.mpr ⟨tw_606, List.forall_mem_cons.mpr ⟨tw_608, List.forall_mem_cons.mpr ⟨tw_610, List.forall_mem_cons.mpr ⟨tw_612, List.forall_mem_cons.mpr ⟨tw_614, List.forall_mem_cons.mpr ⟨tw_616, List.forall_mem_cons.mpr ⟨tw_618, List.forall_mem_cons.mpr ⟨tw_620, List.forall_mem_cons.mpr ⟨tw_622, List.forall_mem_cons.mpr ⟨tw_624, List.forall_mem_cons.mpr ⟨tw_626, List.forall_mem_cons.mpr ⟨tw_628, List.forall_mem_cons.mpr ⟨tw_630, List.forall_mem_cons.mpr ⟨tw_632, List.forall_mem_cons.mpr ⟨tw_634, List.forall_mem_cons.mpr ⟨tw_636, List.forall_mem_cons.mpr ⟨tw_638, List.forall_mem_cons.mpr ⟨tw_640, List.forall_mem_cons.mpr ⟨tw_642, List.forall_mem_cons.mpr ⟨tw_644, List.forall_mem_cons.mpr ⟨tw_646, List.forall_mem_cons.mpr ⟨tw_648, List.forall_mem_cons.mpr ⟨tw_650, List.forall_mem_cons.mpr ⟨tw_652, List.forall_mem_cons.mpr ⟨tw_654, List.forall_mem_cons.mpr ⟨tw_656, List.forall_mem_cons.mpr ⟨tw_658, List.forall_mem_cons.mpr ⟨tw_660, List.forall_mem_cons.mpr ⟨tw_662, List.forall_mem_cons.mpr ⟨tw_664, List.forall_mem_cons.mpr ⟨tw_666, List.forall_mem_cons.mpr ⟨tw_668, List.forall_mem_cons.mpr ⟨tw_670, List.forall_mem_cons.mpr ⟨tw_672, fun _ h => absurd h List.not_mem_nil⟩⟩⟩⟩⟩⟩⟩⟩⟩⟩⟩⟩⟩⟩⟩⟩⟩⟩⟩⟩⟩⟩⟩⟩⟩⟩⟩⟩⟩⟩⟩⟩⟩⟩⟩⟩⟩⟩⟩⟩⟩⟩⟩⟩
theorem pg_okc8 : mj_okc pg_cl pg_ty pg_Ts 8 "FixtureOrderModel" pg_T8 44 := ⟨rfl, by decide, pg_lay8, by decide +kernel, by decide +kernel⟩
theorem pg_m1 : mj_okm pg pg_Ts pg_yn pg_cc pg_rt 1 := ⟨by decide +kernel, tw_16, by decide, (fun _ => rfl), (fun h => absurd h (by decide)), (fun h => absurd h (by decide)), (fun h => absurd h (by decide))⟩
theorem pg_m2 : mj_okm pg pg_Ts pg_yn pg_cc pg_rt 2 := ⟨by decide +kernel, tw_157, by decide, (fun h => absurd h (by decide)), (fun _ => rfl), (fun h => absurd h (by decide)), (fun h => absurd h (by decide))⟩
theorem pg_m3 : mj_okm pg pg_Ts pg_yn pg_cc pg_rt 3 := ⟨by decide +kernel, tw_239, by decide, (fun h => absurd h (by decide)), (fun _ => rfl), (fun h => absurd h (by decide)), (fun h => absurd h (by decide))⟩
theorem pg_m4 : mj_okm pg pg_Ts pg_yn pg_cc pg_rt 4 := ⟨by decide +kernel, tw_269, by decide, (fun h => absurd h (by decide)), (fun _ => rfl), (fun h => absurd h (by decide)), (fun h => absurd h (by decide))⟩
theorem pg_m5 : mj_okm pg pg_Ts pg_yn pg_cc pg_rt 5 := ⟨by decide +kernel, tw_320, by decide, (fun h => absurd h (by decide)), (fun h => absurd h (by decide)), (fun _ => rfl), (fun h => absurd h (by decide))⟩
theorem pg_m6 : mj_okm pg pg_Ts pg_yn pg_cc pg_rt 6 := ⟨by decide +kernel, tw_329, by decide, (fun h => absurd h (by decide)), (fun h => absurd h (by decide)), (fun _ => rfl), (fun h => absurd h (by decide))⟩
theorem pg_m7 : mj_okm pg pg_Ts pg_yn pg_cc pg_rt 7 := ⟨by decide +kernel, tw_333, by decide, (fun h => absurd h (by decide)), (fun h => absurd h (by decide)), (fun _ => rfl), (fun h => absurd h (by decide))⟩
theorem pg_m8 : mj_okm pg pg_Ts pg_yn pg_cc pg_rt 8 := ⟨by decide +kernel, tw_337, by decide, (fun h => absurd h (by decide)), (fun _ => rfl), (fun h => absurd h (by decide)), (fun h => absurd h (by decide))⟩
theorem pg_m9 : mj_okm pg pg_Ts pg_yn pg_cc pg_rt 9 := ⟨by decide +kernel, tw_493, by decide, (fun h => absurd h (by decide)), (fun _ => rfl), (fun h => absurd h (by decide)), (fun h => absurd h (by decide))⟩
theorem pg_m10 : mj_okm pg pg_Ts pg_yn pg_cc pg_rt 10 := ⟨by decide +kernel, tw_497, by decide, (fun h => absurd h (by decide)), (fun _ => rfl), (fun h => absurd h (by decide)), (fun h => absurd h (by decide))⟩
theorem pg_m11 : mj_okm pg pg_Ts pg_yn pg_cc pg_rt 11 := ⟨by decide +kernel, tw_505, by decide, (fun h => absurd h (by decide)), (fun _ => rfl), (fun h => absurd h (by decide)), (fun h => absurd h (by decide))⟩
theorem pg_m12 : mj_okm pg pg_Ts pg_yn pg_cc pg_rt 12 := ⟨by decide +kernel, tw_517, by decide, (fun h => absurd h (by decide)), (fun _ => rfl), (fun h => absurd h (by decide)), (fun h => absurd h (by decide))⟩
theorem pg_m13 : mj_okm pg pg_Ts pg_yn pg_cc pg_rt 13 := ⟨by decide +kernel, tw_525, by decide, (fun h => absurd h (by decide)), (fun _ => rfl), (fun h => absurd h (by decide)), (fun h => absurd h (by decide))⟩
theorem pg_m14 : mj_okm pg pg_Ts pg_yn pg_cc pg_rt 14 := ⟨by decide +kernel, tw_534, by decide, (fun h => absurd h (by decide)), (fun _ => rfl), (fun h => absurd h (by decide)), (fun h => absurd h (by decide))⟩
theorem pg_m15 : mj_okm pg pg_Ts pg_yn pg_cc pg_rt 15 := ⟨by decide +kernel, tw_160, by decide, (fun h => absurd h (by decide)), (fun h => absurd h (by decide)), (fun _ => rfl), (fun h => absurd h (by decide))⟩
theorem pg_m16 : mj_okm pg pg_Ts pg_yn pg_cc pg_rt 16 := ⟨by decide +kernel, tw_540, by decide, (fun _ => rfl), (fun h => absurd h (by decide)), (fun h => absurd h (by decide)), (fun h => absurd h (by decide))⟩
theorem pg_m17 : mj_okm pg pg_Ts pg_yn pg_cc pg_rt 17 := ⟨by decide +kernel, tw_687, by decide, (fun h => absurd h (by decide)), (fun h => absurd h (by decide)), (fun _ => rfl), (fun h => absurd h (by decide))⟩
theorem pg_m18 : mj_okm pg pg_Ts pg_yn pg_cc pg_rt 18 := ⟨by decide +kernel, tw_707, by decide, (fun h => absurd h (by decide)), (fun h => absurd h (by decide)), (fun _ => rfl), (fun h => absurd h (by decide))⟩
theorem pg_m19 : mj_okm pg pg_Ts pg_yn pg_cc pg_rt 19 := ⟨by decide +kernel, tw_679, by decide, (fun h => absurd h (by decide)), (fun _ => rfl), (fun h => absurd h (by decide)), (fun h => absurd h (by decide))⟩
theorem pg_m20 : mj_okm pg pg_Ts pg_yn pg_cc pg_rt 20 := ⟨by decide +kernel, tw_691, by decide, (fun h => absurd h (by decide)), (fun h => absurd h (by decide)), (fun _ => rfl), (fun h => absurd h (by decide))⟩
theorem pg_m21 : mj_okm pg pg_Ts pg_yn pg_cc pg_rt 21 := ⟨by decide +kernel, tw_695, by decide, (fun h => absurd h (by decide)), (fun h => absurd h (by decide)), (fun _ => rfl), (fun h => absurd h (by decide))⟩
theorem pg_m22 : mj_okm pg pg_Ts pg_yn pg_cc pg_rt 22 := ⟨by decide +kernel, tw_683, by decide, (fun h => absurd h (by decide)), (fun _ => rfl), (fun h => absurd h (by decide)), (fun h => absurd h (by decide))⟩
theorem pg_m23 : mj_okm pg pg_Ts pg_yn pg_cc pg_rt 23 := ⟨by decide +kernel, tw_699, by decide, (fun h => absurd h (by decide)), (fun _ => rfl), (fun h => absurd h (by decide)), (fun h => absurd h (by decide))⟩
theorem pg_m24 : mj_okm pg pg_Ts pg_yn pg_cc pg_rt 24 := ⟨by decide +kernel, tw_703, by decide, (fun h => absurd h (by decide)), (fun h => absurd h (by decide)), (fun _ => rfl), (fun h => absurd h (by decide))⟩
theorem pg_m25 : mj_okm pg pg_Ts pg_yn pg_cc pg_rt 25 := ⟨by decide +kernel, tw_711, by decide, (fun h => absurd h (by decide)), (fun h => absurd h (by decide)), (fun _ => rfl), (fun h => absurd h (by decide))⟩
theorem pg_m26 : mj_okm pg pg_Ts pg_yn pg_cc pg_rt 26 := ⟨by decide +kernel, tw_715, by decide, (fun h => absurd h (by decide)), (fun h => absurd h (by decide)), (fun _ => rfl), (fun h => absurd h (by decide))⟩
theorem pg_m27 : mj_okm pg pg_Ts pg_yn pg_cc pg_rt 27 := ⟨by decide +kernel, tw_731, by decide, (fun h => absurd h (by decide)), (fun h => absurd h (by decide)), (fun _ => rfl), (fun h => absurd h (by decide))⟩
theorem pg_m28 : mj_okm pg pg_Ts pg_yn pg_cc pg_rt 28 := ⟨by decide +kernel, tw_727, by decide, (fun _ => rfl), (fun h => absurd h (by decide)), (fun h => absurd h (by decide)), (fun h => absurd h (by decide))⟩
theorem pg_m29 : mj_okm pg pg_Ts pg_yn pg_cc pg_rt 29 := ⟨by decide +kernel, tw_723, by decide, (fun _ => rfl), (fun h => absurd h (by decide)), (fun h => absurd h (by decide)), (fun h => absurd h (by decide))⟩
theorem pg_m30 : mj_okm pg pg_Ts pg_yn pg_cc pg_rt 30 := ⟨by decide +kernel, tw_719, by decide, (fun h => absurd h (by decide)), (fun _ => rfl), (fun h => absurd h (by decide)), (fun h => absurd h (by decide))⟩
theorem pg_m31 : mj_okm pg pg_Ts pg_yn pg_cc pg_rt 31 := ⟨by decide +kernel, tw_739, by decide, (fun h => absurd h (by decide)), (fun _ => rfl), (fun h => absurd h (by decide)), (fun h => absurd h (by decide))⟩
theorem pg_m32 : mj_okm pg pg_Ts pg_yn pg_cc pg_rt 32 := ⟨by decide +kernel, tw_735, by decide, (fun h => absurd h (by decide)), (fun _ => rfl), (fun h => absurd h (by decide)), (fun h => absurd h (by decide))⟩
theorem pg_m33 : mj_okm pg pg_Ts pg_yn pg_cc pg_rt 33 := ⟨by decide +kernel, tw_751, by decide, (fun h => absurd h (by decide)), (fun _ => rfl), (fun h => absurd h (by decide)), (fun h => absurd h (by decide))⟩
theorem pg_m34 : mj_okm pg pg_Ts pg_yn pg_cc pg_rt 34 := ⟨by decide +kernel, tw_771, by decide, (fun _ => rfl), (fun h => absurd h (by decide)), (fun h => absurd h (by decide)), (fun h => absurd h (by decide))⟩
theorem pg_m35 : mj_okm pg pg_Ts pg_yn pg_cc pg_rt 35 := ⟨by decide +kernel, tw_767, by decide, (fun _ => rfl), (fun h => absurd h (by decide)), (fun h => absurd h (by decide)), (fun h => absurd h (by decide))⟩
theorem pg_m36 : mj_okm pg pg_Ts pg_yn pg_cc pg_rt 36 := ⟨by decide +kernel, tw_763, by decide, (fun _ => rfl), (fun h => absurd h (by decide)), (fun h => absurd h (by decide)), (fun h => absurd h (by decide))⟩
theorem pg_m37 : mj_okm pg pg_Ts pg_yn pg_cc pg_rt 37 := ⟨by decide +kernel, tw_759, by decide, (fun _ => rfl), (fun h => absurd h (by decide)), (fun h => absurd h (by decide)), (fun h => absurd h (by decide))⟩
theorem pg_m38 : mj_okm pg pg_Ts pg_yn pg_cc pg_rt 38 := ⟨by decide +kernel, tw_775, by decide, (fun h => absurd h (by decide)), (fun _ => rfl), (fun h => absurd h (by decide)), (fun h => absurd h (by decide))⟩
theorem pg_m39 : mj_okm pg pg_Ts pg_yn pg_cc pg_rt 39 := ⟨by decide +kernel, tw_755, by decide, (fun _ => rfl), (fun h => absurd h (by decide)), (fun h => absurd h (by decide)), (fun h => absurd h (by decide))⟩
theorem pg_m40 : mj_okm pg pg_Ts pg_yn pg_cc pg_rt 40 := ⟨by decide +kernel, tw_747, by decide, (fun h => absurd h (by decide)), (fun _ => rfl), (fun h => absurd h (by decide)), (fun h => absurd h (by decide))⟩
theorem pg_m41 : mj_okm pg pg_Ts pg_yn pg_cc pg_rt 41 := ⟨by decide +kernel, tw_743, by decide, (fun h => absurd h (by decide)), (fun _ => rfl), (fun h => absurd h (by decide)), (fun h => absurd h (by decide))⟩
theorem pg_m42 : mj_okm pg pg_Ts pg_yn pg_cc pg_rt 42 := ⟨by decide +kernel, tw_779, by decide, (fun h => absurd h (by decide)), (fun _ => rfl), (fun h => absurd h (by decide)), (fun h => absurd h (by decide))⟩
theorem pg_m43 : mj_okm pg pg_Ts pg_yn pg_cc pg_rt 43 := ⟨by decide +kernel, tw_783, by decide, (fun h => absurd h (by decide)), (fun _ => rfl), (fun h => absurd h (by decide)), (fun h => absurd h (by decide))⟩
theorem pg_m44 : mj_okm pg pg_Ts pg_yn pg_cc pg_rt 44 := ⟨by decide +kernel, tw_787, by decide, (fun h => absurd h (by decide)), (fun _ => rfl), (fun h => absurd h (by decide)), (fun h => absurd h (by decide))⟩
theorem pg_m45 : mj_okm pg pg_Ts pg_yn pg_cc pg_rt 45 := ⟨by decide +kernel, tw_791, by decide, (fun h => absurd h (by decide)), (fun _ => rfl), (fun h => absurd h (by decide)), (fun h => absurd h (by decide))⟩
theorem pg_m46 : mj_okm pg pg_Ts pg_yn pg_cc pg_rt 46 := ⟨by decide +kernel, tw_103, by decide, (fun _ => rfl), (fun h => absurd h (by decide)), (fun h => absurd h (by decide)), (fun h => absurd h (by decide))⟩
theorem pg_m47 : mj_okm pg pg_Ts pg_yn pg_cc pg_rt 47 := ⟨by decide +kernel, tw_388, by decide, (fun _ => rfl), (fun h => absurd h (by decide)), (fun h => absurd h (by decide)), (fun h => absurd h (by decide))⟩
theorem pg_m48 : mj_okm pg pg_Ts pg_yn pg_cc pg_rt 48 := ⟨by decide +kernel, tw_460, by decide, (fun h => absurd h (by decide)), (fun _ => rfl), (fun h => absurd h (by decide)), (fun h => absurd h (by decide))⟩
theorem pg_m49 : mj_okm pg pg_Ts pg_yn pg_cc pg_rt 49 := ⟨by decide +kernel, tw_407, by decide, (fun h => absurd h (by decide)), (fun h => absurd h (by decide)), (fun _ => rfl), (fun h => absurd h (by decide))⟩
theorem pg_m50 : mj_okm pg pg_Ts pg_yn pg_cc pg_rt 50 := ⟨by decide +kernel, tw_477, by decide, (fun _ => rfl), (fun h => absurd h (by decide)), (fun h => absurd h (by decide)), (fun h => absurd h (by decide))⟩
theorem pg_m51 : mj_okm pg pg_Ts pg_yn pg_cc pg_rt 51 := ⟨by decide +kernel, tw_489, by decide, (fun _ => rfl), (fun h => absurd h (by decide)), (fun h => absurd h (by decide)), (fun h => absurd h (by decide))⟩
theorem pg_m52 : mj_okm pg pg_Ts pg_yn pg_cc pg_rt 52 := ⟨by decide +kernel, tw_513, by decide, (fun h => absurd h (by decide)), (fun _ => rfl), (fun h => absurd h (by decide)), (fun h => absurd h (by decide))⟩
theorem pg_m53 : mj_okm pg pg_Ts pg_yn pg_cc pg_rt 53 := ⟨by decide +kernel, tw_168, by decide, (fun _ => rfl), (fun h => absurd h (by decide)), (fun h => absurd h (by decide)), (fun h => absurd h (by decide))⟩
theorem pg_m54 : mj_okm pg pg_Ts pg_yn pg_cc pg_rt 54 := ⟨by decide +kernel, tw_251, by decide, (fun h => absurd h (by decide)), (fun h => absurd h (by decide)), (fun _ => rfl), (fun h => absurd h (by decide))⟩
theorem pg_m55 : mj_okm pg pg_Ts pg_yn pg_cc pg_rt 55 := ⟨by decide +kernel, tw_265, by decide, (fun _ => rfl), (fun h => absurd h (by decide)), (fun h => absurd h (by decide)), (fun h => absurd h (by decide))⟩
theorem pg_m56 : mj_okm pg pg_Ts pg_yn pg_cc pg_rt 56 := ⟨by decide +kernel, tw_411, by decide, (fun h => absurd h (by decide)), (fun h => absurd h (by decide)), (fun _ => rfl), (fun h => absurd h (by decide))⟩
theorem pg_m57 : mj_okm pg pg_Ts pg_yn pg_cc pg_rt 57 := ⟨by decide +kernel, tw_379, by decide, (fun _ => rfl), (fun h => absurd h (by decide)), (fun h => absurd h (by decide)), (fun h => absurd h (by decide))⟩
theorem pg_m58 : mj_okm pg pg_Ts pg_yn pg_cc pg_rt 58 := ⟨by decide +kernel, tw_472, by decide, (fun _ => rfl), (fun h => absurd h (by decide)), (fun h => absurd h (by decide)), (fun h => absurd h (by decide))⟩
theorem pg_m59 : mj_okm pg pg_Ts pg_yn pg_cc pg_rt 59 := ⟨by decide +kernel, tw_436, by decide, (fun _ => rfl), (fun h => absurd h (by decide)), (fun h => absurd h (by decide)), (fun h => absurd h (by decide))⟩
theorem pg_m60 : mj_okm pg pg_Ts pg_yn pg_cc pg_rt 60 := ⟨by decide +kernel, tw_468, by decide, (fun _ => rfl), (fun h => absurd h (by decide)), (fun h => absurd h (by decide)), (fun h => absurd h (by decide))⟩
theorem pg_m61 : mj_okm pg pg_Ts pg_yn pg_cc pg_rt 61 := ⟨by decide +kernel, tw_464, by decide, (fun h => absurd h (by decide)), (fun h => absurd h (by decide)), (fun _ => rfl), (fun h => absurd h (by decide))⟩
theorem pg_m62 : mj_okm pg pg_Ts pg_yn pg_cc pg_rt 62 := ⟨by decide +kernel, tw_448, by decide, (fun _ => rfl), (fun h => absurd h (by decide)), (fun h => absurd h (by decide)), (fun h => absurd h (by decide))⟩
theorem pg_m63 : mj_okm pg pg_Ts pg_yn pg_cc pg_rt 63 := ⟨by decide +kernel, tw_521, by decide, (fun h => absurd h (by decide)), (fun _ => rfl), (fun h => absurd h (by decide)), (fun h => absurd h (by decide))⟩
theorem pg_m64 : mj_okm pg pg_Ts pg_yn pg_cc pg_rt 64 := ⟨by decide +kernel, tw_87, by decide, (fun _ => rfl), (fun h => absurd h (by decide)), (fun h => absurd h (by decide)), (fun h => absurd h (by decide))⟩
theorem pg_m65 : mj_okm pg pg_Ts pg_yn pg_cc pg_rt 65 := ⟨by decide +kernel, tw_374, by decide, (fun _ => rfl), (fun h => absurd h (by decide)), (fun h => absurd h (by decide)), (fun h => absurd h (by decide))⟩
theorem pg_m66 : mj_okm pg pg_Ts pg_yn pg_cc pg_rt 66 := ⟨by decide +kernel, tw_440, by decide, (fun _ => rfl), (fun h => absurd h (by decide)), (fun h => absurd h (by decide)), (fun h => absurd h (by decide))⟩
theorem pg_m67 : mj_okm pg pg_Ts pg_yn pg_cc pg_rt 67 := ⟨by decide +kernel, tw_501, by decide, (fun h => absurd h (by decide)), (fun _ => rfl), (fun h => absurd h (by decide)), (fun h => absurd h (by decide))⟩
theorem pg_m68 : mj_okm pg pg_Ts pg_yn pg_cc pg_rt 68 := ⟨by decide +kernel, tw_57, by decide, (fun _ => rfl), (fun h => absurd h (by decide)), (fun h => absurd h (by decide)), (fun h => absurd h (by decide))⟩
theorem pg_m69 : mj_okm pg pg_Ts pg_yn pg_cc pg_rt 69 := ⟨by decide +kernel, tw_360, by decide, (fun h => absurd h (by decide)), (fun h => absurd h (by decide)), (fun _ => rfl), (fun h => absurd h (by decide))⟩
theorem pg_m70 : mj_okm pg pg_Ts pg_yn pg_cc pg_rt 70 := ⟨by decide +kernel, tw_247, by decide, (fun h => absurd h (by decide)), (fun h => absurd h (by decide)), (fun _ => rfl), (fun h => absurd h (by decide))⟩
theorem pg_m71 : mj_okm pg pg_Ts pg_yn pg_cc pg_rt 71 := ⟨by decide +kernel, tw_259, by decide, (fun _ => rfl), (fun h => absurd h (by decide)), (fun h => absurd h (by decide)), (fun h => absurd h (by decide))⟩
theorem pg_m72 : mj_okm pg pg_Ts pg_yn pg_cc pg_rt 72 := ⟨by decide +kernel, tw_432, by decide, (fun _ => rfl), (fun h => absurd h (by decide)), (fun h => absurd h (by decide)), (fun h => absurd h (by decide))⟩
theorem pg_m73 : mj_okm pg pg_Ts pg_yn pg_cc pg_rt 73 := ⟨by decide +kernel, tw_530, by decide, (fun h => absurd h (by decide)), (fun h => absurd h (by decide)), (fun h => absurd h (by decide)), (fun _ => ⟨_, rfl⟩)⟩
theorem pg_m74 : mj_okm pg pg_Ts pg_yn pg_cc pg_rt 74 := ⟨by decide +kernel, tw_353, by decide, (fun _ => rfl), (fun h => absurd h (by decide)), (fun h => absurd h (by decide)), (fun h => absurd h (by decide))⟩
theorem pg_m75 : mj_okm pg pg_Ts pg_yn pg_cc pg_rt 75 := ⟨by decide +kernel, tw_51, by decide, (fun _ => rfl), (fun h => absurd h (by decide)), (fun h => absurd h (by decide)), (fun h => absurd h (by decide))⟩
theorem pg_m76 : mj_okm pg pg_Ts pg_yn pg_cc pg_rt 76 := ⟨by decide +kernel, tw_509, by decide, (fun h => absurd h (by decide)), (fun h => absurd h (by decide)), (fun h => absurd h (by decide)), (fun _ => ⟨_, rfl⟩)⟩
theorem pg_m77 : mj_okm pg pg_Ts pg_yn pg_cc pg_rt 77 := ⟨by decide +kernel, tw_366, by decide, (fun _ => rfl), (fun h => absurd h (by decide)), (fun h => absurd h (by decide)), (fun h => absurd h (by decide))⟩
theorem pg_m78 : mj_okm pg pg_Ts pg_yn pg_cc pg_rt 78 := ⟨by decide +kernel, tw_370, by decide, (fun _ => rfl), (fun h => absurd h (by decide)), (fun h => absurd h (by decide)), (fun h => absurd h (by decide))⟩
theorem pg_m79 : mj_okm pg pg_Ts pg_yn pg_cc pg_rt 79 := ⟨by decide +kernel, tw_383, by decide, (fun _ => rfl), (fun h => absurd h (by decide)), (fun h => absurd h (by decide)), (fun h => absurd h (by decide))⟩
theorem pg_m80 : mj_okm pg pg_Ts pg_yn pg_cc pg_rt 80 := ⟨by decide +kernel, tw_398, by decide, (fun h => absurd h (by decide)), (fun _ => rfl), (fun h => absurd h (by decide)), (fun h => absurd h (by decide))⟩
theorem pg_m81 : mj_okm pg pg_Ts pg_yn pg_cc pg_rt 81 := ⟨by decide +kernel, tw_402, by decide, (fun h => absurd h (by decide)), (fun _ => rfl), (fun h => absurd h (by decide)), (fun h => absurd h (by decide))⟩
theorem pg_m82 : mj_okm pg pg_Ts pg_yn pg_cc pg_rt 82 := ⟨by decide +kernel, tw_415, by decide, (fun _ => rfl), (fun h => absurd h (by decide)), (fun h => absurd h (by decide)), (fun h => absurd h (by decide))⟩
theorem pg_m83 : mj_okm pg pg_Ts pg_yn pg_cc pg_rt 83 := ⟨by decide +kernel, tw_419, by decide, (fun _ => rfl), (fun h => absurd h (by decide)), (fun h => absurd h (by decide)), (fun h => absurd h (by decide))⟩
theorem pg_m84 : mj_okm pg pg_Ts pg_yn pg_cc pg_rt 84 := ⟨by decide +kernel, tw_423, by decide, (fun h => absurd h (by decide)), (fun _ => rfl), (fun h => absurd h (by decide)), (fun h => absurd h (by decide))⟩
theorem pg_m85 : mj_okm pg pg_Ts pg_yn pg_cc pg_rt 85 := ⟨by decide +kernel, tw_485, by decide, (fun h => absurd h (by decide)), (fun _ => rfl), (fun h => absurd h (by decide)), (fun h => absurd h (by decide))⟩
theorem pg_m86 : mj_okm pg pg_Ts pg_yn pg_cc pg_rt 86 := ⟨by decide +kernel, tw_452, by decide, (fun h => absurd h (by decide)), (fun _ => rfl), (fun h => absurd h (by decide)), (fun h => absurd h (by decide))⟩
theorem pg_m87 : mj_okm pg pg_Ts pg_yn pg_cc pg_rt 87 := ⟨by decide +kernel, tw_456, by decide, (fun h => absurd h (by decide)), (fun h => absurd h (by decide)), (fun _ => rfl), (fun h => absurd h (by decide))⟩
theorem pg_m88 : mj_okm pg pg_Ts pg_yn pg_cc pg_rt 88 := ⟨by decide +kernel, tw_428, by decide, (fun h => absurd h (by decide)), (fun _ => rfl), (fun h => absurd h (by decide)), (fun h => absurd h (by decide))⟩
theorem pg_m89 : mj_okm pg pg_Ts pg_yn pg_cc pg_rt 89 := ⟨by decide +kernel, tw_24, by decide, (fun _ => rfl), (fun h => absurd h (by decide)), (fun h => absurd h (by decide)), (fun h => absurd h (by decide))⟩
theorem pg_m90 : mj_okm pg pg_Ts pg_yn pg_cc pg_rt 90 := ⟨by decide +kernel, tw_243, by decide, (fun h => absurd h (by decide)), (fun h => absurd h (by decide)), (fun h => absurd h (by decide)), (fun _ => ⟨_, rfl⟩)⟩
theorem pg_m91 : mj_okm pg pg_Ts pg_yn pg_cc pg_rt 91 := ⟨by decide +kernel, tw_324, by decide, (fun h => absurd h (by decide)), (fun h => absurd h (by decide)), (fun h => absurd h (by decide)), (fun _ => ⟨_, rfl⟩)⟩
theorem pg_m92 : mj_okm pg pg_Ts pg_yn pg_cc pg_rt 92 := ⟨by decide +kernel, tw_164, by decide, (fun h => absurd h (by decide)), (fun _ => rfl), (fun h => absurd h (by decide)), (fun h => absurd h (by decide))⟩
theorem pg_m93 : mj_okm pg pg_Ts pg_yn pg_cc pg_rt 93 := ⟨by decide +kernel, tw_273, by decide, (fun h => absurd h (by decide)), (fun _ => rfl), (fun h => absurd h (by decide)), (fun h => absurd h (by decide))⟩
theorem pg_m94 : mj_okm pg pg_Ts pg_yn pg_cc pg_rt 94 := ⟨by decide +kernel, tw_255, by decide, (fun _ => rfl), (fun h => absurd h (by decide)), (fun h => absurd h (by decide)), (fun h => absurd h (by decide))⟩
theorem pg_m95 : mj_okm pg pg_Ts pg_yn pg_cc pg_rt 95 := ⟨by decide +kernel, tw_444, by decide, (fun _ => rfl), (fun h => absurd h (by decide)), (fun h => absurd h (by decide)), (fun h => absurd h (by decide))⟩
theorem pg_m96 : mj_okm pg pg_Ts pg_yn pg_cc pg_rt 96 := ⟨by decide +kernel, tw_341, by decide, (fun h => absurd h (by decide)), (fun _ => rfl), (fun h => absurd h (by decide)), (fun h => absurd h (by decide))⟩
theorem pg_m97 : mj_okm pg pg_Ts pg_yn pg_cc pg_rt 97 := ⟨by decide +kernel, tw_277, by decide, (fun _ => rfl), (fun h => absurd h (by decide)), (fun h => absurd h (by decide)), (fun h => absurd h (by decide))⟩
theorem pg_m98 : mj_okm pg pg_Ts pg_yn pg_cc pg_rt 98 := ⟨by decide +kernel, tw_349, by decide, (fun _ => rfl), (fun h => absurd h (by decide)), (fun h => absurd h (by decide)), (fun h => absurd h (by decide))⟩
theorem pg_m99 : mj_okm pg pg_Ts pg_yn pg_cc pg_rt 99 := ⟨by decide +kernel, tw_356, by decide, (fun _ => rfl), (fun h => absurd h (by decide)), (fun h => absurd h (by decide)), (fun h => absurd h (by decide))⟩
theorem pg_m100 : mj_okm pg pg_Ts pg_yn pg_cc pg_rt 100 := ⟨by decide +kernel, tw_345, by decide, (fun h => absurd h (by decide)), (fun _ => rfl), (fun h => absurd h (by decide)), (fun h => absurd h (by decide))⟩
theorem pg_m101 : mj_okm pg pg_Ts pg_yn pg_cc pg_rt 101 := ⟨by decide +kernel, tw_481, by decide, (fun h => absurd h (by decide)), (fun _ => rfl), (fun h => absurd h (by decide)), (fun h => absurd h (by decide))⟩
theorem pg_m102 : mj_okm pg pg_Ts pg_yn pg_cc pg_rt 102 := ⟨by decide +kernel, tw_391, by decide, (fun _ => rfl), (fun h => absurd h (by decide)), (fun h => absurd h (by decide)), (fun h => absurd h (by decide))⟩
theorem pg_dfl0 : ∀ (ad : Nat → Nat) (j : Nat), j < 7 → defaultValue (pg_ty 0 j) = vp_V ((pg.2.2.2.1 0).map (mj_cv ad)) j := by
  intro ad j hj
  rcases (show j = 0 ∨ j = 1 ∨ j = 2 ∨ j = 3 ∨ j = 4 ∨ j = 5 ∨ j = 6 by omega) with rfl | rfl | rfl | rfl | rfl | rfl | rfl <;> rfl
theorem pg_dfl1 : ∀ (ad : Nat → Nat) (j : Nat), j < 15 → defaultValue (pg_ty 1 j) = vp_V ((pg.2.2.2.1 1).map (mj_cv ad)) j := by
  intro ad j hj
  rcases (show j = 0 ∨ j = 1 ∨ j = 2 ∨ j = 3 ∨ j = 4 ∨ j = 5 ∨ j = 6 ∨ j = 7 ∨ j = 8 ∨ j = 9 ∨ j = 10 ∨ j = 11 ∨ j = 12 ∨ j = 13 ∨ j = 14 by omega) with rfl | rfl | rfl | rfl | rfl | rfl | rfl | rfl | rfl | rfl | rfl | rfl | rfl | rfl | rfl <;> rfl
theorem pg_dfl2 : ∀ (ad : Nat → Nat) (j : Nat), j < 2 → defaultValue (pg_ty 2 j) = vp_V ((pg.2.2.2.1 2).map (mj_cv ad)) j := by
  intro ad j hj
  rcases (show j = 0 ∨ j = 1 by omega) with rfl | rfl <;> rfl
theorem pg_dfl3 : ∀ (ad : Nat → Nat) (j : Nat), j < 4 → defaultValue (pg_ty 3 j) = vp_V ((pg.2.2.2.1 3).map (mj_cv ad)) j := by
  intro ad j hj
  rcases (show j = 0 ∨ j = 1 ∨ j = 2 ∨ j = 3 by omega) with rfl | rfl | rfl | rfl <;> rfl
theorem pg_dfl4 : ∀ (ad : Nat → Nat) (j : Nat), j < 5 → defaultValue (pg_ty 4 j) = vp_V ((pg.2.2.2.1 4).map (mj_cv ad)) j := by
  intro ad j hj
  rcases (show j = 0 ∨ j = 1 ∨ j = 2 ∨ j = 3 ∨ j = 4 by omega) with rfl | rfl | rfl | rfl | rfl <;> rfl
theorem pg_dfl5 : ∀ (ad : Nat → Nat) (j : Nat), j < 4 → defaultValue (pg_ty 5 j) = vp_V ((pg.2.2.2.1 5).map (mj_cv ad)) j := by
  intro ad j hj
  rcases (show j = 0 ∨ j = 1 ∨ j = 2 ∨ j = 3 by omega) with rfl | rfl | rfl | rfl <;> rfl
theorem pg_dfl6 : ∀ (ad : Nat → Nat) (j : Nat), j < 8 → defaultValue (pg_ty 6 j) = vp_V ((pg.2.2.2.1 6).map (mj_cv ad)) j := by
  intro ad j hj
  rcases (show j = 0 ∨ j = 1 ∨ j = 2 ∨ j = 3 ∨ j = 4 ∨ j = 5 ∨ j = 6 ∨ j = 7 by omega) with rfl | rfl | rfl | rfl | rfl | rfl | rfl | rfl <;> rfl
theorem pg_dfl7 : ∀ (ad : Nat → Nat) (j : Nat), j < 2 → defaultValue (pg_ty 7 j) = vp_V ((pg.2.2.2.1 7).map (mj_cv ad)) j := by
  intro ad j hj
  rcases (show j = 0 ∨ j = 1 by omega) with rfl | rfl <;> rfl
theorem pg_dfl8 : ∀ (ad : Nat → Nat) (j : Nat), j < 44 → defaultValue (pg_ty 8 j) = vp_V ((pg.2.2.2.1 8).map (mj_cv ad)) j := by
  intro ad j hj
  rcases (show j = 0 ∨ j = 1 ∨ j = 2 ∨ j = 3 ∨ j = 4 ∨ j = 5 ∨ j = 6 ∨ j = 7 ∨ j = 8 ∨ j = 9 ∨ j = 10 ∨ j = 11 ∨ j = 12 ∨ j = 13 ∨ j = 14 ∨ j = 15 ∨ j = 16 ∨ j = 17 ∨ j = 18 ∨ j = 19 ∨ j = 20 ∨ j = 21 ∨ j = 22 ∨ j = 23 ∨ j = 24 ∨ j = 25 ∨ j = 26 ∨ j = 27 ∨ j = 28 ∨ j = 29 ∨ j = 30 ∨ j = 31 ∨ j = 32 ∨ j = 33 ∨ j = 34 ∨ j = 35 ∨ j = 36 ∨ j = 37 ∨ j = 38 ∨ j = 39 ∨ j = 40 ∨ j = 41 ∨ j = 42 ∨ j = 43 by omega) with rfl | rfl | rfl | rfl | rfl | rfl | rfl | rfl | rfl | rfl | rfl | rfl | rfl | rfl | rfl | rfl | rfl | rfl | rfl | rfl | rfl | rfl | rfl | rfl | rfl | rfl | rfl | rfl | rfl | rfl | rfl | rfl | rfl | rfl | rfl | rfl | rfl | rfl | rfl | rfl | rfl | rfl | rfl | rfl <;> rfl
end
section
set_option maxRecDepth 100000 in
theorem pg_lk0_0 : ∀ q ∈ (pg_c0.drop 0).take 40, mj_lk pg pg_cl pg_ty pg_Ts pg_Nw pg_ak pg_yn pg_cc pg_rt 0 q.1 q.2 := List.forall_mem_cons.mpr ⟨(lk_new pg_okc7 tw_12 tw_13 tw_1 rfl pg_dfl7), List.forall_mem_cons.mpr ⟨trivial, List.forall_mem_cons.mpr ⟨(lk_i (by decide) ⟨pg_m1, by decide, tw_1, ⟨by decide, by decide⟩, Or.inl tw_14⟩ (by decide) tw_15 rfl rfl (by decide +kernel) (by decide)), List.forall_mem_cons.mpr ⟨trivial, List.forall_mem_cons.mpr ⟨(lk_new pg_okc8 tw_536 tw_537 tw_8 rfl pg_dfl8), List.forall_mem_cons.mpr ⟨trivial, List.forall_mem_cons.mpr ⟨(lk_i (by decide) ⟨pg_m16, by decide, tw_8, ⟨by decide, by decide⟩, Or.inl tw_538⟩ (by decide) tw_539 rfl rfl (by decide +kernel) (by decide)), List.forall_mem_cons.mpr ⟨trivial, List.forall_mem_cons.mpr ⟨trivial, List.forall_mem_cons.mpr ⟨trivial, List.forall_mem_cons.mpr ⟨trivial, List.forall_mem_cons.mpr ⟨trivial, List.forall_mem_cons.mpr ⟨trivial, List.forall_mem_cons.mpr ⟨trivial, List.forall_mem_cons.mpr ⟨trivial, List.forall_mem_cons.mpr ⟨rfl, List.forall_mem_cons.mpr ⟨trivial, List.forall_mem_cons.mpr ⟨trivial, List.forall_mem_cons.mpr ⟨trivial, List.forall_mem_cons.mpr ⟨trivial, List.forall_mem_cons.mpr ⟨trivial, List.forall_mem_cons.mpr ⟨rfl, List.forall_mem_cons.mpr ⟨trivial, List.forall_mem_cons.mpr ⟨trivial, List.forall_mem_cons.mpr ⟨trivial, List.forall_mem_cons.mpr ⟨trivial, List.forall_mem_cons.mpr ⟨trivial, List.forall_mem_cons.mpr ⟨trivial, List.forall_mem_cons.mpr ⟨trivial, List.forall_mem_cons.mpr ⟨trivial, List.forall_mem_cons.mpr ⟨trivial, List.forall_mem_cons.mpr ⟨trivial, List.forall_mem_cons.mpr ⟨trivial, List.forall_mem_cons.mpr ⟨trivial, List.forall_mem_cons.mpr ⟨trivial, List.forall_mem_cons.mpr ⟨trivial, List.forall_mem_cons.mpr ⟨trivial, List.forall_mem_cons.mpr ⟨trivial, List.forall_mem_cons.mpr ⟨rfl, List.forall_mem_cons.mpr ⟨trivial, fun _ h => absurd h List.not_mem_nil⟩⟩⟩⟩⟩⟩⟩⟩⟩⟩⟩⟩⟩⟩⟩⟩⟩⟩⟩⟩⟩⟩⟩⟩⟩⟩⟩⟩⟩⟩⟩⟩⟩⟩⟩⟩⟩⟩⟩⟩
set_option maxRecDepth 100000 in
theorem pg_lk0_1 : ∀ q ∈ (pg_c0.drop 40).take 40, mj_lk pg pg_cl pg_ty pg_Ts pg_Nw pg_ak pg_yn pg_cc pg_rt 0 q.1 q.2 := List.forall_mem_cons.mpr ⟨rfl, List.forall_mem_cons.mpr ⟨trivial, List.forall_mem_cons.mpr ⟨trivial, List.forall_mem_cons.mpr ⟨trivial, List.forall_mem_cons.mpr ⟨trivial, List.forall_mem_cons.mpr ⟨trivial, List.forall_mem_cons.mpr ⟨trivial, List.forall_mem_cons.mpr ⟨rfl, List.forall_mem_cons.mpr ⟨trivial, List.forall_mem_cons.mpr ⟨rfl, List.forall_mem_cons.mpr ⟨trivial, List.forall_mem_cons.mpr ⟨(lk_v ⟨pg_m2, by decide, tw_1, ⟨by decide, by decide⟩, Or.inl tw_154⟩ (by decide) tw_155 tw_156 (by decide +kernel) (by decide) rfl), List.forall_mem_cons.mpr ⟨trivial, List.forall_mem_cons.mpr ⟨trivial, List.forall_mem_cons.mpr ⟨trivial, List.forall_mem_cons.mpr ⟨trivial, List.forall_mem_cons.mpr ⟨trivial, List.forall_mem_cons.mpr ⟨trivial, List.forall_mem_cons.mpr ⟨trivial, List.forall_mem_cons.mpr ⟨trivial, List.forall_mem_cons.mpr ⟨trivial, List.forall_mem_cons.mpr ⟨trivial, List.forall_mem_cons.mpr ⟨trivial, List.forall_mem_cons.mpr ⟨trivial, List.forall_mem_cons.mpr ⟨trivial, List.forall_mem_cons.mpr ⟨trivial, List.forall_mem_cons.mpr ⟨trivial, List.forall_mem_cons.mpr ⟨trivial, List.forall_mem_cons.mpr ⟨rfl, List.forall_mem_cons.mpr ⟨trivial, List.forall_mem_cons.mpr ⟨rfl, List.forall_mem_cons.mpr ⟨trivial, List.forall_mem_cons.mpr ⟨trivial, List.forall_mem_cons.mpr ⟨trivial, List.forall_mem_cons.mpr ⟨trivial, List.forall_mem_cons.mpr ⟨trivial, List.forall_mem_cons.mpr ⟨trivial, List.forall_mem_cons.mpr ⟨rfl, List.forall_mem_cons.mpr ⟨trivial, List.forall_mem_cons.mpr ⟨rfl, fun _ h => absurd h List.not_mem_nil⟩⟩⟩⟩⟩⟩⟩⟩⟩⟩⟩⟩⟩⟩⟩⟩⟩⟩⟩⟩⟩⟩⟩⟩⟩⟩⟩⟩⟩⟩⟩⟩⟩⟩⟩⟩⟩⟩⟩⟩
set_option maxRecDepth 100000 in
theorem pg_lk0_2 : ∀ q ∈ (pg_c0.drop 80).take 40, mj_lk pg pg_cl pg_ty pg_Ts pg_Nw pg_ak pg_yn pg_cc pg_rt 0 q.1 q.2 := List.forall_mem_cons.mpr ⟨trivial, List.forall_mem_cons.mpr ⟨(lk_v ⟨pg_m19, by decide, tw_8, ⟨by decide, by decide⟩, Or.inl tw_676⟩ (by decide) tw_677 tw_678 (by decide +kernel) (by decide) rfl), List.forall_mem_cons.mpr ⟨rfl, List.forall_mem_cons.mpr ⟨trivial, List.forall_mem_cons.mpr ⟨trivial, List.forall_mem_cons.mpr ⟨trivial, List.forall_mem_cons.mpr ⟨trivial, List.forall_mem_cons.mpr ⟨trivial, List.forall_mem_cons.mpr ⟨trivial, List.forall_mem_cons.mpr ⟨trivial, List.forall_mem_cons.mpr ⟨trivial, List.forall_mem_cons.mpr ⟨trivial, List.forall_mem_cons.mpr ⟨trivial, List.forall_mem_cons.mpr ⟨trivial, List.forall_mem_cons.mpr ⟨trivial, List.forall_mem_cons.mpr ⟨trivial, List.forall_mem_cons.mpr ⟨(lk_v ⟨pg_m3, by decide, tw_1, ⟨by decide, by decide⟩, Or.inl tw_236⟩ (by decide) tw_237 tw_238 (by decide +kernel) (by decide) rfl), List.forall_mem_cons.mpr ⟨trivial, List.forall_mem_cons.mpr ⟨trivial, List.forall_mem_cons.mpr ⟨trivial, List.forall_mem_cons.mpr ⟨trivial, List.forall_mem_cons.mpr ⟨trivial, List.forall_mem_cons.mpr ⟨trivial, List.forall_mem_cons.mpr ⟨trivial, List.forall_mem_cons.mpr ⟨trivial, List.forall_mem_cons.mpr ⟨trivial, List.forall_mem_cons.mpr ⟨trivial, List.forall_mem_cons.mpr ⟨trivial, List.forall_mem_cons.mpr ⟨(lk_v ⟨pg_m22, by decide, tw_8, ⟨by decide, by decide⟩, Or.inl tw_680⟩ (by decide) tw_681 tw_682 (by decide +kernel) (by decide) rfl), List.forall_mem_cons.mpr ⟨rfl, List.forall_mem_cons.mpr ⟨trivial, List.forall_mem_cons.mpr ⟨trivial, List.forall_mem_cons.mpr ⟨trivial, List.forall_mem_cons.mpr ⟨trivial, List.forall_mem_cons.mpr ⟨trivial, List.forall_mem_cons.mpr ⟨trivial, List.forall_mem_cons.mpr ⟨trivial, List.forall_mem_cons.mpr ⟨trivial, List.forall_mem_cons.mpr ⟨(lk_v ⟨pg_m4, by decide, tw_1, ⟨by decide, by decide⟩, Or.inl tw_266⟩ (by decide) tw_267 tw_268 (by decide +kernel) (by decide) rfl), List.forall_mem_cons.mpr ⟨trivial, fun _ h => absurd h List.not_mem_nil⟩⟩⟩⟩⟩⟩⟩⟩⟩⟩⟩⟩⟩⟩⟩⟩⟩⟩⟩⟩⟩⟩⟩⟩⟩⟩⟩⟩⟩⟩⟩⟩⟩⟩⟩⟩⟩⟩⟩⟩
set_option maxRecDepth 100000 in
theorem pg_lk0_3 : ∀ q ∈ (pg_c0.drop 120).take 40, mj_lk pg pg_cl pg_ty pg_Ts pg_Nw pg_ak pg_yn pg_cc pg_rt 0 q.1 q.2 := List.forall_mem_cons.mpr ⟨trivial, List.forall_mem_cons.mpr ⟨trivial, List.forall_mem_cons.mpr ⟨trivial, List.forall_mem_cons.mpr ⟨trivial, List.forall_mem_cons.mpr ⟨trivial, List.forall_mem_cons.mpr ⟨(lk_v ⟨pg_m23, by decide, tw_8, ⟨by decide, by decide⟩, Or.inl tw_696⟩ (by decide) tw_697 tw_698 (by decide +kernel) (by decide) rfl), List.forall_mem_cons.mpr ⟨rfl, List.forall_mem_cons.mpr ⟨trivial, List.forall_mem_cons.mpr ⟨trivial, List.forall_mem_cons.mpr ⟨trivial, List.forall_mem_cons.mpr ⟨trivial, List.forall_mem_cons.mpr ⟨trivial, List.forall_mem_cons.mpr ⟨trivial, List.forall_mem_cons.mpr ⟨trivial, List.forall_mem_cons.mpr ⟨trivial, List.forall_mem_cons.mpr ⟨trivial, List.forall_mem_cons.mpr ⟨trivial, List.forall_mem_cons.mpr ⟨trivial, List.forall_mem_cons.mpr ⟨trivial, List.forall_mem_cons.mpr ⟨trivial, List.forall_mem_cons.mpr ⟨(lk_v ⟨pg_m5, by decide, tw_1, ⟨by decide, by decide⟩, Or.inl tw_317⟩ (by decide) tw_318 tw_319 (by decide +kernel) (by decide) rfl), List.forall_mem_cons.mpr ⟨trivial, List.forall_mem_cons.mpr ⟨trivial, List.forall_mem_cons.mpr ⟨trivial, List.forall_mem_cons.mpr ⟨trivial, List.forall_mem_cons.mpr ⟨trivial, List.forall_mem_cons.mpr ⟨trivial, List.forall_mem_cons.mpr ⟨trivial, List.forall_mem_cons.mpr ⟨trivial, List.forall_mem_cons.mpr ⟨trivial, List.forall_mem_cons.mpr ⟨trivial, List.forall_mem_cons.mpr ⟨trivial, List.forall_mem_cons.mpr ⟨(lk_v ⟨pg_m24, by decide, tw_8, ⟨by decide, by decide⟩, Or.inl tw_700⟩ (by decide) tw_701 tw_702 (by decide +kernel) (by decide) rfl), List.forall_mem_cons.mpr ⟨rfl, List.forall_mem_cons.mpr ⟨trivial, List.forall_mem_cons.mpr ⟨trivial, List.forall_mem_cons.mpr ⟨trivial, List.forall_mem_cons.mpr ⟨trivial, List.forall_mem_cons.mpr ⟨trivial, List.forall_mem_cons.mpr ⟨trivial, fun _ h => absurd h List.not_mem_nil⟩⟩⟩⟩⟩⟩⟩⟩⟩⟩⟩⟩⟩⟩⟩⟩⟩⟩⟩⟩⟩⟩⟩⟩⟩⟩⟩⟩⟩⟩⟩⟩⟩⟩⟩⟩⟩⟩⟩⟩
set_option maxRecDepth 100000 in
theorem pg_lk0_4 : ∀ q ∈ (pg_c0.drop 160).take 40, mj_lk pg pg_cl pg_ty pg_Ts pg_Nw pg_ak pg_yn pg_cc pg_rt 0 q.1 q.2 := List.forall_mem_cons.mpr ⟨trivial, List.forall_mem_cons.mpr ⟨trivial, List.forall_mem_cons.mpr ⟨trivial, List.forall_mem_cons.mpr ⟨trivial, List.forall_mem_cons.mpr ⟨trivial, List.forall_mem_cons.mpr ⟨trivial, List.forall_mem_cons.mpr ⟨trivial, List.forall_mem_cons.mpr ⟨trivial, List.forall_mem_cons.mpr ⟨trivial, List.forall_mem_cons.mpr ⟨trivial, List.forall_mem_cons.mpr ⟨trivial, List.forall_mem_cons.mpr ⟨trivial, List.forall_mem_cons.mpr ⟨(lk_v ⟨pg_m6, by decide, tw_1, ⟨by decide, by decide⟩, Or.inl tw_326⟩ (by decide) tw_327 tw_328 (by decide +kernel) (by decide) rfl), List.forall_mem_cons.mpr ⟨trivial, List.forall_mem_cons.mpr ⟨trivial, List.forall_mem_cons.mpr ⟨trivial, List.forall_mem_cons.mpr ⟨trivial, List.forall_mem_cons.mpr ⟨trivial, List.forall_mem_cons.mpr ⟨trivial, List.forall_mem_cons.mpr ⟨trivial, List.forall_mem_cons.mpr ⟨trivial, List.forall_mem_cons.mpr ⟨trivial, List.forall_mem_cons.mpr ⟨trivial, List.forall_mem_cons.mpr ⟨trivial, List.forall_mem_cons.mpr ⟨trivial, List.forall_mem_cons.mpr ⟨trivial, List.forall_mem_cons.mpr ⟨trivial, List.forall_mem_cons.mpr ⟨trivial, List.forall_mem_cons.mpr ⟨trivial, List.forall_mem_cons.mpr ⟨(lk_v ⟨pg_m25, by decide, tw_8, ⟨by decide, by decide⟩, Or.inl tw_708⟩ (by decide) tw_709 tw_710 (by decide +kernel) (by decide) rfl), List.forall_mem_cons.mpr ⟨rfl, List.forall_mem_cons.mpr ⟨trivial, List.forall_mem_cons.mpr ⟨trivial, List.forall_mem_cons.mpr ⟨trivial, List.forall_mem_cons.mpr ⟨trivial, List.forall_mem_cons.mpr ⟨trivial, List.forall_mem_cons.mpr ⟨trivial, List.forall_mem_cons.mpr ⟨trivial, List.forall_mem_cons.mpr ⟨trivial, List.forall_mem_cons.mpr ⟨trivial, fun _ h => absurd h List.not_mem_nil⟩⟩⟩⟩⟩⟩⟩⟩⟩⟩⟩⟩⟩⟩⟩⟩⟩⟩⟩⟩⟩⟩⟩⟩⟩⟩⟩⟩⟩⟩⟩⟩⟩⟩⟩⟩⟩⟩⟩⟩
set_option maxRecDepth 100000 in
theorem pg_lk0_5 : ∀ q ∈ (pg_c0.drop 200).take 40, mj_lk pg pg_cl pg_ty pg_Ts pg_Nw pg_ak pg_yn pg_cc pg_rt 0 q.1 q.2 := List.forall_mem_cons.mpr ⟨trivial, List.forall_mem_cons.mpr ⟨trivial, List.forall_mem_cons.mpr ⟨trivial, List.forall_mem_cons.mpr ⟨trivial, List.forall_mem_cons.mpr ⟨trivial, List.forall_mem_cons.mpr ⟨trivial, List.forall_mem_cons.mpr ⟨trivial, List.forall_mem_cons.mpr ⟨trivial, List.forall_mem_cons.mpr ⟨trivial, List.forall_mem_cons.mpr ⟨(lk_v ⟨pg_m7, by decide, tw_1, ⟨by decide, by decide⟩, Or.inl tw_330⟩ (by decide) tw_331 tw_332 (by decide +kernel) (by decide) rfl), List.forall_mem_cons.mpr ⟨trivial, List.forall_mem_cons.mpr ⟨trivial, List.forall_mem_cons.mpr ⟨trivial, List.forall_mem_cons.mpr ⟨trivial, List.forall_mem_cons.mpr ⟨trivial, List.forall_mem_cons.mpr ⟨trivial, List.forall_mem_cons.mpr ⟨trivial, List.forall_mem_cons.mpr ⟨trivial, List.forall_mem_cons.mpr ⟨trivial, List.forall_mem_cons.mpr ⟨trivial, List.forall_mem_cons.mpr ⟨trivial, List.forall_mem_cons.mpr ⟨trivial, List.forall_mem_cons.mpr ⟨trivial, List.forall_mem_cons.mpr ⟨trivial, List.forall_mem_cons.mpr ⟨trivial, List.forall_mem_cons.mpr ⟨trivial, List.forall_mem_cons.mpr ⟨(lk_v ⟨pg_m26, by decide, tw_8, ⟨by decide, by decide⟩, Or.inl tw_712⟩ (by decide) tw_713 tw_714 (by decide +kernel) (by decide) rfl), List.forall_mem_cons.mpr ⟨rfl, List.forall_mem_cons.mpr ⟨trivial, List.forall_mem_cons.mpr ⟨trivial, List.forall_mem_cons.mpr ⟨trivial, List.forall_mem_cons.mpr ⟨trivial, List.forall_mem_cons.mpr ⟨trivial, List.forall_mem_cons.mpr ⟨trivial, List.forall_mem_cons.mpr ⟨trivial, List.forall_mem_cons.mpr ⟨trivial, List.forall_mem_cons.mpr ⟨(lk_v ⟨pg_m8, by decide, tw_1, ⟨by decide, by decide⟩, Or.inl tw_334⟩ (by decide) tw_335 tw_336 (by decide +kernel) (by decide) rfl), List.forall_mem_cons.mpr ⟨trivial, List.forall_mem_cons.mpr ⟨trivial, List.forall_mem_cons.mpr ⟨trivial, fun _ h => absurd h List.not_mem_nil⟩⟩⟩⟩⟩⟩⟩⟩⟩⟩⟩⟩⟩⟩⟩⟩⟩⟩⟩⟩⟩⟩⟩⟩⟩⟩⟩⟩⟩⟩⟩⟩⟩⟩⟩⟩⟩⟩⟩⟩
set_option maxRecDepth 100000 in
theorem pg_lk0_6 : ∀ q ∈ (pg_c0.drop 240).take 40, mj_lk pg pg_cl pg_ty pg_Ts pg_Nw pg_ak pg_yn pg_cc pg_rt 0 q.1 q.2 := List.forall_mem_cons.mpr ⟨trivial, List.forall_mem_cons.mpr ⟨trivial, List.forall_mem_cons.mpr ⟨trivial, List.forall_mem_cons.mpr ⟨(lk_v ⟨pg_m41, by decide, tw_8, ⟨by decide, by decide⟩, Or.inl tw_740⟩ (by decide) tw_741 tw_742 (by decide +kernel) (by decide) rfl), List.forall_mem_cons.mpr ⟨rfl, List.forall_mem_cons.mpr ⟨trivial, List.forall_mem_cons.mpr ⟨trivial, List.forall_mem_cons.mpr ⟨trivial, List.forall_mem_cons.mpr ⟨(lk_v ⟨pg_m9, by decide, tw_1, ⟨by decide, by decide⟩, Or.inl tw_490⟩ (by decide) tw_491 tw_492 (by decide +kernel) (by decide) rfl), List.forall_mem_cons.mpr ⟨trivial, List.forall_mem_cons.mpr ⟨(lk_v ⟨pg_m42, by decide, tw_8, ⟨by decide, by decide⟩, Or.inl tw_776⟩ (by decide) tw_777 tw_778 (by decide +kernel) (by decide) rfl), List.forall_mem_cons.mpr ⟨rfl, List.forall_mem_cons.mpr ⟨trivial, List.forall_mem_cons.mpr ⟨trivial, List.forall_mem_cons.mpr ⟨trivial, List.forall_mem_cons.mpr ⟨trivial, List.forall_mem_cons.mpr ⟨trivial, List.forall_mem_cons.mpr ⟨trivial, List.forall_mem_cons.mpr ⟨trivial, List.forall_mem_cons.mpr ⟨trivial, List.forall_mem_cons.mpr ⟨trivial, List.forall_mem_cons.mpr ⟨trivial, List.forall_mem_cons.mpr ⟨trivial, List.forall_mem_cons.mpr ⟨trivial, List.forall_mem_cons.mpr ⟨trivial, List.forall_mem_cons.mpr ⟨(lk_v ⟨pg_m10, by decide, tw_1, ⟨by decide, by decide⟩, Or.inl tw_494⟩ (by decide) tw_495 tw_496 (by decide +kernel) (by decide) rfl), List.forall_mem_cons.mpr ⟨trivial, List.forall_mem_cons.mpr ⟨trivial, List.forall_mem_cons.mpr ⟨trivial, List.forall_mem_cons.mpr ⟨trivial, List.forall_mem_cons.mpr ⟨trivial, List.forall_mem_cons.mpr ⟨trivial, List.forall_mem_cons.mpr ⟨trivial, List.forall_mem_cons.mpr ⟨trivial, List.forall_mem_cons.mpr ⟨trivial, List.forall_mem_cons.mpr ⟨trivial, List.forall_mem_cons.mpr ⟨trivial, List.forall_mem_cons.mpr ⟨(lk_v ⟨pg_m43, by decide, tw_8, ⟨by decide, by decide⟩, Or.inl tw_780⟩ (by decide) tw_781 tw_782 (by decide +kernel) (by decide) rfl), List.forall_mem_cons.mpr ⟨rfl, List.forall_mem_cons.mpr ⟨trivial, fun _ h => absurd h List.not_mem_nil⟩⟩⟩⟩⟩⟩⟩⟩⟩⟩⟩⟩⟩⟩⟩⟩⟩⟩⟩⟩⟩⟩⟩⟩⟩⟩⟩⟩⟩⟩⟩⟩⟩⟩⟩⟩⟩⟩⟩⟩
set_option maxRecDepth 100000 in
theorem pg_lk0_7 : ∀ q ∈ (pg_c0.drop 280).take 40, mj_lk pg pg_cl pg_ty pg_Ts pg_Nw pg_ak pg_yn pg_cc pg_rt 0 q.1 q.2 := List.forall_mem_cons.mpr ⟨trivial, List.forall_mem_cons.mpr ⟨trivial, List.forall_mem_cons.mpr ⟨trivial, List.forall_mem_cons.mpr ⟨trivial, List.forall_mem_cons.mpr ⟨trivial, List.forall_mem_cons.mpr ⟨trivial, List.forall_mem_cons.mpr ⟨trivial, List.forall_mem_cons.mpr ⟨trivial, List.forall_mem_cons.mpr ⟨trivial, List.forall_mem_cons.mpr ⟨trivial, List.forall_mem_cons.mpr ⟨trivial, List.forall_mem_cons.mpr ⟨trivial, List.forall_mem_cons.mpr ⟨(lk_v ⟨pg_m11, by decide, tw_1, ⟨by decide, by decide⟩, Or.inl tw_502⟩ (by decide) tw_503 tw_504 (by decide +kernel) (by decide) rfl), List.forall_mem_cons.mpr ⟨trivial, List.forall_mem_cons.mpr ⟨trivial, List.forall_mem_cons.mpr ⟨trivial, List.forall_mem_cons.mpr ⟨trivial, List.forall_mem_cons.mpr ⟨trivial, List.forall_mem_cons.mpr ⟨trivial, List.forall_mem_cons.mpr ⟨trivial, List.forall_mem_cons.mpr ⟨trivial, List.forall_mem_cons.mpr ⟨trivial, List.forall_mem_cons.mpr ⟨trivial, List.forall_mem_cons.mpr ⟨trivial, List.forall_mem_cons.mpr ⟨(lk_v ⟨pg_m44, by decide, tw_8, ⟨by decide, by decide⟩, Or.inl tw_784⟩ (by decide) tw_785 tw_786 (by decide +kernel) (by decide) rfl), List.forall_mem_cons.mpr ⟨rfl, List.forall_mem_cons.mpr ⟨trivial, List.forall_mem_cons.mpr ⟨trivial, List.forall_mem_cons.mpr ⟨trivial, List.forall_mem_cons.mpr ⟨trivial, List.forall_mem_cons.mpr ⟨trivial, List.forall_mem_cons.mpr ⟨trivial, List.forall_mem_cons.mpr ⟨trivial, List.forall_mem_cons.mpr ⟨trivial, List.forall_mem_cons.mpr ⟨trivial, List.forall_mem_cons.mpr ⟨trivial, List.forall_mem_cons.mpr ⟨trivial, List.forall_mem_cons.mpr ⟨trivial, List.forall_mem_cons.mpr ⟨trivial, List.forall_mem_cons.mpr ⟨(lk_v ⟨pg_m12, by decide, tw_1, ⟨by decide, by decide⟩, Or.inl tw_514⟩ (by decide) tw_515 tw_516 (by decide +kernel) (by decide) rfl), fun _ h => absurd h List.not_mem_nil⟩⟩⟩⟩⟩⟩⟩⟩⟩⟩⟩⟩⟩⟩⟩⟩⟩⟩⟩⟩⟩⟩⟩⟩⟩⟩⟩⟩⟩⟩⟩⟩⟩⟩⟩⟩⟩⟩⟩⟩
set_option maxRecDepth 100000 in
theorem pg_lk0_8 : ∀ q ∈ (pg_c0.drop 320).take 40, mj_lk pg pg_cl pg_ty pg_Ts pg_Nw pg_ak pg_yn pg_cc pg_rt 0 q.1 q.2 := List.forall_mem_cons.mpr ⟨trivial, List.forall_mem_cons.mpr ⟨trivial, List.forall_mem_cons.mpr ⟨trivial, List.forall_mem_cons.mpr ⟨trivial, List.forall_mem_cons.mpr ⟨trivial, List.forall_mem_cons.mpr ⟨trivial, List.forall_mem_cons.mpr ⟨trivial, List.forall_mem_cons.mpr ⟨trivial, List.forall_mem_cons.mpr ⟨trivial, List.forall_mem_cons.mpr ⟨trivial, List.forall_mem_cons.mpr ⟨trivial, List.forall_mem_cons.mpr ⟨(lk_v ⟨pg_m45, by decide, tw_8, ⟨by decide, by decide⟩, Or.inl tw_788⟩ (by decide) tw_789 tw_790 (by decide +kernel) (by decide) rfl), List.forall_mem_cons.mpr ⟨rfl, List.forall_mem_cons.mpr ⟨trivial, List.forall_mem_cons.mpr ⟨trivial, List.forall_mem_cons.mpr ⟨trivial, List.forall_mem_cons.mpr ⟨trivial, List.forall_mem_cons.mpr ⟨trivial, List.forall_mem_cons.mpr ⟨trivial, List.forall_mem_cons.mpr ⟨trivial, List.forall_mem_cons.mpr ⟨trivial, List.forall_mem_cons.mpr ⟨trivial, List.forall_mem_cons.mpr ⟨trivial, List.forall_mem_cons.mpr ⟨trivial, List.forall_mem_cons.mpr ⟨trivial, List.forall_mem_cons.mpr ⟨trivial, List.forall_mem_cons.mpr ⟨(lk_v ⟨pg_m13, by decide, tw_1, ⟨by decide, by decide⟩, Or.inl tw_522⟩ (by decide) tw_523 tw_524 (by decide +kernel) (by decide) rfl), List.forall_mem_cons.mpr ⟨trivial, List.forall_mem_cons.mpr ⟨trivial, List.forall_mem_cons.mpr ⟨trivial, List.forall_mem_cons.mpr ⟨trivial, List.forall_mem_cons.mpr ⟨trivial, List.forall_mem_cons.mpr ⟨trivial, List.forall_mem_cons.mpr ⟨trivial, List.forall_mem_cons.mpr ⟨trivial, List.forall_mem_cons.mpr ⟨trivial, List.forall_mem_cons.mpr ⟨trivial, List.forall_mem_cons.mpr ⟨trivial, List.forall_mem_cons.mpr ⟨(lk_v ⟨pg_m30, by decide, tw_8, ⟨by decide, by decide⟩, Or.inl tw_716⟩ (by decide) tw_717 tw_718 (by decide +kernel) (by decide) rfl), List.forall_mem_cons.mpr ⟨rfl, fun _ h => absurd h List.not_mem_nil⟩⟩⟩⟩⟩⟩⟩⟩⟩⟩⟩⟩⟩⟩⟩⟩⟩⟩⟩⟩⟩⟩⟩⟩⟩⟩⟩⟩⟩⟩⟩⟩⟩⟩⟩⟩⟩⟩⟩⟩
set_option maxRecDepth 100000 in
theorem pg_lk0_9 : ∀ q ∈ (pg_c0.drop 360).take 40, mj_lk pg pg_cl pg_ty pg_Ts pg_Nw pg_ak pg_yn pg_cc pg_rt 0 q.1 q.2 := List.forall_mem_cons.mpr ⟨trivial, List.forall_mem_cons.mpr ⟨trivial, List.forall_mem_cons.mpr ⟨trivial, List.forall_mem_cons.mpr ⟨trivial, List.forall_mem_cons.mpr ⟨trivial, List.forall_mem_cons.mpr ⟨trivial, List.forall_mem_cons.mpr ⟨trivial, List.forall_mem_cons.mpr ⟨trivial, List.forall_mem_cons.mpr ⟨(lk_v ⟨pg_m14, by decide, tw_1, ⟨by decide, by decide⟩, Or.inl tw_531⟩ (by decide) tw_532 tw_533 (by decide +kernel) (by decide) rfl), List.forall_mem_cons.mpr ⟨trivial, List.forall_mem_cons.mpr ⟨trivial, List.forall_mem_cons.mpr ⟨trivial, List.forall_mem_cons.mpr ⟨trivial, List.forall_mem_cons.mpr ⟨trivial, List.forall_mem_cons.mpr ⟨trivial, List.forall_mem_cons.mpr ⟨(lk_v ⟨pg_m32, by decide, tw_8, ⟨by decide, by decide⟩, Or.inl tw_732⟩ (by decide) tw_733 tw_734 (by decide +kernel) (by decide) rfl), List.forall_mem_cons.mpr ⟨rfl, List.forall_mem_cons.mpr ⟨trivial, List.forall_mem_cons.mpr ⟨trivial, List.forall_mem_cons.mpr ⟨trivial, List.forall_mem_cons.mpr ⟨rfl, List.forall_mem_cons.mpr ⟨trivial, List.forall_mem_cons.mpr ⟨trivial, fun _ h => absurd h List.not_mem_nil⟩⟩⟩⟩⟩⟩⟩⟩⟩⟩⟩⟩⟩⟩⟩⟩⟩⟩⟩⟩⟩⟩⟩
set_option maxRecDepth 100000 in
theorem pg_lk1_0 : ∀ q ∈ (pg_c1.drop 0).take 40, mj_lk pg pg_cl pg_ty pg_Ts pg_Nw pg_ak pg_yn pg_cc pg_rt 1 q.1 q.2 := List.forall_mem_cons.mpr ⟨trivial, List.forall_mem_cons.mpr ⟨(lk_o tw_17 tw_18 tw_19), List.forall_mem_cons.mpr ⟨trivial, List.forall_mem_cons.mpr ⟨(lk_new pg_okc5 tw_20 tw_21 tw_2 rfl pg_dfl5), List.forall_mem_cons.mpr ⟨trivial, List.forall_mem_cons.mpr ⟨(lk_i (by decide) ⟨pg_m89, by decide, tw_2, ⟨by decide, by decide⟩, Or.inr ⟨"FixtureOrder", List.mem_of_getElem? (i := 0) rfl⟩⟩ (by decide) tw_23 rfl rfl (by decide +kernel) (by decide)), List.forall_mem_cons.mpr ⟨(lk_putF pg_okc7 (by decide) (Or.inr (Or.inr ⟨rfl, Or.inl ⟨_, rfl⟩⟩)) rfl rfl rfl tw_147), List.forall_mem_cons.mpr ⟨trivial, List.forall_mem_cons.mpr ⟨(lk_new pg_okc4 tw_47 tw_48 tw_3 rfl pg_dfl4), List.forall_mem_cons.mpr ⟨trivial, List.forall_mem_cons.mpr ⟨(lk_i (by decide) ⟨pg_m75, by decide, tw_3, ⟨by decide, by decide⟩, Or.inl tw_49⟩ (by decide) tw_50 rfl rfl (by decide +kernel) (by decide)), List.forall_mem_cons.mpr ⟨(lk_putF pg_okc7 (by decide) (Or.inr (Or.inr ⟨rfl, Or.inl ⟨_, rfl⟩⟩)) rfl rfl rfl tw_148), List.forall_mem_cons.mpr ⟨trivial, fun _ h => absurd h List.not_mem_nil⟩⟩⟩⟩⟩⟩⟩⟩⟩⟩⟩⟩⟩
set_option maxRecDepth 100000 in
theorem pg_lk2_0 : ∀ q ∈ (pg_c2.drop 0).take 40, mj_lk pg pg_cl pg_ty pg_Ts pg_Nw pg_ak pg_yn pg_cc pg_rt 2 q.1 q.2 := List.forall_mem_cons.mpr ⟨trivial, List.forall_mem_cons.mpr ⟨trivial, List.forall_mem_cons.mpr ⟨trivial, List.forall_mem_cons.mpr ⟨(lk_s (by decide) (by decide) ⟨pg_m15, by decide, tw_1, ⟨by decide, by decide⟩, Or.inl tw_158⟩ tw_159 (by decide +kernel)), List.forall_mem_cons.mpr ⟨rfl, List.forall_mem_cons.mpr ⟨trivial, List.forall_mem_cons.mpr ⟨trivial, List.forall_mem_cons.mpr ⟨trivial, List.forall_mem_cons.mpr ⟨(lk_s (by decide) (by decide) ⟨pg_m15, by decide, tw_1, ⟨by decide, by decide⟩, Or.inl tw_158⟩ tw_159 (by decide +kernel)), List.forall_mem_cons.mpr ⟨rfl, List.forall_mem_cons.mpr ⟨trivial, List.forall_mem_cons.mpr ⟨trivial, List.forall_mem_cons.mpr ⟨trivial, List.forall_mem_cons.mpr ⟨(lk_get pg_okc7 (by decide) tw_147), List.forall_mem_cons.mpr ⟨trivial, List.forall_mem_cons.mpr ⟨trivial, List.forall_mem_cons.mpr ⟨trivial, List.forall_mem_cons.mpr ⟨trivial, List.forall_mem_cons.mpr ⟨(lk_v ⟨pg_m92, by decide, tw_2, ⟨by decide, by decide⟩, Or.inl tw_161⟩ (by decide) tw_162 tw_163 (by decide +kernel) (by decide) rfl), List.forall_mem_cons.mpr ⟨trivial, fun _ h => absurd h List.not_mem_nil⟩⟩⟩⟩⟩⟩⟩⟩⟩⟩⟩⟩⟩⟩⟩⟩⟩⟩⟩⟩
set_option maxRecDepth 100000 in
theorem pg_lk3_0 : ∀ q ∈ (pg_c3.drop 0).take 40, mj_lk pg pg_cl pg_ty pg_Ts pg_Nw pg_ak pg_yn pg_cc pg_rt 3 q.1 q.2 := List.forall_mem_cons.mpr ⟨trivial, List.forall_mem_cons.mpr ⟨(lk_get pg_okc7 (by decide) tw_147), List.forall_mem_cons.mpr ⟨trivial, List.forall_mem_cons.mpr ⟨(lk_v ⟨pg_m90, by decide, tw_2, ⟨by decide, by decide⟩, Or.inl tw_240⟩ (by decide) tw_241 tw_242 (by decide +kernel) (by decide) rfl), List.forall_mem_cons.mpr ⟨trivial, List.forall_mem_cons.mpr ⟨trivial, List.forall_mem_cons.mpr ⟨(lk_get pg_okc7 (by decide) tw_147), List.forall_mem_cons.mpr ⟨trivial, List.forall_mem_cons.mpr ⟨(lk_v ⟨pg_m90, by decide, tw_2, ⟨by decide, by decide⟩, Or.inl tw_240⟩ (by decide) tw_241 tw_242 (by decide +kernel) (by decide) rfl), List.forall_mem_cons.mpr ⟨trivial, List.forall_mem_cons.mpr ⟨trivial, List.forall_mem_cons.mpr ⟨rfl, List.forall_mem_cons.mpr ⟨trivial, List.forall_mem_cons.mpr ⟨rfl, List.forall_mem_cons.mpr ⟨trivial, List.forall_mem_cons.mpr ⟨trivial, List.forall_mem_cons.mpr ⟨trivial, List.forall_mem_cons.mpr ⟨(lk_get pg_okc1 (by decide) tw_193), List.forall_mem_cons.mpr ⟨trivial, List.forall_mem_cons.mpr ⟨(lk_v ⟨pg_m70, by decide, tw_4, ⟨by decide, by decide⟩, Or.inl tw_244⟩ (by decide) tw_245 tw_246 (by decide +kernel) (by decide) rfl), List.forall_mem_cons.mpr ⟨rfl, List.forall_mem_cons.mpr ⟨trivial, List.forall_mem_cons.mpr ⟨(lk_get pg_okc1 (by decide) tw_182), List.forall_mem_cons.mpr ⟨trivial, List.forall_mem_cons.mpr ⟨(lk_get pg_okc1 (by decide) tw_182), List.forall_mem_cons.mpr ⟨rfl, List.forall_mem_cons.mpr ⟨trivial, List.forall_mem_cons.mpr ⟨trivial, List.forall_mem_cons.mpr ⟨trivial, List.forall_mem_cons.mpr ⟨trivial, List.forall_mem_cons.mpr ⟨rfl, List.forall_mem_cons.mpr ⟨trivial, List.forall_mem_cons.mpr ⟨trivial, List.forall_mem_cons.mpr ⟨(lk_get pg_okc1 (by decide) tw_178), List.forall_mem_cons.mpr ⟨(lk_v ⟨pg_m54, by decide, tw_9, ⟨by decide, by decide⟩, Or.inl tw_248⟩ (by decide) tw_249 tw_250 (by decide +kernel) (by decide) rfl), List.forall_mem_cons.mpr ⟨rfl, List.forall_mem_cons.mpr ⟨trivial, List.forall_mem_cons.mpr ⟨trivial, List.forall_mem_cons.mpr ⟨trivial, List.forall_mem_cons.mpr ⟨(lk_get pg_okc7 (by decide) tw_147), fun _ h => absurd h List.not_mem_nil⟩⟩⟩⟩⟩⟩⟩⟩⟩⟩⟩⟩⟩⟩⟩⟩⟩⟩⟩⟩⟩⟩⟩⟩⟩⟩⟩⟩⟩⟩⟩⟩⟩⟩⟩⟩⟩⟩⟩⟩
set_option maxRecDepth 100000 in
theorem pg_lk3_1 : ∀ q ∈ (pg_c3.drop 40).take 40, mj_lk pg pg_cl pg_ty pg_Ts pg_Nw pg_ak pg_yn pg_cc pg_rt 3 q.1 q.2 := List.forall_mem_cons.mpr ⟨trivial, List.forall_mem_cons.mpr ⟨trivial, List.forall_mem_cons.mpr ⟨(lk_v ⟨pg_m94, by decide, tw_2, ⟨by decide, by decide⟩, Or.inl tw_252⟩ (by decide) tw_253 tw_254 (by decide +kernel) (by decide) rfl), List.forall_mem_cons.mpr ⟨trivial, List.forall_mem_cons.mpr ⟨trivial, fun _ h => absurd h List.not_mem_nil⟩⟩⟩⟩⟩
set_option maxRecDepth 100000 in
theorem pg_lk4_0 : ∀ q ∈ (pg_c4.drop 0).take 40, mj_lk pg pg_cl pg_ty pg_Ts pg_Nw pg_ak pg_yn pg_cc pg_rt 4 q.1 q.2 := List.forall_mem_cons.mpr ⟨trivial, List.forall_mem_cons.mpr ⟨trivial, List.forall_mem_cons.mpr ⟨trivial, List.forall_mem_cons.mpr ⟨(lk_s (by decide) (by decide) ⟨pg_m15, by decide, tw_1, ⟨by decide, by decide⟩, Or.inl tw_158⟩ tw_159 (by decide +kernel)), List.forall_mem_cons.mpr ⟨rfl, List.forall_mem_cons.mpr ⟨trivial, List.forall_mem_cons.mpr ⟨(lk_get pg_okc7 (by decide) tw_147), List.forall_mem_cons.mpr ⟨trivial, List.forall_mem_cons.mpr ⟨(lk_v ⟨pg_m93, by decide, tw_2, ⟨by decide, by decide⟩, Or.inl tw_270⟩ (by decide) tw_271 tw_272 (by decide +kernel) (by decide) rfl), List.forall_mem_cons.mpr ⟨rfl, List.forall_mem_cons.mpr ⟨trivial, List.forall_mem_cons.mpr ⟨trivial, fun _ h => absurd h List.not_mem_nil⟩⟩⟩⟩⟩⟩⟩⟩⟩⟩⟩⟩
set_option maxRecDepth 100000 in
theorem pg_lk5_0 : ∀ q ∈ (pg_c5.drop 0).take 40, mj_lk pg pg_cl pg_ty pg_Ts pg_Nw pg_ak pg_yn pg_cc pg_rt 5 q.1 q.2 := List.forall_mem_cons.mpr ⟨trivial, List.forall_mem_cons.mpr ⟨(lk_get pg_okc7 (by decide) tw_147), List.forall_mem_cons.mpr ⟨trivial, List.forall_mem_cons.mpr ⟨(lk_v ⟨pg_m91, by decide, tw_2, ⟨by decide, by decide⟩, Or.inl tw_321⟩ (by decide) tw_322 tw_323 (by decide +kernel) (by decide) rfl), List.forall_mem_cons.mpr ⟨trivial, List.forall_mem_cons.mpr ⟨trivial, List.forall_mem_cons.mpr ⟨(lk_get pg_okc7 (by decide) tw_147), List.forall_mem_cons.mpr ⟨trivial, List.forall_mem_cons.mpr ⟨(lk_v ⟨pg_m90, by decide, tw_2, ⟨by decide, by decide⟩, Or.inl tw_240⟩ (by decide) tw_241 tw_242 (by decide +kernel) (by decide) rfl), List.forall_mem_cons.mpr ⟨trivial, List.forall_mem_cons.mpr ⟨trivial, List.forall_mem_cons.mpr ⟨rfl, List.forall_mem_cons.mpr ⟨trivial, List.forall_mem_cons.mpr ⟨rfl, List.forall_mem_cons.mpr ⟨trivial, List.forall_mem_cons.mpr ⟨(lk_get pg_okc6 (by decide) tw_287), List.forall_mem_cons.mpr ⟨trivial, List.forall_mem_cons.mpr ⟨(lk_v ⟨pg_m70, by decide, tw_4, ⟨by decide, by decide⟩, Or.inl tw_244⟩ (by decide) tw_245 tw_246 (by decide +kernel) (by decide) rfl), List.forall_mem_cons.mpr ⟨rfl, List.forall_mem_cons.mpr ⟨trivial, List.forall_mem_cons.mpr ⟨trivial, List.forall_mem_cons.mpr ⟨trivial, List.forall_mem_cons.mpr ⟨(lk_get pg_okc6 (by decide) tw_287), List.forall_mem_cons.mpr ⟨trivial, List.forall_mem_cons.mpr ⟨(lk_v ⟨pg_m71, by decide, tw_4, ⟨by decide, by decide⟩, Or.inl tw_325⟩ (by decide) tw_257 tw_258 (by decide +kernel) (by decide) rfl), List.forall_mem_cons.mpr ⟨trivial, List.forall_mem_cons.mpr ⟨trivial, fun _ h => absurd h List.not_mem_nil⟩⟩⟩⟩⟩⟩⟩⟩⟩⟩⟩⟩⟩⟩⟩⟩⟩⟩⟩⟩⟩⟩⟩⟩⟩⟩⟩
set_option maxRecDepth 100000 in
theorem pg_lk6_0 : ∀ q ∈ (pg_c6.drop 0).take 40, mj_lk pg pg_cl pg_ty pg_Ts pg_Nw pg_ak pg_yn pg_cc pg_rt 6 q.1 q.2 := List.forall_mem_cons.mpr ⟨trivial, List.forall_mem_cons.mpr ⟨(lk_get pg_okc7 (by decide) tw_147), List.forall_mem_cons.mpr ⟨trivial, List.forall_mem_cons.mpr ⟨(lk_v ⟨pg_m91, by decide, tw_2, ⟨by decide, by decide⟩, Or.inl tw_321⟩ (by decide) tw_322 tw_323 (by decide +kernel) (by decide) rfl), List.forall_mem_cons.mpr ⟨trivial, List.forall_mem_cons.mpr ⟨trivial, List.forall_mem_cons.mpr ⟨rfl, List.forall_mem_cons.mpr ⟨trivial, List.forall_mem_cons.mpr ⟨rfl, List.forall_mem_cons.mpr ⟨trivial, List.forall_mem_cons.mpr ⟨rfl, List.forall_mem_cons.mpr ⟨trivial, List.forall_mem_cons.mpr ⟨trivial, List.forall_mem_cons.mpr ⟨trivial, List.forall_mem_cons.mpr ⟨trivial, List.forall_mem_cons.mpr ⟨(lk_put pg_okc6 (by decide) (Or.inl ⟨rfl, rfl⟩) rfl tw_293), List.forall_mem_cons.mpr ⟨trivial, List.forall_mem_cons.mpr ⟨trivial, List.forall_mem_cons.mpr ⟨(lk_put pg_okc6 (by decide) (Or.inl ⟨rfl, rfl⟩) rfl tw_295), List.forall_mem_cons.mpr ⟨trivial, List.forall_mem_cons.mpr ⟨trivial, fun _ h => absurd h List.not_mem_nil⟩⟩⟩⟩⟩⟩⟩⟩⟩⟩⟩⟩⟩⟩⟩⟩⟩⟩⟩⟩⟩
set_option maxRecDepth 100000 in
theorem pg_lk7_0 : ∀ q ∈ (pg_c7.drop 0).take 40, mj_lk pg pg_cl pg_ty pg_Ts pg_Nw pg_ak pg_yn pg_cc pg_rt 7 q.1 q.2 := List.forall_mem_cons.mpr ⟨trivial, List.forall_mem_cons.mpr ⟨(lk_get pg_okc7 (by decide) tw_147), List.forall_mem_cons.mpr ⟨trivial, List.forall_mem_cons.mpr ⟨(lk_v ⟨pg_m91, by decide, tw_2, ⟨by decide, by decide⟩, Or.inl tw_321⟩ (by decide) tw_322 tw_323 (by decide +kernel) (by decide) rfl), List.forall_mem_cons.mpr ⟨trivial, List.forall_mem_cons.mpr ⟨trivial, List.forall_mem_cons.mpr ⟨rfl, List.forall_mem_cons.mpr ⟨trivial, List.forall_mem_cons.mpr ⟨trivial, List.forall_mem_cons.mpr ⟨trivial, List.forall_mem_cons.mpr ⟨(lk_s (by decide) (by decide) ⟨pg_m15, by decide, tw_1, ⟨by decide, by decide⟩, Or.inl tw_158⟩ tw_159 (by decide +kernel)), List.forall_mem_cons.mpr ⟨rfl, List.forall_mem_cons.mpr ⟨trivial, List.forall_mem_cons.mpr ⟨trivial, List.forall_mem_cons.mpr ⟨trivial, List.forall_mem_cons.mpr ⟨(lk_s (by decide) (by decide) ⟨pg_m15, by decide, tw_1, ⟨by decide, by decide⟩, Or.inl tw_158⟩ tw_159 (by decide +kernel)), List.forall_mem_cons.mpr ⟨rfl, List.forall_mem_cons.mpr ⟨trivial, List.forall_mem_cons.mpr ⟨trivial, List.forall_mem_cons.mpr ⟨trivial, List.forall_mem_cons.mpr ⟨trivial, List.forall_mem_cons.mpr ⟨(lk_put pg_okc6 (by decide) (Or.inl ⟨rfl, rfl⟩) rfl tw_297), List.forall_mem_cons.mpr ⟨trivial, List.forall_mem_cons.mpr ⟨trivial, List.forall_mem_cons.mpr ⟨(lk_put pg_okc6 (by decide) (Or.inl ⟨rfl, rfl⟩) rfl tw_298), List.forall_mem_cons.mpr ⟨trivial, List.forall_mem_cons.mpr ⟨trivial, fun _ h => absurd h List.not_mem_nil⟩⟩⟩⟩⟩⟩⟩⟩⟩⟩⟩⟩⟩⟩⟩⟩⟩⟩⟩⟩⟩⟩⟩⟩⟩⟩⟩
set_option maxRecDepth 100000 in
theorem pg_lk8_0 : ∀ q ∈ (pg_c8.drop 0).take 40, mj_lk pg pg_cl pg_ty pg_Ts pg_Nw pg_ak pg_yn pg_cc pg_rt 8 q.1 q.2 := List.forall_mem_cons.mpr ⟨trivial, List.forall_mem_cons.mpr ⟨trivial, List.forall_mem_cons.mpr ⟨trivial, List.forall_mem_cons.mpr ⟨(lk_s (by decide) (by decide) ⟨pg_m15, by decide, tw_1, ⟨by decide, by decide⟩, Or.inl tw_158⟩ tw_159 (by decide +kernel)), List.forall_mem_cons.mpr ⟨rfl, List.forall_mem_cons.mpr ⟨trivial, List.forall_mem_cons.mpr ⟨trivial, List.forall_mem_cons.mpr ⟨trivial, List.forall_mem_cons.mpr ⟨(lk_get pg_okc7 (by decide) tw_147), List.forall_mem_cons.mpr ⟨(lk_v ⟨pg_m96, by decide, tw_2, ⟨by decide, by decide⟩, Or.inl tw_338⟩ (by decide) tw_339 tw_340 (by decide +kernel) (by decide) rfl), List.forall_mem_cons.mpr ⟨trivial, List.forall_mem_cons.mpr ⟨rfl, List.forall_mem_cons.mpr ⟨trivial, List.forall_mem_cons.mpr ⟨trivial, List.forall_mem_cons.mpr ⟨trivial, List.forall_mem_cons.mpr ⟨(lk_get pg_okc7 (by decide) tw_148), List.forall_mem_cons.mpr ⟨trivial, List.forall_mem_cons.mpr ⟨(lk_get pg_okc7 (by decide) tw_147), List.forall_mem_cons.mpr ⟨trivial, List.forall_mem_cons.mpr ⟨(lk_v ⟨pg_m77, by decide, tw_3, ⟨by decide, by decide⟩, Or.inl tw_363⟩ (by decide) tw_364 tw_365 (by decide +kernel) (by decide) rfl), List.forall_mem_cons.mpr ⟨trivial, List.forall_mem_cons.mpr ⟨(lk_get pg_okc7 (by decide) tw_148), List.forall_mem_cons.mpr ⟨(lk_get pg_okc4 (by decide) tw_133), List.forall_mem_cons.mpr ⟨trivial, fun _ h => absurd h List.not_mem_nil⟩⟩⟩⟩⟩⟩⟩⟩⟩⟩⟩⟩⟩⟩⟩⟩⟩⟩⟩⟩⟩⟩⟩⟩
set_option maxRecDepth 100000 in
theorem pg_lk9_0 : ∀ q ∈ (pg_c9.drop 0).take 40, mj_lk pg pg_cl pg_ty pg_Ts pg_Nw pg_ak pg_yn pg_cc pg_rt 9 q.1 q.2 := List.forall_mem_cons.mpr ⟨trivial, List.forall_mem_cons.mpr ⟨(lk_get pg_okc7 (by decide) tw_148), List.forall_mem_cons.mpr ⟨(lk_get pg_okc4 (by decide) tw_130), List.forall_mem_cons.mpr ⟨(lk_get pg_okc2 (by decide) tw_91), List.forall_mem_cons.mpr ⟨trivial, fun _ h => absurd h List.not_mem_nil⟩⟩⟩⟩⟩
set_option maxRecDepth 100000 in
theorem pg_lk10_0 : ∀ q ∈ (pg_c10.drop 0).take 40, mj_lk pg pg_cl pg_ty pg_Ts pg_Nw pg_ak pg_yn pg_cc pg_rt 10 q.1 q.2 := List.forall_mem_cons.mpr ⟨trivial, List.forall_mem_cons.mpr ⟨(lk_get pg_okc7 (by decide) tw_148), List.forall_mem_cons.mpr ⟨(lk_get pg_okc4 (by decide) tw_130), List.forall_mem_cons.mpr ⟨trivial, List.forall_mem_cons.mpr ⟨trivial, List.forall_mem_cons.mpr ⟨(lk_v ⟨pg_m67, by decide, tw_6, ⟨by decide, by decide⟩, Or.inl tw_498⟩ (by decide) tw_499 tw_500 (by decide +kernel) (by decide) rfl), List.forall_mem_cons.mpr ⟨trivial, fun _ h => absurd h List.not_mem_nil⟩⟩⟩⟩⟩⟩⟩
set_option maxRecDepth 100000 in
theorem pg_lk11_0 : ∀ q ∈ (pg_c11.drop 0).take 40, mj_lk pg pg_cl pg_ty pg_Ts pg_Nw pg_ak pg_yn pg_cc pg_rt 11 q.1 q.2 := List.forall_mem_cons.mpr ⟨trivial, List.forall_mem_cons.mpr ⟨(lk_get pg_okc7 (by decide) tw_148), List.forall_mem_cons.mpr ⟨trivial, List.forall_mem_cons.mpr ⟨(lk_v ⟨pg_m76, by decide, tw_3, ⟨by decide, by decide⟩, Or.inl tw_506⟩ (by decide) tw_507 tw_508 (by decide +kernel) (by decide) rfl), List.forall_mem_cons.mpr ⟨trivial, List.forall_mem_cons.mpr ⟨trivial, List.forall_mem_cons.mpr ⟨rfl, List.forall_mem_cons.mpr ⟨trivial, List.forall_mem_cons.mpr ⟨rfl, List.forall_mem_cons.mpr ⟨trivial, List.forall_mem_cons.mpr ⟨trivial, List.forall_mem_cons.mpr ⟨(lk_v ⟨pg_m52, by decide, tw_7, ⟨by decide, by decide⟩, Or.inl tw_510⟩ (by decide) tw_511 tw_512 (by decide +kernel) (by decide) rfl), List.forall_mem_cons.mpr ⟨trivial, fun _ h => absurd h List.not_mem_nil⟩⟩⟩⟩⟩⟩⟩⟩⟩⟩⟩⟩⟩
set_option maxRecDepth 100000 in
theorem pg_lk12_0 : ∀ q ∈ (pg_c12.drop 0).take 40, mj_lk pg pg_cl pg_ty pg_Ts pg_Nw pg_ak pg_yn pg_cc pg_rt 12 q.1 q.2 := List.forall_mem_cons.mpr ⟨trivial, List.forall_mem_cons.mpr ⟨(lk_get pg_okc7 (by decide) tw_147), List.forall_mem_cons.mpr ⟨trivial, List.forall_mem_cons.mpr ⟨(lk_v ⟨pg_m90, by decide, tw_2, ⟨by decide, by decide⟩, Or.inl tw_240⟩ (by decide) tw_241 tw_242 (by decide +kernel) (by decide) rfl), List.forall_mem_cons.mpr ⟨trivial, List.forall_mem_cons.mpr ⟨trivial, List.forall_mem_cons.mpr ⟨rfl, List.forall_mem_cons.mpr ⟨trivial, List.forall_mem_cons.mpr ⟨trivial, List.forall_mem_cons.mpr ⟨(lk_get pg_okc7 (by decide) tw_148), List.forall_mem_cons.mpr ⟨(lk_get pg_okc4 (by decide) tw_135), List.forall_mem_cons.mpr ⟨rfl, List.forall_mem_cons.mpr ⟨trivial, List.forall_mem_cons.mpr ⟨trivial, List.forall_mem_cons.mpr ⟨trivial, List.forall_mem_cons.mpr ⟨trivial, List.forall_mem_cons.mpr ⟨(lk_v ⟨pg_m63, by decide, tw_9, ⟨by decide, by decide⟩, Or.inl tw_518⟩ (by decide) tw_519 tw_520 (by decide +kernel) (by decide) rfl), List.forall_mem_cons.mpr ⟨trivial, fun _ h => absurd h List.not_mem_nil⟩⟩⟩⟩⟩⟩⟩⟩⟩⟩⟩⟩⟩⟩⟩⟩⟩⟩
set_option maxRecDepth 100000 in
theorem pg_lk13_0 : ∀ q ∈ (pg_c13.drop 0).take 40, mj_lk pg pg_cl pg_ty pg_Ts pg_Nw pg_ak pg_yn pg_cc pg_rt 13 q.1 q.2 := List.forall_mem_cons.mpr ⟨trivial, List.forall_mem_cons.mpr ⟨(lk_get pg_okc7 (by decide) tw_147), List.forall_mem_cons.mpr ⟨trivial, List.forall_mem_cons.mpr ⟨(lk_v ⟨pg_m91, by decide, tw_2, ⟨by decide, by decide⟩, Or.inl tw_321⟩ (by decide) tw_322 tw_323 (by decide +kernel) (by decide) rfl), List.forall_mem_cons.mpr ⟨trivial, List.forall_mem_cons.mpr ⟨trivial, List.forall_mem_cons.mpr ⟨rfl, List.forall_mem_cons.mpr ⟨trivial, List.forall_mem_cons.mpr ⟨trivial, List.forall_mem_cons.mpr ⟨trivial, List.forall_mem_cons.mpr ⟨(lk_v ⟨pg_m98, by decide, tw_10, ⟨by decide, by decide⟩, Or.inl tw_526⟩ (by decide) tw_347 tw_348 (by decide +kernel) (by decide) rfl), List.forall_mem_cons.mpr ⟨trivial, List.forall_mem_cons.mpr ⟨(lk_get pg_okc6 (by decide) tw_291), List.forall_mem_cons.mpr ⟨trivial, List.forall_mem_cons.mpr ⟨(lk_v ⟨pg_m73, by decide, tw_4, ⟨by decide, by decide⟩, Or.inl tw_527⟩ (by decide) tw_528 tw_529 (by decide +kernel) (by decide) rfl), List.forall_mem_cons.mpr ⟨trivial, List.forall_mem_cons.mpr ⟨trivial, List.forall_mem_cons.mpr ⟨rfl, List.forall_mem_cons.mpr ⟨trivial, List.forall_mem_cons.mpr ⟨rfl, List.forall_mem_cons.mpr ⟨trivial, List.forall_mem_cons.mpr ⟨(lk_get pg_okc1 (by decide) tw_174), List.forall_mem_cons.mpr ⟨trivial, fun _ h => absurd h List.not_mem_nil⟩⟩⟩⟩⟩⟩⟩⟩⟩⟩⟩⟩⟩⟩⟩⟩⟩⟩⟩⟩⟩⟩⟩
set_option maxRecDepth 100000 in
theorem pg_lk14_0 : ∀ q ∈ (pg_c14.drop 0).take 40, mj_lk pg pg_cl pg_ty pg_Ts pg_Nw pg_ak pg_yn pg_cc pg_rt 14 q.1 q.2 := List.forall_mem_cons.mpr ⟨trivial, List.forall_mem_cons.mpr ⟨(lk_get pg_okc7 (by decide) tw_147), List.forall_mem_cons.mpr ⟨trivial, List.forall_mem_cons.mpr ⟨(lk_v ⟨pg_m91, by decide, tw_2, ⟨by decide, by decide⟩, Or.inl tw_321⟩ (by decide) tw_322 tw_323 (by decide +kernel) (by decide) rfl), List.forall_mem_cons.mpr ⟨trivial, List.forall_mem_cons.mpr ⟨trivial, List.forall_mem_cons.mpr ⟨rfl, List.forall_mem_cons.mpr ⟨trivial, List.forall_mem_cons.mpr ⟨rfl, List.forall_mem_cons.mpr ⟨trivial, List.forall_mem_cons.mpr ⟨(lk_v ⟨pg_m100, by decide, tw_10, ⟨by decide, by decide⟩, Or.inl tw_535⟩ (by decide) tw_343 tw_344 (by decide +kernel) (by decide) rfl), List.forall_mem_cons.mpr ⟨trivial, fun _ h => absurd h List.not_mem_nil⟩⟩⟩⟩⟩⟩⟩⟩⟩⟩⟩⟩
set_option maxRecDepth 100000 in
theorem pg_lk15_0 : ∀ q ∈ (pg_c15.drop 0).take 40, mj_lk pg pg_cl pg_ty pg_Ts pg_Nw pg_ak pg_yn pg_cc pg_rt 15 q.1 q.2 := List.forall_mem_cons.mpr ⟨trivial, List.forall_mem_cons.mpr ⟨trivial, List.forall_mem_cons.mpr ⟨rfl, List.forall_mem_cons.mpr ⟨trivial, List.forall_mem_cons.mpr ⟨trivial, List.forall_mem_cons.mpr ⟨rfl, List.forall_mem_cons.mpr ⟨trivial, List.forall_mem_cons.mpr ⟨rfl, List.forall_mem_cons.mpr ⟨trivial, List.forall_mem_cons.mpr ⟨trivial, fun _ h => absurd h List.not_mem_nil⟩⟩⟩⟩⟩⟩⟩⟩⟩⟩
set_option maxRecDepth 100000 in
theorem pg_lk16_0 : ∀ q ∈ (pg_c16.drop 0).take 40, mj_lk pg pg_cl pg_ty pg_Ts pg_Nw pg_ak pg_yn pg_cc pg_rt 16 q.1 q.2 := List.forall_mem_cons.mpr ⟨trivial, List.forall_mem_cons.mpr ⟨(lk_o tw_541 tw_18 tw_19), List.forall_mem_cons.mpr ⟨trivial, List.forall_mem_cons.mpr ⟨trivial, List.forall_mem_cons.mpr ⟨(lk_na tw_97 tw_675), List.forall_mem_cons.mpr ⟨(lk_putF pg_okc8 (by decide) (Or.inr (Or.inr ⟨rfl, Or.inr ⟨_, rfl⟩⟩)) rfl rfl rfl tw_545), List.forall_mem_cons.mpr ⟨trivial, List.forall_mem_cons.mpr ⟨trivial, List.forall_mem_cons.mpr ⟨(lk_na tw_97 tw_675), List.forall_mem_cons.mpr ⟨(lk_putF pg_okc8 (by decide) (Or.inr (Or.inr ⟨rfl, Or.inr ⟨_, rfl⟩⟩)) rfl rfl rfl tw_546), List.forall_mem_cons.mpr ⟨trivial, List.forall_mem_cons.mpr ⟨trivial, List.forall_mem_cons.mpr ⟨(lk_na tw_97 tw_675), List.forall_mem_cons.mpr ⟨(lk_putF pg_okc8 (by decide) (Or.inr (Or.inr ⟨rfl, Or.inr ⟨_, rfl⟩⟩)) rfl rfl rfl tw_547), List.forall_mem_cons.mpr ⟨trivial, List.forall_mem_cons.mpr ⟨trivial, List.forall_mem_cons.mpr ⟨(lk_na tw_97 tw_675), List.forall_mem_cons.mpr ⟨(lk_putF pg_okc8 (by decide) (Or.inr (Or.inr ⟨rfl, Or.inr ⟨_, rfl⟩⟩)) rfl rfl rfl tw_548), List.forall_mem_cons.mpr ⟨trivial, List.forall_mem_cons.mpr ⟨trivial, List.forall_mem_cons.mpr ⟨(lk_na tw_97 tw_675), List.forall_mem_cons.mpr ⟨(lk_putF pg_okc8 (by decide) (Or.inr (Or.inr ⟨rfl, Or.inr ⟨_, rfl⟩⟩)) rfl rfl rfl tw_549), List.forall_mem_cons.mpr ⟨trivial, List.forall_mem_cons.mpr ⟨trivial, List.forall_mem_cons.mpr ⟨(lk_na tw_97 tw_675), List.forall_mem_cons.mpr ⟨(lk_putF pg_okc8 (by decide) (Or.inr (Or.inr ⟨rfl, Or.inr ⟨_, rfl⟩⟩)) rfl rfl rfl tw_550), List.forall_mem_cons.mpr ⟨trivial, List.forall_mem_cons.mpr ⟨trivial, List.forall_mem_cons.mpr ⟨(lk_na tw_97 tw_675), List.forall_mem_cons.mpr ⟨(lk_putF pg_okc8 (by decide) (Or.inr (Or.inr ⟨rfl, Or.inr ⟨_, rfl⟩⟩)) rfl rfl rfl tw_551), List.forall_mem_cons.mpr ⟨trivial, List.forall_mem_cons.mpr ⟨trivial, List.forall_mem_cons.mpr ⟨(lk_na tw_97 tw_675), List.forall_mem_cons.mpr ⟨(lk_putF pg_okc8 (by decide) (Or.inr (Or.inr ⟨rfl, Or.inr ⟨_, rfl⟩⟩)) rfl rfl rfl tw_552), List.forall_mem_cons.mpr ⟨trivial, List.forall_mem_cons.mpr ⟨trivial, List.forall_mem_cons.mpr ⟨(lk_na tw_97 tw_675), List.forall_mem_cons.mpr ⟨(lk_putF pg_okc8 (by decide) (Or.inr (Or.inr ⟨rfl, Or.inr ⟨_, rfl⟩⟩)) rfl rfl rfl tw_553), List.forall_mem_cons.mpr ⟨trivial, List.forall_mem_cons.mpr ⟨trivial, fun _ h => absurd h List.not_mem_nil⟩⟩⟩⟩⟩⟩⟩⟩⟩⟩⟩⟩⟩⟩⟩⟩⟩⟩⟩⟩⟩⟩⟩⟩⟩⟩⟩⟩⟩⟩⟩⟩⟩⟩⟩⟩⟩⟩⟩⟩
set_option maxRecDepth 100000 in
theorem pg_lk16_1 : ∀ q ∈ (pg_c16.drop 40).take 40, mj_lk pg pg_cl pg_ty pg_Ts pg_Nw pg_ak pg_yn pg_cc pg_rt 16 q.1 q.2 := List.forall_mem_cons.mpr ⟨(lk_na tw_97 tw_675), List.forall_mem_cons.mpr ⟨(lk_putF pg_okc8 (by decide) (Or.inr (Or.inr ⟨rfl, Or.inr ⟨_, rfl⟩⟩)) rfl rfl rfl tw_554), List.forall_mem_cons.mpr ⟨trivial, List.forall_mem_cons.mpr ⟨trivial, List.forall_mem_cons.mpr ⟨(lk_na tw_97 tw_675), List.forall_mem_cons.mpr ⟨(lk_putF pg_okc8 (by decide) (Or.inr (Or.inr ⟨rfl, Or.inr ⟨_, rfl⟩⟩)) rfl rfl rfl tw_555), List.forall_mem_cons.mpr ⟨trivial, List.forall_mem_cons.mpr ⟨trivial, List.forall_mem_cons.mpr ⟨(lk_na tw_97 tw_675), List.forall_mem_cons.mpr ⟨(lk_putF pg_okc8 (by decide) (Or.inr (Or.inr ⟨rfl, Or.inr ⟨_, rfl⟩⟩)) rfl rfl rfl tw_556), List.forall_mem_cons.mpr ⟨trivial, List.forall_mem_cons.mpr ⟨trivial, List.forall_mem_cons.mpr ⟨(lk_na tw_97 tw_675), List.forall_mem_cons.mpr ⟨(lk_putF pg_okc8 (by decide) (Or.inr (Or.inr ⟨rfl, Or.inr ⟨_, rfl⟩⟩)) rfl rfl rfl tw_557), List.forall_mem_cons.mpr ⟨trivial, List.forall_mem_cons.mpr ⟨trivial, List.forall_mem_cons.mpr ⟨(lk_na tw_97 tw_675), List.forall_mem_cons.mpr ⟨(lk_putF pg_okc8 (by decide) (Or.inr (Or.inr ⟨rfl, Or.inr ⟨_, rfl⟩⟩)) rfl rfl rfl tw_558), List.forall_mem_cons.mpr ⟨trivial, List.forall_mem_cons.mpr ⟨trivial, List.forall_mem_cons.mpr ⟨(lk_na tw_97 tw_675), List.forall_mem_cons.mpr ⟨(lk_putF pg_okc8 (by decide) (Or.inr (Or.inr ⟨rfl, Or.inr ⟨_, rfl⟩⟩)) rfl rfl rfl tw_559), List.forall_mem_cons.mpr ⟨trivial, List.forall_mem_cons.mpr ⟨trivial, List.forall_mem_cons.mpr ⟨(lk_na tw_97 tw_675), List.forall_mem_cons.mpr ⟨(lk_putF pg_okc8 (by decide) (Or.inr (Or.inr ⟨rfl, Or.inr ⟨_, rfl⟩⟩)) rfl rfl rfl tw_560), List.forall_mem_cons.mpr ⟨trivial, List.forall_mem_cons.mpr ⟨trivial, List.forall_mem_cons.mpr ⟨(lk_na tw_97 tw_675), List.forall_mem_cons.mpr ⟨(lk_putF pg_okc8 (by decide) (Or.inr (Or.inr ⟨rfl, Or.inr ⟨_, rfl⟩⟩)) rfl rfl rfl tw_566), List.forall_mem_cons.mpr ⟨trivial, List.forall_mem_cons.mpr ⟨trivial, List.forall_mem_cons.mpr ⟨(lk_na tw_97 tw_675), List.forall_mem_cons.mpr ⟨(lk_putF pg_okc8 (by decide) (Or.inr (Or.inr ⟨rfl, Or.inr ⟨_, rfl⟩⟩)) rfl rfl rfl tw_567), List.forall_mem_cons.mpr ⟨trivial, List.forall_mem_cons.mpr ⟨trivial, List.forall_mem_cons.mpr ⟨(lk_na tw_97 tw_675), List.forall_mem_cons.mpr ⟨(lk_putF pg_okc8 (by decide) (Or.inr (Or.inr ⟨rfl, Or.inr ⟨_, rfl⟩⟩)) rfl rfl rfl tw_568), List.forall_mem_cons.mpr ⟨trivial, List.forall_mem_cons.mpr ⟨trivial, fun _ h => absurd h List.not_mem_nil⟩⟩⟩⟩⟩⟩⟩⟩⟩⟩⟩⟩⟩⟩⟩⟩⟩⟩⟩⟩⟩⟩⟩⟩⟩⟩⟩⟩⟩⟩⟩⟩⟩⟩⟩⟩⟩⟩⟩⟩
set_option maxRecDepth 100000 in
theorem pg_lk16_2 : ∀ q ∈ (pg_c16.drop 80).take 40, mj_lk pg pg_cl pg_ty pg_Ts pg_Nw pg_ak pg_yn pg_cc pg_rt 16 q.1 q.2 := List.forall_mem_cons.mpr ⟨(lk_na tw_97 tw_675), List.forall_mem_cons.mpr ⟨(lk_putF pg_okc8 (by decide) (Or.inr (Or.inr ⟨rfl, Or.inr ⟨_, rfl⟩⟩)) rfl rfl rfl tw_569), List.forall_mem_cons.mpr ⟨trivial, List.forall_mem_cons.mpr ⟨trivial, List.forall_mem_cons.mpr ⟨(lk_na tw_97 tw_675), List.forall_mem_cons.mpr ⟨(lk_putF pg_okc8 (by decide) (Or.inr (Or.inr ⟨rfl, Or.inr ⟨_, rfl⟩⟩)) rfl rfl rfl tw_570), List.forall_mem_cons.mpr ⟨trivial, List.forall_mem_cons.mpr ⟨trivial, List.forall_mem_cons.mpr ⟨(lk_na tw_97 tw_675), List.forall_mem_cons.mpr ⟨(lk_putF pg_okc8 (by decide) (Or.inr (Or.inr ⟨rfl, Or.inr ⟨_, rfl⟩⟩)) rfl rfl rfl tw_571), List.forall_mem_cons.mpr ⟨trivial, List.forall_mem_cons.mpr ⟨trivial, List.forall_mem_cons.mpr ⟨(lk_na tw_97 tw_675), List.forall_mem_cons.mpr ⟨(lk_putF pg_okc8 (by decide) (Or.inr (Or.inr ⟨rfl, Or.inr ⟨_, rfl⟩⟩)) rfl rfl rfl tw_572), List.forall_mem_cons.mpr ⟨trivial, List.forall_mem_cons.mpr ⟨trivial, List.forall_mem_cons.mpr ⟨(lk_na tw_97 tw_675), List.forall_mem_cons.mpr ⟨(lk_putF pg_okc8 (by decide) (Or.inr (Or.inr ⟨rfl, Or.inr ⟨_, rfl⟩⟩)) rfl rfl rfl tw_573), List.forall_mem_cons.mpr ⟨trivial, List.forall_mem_cons.mpr ⟨trivial, List.forall_mem_cons.mpr ⟨(lk_na tw_97 tw_675), List.forall_mem_cons.mpr ⟨(lk_putF pg_okc8 (by decide) (Or.inr (Or.inr ⟨rfl, Or.inr ⟨_, rfl⟩⟩)) rfl rfl rfl tw_574), List.forall_mem_cons.mpr ⟨trivial, List.forall_mem_cons.mpr ⟨trivial, List.forall_mem_cons.mpr ⟨(lk_na tw_97 tw_675), List.forall_mem_cons.mpr ⟨(lk_putF pg_okc8 (by decide) (Or.inr (Or.inr ⟨rfl, Or.inr ⟨_, rfl⟩⟩)) rfl rfl rfl tw_575), List.forall_mem_cons.mpr ⟨trivial, List.forall_mem_cons.mpr ⟨trivial, List.forall_mem_cons.mpr ⟨(lk_na tw_97 tw_675), List.forall_mem_cons.mpr ⟨(lk_putF pg_okc8 (by decide) (Or.inr (Or.inr ⟨rfl, Or.inr ⟨_, rfl⟩⟩)) rfl rfl rfl tw_576), List.forall_mem_cons.mpr ⟨trivial, List.forall_mem_cons.mpr ⟨trivial, List.forall_mem_cons.mpr ⟨(lk_na tw_97 tw_675), List.forall_mem_cons.mpr ⟨(lk_putF pg_okc8 (by decide) (Or.inr (Or.inr ⟨rfl, Or.inr ⟨_, rfl⟩⟩)) rfl rfl rfl tw_577), List.forall_mem_cons.mpr ⟨trivial, List.forall_mem_cons.mpr ⟨trivial, List.forall_mem_cons.mpr ⟨(lk_na tw_97 tw_675), List.forall_mem_cons.mpr ⟨(lk_putF pg_okc8 (by decide) (Or.inr (Or.inr ⟨rfl, Or.inr ⟨_, rfl⟩⟩)) rfl rfl rfl tw_578), List.forall_mem_cons.mpr ⟨trivial, List.forall_mem_cons.mpr ⟨trivial, fun _ h => absurd h List.not_mem_nil⟩⟩⟩⟩⟩⟩⟩⟩⟩⟩⟩⟩⟩⟩⟩⟩⟩⟩⟩⟩⟩⟩⟩⟩⟩⟩⟩⟩⟩⟩⟩⟩⟩⟩⟩⟩⟩⟩⟩⟩
set_option maxRecDepth 100000 in
theorem pg_lk16_3 : ∀ q ∈ (pg_c16.drop 120).take 40, mj_lk pg pg_cl pg_ty pg_Ts pg_Nw pg_ak pg_yn pg_cc pg_rt 16 q.1 q.2 := List.forall_mem_cons.mpr ⟨(lk_na tw_97 tw_675), List.forall_mem_cons.mpr ⟨(lk_putF pg_okc8 (by decide) (Or.inr (Or.inr ⟨rfl, Or.inr ⟨_, rfl⟩⟩)) rfl rfl rfl tw_579), List.forall_mem_cons.mpr ⟨trivial, List.forall_mem_cons.mpr ⟨trivial, List.forall_mem_cons.mpr ⟨(lk_na tw_97 tw_675), List.forall_mem_cons.mpr ⟨(lk_putF pg_okc8 (by decide) (Or.inr (Or.inr ⟨rfl, Or.inr ⟨_, rfl⟩⟩)) rfl rfl rfl tw_580), List.forall_mem_cons.mpr ⟨trivial, List.forall_mem_cons.mpr ⟨trivial, List.forall_mem_cons.mpr ⟨(lk_na tw_97 tw_675), List.forall_mem_cons.mpr ⟨(lk_putF pg_okc8 (by decide) (Or.inr (Or.inr ⟨rfl, Or.inr ⟨_, rfl⟩⟩)) rfl rfl rfl tw_581), List.forall_mem_cons.mpr ⟨trivial, List.forall_mem_cons.mpr ⟨trivial, List.forall_mem_cons.mpr ⟨(lk_na tw_97 tw_675), List.forall_mem_cons.mpr ⟨(lk_putF pg_okc8 (by decide) (Or.inr (Or.inr ⟨rfl, Or.inr ⟨_, rfl⟩⟩)) rfl rfl rfl tw_582), List.forall_mem_cons.mpr ⟨trivial, List.forall_mem_cons.mpr ⟨trivial, List.forall_mem_cons.mpr ⟨(lk_na tw_97 tw_675), List.forall_mem_cons.mpr ⟨(lk_putF pg_okc8 (by decide) (Or.inr (Or.inr ⟨rfl, Or.inr ⟨_, rfl⟩⟩)) rfl rfl rfl tw_583), List.forall_mem_cons.mpr ⟨trivial, List.forall_mem_cons.mpr ⟨trivial, List.forall_mem_cons.mpr ⟨(lk_na tw_97 tw_675), List.forall_mem_cons.mpr ⟨(lk_putF pg_okc8 (by decide) (Or.inr (Or.inr ⟨rfl, Or.inr ⟨_, rfl⟩⟩)) rfl rfl rfl tw_584), List.forall_mem_cons.mpr ⟨trivial, fun _ h => absurd h List.not_mem_nil⟩⟩⟩⟩⟩⟩⟩⟩⟩⟩⟩⟩⟩⟩⟩⟩⟩⟩⟩⟩⟩⟩⟩
set_option maxRecDepth 100000 in
theorem pg_lk17_0 : ∀ q ∈ (pg_c17.drop 0).take 40, mj_lk pg pg_cl pg_ty pg_Ts pg_Nw pg_ak pg_yn pg_cc pg_rt 17 q.1 q.2 := List.forall_mem_cons.mpr ⟨trivial, List.forall_mem_cons.mpr ⟨rfl, List.forall_mem_cons.mpr ⟨trivial, List.forall_mem_cons.mpr ⟨trivial, List.forall_mem_cons.mpr ⟨(lk_get pg_okc8 (by decide) tw_543), List.forall_mem_cons.mpr ⟨rfl, List.forall_mem_cons.mpr ⟨trivial, List.forall_mem_cons.mpr ⟨rfl, List.forall_mem_cons.mpr ⟨trivial, List.forall_mem_cons.mpr ⟨trivial, fun _ h => absurd h List.not_mem_nil⟩⟩⟩⟩⟩⟩⟩⟩⟩⟩
set_option maxRecDepth 100000 in
theorem pg_lk18_0 : ∀ q ∈ (pg_c18.drop 0).take 40, mj_lk pg pg_cl pg_ty pg_Ts pg_Nw pg_ak pg_yn pg_cc pg_rt 18 q.1 q.2 := List.forall_mem_cons.mpr ⟨trivial, List.forall_mem_cons.mpr ⟨rfl, List.forall_mem_cons.mpr ⟨trivial, List.forall_mem_cons.mpr ⟨trivial, List.forall_mem_cons.mpr ⟨(lk_get pg_okc8 (by decide) tw_544), List.forall_mem_cons.mpr ⟨rfl, List.forall_mem_cons.mpr ⟨trivial, List.forall_mem_cons.mpr ⟨rfl, List.forall_mem_cons.mpr ⟨trivial, List.forall_mem_cons.mpr ⟨trivial, fun _ h => absurd h List.not_mem_nil⟩⟩⟩⟩⟩⟩⟩⟩⟩⟩
set_option maxRecDepth 100000 in
theorem pg_lk19_0 : ∀ q ∈ (pg_c19.drop 0).take 40, mj_lk pg pg_cl pg_ty pg_Ts pg_Nw pg_ak pg_yn pg_cc pg_rt 19 q.1 q.2 := List.forall_mem_cons.mpr ⟨trivial, List.forall_mem_cons.mpr ⟨trivial, List.forall_mem_cons.mpr ⟨(lk_put pg_okc8 (by decide) (Or.inl ⟨rfl, rfl⟩) rfl tw_542), List.forall_mem_cons.mpr ⟨trivial, List.forall_mem_cons.mpr ⟨(lk_get pg_okc8 (by decide) tw_543), List.forall_mem_cons.mpr ⟨trivial, List.forall_mem_cons.mpr ⟨rfl, List.forall_mem_cons.mpr ⟨trivial, List.forall_mem_cons.mpr ⟨rfl, List.forall_mem_cons.mpr ⟨trivial, List.forall_mem_cons.mpr ⟨trivial, List.forall_mem_cons.mpr ⟨rfl, List.forall_mem_cons.mpr ⟨trivial, List.forall_mem_cons.mpr ⟨trivial, List.forall_mem_cons.mpr ⟨rfl, List.forall_mem_cons.mpr ⟨trivial, List.forall_mem_cons.mpr ⟨trivial, List.forall_mem_cons.mpr ⟨rfl, List.forall_mem_cons.mpr ⟨trivial, List.forall_mem_cons.mpr ⟨trivial, List.forall_mem_cons.mpr ⟨trivial, List.forall_mem_cons.mpr ⟨(lk_get pg_okc8 (by decide) tw_545), List.forall_mem_cons.mpr ⟨trivial, List.forall_mem_cons.mpr ⟨(lk_get pg_okc8 (by decide) tw_543), List.forall_mem_cons.mpr ⟨trivial, List.forall_mem_cons.mpr ⟨trivial, List.forall_mem_cons.mpr ⟨trivial, List.forall_mem_cons.mpr ⟨(lk_get pg_okc8 (by decide) tw_546), List.forall_mem_cons.mpr ⟨trivial, List.forall_mem_cons.mpr ⟨(lk_get pg_okc8 (by decide) tw_543), List.forall_mem_cons.mpr ⟨trivial, List.forall_mem_cons.mpr ⟨trivial, List.forall_mem_cons.mpr ⟨trivial, List.forall_mem_cons.mpr ⟨(lk_get pg_okc8 (by decide) tw_549), List.forall_mem_cons.mpr ⟨trivial, List.forall_mem_cons.mpr ⟨(lk_get pg_okc8 (by decide) tw_543), List.forall_mem_cons.mpr ⟨trivial, List.forall_mem_cons.mpr ⟨trivial, List.forall_mem_cons.mpr ⟨trivial, List.forall_mem_cons.mpr ⟨(lk_get pg_okc8 (by decide) tw_550), fun _ h => absurd h List.not_mem_nil⟩⟩⟩⟩⟩⟩⟩⟩⟩⟩⟩⟩⟩⟩⟩⟩⟩⟩⟩⟩⟩⟩⟩⟩⟩⟩⟩⟩⟩⟩⟩⟩⟩⟩⟩⟩⟩⟩⟩⟩
set_option maxRecDepth 100000 in
theorem pg_lk19_1 : ∀ q ∈ (pg_c19.drop 40).take 40, mj_lk pg pg_cl pg_ty pg_Ts pg_Nw pg_ak pg_yn pg_cc pg_rt 19 q.1 q.2 := List.forall_mem_cons.mpr ⟨trivial, List.forall_mem_cons.mpr ⟨(lk_get pg_okc8 (by decide) tw_543), List.forall_mem_cons.mpr ⟨trivial, List.forall_mem_cons.mpr ⟨trivial, List.forall_mem_cons.mpr ⟨trivial, List.forall_mem_cons.mpr ⟨trivial, List.forall_mem_cons.mpr ⟨(lk_get pg_okc8 (by decide) tw_543), List.forall_mem_cons.mpr ⟨trivial, List.forall_mem_cons.mpr ⟨trivial, List.forall_mem_cons.mpr ⟨(lk_put pg_okc8 (by decide) (Or.inl ⟨rfl, rfl⟩) rfl tw_543), List.forall_mem_cons.mpr ⟨trivial, List.forall_mem_cons.mpr ⟨(lk_get pg_okc8 (by decide) tw_543), List.forall_mem_cons.mpr ⟨trivial, List.forall_mem_cons.mpr ⟨trivial, List.forall_mem_cons.mpr ⟨trivial, fun _ h => absurd h List.not_mem_nil⟩⟩⟩⟩⟩⟩⟩⟩⟩⟩⟩⟩⟩⟩⟩
set_option maxRecDepth 100000 in
theorem pg_lk20_0 : ∀ q ∈ (pg_c20.drop 0).take 40, mj_lk pg pg_cl pg_ty pg_Ts pg_Nw pg_ak pg_yn pg_cc pg_rt 20 q.1 q.2 := List.forall_mem_cons.mpr ⟨trivial, List.forall_mem_cons.mpr ⟨trivial, List.forall_mem_cons.mpr ⟨trivial, List.forall_mem_cons.mpr ⟨trivial, List.forall_mem_cons.mpr ⟨trivial, List.forall_mem_cons.mpr ⟨trivial, List.forall_mem_cons.mpr ⟨(lk_get pg_okc8 (by decide) tw_547), List.forall_mem_cons.mpr ⟨trivial, List.forall_mem_cons.mpr ⟨trivial, List.forall_mem_cons.mpr ⟨rfl, List.forall_mem_cons.mpr ⟨trivial, List.forall_mem_cons.mpr ⟨rfl, List.forall_mem_cons.mpr ⟨trivial, List.forall_mem_cons.mpr ⟨(lk_get pg_okc8 (by decide) tw_548), List.forall_mem_cons.mpr ⟨trivial, List.forall_mem_cons.mpr ⟨trivial, List.forall_mem_cons.mpr ⟨trivial, List.forall_mem_cons.mpr ⟨trivial, List.forall_mem_cons.mpr ⟨trivial, List.forall_mem_cons.mpr ⟨trivial, List.forall_mem_cons.mpr ⟨trivial, List.forall_mem_cons.mpr ⟨rfl, List.forall_mem_cons.mpr ⟨trivial, List.forall_mem_cons.mpr ⟨rfl, List.forall_mem_cons.mpr ⟨trivial, List.forall_mem_cons.mpr ⟨trivial, List.forall_mem_cons.mpr ⟨trivial, List.forall_mem_cons.mpr ⟨rfl, List.forall_mem_cons.mpr ⟨trivial, List.forall_mem_cons.mpr ⟨trivial, fun _ h => absurd h List.not_mem_nil⟩⟩⟩⟩⟩⟩⟩⟩⟩⟩⟩⟩⟩⟩⟩⟩⟩⟩⟩⟩⟩⟩⟩⟩⟩⟩⟩⟩⟩⟩
set_option maxRecDepth 100000 in
theorem pg_lk21_0 : ∀ q ∈ (pg_c21.drop 0).take 40, mj_lk pg pg_cl pg_ty pg_Ts pg_Nw pg_ak pg_yn pg_cc pg_rt 21 q.1 q.2 := List.forall_mem_cons.mpr ⟨trivial, List.forall_mem_cons.mpr ⟨trivial, List.forall_mem_cons.mpr ⟨trivial, List.forall_mem_cons.mpr ⟨trivial, List.forall_mem_cons.mpr ⟨trivial, List.forall_mem_cons.mpr ⟨trivial, List.forall_mem_cons.mpr ⟨trivial, List.forall_mem_cons.mpr ⟨trivial, List.forall_mem_cons.mpr ⟨rfl, List.forall_mem_cons.mpr ⟨trivial, List.forall_mem_cons.mpr ⟨trivial, List.forall_mem_cons.mpr ⟨trivial, List.forall_mem_cons.mpr ⟨trivial, List.forall_mem_cons.mpr ⟨(lk_get pg_okc8 (by decide) tw_543), List.forall_mem_cons.mpr ⟨rfl, List.forall_mem_cons.mpr ⟨trivial, List.forall_mem_cons.mpr ⟨trivial, List.forall_mem_cons.mpr ⟨trivial, List.forall_mem_cons.mpr ⟨trivial, List.forall_mem_cons.mpr ⟨(lk_get pg_okc8 (by decide) tw_547), List.forall_mem_cons.mpr ⟨trivial, List.forall_mem_cons.mpr ⟨trivial, List.forall_mem_cons.mpr ⟨rfl, List.forall_mem_cons.mpr ⟨trivial, List.forall_mem_cons.mpr ⟨trivial, List.forall_mem_cons.mpr ⟨trivial, List.forall_mem_cons.mpr ⟨trivial, List.forall_mem_cons.mpr ⟨trivial, List.forall_mem_cons.mpr ⟨trivial, List.forall_mem_cons.mpr ⟨trivial, List.forall_mem_cons.mpr ⟨rfl, List.forall_mem_cons.mpr ⟨trivial, List.forall_mem_cons.mpr ⟨trivial, List.forall_mem_cons.mpr ⟨(lk_get pg_okc8 (by decide) tw_548), List.forall_mem_cons.mpr ⟨trivial, List.forall_mem_cons.mpr ⟨trivial, List.forall_mem_cons.mpr ⟨trivial, List.forall_mem_cons.mpr ⟨trivial, List.forall_mem_cons.mpr ⟨trivial, List.forall_mem_cons.mpr ⟨trivial, fun _ h => absurd h List.not_mem_nil⟩⟩⟩⟩⟩⟩⟩⟩⟩⟩⟩⟩⟩⟩⟩⟩⟩⟩⟩⟩⟩⟩⟩⟩⟩⟩⟩⟩⟩⟩⟩⟩⟩⟩⟩⟩⟩⟩⟩⟩
set_option maxRecDepth 100000 in
theorem pg_lk21_1 : ∀ q ∈ (pg_c21.drop 40).take 40, mj_lk pg pg_cl pg_ty pg_Ts pg_Nw pg_ak pg_yn pg_cc pg_rt 21 q.1 q.2 := List.forall_mem_cons.mpr ⟨trivial, List.forall_mem_cons.mpr ⟨rfl, List.forall_mem_cons.mpr ⟨trivial, List.forall_mem_cons.mpr ⟨trivial, List.forall_mem_cons.mpr ⟨trivial, List.forall_mem_cons.mpr ⟨trivial, List.forall_mem_cons.mpr ⟨rfl, List.forall_mem_cons.mpr ⟨trivial, List.forall_mem_cons.mpr ⟨rfl, List.forall_mem_cons.mpr ⟨trivial, List.forall_mem_cons.mpr ⟨rfl, List.forall_mem_cons.mpr ⟨trivial, List.forall_mem_cons.mpr ⟨trivial, List.forall_mem_cons.mpr ⟨trivial, List.forall_mem_cons.mpr ⟨trivial, List.forall_mem_cons.mpr ⟨trivial, List.forall_mem_cons.mpr ⟨trivial, List.forall_mem_cons.mpr ⟨rfl, List.forall_mem_cons.mpr ⟨trivial, List.forall_mem_cons.mpr ⟨rfl, List.forall_mem_cons.mpr ⟨trivial, List.forall_mem_cons.mpr ⟨trivial, fun _ h => absurd h List.not_mem_nil⟩⟩⟩⟩⟩⟩⟩⟩⟩⟩⟩⟩⟩⟩⟩⟩⟩⟩⟩⟩⟩⟩
set_option maxRecDepth 100000 in
theorem pg_lk22_0 : ∀ q ∈ (pg_c22.drop 0).take 40, mj_lk pg pg_cl pg_ty pg_Ts pg_Nw pg_ak pg_yn pg_cc pg_rt 22 q.1 q.2 := List.forall_mem_cons.mpr ⟨trivial, List.forall_mem_cons.mpr ⟨trivial, List.forall_mem_cons.mpr ⟨(lk_put pg_okc8 (by decide) (Or.inl ⟨rfl, rfl⟩) rfl tw_542), List.forall_mem_cons.mpr ⟨trivial, List.forall_mem_cons.mpr ⟨trivial, List.forall_mem_cons.mpr ⟨(lk_v ⟨pg_m17, by decide, tw_8, ⟨by decide, by decide⟩, Or.inl tw_684⟩ (by decide) tw_686 ts_11 (by decide +kernel) (by decide) rfl), List.forall_mem_cons.mpr ⟨rfl, List.forall_mem_cons.mpr ⟨trivial, List.forall_mem_cons.mpr ⟨trivial, List.forall_mem_cons.mpr ⟨(lk_v ⟨pg_m17, by decide, tw_8, ⟨by decide, by decide⟩, Or.inl tw_684⟩ (by decide) tw_686 ts_11 (by decide +kernel) (by decide) rfl), List.forall_mem_cons.mpr ⟨rfl, List.forall_mem_cons.mpr ⟨trivial, List.forall_mem_cons.mpr ⟨trivial, List.forall_mem_cons.mpr ⟨trivial, List.forall_mem_cons.mpr ⟨(lk_v ⟨pg_m20, by decide, tw_8, ⟨by decide, by decide⟩, Or.inl tw_688⟩ (by decide) tw_690 ts_12 (by decide +kernel) (by decide) rfl), List.forall_mem_cons.mpr ⟨rfl, List.forall_mem_cons.mpr ⟨trivial, List.forall_mem_cons.mpr ⟨(lk_get pg_okc8 (by decide) tw_547), List.forall_mem_cons.mpr ⟨trivial, List.forall_mem_cons.mpr ⟨trivial, List.forall_mem_cons.mpr ⟨trivial, List.forall_mem_cons.mpr ⟨rfl, List.forall_mem_cons.mpr ⟨trivial, List.forall_mem_cons.mpr ⟨(lk_get pg_okc8 (by decide) tw_545), List.forall_mem_cons.mpr ⟨trivial, List.forall_mem_cons.mpr ⟨trivial, List.forall_mem_cons.mpr ⟨trivial, List.forall_mem_cons.mpr ⟨(lk_get pg_okc8 (by decide) tw_545), List.forall_mem_cons.mpr ⟨trivial, List.forall_mem_cons.mpr ⟨trivial, List.forall_mem_cons.mpr ⟨rfl, List.forall_mem_cons.mpr ⟨trivial, List.forall_mem_cons.mpr ⟨trivial, List.forall_mem_cons.mpr ⟨trivial, List.forall_mem_cons.mpr ⟨trivial, List.forall_mem_cons.mpr ⟨trivial, List.forall_mem_cons.mpr ⟨(lk_v ⟨pg_m21, by decide, tw_8, ⟨by decide, by decide⟩, Or.inl tw_692⟩ (by decide) tw_694 ts_13 (by decide +kernel) (by decide) rfl), List.forall_mem_cons.mpr ⟨rfl, List.forall_mem_cons.mpr ⟨trivial, List.forall_mem_cons.mpr ⟨trivial, fun _ h => absurd h List.not_mem_nil⟩⟩⟩⟩⟩⟩⟩⟩⟩⟩⟩⟩⟩⟩⟩⟩⟩⟩⟩⟩⟩⟩⟩⟩⟩⟩⟩⟩⟩⟩⟩⟩⟩⟩⟩⟩⟩⟩⟩⟩
set_option maxRecDepth 100000 in
theorem pg_lk22_1 : ∀ q ∈ (pg_c22.drop 40).take 40, mj_lk pg pg_cl pg_ty pg_Ts pg_Nw pg_ak pg_yn pg_cc pg_rt 22 q.1 q.2 := List.forall_mem_cons.mpr ⟨trivial, List.forall_mem_cons.mpr ⟨(lk_get pg_okc8 (by decide) tw_548), List.forall_mem_cons.mpr ⟨trivial, List.forall_mem_cons.mpr ⟨trivial, List.forall_mem_cons.mpr ⟨trivial, List.forall_mem_cons.mpr ⟨trivial, List.forall_mem_cons.mpr ⟨(lk_get pg_okc8 (by decide) tw_547), List.forall_mem_cons.mpr ⟨trivial, List.forall_mem_cons.mpr ⟨trivial, List.forall_mem_cons.mpr ⟨trivial, List.forall_mem_cons.mpr ⟨trivial, List.forall_mem_cons.mpr ⟨trivial, List.forall_mem_cons.mpr ⟨trivial, List.forall_mem_cons.mpr ⟨(lk_get pg_okc8 (by decide) tw_547), List.forall_mem_cons.mpr ⟨trivial, List.forall_mem_cons.mpr ⟨trivial, List.forall_mem_cons.mpr ⟨trivial, List.forall_mem_cons.mpr ⟨trivial, List.forall_mem_cons.mpr ⟨trivial, List.forall_mem_cons.mpr ⟨trivial, List.forall_mem_cons.mpr ⟨trivial, List.forall_mem_cons.mpr ⟨trivial, fun _ h => absurd h List.not_mem_nil⟩⟩⟩⟩⟩⟩⟩⟩⟩⟩⟩⟩⟩⟩⟩⟩⟩⟩⟩⟩⟩⟩
set_option maxRecDepth 100000 in
theorem pg_lk23_0 : ∀ q ∈ (pg_c23.drop 0).take 40, mj_lk pg pg_cl pg_ty pg_Ts pg_Nw pg_ak pg_yn pg_cc pg_rt 23 q.1 q.2 := List.forall_mem_cons.mpr ⟨trivial, List.forall_mem_cons.mpr ⟨trivial, List.forall_mem_cons.mpr ⟨(lk_put pg_okc8 (by decide) (Or.inl ⟨rfl, rfl⟩) rfl tw_542), List.forall_mem_cons.mpr ⟨trivial, List.forall_mem_cons.mpr ⟨(lk_get pg_okc8 (by decide) tw_544), List.forall_mem_cons.mpr ⟨trivial, List.forall_mem_cons.mpr ⟨rfl, List.forall_mem_cons.mpr ⟨trivial, List.forall_mem_cons.mpr ⟨rfl, List.forall_mem_cons.mpr ⟨trivial, List.forall_mem_cons.mpr ⟨trivial, List.forall_mem_cons.mpr ⟨rfl, List.forall_mem_cons.mpr ⟨trivial, List.forall_mem_cons.mpr ⟨trivial, List.forall_mem_cons.mpr ⟨trivial, List.forall_mem_cons.mpr ⟨(lk_get pg_okc8 (by decide) tw_551), List.forall_mem_cons.mpr ⟨trivial, List.forall_mem_cons.mpr ⟨(lk_get pg_okc8 (by decide) tw_544), List.forall_mem_cons.mpr ⟨trivial, List.forall_mem_cons.mpr ⟨trivial, List.forall_mem_cons.mpr ⟨trivial, List.forall_mem_cons.mpr ⟨trivial, List.forall_mem_cons.mpr ⟨(lk_get pg_okc8 (by decide) tw_544), List.forall_mem_cons.mpr ⟨trivial, List.forall_mem_cons.mpr ⟨trivial, List.forall_mem_cons.mpr ⟨(lk_put pg_okc8 (by decide) (Or.inl ⟨rfl, rfl⟩) rfl tw_544), List.forall_mem_cons.mpr ⟨trivial, List.forall_mem_cons.mpr ⟨(lk_get pg_okc8 (by decide) tw_544), List.forall_mem_cons.mpr ⟨trivial, List.forall_mem_cons.mpr ⟨trivial, List.forall_mem_cons.mpr ⟨trivial, fun _ h => absurd h List.not_mem_nil⟩⟩⟩⟩⟩⟩⟩⟩⟩⟩⟩⟩⟩⟩⟩⟩⟩⟩⟩⟩⟩⟩⟩⟩⟩⟩⟩⟩⟩⟩⟩
end
section
set_option maxRecDepth 100000 in
theorem pg_lk24_0 : ∀ q ∈ (pg_c24.drop 0).take 40, mj_lk pg pg_cl pg_ty pg_Ts pg_Nw pg_ak pg_yn pg_cc pg_rt 24 q.1 q.2 := List.forall_mem_cons.mpr ⟨trivial, List.forall_mem_cons.mpr ⟨trivial, List.forall_mem_cons.mpr ⟨(lk_put pg_okc8 (by decide) (Or.inl ⟨rfl, rfl⟩) rfl tw_542), List.forall_mem_cons.mpr ⟨trivial, List.forall_mem_cons.mpr ⟨trivial, List.forall_mem_cons.mpr ⟨(lk_v ⟨pg_m18, by decide, tw_8, ⟨by decide, by decide⟩, Or.inl tw_704⟩ (by decide) tw_706 ts_14 (by decide +kernel) (by decide) rfl), List.forall_mem_cons.mpr ⟨rfl, List.forall_mem_cons.mpr ⟨trivial, List.forall_mem_cons.mpr ⟨trivial, List.forall_mem_cons.mpr ⟨(lk_v ⟨pg_m17, by decide, tw_8, ⟨by decide, by decide⟩, Or.inl tw_684⟩ (by decide) tw_686 ts_11 (by decide +kernel) (by decide) rfl), List.forall_mem_cons.mpr ⟨rfl, List.forall_mem_cons.mpr ⟨trivial, List.forall_mem_cons.mpr ⟨(lk_get pg_okc8 (by decide) tw_552), List.forall_mem_cons.mpr ⟨trivial, List.forall_mem_cons.mpr ⟨trivial, List.forall_mem_cons.mpr ⟨trivial, List.forall_mem_cons.mpr ⟨rfl, List.forall_mem_cons.mpr ⟨trivial, List.forall_mem_cons.mpr ⟨rfl, List.forall_mem_cons.mpr ⟨trivial, List.forall_mem_cons.mpr ⟨trivial, List.forall_mem_cons.mpr ⟨trivial, List.forall_mem_cons.mpr ⟨trivial, List.forall_mem_cons.mpr ⟨trivial, List.forall_mem_cons.mpr ⟨rfl, List.forall_mem_cons.mpr ⟨trivial, List.forall_mem_cons.mpr ⟨trivial, List.forall_mem_cons.mpr ⟨(lk_get pg_okc8 (by decide) tw_552), List.forall_mem_cons.mpr ⟨trivial, List.forall_mem_cons.mpr ⟨trivial, List.forall_mem_cons.mpr ⟨rfl, List.forall_mem_cons.mpr ⟨trivial, List.forall_mem_cons.mpr ⟨(lk_get pg_okc8 (by decide) tw_553), List.forall_mem_cons.mpr ⟨trivial, List.forall_mem_cons.mpr ⟨trivial, List.forall_mem_cons.mpr ⟨trivial, List.forall_mem_cons.mpr ⟨trivial, List.forall_mem_cons.mpr ⟨trivial, List.forall_mem_cons.mpr ⟨trivial, List.forall_mem_cons.mpr ⟨trivial, fun _ h => absurd h List.not_mem_nil⟩⟩⟩⟩⟩⟩⟩⟩⟩⟩⟩⟩⟩⟩⟩⟩⟩⟩⟩⟩⟩⟩⟩⟩⟩⟩⟩⟩⟩⟩⟩⟩⟩⟩⟩⟩⟩⟩⟩⟩
set_option maxRecDepth 100000 in
theorem pg_lk24_1 : ∀ q ∈ (pg_c24.drop 40).take 40, mj_lk pg pg_cl pg_ty pg_Ts pg_Nw pg_ak pg_yn pg_cc pg_rt 24 q.1 q.2 := List.forall_mem_cons.mpr ⟨rfl, List.forall_mem_cons.mpr ⟨trivial, List.forall_mem_cons.mpr ⟨rfl, List.forall_mem_cons.mpr ⟨trivial, List.forall_mem_cons.mpr ⟨trivial, List.forall_mem_cons.mpr ⟨trivial, List.forall_mem_cons.mpr ⟨rfl, List.forall_mem_cons.mpr ⟨trivial, List.forall_mem_cons.mpr ⟨rfl, List.forall_mem_cons.mpr ⟨trivial, List.forall_mem_cons.mpr ⟨trivial, List.forall_mem_cons.mpr ⟨trivial, List.forall_mem_cons.mpr ⟨(lk_get pg_okc8 (by decide) tw_553), List.forall_mem_cons.mpr ⟨trivial, List.forall_mem_cons.mpr ⟨trivial, List.forall_mem_cons.mpr ⟨trivial, List.forall_mem_cons.mpr ⟨trivial, List.forall_mem_cons.mpr ⟨(lk_get pg_okc8 (by decide) tw_552), List.forall_mem_cons.mpr ⟨trivial, List.forall_mem_cons.mpr ⟨trivial, List.forall_mem_cons.mpr ⟨trivial, List.forall_mem_cons.mpr ⟨trivial, List.forall_mem_cons.mpr ⟨trivial, List.forall_mem_cons.mpr ⟨trivial, List.forall_mem_cons.mpr ⟨(lk_get pg_okc8 (by decide) tw_552), List.forall_mem_cons.mpr ⟨trivial, List.forall_mem_cons.mpr ⟨trivial, List.forall_mem_cons.mpr ⟨trivial, List.forall_mem_cons.mpr ⟨trivial, List.forall_mem_cons.mpr ⟨trivial, List.forall_mem_cons.mpr ⟨trivial, List.forall_mem_cons.mpr ⟨trivial, List.forall_mem_cons.mpr ⟨trivial, fun _ h => absurd h List.not_mem_nil⟩⟩⟩⟩⟩⟩⟩⟩⟩⟩⟩⟩⟩⟩⟩⟩⟩⟩⟩⟩⟩⟩⟩⟩⟩⟩⟩⟩⟩⟩⟩⟩⟩
set_option maxRecDepth 100000 in
theorem pg_lk25_0 : ∀ q ∈ (pg_c25.drop 0).take 40, mj_lk pg pg_cl pg_ty pg_Ts pg_Nw pg_ak pg_yn pg_cc pg_rt 25 q.1 q.2 := List.forall_mem_cons.mpr ⟨trivial, List.forall_mem_cons.mpr ⟨trivial, List.forall_mem_cons.mpr ⟨(lk_put pg_okc8 (by decide) (Or.inl ⟨rfl, rfl⟩) rfl tw_542), List.forall_mem_cons.mpr ⟨trivial, List.forall_mem_cons.mpr ⟨trivial, List.forall_mem_cons.mpr ⟨(lk_v ⟨pg_m18, by decide, tw_8, ⟨by decide, by decide⟩, Or.inl tw_704⟩ (by decide) tw_706 ts_14 (by decide +kernel) (by decide) rfl), List.forall_mem_cons.mpr ⟨rfl, List.forall_mem_cons.mpr ⟨trivial, List.forall_mem_cons.mpr ⟨rfl, List.forall_mem_cons.mpr ⟨trivial, List.forall_mem_cons.mpr ⟨rfl, List.forall_mem_cons.mpr ⟨trivial, List.forall_mem_cons.mpr ⟨trivial, List.forall_mem_cons.mpr ⟨trivial, List.forall_mem_cons.mpr ⟨(lk_get pg_okc8 (by decide) tw_554), List.forall_mem_cons.mpr ⟨trivial, List.forall_mem_cons.mpr ⟨trivial, List.forall_mem_cons.mpr ⟨trivial, List.forall_mem_cons.mpr ⟨trivial, List.forall_mem_cons.mpr ⟨(lk_get pg_okc8 (by decide) tw_555), List.forall_mem_cons.mpr ⟨trivial, List.forall_mem_cons.mpr ⟨trivial, List.forall_mem_cons.mpr ⟨trivial, List.forall_mem_cons.mpr ⟨trivial, List.forall_mem_cons.mpr ⟨trivial, fun _ h => absurd h List.not_mem_nil⟩⟩⟩⟩⟩⟩⟩⟩⟩⟩⟩⟩⟩⟩⟩⟩⟩⟩⟩⟩⟩⟩⟩⟩⟩
set_option maxRecDepth 100000 in
theorem pg_lk26_0 : ∀ q ∈ (pg_c26.drop 0).take 40, mj_lk pg pg_cl pg_ty pg_Ts pg_Nw pg_ak pg_yn pg_cc pg_rt 26 q.1 q.2 := List.forall_mem_cons.mpr ⟨trivial, List.forall_mem_cons.mpr ⟨trivial, List.forall_mem_cons.mpr ⟨(lk_put pg_okc8 (by decide) (Or.inl ⟨rfl, rfl⟩) rfl tw_542), List.forall_mem_cons.mpr ⟨trivial, List.forall_mem_cons.mpr ⟨trivial, List.forall_mem_cons.mpr ⟨(lk_v ⟨pg_m18, by decide, tw_8, ⟨by decide, by decide⟩, Or.inl tw_704⟩ (by decide) tw_706 ts_14 (by decide +kernel) (by decide) rfl), List.forall_mem_cons.mpr ⟨rfl, List.forall_mem_cons.mpr ⟨trivial, List.forall_mem_cons.mpr ⟨rfl, List.forall_mem_cons.mpr ⟨trivial, List.forall_mem_cons.mpr ⟨trivial, List.forall_mem_cons.mpr ⟨rfl, List.forall_mem_cons.mpr ⟨trivial, List.forall_mem_cons.mpr ⟨rfl, List.forall_mem_cons.mpr ⟨trivial, List.forall_mem_cons.mpr ⟨trivial, List.forall_mem_cons.mpr ⟨rfl, List.forall_mem_cons.mpr ⟨trivial, List.forall_mem_cons.mpr ⟨trivial, List.forall_mem_cons.mpr ⟨trivial, List.forall_mem_cons.mpr ⟨(lk_get pg_okc8 (by decide) tw_556), List.forall_mem_cons.mpr ⟨trivial, List.forall_mem_cons.mpr ⟨trivial, List.forall_mem_cons.mpr ⟨trivial, List.forall_mem_cons.mpr ⟨trivial, List.forall_mem_cons.mpr ⟨(lk_get pg_okc8 (by decide) tw_557), List.forall_mem_cons.mpr ⟨trivial, List.forall_mem_cons.mpr ⟨trivial, List.forall_mem_cons.mpr ⟨trivial, List.forall_mem_cons.mpr ⟨trivial, List.forall_mem_cons.mpr ⟨trivial, fun _ h => absurd h List.not_mem_nil⟩⟩⟩⟩⟩⟩⟩⟩⟩⟩⟩⟩⟩⟩⟩⟩⟩⟩⟩⟩⟩⟩⟩⟩⟩⟩⟩⟩⟩⟩⟩
set_option maxRecDepth 100000 in
theorem pg_lk27_0 : ∀ q ∈ (pg_c27.drop 0).take 40, mj_lk pg pg_cl pg_ty pg_Ts pg_Nw pg_ak pg_yn pg_cc pg_rt 27 q.1 q.2 := List.forall_mem_cons.mpr ⟨trivial, List.forall_mem_cons.mpr ⟨trivial, List.forall_mem_cons.mpr ⟨trivial, List.forall_mem_cons.mpr ⟨trivial, List.forall_mem_cons.mpr ⟨trivial, List.forall_mem_cons.mpr ⟨trivial, List.forall_mem_cons.mpr ⟨(lk_get pg_okc8 (by decide) tw_561), List.forall_mem_cons.mpr ⟨rfl, List.forall_mem_cons.mpr ⟨trivial, List.forall_mem_cons.mpr ⟨rfl, List.forall_mem_cons.mpr ⟨trivial, List.forall_mem_cons.mpr ⟨(lk_get pg_okc8 (by decide) tw_558), List.forall_mem_cons.mpr ⟨trivial, List.forall_mem_cons.mpr ⟨trivial, List.forall_mem_cons.mpr ⟨trivial, List.forall_mem_cons.mpr ⟨rfl, List.forall_mem_cons.mpr ⟨trivial, List.forall_mem_cons.mpr ⟨rfl, List.forall_mem_cons.mpr ⟨trivial, List.forall_mem_cons.mpr ⟨trivial, List.forall_mem_cons.mpr ⟨trivial, List.forall_mem_cons.mpr ⟨rfl, List.forall_mem_cons.mpr ⟨trivial, List.forall_mem_cons.mpr ⟨trivial, fun _ h => absurd h List.not_mem_nil⟩⟩⟩⟩⟩⟩⟩⟩⟩⟩⟩⟩⟩⟩⟩⟩⟩⟩⟩⟩⟩⟩⟩⟩
set_option maxRecDepth 100000 in
theorem pg_lk28_0 : ∀ q ∈ (pg_c28.drop 0).take 40, mj_lk pg pg_cl pg_ty pg_Ts pg_Nw pg_ak pg_yn pg_cc pg_rt 28 q.1 q.2 := List.forall_mem_cons.mpr ⟨trivial, List.forall_mem_cons.mpr ⟨trivial, List.forall_mem_cons.mpr ⟨trivial, List.forall_mem_cons.mpr ⟨(lk_get pg_okc8 (by decide) tw_559), List.forall_mem_cons.mpr ⟨trivial, List.forall_mem_cons.mpr ⟨trivial, List.forall_mem_cons.mpr ⟨trivial, List.forall_mem_cons.mpr ⟨trivial, List.forall_mem_cons.mpr ⟨(lk_get pg_okc8 (by decide) tw_560), List.forall_mem_cons.mpr ⟨trivial, List.forall_mem_cons.mpr ⟨trivial, List.forall_mem_cons.mpr ⟨trivial, List.forall_mem_cons.mpr ⟨trivial, List.forall_mem_cons.mpr ⟨rfl, List.forall_mem_cons.mpr ⟨trivial, List.forall_mem_cons.mpr ⟨(lk_get pg_okc8 (by decide) tw_559), List.forall_mem_cons.mpr ⟨trivial, List.forall_mem_cons.mpr ⟨trivial, List.forall_mem_cons.mpr ⟨trivial, List.forall_mem_cons.mpr ⟨trivial, List.forall_mem_cons.mpr ⟨trivial, List.forall_mem_cons.mpr ⟨trivial, List.forall_mem_cons.mpr ⟨(lk_get pg_okc8 (by decide) tw_560), List.forall_mem_cons.mpr ⟨trivial, List.forall_mem_cons.mpr ⟨trivial, List.forall_mem_cons.mpr ⟨trivial, List.forall_mem_cons.mpr ⟨trivial, List.forall_mem_cons.mpr ⟨trivial, List.forall_mem_cons.mpr ⟨trivial, List.forall_mem_cons.mpr ⟨trivial, List.forall_mem_cons.mpr ⟨(lk_v ⟨pg_m27, by decide, tw_8, ⟨by decide, by decide⟩, Or.inl tw_728⟩ (by decide) tw_730 ts_17 (by decide +kernel) (by decide) rfl), List.forall_mem_cons.mpr ⟨rfl, List.forall_mem_cons.mpr ⟨trivial, List.forall_mem_cons.mpr ⟨rfl, List.forall_mem_cons.mpr ⟨trivial, List.forall_mem_cons.mpr ⟨trivial, List.forall_mem_cons.mpr ⟨(lk_get pg_okc8 (by decide) tw_547), List.forall_mem_cons.mpr ⟨trivial, List.forall_mem_cons.mpr ⟨trivial, List.forall_mem_cons.mpr ⟨rfl, fun _ h => absurd h List.not_mem_nil⟩⟩⟩⟩⟩⟩⟩⟩⟩⟩⟩⟩⟩⟩⟩⟩⟩⟩⟩⟩⟩⟩⟩⟩⟩⟩⟩⟩⟩⟩⟩⟩⟩⟩⟩⟩⟩⟩⟩⟩
set_option maxRecDepth 100000 in
theorem pg_lk28_1 : ∀ q ∈ (pg_c28.drop 40).take 40, mj_lk pg pg_cl pg_ty pg_Ts pg_Nw pg_ak pg_yn pg_cc pg_rt 28 q.1 q.2 := List.forall_mem_cons.mpr ⟨trivial, List.forall_mem_cons.mpr ⟨(lk_get pg_okc8 (by decide) tw_558), List.forall_mem_cons.mpr ⟨trivial, List.forall_mem_cons.mpr ⟨(lk_get pg_okc8 (by decide) tw_561), List.forall_mem_cons.mpr ⟨trivial, List.forall_mem_cons.mpr ⟨trivial, List.forall_mem_cons.mpr ⟨trivial, List.forall_mem_cons.mpr ⟨trivial, List.forall_mem_cons.mpr ⟨(lk_get pg_okc8 (by decide) tw_561), List.forall_mem_cons.mpr ⟨trivial, List.forall_mem_cons.mpr ⟨trivial, List.forall_mem_cons.mpr ⟨(lk_put pg_okc8 (by decide) (Or.inl ⟨rfl, rfl⟩) rfl tw_561), List.forall_mem_cons.mpr ⟨trivial, List.forall_mem_cons.mpr ⟨rfl, List.forall_mem_cons.mpr ⟨trivial, List.forall_mem_cons.mpr ⟨(lk_get pg_okc8 (by decide) tw_560), List.forall_mem_cons.mpr ⟨trivial, List.forall_mem_cons.mpr ⟨trivial, List.forall_mem_cons.mpr ⟨trivial, List.forall_mem_cons.mpr ⟨trivial, List.forall_mem_cons.mpr ⟨trivial, List.forall_mem_cons.mpr ⟨trivial, List.forall_mem_cons.mpr ⟨trivial, List.forall_mem_cons.mpr ⟨trivial, List.forall_mem_cons.mpr ⟨trivial, List.forall_mem_cons.mpr ⟨(lk_get pg_okc8 (by decide) tw_559), List.forall_mem_cons.mpr ⟨trivial, List.forall_mem_cons.mpr ⟨trivial, List.forall_mem_cons.mpr ⟨(lk_get pg_okc8 (by decide) tw_548), List.forall_mem_cons.mpr ⟨trivial, List.forall_mem_cons.mpr ⟨trivial, List.forall_mem_cons.mpr ⟨trivial, List.forall_mem_cons.mpr ⟨trivial, List.forall_mem_cons.mpr ⟨trivial, List.forall_mem_cons.mpr ⟨trivial, List.forall_mem_cons.mpr ⟨trivial, List.forall_mem_cons.mpr ⟨trivial, List.forall_mem_cons.mpr ⟨(lk_get pg_okc8 (by decide) tw_560), List.forall_mem_cons.mpr ⟨trivial, List.forall_mem_cons.mpr ⟨trivial, fun _ h => absurd h List.not_mem_nil⟩⟩⟩⟩⟩⟩⟩⟩⟩⟩⟩⟩⟩⟩⟩⟩⟩⟩⟩⟩⟩⟩⟩⟩⟩⟩⟩⟩⟩⟩⟩⟩⟩⟩⟩⟩⟩⟩⟩⟩
set_option maxRecDepth 100000 in
theorem pg_lk28_2 : ∀ q ∈ (pg_c28.drop 80).take 40, mj_lk pg pg_cl pg_ty pg_Ts pg_Nw pg_ak pg_yn pg_cc pg_rt 28 q.1 q.2 := List.forall_mem_cons.mpr ⟨trivial, List.forall_mem_cons.mpr ⟨trivial, List.forall_mem_cons.mpr ⟨rfl, List.forall_mem_cons.mpr ⟨trivial, fun _ h => absurd h List.not_mem_nil⟩⟩⟩⟩
set_option maxRecDepth 100000 in
theorem pg_lk29_0 : ∀ q ∈ (pg_c29.drop 0).take 40, mj_lk pg pg_cl pg_ty pg_Ts pg_Nw pg_ak pg_yn pg_cc pg_rt 29 q.1 q.2 := List.forall_mem_cons.mpr ⟨trivial, List.forall_mem_cons.mpr ⟨trivial, List.forall_mem_cons.mpr ⟨(lk_put pg_okc8 (by decide) (Or.inl ⟨rfl, rfl⟩) rfl tw_561), List.forall_mem_cons.mpr ⟨trivial, List.forall_mem_cons.mpr ⟨trivial, List.forall_mem_cons.mpr ⟨trivial, List.forall_mem_cons.mpr ⟨trivial, List.forall_mem_cons.mpr ⟨(lk_get pg_okc8 (by decide) tw_552), List.forall_mem_cons.mpr ⟨trivial, List.forall_mem_cons.mpr ⟨trivial, List.forall_mem_cons.mpr ⟨rfl, List.forall_mem_cons.mpr ⟨trivial, List.forall_mem_cons.mpr ⟨trivial, List.forall_mem_cons.mpr ⟨(lk_get pg_okc8 (by decide) tw_553), List.forall_mem_cons.mpr ⟨trivial, List.forall_mem_cons.mpr ⟨trivial, List.forall_mem_cons.mpr ⟨trivial, List.forall_mem_cons.mpr ⟨trivial, List.forall_mem_cons.mpr ⟨trivial, List.forall_mem_cons.mpr ⟨trivial, List.forall_mem_cons.mpr ⟨(lk_v ⟨pg_m28, by decide, tw_8, ⟨by decide, by decide⟩, Or.inl tw_724⟩ (by decide) tw_726 ts_16 (by decide +kernel) (by decide) rfl), List.forall_mem_cons.mpr ⟨trivial, List.forall_mem_cons.mpr ⟨rfl, List.forall_mem_cons.mpr ⟨trivial, fun _ h => absurd h List.not_mem_nil⟩⟩⟩⟩⟩⟩⟩⟩⟩⟩⟩⟩⟩⟩⟩⟩⟩⟩⟩⟩⟩⟩⟩⟩
set_option maxRecDepth 100000 in
theorem pg_lk30_0 : ∀ q ∈ (pg_c30.drop 0).take 40, mj_lk pg pg_cl pg_ty pg_Ts pg_Nw pg_ak pg_yn pg_cc pg_rt 30 q.1 q.2 := List.forall_mem_cons.mpr ⟨trivial, List.forall_mem_cons.mpr ⟨trivial, List.forall_mem_cons.mpr ⟨(lk_put pg_okc8 (by decide) (Or.inl ⟨rfl, rfl⟩) rfl tw_542), List.forall_mem_cons.mpr ⟨trivial, List.forall_mem_cons.mpr ⟨trivial, List.forall_mem_cons.mpr ⟨(lk_v ⟨pg_m18, by decide, tw_8, ⟨by decide, by decide⟩, Or.inl tw_704⟩ (by decide) tw_706 ts_14 (by decide +kernel) (by decide) rfl), List.forall_mem_cons.mpr ⟨rfl, List.forall_mem_cons.mpr ⟨trivial, List.forall_mem_cons.mpr ⟨trivial, List.forall_mem_cons.mpr ⟨trivial, List.forall_mem_cons.mpr ⟨trivial, List.forall_mem_cons.mpr ⟨(lk_v ⟨pg_m29, by decide, tw_8, ⟨by decide, by decide⟩, Or.inl tw_720⟩ (by decide) tw_722 ts_15 (by decide +kernel) (by decide) rfl), List.forall_mem_cons.mpr ⟨trivial, List.forall_mem_cons.mpr ⟨rfl, List.forall_mem_cons.mpr ⟨trivial, List.forall_mem_cons.mpr ⟨trivial, List.forall_mem_cons.mpr ⟨(lk_get pg_okc8 (by decide) tw_561), List.forall_mem_cons.mpr ⟨rfl, List.forall_mem_cons.mpr ⟨trivial, List.forall_mem_cons.mpr ⟨rfl, List.forall_mem_cons.mpr ⟨trivial, List.forall_mem_cons.mpr ⟨(lk_get pg_okc8 (by decide) tw_558), List.forall_mem_cons.mpr ⟨trivial, List.forall_mem_cons.mpr ⟨trivial, List.forall_mem_cons.mpr ⟨trivial, fun _ h => absurd h List.not_mem_nil⟩⟩⟩⟩⟩⟩⟩⟩⟩⟩⟩⟩⟩⟩⟩⟩⟩⟩⟩⟩⟩⟩⟩⟩⟩
set_option maxRecDepth 100000 in
theorem pg_lk31_0 : ∀ q ∈ (pg_c31.drop 0).take 40, mj_lk pg pg_cl pg_ty pg_Ts pg_Nw pg_ak pg_yn pg_cc pg_rt 31 q.1 q.2 := List.forall_mem_cons.mpr ⟨trivial, List.forall_mem_cons.mpr ⟨trivial, List.forall_mem_cons.mpr ⟨(lk_v ⟨pg_m29, by decide, tw_8, ⟨by decide, by decide⟩, Or.inl tw_720⟩ (by decide) tw_722 ts_15 (by decide +kernel) (by decide) rfl), List.forall_mem_cons.mpr ⟨trivial, List.forall_mem_cons.mpr ⟨trivial, List.forall_mem_cons.mpr ⟨trivial, List.forall_mem_cons.mpr ⟨trivial, List.forall_mem_cons.mpr ⟨trivial, List.forall_mem_cons.mpr ⟨trivial, List.forall_mem_cons.mpr ⟨(lk_get pg_okc8 (by decide) tw_561), List.forall_mem_cons.mpr ⟨rfl, List.forall_mem_cons.mpr ⟨trivial, List.forall_mem_cons.mpr ⟨trivial, List.forall_mem_cons.mpr ⟨rfl, List.forall_mem_cons.mpr ⟨trivial, List.forall_mem_cons.mpr ⟨rfl, List.forall_mem_cons.mpr ⟨trivial, List.forall_mem_cons.mpr ⟨trivial, List.forall_mem_cons.mpr ⟨(lk_get pg_okc8 (by decide) tw_546), List.forall_mem_cons.mpr ⟨trivial, List.forall_mem_cons.mpr ⟨(lk_get pg_okc8 (by decide) tw_558), List.forall_mem_cons.mpr ⟨trivial, List.forall_mem_cons.mpr ⟨trivial, List.forall_mem_cons.mpr ⟨trivial, List.forall_mem_cons.mpr ⟨trivial, List.forall_mem_cons.mpr ⟨trivial, List.forall_mem_cons.mpr ⟨trivial, List.forall_mem_cons.mpr ⟨rfl, List.forall_mem_cons.mpr ⟨trivial, List.forall_mem_cons.mpr ⟨trivial, List.forall_mem_cons.mpr ⟨rfl, List.forall_mem_cons.mpr ⟨trivial, List.forall_mem_cons.mpr ⟨rfl, List.forall_mem_cons.mpr ⟨trivial, List.forall_mem_cons.mpr ⟨trivial, fun _ h => absurd h List.not_mem_nil⟩⟩⟩⟩⟩⟩⟩⟩⟩⟩⟩⟩⟩⟩⟩⟩⟩⟩⟩⟩⟩⟩⟩⟩⟩⟩⟩⟩⟩⟩⟩⟩⟩⟩⟩
set_option maxRecDepth 100000 in
theorem pg_lk32_0 : ∀ q ∈ (pg_c32.drop 0).take 40, mj_lk pg pg_cl pg_ty pg_Ts pg_Nw pg_ak pg_yn pg_cc pg_rt 32 q.1 q.2 := List.forall_mem_cons.mpr ⟨trivial, List.forall_mem_cons.mpr ⟨trivial, List.forall_mem_cons.mpr ⟨(lk_put pg_okc8 (by decide) (Or.inl ⟨rfl, rfl⟩) rfl tw_542), List.forall_mem_cons.mpr ⟨trivial, List.forall_mem_cons.mpr ⟨trivial, List.forall_mem_cons.mpr ⟨(lk_v ⟨pg_m18, by decide, tw_8, ⟨by decide, by decide⟩, Or.inl tw_704⟩ (by decide) tw_706 ts_14 (by decide +kernel) (by decide) rfl), List.forall_mem_cons.mpr ⟨rfl, List.forall_mem_cons.mpr ⟨trivial, List.forall_mem_cons.mpr ⟨trivial, List.forall_mem_cons.mpr ⟨(lk_v ⟨pg_m31, by decide, tw_8, ⟨by decide, by decide⟩, Or.inl tw_736⟩ (by decide) tw_738 ts_18 (by decide +kernel) (by decide) rfl), List.forall_mem_cons.mpr ⟨rfl, List.forall_mem_cons.mpr ⟨trivial, List.forall_mem_cons.mpr ⟨trivial, fun _ h => absurd h List.not_mem_nil⟩⟩⟩⟩⟩⟩⟩⟩⟩⟩⟩⟩⟩
set_option maxRecDepth 100000 in
theorem pg_lk33_0 : ∀ q ∈ (pg_c33.drop 0).take 40, mj_lk pg pg_cl pg_ty pg_Ts pg_Nw pg_ak pg_yn pg_cc pg_rt 33 q.1 q.2 := List.forall_mem_cons.mpr ⟨trivial, List.forall_mem_cons.mpr ⟨trivial, List.forall_mem_cons.mpr ⟨trivial, List.forall_mem_cons.mpr ⟨(lk_get pg_okc8 (by decide) tw_561), List.forall_mem_cons.mpr ⟨trivial, List.forall_mem_cons.mpr ⟨trivial, List.forall_mem_cons.mpr ⟨trivial, List.forall_mem_cons.mpr ⟨trivial, List.forall_mem_cons.mpr ⟨trivial, List.forall_mem_cons.mpr ⟨rfl, List.forall_mem_cons.mpr ⟨trivial, List.forall_mem_cons.mpr ⟨trivial, List.forall_mem_cons.mpr ⟨(lk_get pg_okc8 (by decide) tw_546), List.forall_mem_cons.mpr ⟨trivial, List.forall_mem_cons.mpr ⟨(lk_get pg_okc8 (by decide) tw_558), List.forall_mem_cons.mpr ⟨trivial, List.forall_mem_cons.mpr ⟨trivial, List.forall_mem_cons.mpr ⟨trivial, List.forall_mem_cons.mpr ⟨trivial, List.forall_mem_cons.mpr ⟨trivial, List.forall_mem_cons.mpr ⟨trivial, List.forall_mem_cons.mpr ⟨rfl, List.forall_mem_cons.mpr ⟨trivial, List.forall_mem_cons.mpr ⟨trivial, List.forall_mem_cons.mpr ⟨(lk_get pg_okc8 (by decide) tw_546), List.forall_mem_cons.mpr ⟨trivial, List.forall_mem_cons.mpr ⟨(lk_get pg_okc8 (by decide) tw_558), List.forall_mem_cons.mpr ⟨trivial, List.forall_mem_cons.mpr ⟨trivial, List.forall_mem_cons.mpr ⟨trivial, List.forall_mem_cons.mpr ⟨trivial, List.forall_mem_cons.mpr ⟨trivial, fun _ h => absurd h List.not_mem_nil⟩⟩⟩⟩⟩⟩⟩⟩⟩⟩⟩⟩⟩⟩⟩⟩⟩⟩⟩⟩⟩⟩⟩⟩⟩⟩⟩⟩⟩⟩⟩⟩
set_option maxRecDepth 100000 in
theorem pg_lk34_0 : ∀ q ∈ (pg_c34.drop 0).take 40, mj_lk pg pg_cl pg_ty pg_Ts pg_Nw pg_ak pg_yn pg_cc pg_rt 34 q.1 q.2 := List.forall_mem_cons.mpr ⟨trivial, List.forall_mem_cons.mpr ⟨(lk_get pg_okc8 (by decide) tw_574), List.forall_mem_cons.mpr ⟨trivial, List.forall_mem_cons.mpr ⟨(lk_get pg_okc8 (by decide) tw_563), List.forall_mem_cons.mpr ⟨trivial, List.forall_mem_cons.mpr ⟨trivial, List.forall_mem_cons.mpr ⟨trivial, List.forall_mem_cons.mpr ⟨(lk_get pg_okc8 (by decide) tw_575), List.forall_mem_cons.mpr ⟨trivial, List.forall_mem_cons.mpr ⟨(lk_get pg_okc8 (by decide) tw_563), List.forall_mem_cons.mpr ⟨trivial, List.forall_mem_cons.mpr ⟨trivial, List.forall_mem_cons.mpr ⟨trivial, List.forall_mem_cons.mpr ⟨(lk_get pg_okc8 (by decide) tw_576), List.forall_mem_cons.mpr ⟨trivial, List.forall_mem_cons.mpr ⟨(lk_get pg_okc8 (by decide) tw_563), List.forall_mem_cons.mpr ⟨trivial, List.forall_mem_cons.mpr ⟨trivial, List.forall_mem_cons.mpr ⟨trivial, List.forall_mem_cons.mpr ⟨trivial, List.forall_mem_cons.mpr ⟨(lk_get pg_okc8 (by decide) tw_563), List.forall_mem_cons.mpr ⟨trivial, List.forall_mem_cons.mpr ⟨trivial, List.forall_mem_cons.mpr ⟨(lk_put pg_okc8 (by decide) (Or.inl ⟨rfl, rfl⟩) rfl tw_563), List.forall_mem_cons.mpr ⟨trivial, fun _ h => absurd h List.not_mem_nil⟩⟩⟩⟩⟩⟩⟩⟩⟩⟩⟩⟩⟩⟩⟩⟩⟩⟩⟩⟩⟩⟩⟩⟩⟩
set_option maxRecDepth 100000 in
theorem pg_lk35_0 : ∀ q ∈ (pg_c35.drop 0).take 40, mj_lk pg pg_cl pg_ty pg_Ts pg_Nw pg_ak pg_yn pg_cc pg_rt 35 q.1 q.2 := List.forall_mem_cons.mpr ⟨trivial, List.forall_mem_cons.mpr ⟨(lk_get pg_okc8 (by decide) tw_566), List.forall_mem_cons.mpr ⟨trivial, List.forall_mem_cons.mpr ⟨trivial, List.forall_mem_cons.mpr ⟨trivial, List.forall_mem_cons.mpr ⟨trivial, List.forall_mem_cons.mpr ⟨(lk_get pg_okc8 (by decide) tw_572), List.forall_mem_cons.mpr ⟨trivial, List.forall_mem_cons.mpr ⟨trivial, List.forall_mem_cons.mpr ⟨trivial, List.forall_mem_cons.mpr ⟨trivial, List.forall_mem_cons.mpr ⟨trivial, List.forall_mem_cons.mpr ⟨trivial, List.forall_mem_cons.mpr ⟨trivial, List.forall_mem_cons.mpr ⟨(lk_get pg_okc8 (by decide) tw_573), List.forall_mem_cons.mpr ⟨trivial, List.forall_mem_cons.mpr ⟨trivial, List.forall_mem_cons.mpr ⟨trivial, List.forall_mem_cons.mpr ⟨trivial, List.forall_mem_cons.mpr ⟨(lk_get pg_okc8 (by decide) tw_550), List.forall_mem_cons.mpr ⟨trivial, List.forall_mem_cons.mpr ⟨trivial, List.forall_mem_cons.mpr ⟨rfl, List.forall_mem_cons.mpr ⟨trivial, List.forall_mem_cons.mpr ⟨rfl, List.forall_mem_cons.mpr ⟨trivial, List.forall_mem_cons.mpr ⟨trivial, List.forall_mem_cons.mpr ⟨trivial, List.forall_mem_cons.mpr ⟨trivial, List.forall_mem_cons.mpr ⟨trivial, List.forall_mem_cons.mpr ⟨(lk_get pg_okc8 (by decide) tw_585), List.forall_mem_cons.mpr ⟨trivial, List.forall_mem_cons.mpr ⟨(lk_get pg_okc8 (by decide) tw_550), List.forall_mem_cons.mpr ⟨trivial, List.forall_mem_cons.mpr ⟨trivial, List.forall_mem_cons.mpr ⟨rfl, List.forall_mem_cons.mpr ⟨trivial, List.forall_mem_cons.mpr ⟨rfl, List.forall_mem_cons.mpr ⟨trivial, List.forall_mem_cons.mpr ⟨trivial, fun _ h => absurd h List.not_mem_nil⟩⟩⟩⟩⟩⟩⟩⟩⟩⟩⟩⟩⟩⟩⟩⟩⟩⟩⟩⟩⟩⟩⟩⟩⟩⟩⟩⟩⟩⟩⟩⟩⟩⟩⟩⟩⟩⟩⟩⟩
set_option maxRecDepth 100000 in
theorem pg_lk35_1 : ∀ q ∈ (pg_c35.drop 40).take 40, mj_lk pg pg_cl pg_ty pg_Ts pg_Nw pg_ak pg_yn pg_cc pg_rt 35 q.1 q.2 := List.forall_mem_cons.mpr ⟨(lk_put pg_okc8 (by decide) (Or.inl ⟨rfl, rfl⟩) rfl tw_585), List.forall_mem_cons.mpr ⟨trivial, List.forall_mem_cons.mpr ⟨trivial, List.forall_mem_cons.mpr ⟨(lk_get pg_okc8 (by decide) tw_550), List.forall_mem_cons.mpr ⟨trivial, List.forall_mem_cons.mpr ⟨trivial, List.forall_mem_cons.mpr ⟨rfl, List.forall_mem_cons.mpr ⟨trivial, List.forall_mem_cons.mpr ⟨rfl, List.forall_mem_cons.mpr ⟨trivial, List.forall_mem_cons.mpr ⟨trivial, List.forall_mem_cons.mpr ⟨trivial, List.forall_mem_cons.mpr ⟨(lk_get pg_okc8 (by decide) tw_567), List.forall_mem_cons.mpr ⟨trivial, List.forall_mem_cons.mpr ⟨trivial, List.forall_mem_cons.mpr ⟨(lk_v ⟨pg_m34, by decide, tw_8, ⟨by decide, by decide⟩, Or.inl tw_768⟩ (by decide) tw_770 ts_25 (by decide +kernel) (by decide) rfl), List.forall_mem_cons.mpr ⟨trivial, fun _ h => absurd h List.not_mem_nil⟩⟩⟩⟩⟩⟩⟩⟩⟩⟩⟩⟩⟩⟩⟩⟩⟩
set_option maxRecDepth 100000 in
theorem pg_lk36_0 : ∀ q ∈ (pg_c36.drop 0).take 40, mj_lk pg pg_cl pg_ty pg_Ts pg_Nw pg_ak pg_yn pg_cc pg_rt 36 q.1 q.2 := List.forall_mem_cons.mpr ⟨trivial, List.forall_mem_cons.mpr ⟨trivial, List.forall_mem_cons.mpr ⟨trivial, List.forall_mem_cons.mpr ⟨rfl, List.forall_mem_cons.mpr ⟨trivial, List.forall_mem_cons.mpr ⟨trivial, List.forall_mem_cons.mpr ⟨trivial, List.forall_mem_cons.mpr ⟨trivial, List.forall_mem_cons.mpr ⟨trivial, List.forall_mem_cons.mpr ⟨trivial, List.forall_mem_cons.mpr ⟨(lk_get pg_okc8 (by decide) tw_543), List.forall_mem_cons.mpr ⟨rfl, List.forall_mem_cons.mpr ⟨trivial, List.forall_mem_cons.mpr ⟨(lk_get pg_okc8 (by decide) tw_584), List.forall_mem_cons.mpr ⟨trivial, List.forall_mem_cons.mpr ⟨trivial, List.forall_mem_cons.mpr ⟨rfl, List.forall_mem_cons.mpr ⟨trivial, List.forall_mem_cons.mpr ⟨(lk_get pg_okc8 (by decide) tw_566), List.forall_mem_cons.mpr ⟨trivial, List.forall_mem_cons.mpr ⟨trivial, List.forall_mem_cons.mpr ⟨rfl, List.forall_mem_cons.mpr ⟨trivial, List.forall_mem_cons.mpr ⟨trivial, List.forall_mem_cons.mpr ⟨rfl, List.forall_mem_cons.mpr ⟨trivial, List.forall_mem_cons.mpr ⟨(lk_get pg_okc8 (by decide) tw_566), List.forall_mem_cons.mpr ⟨trivial, List.forall_mem_cons.mpr ⟨trivial, List.forall_mem_cons.mpr ⟨trivial, List.forall_mem_cons.mpr ⟨(lk_get pg_okc8 (by decide) tw_566), List.forall_mem_cons.mpr ⟨trivial, List.forall_mem_cons.mpr ⟨trivial, List.forall_mem_cons.mpr ⟨rfl, List.forall_mem_cons.mpr ⟨trivial, List.forall_mem_cons.mpr ⟨trivial, List.forall_mem_cons.mpr ⟨trivial, List.forall_mem_cons.mpr ⟨rfl, List.forall_mem_cons.mpr ⟨trivial, List.forall_mem_cons.mpr ⟨trivial, fun _ h => absurd h List.not_mem_nil⟩⟩⟩⟩⟩⟩⟩⟩⟩⟩⟩⟩⟩⟩⟩⟩⟩⟩⟩⟩⟩⟩⟩⟩⟩⟩⟩⟩⟩⟩⟩⟩⟩⟩⟩⟩⟩⟩⟩⟩
set_option maxRecDepth 100000 in
theorem pg_lk36_1 : ∀ q ∈ (pg_c36.drop 40).take 40, mj_lk pg pg_cl pg_ty pg_Ts pg_Nw pg_ak pg_yn pg_cc pg_rt 36 q.1 q.2 := List.forall_mem_cons.mpr ⟨rfl, List.forall_mem_cons.mpr ⟨trivial, List.forall_mem_cons.mpr ⟨rfl, List.forall_mem_cons.mpr ⟨trivial, List.forall_mem_cons.mpr ⟨trivial, List.forall_mem_cons.mpr ⟨trivial, List.forall_mem_cons.mpr ⟨rfl, List.forall_mem_cons.mpr ⟨trivial, List.forall_mem_cons.mpr ⟨trivial, List.forall_mem_cons.mpr ⟨(lk_v ⟨pg_m35, by decide, tw_8, ⟨by decide, by decide⟩, Or.inl tw_764⟩ (by decide) tw_766 ts_24 (by decide +kernel) (by decide) rfl), List.forall_mem_cons.mpr ⟨rfl, List.forall_mem_cons.mpr ⟨trivial, fun _ h => absurd h List.not_mem_nil⟩⟩⟩⟩⟩⟩⟩⟩⟩⟩⟩⟩
set_option maxRecDepth 100000 in
theorem pg_lk37_0 : ∀ q ∈ (pg_c37.drop 0).take 40, mj_lk pg pg_cl pg_ty pg_Ts pg_Nw pg_ak pg_yn pg_cc pg_rt 37 q.1 q.2 := List.forall_mem_cons.mpr ⟨trivial, List.forall_mem_cons.mpr ⟨trivial, List.forall_mem_cons.mpr ⟨trivial, List.forall_mem_cons.mpr ⟨trivial, List.forall_mem_cons.mpr ⟨(lk_get pg_okc8 (by decide) tw_543), List.forall_mem_cons.mpr ⟨rfl, List.forall_mem_cons.mpr ⟨trivial, List.forall_mem_cons.mpr ⟨(lk_get pg_okc8 (by decide) tw_584), List.forall_mem_cons.mpr ⟨trivial, List.forall_mem_cons.mpr ⟨trivial, List.forall_mem_cons.mpr ⟨(lk_get pg_okc8 (by decide) tw_566), List.forall_mem_cons.mpr ⟨trivial, List.forall_mem_cons.mpr ⟨trivial, List.forall_mem_cons.mpr ⟨rfl, List.forall_mem_cons.mpr ⟨trivial, List.forall_mem_cons.mpr ⟨(lk_get pg_okc8 (by decide) tw_545), List.forall_mem_cons.mpr ⟨trivial, List.forall_mem_cons.mpr ⟨trivial, List.forall_mem_cons.mpr ⟨trivial, List.forall_mem_cons.mpr ⟨rfl, List.forall_mem_cons.mpr ⟨trivial, List.forall_mem_cons.mpr ⟨(lk_get pg_okc8 (by decide) tw_568), List.forall_mem_cons.mpr ⟨trivial, List.forall_mem_cons.mpr ⟨trivial, List.forall_mem_cons.mpr ⟨trivial, List.forall_mem_cons.mpr ⟨(lk_get pg_okc8 (by decide) tw_551), List.forall_mem_cons.mpr ⟨trivial, List.forall_mem_cons.mpr ⟨trivial, List.forall_mem_cons.mpr ⟨rfl, List.forall_mem_cons.mpr ⟨trivial, List.forall_mem_cons.mpr ⟨rfl, List.forall_mem_cons.mpr ⟨trivial, List.forall_mem_cons.mpr ⟨trivial, List.forall_mem_cons.mpr ⟨trivial, List.forall_mem_cons.mpr ⟨(lk_get pg_okc8 (by decide) tw_545), List.forall_mem_cons.mpr ⟨trivial, List.forall_mem_cons.mpr ⟨trivial, List.forall_mem_cons.mpr ⟨trivial, List.forall_mem_cons.mpr ⟨rfl, List.forall_mem_cons.mpr ⟨trivial, fun _ h => absurd h List.not_mem_nil⟩⟩⟩⟩⟩⟩⟩⟩⟩⟩⟩⟩⟩⟩⟩⟩⟩⟩⟩⟩⟩⟩⟩⟩⟩⟩⟩⟩⟩⟩⟩⟩⟩⟩⟩⟩⟩⟩⟩⟩
set_option maxRecDepth 100000 in
theorem pg_lk37_1 : ∀ q ∈ (pg_c37.drop 40).take 40, mj_lk pg pg_cl pg_ty pg_Ts pg_Nw pg_ak pg_yn pg_cc pg_rt 37 q.1 q.2 := List.forall_mem_cons.mpr ⟨(lk_get pg_okc8 (by decide) tw_570), List.forall_mem_cons.mpr ⟨trivial, List.forall_mem_cons.mpr ⟨trivial, List.forall_mem_cons.mpr ⟨trivial, List.forall_mem_cons.mpr ⟨(lk_get pg_okc8 (by decide) tw_551), List.forall_mem_cons.mpr ⟨trivial, List.forall_mem_cons.mpr ⟨trivial, List.forall_mem_cons.mpr ⟨rfl, List.forall_mem_cons.mpr ⟨trivial, List.forall_mem_cons.mpr ⟨(lk_get pg_okc8 (by decide) tw_569), List.forall_mem_cons.mpr ⟨trivial, List.forall_mem_cons.mpr ⟨trivial, List.forall_mem_cons.mpr ⟨trivial, List.forall_mem_cons.mpr ⟨trivial, List.forall_mem_cons.mpr ⟨rfl, List.forall_mem_cons.mpr ⟨trivial, List.forall_mem_cons.mpr ⟨trivial, List.forall_mem_cons.mpr ⟨trivial, List.forall_mem_cons.mpr ⟨trivial, List.forall_mem_cons.mpr ⟨(lk_get pg_okc8 (by decide) tw_561), List.forall_mem_cons.mpr ⟨rfl, List.forall_mem_cons.mpr ⟨trivial, List.forall_mem_cons.mpr ⟨(lk_get pg_okc8 (by decide) tw_566), List.forall_mem_cons.mpr ⟨trivial, List.forall_mem_cons.mpr ⟨(lk_get pg_okc8 (by decide) tw_558), List.forall_mem_cons.mpr ⟨trivial, List.forall_mem_cons.mpr ⟨trivial, List.forall_mem_cons.mpr ⟨trivial, List.forall_mem_cons.mpr ⟨rfl, List.forall_mem_cons.mpr ⟨trivial, List.forall_mem_cons.mpr ⟨(lk_get pg_okc8 (by decide) tw_567), List.forall_mem_cons.mpr ⟨trivial, List.forall_mem_cons.mpr ⟨(lk_get pg_okc8 (by decide) tw_558), List.forall_mem_cons.mpr ⟨trivial, List.forall_mem_cons.mpr ⟨trivial, List.forall_mem_cons.mpr ⟨trivial, List.forall_mem_cons.mpr ⟨trivial, List.forall_mem_cons.mpr ⟨trivial, List.forall_mem_cons.mpr ⟨trivial, List.forall_mem_cons.mpr ⟨(lk_v ⟨pg_m33, by decide, tw_8, ⟨by decide, by decide⟩, Or.inl tw_748⟩ (by decide) tw_750 ts_20 (by decide +kernel) (by decide) rfl), fun _ h => absurd h List.not_mem_nil⟩⟩⟩⟩⟩⟩⟩⟩⟩⟩⟩⟩⟩⟩⟩⟩⟩⟩⟩⟩⟩⟩⟩⟩⟩⟩⟩⟩⟩⟩⟩⟩⟩⟩⟩⟩⟩⟩⟩⟩
set_option maxRecDepth 100000 in
theorem pg_lk37_2 : ∀ q ∈ (pg_c37.drop 80).take 40, mj_lk pg pg_cl pg_ty pg_Ts pg_Nw pg_ak pg_yn pg_cc pg_rt 37 q.1 q.2 := List.forall_mem_cons.mpr ⟨rfl, List.forall_mem_cons.mpr ⟨trivial, List.forall_mem_cons.mpr ⟨(lk_get pg_okc8 (by decide) tw_584), List.forall_mem_cons.mpr ⟨trivial, List.forall_mem_cons.mpr ⟨(lk_get pg_okc8 (by decide) tw_558), List.forall_mem_cons.mpr ⟨trivial, List.forall_mem_cons.mpr ⟨trivial, List.forall_mem_cons.mpr ⟨trivial, List.forall_mem_cons.mpr ⟨trivial, List.forall_mem_cons.mpr ⟨trivial, List.forall_mem_cons.mpr ⟨rfl, List.forall_mem_cons.mpr ⟨trivial, List.forall_mem_cons.mpr ⟨trivial, List.forall_mem_cons.mpr ⟨trivial, List.forall_mem_cons.mpr ⟨trivial, List.forall_mem_cons.mpr ⟨rfl, List.forall_mem_cons.mpr ⟨trivial, List.forall_mem_cons.mpr ⟨trivial, List.forall_mem_cons.mpr ⟨trivial, List.forall_mem_cons.mpr ⟨trivial, List.forall_mem_cons.mpr ⟨(lk_get pg_okc8 (by decide) tw_543), List.forall_mem_cons.mpr ⟨rfl, List.forall_mem_cons.mpr ⟨trivial, List.forall_mem_cons.mpr ⟨trivial, List.forall_mem_cons.mpr ⟨trivial, List.forall_mem_cons.mpr ⟨trivial, List.forall_mem_cons.mpr ⟨(lk_get pg_okc8 (by decide) tw_547), List.forall_mem_cons.mpr ⟨trivial, List.forall_mem_cons.mpr ⟨trivial, List.forall_mem_cons.mpr ⟨rfl, List.forall_mem_cons.mpr ⟨trivial, List.forall_mem_cons.mpr ⟨(lk_get pg_okc8 (by decide) tw_584), List.forall_mem_cons.mpr ⟨trivial, List.forall_mem_cons.mpr ⟨trivial, List.forall_mem_cons.mpr ⟨(lk_get pg_okc8 (by decide) tw_584), List.forall_mem_cons.mpr ⟨trivial, List.forall_mem_cons.mpr ⟨trivial, List.forall_mem_cons.mpr ⟨rfl, List.forall_mem_cons.mpr ⟨trivial, List.forall_mem_cons.mpr ⟨(lk_get pg_okc8 (by decide) tw_566), fun _ h => absurd h List.not_mem_nil⟩⟩⟩⟩⟩⟩⟩⟩⟩⟩⟩⟩⟩⟩⟩⟩⟩⟩⟩⟩⟩⟩⟩⟩⟩⟩⟩⟩⟩⟩⟩⟩⟩⟩⟩⟩⟩⟩⟩⟩
set_option maxRecDepth 100000 in
theorem pg_lk37_3 : ∀ q ∈ (pg_c37.drop 120).take 40, mj_lk pg pg_cl pg_ty pg_Ts pg_Nw pg_ak pg_yn pg_cc pg_rt 37 q.1 q.2 := List.forall_mem_cons.mpr ⟨trivial, List.forall_mem_cons.mpr ⟨trivial, List.forall_mem_cons.mpr ⟨rfl, List.forall_mem_cons.mpr ⟨trivial, List.forall_mem_cons.mpr ⟨(lk_get pg_okc8 (by decide) tw_584), List.forall_mem_cons.mpr ⟨trivial, List.forall_mem_cons.mpr ⟨(lk_get pg_okc8 (by decide) tw_548), List.forall_mem_cons.mpr ⟨trivial, List.forall_mem_cons.mpr ⟨trivial, List.forall_mem_cons.mpr ⟨trivial, List.forall_mem_cons.mpr ⟨trivial, List.forall_mem_cons.mpr ⟨trivial, List.forall_mem_cons.mpr ⟨trivial, List.forall_mem_cons.mpr ⟨trivial, List.forall_mem_cons.mpr ⟨rfl, List.forall_mem_cons.mpr ⟨trivial, List.forall_mem_cons.mpr ⟨rfl, List.forall_mem_cons.mpr ⟨trivial, List.forall_mem_cons.mpr ⟨trivial, List.forall_mem_cons.mpr ⟨trivial, List.forall_mem_cons.mpr ⟨rfl, List.forall_mem_cons.mpr ⟨trivial, List.forall_mem_cons.mpr ⟨rfl, List.forall_mem_cons.mpr ⟨trivial, List.forall_mem_cons.mpr ⟨rfl, List.forall_mem_cons.mpr ⟨trivial, List.forall_mem_cons.mpr ⟨(lk_v ⟨pg_m36, by decide, tw_8, ⟨by decide, by decide⟩, Or.inl tw_760⟩ (by decide) tw_762 ts_23 (by decide +kernel) (by decide) rfl), List.forall_mem_cons.mpr ⟨trivial, fun _ h => absurd h List.not_mem_nil⟩⟩⟩⟩⟩⟩⟩⟩⟩⟩⟩⟩⟩⟩⟩⟩⟩⟩⟩⟩⟩⟩⟩⟩⟩⟩⟩⟩
set_option maxRecDepth 100000 in
theorem pg_lk38_0 : ∀ q ∈ (pg_c38.drop 0).take 40, mj_lk pg pg_cl pg_ty pg_Ts pg_Nw pg_ak pg_yn pg_cc pg_rt 38 q.1 q.2 := List.forall_mem_cons.mpr ⟨trivial, List.forall_mem_cons.mpr ⟨trivial, List.forall_mem_cons.mpr ⟨trivial, List.forall_mem_cons.mpr ⟨trivial, List.forall_mem_cons.mpr ⟨(lk_get pg_okc8 (by decide) tw_561), List.forall_mem_cons.mpr ⟨rfl, List.forall_mem_cons.mpr ⟨trivial, List.forall_mem_cons.mpr ⟨(lk_get pg_okc8 (by decide) tw_558), List.forall_mem_cons.mpr ⟨trivial, List.forall_mem_cons.mpr ⟨trivial, List.forall_mem_cons.mpr ⟨trivial, List.forall_mem_cons.mpr ⟨trivial, List.forall_mem_cons.mpr ⟨trivial, List.forall_mem_cons.mpr ⟨trivial, List.forall_mem_cons.mpr ⟨(lk_v ⟨pg_m33, by decide, tw_8, ⟨by decide, by decide⟩, Or.inl tw_748⟩ (by decide) tw_750 ts_20 (by decide +kernel) (by decide) rfl), List.forall_mem_cons.mpr ⟨trivial, List.forall_mem_cons.mpr ⟨trivial, List.forall_mem_cons.mpr ⟨(lk_get pg_okc8 (by decide) tw_566), List.forall_mem_cons.mpr ⟨trivial, List.forall_mem_cons.mpr ⟨trivial, List.forall_mem_cons.mpr ⟨rfl, List.forall_mem_cons.mpr ⟨rfl, List.forall_mem_cons.mpr ⟨trivial, List.forall_mem_cons.mpr ⟨(lk_get pg_okc8 (by decide) tw_569), List.forall_mem_cons.mpr ⟨trivial, List.forall_mem_cons.mpr ⟨trivial, List.forall_mem_cons.mpr ⟨trivial, List.forall_mem_cons.mpr ⟨trivial, List.forall_mem_cons.mpr ⟨trivial, List.forall_mem_cons.mpr ⟨trivial, List.forall_mem_cons.mpr ⟨trivial, List.forall_mem_cons.mpr ⟨rfl, List.forall_mem_cons.mpr ⟨trivial, List.forall_mem_cons.mpr ⟨trivial, List.forall_mem_cons.mpr ⟨trivial, List.forall_mem_cons.mpr ⟨(lk_get pg_okc8 (by decide) tw_549), List.forall_mem_cons.mpr ⟨trivial, List.forall_mem_cons.mpr ⟨trivial, List.forall_mem_cons.mpr ⟨rfl, List.forall_mem_cons.mpr ⟨trivial, fun _ h => absurd h List.not_mem_nil⟩⟩⟩⟩⟩⟩⟩⟩⟩⟩⟩⟩⟩⟩⟩⟩⟩⟩⟩⟩⟩⟩⟩⟩⟩⟩⟩⟩⟩⟩⟩⟩⟩⟩⟩⟩⟩⟩⟩⟩
set_option maxRecDepth 100000 in
theorem pg_lk38_1 : ∀ q ∈ (pg_c38.drop 40).take 40, mj_lk pg pg_cl pg_ty pg_Ts pg_Nw pg_ak pg_yn pg_cc pg_rt 38 q.1 q.2 := List.forall_mem_cons.mpr ⟨trivial, List.forall_mem_cons.mpr ⟨trivial, List.forall_mem_cons.mpr ⟨trivial, List.forall_mem_cons.mpr ⟨(lk_v ⟨pg_m34, by decide, tw_8, ⟨by decide, by decide⟩, Or.inl tw_768⟩ (by decide) tw_770 ts_25 (by decide +kernel) (by decide) rfl), List.forall_mem_cons.mpr ⟨trivial, List.forall_mem_cons.mpr ⟨(lk_get pg_okc8 (by decide) tw_545), List.forall_mem_cons.mpr ⟨trivial, List.forall_mem_cons.mpr ⟨trivial, List.forall_mem_cons.mpr ⟨rfl, List.forall_mem_cons.mpr ⟨trivial, List.forall_mem_cons.mpr ⟨(lk_get pg_okc8 (by decide) tw_569), List.forall_mem_cons.mpr ⟨trivial, List.forall_mem_cons.mpr ⟨trivial, List.forall_mem_cons.mpr ⟨trivial, List.forall_mem_cons.mpr ⟨trivial, List.forall_mem_cons.mpr ⟨trivial, List.forall_mem_cons.mpr ⟨trivial, List.forall_mem_cons.mpr ⟨trivial, List.forall_mem_cons.mpr ⟨trivial, List.forall_mem_cons.mpr ⟨trivial, List.forall_mem_cons.mpr ⟨(lk_get pg_okc8 (by decide) tw_570), List.forall_mem_cons.mpr ⟨trivial, List.forall_mem_cons.mpr ⟨trivial, List.forall_mem_cons.mpr ⟨(lk_get pg_okc8 (by decide) tw_551), List.forall_mem_cons.mpr ⟨trivial, List.forall_mem_cons.mpr ⟨trivial, List.forall_mem_cons.mpr ⟨trivial, List.forall_mem_cons.mpr ⟨trivial, List.forall_mem_cons.mpr ⟨trivial, List.forall_mem_cons.mpr ⟨trivial, List.forall_mem_cons.mpr ⟨trivial, List.forall_mem_cons.mpr ⟨(lk_get pg_okc8 (by decide) tw_565), List.forall_mem_cons.mpr ⟨trivial, List.forall_mem_cons.mpr ⟨trivial, List.forall_mem_cons.mpr ⟨(lk_put pg_okc8 (by decide) (Or.inl ⟨rfl, rfl⟩) rfl tw_565), List.forall_mem_cons.mpr ⟨trivial, List.forall_mem_cons.mpr ⟨(lk_get pg_okc8 (by decide) tw_566), List.forall_mem_cons.mpr ⟨trivial, List.forall_mem_cons.mpr ⟨trivial, List.forall_mem_cons.mpr ⟨(lk_get pg_okc8 (by decide) tw_565), fun _ h => absurd h List.not_mem_nil⟩⟩⟩⟩⟩⟩⟩⟩⟩⟩⟩⟩⟩⟩⟩⟩⟩⟩⟩⟩⟩⟩⟩⟩⟩⟩⟩⟩⟩⟩⟩⟩⟩⟩⟩⟩⟩⟩⟩⟩
set_option maxRecDepth 100000 in
theorem pg_lk38_2 : ∀ q ∈ (pg_c38.drop 80).take 40, mj_lk pg pg_cl pg_ty pg_Ts pg_Nw pg_ak pg_yn pg_cc pg_rt 38 q.1 q.2 := List.forall_mem_cons.mpr ⟨trivial, List.forall_mem_cons.mpr ⟨trivial, List.forall_mem_cons.mpr ⟨(lk_get pg_okc8 (by decide) tw_567), List.forall_mem_cons.mpr ⟨trivial, List.forall_mem_cons.mpr ⟨trivial, List.forall_mem_cons.mpr ⟨trivial, List.forall_mem_cons.mpr ⟨trivial, List.forall_mem_cons.mpr ⟨(lk_get pg_okc8 (by decide) tw_568), List.forall_mem_cons.mpr ⟨trivial, List.forall_mem_cons.mpr ⟨trivial, List.forall_mem_cons.mpr ⟨(lk_get pg_okc8 (by decide) tw_551), List.forall_mem_cons.mpr ⟨trivial, List.forall_mem_cons.mpr ⟨trivial, List.forall_mem_cons.mpr ⟨trivial, List.forall_mem_cons.mpr ⟨trivial, List.forall_mem_cons.mpr ⟨(lk_get pg_okc8 (by decide) tw_571), List.forall_mem_cons.mpr ⟨trivial, List.forall_mem_cons.mpr ⟨trivial, List.forall_mem_cons.mpr ⟨trivial, List.forall_mem_cons.mpr ⟨trivial, List.forall_mem_cons.mpr ⟨trivial, List.forall_mem_cons.mpr ⟨trivial, List.forall_mem_cons.mpr ⟨trivial, List.forall_mem_cons.mpr ⟨trivial, List.forall_mem_cons.mpr ⟨trivial, List.forall_mem_cons.mpr ⟨trivial, List.forall_mem_cons.mpr ⟨(lk_v ⟨pg_m34, by decide, tw_8, ⟨by decide, by decide⟩, Or.inl tw_768⟩ (by decide) tw_770 ts_25 (by decide +kernel) (by decide) rfl), List.forall_mem_cons.mpr ⟨trivial, List.forall_mem_cons.mpr ⟨rfl, List.forall_mem_cons.mpr ⟨trivial, List.forall_mem_cons.mpr ⟨trivial, fun _ h => absurd h List.not_mem_nil⟩⟩⟩⟩⟩⟩⟩⟩⟩⟩⟩⟩⟩⟩⟩⟩⟩⟩⟩⟩⟩⟩⟩⟩⟩⟩⟩⟩⟩⟩⟩
set_option maxRecDepth 100000 in
theorem pg_lk39_0 : ∀ q ∈ (pg_c39.drop 0).take 40, mj_lk pg pg_cl pg_ty pg_Ts pg_Nw pg_ak pg_yn pg_cc pg_rt 39 q.1 q.2 := List.forall_mem_cons.mpr ⟨trivial, List.forall_mem_cons.mpr ⟨(lk_get pg_okc8 (by decide) tw_564), List.forall_mem_cons.mpr ⟨trivial, List.forall_mem_cons.mpr ⟨trivial, List.forall_mem_cons.mpr ⟨(lk_get pg_okc8 (by decide) tw_577), List.forall_mem_cons.mpr ⟨trivial, List.forall_mem_cons.mpr ⟨trivial, List.forall_mem_cons.mpr ⟨trivial, List.forall_mem_cons.mpr ⟨trivial, List.forall_mem_cons.mpr ⟨(lk_get pg_okc8 (by decide) tw_578), List.forall_mem_cons.mpr ⟨trivial, List.forall_mem_cons.mpr ⟨trivial, List.forall_mem_cons.mpr ⟨trivial, List.forall_mem_cons.mpr ⟨trivial, List.forall_mem_cons.mpr ⟨trivial, List.forall_mem_cons.mpr ⟨(lk_v ⟨pg_m29, by decide, tw_8, ⟨by decide, by decide⟩, Or.inl tw_720⟩ (by decide) tw_722 ts_15 (by decide +kernel) (by decide) rfl), List.forall_mem_cons.mpr ⟨trivial, List.forall_mem_cons.mpr ⟨trivial, List.forall_mem_cons.mpr ⟨(lk_put pg_okc8 (by decide) (Or.inl ⟨rfl, rfl⟩) rfl tw_585), List.forall_mem_cons.mpr ⟨trivial, List.forall_mem_cons.mpr ⟨trivial, List.forall_mem_cons.mpr ⟨trivial, List.forall_mem_cons.mpr ⟨(lk_v ⟨pg_m37, by decide, tw_8, ⟨by decide, by decide⟩, Or.inl tw_756⟩ (by decide) tw_758 ts_22 (by decide +kernel) (by decide) rfl), List.forall_mem_cons.mpr ⟨trivial, List.forall_mem_cons.mpr ⟨(lk_get pg_okc8 (by decide) tw_585), List.forall_mem_cons.mpr ⟨trivial, List.forall_mem_cons.mpr ⟨trivial, List.forall_mem_cons.mpr ⟨trivial, List.forall_mem_cons.mpr ⟨trivial, List.forall_mem_cons.mpr ⟨trivial, List.forall_mem_cons.mpr ⟨trivial, List.forall_mem_cons.mpr ⟨trivial, List.forall_mem_cons.mpr ⟨trivial, List.forall_mem_cons.mpr ⟨trivial, List.forall_mem_cons.mpr ⟨trivial, List.forall_mem_cons.mpr ⟨rfl, List.forall_mem_cons.mpr ⟨trivial, List.forall_mem_cons.mpr ⟨trivial, List.forall_mem_cons.mpr ⟨rfl, List.forall_mem_cons.mpr ⟨trivial, fun _ h => absurd h List.not_mem_nil⟩⟩⟩⟩⟩⟩⟩⟩⟩⟩⟩⟩⟩⟩⟩⟩⟩⟩⟩⟩⟩⟩⟩⟩⟩⟩⟩⟩⟩⟩⟩⟩⟩⟩⟩⟩⟩⟩⟩⟩
set_option maxRecDepth 100000 in
theorem pg_lk39_1 : ∀ q ∈ (pg_c39.drop 40).take 40, mj_lk pg pg_cl pg_ty pg_Ts pg_Nw pg_ak pg_yn pg_cc pg_rt 39 q.1 q.2 := List.forall_mem_cons.mpr ⟨trivial, List.forall_mem_cons.mpr ⟨rfl, List.forall_mem_cons.mpr ⟨trivial, List.forall_mem_cons.mpr ⟨trivial, List.forall_mem_cons.mpr ⟨(lk_get pg_okc8 (by decide) tw_557), List.forall_mem_cons.mpr ⟨trivial, List.forall_mem_cons.mpr ⟨trivial, List.forall_mem_cons.mpr ⟨rfl, List.forall_mem_cons.mpr ⟨trivial, List.forall_mem_cons.mpr ⟨trivial, List.forall_mem_cons.mpr ⟨trivial, List.forall_mem_cons.mpr ⟨(lk_v ⟨pg_m38, by decide, tw_8, ⟨by decide, by decide⟩, Or.inl tw_772⟩ (by decide) tw_774 ts_26 (by decide +kernel) (by decide) rfl), List.forall_mem_cons.mpr ⟨trivial, List.forall_mem_cons.mpr ⟨trivial, List.forall_mem_cons.mpr ⟨trivial, List.forall_mem_cons.mpr ⟨trivial, List.forall_mem_cons.mpr ⟨trivial, List.forall_mem_cons.mpr ⟨rfl, List.forall_mem_cons.mpr ⟨trivial, List.forall_mem_cons.mpr ⟨trivial, List.forall_mem_cons.mpr ⟨trivial, List.forall_mem_cons.mpr ⟨trivial, List.forall_mem_cons.mpr ⟨(lk_v ⟨pg_m34, by decide, tw_8, ⟨by decide, by decide⟩, Or.inl tw_768⟩ (by decide) tw_770 ts_25 (by decide +kernel) (by decide) rfl), List.forall_mem_cons.mpr ⟨trivial, List.forall_mem_cons.mpr ⟨(lk_get pg_okc8 (by decide) tw_554), List.forall_mem_cons.mpr ⟨trivial, List.forall_mem_cons.mpr ⟨trivial, List.forall_mem_cons.mpr ⟨trivial, List.forall_mem_cons.mpr ⟨(lk_get pg_okc8 (by decide) tw_555), List.forall_mem_cons.mpr ⟨trivial, List.forall_mem_cons.mpr ⟨trivial, List.forall_mem_cons.mpr ⟨rfl, List.forall_mem_cons.mpr ⟨trivial, List.forall_mem_cons.mpr ⟨rfl, List.forall_mem_cons.mpr ⟨trivial, List.forall_mem_cons.mpr ⟨trivial, List.forall_mem_cons.mpr ⟨(lk_get pg_okc8 (by decide) tw_556), List.forall_mem_cons.mpr ⟨trivial, List.forall_mem_cons.mpr ⟨trivial, List.forall_mem_cons.mpr ⟨rfl, fun _ h => absurd h List.not_mem_nil⟩⟩⟩⟩⟩⟩⟩⟩⟩⟩⟩⟩⟩⟩⟩⟩⟩⟩⟩⟩⟩⟩⟩⟩⟩⟩⟩⟩⟩⟩⟩⟩⟩⟩⟩⟩⟩⟩⟩⟩
set_option maxRecDepth 100000 in
theorem pg_lk39_2 : ∀ q ∈ (pg_c39.drop 80).take 40, mj_lk pg pg_cl pg_ty pg_Ts pg_Nw pg_ak pg_yn pg_cc pg_rt 39 q.1 q.2 := List.forall_mem_cons.mpr ⟨trivial, List.forall_mem_cons.mpr ⟨rfl, List.forall_mem_cons.mpr ⟨trivial, List.forall_mem_cons.mpr ⟨trivial, List.forall_mem_cons.mpr ⟨trivial, List.forall_mem_cons.mpr ⟨(lk_get pg_okc8 (by decide) tw_585), List.forall_mem_cons.mpr ⟨trivial, List.forall_mem_cons.mpr ⟨trivial, List.forall_mem_cons.mpr ⟨trivial, List.forall_mem_cons.mpr ⟨trivial, List.forall_mem_cons.mpr ⟨trivial, List.forall_mem_cons.mpr ⟨(lk_get pg_okc8 (by decide) tw_543), List.forall_mem_cons.mpr ⟨rfl, List.forall_mem_cons.mpr ⟨trivial, List.forall_mem_cons.mpr ⟨(lk_get pg_okc8 (by decide) tw_584), List.forall_mem_cons.mpr ⟨trivial, List.forall_mem_cons.mpr ⟨trivial, List.forall_mem_cons.mpr ⟨(lk_get pg_okc8 (by decide) tw_545), List.forall_mem_cons.mpr ⟨trivial, List.forall_mem_cons.mpr ⟨trivial, List.forall_mem_cons.mpr ⟨rfl, List.forall_mem_cons.mpr ⟨trivial, List.forall_mem_cons.mpr ⟨rfl, List.forall_mem_cons.mpr ⟨trivial, List.forall_mem_cons.mpr ⟨trivial, List.forall_mem_cons.mpr ⟨trivial, List.forall_mem_cons.mpr ⟨rfl, List.forall_mem_cons.mpr ⟨trivial, List.forall_mem_cons.mpr ⟨(lk_v ⟨pg_m36, by decide, tw_8, ⟨by decide, by decide⟩, Or.inl tw_760⟩ (by decide) tw_762 ts_23 (by decide +kernel) (by decide) rfl), List.forall_mem_cons.mpr ⟨trivial, List.forall_mem_cons.mpr ⟨(lk_get pg_okc8 (by decide) tw_585), List.forall_mem_cons.mpr ⟨trivial, List.forall_mem_cons.mpr ⟨trivial, List.forall_mem_cons.mpr ⟨trivial, List.forall_mem_cons.mpr ⟨trivial, List.forall_mem_cons.mpr ⟨rfl, List.forall_mem_cons.mpr ⟨trivial, List.forall_mem_cons.mpr ⟨trivial, List.forall_mem_cons.mpr ⟨rfl, List.forall_mem_cons.mpr ⟨trivial, fun _ h => absurd h List.not_mem_nil⟩⟩⟩⟩⟩⟩⟩⟩⟩⟩⟩⟩⟩⟩⟩⟩⟩⟩⟩⟩⟩⟩⟩⟩⟩⟩⟩⟩⟩⟩⟩⟩⟩⟩⟩⟩⟩⟩⟩⟩
set_option maxRecDepth 100000 in
theorem pg_lk39_3 : ∀ q ∈ (pg_c39.drop 120).take 40, mj_lk pg pg_cl pg_ty pg_Ts pg_Nw pg_ak pg_yn pg_cc pg_rt 39 q.1 q.2 := List.forall_mem_cons.mpr ⟨trivial, List.forall_mem_cons.mpr ⟨trivial, List.forall_mem_cons.mpr ⟨rfl, List.forall_mem_cons.mpr ⟨trivial, List.forall_mem_cons.mpr ⟨rfl, List.forall_mem_cons.mpr ⟨trivial, List.forall_mem_cons.mpr ⟨trivial, List.forall_mem_cons.mpr ⟨trivial, List.forall_mem_cons.mpr ⟨(lk_get pg_okc8 (by decide) tw_579), List.forall_mem_cons.mpr ⟨trivial, List.forall_mem_cons.mpr ⟨trivial, List.forall_mem_cons.mpr ⟨rfl, List.forall_mem_cons.mpr ⟨trivial, List.forall_mem_cons.mpr ⟨rfl, List.forall_mem_cons.mpr ⟨trivial, List.forall_mem_cons.mpr ⟨trivial, List.forall_mem_cons.mpr ⟨trivial, List.forall_mem_cons.mpr ⟨(lk_get pg_okc8 (by decide) tw_580), List.forall_mem_cons.mpr ⟨trivial, List.forall_mem_cons.mpr ⟨trivial, List.forall_mem_cons.mpr ⟨trivial, List.forall_mem_cons.mpr ⟨trivial, List.forall_mem_cons.mpr ⟨(lk_get pg_okc8 (by decide) tw_581), List.forall_mem_cons.mpr ⟨trivial, List.forall_mem_cons.mpr ⟨trivial, List.forall_mem_cons.mpr ⟨(lk_get pg_okc8 (by decide) tw_585), List.forall_mem_cons.mpr ⟨trivial, List.forall_mem_cons.mpr ⟨rfl, List.forall_mem_cons.mpr ⟨trivial, List.forall_mem_cons.mpr ⟨rfl, List.forall_mem_cons.mpr ⟨trivial, List.forall_mem_cons.mpr ⟨trivial, List.forall_mem_cons.mpr ⟨trivial, List.forall_mem_cons.mpr ⟨trivial, List.forall_mem_cons.mpr ⟨(lk_get pg_okc8 (by decide) tw_582), List.forall_mem_cons.mpr ⟨trivial, List.forall_mem_cons.mpr ⟨trivial, List.forall_mem_cons.mpr ⟨trivial, List.forall_mem_cons.mpr ⟨trivial, List.forall_mem_cons.mpr ⟨trivial, fun _ h => absurd h List.not_mem_nil⟩⟩⟩⟩⟩⟩⟩⟩⟩⟩⟩⟩⟩⟩⟩⟩⟩⟩⟩⟩⟩⟩⟩⟩⟩⟩⟩⟩⟩⟩⟩⟩⟩⟩⟩⟩⟩⟩⟩⟩
set_option maxRecDepth 100000 in
theorem pg_lk39_4 : ∀ q ∈ (pg_c39.drop 160).take 40, mj_lk pg pg_cl pg_ty pg_Ts pg_Nw pg_ak pg_yn pg_cc pg_rt 39 q.1 q.2 := List.forall_mem_cons.mpr ⟨(lk_get pg_okc8 (by decide) tw_564), List.forall_mem_cons.mpr ⟨trivial, List.forall_mem_cons.mpr ⟨trivial, List.forall_mem_cons.mpr ⟨(lk_put pg_okc8 (by decide) (Or.inl ⟨rfl, rfl⟩) rfl tw_564), List.forall_mem_cons.mpr ⟨trivial, fun _ h => absurd h List.not_mem_nil⟩⟩⟩⟩⟩
set_option maxRecDepth 100000 in
theorem pg_lk40_0 : ∀ q ∈ (pg_c40.drop 0).take 40, mj_lk pg pg_cl pg_ty pg_Ts pg_Nw pg_ak pg_yn pg_cc pg_rt 40 q.1 q.2 := List.forall_mem_cons.mpr ⟨trivial, List.forall_mem_cons.mpr ⟨trivial, List.forall_mem_cons.mpr ⟨(lk_v ⟨pg_m29, by decide, tw_8, ⟨by decide, by decide⟩, Or.inl tw_720⟩ (by decide) tw_722 ts_15 (by decide +kernel) (by decide) rfl), List.forall_mem_cons.mpr ⟨trivial, List.forall_mem_cons.mpr ⟨trivial, List.forall_mem_cons.mpr ⟨trivial, List.forall_mem_cons.mpr ⟨trivial, List.forall_mem_cons.mpr ⟨trivial, List.forall_mem_cons.mpr ⟨trivial, List.forall_mem_cons.mpr ⟨(lk_get pg_okc8 (by decide) tw_561), List.forall_mem_cons.mpr ⟨rfl, List.forall_mem_cons.mpr ⟨trivial, List.forall_mem_cons.mpr ⟨(lk_get pg_okc8 (by decide) tw_558), List.forall_mem_cons.mpr ⟨trivial, List.forall_mem_cons.mpr ⟨trivial, List.forall_mem_cons.mpr ⟨trivial, List.forall_mem_cons.mpr ⟨trivial, List.forall_mem_cons.mpr ⟨trivial, List.forall_mem_cons.mpr ⟨(lk_get pg_okc8 (by decide) tw_566), List.forall_mem_cons.mpr ⟨trivial, List.forall_mem_cons.mpr ⟨trivial, List.forall_mem_cons.mpr ⟨rfl, List.forall_mem_cons.mpr ⟨trivial, List.forall_mem_cons.mpr ⟨(lk_get pg_okc8 (by decide) tw_567), List.forall_mem_cons.mpr ⟨trivial, List.forall_mem_cons.mpr ⟨trivial, List.forall_mem_cons.mpr ⟨trivial, List.forall_mem_cons.mpr ⟨trivial, List.forall_mem_cons.mpr ⟨trivial, List.forall_mem_cons.mpr ⟨(lk_v ⟨pg_m33, by decide, tw_8, ⟨by decide, by decide⟩, Or.inl tw_748⟩ (by decide) tw_750 ts_20 (by decide +kernel) (by decide) rfl), List.forall_mem_cons.mpr ⟨rfl, List.forall_mem_cons.mpr ⟨trivial, List.forall_mem_cons.mpr ⟨(lk_get pg_okc8 (by decide) tw_545), List.forall_mem_cons.mpr ⟨trivial, List.forall_mem_cons.mpr ⟨trivial, List.forall_mem_cons.mpr ⟨trivial, List.forall_mem_cons.mpr ⟨rfl, List.forall_mem_cons.mpr ⟨trivial, List.forall_mem_cons.mpr ⟨(lk_get pg_okc8 (by decide) tw_568), List.forall_mem_cons.mpr ⟨trivial, fun _ h => absurd h List.not_mem_nil⟩⟩⟩⟩⟩⟩⟩⟩⟩⟩⟩⟩⟩⟩⟩⟩⟩⟩⟩⟩⟩⟩⟩⟩⟩⟩⟩⟩⟩⟩⟩⟩⟩⟩⟩⟩⟩⟩⟩⟩
set_option maxRecDepth 100000 in
theorem pg_lk40_1 : ∀ q ∈ (pg_c40.drop 40).take 40, mj_lk pg pg_cl pg_ty pg_Ts pg_Nw pg_ak pg_yn pg_cc pg_rt 40 q.1 q.2 := List.forall_mem_cons.mpr ⟨trivial, List.forall_mem_cons.mpr ⟨trivial, List.forall_mem_cons.mpr ⟨(lk_get pg_okc8 (by decide) tw_551), List.forall_mem_cons.mpr ⟨trivial, List.forall_mem_cons.mpr ⟨trivial, List.forall_mem_cons.mpr ⟨rfl, List.forall_mem_cons.mpr ⟨trivial, List.forall_mem_cons.mpr ⟨rfl, List.forall_mem_cons.mpr ⟨trivial, List.forall_mem_cons.mpr ⟨trivial, List.forall_mem_cons.mpr ⟨trivial, List.forall_mem_cons.mpr ⟨trivial, List.forall_mem_cons.mpr ⟨rfl, List.forall_mem_cons.mpr ⟨trivial, List.forall_mem_cons.mpr ⟨trivial, fun _ h => absurd h List.not_mem_nil⟩⟩⟩⟩⟩⟩⟩⟩⟩⟩⟩⟩⟩⟩⟩
set_option maxRecDepth 100000 in
theorem pg_lk41_0 : ∀ q ∈ (pg_c41.drop 0).take 40, mj_lk pg pg_cl pg_ty pg_Ts pg_Nw pg_ak pg_yn pg_cc pg_rt 41 q.1 q.2 := List.forall_mem_cons.mpr ⟨trivial, List.forall_mem_cons.mpr ⟨trivial, List.forall_mem_cons.mpr ⟨(lk_put pg_okc8 (by decide) (Or.inl ⟨rfl, rfl⟩) rfl tw_542), List.forall_mem_cons.mpr ⟨trivial, List.forall_mem_cons.mpr ⟨trivial, List.forall_mem_cons.mpr ⟨trivial, List.forall_mem_cons.mpr ⟨trivial, List.forall_mem_cons.mpr ⟨trivial, List.forall_mem_cons.mpr ⟨trivial, List.forall_mem_cons.mpr ⟨(lk_get pg_okc8 (by decide) tw_544), List.forall_mem_cons.mpr ⟨rfl, List.forall_mem_cons.mpr ⟨trivial, List.forall_mem_cons.mpr ⟨trivial, List.forall_mem_cons.mpr ⟨trivial, List.forall_mem_cons.mpr ⟨(lk_v ⟨pg_m31, by decide, tw_8, ⟨by decide, by decide⟩, Or.inl tw_736⟩ (by decide) tw_738 ts_18 (by decide +kernel) (by decide) rfl), List.forall_mem_cons.mpr ⟨trivial, List.forall_mem_cons.mpr ⟨trivial, List.forall_mem_cons.mpr ⟨trivial, List.forall_mem_cons.mpr ⟨rfl, List.forall_mem_cons.mpr ⟨trivial, List.forall_mem_cons.mpr ⟨rfl, List.forall_mem_cons.mpr ⟨trivial, List.forall_mem_cons.mpr ⟨trivial, List.forall_mem_cons.mpr ⟨rfl, List.forall_mem_cons.mpr ⟨trivial, List.forall_mem_cons.mpr ⟨trivial, List.forall_mem_cons.mpr ⟨rfl, List.forall_mem_cons.mpr ⟨trivial, List.forall_mem_cons.mpr ⟨trivial, List.forall_mem_cons.mpr ⟨trivial, List.forall_mem_cons.mpr ⟨trivial, List.forall_mem_cons.mpr ⟨(lk_get pg_okc8 (by decide) tw_543), List.forall_mem_cons.mpr ⟨(lk_put pg_okc8 (by decide) (Or.inl ⟨rfl, rfl⟩) rfl tw_562), List.forall_mem_cons.mpr ⟨trivial, List.forall_mem_cons.mpr ⟨trivial, List.forall_mem_cons.mpr ⟨(lk_put pg_okc8 (by decide) (Or.inl ⟨rfl, rfl⟩) rfl tw_563), List.forall_mem_cons.mpr ⟨trivial, List.forall_mem_cons.mpr ⟨trivial, List.forall_mem_cons.mpr ⟨(lk_put pg_okc8 (by decide) (Or.inl ⟨rfl, rfl⟩) rfl tw_564), List.forall_mem_cons.mpr ⟨trivial, fun _ h => absurd h List.not_mem_nil⟩⟩⟩⟩⟩⟩⟩⟩⟩⟩⟩⟩⟩⟩⟩⟩⟩⟩⟩⟩⟩⟩⟩⟩⟩⟩⟩⟩⟩⟩⟩⟩⟩⟩⟩⟩⟩⟩⟩⟩
set_option maxRecDepth 100000 in
theorem pg_lk41_1 : ∀ q ∈ (pg_c41.drop 40).take 40, mj_lk pg pg_cl pg_ty pg_Ts pg_Nw pg_ak pg_yn pg_cc pg_rt 41 q.1 q.2 := List.forall_mem_cons.mpr ⟨trivial, List.forall_mem_cons.mpr ⟨(lk_put pg_okc8 (by decide) (Or.inl ⟨rfl, rfl⟩) rfl tw_565), List.forall_mem_cons.mpr ⟨trivial, List.forall_mem_cons.mpr ⟨trivial, List.forall_mem_cons.mpr ⟨trivial, List.forall_mem_cons.mpr ⟨trivial, List.forall_mem_cons.mpr ⟨rfl, List.forall_mem_cons.mpr ⟨trivial, List.forall_mem_cons.mpr ⟨(lk_get pg_okc8 (by decide) tw_566), List.forall_mem_cons.mpr ⟨trivial, List.forall_mem_cons.mpr ⟨trivial, List.forall_mem_cons.mpr ⟨trivial, List.forall_mem_cons.mpr ⟨trivial, List.forall_mem_cons.mpr ⟨(lk_get pg_okc8 (by decide) tw_569), List.forall_mem_cons.mpr ⟨trivial, List.forall_mem_cons.mpr ⟨trivial, List.forall_mem_cons.mpr ⟨trivial, List.forall_mem_cons.mpr ⟨trivial, List.forall_mem_cons.mpr ⟨(lk_get pg_okc8 (by decide) tw_571), List.forall_mem_cons.mpr ⟨trivial, List.forall_mem_cons.mpr ⟨trivial, List.forall_mem_cons.mpr ⟨trivial, List.forall_mem_cons.mpr ⟨trivial, List.forall_mem_cons.mpr ⟨(lk_get pg_okc8 (by decide) tw_572), List.forall_mem_cons.mpr ⟨trivial, List.forall_mem_cons.mpr ⟨trivial, List.forall_mem_cons.mpr ⟨trivial, List.forall_mem_cons.mpr ⟨trivial, List.forall_mem_cons.mpr ⟨(lk_get pg_okc8 (by decide) tw_573), List.forall_mem_cons.mpr ⟨trivial, List.forall_mem_cons.mpr ⟨trivial, List.forall_mem_cons.mpr ⟨trivial, List.forall_mem_cons.mpr ⟨trivial, List.forall_mem_cons.mpr ⟨rfl, List.forall_mem_cons.mpr ⟨trivial, List.forall_mem_cons.mpr ⟨trivial, List.forall_mem_cons.mpr ⟨trivial, List.forall_mem_cons.mpr ⟨trivial, List.forall_mem_cons.mpr ⟨rfl, List.forall_mem_cons.mpr ⟨trivial, fun _ h => absurd h List.not_mem_nil⟩⟩⟩⟩⟩⟩⟩⟩⟩⟩⟩⟩⟩⟩⟩⟩⟩⟩⟩⟩⟩⟩⟩⟩⟩⟩⟩⟩⟩⟩⟩⟩⟩⟩⟩⟩⟩⟩⟩⟩
set_option maxRecDepth 100000 in
theorem pg_lk41_2 : ∀ q ∈ (pg_c41.drop 80).take 40, mj_lk pg pg_cl pg_ty pg_Ts pg_Nw pg_ak pg_yn pg_cc pg_rt 41 q.1 q.2 := List.forall_mem_cons.mpr ⟨(lk_get pg_okc8 (by decide) tw_583), List.forall_mem_cons.mpr ⟨trivial, List.forall_mem_cons.mpr ⟨trivial, List.forall_mem_cons.mpr ⟨trivial, List.forall_mem_cons.mpr ⟨trivial, List.forall_mem_cons.mpr ⟨rfl, List.forall_mem_cons.mpr ⟨trivial, List.forall_mem_cons.mpr ⟨(lk_get pg_okc8 (by decide) tw_564), List.forall_mem_cons.mpr ⟨trivial, List.forall_mem_cons.mpr ⟨rfl, List.forall_mem_cons.mpr ⟨trivial, List.forall_mem_cons.mpr ⟨trivial, List.forall_mem_cons.mpr ⟨trivial, List.forall_mem_cons.mpr ⟨trivial, List.forall_mem_cons.mpr ⟨trivial, List.forall_mem_cons.mpr ⟨trivial, List.forall_mem_cons.mpr ⟨trivial, List.forall_mem_cons.mpr ⟨trivial, List.forall_mem_cons.mpr ⟨trivial, List.forall_mem_cons.mpr ⟨trivial, List.forall_mem_cons.mpr ⟨(lk_get pg_okc8 (by decide) tw_544), List.forall_mem_cons.mpr ⟨rfl, List.forall_mem_cons.mpr ⟨trivial, List.forall_mem_cons.mpr ⟨trivial, List.forall_mem_cons.mpr ⟨(lk_v ⟨pg_m31, by decide, tw_8, ⟨by decide, by decide⟩, Or.inl tw_736⟩ (by decide) tw_738 ts_18 (by decide +kernel) (by decide) rfl), List.forall_mem_cons.mpr ⟨trivial, List.forall_mem_cons.mpr ⟨trivial, List.forall_mem_cons.mpr ⟨trivial, List.forall_mem_cons.mpr ⟨trivial, List.forall_mem_cons.mpr ⟨trivial, List.forall_mem_cons.mpr ⟨rfl, List.forall_mem_cons.mpr ⟨trivial, List.forall_mem_cons.mpr ⟨rfl, List.forall_mem_cons.mpr ⟨trivial, List.forall_mem_cons.mpr ⟨rfl, List.forall_mem_cons.mpr ⟨trivial, List.forall_mem_cons.mpr ⟨trivial, List.forall_mem_cons.mpr ⟨trivial, List.forall_mem_cons.mpr ⟨(lk_v ⟨pg_m40, by decide, tw_8, ⟨by decide, by decide⟩, Or.inl tw_744⟩ (by decide) tw_746 ts_19 (by decide +kernel) (by decide) rfl), List.forall_mem_cons.mpr ⟨trivial, fun _ h => absurd h List.not_mem_nil⟩⟩⟩⟩⟩⟩⟩⟩⟩⟩⟩⟩⟩⟩⟩⟩⟩⟩⟩⟩⟩⟩⟩⟩⟩⟩⟩⟩⟩⟩⟩⟩⟩⟩⟩⟩⟩⟩⟩⟩
set_option maxRecDepth 100000 in
theorem pg_lk41_3 : ∀ q ∈ (pg_c41.drop 120).take 40, mj_lk pg pg_cl pg_ty pg_Ts pg_Nw pg_ak pg_yn pg_cc pg_rt 41 q.1 q.2 := List.forall_mem_cons.mpr ⟨trivial, List.forall_mem_cons.mpr ⟨(lk_get pg_okc8 (by decide) tw_583), List.forall_mem_cons.mpr ⟨trivial, List.forall_mem_cons.mpr ⟨trivial, List.forall_mem_cons.mpr ⟨trivial, List.forall_mem_cons.mpr ⟨trivial, List.forall_mem_cons.mpr ⟨trivial, List.forall_mem_cons.mpr ⟨trivial, List.forall_mem_cons.mpr ⟨rfl, List.forall_mem_cons.mpr ⟨trivial, List.forall_mem_cons.mpr ⟨trivial, List.forall_mem_cons.mpr ⟨rfl, List.forall_mem_cons.mpr ⟨trivial, List.forall_mem_cons.mpr ⟨trivial, List.forall_mem_cons.mpr ⟨rfl, List.forall_mem_cons.mpr ⟨rfl, List.forall_mem_cons.mpr ⟨trivial, List.forall_mem_cons.mpr ⟨trivial, List.forall_mem_cons.mpr ⟨trivial, List.forall_mem_cons.mpr ⟨trivial, List.forall_mem_cons.mpr ⟨trivial, List.forall_mem_cons.mpr ⟨trivial, List.forall_mem_cons.mpr ⟨trivial, List.forall_mem_cons.mpr ⟨rfl, List.forall_mem_cons.mpr ⟨trivial, List.forall_mem_cons.mpr ⟨rfl, List.forall_mem_cons.mpr ⟨trivial, List.forall_mem_cons.mpr ⟨(lk_get pg_okc8 (by decide) tw_583), List.forall_mem_cons.mpr ⟨trivial, List.forall_mem_cons.mpr ⟨trivial, List.forall_mem_cons.mpr ⟨trivial, List.forall_mem_cons.mpr ⟨trivial, List.forall_mem_cons.mpr ⟨trivial, List.forall_mem_cons.mpr ⟨trivial, List.forall_mem_cons.mpr ⟨trivial, List.forall_mem_cons.mpr ⟨trivial, List.forall_mem_cons.mpr ⟨trivial, List.forall_mem_cons.mpr ⟨trivial, List.forall_mem_cons.mpr ⟨(lk_v ⟨pg_m39, by decide, tw_8, ⟨by decide, by decide⟩, Or.inl tw_752⟩ (by decide) tw_754 ts_21 (by decide +kernel) (by decide) rfl), List.forall_mem_cons.mpr ⟨rfl, fun _ h => absurd h List.not_mem_nil⟩⟩⟩⟩⟩⟩⟩⟩⟩⟩⟩⟩⟩⟩⟩⟩⟩⟩⟩⟩⟩⟩⟩⟩⟩⟩⟩⟩⟩⟩⟩⟩⟩⟩⟩⟩⟩⟩⟩⟩
set_option maxRecDepth 100000 in
theorem pg_lk41_4 : ∀ q ∈ (pg_c41.drop 160).take 40, mj_lk pg pg_cl pg_ty pg_Ts pg_Nw pg_ak pg_yn pg_cc pg_rt 41 q.1 q.2 := List.forall_mem_cons.mpr ⟨trivial, List.forall_mem_cons.mpr ⟨trivial, List.forall_mem_cons.mpr ⟨trivial, List.forall_mem_cons.mpr ⟨trivial, List.forall_mem_cons.mpr ⟨(lk_get pg_okc8 (by decide) tw_543), List.forall_mem_cons.mpr ⟨rfl, List.forall_mem_cons.mpr ⟨trivial, List.forall_mem_cons.mpr ⟨(lk_get pg_okc8 (by decide) tw_584), List.forall_mem_cons.mpr ⟨trivial, List.forall_mem_cons.mpr ⟨trivial, List.forall_mem_cons.mpr ⟨trivial, List.forall_mem_cons.mpr ⟨trivial, List.forall_mem_cons.mpr ⟨rfl, List.forall_mem_cons.mpr ⟨trivial, List.forall_mem_cons.mpr ⟨(lk_v ⟨pg_m36, by decide, tw_8, ⟨by decide, by decide⟩, Or.inl tw_760⟩ (by decide) tw_762 ts_23 (by decide +kernel) (by decide) rfl), List.forall_mem_cons.mpr ⟨trivial, List.forall_mem_cons.mpr ⟨trivial, fun _ h => absurd h List.not_mem_nil⟩⟩⟩⟩⟩⟩⟩⟩⟩⟩⟩⟩⟩⟩⟩⟩⟩
set_option maxRecDepth 100000 in
theorem pg_lk42_0 : ∀ q ∈ (pg_c42.drop 0).take 40, mj_lk pg pg_cl pg_ty pg_Ts pg_Nw pg_ak pg_yn pg_cc pg_rt 42 q.1 q.2 := List.forall_mem_cons.mpr ⟨trivial, List.forall_mem_cons.mpr ⟨trivial, List.forall_mem_cons.mpr ⟨(lk_put pg_okc8 (by decide) (Or.inl ⟨rfl, rfl⟩) rfl tw_542), List.forall_mem_cons.mpr ⟨trivial, List.forall_mem_cons.mpr ⟨(lk_get pg_okc8 (by decide) tw_563), List.forall_mem_cons.mpr ⟨trivial, fun _ h => absurd h List.not_mem_nil⟩⟩⟩⟩⟩⟩
set_option maxRecDepth 100000 in
theorem pg_lk43_0 : ∀ q ∈ (pg_c43.drop 0).take 40, mj_lk pg pg_cl pg_ty pg_Ts pg_Nw pg_ak pg_yn pg_cc pg_rt 43 q.1 q.2 := List.forall_mem_cons.mpr ⟨trivial, List.forall_mem_cons.mpr ⟨trivial, List.forall_mem_cons.mpr ⟨(lk_put pg_okc8 (by decide) (Or.inl ⟨rfl, rfl⟩) rfl tw_542), List.forall_mem_cons.mpr ⟨trivial, List.forall_mem_cons.mpr ⟨rfl, List.forall_mem_cons.mpr ⟨trivial, List.forall_mem_cons.mpr ⟨trivial, List.forall_mem_cons.mpr ⟨(lk_get pg_okc8 (by decide) tw_563), List.forall_mem_cons.mpr ⟨rfl, List.forall_mem_cons.mpr ⟨trivial, List.forall_mem_cons.mpr ⟨trivial, List.forall_mem_cons.mpr ⟨trivial, List.forall_mem_cons.mpr ⟨rfl, List.forall_mem_cons.mpr ⟨trivial, List.forall_mem_cons.mpr ⟨(lk_get pg_okc8 (by decide) tw_574), List.forall_mem_cons.mpr ⟨trivial, List.forall_mem_cons.mpr ⟨trivial, List.forall_mem_cons.mpr ⟨rfl, List.forall_mem_cons.mpr ⟨trivial, List.forall_mem_cons.mpr ⟨trivial, List.forall_mem_cons.mpr ⟨rfl, List.forall_mem_cons.mpr ⟨trivial, List.forall_mem_cons.mpr ⟨(lk_get pg_okc8 (by decide) tw_575), List.forall_mem_cons.mpr ⟨trivial, List.forall_mem_cons.mpr ⟨trivial, List.forall_mem_cons.mpr ⟨rfl, List.forall_mem_cons.mpr ⟨trivial, List.forall_mem_cons.mpr ⟨trivial, List.forall_mem_cons.mpr ⟨rfl, List.forall_mem_cons.mpr ⟨trivial, List.forall_mem_cons.mpr ⟨(lk_get pg_okc8 (by decide) tw_576), List.forall_mem_cons.mpr ⟨trivial, List.forall_mem_cons.mpr ⟨trivial, List.forall_mem_cons.mpr ⟨rfl, List.forall_mem_cons.mpr ⟨trivial, List.forall_mem_cons.mpr ⟨trivial, fun _ h => absurd h List.not_mem_nil⟩⟩⟩⟩⟩⟩⟩⟩⟩⟩⟩⟩⟩⟩⟩⟩⟩⟩⟩⟩⟩⟩⟩⟩⟩⟩⟩⟩⟩⟩⟩⟩⟩⟩⟩⟩
set_option maxRecDepth 100000 in
theorem pg_lk44_0 : ∀ q ∈ (pg_c44.drop 0).take 40, mj_lk pg pg_cl pg_ty pg_Ts pg_Nw pg_ak pg_yn pg_cc pg_rt 44 q.1 q.2 := List.forall_mem_cons.mpr ⟨trivial, List.forall_mem_cons.mpr ⟨trivial, List.forall_mem_cons.mpr ⟨(lk_put pg_okc8 (by decide) (Or.inl ⟨rfl, rfl⟩) rfl tw_542), List.forall_mem_cons.mpr ⟨trivial, List.forall_mem_cons.mpr ⟨rfl, List.forall_mem_cons.mpr ⟨trivial, List.forall_mem_cons.mpr ⟨trivial, List.forall_mem_cons.mpr ⟨(lk_get pg_okc8 (by decide) tw_564), List.forall_mem_cons.mpr ⟨rfl, List.forall_mem_cons.mpr ⟨trivial, List.forall_mem_cons.mpr ⟨trivial, List.forall_mem_cons.mpr ⟨trivial, List.forall_mem_cons.mpr ⟨rfl, List.forall_mem_cons.mpr ⟨trivial, List.forall_mem_cons.mpr ⟨(lk_get pg_okc8 (by decide) tw_577), List.forall_mem_cons.mpr ⟨trivial, List.forall_mem_cons.mpr ⟨trivial, List.forall_mem_cons.mpr ⟨trivial, List.forall_mem_cons.mpr ⟨trivial, List.forall_mem_cons.mpr ⟨(lk_get pg_okc8 (by decide) tw_578), List.forall_mem_cons.mpr ⟨trivial, List.forall_mem_cons.mpr ⟨trivial, List.forall_mem_cons.mpr ⟨trivial, List.forall_mem_cons.mpr ⟨trivial, List.forall_mem_cons.mpr ⟨(lk_get pg_okc8 (by decide) tw_579), List.forall_mem_cons.mpr ⟨trivial, List.forall_mem_cons.mpr ⟨trivial, List.forall_mem_cons.mpr ⟨trivial, List.forall_mem_cons.mpr ⟨trivial, List.forall_mem_cons.mpr ⟨(lk_get pg_okc8 (by decide) tw_580), List.forall_mem_cons.mpr ⟨trivial, List.forall_mem_cons.mpr ⟨trivial, List.forall_mem_cons.mpr ⟨trivial, List.forall_mem_cons.mpr ⟨trivial, List.forall_mem_cons.mpr ⟨(lk_get pg_okc8 (by decide) tw_581), List.forall_mem_cons.mpr ⟨trivial, List.forall_mem_cons.mpr ⟨trivial, List.forall_mem_cons.mpr ⟨trivial, List.forall_mem_cons.mpr ⟨trivial, List.forall_mem_cons.mpr ⟨(lk_get pg_okc8 (by decide) tw_582), fun _ h => absurd h List.not_mem_nil⟩⟩⟩⟩⟩⟩⟩⟩⟩⟩⟩⟩⟩⟩⟩⟩⟩⟩⟩⟩⟩⟩⟩⟩⟩⟩⟩⟩⟩⟩⟩⟩⟩⟩⟩⟩⟩⟩⟩⟩
end
section
set_option maxRecDepth 100000 in
theorem pg_lk44_1 : ∀ q ∈ (pg_c44.drop 40).take 40, mj_lk pg pg_cl pg_ty pg_Ts pg_Nw pg_ak pg_yn pg_cc pg_rt 44 q.1 q.2 := List.forall_mem_cons.mpr ⟨trivial, List.forall_mem_cons.mpr ⟨trivial, List.forall_mem_cons.mpr ⟨trivial, List.forall_mem_cons.mpr ⟨trivial, List.forall_mem_cons.mpr ⟨trivial, fun _ h => absurd h List.not_mem_nil⟩⟩⟩⟩⟩
set_option maxRecDepth 100000 in
theorem pg_lk45_0 : ∀ q ∈ (pg_c45.drop 0).take 40, mj_lk pg pg_cl pg_ty pg_Ts pg_Nw pg_ak pg_yn pg_cc pg_rt 45 q.1 q.2 := List.forall_mem_cons.mpr ⟨trivial, List.forall_mem_cons.mpr ⟨trivial, List.forall_mem_cons.mpr ⟨(lk_put pg_okc8 (by decide) (Or.inl ⟨rfl, rfl⟩) rfl tw_542), List.forall_mem_cons.mpr ⟨trivial, List.forall_mem_cons.mpr ⟨rfl, List.forall_mem_cons.mpr ⟨trivial, List.forall_mem_cons.mpr ⟨trivial, List.forall_mem_cons.mpr ⟨(lk_get pg_okc8 (by decide) tw_562), List.forall_mem_cons.mpr ⟨rfl, List.forall_mem_cons.mpr ⟨trivial, List.forall_mem_cons.mpr ⟨trivial, List.forall_mem_cons.mpr ⟨trivial, List.forall_mem_cons.mpr ⟨rfl, List.forall_mem_cons.mpr ⟨trivial, List.forall_mem_cons.mpr ⟨(lk_get pg_okc8 (by decide) tw_571), List.forall_mem_cons.mpr ⟨trivial, List.forall_mem_cons.mpr ⟨trivial, List.forall_mem_cons.mpr ⟨rfl, List.forall_mem_cons.mpr ⟨trivial, List.forall_mem_cons.mpr ⟨trivial, List.forall_mem_cons.mpr ⟨rfl, List.forall_mem_cons.mpr ⟨trivial, List.forall_mem_cons.mpr ⟨(lk_get pg_okc8 (by decide) tw_572), List.forall_mem_cons.mpr ⟨trivial, List.forall_mem_cons.mpr ⟨trivial, List.forall_mem_cons.mpr ⟨rfl, List.forall_mem_cons.mpr ⟨trivial, List.forall_mem_cons.mpr ⟨trivial, List.forall_mem_cons.mpr ⟨rfl, List.forall_mem_cons.mpr ⟨trivial, List.forall_mem_cons.mpr ⟨(lk_get pg_okc8 (by decide) tw_573), List.forall_mem_cons.mpr ⟨trivial, List.forall_mem_cons.mpr ⟨trivial, List.forall_mem_cons.mpr ⟨rfl, List.forall_mem_cons.mpr ⟨trivial, List.forall_mem_cons.mpr ⟨trivial, fun _ h => absurd h List.not_mem_nil⟩⟩⟩⟩⟩⟩⟩⟩⟩⟩⟩⟩⟩⟩⟩⟩⟩⟩⟩⟩⟩⟩⟩⟩⟩⟩⟩⟩⟩⟩⟩⟩⟩⟩⟩⟩
set_option maxRecDepth 100000 in
theorem pg_lk46_0 : ∀ q ∈ (pg_c46.drop 0).take 40, mj_lk pg pg_cl pg_ty pg_Ts pg_Nw pg_ak pg_yn pg_cc pg_rt 46 q.1 q.2 := List.forall_mem_cons.mpr ⟨trivial, List.forall_mem_cons.mpr ⟨(lk_o tw_104 tw_18 tw_19), List.forall_mem_cons.mpr ⟨trivial, List.forall_mem_cons.mpr ⟨trivial, List.forall_mem_cons.mpr ⟨(lk_na tw_97 tw_675), List.forall_mem_cons.mpr ⟨(lk_putF pg_okc0 (by decide) (Or.inr (Or.inr ⟨rfl, Or.inr ⟨_, rfl⟩⟩)) rfl rfl rfl tw_108), List.forall_mem_cons.mpr ⟨trivial, fun _ h => absurd h List.not_mem_nil⟩⟩⟩⟩⟩⟩⟩
set_option maxRecDepth 100000 in
theorem pg_lk47_0 : ∀ q ∈ (pg_c47.drop 0).take 40, mj_lk pg pg_cl pg_ty pg_Ts pg_Nw pg_ak pg_yn pg_cc pg_rt 47 q.1 q.2 := List.forall_mem_cons.mpr ⟨trivial, List.forall_mem_cons.mpr ⟨trivial, List.forall_mem_cons.mpr ⟨(lk_put pg_okc0 (by decide) (Or.inr (Or.inr ⟨rfl, Or.inl ⟨_, rfl⟩⟩)) rfl tw_105), List.forall_mem_cons.mpr ⟨trivial, List.forall_mem_cons.mpr ⟨trivial, List.forall_mem_cons.mpr ⟨(lk_put pg_okc0 (by decide) (Or.inl ⟨rfl, rfl⟩) rfl tw_107), List.forall_mem_cons.mpr ⟨trivial, List.forall_mem_cons.mpr ⟨trivial, List.forall_mem_cons.mpr ⟨(lk_put pg_okc0 (by decide) (Or.inl ⟨rfl, rfl⟩) rfl tw_110), List.forall_mem_cons.mpr ⟨trivial, List.forall_mem_cons.mpr ⟨(lk_get pg_okc0 (by decide) tw_108), List.forall_mem_cons.mpr ⟨trivial, List.forall_mem_cons.mpr ⟨(lk_s (by decide) (by decide) ⟨pg_m102, by decide, tw_11, ⟨by decide, by decide⟩, Or.inl tw_389⟩ tw_390 (by decide +kernel)), List.forall_mem_cons.mpr ⟨trivial, List.forall_mem_cons.mpr ⟨(lk_get pg_okc6 (by decide) tw_289), List.forall_mem_cons.mpr ⟨trivial, List.forall_mem_cons.mpr ⟨trivial, List.forall_mem_cons.mpr ⟨trivial, List.forall_mem_cons.mpr ⟨trivial, List.forall_mem_cons.mpr ⟨(lk_get pg_okc3 (by decide) tw_68), List.forall_mem_cons.mpr ⟨trivial, List.forall_mem_cons.mpr ⟨trivial, List.forall_mem_cons.mpr ⟨trivial, List.forall_mem_cons.mpr ⟨trivial, List.forall_mem_cons.mpr ⟨rfl, List.forall_mem_cons.mpr ⟨trivial, List.forall_mem_cons.mpr ⟨(lk_get pg_okc3 (by decide) tw_65), List.forall_mem_cons.mpr ⟨trivial, List.forall_mem_cons.mpr ⟨(lk_al rfl (by decide) (by decide)), List.forall_mem_cons.mpr ⟨trivial, List.forall_mem_cons.mpr ⟨trivial, List.forall_mem_cons.mpr ⟨trivial, List.forall_mem_cons.mpr ⟨(lk_get pg_okc1 (by decide) tw_185), List.forall_mem_cons.mpr ⟨(lk_mx tw_392 tw_393 tw_5 tw_394), List.forall_mem_cons.mpr ⟨trivial, List.forall_mem_cons.mpr ⟨trivial, List.forall_mem_cons.mpr ⟨(lk_get pg_okc0 (by decide) tw_108), List.forall_mem_cons.mpr ⟨trivial, List.forall_mem_cons.mpr ⟨(lk_get pg_okc1 (by decide) tw_173), List.forall_mem_cons.mpr ⟨trivial, fun _ h => absurd h List.not_mem_nil⟩⟩⟩⟩⟩⟩⟩⟩⟩⟩⟩⟩⟩⟩⟩⟩⟩⟩⟩⟩⟩⟩⟩⟩⟩⟩⟩⟩⟩⟩⟩⟩⟩⟩⟩⟩⟩⟩⟩⟩
set_option maxRecDepth 100000 in
theorem pg_lk47_1 : ∀ q ∈ (pg_c47.drop 40).take 40, mj_lk pg pg_cl pg_ty pg_Ts pg_Nw pg_ak pg_yn pg_cc pg_rt 47 q.1 q.2 := List.forall_mem_cons.mpr ⟨trivial, List.forall_mem_cons.mpr ⟨trivial, List.forall_mem_cons.mpr ⟨trivial, List.forall_mem_cons.mpr ⟨trivial, List.forall_mem_cons.mpr ⟨trivial, List.forall_mem_cons.mpr ⟨trivial, List.forall_mem_cons.mpr ⟨trivial, List.forall_mem_cons.mpr ⟨trivial, List.forall_mem_cons.mpr ⟨rfl, List.forall_mem_cons.mpr ⟨trivial, fun _ h => absurd h List.not_mem_nil⟩⟩⟩⟩⟩⟩⟩⟩⟩⟩
set_option maxRecDepth 100000 in
theorem pg_lk48_0 : ∀ q ∈ (pg_c48.drop 0).take 40, mj_lk pg pg_cl pg_ty pg_Ts pg_Nw pg_ak pg_yn pg_cc pg_rt 48 q.1 q.2 := List.forall_mem_cons.mpr ⟨trivial, List.forall_mem_cons.mpr ⟨(lk_get pg_okc0 (by decide) tw_108), List.forall_mem_cons.mpr ⟨trivial, List.forall_mem_cons.mpr ⟨(lk_get pg_okc1 (by decide) tw_173), List.forall_mem_cons.mpr ⟨trivial, List.forall_mem_cons.mpr ⟨trivial, fun _ h => absurd h List.not_mem_nil⟩⟩⟩⟩⟩⟩
set_option maxRecDepth 100000 in
theorem pg_lk49_0 : ∀ q ∈ (pg_c49.drop 0).take 40, mj_lk pg pg_cl pg_ty pg_Ts pg_Nw pg_ak pg_yn pg_cc pg_rt 49 q.1 q.2 := List.forall_mem_cons.mpr ⟨trivial, List.forall_mem_cons.mpr ⟨(lk_get pg_okc0 (by decide) tw_108), List.forall_mem_cons.mpr ⟨trivial, List.forall_mem_cons.mpr ⟨(lk_get pg_okc1 (by decide) tw_173), List.forall_mem_cons.mpr ⟨trivial, List.forall_mem_cons.mpr ⟨trivial, List.forall_mem_cons.mpr ⟨trivial, List.forall_mem_cons.mpr ⟨trivial, List.forall_mem_cons.mpr ⟨(lk_get pg_okc0 (by decide) tw_105), List.forall_mem_cons.mpr ⟨(lk_get pg_okc6 (by decide) tw_284), List.forall_mem_cons.mpr ⟨(lk_v ⟨pg_m56, by decide, tw_9, ⟨by decide, by decide⟩, Or.inl tw_408⟩ (by decide) tw_409 tw_410 (by decide +kernel) (by decide) rfl), List.forall_mem_cons.mpr ⟨rfl, List.forall_mem_cons.mpr ⟨trivial, List.forall_mem_cons.mpr ⟨trivial, List.forall_mem_cons.mpr ⟨rfl, List.forall_mem_cons.mpr ⟨trivial, List.forall_mem_cons.mpr ⟨trivial, List.forall_mem_cons.mpr ⟨(lk_get pg_okc1 (by decide) tw_196), List.forall_mem_cons.mpr ⟨rfl, List.forall_mem_cons.mpr ⟨trivial, List.forall_mem_cons.mpr ⟨rfl, List.forall_mem_cons.mpr ⟨trivial, List.forall_mem_cons.mpr ⟨trivial, fun _ h => absurd h List.not_mem_nil⟩⟩⟩⟩⟩⟩⟩⟩⟩⟩⟩⟩⟩⟩⟩⟩⟩⟩⟩⟩⟩⟩⟩
set_option maxRecDepth 100000 in
theorem pg_lk50_0 : ∀ q ∈ (pg_c50.drop 0).take 40, mj_lk pg pg_cl pg_ty pg_Ts pg_Nw pg_ak pg_yn pg_cc pg_rt 50 q.1 q.2 := List.forall_mem_cons.mpr ⟨trivial, List.forall_mem_cons.mpr ⟨trivial, List.forall_mem_cons.mpr ⟨(lk_get pg_okc1 (by decide) tw_173), List.forall_mem_cons.mpr ⟨(lk_put pg_okc0 (by decide) (Or.inl ⟨rfl, rfl⟩) rfl tw_110), List.forall_mem_cons.mpr ⟨trivial, fun _ h => absurd h List.not_mem_nil⟩⟩⟩⟩⟩
set_option maxRecDepth 100000 in
theorem pg_lk51_0 : ∀ q ∈ (pg_c51.drop 0).take 40, mj_lk pg pg_cl pg_ty pg_Ts pg_Nw pg_ak pg_yn pg_cc pg_rt 51 q.1 q.2 := List.forall_mem_cons.mpr ⟨trivial, List.forall_mem_cons.mpr ⟨trivial, List.forall_mem_cons.mpr ⟨(lk_put pg_okc0 (by decide) (Or.inl ⟨rfl, rfl⟩) rfl tw_112), List.forall_mem_cons.mpr ⟨trivial, List.forall_mem_cons.mpr ⟨trivial, List.forall_mem_cons.mpr ⟨rfl, List.forall_mem_cons.mpr ⟨trivial, List.forall_mem_cons.mpr ⟨rfl, List.forall_mem_cons.mpr ⟨trivial, List.forall_mem_cons.mpr ⟨trivial, List.forall_mem_cons.mpr ⟨(lk_put pg_okc0 (by decide) (Or.inl ⟨rfl, rfl⟩) rfl tw_109), List.forall_mem_cons.mpr ⟨trivial, List.forall_mem_cons.mpr ⟨trivial, List.forall_mem_cons.mpr ⟨trivial, List.forall_mem_cons.mpr ⟨trivial, List.forall_mem_cons.mpr ⟨(lk_put pg_okc0 (by decide) (Or.inl ⟨rfl, rfl⟩) rfl tw_111), List.forall_mem_cons.mpr ⟨rfl, List.forall_mem_cons.mpr ⟨trivial, List.forall_mem_cons.mpr ⟨trivial, List.forall_mem_cons.mpr ⟨(lk_put pg_okc0 (by decide) (Or.inl ⟨rfl, rfl⟩) rfl tw_109), List.forall_mem_cons.mpr ⟨trivial, List.forall_mem_cons.mpr ⟨trivial, List.forall_mem_cons.mpr ⟨(lk_put pg_okc0 (by decide) (Or.inl ⟨rfl, rfl⟩) rfl tw_111), List.forall_mem_cons.mpr ⟨trivial, fun _ h => absurd h List.not_mem_nil⟩⟩⟩⟩⟩⟩⟩⟩⟩⟩⟩⟩⟩⟩⟩⟩⟩⟩⟩⟩⟩⟩⟩⟩
set_option maxRecDepth 100000 in
theorem pg_lk52_0 : ∀ q ∈ (pg_c52.drop 0).take 40, mj_lk pg pg_cl pg_ty pg_Ts pg_Nw pg_ak pg_yn pg_cc pg_rt 52 q.1 q.2 := List.forall_mem_cons.mpr ⟨trivial, List.forall_mem_cons.mpr ⟨rfl, List.forall_mem_cons.mpr ⟨trivial, List.forall_mem_cons.mpr ⟨(lk_get pg_okc0 (by decide) tw_105), List.forall_mem_cons.mpr ⟨(lk_get pg_okc6 (by decide) tw_282), List.forall_mem_cons.mpr ⟨trivial, List.forall_mem_cons.mpr ⟨trivial, List.forall_mem_cons.mpr ⟨(lk_get pg_okc0 (by decide) tw_107), List.forall_mem_cons.mpr ⟨trivial, List.forall_mem_cons.mpr ⟨trivial, List.forall_mem_cons.mpr ⟨(lk_get pg_okc0 (by decide) tw_109), List.forall_mem_cons.mpr ⟨trivial, List.forall_mem_cons.mpr ⟨trivial, List.forall_mem_cons.mpr ⟨(lk_get pg_okc0 (by decide) tw_110), List.forall_mem_cons.mpr ⟨trivial, List.forall_mem_cons.mpr ⟨trivial, List.forall_mem_cons.mpr ⟨(lk_get pg_okc0 (by decide) tw_111), List.forall_mem_cons.mpr ⟨trivial, List.forall_mem_cons.mpr ⟨trivial, List.forall_mem_cons.mpr ⟨(lk_get pg_okc0 (by decide) tw_112), List.forall_mem_cons.mpr ⟨trivial, List.forall_mem_cons.mpr ⟨trivial, List.forall_mem_cons.mpr ⟨trivial, fun _ h => absurd h List.not_mem_nil⟩⟩⟩⟩⟩⟩⟩⟩⟩⟩⟩⟩⟩⟩⟩⟩⟩⟩⟩⟩⟩⟩⟩
set_option maxRecDepth 100000 in
theorem pg_lk53_0 : ∀ q ∈ (pg_c53.drop 0).take 40, mj_lk pg pg_cl pg_ty pg_Ts pg_Nw pg_ak pg_yn pg_cc pg_rt 53 q.1 q.2 := List.forall_mem_cons.mpr ⟨trivial, List.forall_mem_cons.mpr ⟨(lk_o tw_169 tw_18 tw_19), List.forall_mem_cons.mpr ⟨trivial, List.forall_mem_cons.mpr ⟨trivial, List.forall_mem_cons.mpr ⟨(lk_putF pg_okc1 (by decide) (Or.inl ⟨rfl, rfl⟩) rfl rfl rfl tw_172), List.forall_mem_cons.mpr ⟨trivial, List.forall_mem_cons.mpr ⟨trivial, List.forall_mem_cons.mpr ⟨trivial, List.forall_mem_cons.mpr ⟨trivial, List.forall_mem_cons.mpr ⟨(lk_putF pg_okc1 (by decide) (Or.inl ⟨rfl, rfl⟩) rfl rfl rfl tw_176), List.forall_mem_cons.mpr ⟨trivial, List.forall_mem_cons.mpr ⟨trivial, List.forall_mem_cons.mpr ⟨(lk_putF pg_okc1 (by decide) (Or.inl ⟨rfl, rfl⟩) rfl rfl rfl tw_181), List.forall_mem_cons.mpr ⟨trivial, List.forall_mem_cons.mpr ⟨trivial, List.forall_mem_cons.mpr ⟨(lk_putF pg_okc1 (by decide) (Or.inl ⟨rfl, rfl⟩) rfl rfl rfl tw_184), List.forall_mem_cons.mpr ⟨trivial, List.forall_mem_cons.mpr ⟨trivial, List.forall_mem_cons.mpr ⟨(lk_putF pg_okc1 (by decide) (Or.inr (Or.inl ⟨rfl, rfl⟩)) rfl rfl rfl tw_187), List.forall_mem_cons.mpr ⟨trivial, List.forall_mem_cons.mpr ⟨trivial, List.forall_mem_cons.mpr ⟨(lk_putF pg_okc1 (by decide) (Or.inr (Or.inl ⟨rfl, rfl⟩)) rfl rfl rfl tw_189), List.forall_mem_cons.mpr ⟨trivial, List.forall_mem_cons.mpr ⟨(lk_new pg_okc3 tw_170 tw_54 tw_4 rfl pg_dfl3), List.forall_mem_cons.mpr ⟨trivial, List.forall_mem_cons.mpr ⟨trivial, List.forall_mem_cons.mpr ⟨(lk_i (by decide) ⟨pg_m68, by decide, tw_4, ⟨by decide, by decide⟩, Or.inl tw_171⟩ (by decide) tw_56 rfl rfl (by decide +kernel) (by decide)), List.forall_mem_cons.mpr ⟨(lk_putF pg_okc1 (by decide) (Or.inr (Or.inr ⟨rfl, Or.inl ⟨_, rfl⟩⟩)) rfl rfl rfl tw_191), List.forall_mem_cons.mpr ⟨trivial, fun _ h => absurd h List.not_mem_nil⟩⟩⟩⟩⟩⟩⟩⟩⟩⟩⟩⟩⟩⟩⟩⟩⟩⟩⟩⟩⟩⟩⟩⟩⟩⟩⟩⟩⟩
set_option maxRecDepth 100000 in
theorem pg_lk54_0 : ∀ q ∈ (pg_c54.drop 0).take 40, mj_lk pg pg_cl pg_ty pg_Ts pg_Nw pg_ak pg_yn pg_cc pg_rt 54 q.1 q.2 := List.forall_mem_cons.mpr ⟨trivial, List.forall_mem_cons.mpr ⟨(lk_get pg_okc1 (by decide) tw_195), List.forall_mem_cons.mpr ⟨trivial, List.forall_mem_cons.mpr ⟨trivial, List.forall_mem_cons.mpr ⟨rfl, List.forall_mem_cons.mpr ⟨trivial, List.forall_mem_cons.mpr ⟨rfl, List.forall_mem_cons.mpr ⟨trivial, List.forall_mem_cons.mpr ⟨trivial, fun _ h => absurd h List.not_mem_nil⟩⟩⟩⟩⟩⟩⟩⟩⟩
set_option maxRecDepth 100000 in
theorem pg_lk55_0 : ∀ q ∈ (pg_c55.drop 0).take 40, mj_lk pg pg_cl pg_ty pg_Ts pg_Nw pg_ak pg_yn pg_cc pg_rt 55 q.1 q.2 := List.forall_mem_cons.mpr ⟨trivial, List.forall_mem_cons.mpr ⟨trivial, List.forall_mem_cons.mpr ⟨(lk_get pg_okc1 (by decide) tw_195), List.forall_mem_cons.mpr ⟨trivial, List.forall_mem_cons.mpr ⟨(lk_get pg_okc1 (by decide) tw_176), List.forall_mem_cons.mpr ⟨trivial, List.forall_mem_cons.mpr ⟨(lk_get pg_okc1 (by decide) tw_195), List.forall_mem_cons.mpr ⟨trivial, List.forall_mem_cons.mpr ⟨trivial, List.forall_mem_cons.mpr ⟨(lk_put pg_okc1 (by decide) (Or.inl ⟨rfl, rfl⟩) rfl tw_195), List.forall_mem_cons.mpr ⟨trivial, fun _ h => absurd h List.not_mem_nil⟩⟩⟩⟩⟩⟩⟩⟩⟩⟩⟩
set_option maxRecDepth 100000 in
theorem pg_lk56_0 : ∀ q ∈ (pg_c56.drop 0).take 40, mj_lk pg pg_cl pg_ty pg_Ts pg_Nw pg_ak pg_yn pg_cc pg_rt 56 q.1 q.2 := List.forall_mem_cons.mpr ⟨trivial, List.forall_mem_cons.mpr ⟨(lk_get pg_okc1 (by decide) tw_181), List.forall_mem_cons.mpr ⟨trivial, List.forall_mem_cons.mpr ⟨rfl, List.forall_mem_cons.mpr ⟨trivial, List.forall_mem_cons.mpr ⟨(lk_get pg_okc1 (by decide) tw_199), List.forall_mem_cons.mpr ⟨trivial, List.forall_mem_cons.mpr ⟨rfl, List.forall_mem_cons.mpr ⟨trivial, List.forall_mem_cons.mpr ⟨rfl, List.forall_mem_cons.mpr ⟨trivial, List.forall_mem_cons.mpr ⟨trivial, fun _ h => absurd h List.not_mem_nil⟩⟩⟩⟩⟩⟩⟩⟩⟩⟩⟩⟩
set_option maxRecDepth 100000 in
theorem pg_lk57_0 : ∀ q ∈ (pg_c57.drop 0).take 40, mj_lk pg pg_cl pg_ty pg_Ts pg_Nw pg_ak pg_yn pg_cc pg_rt 57 q.1 q.2 := List.forall_mem_cons.mpr ⟨trivial, List.forall_mem_cons.mpr ⟨trivial, List.forall_mem_cons.mpr ⟨(lk_put pg_okc1 (by decide) (Or.inl ⟨rfl, rfl⟩) rfl tw_200), List.forall_mem_cons.mpr ⟨trivial, List.forall_mem_cons.mpr ⟨trivial, List.forall_mem_cons.mpr ⟨(lk_put pg_okc1 (by decide) (Or.inl ⟨rfl, rfl⟩) rfl tw_202), List.forall_mem_cons.mpr ⟨trivial, List.forall_mem_cons.mpr ⟨trivial, List.forall_mem_cons.mpr ⟨(lk_put pg_okc1 (by decide) (Or.inl ⟨rfl, rfl⟩) rfl tw_203), List.forall_mem_cons.mpr ⟨trivial, List.forall_mem_cons.mpr ⟨trivial, List.forall_mem_cons.mpr ⟨(lk_put pg_okc1 (by decide) (Or.inl ⟨rfl, rfl⟩) rfl tw_204), List.forall_mem_cons.mpr ⟨trivial, fun _ h => absurd h List.not_mem_nil⟩⟩⟩⟩⟩⟩⟩⟩⟩⟩⟩⟩⟩
set_option maxRecDepth 100000 in
theorem pg_lk58_0 : ∀ q ∈ (pg_c58.drop 0).take 40, mj_lk pg pg_cl pg_ty pg_Ts pg_Nw pg_ak pg_yn pg_cc pg_rt 58 q.1 q.2 := List.forall_mem_cons.mpr ⟨trivial, List.forall_mem_cons.mpr ⟨trivial, List.forall_mem_cons.mpr ⟨(lk_put pg_okc1 (by decide) (Or.inl ⟨rfl, rfl⟩) rfl tw_197), List.forall_mem_cons.mpr ⟨trivial, List.forall_mem_cons.mpr ⟨trivial, List.forall_mem_cons.mpr ⟨(lk_put pg_okc1 (by decide) (Or.inl ⟨rfl, rfl⟩) rfl tw_199), List.forall_mem_cons.mpr ⟨trivial, List.forall_mem_cons.mpr ⟨trivial, List.forall_mem_cons.mpr ⟨(lk_get pg_okc1 (by decide) tw_202), List.forall_mem_cons.mpr ⟨trivial, List.forall_mem_cons.mpr ⟨trivial, List.forall_mem_cons.mpr ⟨(lk_put pg_okc1 (by decide) (Or.inl ⟨rfl, rfl⟩) rfl tw_202), List.forall_mem_cons.mpr ⟨trivial, fun _ h => absurd h List.not_mem_nil⟩⟩⟩⟩⟩⟩⟩⟩⟩⟩⟩⟩⟩
set_option maxRecDepth 100000 in
theorem pg_lk59_0 : ∀ q ∈ (pg_c59.drop 0).take 40, mj_lk pg pg_cl pg_ty pg_Ts pg_Nw pg_ak pg_yn pg_cc pg_rt 59 q.1 q.2 := List.forall_mem_cons.mpr ⟨trivial, List.forall_mem_cons.mpr ⟨trivial, List.forall_mem_cons.mpr ⟨(lk_get pg_okc1 (by decide) tw_203), List.forall_mem_cons.mpr ⟨trivial, List.forall_mem_cons.mpr ⟨trivial, List.forall_mem_cons.mpr ⟨(lk_put pg_okc1 (by decide) (Or.inl ⟨rfl, rfl⟩) rfl tw_203), List.forall_mem_cons.mpr ⟨trivial, List.forall_mem_cons.mpr ⟨(lk_get pg_okc1 (by decide) tw_189), List.forall_mem_cons.mpr ⟨rfl, List.forall_mem_cons.mpr ⟨trivial, List.forall_mem_cons.mpr ⟨trivial, List.forall_mem_cons.mpr ⟨(lk_get pg_okc1 (by decide) tw_204), List.forall_mem_cons.mpr ⟨trivial, List.forall_mem_cons.mpr ⟨trivial, List.forall_mem_cons.mpr ⟨(lk_put pg_okc1 (by decide) (Or.inl ⟨rfl, rfl⟩) rfl tw_204), List.forall_mem_cons.mpr ⟨trivial, fun _ h => absurd h List.not_mem_nil⟩⟩⟩⟩⟩⟩⟩⟩⟩⟩⟩⟩⟩⟩⟩⟩
set_option maxRecDepth 100000 in
theorem pg_lk60_0 : ∀ q ∈ (pg_c60.drop 0).take 40, mj_lk pg pg_cl pg_ty pg_Ts pg_Nw pg_ak pg_yn pg_cc pg_rt 60 q.1 q.2 := List.forall_mem_cons.mpr ⟨trivial, List.forall_mem_cons.mpr ⟨(lk_get pg_okc1 (by decide) tw_181), List.forall_mem_cons.mpr ⟨rfl, List.forall_mem_cons.mpr ⟨trivial, List.forall_mem_cons.mpr ⟨trivial, List.forall_mem_cons.mpr ⟨(lk_get pg_okc1 (by decide) tw_200), List.forall_mem_cons.mpr ⟨trivial, List.forall_mem_cons.mpr ⟨trivial, List.forall_mem_cons.mpr ⟨trivial, List.forall_mem_cons.mpr ⟨trivial, List.forall_mem_cons.mpr ⟨(lk_put pg_okc1 (by decide) (Or.inl ⟨rfl, rfl⟩) rfl tw_200), List.forall_mem_cons.mpr ⟨trivial, List.forall_mem_cons.mpr ⟨trivial, List.forall_mem_cons.mpr ⟨(lk_put pg_okc1 (by decide) (Or.inl ⟨rfl, rfl⟩) rfl tw_201), List.forall_mem_cons.mpr ⟨trivial, fun _ h => absurd h List.not_mem_nil⟩⟩⟩⟩⟩⟩⟩⟩⟩⟩⟩⟩⟩⟩⟩
set_option maxRecDepth 100000 in
theorem pg_lk61_0 : ∀ q ∈ (pg_c61.drop 0).take 40, mj_lk pg pg_cl pg_ty pg_Ts pg_Nw pg_ak pg_yn pg_cc pg_rt 61 q.1 q.2 := List.forall_mem_cons.mpr ⟨trivial, List.forall_mem_cons.mpr ⟨(lk_get pg_okc1 (by decide) tw_200), List.forall_mem_cons.mpr ⟨trivial, List.forall_mem_cons.mpr ⟨trivial, List.forall_mem_cons.mpr ⟨trivial, List.forall_mem_cons.mpr ⟨trivial, List.forall_mem_cons.mpr ⟨rfl, List.forall_mem_cons.mpr ⟨trivial, List.forall_mem_cons.mpr ⟨rfl, List.forall_mem_cons.mpr ⟨trivial, List.forall_mem_cons.mpr ⟨trivial, fun _ h => absurd h List.not_mem_nil⟩⟩⟩⟩⟩⟩⟩⟩⟩⟩⟩
set_option maxRecDepth 100000 in
theorem pg_lk62_0 : ∀ q ∈ (pg_c62.drop 0).take 40, mj_lk pg pg_cl pg_ty pg_Ts pg_Nw pg_ak pg_yn pg_cc pg_rt 62 q.1 q.2 := List.forall_mem_cons.mpr ⟨trivial, List.forall_mem_cons.mpr ⟨(lk_get pg_okc1 (by decide) tw_181), List.forall_mem_cons.mpr ⟨trivial, List.forall_mem_cons.mpr ⟨rfl, List.forall_mem_cons.mpr ⟨trivial, List.forall_mem_cons.mpr ⟨(lk_get pg_okc1 (by decide) tw_201), List.forall_mem_cons.mpr ⟨trivial, List.forall_mem_cons.mpr ⟨rfl, List.forall_mem_cons.mpr ⟨trivial, List.forall_mem_cons.mpr ⟨trivial, List.forall_mem_cons.mpr ⟨(lk_put pg_okc1 (by decide) (Or.inl ⟨rfl, rfl⟩) rfl tw_200), List.forall_mem_cons.mpr ⟨trivial, fun _ h => absurd h List.not_mem_nil⟩⟩⟩⟩⟩⟩⟩⟩⟩⟩⟩⟩
set_option maxRecDepth 100000 in
theorem pg_lk63_0 : ∀ q ∈ (pg_c63.drop 0).take 40, mj_lk pg pg_cl pg_ty pg_Ts pg_Nw pg_ak pg_yn pg_cc pg_rt 63 q.1 q.2 := List.forall_mem_cons.mpr ⟨trivial, List.forall_mem_cons.mpr ⟨rfl, List.forall_mem_cons.mpr ⟨trivial, List.forall_mem_cons.mpr ⟨(lk_get pg_okc1 (by decide) tw_202), List.forall_mem_cons.mpr ⟨trivial, List.forall_mem_cons.mpr ⟨trivial, List.forall_mem_cons.mpr ⟨(lk_get pg_okc1 (by decide) tw_203), List.forall_mem_cons.mpr ⟨trivial, List.forall_mem_cons.mpr ⟨trivial, List.forall_mem_cons.mpr ⟨(lk_get pg_okc1 (by decide) tw_204), List.forall_mem_cons.mpr ⟨trivial, List.forall_mem_cons.mpr ⟨trivial, List.forall_mem_cons.mpr ⟨trivial, fun _ h => absurd h List.not_mem_nil⟩⟩⟩⟩⟩⟩⟩⟩⟩⟩⟩⟩⟩
set_option maxRecDepth 100000 in
theorem pg_lk64_0 : ∀ q ∈ (pg_c64.drop 0).take 40, mj_lk pg pg_cl pg_ty pg_Ts pg_Nw pg_ak pg_yn pg_cc pg_rt 64 q.1 q.2 := List.forall_mem_cons.mpr ⟨trivial, List.forall_mem_cons.mpr ⟨(lk_o tw_88 tw_18 tw_19), List.forall_mem_cons.mpr ⟨trivial, List.forall_mem_cons.mpr ⟨trivial, List.forall_mem_cons.mpr ⟨(lk_na tw_97 tw_675), List.forall_mem_cons.mpr ⟨(lk_putF pg_okc2 (by decide) (Or.inr (Or.inr ⟨rfl, Or.inr ⟨_, rfl⟩⟩)) rfl rfl rfl tw_89), List.forall_mem_cons.mpr ⟨trivial, fun _ h => absurd h List.not_mem_nil⟩⟩⟩⟩⟩⟩⟩
set_option maxRecDepth 100000 in
theorem pg_lk65_0 : ∀ q ∈ (pg_c65.drop 0).take 40, mj_lk pg pg_cl pg_ty pg_Ts pg_Nw pg_ak pg_yn pg_cc pg_rt 65 q.1 q.2 := List.forall_mem_cons.mpr ⟨trivial, List.forall_mem_cons.mpr ⟨trivial, List.forall_mem_cons.mpr ⟨(lk_put pg_okc2 (by decide) (Or.inl ⟨rfl, rfl⟩) rfl tw_90), List.forall_mem_cons.mpr ⟨trivial, fun _ h => absurd h List.not_mem_nil⟩⟩⟩⟩
set_option maxRecDepth 100000 in
theorem pg_lk66_0 : ∀ q ∈ (pg_c66.drop 0).take 40, mj_lk pg pg_cl pg_ty pg_Ts pg_Nw pg_ak pg_yn pg_cc pg_rt 66 q.1 q.2 := List.forall_mem_cons.mpr ⟨trivial, List.forall_mem_cons.mpr ⟨(lk_get pg_okc2 (by decide) tw_90), List.forall_mem_cons.mpr ⟨trivial, List.forall_mem_cons.mpr ⟨(lk_get pg_okc2 (by decide) tw_89), List.forall_mem_cons.mpr ⟨trivial, List.forall_mem_cons.mpr ⟨rfl, List.forall_mem_cons.mpr ⟨trivial, List.forall_mem_cons.mpr ⟨(lk_get pg_okc2 (by decide) tw_89), List.forall_mem_cons.mpr ⟨trivial, List.forall_mem_cons.mpr ⟨(lk_get pg_okc2 (by decide) tw_90), List.forall_mem_cons.mpr ⟨trivial, List.forall_mem_cons.mpr ⟨trivial, List.forall_mem_cons.mpr ⟨trivial, List.forall_mem_cons.mpr ⟨trivial, List.forall_mem_cons.mpr ⟨trivial, List.forall_mem_cons.mpr ⟨trivial, List.forall_mem_cons.mpr ⟨trivial, List.forall_mem_cons.mpr ⟨trivial, List.forall_mem_cons.mpr ⟨trivial, List.forall_mem_cons.mpr ⟨trivial, List.forall_mem_cons.mpr ⟨trivial, List.forall_mem_cons.mpr ⟨trivial, List.forall_mem_cons.mpr ⟨(lk_get pg_okc2 (by decide) tw_90), List.forall_mem_cons.mpr ⟨trivial, List.forall_mem_cons.mpr ⟨trivial, List.forall_mem_cons.mpr ⟨(lk_put pg_okc2 (by decide) (Or.inl ⟨rfl, rfl⟩) rfl tw_90), List.forall_mem_cons.mpr ⟨trivial, fun _ h => absurd h List.not_mem_nil⟩⟩⟩⟩⟩⟩⟩⟩⟩⟩⟩⟩⟩⟩⟩⟩⟩⟩⟩⟩⟩⟩⟩⟩⟩⟩⟩
set_option maxRecDepth 100000 in
theorem pg_lk67_0 : ∀ q ∈ (pg_c67.drop 0).take 40, mj_lk pg pg_cl pg_ty pg_Ts pg_Nw pg_ak pg_yn pg_cc pg_rt 67 q.1 q.2 := List.forall_mem_cons.mpr ⟨trivial, List.forall_mem_cons.mpr ⟨rfl, List.forall_mem_cons.mpr ⟨trivial, List.forall_mem_cons.mpr ⟨trivial, List.forall_mem_cons.mpr ⟨(lk_get pg_okc2 (by decide) tw_90), List.forall_mem_cons.mpr ⟨rfl, List.forall_mem_cons.mpr ⟨trivial, List.forall_mem_cons.mpr ⟨trivial, List.forall_mem_cons.mpr ⟨trivial, List.forall_mem_cons.mpr ⟨rfl, List.forall_mem_cons.mpr ⟨trivial, List.forall_mem_cons.mpr ⟨(lk_get pg_okc2 (by decide) tw_89), List.forall_mem_cons.mpr ⟨trivial, List.forall_mem_cons.mpr ⟨trivial, List.forall_mem_cons.mpr ⟨trivial, List.forall_mem_cons.mpr ⟨trivial, List.forall_mem_cons.mpr ⟨trivial, List.forall_mem_cons.mpr ⟨trivial, List.forall_mem_cons.mpr ⟨(lk_get pg_okc2 (by decide) tw_89), List.forall_mem_cons.mpr ⟨trivial, List.forall_mem_cons.mpr ⟨trivial, List.forall_mem_cons.mpr ⟨trivial, List.forall_mem_cons.mpr ⟨trivial, List.forall_mem_cons.mpr ⟨trivial, List.forall_mem_cons.mpr ⟨trivial, List.forall_mem_cons.mpr ⟨trivial, List.forall_mem_cons.mpr ⟨trivial, List.forall_mem_cons.mpr ⟨(lk_get pg_okc2 (by decide) tw_89), List.forall_mem_cons.mpr ⟨trivial, List.forall_mem_cons.mpr ⟨trivial, List.forall_mem_cons.mpr ⟨trivial, List.forall_mem_cons.mpr ⟨trivial, List.forall_mem_cons.mpr ⟨trivial, List.forall_mem_cons.mpr ⟨trivial, List.forall_mem_cons.mpr ⟨trivial, fun _ h => absurd h List.not_mem_nil⟩⟩⟩⟩⟩⟩⟩⟩⟩⟩⟩⟩⟩⟩⟩⟩⟩⟩⟩⟩⟩⟩⟩⟩⟩⟩⟩⟩⟩⟩⟩⟩⟩⟩⟩
set_option maxRecDepth 100000 in
theorem pg_lk68_0 : ∀ q ∈ (pg_c68.drop 0).take 40, mj_lk pg pg_cl pg_ty pg_Ts pg_Nw pg_ak pg_yn pg_cc pg_rt 68 q.1 q.2 := List.forall_mem_cons.mpr ⟨trivial, List.forall_mem_cons.mpr ⟨(lk_o tw_58 tw_18 tw_19), List.forall_mem_cons.mpr ⟨trivial, List.forall_mem_cons.mpr ⟨trivial, List.forall_mem_cons.mpr ⟨(lk_an rfl (by decide) (by decide) tw_59 (List.mem_of_getElem? (i := 1) rfl)), List.forall_mem_cons.mpr ⟨(lk_putF pg_okc3 (by decide) (Or.inr (Or.inr ⟨rfl, Or.inr ⟨_, rfl⟩⟩)) rfl rfl rfl tw_63), List.forall_mem_cons.mpr ⟨trivial, List.forall_mem_cons.mpr ⟨trivial, List.forall_mem_cons.mpr ⟨trivial, List.forall_mem_cons.mpr ⟨(lk_mn tw_60 tw_61 tw_5 tw_62), List.forall_mem_cons.mpr ⟨(lk_putF pg_okc3 (by decide) (Or.inl ⟨rfl, rfl⟩) rfl rfl rfl tw_73), List.forall_mem_cons.mpr ⟨trivial, fun _ h => absurd h List.not_mem_nil⟩⟩⟩⟩⟩⟩⟩⟩⟩⟩⟩⟩
set_option maxRecDepth 100000 in
theorem pg_lk69_0 : ∀ q ∈ (pg_c69.drop 0).take 40, mj_lk pg pg_cl pg_ty pg_Ts pg_Nw pg_ak pg_yn pg_cc pg_rt 69 q.1 q.2 := List.forall_mem_cons.mpr ⟨trivial, List.forall_mem_cons.mpr ⟨(lk_get pg_okc3 (by decide) tw_71), List.forall_mem_cons.mpr ⟨trivial, List.forall_mem_cons.mpr ⟨(lk_get pg_okc1 (by decide) tw_177), List.forall_mem_cons.mpr ⟨trivial, List.forall_mem_cons.mpr ⟨rfl, List.forall_mem_cons.mpr ⟨trivial, List.forall_mem_cons.mpr ⟨rfl, List.forall_mem_cons.mpr ⟨trivial, List.forall_mem_cons.mpr ⟨trivial, fun _ h => absurd h List.not_mem_nil⟩⟩⟩⟩⟩⟩⟩⟩⟩⟩
set_option maxRecDepth 100000 in
theorem pg_lk70_0 : ∀ q ∈ (pg_c70.drop 0).take 40, mj_lk pg pg_cl pg_ty pg_Ts pg_Nw pg_ak pg_yn pg_cc pg_rt 70 q.1 q.2 := List.forall_mem_cons.mpr ⟨trivial, List.forall_mem_cons.mpr ⟨(lk_get pg_okc3 (by decide) tw_69), List.forall_mem_cons.mpr ⟨trivial, List.forall_mem_cons.mpr ⟨(lk_get pg_okc3 (by decide) tw_73), List.forall_mem_cons.mpr ⟨rfl, List.forall_mem_cons.mpr ⟨trivial, List.forall_mem_cons.mpr ⟨(lk_get pg_okc3 (by decide) tw_71), List.forall_mem_cons.mpr ⟨trivial, List.forall_mem_cons.mpr ⟨(lk_get pg_okc1 (by decide) tw_177), List.forall_mem_cons.mpr ⟨trivial, List.forall_mem_cons.mpr ⟨rfl, List.forall_mem_cons.mpr ⟨trivial, List.forall_mem_cons.mpr ⟨rfl, List.forall_mem_cons.mpr ⟨trivial, List.forall_mem_cons.mpr ⟨trivial, fun _ h => absurd h List.not_mem_nil⟩⟩⟩⟩⟩⟩⟩⟩⟩⟩⟩⟩⟩⟩⟩
set_option maxRecDepth 100000 in
theorem pg_lk71_0 : ∀ q ∈ (pg_c71.drop 0).take 40, mj_lk pg pg_cl pg_ty pg_Ts pg_Nw pg_ak pg_yn pg_cc pg_rt 71 q.1 q.2 := List.forall_mem_cons.mpr ⟨trivial, List.forall_mem_cons.mpr ⟨trivial, List.forall_mem_cons.mpr ⟨(lk_v ⟨pg_m70, by decide, tw_4, ⟨by decide, by decide⟩, Or.inl tw_260⟩ (by decide) tw_245 tw_246 (by decide +kernel) (by decide) rfl), List.forall_mem_cons.mpr ⟨rfl, List.forall_mem_cons.mpr ⟨trivial, List.forall_mem_cons.mpr ⟨(lk_get pg_okc3 (by decide) tw_63), List.forall_mem_cons.mpr ⟨trivial, List.forall_mem_cons.mpr ⟨(lk_get pg_okc3 (by decide) tw_69), List.forall_mem_cons.mpr ⟨trivial, List.forall_mem_cons.mpr ⟨(lk_as rfl (by decide) (by decide)), List.forall_mem_cons.mpr ⟨trivial, List.forall_mem_cons.mpr ⟨trivial, List.forall_mem_cons.mpr ⟨(lk_get pg_okc3 (by decide) tw_71), List.forall_mem_cons.mpr ⟨trivial, List.forall_mem_cons.mpr ⟨(lk_get pg_okc1 (by decide) tw_177), List.forall_mem_cons.mpr ⟨trivial, List.forall_mem_cons.mpr ⟨(lk_put pg_okc3 (by decide) (Or.inl ⟨rfl, rfl⟩) rfl tw_71), List.forall_mem_cons.mpr ⟨trivial, List.forall_mem_cons.mpr ⟨trivial, List.forall_mem_cons.mpr ⟨(lk_get pg_okc3 (by decide) tw_69), List.forall_mem_cons.mpr ⟨trivial, List.forall_mem_cons.mpr ⟨trivial, List.forall_mem_cons.mpr ⟨(lk_put pg_okc3 (by decide) (Or.inl ⟨rfl, rfl⟩) rfl tw_69), List.forall_mem_cons.mpr ⟨trivial, fun _ h => absurd h List.not_mem_nil⟩⟩⟩⟩⟩⟩⟩⟩⟩⟩⟩⟩⟩⟩⟩⟩⟩⟩⟩⟩⟩⟩⟩⟩
set_option maxRecDepth 100000 in
theorem pg_lk72_0 : ∀ q ∈ (pg_c72.drop 0).take 40, mj_lk pg pg_cl pg_ty pg_Ts pg_Nw pg_ak pg_yn pg_cc pg_rt 72 q.1 q.2 := List.forall_mem_cons.mpr ⟨trivial, List.forall_mem_cons.mpr ⟨rfl, List.forall_mem_cons.mpr ⟨trivial, List.forall_mem_cons.mpr ⟨trivial, List.forall_mem_cons.mpr ⟨(lk_get pg_okc3 (by decide) tw_69), List.forall_mem_cons.mpr ⟨rfl, List.forall_mem_cons.mpr ⟨trivial, List.forall_mem_cons.mpr ⟨trivial, List.forall_mem_cons.mpr ⟨trivial, List.forall_mem_cons.mpr ⟨(lk_get pg_okc3 (by decide) tw_71), List.forall_mem_cons.mpr ⟨trivial, List.forall_mem_cons.mpr ⟨(lk_get pg_okc3 (by decide) tw_63), List.forall_mem_cons.mpr ⟨trivial, List.forall_mem_cons.mpr ⟨(lk_al rfl (by decide) (by decide)), List.forall_mem_cons.mpr ⟨(lk_get pg_okc1 (by decide) tw_177), List.forall_mem_cons.mpr ⟨trivial, List.forall_mem_cons.mpr ⟨trivial, List.forall_mem_cons.mpr ⟨trivial, List.forall_mem_cons.mpr ⟨(lk_put pg_okc3 (by decide) (Or.inl ⟨rfl, rfl⟩) rfl tw_71), List.forall_mem_cons.mpr ⟨trivial, List.forall_mem_cons.mpr ⟨trivial, List.forall_mem_cons.mpr ⟨trivial, List.forall_mem_cons.mpr ⟨trivial, List.forall_mem_cons.mpr ⟨trivial, List.forall_mem_cons.mpr ⟨trivial, List.forall_mem_cons.mpr ⟨(lk_get pg_okc3 (by decide) tw_69), List.forall_mem_cons.mpr ⟨rfl, List.forall_mem_cons.mpr ⟨trivial, List.forall_mem_cons.mpr ⟨(lk_get pg_okc3 (by decide) tw_63), List.forall_mem_cons.mpr ⟨trivial, List.forall_mem_cons.mpr ⟨trivial, List.forall_mem_cons.mpr ⟨(lk_get pg_okc3 (by decide) tw_63), List.forall_mem_cons.mpr ⟨trivial, List.forall_mem_cons.mpr ⟨trivial, List.forall_mem_cons.mpr ⟨trivial, List.forall_mem_cons.mpr ⟨(lk_al rfl (by decide) (by decide)), List.forall_mem_cons.mpr ⟨(lk_as rfl (by decide) (by decide)), List.forall_mem_cons.mpr ⟨trivial, List.forall_mem_cons.mpr ⟨rfl, List.forall_mem_cons.mpr ⟨trivial, fun _ h => absurd h List.not_mem_nil⟩⟩⟩⟩⟩⟩⟩⟩⟩⟩⟩⟩⟩⟩⟩⟩⟩⟩⟩⟩⟩⟩⟩⟩⟩⟩⟩⟩⟩⟩⟩⟩⟩⟩⟩⟩⟩⟩⟩⟩
set_option maxRecDepth 100000 in
theorem pg_lk72_1 : ∀ q ∈ (pg_c72.drop 40).take 40, mj_lk pg pg_cl pg_ty pg_Ts pg_Nw pg_ak pg_yn pg_cc pg_rt 72 q.1 q.2 := List.forall_mem_cons.mpr ⟨trivial, List.forall_mem_cons.mpr ⟨(lk_get pg_okc3 (by decide) tw_69), List.forall_mem_cons.mpr ⟨trivial, List.forall_mem_cons.mpr ⟨trivial, List.forall_mem_cons.mpr ⟨(lk_put pg_okc3 (by decide) (Or.inl ⟨rfl, rfl⟩) rfl tw_69), List.forall_mem_cons.mpr ⟨trivial, fun _ h => absurd h List.not_mem_nil⟩⟩⟩⟩⟩⟩
set_option maxRecDepth 100000 in
theorem pg_lk73_0 : ∀ q ∈ (pg_c73.drop 0).take 40, mj_lk pg pg_cl pg_ty pg_Ts pg_Nw pg_ak pg_yn pg_cc pg_rt 73 q.1 q.2 := List.forall_mem_cons.mpr ⟨trivial, List.forall_mem_cons.mpr ⟨rfl, List.forall_mem_cons.mpr ⟨trivial, List.forall_mem_cons.mpr ⟨trivial, List.forall_mem_cons.mpr ⟨(lk_get pg_okc3 (by decide) tw_69), List.forall_mem_cons.mpr ⟨rfl, List.forall_mem_cons.mpr ⟨trivial, List.forall_mem_cons.mpr ⟨(lk_get pg_okc3 (by decide) tw_63), List.forall_mem_cons.mpr ⟨trivial, List.forall_mem_cons.mpr ⟨(lk_al rfl (by decide) (by decide)), List.forall_mem_cons.mpr ⟨rfl, List.forall_mem_cons.mpr ⟨trivial, List.forall_mem_cons.mpr ⟨trivial, fun _ h => absurd h List.not_mem_nil⟩⟩⟩⟩⟩⟩⟩⟩⟩⟩⟩⟩⟩
set_option maxRecDepth 100000 in
theorem pg_lk74_0 : ∀ q ∈ (pg_c74.drop 0).take 40, mj_lk pg pg_cl pg_ty pg_Ts pg_Nw pg_ak pg_yn pg_cc pg_rt 74 q.1 q.2 := List.forall_mem_cons.mpr ⟨trivial, List.forall_mem_cons.mpr ⟨trivial, List.forall_mem_cons.mpr ⟨(lk_put pg_okc3 (by decide) (Or.inl ⟨rfl, rfl⟩) rfl tw_69), List.forall_mem_cons.mpr ⟨trivial, List.forall_mem_cons.mpr ⟨trivial, List.forall_mem_cons.mpr ⟨(lk_put pg_okc3 (by decide) (Or.inl ⟨rfl, rfl⟩) rfl tw_71), List.forall_mem_cons.mpr ⟨trivial, fun _ h => absurd h List.not_mem_nil⟩⟩⟩⟩⟩⟩⟩
set_option maxRecDepth 100000 in
theorem pg_lk75_0 : ∀ q ∈ (pg_c75.drop 0).take 40, mj_lk pg pg_cl pg_ty pg_Ts pg_Nw pg_ak pg_yn pg_cc pg_rt 75 q.1 q.2 := List.forall_mem_cons.mpr ⟨trivial, List.forall_mem_cons.mpr ⟨(lk_o tw_52 tw_18 tw_19), List.forall_mem_cons.mpr ⟨trivial, List.forall_mem_cons.mpr ⟨(lk_new pg_okc3 tw_53 tw_54 tw_4 rfl pg_dfl3), List.forall_mem_cons.mpr ⟨trivial, List.forall_mem_cons.mpr ⟨trivial, List.forall_mem_cons.mpr ⟨(lk_i (by decide) ⟨pg_m68, by decide, tw_4, ⟨by decide, by decide⟩, Or.inl tw_55⟩ (by decide) tw_56 rfl rfl (by decide +kernel) (by decide)), List.forall_mem_cons.mpr ⟨(lk_putF pg_okc4 (by decide) (Or.inr (Or.inr ⟨rfl, Or.inl ⟨_, rfl⟩⟩)) rfl rfl rfl tw_128), List.forall_mem_cons.mpr ⟨trivial, List.forall_mem_cons.mpr ⟨(lk_new pg_okc2 tw_83 tw_84 tw_6 rfl pg_dfl2), List.forall_mem_cons.mpr ⟨trivial, List.forall_mem_cons.mpr ⟨(lk_i (by decide) ⟨pg_m64, by decide, tw_6, ⟨by decide, by decide⟩, Or.inr ⟨"FixtureOrder", List.mem_of_getElem? (i := 3) rfl⟩⟩ (by decide) tw_86 rfl rfl (by decide +kernel) (by decide)), List.forall_mem_cons.mpr ⟨(lk_putF pg_okc4 (by decide) (Or.inr (Or.inr ⟨rfl, Or.inl ⟨_, rfl⟩⟩)) rfl rfl rfl tw_129), List.forall_mem_cons.mpr ⟨trivial, List.forall_mem_cons.mpr ⟨trivial, List.forall_mem_cons.mpr ⟨(lk_an rfl (by decide) (by decide) tw_98 (List.mem_of_getElem? (i := 4) rfl)), List.forall_mem_cons.mpr ⟨(lk_putF pg_okc4 (by decide) (Or.inr (Or.inr ⟨rfl, Or.inr ⟨_, rfl⟩⟩)) rfl rfl rfl tw_131), List.forall_mem_cons.mpr ⟨trivial, List.forall_mem_cons.mpr ⟨trivial, List.forall_mem_cons.mpr ⟨trivial, List.forall_mem_cons.mpr ⟨trivial, List.forall_mem_cons.mpr ⟨rfl, List.forall_mem_cons.mpr ⟨trivial, List.forall_mem_cons.mpr ⟨(lk_get pg_okc4 (by decide) tw_131), List.forall_mem_cons.mpr ⟨trivial, List.forall_mem_cons.mpr ⟨(lk_new pg_okc0 tw_98 tw_100 tw_7 rfl pg_dfl0), List.forall_mem_cons.mpr ⟨trivial, List.forall_mem_cons.mpr ⟨(lk_i (by decide) ⟨pg_m46, by decide, tw_7, ⟨by decide, by decide⟩, Or.inr ⟨"FixtureOrder", List.mem_of_getElem? (i := 5) rfl⟩⟩ (by decide) tw_102 rfl rfl (by decide +kernel) (by decide)), List.forall_mem_cons.mpr ⟨(lk_as rfl (by decide) (by decide)), List.forall_mem_cons.mpr ⟨trivial, List.forall_mem_cons.mpr ⟨rfl, List.forall_mem_cons.mpr ⟨trivial, fun _ h => absurd h List.not_mem_nil⟩⟩⟩⟩⟩⟩⟩⟩⟩⟩⟩⟩⟩⟩⟩⟩⟩⟩⟩⟩⟩⟩⟩⟩⟩⟩⟩⟩⟩⟩⟩⟩
set_option maxRecDepth 100000 in
theorem pg_lk76_0 : ∀ q ∈ (pg_c76.drop 0).take 40, mj_lk pg pg_cl pg_ty pg_Ts pg_Nw pg_ak pg_yn pg_cc pg_rt 76 q.1 q.2 := List.forall_mem_cons.mpr ⟨trivial, List.forall_mem_cons.mpr ⟨rfl, List.forall_mem_cons.mpr ⟨trivial, List.forall_mem_cons.mpr ⟨trivial, List.forall_mem_cons.mpr ⟨(lk_get pg_okc4 (by decide) tw_132), List.forall_mem_cons.mpr ⟨rfl, List.forall_mem_cons.mpr ⟨trivial, List.forall_mem_cons.mpr ⟨(lk_get pg_okc4 (by decide) tw_131), List.forall_mem_cons.mpr ⟨trivial, List.forall_mem_cons.mpr ⟨(lk_al rfl (by decide) (by decide)), List.forall_mem_cons.mpr ⟨rfl, List.forall_mem_cons.mpr ⟨trivial, List.forall_mem_cons.mpr ⟨trivial, fun _ h => absurd h List.not_mem_nil⟩⟩⟩⟩⟩⟩⟩⟩⟩⟩⟩⟩⟩
set_option maxRecDepth 100000 in
theorem pg_lk77_0 : ∀ q ∈ (pg_c77.drop 0).take 40, mj_lk pg pg_cl pg_ty pg_Ts pg_Nw pg_ak pg_yn pg_cc pg_rt 77 q.1 q.2 := List.forall_mem_cons.mpr ⟨trivial, List.forall_mem_cons.mpr ⟨trivial, List.forall_mem_cons.mpr ⟨(lk_v ⟨pg_m78, by decide, tw_3, ⟨by decide, by decide⟩, Or.inl tw_367⟩ (by decide) tw_369 ts_0 (by decide +kernel) (by decide) rfl), List.forall_mem_cons.mpr ⟨trivial, List.forall_mem_cons.mpr ⟨trivial, List.forall_mem_cons.mpr ⟨(lk_v ⟨pg_m79, by decide, tw_3, ⟨by decide, by decide⟩, Or.inl tw_380⟩ (by decide) tw_382 ts_1 (by decide +kernel) (by decide) rfl), List.forall_mem_cons.mpr ⟨trivial, List.forall_mem_cons.mpr ⟨trivial, List.forall_mem_cons.mpr ⟨trivial, List.forall_mem_cons.mpr ⟨trivial, List.forall_mem_cons.mpr ⟨(lk_get pg_okc4 (by decide) tw_132), List.forall_mem_cons.mpr ⟨rfl, List.forall_mem_cons.mpr ⟨trivial, List.forall_mem_cons.mpr ⟨trivial, List.forall_mem_cons.mpr ⟨rfl, List.forall_mem_cons.mpr ⟨trivial, List.forall_mem_cons.mpr ⟨trivial, List.forall_mem_cons.mpr ⟨trivial, List.forall_mem_cons.mpr ⟨(lk_v ⟨pg_m80, by decide, tw_3, ⟨by decide, by decide⟩, Or.inl tw_395⟩ (by decide) tw_397 ts_2 (by decide +kernel) (by decide) rfl), List.forall_mem_cons.mpr ⟨trivial, List.forall_mem_cons.mpr ⟨(lk_v ⟨pg_m82, by decide, tw_3, ⟨by decide, by decide⟩, Or.inl tw_412⟩ (by decide) tw_414 ts_4 (by decide +kernel) (by decide) rfl), List.forall_mem_cons.mpr ⟨trivial, List.forall_mem_cons.mpr ⟨trivial, List.forall_mem_cons.mpr ⟨trivial, List.forall_mem_cons.mpr ⟨(lk_get pg_okc4 (by decide) tw_131), List.forall_mem_cons.mpr ⟨trivial, List.forall_mem_cons.mpr ⟨(lk_al rfl (by decide) (by decide)), List.forall_mem_cons.mpr ⟨trivial, List.forall_mem_cons.mpr ⟨(lk_v ⟨pg_m83, by decide, tw_3, ⟨by decide, by decide⟩, Or.inl tw_416⟩ (by decide) tw_418 ts_5 (by decide +kernel) (by decide) rfl), List.forall_mem_cons.mpr ⟨trivial, List.forall_mem_cons.mpr ⟨rfl, List.forall_mem_cons.mpr ⟨trivial, List.forall_mem_cons.mpr ⟨trivial, List.forall_mem_cons.mpr ⟨(lk_get pg_okc4 (by decide) tw_128), List.forall_mem_cons.mpr ⟨(lk_get pg_okc3 (by decide) tw_72), List.forall_mem_cons.mpr ⟨(lk_v ⟨pg_m88, by decide, tw_3, ⟨by decide, by decide⟩, Or.inl tw_425⟩ (by decide) tw_427 ts_7 (by decide +kernel) (by decide) rfl), List.forall_mem_cons.mpr ⟨trivial, List.forall_mem_cons.mpr ⟨trivial, fun _ h => absurd h List.not_mem_nil⟩⟩⟩⟩⟩⟩⟩⟩⟩⟩⟩⟩⟩⟩⟩⟩⟩⟩⟩⟩⟩⟩⟩⟩⟩⟩⟩⟩⟩⟩⟩⟩⟩⟩⟩⟩⟩⟩
set_option maxRecDepth 100000 in
theorem pg_lk78_0 : ∀ q ∈ (pg_c78.drop 0).take 40, mj_lk pg pg_cl pg_ty pg_Ts pg_Nw pg_ak pg_yn pg_cc pg_rt 78 q.1 q.2 := List.forall_mem_cons.mpr ⟨trivial, List.forall_mem_cons.mpr ⟨(lk_get pg_okc4 (by decide) tw_129), List.forall_mem_cons.mpr ⟨(lk_v ⟨pg_m65, by decide, tw_6, ⟨by decide, by decide⟩, Or.inl tw_371⟩ (by decide) tw_372 tw_373 (by decide +kernel) (by decide) rfl), List.forall_mem_cons.mpr ⟨trivial, List.forall_mem_cons.mpr ⟨(lk_get pg_okc4 (by decide) tw_128), List.forall_mem_cons.mpr ⟨(lk_v ⟨pg_m74, by decide, tw_4, ⟨by decide, by decide⟩, Or.inl tw_375⟩ (by decide) tw_351 tw_352 (by decide +kernel) (by decide) rfl), List.forall_mem_cons.mpr ⟨trivial, List.forall_mem_cons.mpr ⟨trivial, List.forall_mem_cons.mpr ⟨(lk_get pg_okc5 (by decide) tw_33), List.forall_mem_cons.mpr ⟨(lk_put pg_okc4 (by decide) (Or.inl ⟨rfl, rfl⟩) rfl tw_134), List.forall_mem_cons.mpr ⟨trivial, List.forall_mem_cons.mpr ⟨trivial, List.forall_mem_cons.mpr ⟨trivial, List.forall_mem_cons.mpr ⟨trivial, List.forall_mem_cons.mpr ⟨(lk_get pg_okc4 (by decide) tw_134), List.forall_mem_cons.mpr ⟨rfl, List.forall_mem_cons.mpr ⟨trivial, List.forall_mem_cons.mpr ⟨(lk_get pg_okc5 (by decide) tw_31), List.forall_mem_cons.mpr ⟨trivial, List.forall_mem_cons.mpr ⟨(lk_al rfl (by decide) (by decide)), List.forall_mem_cons.mpr ⟨(lk_v ⟨pg_m57, by decide, tw_9, ⟨by decide, by decide⟩, Or.inl tw_376⟩ (by decide) tw_377 tw_378 (by decide +kernel) (by decide) rfl), List.forall_mem_cons.mpr ⟨trivial, List.forall_mem_cons.mpr ⟨rfl, List.forall_mem_cons.mpr ⟨trivial, fun _ h => absurd h List.not_mem_nil⟩⟩⟩⟩⟩⟩⟩⟩⟩⟩⟩⟩⟩⟩⟩⟩⟩⟩⟩⟩⟩⟩⟩⟩
set_option maxRecDepth 100000 in
theorem pg_lk79_0 : ∀ q ∈ (pg_c79.drop 0).take 40, mj_lk pg pg_cl pg_ty pg_Ts pg_Nw pg_ak pg_yn pg_cc pg_rt 79 q.1 q.2 := List.forall_mem_cons.mpr ⟨trivial, List.forall_mem_cons.mpr ⟨trivial, List.forall_mem_cons.mpr ⟨(lk_put pg_okc4 (by decide) (Or.inl ⟨rfl, rfl⟩) rfl tw_132), List.forall_mem_cons.mpr ⟨trivial, List.forall_mem_cons.mpr ⟨trivial, List.forall_mem_cons.mpr ⟨trivial, List.forall_mem_cons.mpr ⟨trivial, List.forall_mem_cons.mpr ⟨(lk_get pg_okc5 (by decide) tw_37), List.forall_mem_cons.mpr ⟨rfl, List.forall_mem_cons.mpr ⟨trivial, List.forall_mem_cons.mpr ⟨(lk_get pg_okc5 (by decide) tw_35), List.forall_mem_cons.mpr ⟨trivial, List.forall_mem_cons.mpr ⟨(lk_al rfl (by decide) (by decide)), List.forall_mem_cons.mpr ⟨trivial, List.forall_mem_cons.mpr ⟨trivial, List.forall_mem_cons.mpr ⟨(lk_v ⟨pg_m100, by decide, tw_10, ⟨by decide, by decide⟩, Or.inl tw_384⟩ (by decide) tw_343 tw_344 (by decide +kernel) (by decide) rfl), List.forall_mem_cons.mpr ⟨trivial, List.forall_mem_cons.mpr ⟨trivial, List.forall_mem_cons.mpr ⟨trivial, List.forall_mem_cons.mpr ⟨trivial, List.forall_mem_cons.mpr ⟨trivial, List.forall_mem_cons.mpr ⟨rfl, List.forall_mem_cons.mpr ⟨trivial, List.forall_mem_cons.mpr ⟨(lk_get pg_okc4 (by decide) tw_132), List.forall_mem_cons.mpr ⟨trivial, List.forall_mem_cons.mpr ⟨rfl, List.forall_mem_cons.mpr ⟨trivial, List.forall_mem_cons.mpr ⟨(lk_get pg_okc4 (by decide) tw_131), List.forall_mem_cons.mpr ⟨trivial, List.forall_mem_cons.mpr ⟨(lk_get pg_okc4 (by decide) tw_132), List.forall_mem_cons.mpr ⟨(lk_al rfl (by decide) (by decide)), List.forall_mem_cons.mpr ⟨trivial, List.forall_mem_cons.mpr ⟨trivial, List.forall_mem_cons.mpr ⟨(lk_v ⟨pg_m47, by decide, tw_7, ⟨by decide, by decide⟩, Or.inl tw_385⟩ (by decide) tw_386 tw_387 (by decide +kernel) (by decide) rfl), List.forall_mem_cons.mpr ⟨trivial, List.forall_mem_cons.mpr ⟨trivial, List.forall_mem_cons.mpr ⟨(lk_get pg_okc4 (by decide) tw_132), List.forall_mem_cons.mpr ⟨trivial, List.forall_mem_cons.mpr ⟨trivial, List.forall_mem_cons.mpr ⟨(lk_put pg_okc4 (by decide) (Or.inl ⟨rfl, rfl⟩) rfl tw_132), fun _ h => absurd h List.not_mem_nil⟩⟩⟩⟩⟩⟩⟩⟩⟩⟩⟩⟩⟩⟩⟩⟩⟩⟩⟩⟩⟩⟩⟩⟩⟩⟩⟩⟩⟩⟩⟩⟩⟩⟩⟩⟩⟩⟩⟩⟩
set_option maxRecDepth 100000 in
theorem pg_lk79_1 : ∀ q ∈ (pg_c79.drop 40).take 40, mj_lk pg pg_cl pg_ty pg_Ts pg_Nw pg_ak pg_yn pg_cc pg_rt 79 q.1 q.2 := List.forall_mem_cons.mpr ⟨trivial, List.forall_mem_cons.mpr ⟨rfl, List.forall_mem_cons.mpr ⟨trivial, List.forall_mem_cons.mpr ⟨rfl, List.forall_mem_cons.mpr ⟨trivial, fun _ h => absurd h List.not_mem_nil⟩⟩⟩⟩⟩
set_option maxRecDepth 100000 in
theorem pg_lk80_0 : ∀ q ∈ (pg_c80.drop 0).take 40, mj_lk pg pg_cl pg_ty pg_Ts pg_Nw pg_ak pg_yn pg_cc pg_rt 80 q.1 q.2 := List.forall_mem_cons.mpr ⟨trivial, List.forall_mem_cons.mpr ⟨trivial, List.forall_mem_cons.mpr ⟨trivial, List.forall_mem_cons.mpr ⟨trivial, List.forall_mem_cons.mpr ⟨trivial, List.forall_mem_cons.mpr ⟨trivial, List.forall_mem_cons.mpr ⟨trivial, List.forall_mem_cons.mpr ⟨trivial, List.forall_mem_cons.mpr ⟨(lk_get pg_okc4 (by decide) tw_132), List.forall_mem_cons.mpr ⟨rfl, List.forall_mem_cons.mpr ⟨trivial, List.forall_mem_cons.mpr ⟨trivial, List.forall_mem_cons.mpr ⟨(lk_get pg_okc4 (by decide) tw_131), List.forall_mem_cons.mpr ⟨trivial, List.forall_mem_cons.mpr ⟨(lk_al rfl (by decide) (by decide)), List.forall_mem_cons.mpr ⟨(lk_v ⟨pg_m81, by decide, tw_3, ⟨by decide, by decide⟩, Or.inl tw_399⟩ (by decide) tw_401 ts_3 (by decide +kernel) (by decide) rfl), List.forall_mem_cons.mpr ⟨trivial, List.forall_mem_cons.mpr ⟨trivial, List.forall_mem_cons.mpr ⟨trivial, List.forall_mem_cons.mpr ⟨rfl, List.forall_mem_cons.mpr ⟨trivial, List.forall_mem_cons.mpr ⟨trivial, List.forall_mem_cons.mpr ⟨trivial, List.forall_mem_cons.mpr ⟨trivial, List.forall_mem_cons.mpr ⟨trivial, List.forall_mem_cons.mpr ⟨rfl, List.forall_mem_cons.mpr ⟨trivial, List.forall_mem_cons.mpr ⟨trivial, fun _ h => absurd h List.not_mem_nil⟩⟩⟩⟩⟩⟩⟩⟩⟩⟩⟩⟩⟩⟩⟩⟩⟩⟩⟩⟩⟩⟩⟩⟩⟩⟩⟩⟩
end
section
set_option maxRecDepth 100000 in
theorem pg_lk81_0 : ∀ q ∈ (pg_c81.drop 0).take 40, mj_lk pg pg_cl pg_ty pg_Ts pg_Nw pg_ak pg_yn pg_cc pg_rt 81 q.1 q.2 := List.forall_mem_cons.mpr ⟨trivial, List.forall_mem_cons.mpr ⟨(lk_get pg_okc0 (by decide) tw_106), List.forall_mem_cons.mpr ⟨(lk_get pg_okc6 (by decide) tw_290), List.forall_mem_cons.mpr ⟨trivial, List.forall_mem_cons.mpr ⟨trivial, List.forall_mem_cons.mpr ⟨trivial, List.forall_mem_cons.mpr ⟨trivial, List.forall_mem_cons.mpr ⟨trivial, List.forall_mem_cons.mpr ⟨trivial, List.forall_mem_cons.mpr ⟨trivial, List.forall_mem_cons.mpr ⟨(lk_get pg_okc3 (by decide) tw_70), List.forall_mem_cons.mpr ⟨rfl, List.forall_mem_cons.mpr ⟨trivial, List.forall_mem_cons.mpr ⟨(lk_get pg_okc3 (by decide) tw_66), List.forall_mem_cons.mpr ⟨trivial, List.forall_mem_cons.mpr ⟨(lk_al rfl (by decide) (by decide)), List.forall_mem_cons.mpr ⟨trivial, List.forall_mem_cons.mpr ⟨trivial, List.forall_mem_cons.mpr ⟨(lk_get pg_okc4 (by decide) tw_128), List.forall_mem_cons.mpr ⟨trivial, List.forall_mem_cons.mpr ⟨(lk_v ⟨pg_m69, by decide, tw_4, ⟨by decide, by decide⟩, Or.inl tw_403⟩ (by decide) tw_358 tw_359 (by decide +kernel) (by decide) rfl), List.forall_mem_cons.mpr ⟨rfl, List.forall_mem_cons.mpr ⟨trivial, List.forall_mem_cons.mpr ⟨trivial, List.forall_mem_cons.mpr ⟨(lk_v ⟨pg_m49, by decide, tw_7, ⟨by decide, by decide⟩, Or.inl tw_404⟩ (by decide) tw_405 tw_406 (by decide +kernel) (by decide) rfl), List.forall_mem_cons.mpr ⟨rfl, List.forall_mem_cons.mpr ⟨trivial, List.forall_mem_cons.mpr ⟨trivial, List.forall_mem_cons.mpr ⟨rfl, List.forall_mem_cons.mpr ⟨trivial, List.forall_mem_cons.mpr ⟨trivial, fun _ h => absurd h List.not_mem_nil⟩⟩⟩⟩⟩⟩⟩⟩⟩⟩⟩⟩⟩⟩⟩⟩⟩⟩⟩⟩⟩⟩⟩⟩⟩⟩⟩⟩⟩⟩⟩
set_option maxRecDepth 100000 in
theorem pg_lk82_0 : ∀ q ∈ (pg_c82.drop 0).take 40, mj_lk pg pg_cl pg_ty pg_Ts pg_Nw pg_ak pg_yn pg_cc pg_rt 82 q.1 q.2 := List.forall_mem_cons.mpr ⟨trivial, List.forall_mem_cons.mpr ⟨(lk_get pg_okc4 (by decide) tw_131), List.forall_mem_cons.mpr ⟨trivial, List.forall_mem_cons.mpr ⟨(lk_al rfl (by decide) (by decide)), List.forall_mem_cons.mpr ⟨trivial, List.forall_mem_cons.mpr ⟨trivial, List.forall_mem_cons.mpr ⟨trivial, List.forall_mem_cons.mpr ⟨trivial, List.forall_mem_cons.mpr ⟨trivial, List.forall_mem_cons.mpr ⟨rfl, List.forall_mem_cons.mpr ⟨trivial, List.forall_mem_cons.mpr ⟨(lk_get pg_okc4 (by decide) tw_131), List.forall_mem_cons.mpr ⟨trivial, List.forall_mem_cons.mpr ⟨trivial, List.forall_mem_cons.mpr ⟨(lk_get pg_okc4 (by decide) tw_131), List.forall_mem_cons.mpr ⟨trivial, List.forall_mem_cons.mpr ⟨trivial, List.forall_mem_cons.mpr ⟨trivial, List.forall_mem_cons.mpr ⟨(lk_al rfl (by decide) (by decide)), List.forall_mem_cons.mpr ⟨(lk_as rfl (by decide) (by decide)), List.forall_mem_cons.mpr ⟨trivial, List.forall_mem_cons.mpr ⟨rfl, List.forall_mem_cons.mpr ⟨trivial, List.forall_mem_cons.mpr ⟨(lk_get pg_okc4 (by decide) tw_131), List.forall_mem_cons.mpr ⟨trivial, List.forall_mem_cons.mpr ⟨trivial, List.forall_mem_cons.mpr ⟨(lk_as rfl (by decide) (by decide)), List.forall_mem_cons.mpr ⟨trivial, fun _ h => absurd h List.not_mem_nil⟩⟩⟩⟩⟩⟩⟩⟩⟩⟩⟩⟩⟩⟩⟩⟩⟩⟩⟩⟩⟩⟩⟩⟩⟩⟩⟩⟩
set_option maxRecDepth 100000 in
theorem pg_lk83_0 : ∀ q ∈ (pg_c83.drop 0).take 40, mj_lk pg pg_cl pg_ty pg_Ts pg_Nw pg_ak pg_yn pg_cc pg_rt 83 q.1 q.2 := List.forall_mem_cons.mpr ⟨trivial, List.forall_mem_cons.mpr ⟨trivial, List.forall_mem_cons.mpr ⟨trivial, List.forall_mem_cons.mpr ⟨(lk_v ⟨pg_m84, by decide, tw_3, ⟨by decide, by decide⟩, Or.inl tw_420⟩ (by decide) tw_422 ts_6 (by decide +kernel) (by decide) rfl), List.forall_mem_cons.mpr ⟨(lk_v ⟨pg_m88, by decide, tw_3, ⟨by decide, by decide⟩, Or.inl tw_425⟩ (by decide) tw_427 ts_7 (by decide +kernel) (by decide) rfl), List.forall_mem_cons.mpr ⟨trivial, List.forall_mem_cons.mpr ⟨trivial, List.forall_mem_cons.mpr ⟨trivial, List.forall_mem_cons.mpr ⟨(lk_get pg_okc0 (by decide) tw_106), List.forall_mem_cons.mpr ⟨(lk_get pg_okc6 (by decide) tw_285), List.forall_mem_cons.mpr ⟨(lk_v ⟨pg_m95, by decide, tw_2, ⟨by decide, by decide⟩, Or.inl tw_441⟩ (by decide) tw_442 tw_443 (by decide +kernel) (by decide) rfl), List.forall_mem_cons.mpr ⟨trivial, List.forall_mem_cons.mpr ⟨trivial, List.forall_mem_cons.mpr ⟨trivial, List.forall_mem_cons.mpr ⟨trivial, List.forall_mem_cons.mpr ⟨trivial, List.forall_mem_cons.mpr ⟨trivial, List.forall_mem_cons.mpr ⟨trivial, List.forall_mem_cons.mpr ⟨trivial, List.forall_mem_cons.mpr ⟨trivial, List.forall_mem_cons.mpr ⟨trivial, List.forall_mem_cons.mpr ⟨trivial, List.forall_mem_cons.mpr ⟨trivial, List.forall_mem_cons.mpr ⟨(lk_get pg_okc0 (by decide) tw_106), List.forall_mem_cons.mpr ⟨(lk_get pg_okc6 (by decide) tw_299), List.forall_mem_cons.mpr ⟨rfl, List.forall_mem_cons.mpr ⟨trivial, List.forall_mem_cons.mpr ⟨trivial, List.forall_mem_cons.mpr ⟨trivial, List.forall_mem_cons.mpr ⟨trivial, List.forall_mem_cons.mpr ⟨(lk_v ⟨pg_m86, by decide, tw_3, ⟨by decide, by decide⟩, Or.inl tw_449⟩ (by decide) tw_451 ts_8 (by decide +kernel) (by decide) rfl), List.forall_mem_cons.mpr ⟨trivial, List.forall_mem_cons.mpr ⟨trivial, List.forall_mem_cons.mpr ⟨trivial, List.forall_mem_cons.mpr ⟨(lk_v ⟨pg_m85, by decide, tw_3, ⟨by decide, by decide⟩, Or.inl tw_482⟩ (by decide) tw_484 ts_10 (by decide +kernel) (by decide) rfl), List.forall_mem_cons.mpr ⟨(lk_v ⟨pg_m88, by decide, tw_3, ⟨by decide, by decide⟩, Or.inl tw_425⟩ (by decide) tw_427 ts_7 (by decide +kernel) (by decide) rfl), List.forall_mem_cons.mpr ⟨trivial, List.forall_mem_cons.mpr ⟨trivial, List.forall_mem_cons.mpr ⟨trivial, List.forall_mem_cons.mpr ⟨trivial, fun _ h => absurd h List.not_mem_nil⟩⟩⟩⟩⟩⟩⟩⟩⟩⟩⟩⟩⟩⟩⟩⟩⟩⟩⟩⟩⟩⟩⟩⟩⟩⟩⟩⟩⟩⟩⟩⟩⟩⟩⟩⟩⟩⟩⟩⟩
set_option maxRecDepth 100000 in
theorem pg_lk83_1 : ∀ q ∈ (pg_c83.drop 40).take 40, mj_lk pg pg_cl pg_ty pg_Ts pg_Nw pg_ak pg_yn pg_cc pg_rt 83 q.1 q.2 := List.forall_mem_cons.mpr ⟨trivial, List.forall_mem_cons.mpr ⟨trivial, List.forall_mem_cons.mpr ⟨trivial, List.forall_mem_cons.mpr ⟨trivial, List.forall_mem_cons.mpr ⟨rfl, List.forall_mem_cons.mpr ⟨trivial, List.forall_mem_cons.mpr ⟨trivial, List.forall_mem_cons.mpr ⟨rfl, List.forall_mem_cons.mpr ⟨rfl, List.forall_mem_cons.mpr ⟨trivial, List.forall_mem_cons.mpr ⟨rfl, List.forall_mem_cons.mpr ⟨trivial, List.forall_mem_cons.mpr ⟨trivial, List.forall_mem_cons.mpr ⟨trivial, List.forall_mem_cons.mpr ⟨trivial, List.forall_mem_cons.mpr ⟨trivial, List.forall_mem_cons.mpr ⟨trivial, List.forall_mem_cons.mpr ⟨trivial, List.forall_mem_cons.mpr ⟨rfl, List.forall_mem_cons.mpr ⟨trivial, List.forall_mem_cons.mpr ⟨rfl, List.forall_mem_cons.mpr ⟨trivial, List.forall_mem_cons.mpr ⟨(lk_v ⟨pg_m51, by decide, tw_7, ⟨by decide, by decide⟩, Or.inl tw_486⟩ (by decide) tw_487 tw_488 (by decide +kernel) (by decide) rfl), List.forall_mem_cons.mpr ⟨trivial, fun _ h => absurd h List.not_mem_nil⟩⟩⟩⟩⟩⟩⟩⟩⟩⟩⟩⟩⟩⟩⟩⟩⟩⟩⟩⟩⟩⟩⟩⟩
set_option maxRecDepth 100000 in
theorem pg_lk84_0 : ∀ q ∈ (pg_c84.drop 0).take 40, mj_lk pg pg_cl pg_ty pg_Ts pg_Nw pg_ak pg_yn pg_cc pg_rt 84 q.1 q.2 := List.forall_mem_cons.mpr ⟨trivial, List.forall_mem_cons.mpr ⟨trivial, List.forall_mem_cons.mpr ⟨trivial, List.forall_mem_cons.mpr ⟨trivial, List.forall_mem_cons.mpr ⟨trivial, List.forall_mem_cons.mpr ⟨trivial, List.forall_mem_cons.mpr ⟨(lk_get pg_okc4 (by decide) tw_128), List.forall_mem_cons.mpr ⟨(lk_get pg_okc3 (by decide) tw_70), List.forall_mem_cons.mpr ⟨rfl, List.forall_mem_cons.mpr ⟨trivial, List.forall_mem_cons.mpr ⟨trivial, List.forall_mem_cons.mpr ⟨(lk_get pg_okc4 (by decide) tw_128), List.forall_mem_cons.mpr ⟨(lk_get pg_okc3 (by decide) tw_66), List.forall_mem_cons.mpr ⟨trivial, List.forall_mem_cons.mpr ⟨(lk_al rfl (by decide) (by decide)), List.forall_mem_cons.mpr ⟨(lk_v ⟨pg_m49, by decide, tw_7, ⟨by decide, by decide⟩, Or.inl tw_404⟩ (by decide) tw_405 tw_406 (by decide +kernel) (by decide) rfl), List.forall_mem_cons.mpr ⟨rfl, List.forall_mem_cons.mpr ⟨trivial, List.forall_mem_cons.mpr ⟨trivial, List.forall_mem_cons.mpr ⟨(lk_get pg_okc4 (by decide) tw_128), List.forall_mem_cons.mpr ⟨(lk_get pg_okc3 (by decide) tw_66), List.forall_mem_cons.mpr ⟨trivial, List.forall_mem_cons.mpr ⟨(lk_al rfl (by decide) (by decide)), List.forall_mem_cons.mpr ⟨(lk_get pg_okc1 (by decide) tw_180), List.forall_mem_cons.mpr ⟨trivial, List.forall_mem_cons.mpr ⟨trivial, List.forall_mem_cons.mpr ⟨trivial, List.forall_mem_cons.mpr ⟨rfl, List.forall_mem_cons.mpr ⟨trivial, List.forall_mem_cons.mpr ⟨trivial, List.forall_mem_cons.mpr ⟨trivial, List.forall_mem_cons.mpr ⟨trivial, List.forall_mem_cons.mpr ⟨trivial, List.forall_mem_cons.mpr ⟨trivial, List.forall_mem_cons.mpr ⟨(lk_get pg_okc4 (by decide) tw_128), List.forall_mem_cons.mpr ⟨(lk_get pg_okc3 (by decide) tw_70), List.forall_mem_cons.mpr ⟨rfl, List.forall_mem_cons.mpr ⟨trivial, List.forall_mem_cons.mpr ⟨(lk_get pg_okc4 (by decide) tw_128), List.forall_mem_cons.mpr ⟨(lk_get pg_okc3 (by decide) tw_66), fun _ h => absurd h List.not_mem_nil⟩⟩⟩⟩⟩⟩⟩⟩⟩⟩⟩⟩⟩⟩⟩⟩⟩⟩⟩⟩⟩⟩⟩⟩⟩⟩⟩⟩⟩⟩⟩⟩⟩⟩⟩⟩⟩⟩⟩⟩
set_option maxRecDepth 100000 in
theorem pg_lk84_1 : ∀ q ∈ (pg_c84.drop 40).take 40, mj_lk pg pg_cl pg_ty pg_Ts pg_Nw pg_ak pg_yn pg_cc pg_rt 84 q.1 q.2 := List.forall_mem_cons.mpr ⟨trivial, List.forall_mem_cons.mpr ⟨(lk_al rfl (by decide) (by decide)), List.forall_mem_cons.mpr ⟨trivial, List.forall_mem_cons.mpr ⟨(lk_v ⟨pg_m54, by decide, tw_9, ⟨by decide, by decide⟩, Or.inl tw_424⟩ (by decide) tw_249 tw_250 (by decide +kernel) (by decide) rfl), List.forall_mem_cons.mpr ⟨rfl, List.forall_mem_cons.mpr ⟨trivial, List.forall_mem_cons.mpr ⟨trivial, List.forall_mem_cons.mpr ⟨(lk_get pg_okc4 (by decide) tw_128), List.forall_mem_cons.mpr ⟨(lk_get pg_okc3 (by decide) tw_66), List.forall_mem_cons.mpr ⟨trivial, List.forall_mem_cons.mpr ⟨(lk_al rfl (by decide) (by decide)), List.forall_mem_cons.mpr ⟨(lk_get pg_okc1 (by decide) tw_180), List.forall_mem_cons.mpr ⟨trivial, List.forall_mem_cons.mpr ⟨trivial, List.forall_mem_cons.mpr ⟨trivial, List.forall_mem_cons.mpr ⟨rfl, List.forall_mem_cons.mpr ⟨trivial, List.forall_mem_cons.mpr ⟨trivial, List.forall_mem_cons.mpr ⟨trivial, List.forall_mem_cons.mpr ⟨trivial, fun _ h => absurd h List.not_mem_nil⟩⟩⟩⟩⟩⟩⟩⟩⟩⟩⟩⟩⟩⟩⟩⟩⟩⟩⟩⟩
set_option maxRecDepth 100000 in
theorem pg_lk85_0 : ∀ q ∈ (pg_c85.drop 0).take 40, mj_lk pg pg_cl pg_ty pg_Ts pg_Nw pg_ak pg_yn pg_cc pg_rt 85 q.1 q.2 := List.forall_mem_cons.mpr ⟨trivial, List.forall_mem_cons.mpr ⟨trivial, List.forall_mem_cons.mpr ⟨trivial, List.forall_mem_cons.mpr ⟨trivial, List.forall_mem_cons.mpr ⟨trivial, List.forall_mem_cons.mpr ⟨trivial, List.forall_mem_cons.mpr ⟨(lk_get pg_okc4 (by decide) tw_128), List.forall_mem_cons.mpr ⟨(lk_get pg_okc3 (by decide) tw_70), List.forall_mem_cons.mpr ⟨rfl, List.forall_mem_cons.mpr ⟨trivial, List.forall_mem_cons.mpr ⟨(lk_get pg_okc4 (by decide) tw_128), List.forall_mem_cons.mpr ⟨(lk_get pg_okc3 (by decide) tw_66), List.forall_mem_cons.mpr ⟨trivial, List.forall_mem_cons.mpr ⟨(lk_al rfl (by decide) (by decide)), List.forall_mem_cons.mpr ⟨(lk_get pg_okc1 (by decide) tw_183), List.forall_mem_cons.mpr ⟨rfl, List.forall_mem_cons.mpr ⟨trivial, List.forall_mem_cons.mpr ⟨trivial, List.forall_mem_cons.mpr ⟨(lk_get pg_okc4 (by decide) tw_128), List.forall_mem_cons.mpr ⟨(lk_get pg_okc3 (by decide) tw_66), List.forall_mem_cons.mpr ⟨trivial, List.forall_mem_cons.mpr ⟨(lk_al rfl (by decide) (by decide)), List.forall_mem_cons.mpr ⟨(lk_get pg_okc1 (by decide) tw_180), List.forall_mem_cons.mpr ⟨trivial, List.forall_mem_cons.mpr ⟨trivial, List.forall_mem_cons.mpr ⟨trivial, List.forall_mem_cons.mpr ⟨rfl, List.forall_mem_cons.mpr ⟨trivial, List.forall_mem_cons.mpr ⟨trivial, fun _ h => absurd h List.not_mem_nil⟩⟩⟩⟩⟩⟩⟩⟩⟩⟩⟩⟩⟩⟩⟩⟩⟩⟩⟩⟩⟩⟩⟩⟩⟩⟩⟩⟩⟩
set_option maxRecDepth 100000 in
theorem pg_lk86_0 : ∀ q ∈ (pg_c86.drop 0).take 40, mj_lk pg pg_cl pg_ty pg_Ts pg_Nw pg_ak pg_yn pg_cc pg_rt 86 q.1 q.2 := List.forall_mem_cons.mpr ⟨trivial, List.forall_mem_cons.mpr ⟨(lk_get pg_okc0 (by decide) tw_106), List.forall_mem_cons.mpr ⟨(lk_get pg_okc6 (by decide) tw_290), List.forall_mem_cons.mpr ⟨trivial, List.forall_mem_cons.mpr ⟨trivial, List.forall_mem_cons.mpr ⟨trivial, List.forall_mem_cons.mpr ⟨trivial, List.forall_mem_cons.mpr ⟨trivial, List.forall_mem_cons.mpr ⟨(lk_get pg_okc3 (by decide) tw_70), List.forall_mem_cons.mpr ⟨rfl, List.forall_mem_cons.mpr ⟨trivial, List.forall_mem_cons.mpr ⟨(lk_get pg_okc3 (by decide) tw_66), List.forall_mem_cons.mpr ⟨trivial, List.forall_mem_cons.mpr ⟨(lk_al rfl (by decide) (by decide)), List.forall_mem_cons.mpr ⟨trivial, List.forall_mem_cons.mpr ⟨trivial, List.forall_mem_cons.mpr ⟨(lk_get pg_okc4 (by decide) tw_128), List.forall_mem_cons.mpr ⟨trivial, List.forall_mem_cons.mpr ⟨(lk_v ⟨pg_m69, by decide, tw_4, ⟨by decide, by decide⟩, Or.inl tw_403⟩ (by decide) tw_358 tw_359 (by decide +kernel) (by decide) rfl), List.forall_mem_cons.mpr ⟨rfl, List.forall_mem_cons.mpr ⟨trivial, List.forall_mem_cons.mpr ⟨trivial, List.forall_mem_cons.mpr ⟨trivial, List.forall_mem_cons.mpr ⟨(lk_v ⟨pg_m87, by decide, tw_3, ⟨by decide, by decide⟩, Or.inl tw_453⟩ (by decide) tw_455 ts_9 (by decide +kernel) (by decide) rfl), List.forall_mem_cons.mpr ⟨rfl, List.forall_mem_cons.mpr ⟨trivial, List.forall_mem_cons.mpr ⟨trivial, List.forall_mem_cons.mpr ⟨(lk_v ⟨pg_m50, by decide, tw_7, ⟨by decide, by decide⟩, Or.inl tw_474⟩ (by decide) tw_475 tw_476 (by decide +kernel) (by decide) rfl), List.forall_mem_cons.mpr ⟨trivial, List.forall_mem_cons.mpr ⟨trivial, List.forall_mem_cons.mpr ⟨trivial, List.forall_mem_cons.mpr ⟨rfl, List.forall_mem_cons.mpr ⟨trivial, List.forall_mem_cons.mpr ⟨(lk_get pg_okc4 (by decide) tw_129), List.forall_mem_cons.mpr ⟨trivial, List.forall_mem_cons.mpr ⟨trivial, List.forall_mem_cons.mpr ⟨trivial, List.forall_mem_cons.mpr ⟨(lk_v ⟨pg_m66, by decide, tw_6, ⟨by decide, by decide⟩, Or.inl tw_437⟩ (by decide) tw_438 tw_439 (by decide +kernel) (by decide) rfl), List.forall_mem_cons.mpr ⟨trivial, List.forall_mem_cons.mpr ⟨(lk_get pg_okc0 (by decide) tw_106), fun _ h => absurd h List.not_mem_nil⟩⟩⟩⟩⟩⟩⟩⟩⟩⟩⟩⟩⟩⟩⟩⟩⟩⟩⟩⟩⟩⟩⟩⟩⟩⟩⟩⟩⟩⟩⟩⟩⟩⟩⟩⟩⟩⟩⟩⟩
set_option maxRecDepth 100000 in
theorem pg_lk86_1 : ∀ q ∈ (pg_c86.drop 40).take 40, mj_lk pg pg_cl pg_ty pg_Ts pg_Nw pg_ak pg_yn pg_cc pg_rt 86 q.1 q.2 := List.forall_mem_cons.mpr ⟨trivial, List.forall_mem_cons.mpr ⟨(lk_v ⟨pg_m101, by decide, tw_10, ⟨by decide, by decide⟩, Or.inl tw_478⟩ (by decide) tw_479 tw_480 (by decide +kernel) (by decide) rfl), List.forall_mem_cons.mpr ⟨trivial, fun _ h => absurd h List.not_mem_nil⟩⟩⟩
set_option maxRecDepth 100000 in
theorem pg_lk87_0 : ∀ q ∈ (pg_c87.drop 0).take 40, mj_lk pg pg_cl pg_ty pg_Ts pg_Nw pg_ak pg_yn pg_cc pg_rt 87 q.1 q.2 := List.forall_mem_cons.mpr ⟨trivial, List.forall_mem_cons.mpr ⟨trivial, List.forall_mem_cons.mpr ⟨(lk_v ⟨pg_m48, by decide, tw_7, ⟨by decide, by decide⟩, Or.inl tw_457⟩ (by decide) tw_458 tw_459 (by decide +kernel) (by decide) rfl), List.forall_mem_cons.mpr ⟨trivial, List.forall_mem_cons.mpr ⟨trivial, List.forall_mem_cons.mpr ⟨(lk_get pg_okc0 (by decide) tw_106), List.forall_mem_cons.mpr ⟨(lk_get pg_okc6 (by decide) tw_285), List.forall_mem_cons.mpr ⟨trivial, List.forall_mem_cons.mpr ⟨trivial, List.forall_mem_cons.mpr ⟨trivial, List.forall_mem_cons.mpr ⟨(lk_v ⟨pg_m61, by decide, tw_9, ⟨by decide, by decide⟩, Or.inl tw_461⟩ (by decide) tw_462 tw_463 (by decide +kernel) (by decide) rfl), List.forall_mem_cons.mpr ⟨rfl, List.forall_mem_cons.mpr ⟨trivial, List.forall_mem_cons.mpr ⟨trivial, List.forall_mem_cons.mpr ⟨trivial, List.forall_mem_cons.mpr ⟨(lk_get pg_okc1 (by decide) tw_188), List.forall_mem_cons.mpr ⟨rfl, List.forall_mem_cons.mpr ⟨trivial, List.forall_mem_cons.mpr ⟨trivial, List.forall_mem_cons.mpr ⟨trivial, List.forall_mem_cons.mpr ⟨(lk_v ⟨pg_m60, by decide, tw_9, ⟨by decide, by decide⟩, Or.inl tw_465⟩ (by decide) tw_466 tw_467 (by decide +kernel) (by decide) rfl), List.forall_mem_cons.mpr ⟨trivial, List.forall_mem_cons.mpr ⟨(lk_get pg_okc4 (by decide) tw_129), List.forall_mem_cons.mpr ⟨trivial, List.forall_mem_cons.mpr ⟨trivial, List.forall_mem_cons.mpr ⟨(lk_get pg_okc1 (by decide) tw_175), List.forall_mem_cons.mpr ⟨trivial, List.forall_mem_cons.mpr ⟨(lk_v ⟨pg_m66, by decide, tw_6, ⟨by decide, by decide⟩, Or.inl tw_437⟩ (by decide) tw_438 tw_439 (by decide +kernel) (by decide) rfl), List.forall_mem_cons.mpr ⟨trivial, List.forall_mem_cons.mpr ⟨trivial, List.forall_mem_cons.mpr ⟨trivial, List.forall_mem_cons.mpr ⟨trivial, List.forall_mem_cons.mpr ⟨trivial, List.forall_mem_cons.mpr ⟨(lk_v ⟨pg_m58, by decide, tw_9, ⟨by decide, by decide⟩, Or.inl tw_469⟩ (by decide) tw_470 tw_471 (by decide +kernel) (by decide) rfl), List.forall_mem_cons.mpr ⟨trivial, List.forall_mem_cons.mpr ⟨(lk_get pg_okc4 (by decide) tw_128), List.forall_mem_cons.mpr ⟨trivial, List.forall_mem_cons.mpr ⟨(lk_v ⟨pg_m71, by decide, tw_4, ⟨by decide, by decide⟩, Or.inl tw_473⟩ (by decide) tw_257 tw_258 (by decide +kernel) (by decide) rfl), List.forall_mem_cons.mpr ⟨trivial, List.forall_mem_cons.mpr ⟨(lk_get pg_okc4 (by decide) tw_129), fun _ h => absurd h List.not_mem_nil⟩⟩⟩⟩⟩⟩⟩⟩⟩⟩⟩⟩⟩⟩⟩⟩⟩⟩⟩⟩⟩⟩⟩⟩⟩⟩⟩⟩⟩⟩⟩⟩⟩⟩⟩⟩⟩⟩⟩⟩
set_option maxRecDepth 100000 in
theorem pg_lk87_1 : ∀ q ∈ (pg_c87.drop 40).take 40, mj_lk pg pg_cl pg_ty pg_Ts pg_Nw pg_ak pg_yn pg_cc pg_rt 87 q.1 q.2 := List.forall_mem_cons.mpr ⟨trivial, List.forall_mem_cons.mpr ⟨trivial, List.forall_mem_cons.mpr ⟨(lk_get pg_okc1 (by decide) tw_175), List.forall_mem_cons.mpr ⟨trivial, List.forall_mem_cons.mpr ⟨(lk_v ⟨pg_m66, by decide, tw_6, ⟨by decide, by decide⟩, Or.inl tw_437⟩ (by decide) tw_438 tw_439 (by decide +kernel) (by decide) rfl), List.forall_mem_cons.mpr ⟨trivial, List.forall_mem_cons.mpr ⟨trivial, fun _ h => absurd h List.not_mem_nil⟩⟩⟩⟩⟩⟩⟩
set_option maxRecDepth 100000 in
theorem pg_lk88_0 : ∀ q ∈ (pg_c88.drop 0).take 40, mj_lk pg pg_cl pg_ty pg_Ts pg_Nw pg_ak pg_yn pg_cc pg_rt 88 q.1 q.2 := List.forall_mem_cons.mpr ⟨trivial, List.forall_mem_cons.mpr ⟨trivial, List.forall_mem_cons.mpr ⟨trivial, List.forall_mem_cons.mpr ⟨(lk_get pg_okc4 (by decide) tw_128), List.forall_mem_cons.mpr ⟨(lk_get pg_okc3 (by decide) tw_70), List.forall_mem_cons.mpr ⟨trivial, List.forall_mem_cons.mpr ⟨trivial, List.forall_mem_cons.mpr ⟨trivial, List.forall_mem_cons.mpr ⟨trivial, List.forall_mem_cons.mpr ⟨rfl, List.forall_mem_cons.mpr ⟨trivial, List.forall_mem_cons.mpr ⟨(lk_get pg_okc4 (by decide) tw_128), List.forall_mem_cons.mpr ⟨(lk_get pg_okc3 (by decide) tw_66), List.forall_mem_cons.mpr ⟨trivial, List.forall_mem_cons.mpr ⟨(lk_al rfl (by decide) (by decide)), List.forall_mem_cons.mpr ⟨trivial, List.forall_mem_cons.mpr ⟨trivial, List.forall_mem_cons.mpr ⟨trivial, List.forall_mem_cons.mpr ⟨(lk_get pg_okc1 (by decide) tw_180), List.forall_mem_cons.mpr ⟨trivial, List.forall_mem_cons.mpr ⟨rfl, List.forall_mem_cons.mpr ⟨trivial, List.forall_mem_cons.mpr ⟨(lk_get pg_okc4 (by decide) tw_128), List.forall_mem_cons.mpr ⟨trivial, List.forall_mem_cons.mpr ⟨(lk_v ⟨pg_m72, by decide, tw_4, ⟨by decide, by decide⟩, Or.inl tw_429⟩ (by decide) tw_430 tw_431 (by decide +kernel) (by decide) rfl), List.forall_mem_cons.mpr ⟨trivial, List.forall_mem_cons.mpr ⟨(lk_v ⟨pg_m59, by decide, tw_9, ⟨by decide, by decide⟩, Or.inl tw_433⟩ (by decide) tw_434 tw_435 (by decide +kernel) (by decide) rfl), List.forall_mem_cons.mpr ⟨trivial, List.forall_mem_cons.mpr ⟨(lk_get pg_okc4 (by decide) tw_129), List.forall_mem_cons.mpr ⟨trivial, List.forall_mem_cons.mpr ⟨(lk_get pg_okc1 (by decide) tw_190), List.forall_mem_cons.mpr ⟨rfl, List.forall_mem_cons.mpr ⟨trivial, List.forall_mem_cons.mpr ⟨rfl, List.forall_mem_cons.mpr ⟨trivial, List.forall_mem_cons.mpr ⟨trivial, List.forall_mem_cons.mpr ⟨(lk_get pg_okc1 (by decide) tw_175), List.forall_mem_cons.mpr ⟨trivial, List.forall_mem_cons.mpr ⟨(lk_get pg_okc1 (by decide) tw_198), List.forall_mem_cons.mpr ⟨(lk_v ⟨pg_m66, by decide, tw_6, ⟨by decide, by decide⟩, Or.inl tw_437⟩ (by decide) tw_438 tw_439 (by decide +kernel) (by decide) rfl), fun _ h => absurd h List.not_mem_nil⟩⟩⟩⟩⟩⟩⟩⟩⟩⟩⟩⟩⟩⟩⟩⟩⟩⟩⟩⟩⟩⟩⟩⟩⟩⟩⟩⟩⟩⟩⟩⟩⟩⟩⟩⟩⟩⟩⟩⟩
set_option maxRecDepth 100000 in
theorem pg_lk88_1 : ∀ q ∈ (pg_c88.drop 40).take 40, mj_lk pg pg_cl pg_ty pg_Ts pg_Nw pg_ak pg_yn pg_cc pg_rt 88 q.1 q.2 := List.forall_mem_cons.mpr ⟨trivial, List.forall_mem_cons.mpr ⟨trivial, List.forall_mem_cons.mpr ⟨(lk_get pg_okc1 (by decide) tw_190), List.forall_mem_cons.mpr ⟨rfl, List.forall_mem_cons.mpr ⟨trivial, List.forall_mem_cons.mpr ⟨rfl, List.forall_mem_cons.mpr ⟨trivial, List.forall_mem_cons.mpr ⟨trivial, List.forall_mem_cons.mpr ⟨trivial, List.forall_mem_cons.mpr ⟨trivial, List.forall_mem_cons.mpr ⟨rfl, List.forall_mem_cons.mpr ⟨trivial, List.forall_mem_cons.mpr ⟨trivial, fun _ h => absurd h List.not_mem_nil⟩⟩⟩⟩⟩⟩⟩⟩⟩⟩⟩⟩⟩
set_option maxRecDepth 100000 in
theorem pg_lk89_0 : ∀ q ∈ (pg_c89.drop 0).take 40, mj_lk pg pg_cl pg_ty pg_Ts pg_Nw pg_ak pg_yn pg_cc pg_rt 89 q.1 q.2 := List.forall_mem_cons.mpr ⟨trivial, List.forall_mem_cons.mpr ⟨(lk_o tw_25 tw_18 tw_19), List.forall_mem_cons.mpr ⟨trivial, List.forall_mem_cons.mpr ⟨trivial, List.forall_mem_cons.mpr ⟨(lk_an rfl (by decide) (by decide) tw_26 (List.mem_of_getElem? (i := 1) rfl)), List.forall_mem_cons.mpr ⟨(lk_putF pg_okc5 (by decide) (Or.inr (Or.inr ⟨rfl, Or.inr ⟨_, rfl⟩⟩)) rfl rfl rfl tw_30), List.forall_mem_cons.mpr ⟨trivial, List.forall_mem_cons.mpr ⟨trivial, List.forall_mem_cons.mpr ⟨(lk_an rfl (by decide) (by decide) tw_28 (List.mem_of_getElem? (i := 2) rfl)), List.forall_mem_cons.mpr ⟨(lk_putF pg_okc5 (by decide) (Or.inr (Or.inr ⟨rfl, Or.inr ⟨_, rfl⟩⟩)) rfl rfl rfl tw_34), List.forall_mem_cons.mpr ⟨trivial, fun _ h => absurd h List.not_mem_nil⟩⟩⟩⟩⟩⟩⟩⟩⟩⟩⟩
set_option maxRecDepth 100000 in
theorem pg_lk90_0 : ∀ q ∈ (pg_c90.drop 0).take 40, mj_lk pg pg_cl pg_ty pg_Ts pg_Nw pg_ak pg_yn pg_cc pg_rt 90 q.1 q.2 := List.forall_mem_cons.mpr ⟨trivial, List.forall_mem_cons.mpr ⟨rfl, List.forall_mem_cons.mpr ⟨trivial, List.forall_mem_cons.mpr ⟨trivial, List.forall_mem_cons.mpr ⟨(lk_get pg_okc5 (by decide) tw_32), List.forall_mem_cons.mpr ⟨rfl, List.forall_mem_cons.mpr ⟨trivial, List.forall_mem_cons.mpr ⟨(lk_get pg_okc5 (by decide) tw_30), List.forall_mem_cons.mpr ⟨trivial, List.forall_mem_cons.mpr ⟨(lk_al rfl (by decide) (by decide)), List.forall_mem_cons.mpr ⟨rfl, List.forall_mem_cons.mpr ⟨trivial, List.forall_mem_cons.mpr ⟨trivial, fun _ h => absurd h List.not_mem_nil⟩⟩⟩⟩⟩⟩⟩⟩⟩⟩⟩⟩⟩
set_option maxRecDepth 100000 in
theorem pg_lk91_0 : ∀ q ∈ (pg_c91.drop 0).take 40, mj_lk pg pg_cl pg_ty pg_Ts pg_Nw pg_ak pg_yn pg_cc pg_rt 91 q.1 q.2 := List.forall_mem_cons.mpr ⟨trivial, List.forall_mem_cons.mpr ⟨rfl, List.forall_mem_cons.mpr ⟨trivial, List.forall_mem_cons.mpr ⟨trivial, List.forall_mem_cons.mpr ⟨(lk_get pg_okc5 (by decide) tw_36), List.forall_mem_cons.mpr ⟨rfl, List.forall_mem_cons.mpr ⟨trivial, List.forall_mem_cons.mpr ⟨(lk_get pg_okc5 (by decide) tw_34), List.forall_mem_cons.mpr ⟨trivial, List.forall_mem_cons.mpr ⟨(lk_al rfl (by decide) (by decide)), List.forall_mem_cons.mpr ⟨rfl, List.forall_mem_cons.mpr ⟨trivial, List.forall_mem_cons.mpr ⟨trivial, fun _ h => absurd h List.not_mem_nil⟩⟩⟩⟩⟩⟩⟩⟩⟩⟩⟩⟩⟩
set_option maxRecDepth 100000 in
theorem pg_lk92_0 : ∀ q ∈ (pg_c92.drop 0).take 40, mj_lk pg pg_cl pg_ty pg_Ts pg_Nw pg_ak pg_yn pg_cc pg_rt 92 q.1 q.2 := List.forall_mem_cons.mpr ⟨trivial, List.forall_mem_cons.mpr ⟨(lk_get pg_okc5 (by decide) tw_32), List.forall_mem_cons.mpr ⟨trivial, List.forall_mem_cons.mpr ⟨rfl, List.forall_mem_cons.mpr ⟨trivial, List.forall_mem_cons.mpr ⟨trivial, List.forall_mem_cons.mpr ⟨trivial, List.forall_mem_cons.mpr ⟨(lk_get pg_okc5 (by decide) tw_30), List.forall_mem_cons.mpr ⟨trivial, List.forall_mem_cons.mpr ⟨(lk_get pg_okc5 (by decide) tw_32), List.forall_mem_cons.mpr ⟨(lk_new pg_okc1 tw_26 tw_165 tw_9 rfl pg_dfl1), List.forall_mem_cons.mpr ⟨trivial, List.forall_mem_cons.mpr ⟨trivial, List.forall_mem_cons.mpr ⟨(lk_get pg_okc5 (by decide) tw_32), List.forall_mem_cons.mpr ⟨trivial, List.forall_mem_cons.mpr ⟨trivial, List.forall_mem_cons.mpr ⟨trivial, List.forall_mem_cons.mpr ⟨trivial, List.forall_mem_cons.mpr ⟨(lk_i (by decide) ⟨pg_m53, by decide, tw_9, ⟨by decide, by decide⟩, Or.inl tw_166⟩ (by decide) tw_167 rfl rfl (by decide +kernel) (by decide)), List.forall_mem_cons.mpr ⟨(lk_as rfl (by decide) (by decide)), List.forall_mem_cons.mpr ⟨trivial, List.forall_mem_cons.mpr ⟨trivial, List.forall_mem_cons.mpr ⟨(lk_get pg_okc5 (by decide) tw_32), List.forall_mem_cons.mpr ⟨trivial, List.forall_mem_cons.mpr ⟨trivial, List.forall_mem_cons.mpr ⟨trivial, List.forall_mem_cons.mpr ⟨(lk_put pg_okc5 (by decide) (Or.inl ⟨rfl, rfl⟩) rfl tw_32), List.forall_mem_cons.mpr ⟨trivial, fun _ h => absurd h List.not_mem_nil⟩⟩⟩⟩⟩⟩⟩⟩⟩⟩⟩⟩⟩⟩⟩⟩⟩⟩⟩⟩⟩⟩⟩⟩⟩⟩⟩⟩
set_option maxRecDepth 100000 in
theorem pg_lk93_0 : ∀ q ∈ (pg_c93.drop 0).take 40, mj_lk pg pg_cl pg_ty pg_Ts pg_Nw pg_ak pg_yn pg_cc pg_rt 93 q.1 q.2 := List.forall_mem_cons.mpr ⟨trivial, List.forall_mem_cons.mpr ⟨(lk_get pg_okc5 (by decide) tw_36), List.forall_mem_cons.mpr ⟨trivial, List.forall_mem_cons.mpr ⟨rfl, List.forall_mem_cons.mpr ⟨trivial, List.forall_mem_cons.mpr ⟨trivial, List.forall_mem_cons.mpr ⟨trivial, List.forall_mem_cons.mpr ⟨(lk_get pg_okc5 (by decide) tw_34), List.forall_mem_cons.mpr ⟨trivial, List.forall_mem_cons.mpr ⟨(lk_get pg_okc5 (by decide) tw_36), List.forall_mem_cons.mpr ⟨(lk_new pg_okc6 tw_28 tw_274 tw_10 rfl pg_dfl6), List.forall_mem_cons.mpr ⟨trivial, List.forall_mem_cons.mpr ⟨trivial, List.forall_mem_cons.mpr ⟨(lk_get pg_okc5 (by decide) tw_36), List.forall_mem_cons.mpr ⟨trivial, List.forall_mem_cons.mpr ⟨(lk_i (by decide) ⟨pg_m97, by decide, tw_10, ⟨by decide, by decide⟩, Or.inl tw_275⟩ (by decide) tw_276 rfl rfl (by decide +kernel) (by decide)), List.forall_mem_cons.mpr ⟨(lk_as rfl (by decide) (by decide)), List.forall_mem_cons.mpr ⟨trivial, List.forall_mem_cons.mpr ⟨trivial, List.forall_mem_cons.mpr ⟨(lk_get pg_okc5 (by decide) tw_36), List.forall_mem_cons.mpr ⟨trivial, List.forall_mem_cons.mpr ⟨trivial, List.forall_mem_cons.mpr ⟨trivial, List.forall_mem_cons.mpr ⟨(lk_put pg_okc5 (by decide) (Or.inl ⟨rfl, rfl⟩) rfl tw_36), List.forall_mem_cons.mpr ⟨trivial, fun _ h => absurd h List.not_mem_nil⟩⟩⟩⟩⟩⟩⟩⟩⟩⟩⟩⟩⟩⟩⟩⟩⟩⟩⟩⟩⟩⟩⟩⟩⟩
set_option maxRecDepth 100000 in
theorem pg_lk94_0 : ∀ q ∈ (pg_c94.drop 0).take 40, mj_lk pg pg_cl pg_ty pg_Ts pg_Nw pg_ak pg_yn pg_cc pg_rt 94 q.1 q.2 := List.forall_mem_cons.mpr ⟨trivial, List.forall_mem_cons.mpr ⟨(lk_get pg_okc1 (by decide) tw_194), List.forall_mem_cons.mpr ⟨trivial, List.forall_mem_cons.mpr ⟨(lk_v ⟨pg_m71, by decide, tw_4, ⟨by decide, by decide⟩, Or.inl tw_256⟩ (by decide) tw_257 tw_258 (by decide +kernel) (by decide) rfl), List.forall_mem_cons.mpr ⟨trivial, List.forall_mem_cons.mpr ⟨trivial, List.forall_mem_cons.mpr ⟨trivial, List.forall_mem_cons.mpr ⟨trivial, List.forall_mem_cons.mpr ⟨(lk_get pg_okc5 (by decide) tw_32), List.forall_mem_cons.mpr ⟨rfl, List.forall_mem_cons.mpr ⟨trivial, List.forall_mem_cons.mpr ⟨(lk_get pg_okc5 (by decide) tw_30), List.forall_mem_cons.mpr ⟨trivial, List.forall_mem_cons.mpr ⟨(lk_al rfl (by decide) (by decide)), List.forall_mem_cons.mpr ⟨trivial, List.forall_mem_cons.mpr ⟨rfl, List.forall_mem_cons.mpr ⟨trivial, List.forall_mem_cons.mpr ⟨(lk_get pg_okc5 (by decide) tw_30), List.forall_mem_cons.mpr ⟨trivial, List.forall_mem_cons.mpr ⟨(lk_al rfl (by decide) (by decide)), List.forall_mem_cons.mpr ⟨trivial, List.forall_mem_cons.mpr ⟨(lk_get pg_okc1 (by decide) tw_179), List.forall_mem_cons.mpr ⟨(lk_v ⟨pg_m54, by decide, tw_9, ⟨by decide, by decide⟩, Or.inl tw_261⟩ (by decide) tw_249 tw_250 (by decide +kernel) (by decide) rfl), List.forall_mem_cons.mpr ⟨rfl, List.forall_mem_cons.mpr ⟨trivial, List.forall_mem_cons.mpr ⟨(lk_get pg_okc5 (by decide) tw_30), List.forall_mem_cons.mpr ⟨trivial, List.forall_mem_cons.mpr ⟨(lk_al rfl (by decide) (by decide)), List.forall_mem_cons.mpr ⟨trivial, List.forall_mem_cons.mpr ⟨(lk_v ⟨pg_m55, by decide, tw_9, ⟨by decide, by decide⟩, Or.inl tw_262⟩ (by decide) tw_263 tw_264 (by decide +kernel) (by decide) rfl), List.forall_mem_cons.mpr ⟨trivial, List.forall_mem_cons.mpr ⟨rfl, List.forall_mem_cons.mpr ⟨trivial, fun _ h => absurd h List.not_mem_nil⟩⟩⟩⟩⟩⟩⟩⟩⟩⟩⟩⟩⟩⟩⟩⟩⟩⟩⟩⟩⟩⟩⟩⟩⟩⟩⟩⟩⟩⟩⟩⟩⟩
set_option maxRecDepth 100000 in
theorem pg_lk95_0 : ∀ q ∈ (pg_c95.drop 0).take 40, mj_lk pg pg_cl pg_ty pg_Ts pg_Nw pg_ak pg_yn pg_cc pg_rt 95 q.1 q.2 := List.forall_mem_cons.mpr ⟨trivial, List.forall_mem_cons.mpr ⟨trivial, List.forall_mem_cons.mpr ⟨trivial, List.forall_mem_cons.mpr ⟨trivial, List.forall_mem_cons.mpr ⟨(lk_get pg_okc5 (by decide) tw_32), List.forall_mem_cons.mpr ⟨rfl, List.forall_mem_cons.mpr ⟨trivial, List.forall_mem_cons.mpr ⟨(lk_get pg_okc5 (by decide) tw_30), List.forall_mem_cons.mpr ⟨trivial, List.forall_mem_cons.mpr ⟨(lk_al rfl (by decide) (by decide)), List.forall_mem_cons.mpr ⟨trivial, List.forall_mem_cons.mpr ⟨(lk_v ⟨pg_m62, by decide, tw_9, ⟨by decide, by decide⟩, Or.inl tw_445⟩ (by decide) tw_446 tw_447 (by decide +kernel) (by decide) rfl), List.forall_mem_cons.mpr ⟨trivial, List.forall_mem_cons.mpr ⟨rfl, List.forall_mem_cons.mpr ⟨trivial, fun _ h => absurd h List.not_mem_nil⟩⟩⟩⟩⟩⟩⟩⟩⟩⟩⟩⟩⟩⟩⟩
set_option maxRecDepth 100000 in
theorem pg_lk96_0 : ∀ q ∈ (pg_c96.drop 0).take 40, mj_lk pg pg_cl pg_ty pg_Ts pg_Nw pg_ak pg_yn pg_cc pg_rt 96 q.1 q.2 := List.forall_mem_cons.mpr ⟨trivial, List.forall_mem_cons.mpr ⟨trivial, List.forall_mem_cons.mpr ⟨trivial, List.forall_mem_cons.mpr ⟨trivial, List.forall_mem_cons.mpr ⟨trivial, List.forall_mem_cons.mpr ⟨trivial, List.forall_mem_cons.mpr ⟨(lk_get pg_okc5 (by decide) tw_36), List.forall_mem_cons.mpr ⟨rfl, List.forall_mem_cons.mpr ⟨trivial, List.forall_mem_cons.mpr ⟨trivial, List.forall_mem_cons.mpr ⟨(lk_get pg_okc5 (by decide) tw_34), List.forall_mem_cons.mpr ⟨trivial, List.forall_mem_cons.mpr ⟨(lk_al rfl (by decide) (by decide)), List.forall_mem_cons.mpr ⟨(lk_v ⟨pg_m100, by decide, tw_10, ⟨by decide, by decide⟩, Or.inl tw_342⟩ (by decide) tw_343 tw_344 (by decide +kernel) (by decide) rfl), List.forall_mem_cons.mpr ⟨trivial, List.forall_mem_cons.mpr ⟨trivial, List.forall_mem_cons.mpr ⟨trivial, List.forall_mem_cons.mpr ⟨rfl, List.forall_mem_cons.mpr ⟨trivial, List.forall_mem_cons.mpr ⟨trivial, fun _ h => absurd h List.not_mem_nil⟩⟩⟩⟩⟩⟩⟩⟩⟩⟩⟩⟩⟩⟩⟩⟩⟩⟩⟩⟩
set_option maxRecDepth 100000 in
theorem pg_lk97_0 : ∀ q ∈ (pg_c97.drop 0).take 40, mj_lk pg pg_cl pg_ty pg_Ts pg_Nw pg_ak pg_yn pg_cc pg_rt 97 q.1 q.2 := List.forall_mem_cons.mpr ⟨trivial, List.forall_mem_cons.mpr ⟨(lk_o tw_278 tw_18 tw_19), List.forall_mem_cons.mpr ⟨trivial, List.forall_mem_cons.mpr ⟨trivial, List.forall_mem_cons.mpr ⟨(lk_putF pg_okc6 (by decide) (Or.inl ⟨rfl, rfl⟩) rfl rfl rfl tw_281), List.forall_mem_cons.mpr ⟨trivial, List.forall_mem_cons.mpr ⟨trivial, List.forall_mem_cons.mpr ⟨(lk_putF pg_okc6 (by decide) (Or.inl ⟨rfl, rfl⟩) rfl rfl rfl tw_283), List.forall_mem_cons.mpr ⟨trivial, List.forall_mem_cons.mpr ⟨(lk_new pg_okc3 tw_279 tw_54 tw_4 rfl pg_dfl3), List.forall_mem_cons.mpr ⟨trivial, List.forall_mem_cons.mpr ⟨trivial, List.forall_mem_cons.mpr ⟨(lk_i (by decide) ⟨pg_m68, by decide, tw_4, ⟨by decide, by decide⟩, Or.inl tw_280⟩ (by decide) tw_56 rfl rfl (by decide +kernel) (by decide)), List.forall_mem_cons.mpr ⟨(lk_putF pg_okc6 (by decide) (Or.inr (Or.inr ⟨rfl, Or.inl ⟨_, rfl⟩⟩)) rfl rfl rfl tw_286), List.forall_mem_cons.mpr ⟨trivial, List.forall_mem_cons.mpr ⟨(lk_new pg_okc3 tw_279 tw_54 tw_4 rfl pg_dfl3), List.forall_mem_cons.mpr ⟨trivial, List.forall_mem_cons.mpr ⟨trivial, List.forall_mem_cons.mpr ⟨(lk_i (by decide) ⟨pg_m68, by decide, tw_4, ⟨by decide, by decide⟩, Or.inl tw_280⟩ (by decide) tw_56 rfl rfl (by decide +kernel) (by decide)), List.forall_mem_cons.mpr ⟨(lk_putF pg_okc6 (by decide) (Or.inr (Or.inr ⟨rfl, Or.inl ⟨_, rfl⟩⟩)) rfl rfl rfl tw_288), List.forall_mem_cons.mpr ⟨trivial, fun _ h => absurd h List.not_mem_nil⟩⟩⟩⟩⟩⟩⟩⟩⟩⟩⟩⟩⟩⟩⟩⟩⟩⟩⟩⟩⟩
set_option maxRecDepth 100000 in
theorem pg_lk98_0 : ∀ q ∈ (pg_c98.drop 0).take 40, mj_lk pg pg_cl pg_ty pg_Ts pg_Nw pg_ak pg_yn pg_cc pg_rt 98 q.1 q.2 := List.forall_mem_cons.mpr ⟨trivial, List.forall_mem_cons.mpr ⟨(lk_get pg_okc6 (by decide) tw_288), List.forall_mem_cons.mpr ⟨(lk_v ⟨pg_m74, by decide, tw_4, ⟨by decide, by decide⟩, Or.inl tw_350⟩ (by decide) tw_351 tw_352 (by decide +kernel) (by decide) rfl), List.forall_mem_cons.mpr ⟨trivial, List.forall_mem_cons.mpr ⟨trivial, List.forall_mem_cons.mpr ⟨trivial, List.forall_mem_cons.mpr ⟨trivial, List.forall_mem_cons.mpr ⟨(lk_get pg_okc6 (by decide) tw_286), List.forall_mem_cons.mpr ⟨(lk_get pg_okc3 (by decide) tw_67), List.forall_mem_cons.mpr ⟨rfl, List.forall_mem_cons.mpr ⟨trivial, List.forall_mem_cons.mpr ⟨(lk_get pg_okc6 (by decide) tw_288), List.forall_mem_cons.mpr ⟨trivial, List.forall_mem_cons.mpr ⟨(lk_get pg_okc6 (by decide) tw_286), List.forall_mem_cons.mpr ⟨(lk_get pg_okc3 (by decide) tw_64), List.forall_mem_cons.mpr ⟨trivial, List.forall_mem_cons.mpr ⟨(lk_al rfl (by decide) (by decide)), List.forall_mem_cons.mpr ⟨trivial, List.forall_mem_cons.mpr ⟨(lk_s (by decide) (by decide) ⟨pg_m99, by decide, tw_10, ⟨by decide, by decide⟩, Or.inl tw_354⟩ tw_355 (by decide +kernel)), List.forall_mem_cons.mpr ⟨trivial, List.forall_mem_cons.mpr ⟨rfl, List.forall_mem_cons.mpr ⟨trivial, fun _ h => absurd h List.not_mem_nil⟩⟩⟩⟩⟩⟩⟩⟩⟩⟩⟩⟩⟩⟩⟩⟩⟩⟩⟩⟩⟩⟩
set_option maxRecDepth 100000 in
theorem pg_lk99_0 : ∀ q ∈ (pg_c99.drop 0).take 40, mj_lk pg pg_cl pg_ty pg_Ts pg_Nw pg_ak pg_yn pg_cc pg_rt 99 q.1 q.2 := List.forall_mem_cons.mpr ⟨trivial, List.forall_mem_cons.mpr ⟨trivial, List.forall_mem_cons.mpr ⟨rfl, List.forall_mem_cons.mpr ⟨trivial, List.forall_mem_cons.mpr ⟨trivial, List.forall_mem_cons.mpr ⟨(lk_v ⟨pg_m69, by decide, tw_4, ⟨by decide, by decide⟩, Or.inl tw_357⟩ (by decide) tw_358 tw_359 (by decide +kernel) (by decide) rfl), List.forall_mem_cons.mpr ⟨rfl, List.forall_mem_cons.mpr ⟨trivial, List.forall_mem_cons.mpr ⟨trivial, List.forall_mem_cons.mpr ⟨(lk_get pg_okc1 (by decide) tw_192), List.forall_mem_cons.mpr ⟨trivial, List.forall_mem_cons.mpr ⟨trivial, List.forall_mem_cons.mpr ⟨trivial, List.forall_mem_cons.mpr ⟨trivial, List.forall_mem_cons.mpr ⟨trivial, List.forall_mem_cons.mpr ⟨(lk_get pg_okc3 (by decide) tw_67), List.forall_mem_cons.mpr ⟨rfl, List.forall_mem_cons.mpr ⟨trivial, List.forall_mem_cons.mpr ⟨trivial, List.forall_mem_cons.mpr ⟨(lk_get pg_okc3 (by decide) tw_64), List.forall_mem_cons.mpr ⟨trivial, List.forall_mem_cons.mpr ⟨(lk_al rfl (by decide) (by decide)), List.forall_mem_cons.mpr ⟨trivial, List.forall_mem_cons.mpr ⟨trivial, List.forall_mem_cons.mpr ⟨trivial, List.forall_mem_cons.mpr ⟨(lk_s (by decide) (by decide) ⟨pg_m99, by decide, tw_10, ⟨by decide, by decide⟩, Or.inl tw_354⟩ tw_355 (by decide +kernel)), List.forall_mem_cons.mpr ⟨trivial, List.forall_mem_cons.mpr ⟨rfl, List.forall_mem_cons.mpr ⟨trivial, List.forall_mem_cons.mpr ⟨trivial, List.forall_mem_cons.mpr ⟨(lk_v ⟨pg_m71, by decide, tw_4, ⟨by decide, by decide⟩, Or.inl tw_361⟩ (by decide) tw_257 tw_258 (by decide +kernel) (by decide) rfl), List.forall_mem_cons.mpr ⟨trivial, fun _ h => absurd h List.not_mem_nil⟩⟩⟩⟩⟩⟩⟩⟩⟩⟩⟩⟩⟩⟩⟩⟩⟩⟩⟩⟩⟩⟩⟩⟩⟩⟩⟩⟩⟩⟩⟩⟩
set_option maxRecDepth 100000 in
theorem pg_lk100_0 : ∀ q ∈ (pg_c100.drop 0).take 40, mj_lk pg pg_cl pg_ty pg_Ts pg_Nw pg_ak pg_yn pg_cc pg_rt 100 q.1 q.2 := List.forall_mem_cons.mpr ⟨trivial, List.forall_mem_cons.mpr ⟨(lk_v ⟨pg_m98, by decide, tw_10, ⟨by decide, by decide⟩, Or.inl tw_346⟩ (by decide) tw_347 tw_348 (by decide +kernel) (by decide) rfl), List.forall_mem_cons.mpr ⟨trivial, List.forall_mem_cons.mpr ⟨trivial, List.forall_mem_cons.mpr ⟨trivial, List.forall_mem_cons.mpr ⟨trivial, List.forall_mem_cons.mpr ⟨trivial, List.forall_mem_cons.mpr ⟨trivial, List.forall_mem_cons.mpr ⟨(lk_get pg_okc6 (by decide) tw_288), List.forall_mem_cons.mpr ⟨(lk_get pg_okc3 (by decide) tw_67), List.forall_mem_cons.mpr ⟨rfl, List.forall_mem_cons.mpr ⟨trivial, List.forall_mem_cons.mpr ⟨trivial, List.forall_mem_cons.mpr ⟨trivial, List.forall_mem_cons.mpr ⟨(lk_get pg_okc6 (by decide) tw_288), List.forall_mem_cons.mpr ⟨(lk_get pg_okc3 (by decide) tw_64), List.forall_mem_cons.mpr ⟨trivial, List.forall_mem_cons.mpr ⟨(lk_al rfl (by decide) (by decide)), List.forall_mem_cons.mpr ⟨(lk_get pg_okc1 (by decide) tw_186), List.forall_mem_cons.mpr ⟨trivial, List.forall_mem_cons.mpr ⟨(lk_mn tw_362 tw_61 tw_5 tw_62), List.forall_mem_cons.mpr ⟨trivial, List.forall_mem_cons.mpr ⟨trivial, List.forall_mem_cons.mpr ⟨rfl, List.forall_mem_cons.mpr ⟨trivial, List.forall_mem_cons.mpr ⟨trivial, fun _ h => absurd h List.not_mem_nil⟩⟩⟩⟩⟩⟩⟩⟩⟩⟩⟩⟩⟩⟩⟩⟩⟩⟩⟩⟩⟩⟩⟩⟩⟩⟩
set_option maxRecDepth 100000 in
theorem pg_lk101_0 : ∀ q ∈ (pg_c101.drop 0).take 40, mj_lk pg pg_cl pg_ty pg_Ts pg_Nw pg_ak pg_yn pg_cc pg_rt 101 q.1 q.2 := List.forall_mem_cons.mpr ⟨trivial, List.forall_mem_cons.mpr ⟨(lk_get pg_okc6 (by decide) tw_292), List.forall_mem_cons.mpr ⟨trivial, List.forall_mem_cons.mpr ⟨(lk_get pg_okc6 (by decide) tw_294), List.forall_mem_cons.mpr ⟨rfl, List.forall_mem_cons.mpr ⟨trivial, List.forall_mem_cons.mpr ⟨trivial, List.forall_mem_cons.mpr ⟨trivial, List.forall_mem_cons.mpr ⟨trivial, List.forall_mem_cons.mpr ⟨(lk_get pg_okc6 (by decide) tw_296), List.forall_mem_cons.mpr ⟨rfl, List.forall_mem_cons.mpr ⟨trivial, List.forall_mem_cons.mpr ⟨rfl, List.forall_mem_cons.mpr ⟨trivial, List.forall_mem_cons.mpr ⟨trivial, fun _ h => absurd h List.not_mem_nil⟩⟩⟩⟩⟩⟩⟩⟩⟩⟩⟩⟩⟩⟩⟩
set_option maxRecDepth 100000 in
theorem pg_lk102_0 : ∀ q ∈ (pg_c102.drop 0).take 40, mj_lk pg pg_cl pg_ty pg_Ts pg_Nw pg_ak pg_yn pg_cc pg_rt 102 q.1 q.2 := List.forall_mem_cons.mpr ⟨trivial, List.forall_mem_cons.mpr ⟨trivial, List.forall_mem_cons.mpr ⟨trivial, List.forall_mem_cons.mpr ⟨trivial, List.forall_mem_cons.mpr ⟨trivial, List.forall_mem_cons.mpr ⟨trivial, List.forall_mem_cons.mpr ⟨trivial, List.forall_mem_cons.mpr ⟨rfl, List.forall_mem_cons.mpr ⟨trivial, List.forall_mem_cons.mpr ⟨trivial, List.forall_mem_cons.mpr ⟨trivial, List.forall_mem_cons.mpr ⟨trivial, List.forall_mem_cons.mpr ⟨trivial, List.forall_mem_cons.mpr ⟨rfl, List.forall_mem_cons.mpr ⟨trivial, fun _ h => absurd h List.not_mem_nil⟩⟩⟩⟩⟩⟩⟩⟩⟩⟩⟩⟩⟩⟩⟩
end
section
theorem pg_chop {α : Type} {p : α → Prop} (n : Nat) : ∀ (l : List α), (∀ q ∈ l.take n, p q) → (∀ q ∈ l.drop n, p q) → ∀ q ∈ l, p q := fun l h1 h2 q hq => by
  rw [← List.take_append_drop n l] at hq
  rcases List.mem_append.mp hq with h | h
  · exact h1 q h
  · exact h2 q h
set_option maxRecDepth 100000 in
theorem pg_dec0 : ∀ q ∈ pg_c0, decode (pg_cc 0) q.1 = .ok (q.2.1, mj_len q.2) := by decide +kernel
set_option maxRecDepth 100000 in
theorem pg_dec1 : ∀ q ∈ pg_c1, decode (pg_cc 1) q.1 = .ok (q.2.1, mj_len q.2) := by decide +kernel
set_option maxRecDepth 100000 in
theorem pg_dec2 : ∀ q ∈ pg_c2, decode (pg_cc 2) q.1 = .ok (q.2.1, mj_len q.2) := by decide +kernel
set_option maxRecDepth 100000 in
theorem pg_dec3 : ∀ q ∈ pg_c3, decode (pg_cc 3) q.1 = .ok (q.2.1, mj_len q.2) := by decide +kernel
set_option maxRecDepth 100000 in
theorem pg_dec4 : ∀ q ∈ pg_c4, decode (pg_cc 4) q.1 = .ok (q.2.1, mj_len q.2) := by decide +kernel
set_option maxRecDepth 100000 in
theorem pg_dec5 : ∀ q ∈ pg_c5, decode (pg_cc 5) q.1 = .ok (q.2.1, mj_len q.2) := by decide +kernel
set_option maxRecDepth 100000 in
theorem pg_dec6 : ∀ q ∈ pg_c6, decode (pg_cc 6) q.1 = .ok (q.2.1, mj_len q.2) := by decide +kernel
set_option maxRecDepth 100000 in
theorem pg_dec7 : ∀ q ∈ pg_c7, decode (pg_cc 7) q.1 = .ok (q.2.1, mj_len q.2) := by decide +kernel
set_option maxRecDepth 100000 in
theorem pg_dec8 : ∀ q ∈ pg_c8, decode (pg_cc 8) q.1 = .ok (q.2.1, mj_len q.2) := by decide +kernel
set_option maxRecDepth 100000 in
theorem pg_dec9 : ∀ q ∈ pg_c9, decode (pg_cc 9) q.1 = .ok (q.2.1, mj_len q.2) := by decide +kernel
set_option maxRecDepth 100000 in
theorem pg_dec10 : ∀ q ∈ pg_c10, decode (pg_cc 10) q.1 = .ok (q.2.1, mj_len q.2) := by decide +kernel
set_option maxRecDepth 100000 in
theorem pg_dec11 : ∀ q ∈ pg_c11, decode (pg_cc 11) q.1 = .ok (q.2.1, mj_len q.2) := by decide +kernel
set_option maxRecDepth 100000 in
theorem pg_dec12 : ∀ q ∈ pg_c12, decode (pg_cc 12) q.1 = .ok (q.2.1, mj_len q.2) := by decide +kernel
set_option maxRecDepth 100000 in
theorem pg_dec13 : ∀ q ∈ pg_c13, decode (pg_cc 13) q.1 = .ok (q.2.1, mj_len q.2) := by decide +kernel
set_option maxRecDepth 100000 in
theorem pg_dec14 : ∀ q ∈ pg_c14, decode (pg_cc 14) q.1 = .ok (q.2.1, mj_len q.2) := by decide +kernel
set_option maxRecDepth 100000 in
theorem pg_dec15 : ∀ q ∈ pg_c15, decode (pg_cc 15) q.1 = .ok (q.2.1, mj_len q.2) := by decide +kernel
set_option maxRecDepth 100000 in
theorem pg_dec16 : ∀ q ∈ pg_c16, decode (pg_cc 16) q.1 = .ok (q.2.1, mj_len q.2) := by decide +kernel
set_option maxRecDepth 100000 in
theorem pg_dec17 : ∀ q ∈ pg_c17, decode (pg_cc 17) q.1 = .ok (q.2.1, mj_len q.2) := by decide +kernel
set_option maxRecDepth 100000 in
theorem pg_dec18 : ∀ q ∈ pg_c18, decode (pg_cc 18) q.1 = .ok (q.2.1, mj_len q.2) := by decide +kernel
set_option maxRecDepth 100000 in
theorem pg_dec19 : ∀ q ∈ pg_c19, decode (pg_cc 19) q.1 = .ok (q.2.1, mj_len q.2) := by decide +kernel
set_option maxRecDepth 100000 in
theorem pg_dec20 : ∀ q ∈ pg_c20, decode (pg_cc 20) q.1 = .ok (q.2.1, mj_len q.2) := by decide +kernel
set_option maxRecDepth 100000 in
theorem pg_dec21 : ∀ q ∈ pg_c21, decode (pg_cc 21) q.1 = .ok (q.2.1, mj_len q.2) := by decide +kernel
set_option maxRecDepth 100000 in
theorem pg_dec22 : ∀ q ∈ pg_c22, decode (pg_cc 22) q.1 = .ok (q.2.1, mj_len q.2) := by decide +kernel
set_option maxRecDepth 100000 in
theorem pg_dec23 : ∀ q ∈ pg_c23, decode (pg_cc 23) q.1 = .ok (q.2.1, mj_len q.2) := by decide +kernel
set_option maxRecDepth 100000 in
theorem pg_dec24 : ∀ q ∈ pg_c24, decode (pg_cc 24) q.1 = .ok (q.2.1, mj_len q.2) := by decide +kernel
set_option maxRecDepth 100000 in
theorem pg_dec25 : ∀ q ∈ pg_c25, decode (pg_cc 25) q.1 = .ok (q.2.1, mj_len q.2) := by decide +kernel
set_option maxRecDepth 100000 in
theorem pg_dec26 : ∀ q ∈ pg_c26, decode (pg_cc 26) q.1 = .ok (q.2.1, mj_len q.2) := by decide +kernel
set_option maxRecDepth 100000 in
theorem pg_dec27 : ∀ q ∈ pg_c27, decode (pg_cc 27) q.1 = .ok (q.2.1, mj_len q.2) := by decide +kernel
set_option maxRecDepth 100000 in
theorem pg_dec28 : ∀ q ∈ pg_c28, decode (pg_cc 28) q.1 = .ok (q.2.1, mj_len q.2) := by decide +kernel
set_option maxRecDepth 100000 in
theorem pg_dec29 : ∀ q ∈ pg_c29, decode (pg_cc 29) q.1 = .ok (q.2.1, mj_len q.2) := by decide +kernel
set_option maxRecDepth 100000 in
theorem pg_dec30 : ∀ q ∈ pg_c30, decode (pg_cc 30) q.1 = .ok (q.2.1, mj_len q.2) := by decide +kernel
set_option maxRecDepth 100000 in
theorem pg_dec31 : ∀ q ∈ pg_c31, decode (pg_cc 31) q.1 = .ok (q.2.1, mj_len q.2) := by decide +kernel
set_option maxRecDepth 100000 in
theorem pg_dec32 : ∀ q ∈ pg_c32, decode (pg_cc 32) q.1 = .ok (q.2.1, mj_len q.2) := by decide +kernel
set_option maxRecDepth 100000 in
theorem pg_dec33 : ∀ q ∈ pg_c33, decode (pg_cc 33) q.1 = .ok (q.2.1, mj_len q.2) := by decide +kernel
set_option maxRecDepth 100000 in
theorem pg_dec34 : ∀ q ∈ pg_c34, decode (pg_cc 34) q.1 = .ok (q.2.1, mj_len q.2) := by decide +kernel
set_option maxRecDepth 100000 in
theorem pg_dec35 : ∀ q ∈ pg_c35, decode (pg_cc 35) q.1 = .ok (q.2.1, mj_len q.2) := by decide +kernel
set_option maxRecDepth 100000 in
theorem pg_dec36 : ∀ q ∈ pg_c36, decode (pg_cc 36) q.1 = .ok (q.2.1, mj_len q.2) := by decide +kernel
set_option maxRecDepth 100000 in
theorem pg_dec37 : ∀ q ∈ pg_c37, decode (pg_cc 37) q.1 = .ok (q.2.1, mj_len q.2) := by decide +kernel
set_option maxRecDepth 100000 in
theorem pg_dec38 : ∀ q ∈ pg_c38, decode (pg_cc 38) q.1 = .ok (q.2.1, mj_len q.2) := by decide +kernel
set_option maxRecDepth 100000 in
theorem pg_dec39 : ∀ q ∈ pg_c39, decode (pg_cc 39) q.1 = .ok (q.2.1, mj_len q.2) := by decide +kernel
set_option maxRecDepth 100000 in
theorem pg_dec40 : ∀ q ∈ pg_c40, decode (pg_cc 40) q.1 = .ok (q.2.1, mj_len q.2) := by decide +kernel
set_option maxRecDepth 100000 in
theorem pg_dec41 : ∀ q ∈ pg_c41, decode (pg_cc 41) q.1 = .ok (q.2.1, mj_len q.2) := by decide +kernel
set_option maxRecDepth 100000 in
theorem pg_dec42 : ∀ q ∈ pg_c42, decode (pg_cc 42) q.1 = .ok (q.2.1, mj_len q.2) := by decide +kernel
set_option maxRecDepth 100000 in
theorem pg_dec43 : ∀ q ∈ pg_c43, decode (pg_cc 43) q.1 = .ok (q.2.1, mj_len q.2) := by decide +kernel
set_option maxRecDepth 100000 in
theorem pg_dec44 : ∀ q ∈ pg_c44, decode (pg_cc 44) q.1 = .ok (q.2.1, mj_len q.2) := by decide +kernel
set_option maxRecDepth 100000 in
theorem pg_dec45 : ∀ q ∈ pg_c45, decode (pg_cc 45) q.1 = .ok (q.2.1, mj_len q.2) := by decide +kernel
set_option maxRecDepth 100000 in
theorem pg_dec46 : ∀ q ∈ pg_c46, decode (pg_cc 46) q.1 = .ok (q.2.1, mj_len q.2) := by decide +kernel
set_option maxRecDepth 100000 in
theorem pg_dec47 : ∀ q ∈ pg_c47, decode (pg_cc 47) q.1 = .ok (q.2.1, mj_len q.2) := by decide +kernel
set_option maxRecDepth 100000 in
theorem pg_dec48 : ∀ q ∈ pg_c48, decode (pg_cc 48) q.1 = .ok (q.2.1, mj_len q.2) := by decide +kernel
set_option maxRecDepth 100000 in
theorem pg_dec49 : ∀ q ∈ pg_c49, decode (pg_cc 49) q.1 = .ok (q.2.1, mj_len q.2) := by decide +kernel
set_option maxRecDepth 100000 in
theorem pg_dec50 : ∀ q ∈ pg_c50, decode (pg_cc 50) q.1 = .ok (q.2.1, mj_len q.2) := by decide +kernel
set_option maxRecDepth 100000 in
theorem pg_dec51 : ∀ q ∈ pg_c51, decode (pg_cc 51) q.1 = .ok (q.2.1, mj_len q.2) := by decide +kernel
set_option maxRecDepth 100000 in
theorem pg_dec52 : ∀ q ∈ pg_c52, decode (pg_cc 52) q.1 = .ok (q.2.1, mj_len q.2) := by decide +kernel
set_option maxRecDepth 100000 in
theorem pg_dec53 : ∀ q ∈ pg_c53, decode (pg_cc 53) q.1 = .ok (q.2.1, mj_len q.2) := by decide +kernel
set_option maxRecDepth 100000 in
theorem pg_dec54 : ∀ q ∈ pg_c54, decode (pg_cc 54) q.1 = .ok (q.2.1, mj_len q.2) := by decide +kernel
set_option maxRecDepth 100000 in
theorem pg_dec55 : ∀ q ∈ pg_c55, decode (pg_cc 55) q.1 = .ok (q.2.1, mj_len q.2) := by decide +kernel
set_option maxRecDepth 100000 in
theorem pg_dec56 : ∀ q ∈ pg_c56, decode (pg_cc 56) q.1 = .ok (q.2.1, mj_len q.2) := by decide +kernel
set_option maxRecDepth 100000 in
theorem pg_dec57 : ∀ q ∈ pg_c57, decode (pg_cc 57) q.1 = .ok (q.2.1, mj_len q.2) := by decide +kernel
set_option maxRecDepth 100000 in
theorem pg_dec58 : ∀ q ∈ pg_c58, decode (pg_cc 58) q.1 = .ok (q.2.1, mj_len q.2) := by decide +kernel
set_option maxRecDepth 100000 in
theorem pg_dec59 : ∀ q ∈ pg_c59, decode (pg_cc 59) q.1 = .ok (q.2.1, mj_len q.2) := by decide +kernel
set_option maxRecDepth 100000 in
theorem pg_dec60 : ∀ q ∈ pg_c60, decode (pg_cc 60) q.1 = .ok (q.2.1, mj_len q.2) := by decide +kernel
set_option maxRecDepth 100000 in
theorem pg_dec61 : ∀ q ∈ pg_c61, decode (pg_cc 61) q.1 = .ok (q.2.1, mj_len q.2) := by decide +kernel
set_option maxRecDepth 100000 in
theorem pg_dec62 : ∀ q ∈ pg_c62, decode (pg_cc 62) q.1 = .ok (q.2.1, mj_len q.2) := by decide +kernel
set_option maxRecDepth 100000 in
theorem pg_dec63 : ∀ q ∈ pg_c63, decode (pg_cc 63) q.1 = .ok (q.2.1, mj_len q.2) := by decide +kernel
set_option maxRecDepth 100000 in
theorem pg_dec64 : ∀ q ∈ pg_c64, decode (pg_cc 64) q.1 = .ok (q.2.1, mj_len q.2) := by decide +kernel
set_option maxRecDepth 100000 in
theorem pg_dec65 : ∀ q ∈ pg_c65, decode (pg_cc 65) q.1 = .ok (q.2.1, mj_len q.2) := by decide +kernel
set_option maxRecDepth 100000 in
theorem pg_dec66 : ∀ q ∈ pg_c66, decode (pg_cc 66) q.1 = .ok (q.2.1, mj_len q.2) := by decide +kernel
set_option maxRecDepth 100000 in
theorem pg_dec67 : ∀ q ∈ pg_c67, decode (pg_cc 67) q.1 = .ok (q.2.1, mj_len q.2) := by decide +kernel
set_option maxRecDepth 100000 in
theorem pg_dec68 : ∀ q ∈ pg_c68, decode (pg_cc 68) q.1 = .ok (q.2.1, mj_len q.2) := by decide +kernel
set_option maxRecDepth 100000 in
theorem pg_dec69 : ∀ q ∈ pg_c69, decode (pg_cc 69) q.1 = .ok (q.2.1, mj_len q.2) := by decide +kernel
set_option maxRecDepth 100000 in
theorem pg_dec70 : ∀ q ∈ pg_c70, decode (pg_cc 70) q.1 = .ok (q.2.1, mj_len q.2) := by decide +kernel
set_option maxRecDepth 100000 in
theorem pg_dec71 : ∀ q ∈ pg_c71, decode (pg_cc 71) q.1 = .ok (q.2.1, mj_len q.2) := by decide +kernel
set_option maxRecDepth 100000 in
theorem pg_dec72 : ∀ q ∈ pg_c72, decode (pg_cc 72) q.1 = .ok (q.2.1, mj_len q.2) := by decide +kernel
set_option maxRecDepth 100000 in
theorem pg_dec73 : ∀ q ∈ pg_c73, decode (pg_cc 73) q.1 = .ok (q.2.1, mj_len q.2) := by decide +kernel
set_option maxRecDepth 100000 in
theorem pg_dec74 : ∀ q ∈ pg_c74, decode (pg_cc 74) q.1 = .ok (q.2.1, mj_len q.2) := by decide +kernel
set_option maxRecDepth 100000 in
theorem pg_dec75 : ∀ q ∈ pg_c75, decode (pg_cc 75) q.1 = .ok (q.2.1, mj_len q.2) := by decide +kernel
set_option maxRecDepth 100000 in
theorem pg_dec76 : ∀ q ∈ pg_c76, decode (pg_cc 76) q.1 = .ok (q.2.1, mj_len q.2) := by decide +kernel
set_option maxRecDepth 100000 in
theorem pg_dec77 : ∀ q ∈ pg_c77, decode (pg_cc 77) q.1 = .ok (q.2.1, mj_len q.2) := by decide +kernel
set_option maxRecDepth 100000 in
theorem pg_dec78 : ∀ q ∈ pg_c78, decode (pg_cc 78) q.1 = .ok (q.2.1, mj_len q.2) := by decide +kernel
set_option maxRecDepth 100000 in
theorem pg_dec79 : ∀ q ∈ pg_c79, decode (pg_cc 79) q.1 = .ok (q.2.1, mj_len q.2) := by decide +kernel
set_option maxRecDepth 100000 in
theorem pg_dec80 : ∀ q ∈ pg_c80, decode (pg_cc 80) q.1 = .ok (q.2.1, mj_len q.2) := by decide +kernel
set_option maxRecDepth 100000 in
theorem pg_dec81 : ∀ q ∈ pg_c81, decode (pg_cc 81) q.1 = .ok (q.2.1, mj_len q.2) := by decide +kernel
set_option maxRecDepth 100000 in
theorem pg_dec82 : ∀ q ∈ pg_c82, decode (pg_cc 82) q.1 = .ok (q.2.1, mj_len q.2) := by decide +kernel
set_option maxRecDepth 100000 in
theorem pg_dec83 : ∀ q ∈ pg_c83, decode (pg_cc 83) q.1 = .ok (q.2.1, mj_len q.2) := by decide +kernel
set_option maxRecDepth 100000 in
theorem pg_dec84 : ∀ q ∈ pg_c84, decode (pg_cc 84) q.1 = .ok (q.2.1, mj_len q.2) := by decide +kernel
set_option maxRecDepth 100000 in
theorem pg_dec85 : ∀ q ∈ pg_c85, decode (pg_cc 85) q.1 = .ok (q.2.1, mj_len q.2) := by decide +kernel
set_option maxRecDepth 100000 in
theorem pg_dec86 : ∀ q ∈ pg_c86, decode (pg_cc 86) q.1 = .ok (q.2.1, mj_len q.2) := by decide +kernel
set_option maxRecDepth 100000 in
theorem pg_dec87 : ∀ q ∈ pg_c87, decode (pg_cc 87) q.1 = .ok (q.2.1, mj_len q.2) := by decide +kernel
set_option maxRecDepth 100000 in
theorem pg_dec88 : ∀ q ∈ pg_c88, decode (pg_cc 88) q.1 = .ok (q.2.1, mj_len q.2) := by decide +kernel
set_option maxRecDepth 100000 in
theorem pg_dec89 : ∀ q ∈ pg_c89, decode (pg_cc 89) q.1 = .ok (q.2.1, mj_len q.2) := by decide +kernel
set_option maxRecDepth 100000 in
theorem pg_dec90 : ∀ q ∈ pg_c90, decode (pg_cc 90) q.1 = .ok (q.2.1, mj_len q.2) := by decide +kernel
set_option maxRecDepth 100000 in
theorem pg_dec91 : ∀ q ∈ pg_c91, decode (pg_cc 91) q.1 = .ok (q.2.1, mj_len q.2) := by decide +kernel
set_option maxRecDepth 100000 in
theorem pg_dec92 : ∀ q ∈ pg_c92, decode (pg_cc 92) q.1 = .ok (q.2.1, mj_len q.2) := by decide +kernel
set_option maxRecDepth 100000 in
theorem pg_dec93 : ∀ q ∈ pg_c93, decode (pg_cc 93) q.1 = .ok (q.2.1, mj_len q.2) := by decide +kernel
set_option maxRecDepth 100000 in
theorem pg_dec94 : ∀ q ∈ pg_c94, decode (pg_cc 94) q.1 = .ok (q.2.1, mj_len q.2) := by decide +kernel
set_option maxRecDepth 100000 in
theorem pg_dec95 : ∀ q ∈ pg_c95, decode (pg_cc 95) q.1 = .ok (q.2.1, mj_len q.2) := by decide +kernel
set_option maxRecDepth 100000 in
theorem pg_dec96 : ∀ q ∈ pg_c96, decode (pg_cc 96) q.1 = .ok (q.2.1, mj_len q.2) := by decide +kernel
set_option maxRecDepth 100000 in
theorem pg_dec97 : ∀ q ∈ pg_c97, decode (pg_cc 97) q.1 = .ok (q.2.1, mj_len q.2) := by decide +kernel
set_option maxRecDepth 100000 in
theorem pg_dec98 : ∀ q ∈ pg_c98, decode (pg_cc 98) q.1 = .ok (q.2.1, mj_len q.2) := by decide +kernel
set_option maxRecDepth 100000 in
theorem pg_dec99 : ∀ q ∈ pg_c99, decode (pg_cc 99) q.1 = .ok (q.2.1, mj_len q.2) := by decide +kernel
set_option maxRecDepth 100000 in
theorem pg_dec100 : ∀ q ∈ pg_c100, decode (pg_cc 100) q.1 = .ok (q.2.1, mj_len q.2) := by decide +kernel
set_option maxRecDepth 100000 in
theorem pg_dec101 : ∀ q ∈ pg_c101, decode (pg_cc 101) q.1 = .ok (q.2.1, mj_len q.2) := by decide +kernel
set_option maxRecDepth 100000 in
theorem pg_dec102 : ∀ q ∈ pg_c102, decode (pg_cc 102) q.1 = .ok (q.2.1, mj_len q.2) := by decide +kernel
end
section
set_option maxRecDepth 100000 in
theorem pg_ok0 : ∀ q ∈ pg_c0, mj_oki pg pg_cl pg_ty pg_Ts pg_Nw pg_ak pg_yn pg_cc pg_rt 0 q.1 q.2 := by
  have h10 : ∀ q ∈ pg_c0.drop 400, mj_lk pg pg_cl pg_ty pg_Ts pg_Nw pg_ak pg_yn pg_cc pg_rt 0 q.1 q.2 := fun q hq => absurd hq (by rw [show pg_c0.drop 400 = [] from rfl]; exact List.not_mem_nil)
  have h9 : ∀ q ∈ pg_c0.drop 360, mj_lk pg pg_cl pg_ty pg_Ts pg_Nw pg_ak pg_yn pg_cc pg_rt 0 q.1 q.2 := pg_chop 40 _ pg_lk0_9 (by rw [List.drop_drop]; exact h10)
  have h8 : ∀ q ∈ pg_c0.drop 320, mj_lk pg pg_cl pg_ty pg_Ts pg_Nw pg_ak pg_yn pg_cc pg_rt 0 q.1 q.2 := pg_chop 40 _ pg_lk0_8 (by rw [List.drop_drop]; exact h9)
  have h7 : ∀ q ∈ pg_c0.drop 280, mj_lk pg pg_cl pg_ty pg_Ts pg_Nw pg_ak pg_yn pg_cc pg_rt 0 q.1 q.2 := pg_chop 40 _ pg_lk0_7 (by rw [List.drop_drop]; exact h8)
  have h6 : ∀ q ∈ pg_c0.drop 240, mj_lk pg pg_cl pg_ty pg_Ts pg_Nw pg_ak pg_yn pg_cc pg_rt 0 q.1 q.2 := pg_chop 40 _ pg_lk0_6 (by rw [List.drop_drop]; exact h7)
  have h5 : ∀ q ∈ pg_c0.drop 200, mj_lk pg pg_cl pg_ty pg_Ts pg_Nw pg_ak pg_yn pg_cc pg_rt 0 q.1 q.2 := pg_chop 40 _ pg_lk0_5 (by rw [List.drop_drop]; exact h6)
  have h4 : ∀ q ∈ pg_c0.drop 160, mj_lk pg pg_cl pg_ty pg_Ts pg_Nw pg_ak pg_yn pg_cc pg_rt 0 q.1 q.2 := pg_chop 40 _ pg_lk0_4 (by rw [List.drop_drop]; exact h5)
  have h3 : ∀ q ∈ pg_c0.drop 120, mj_lk pg pg_cl pg_ty pg_Ts pg_Nw pg_ak pg_yn pg_cc pg_rt 0 q.1 q.2 := pg_chop 40 _ pg_lk0_3 (by rw [List.drop_drop]; exact h4)
  have h2 : ∀ q ∈ pg_c0.drop 80, mj_lk pg pg_cl pg_ty pg_Ts pg_Nw pg_ak pg_yn pg_cc pg_rt 0 q.1 q.2 := pg_chop 40 _ pg_lk0_2 (by rw [List.drop_drop]; exact h3)
  have h1 : ∀ q ∈ pg_c0.drop 40, mj_lk pg pg_cl pg_ty pg_Ts pg_Nw pg_ak pg_yn pg_cc pg_rt 0 q.1 q.2 := pg_chop 40 _ pg_lk0_1 (by rw [List.drop_drop]; exact h2)
  have h0 : ∀ q ∈ pg_c0.drop 0, mj_lk pg pg_cl pg_ty pg_Ts pg_Nw pg_ak pg_yn pg_cc pg_rt 0 q.1 q.2 := pg_chop 40 _ pg_lk0_0 (by rw [List.drop_drop]; exact h1)
  exact fun q hq => ⟨pg_dec0 q hq, h0 q hq⟩
set_option maxRecDepth 100000 in
theorem pg_ok1 : ∀ q ∈ pg_c1, mj_oki pg pg_cl pg_ty pg_Ts pg_Nw pg_ak pg_yn pg_cc pg_rt 1 q.1 q.2 := by
  have h1 : ∀ q ∈ pg_c1.drop 40, mj_lk pg pg_cl pg_ty pg_Ts pg_Nw pg_ak pg_yn pg_cc pg_rt 1 q.1 q.2 := fun q hq => absurd hq (by rw [show pg_c1.drop 40 = [] from rfl]; exact List.not_mem_nil)
  have h0 : ∀ q ∈ pg_c1.drop 0, mj_lk pg pg_cl pg_ty pg_Ts pg_Nw pg_ak pg_yn pg_cc pg_rt 1 q.1 q.2 := pg_chop 40 _ pg_lk1_0 (by rw [List.drop_drop]; exact h1)
  exact fun q hq => ⟨pg_dec1 q hq, h0 q hq⟩
set_option maxRecDepth 100000 in
theorem pg_ok2 : ∀ q ∈ pg_c2, mj_oki pg pg_cl pg_ty pg_Ts pg_Nw pg_ak pg_yn pg_cc pg_rt 2 q.1 q.2 := by
  have h1 : ∀ q ∈ pg_c2.drop 40, mj_lk pg pg_cl pg_ty pg_Ts pg_Nw pg_ak pg_yn pg_cc pg_rt 2 q.1 q.2 := fun q hq => absurd hq (by rw [show pg_c2.drop 40 = [] from rfl]; exact List.not_mem_nil)
  have h0 : ∀ q ∈ pg_c2.drop 0, mj_lk pg pg_cl pg_ty pg_Ts pg_Nw pg_ak pg_yn pg_cc pg_rt 2 q.1 q.2 := pg_chop 40 _ pg_lk2_0 (by rw [List.drop_drop]; exact h1)
  exact fun q hq => ⟨pg_dec2 q hq, h0 q hq⟩
set_option maxRecDepth 100000 in
theorem pg_ok3 : ∀ q ∈ pg_c3, mj_oki pg pg_cl pg_ty pg_Ts pg_Nw pg_ak pg_yn pg_cc pg_rt 3 q.1 q.2 := by
  have h2 : ∀ q ∈ pg_c3.drop 80, mj_lk pg pg_cl pg_ty pg_Ts pg_Nw pg_ak pg_yn pg_cc pg_rt 3 q.1 q.2 := fun q hq => absurd hq (by rw [show pg_c3.drop 80 = [] from rfl]; exact List.not_mem_nil)
  have h1 : ∀ q ∈ pg_c3.drop 40, mj_lk pg pg_cl pg_ty pg_Ts pg_Nw pg_ak pg_yn pg_cc pg_rt 3 q.1 q.2 := pg_chop 40 _ pg_lk3_1 (by rw [List.drop_drop]; exact h2)
  have h0 : ∀ q ∈ pg_c3.drop 0, mj_lk pg pg_cl pg_ty pg_Ts pg_Nw pg_ak pg_yn pg_cc pg_rt 3 q.1 q.2 := pg_chop 40 _ pg_lk3_0 (by rw [List.drop_drop]; exact h1)
  exact fun q hq => ⟨pg_dec3 q hq, h0 q hq⟩
set_option maxRecDepth 100000 in
theorem pg_ok4 : ∀ q ∈ pg_c4, mj_oki pg pg_cl pg_ty pg_Ts pg_Nw pg_ak pg_yn pg_cc pg_rt 4 q.1 q.2 := by
  have h1 : ∀ q ∈ pg_c4.drop 40, mj_lk pg pg_cl pg_ty pg_Ts pg_Nw pg_ak pg_yn pg_cc pg_rt 4 q.1 q.2 := fun q hq => absurd hq (by rw [show pg_c4.drop 40 = [] from rfl]; exact List.not_mem_nil)
  have h0 : ∀ q ∈ pg_c4.drop 0, mj_lk pg pg_cl pg_ty pg_Ts pg_Nw pg_ak pg_yn pg_cc pg_rt 4 q.1 q.2 := pg_chop 40 _ pg_lk4_0 (by rw [List.drop_drop]; exact h1)
  exact fun q hq => ⟨pg_dec4 q hq, h0 q hq⟩
set_option maxRecDepth 100000 in
theorem pg_ok5 : ∀ q ∈ pg_c5, mj_oki pg pg_cl pg_ty pg_Ts pg_Nw pg_ak pg_yn pg_cc pg_rt 5 q.1 q.2 := by
  have h1 : ∀ q ∈ pg_c5.drop 40, mj_lk pg pg_cl pg_ty pg_Ts pg_Nw pg_ak pg_yn pg_cc pg_rt 5 q.1 q.2 := fun q hq => absurd hq (by rw [show pg_c5.drop 40 = [] from rfl]; exact List.not_mem_nil)
  have h0 : ∀ q ∈ pg_c5.drop 0, mj_lk pg pg_cl pg_ty pg_Ts pg_Nw pg_ak pg_yn pg_cc pg_rt 5 q.1 q.2 := pg_chop 40 _ pg_lk5_0 (by rw [List.drop_drop]; exact h1)
  exact fun q hq => ⟨pg_dec5 q hq, h0 q hq⟩
set_option maxRecDepth 100000 in
theorem pg_ok6 : ∀ q ∈ pg_c6, mj_oki pg pg_cl pg_ty pg_Ts pg_Nw pg_ak pg_yn pg_cc pg_rt 6 q.1 q.2 := by
  have h1 : ∀ q ∈ pg_c6.drop 40, mj_lk pg pg_cl pg_ty pg_Ts pg_Nw pg_ak pg_yn pg_cc pg_rt 6 q.1 q.2 := fun q hq => absurd hq (by rw [show pg_c6.drop 40 = [] from rfl]; exact List.not_mem_nil)
  have h0 : ∀ q ∈ pg_c6.drop 0, mj_lk pg pg_cl pg_ty pg_Ts pg_Nw pg_ak pg_yn pg_cc pg_rt 6 q.1 q.2 := pg_chop 40 _ pg_lk6_0 (by rw [List.drop_drop]; exact h1)
  exact fun q hq => ⟨pg_dec6 q hq, h0 q hq⟩
set_option maxRecDepth 100000 in
theorem pg_ok7 : ∀ q ∈ pg_c7, mj_oki pg pg_cl pg_ty pg_Ts pg_Nw pg_ak pg_yn pg_cc pg_rt 7 q.1 q.2 := by
  have h1 : ∀ q ∈ pg_c7.drop 40, mj_lk pg pg_cl pg_ty pg_Ts pg_Nw pg_ak pg_yn pg_cc pg_rt 7 q.1 q.2 := fun q hq => absurd hq (by rw [show pg_c7.drop 40 = [] from rfl]; exact List.not_mem_nil)
  have h0 : ∀ q ∈ pg_c7.drop 0, mj_lk pg pg_cl pg_ty pg_Ts pg_Nw pg_ak pg_yn pg_cc pg_rt 7 q.1 q.2 := pg_chop 40 _ pg_lk7_0 (by rw [List.drop_drop]; exact h1)
  exact fun q hq => ⟨pg_dec7 q hq, h0 q hq⟩
set_option maxRecDepth 100000 in
theorem pg_ok8 : ∀ q ∈ pg_c8, mj_oki pg pg_cl pg_ty pg_Ts pg_Nw pg_ak pg_yn pg_cc pg_rt 8 q.1 q.2 := by
  have h1 : ∀ q ∈ pg_c8.drop 40, mj_lk pg pg_cl pg_ty pg_Ts pg_Nw pg_ak pg_yn pg_cc pg_rt 8 q.1 q.2 := fun q hq => absurd hq (by rw [show pg_c8.drop 40 = [] from rfl]; exact List.not_mem_nil)
  have h0 : ∀ q ∈ pg_c8.drop 0, mj_lk pg pg_cl pg_ty pg_Ts pg_Nw pg_ak pg_yn pg_cc pg_rt 8 q.1 q.2 := pg_chop 40 _ pg_lk8_0 (by rw [List.drop_drop]; exact h1)
  exact fun q hq => ⟨pg_dec8 q hq, h0 q hq⟩
set_option maxRecDepth 100000 in
theorem pg_ok9 : ∀ q ∈ pg_c9, mj_oki pg pg_cl pg_ty pg_Ts pg_Nw pg_ak pg_yn pg_cc pg_rt 9 q.1 q.2 := by
  have h1 : ∀ q ∈ pg_c9.drop 40, mj_lk pg pg_cl pg_ty pg_Ts pg_Nw pg_ak pg_yn pg_cc pg_rt 9 q.1 q.2 := fun q hq => absurd hq (by rw [show pg_c9.drop 40 = [] from rfl]; exact List.not_mem_nil)
  have h0 : ∀ q ∈ pg_c9.drop 0, mj_lk pg pg_cl pg_ty pg_Ts pg_Nw pg_ak pg_yn pg_cc pg_rt 9 q.1 q.2 := pg_chop 40 _ pg_lk9_0 (by rw [List.drop_drop]; exact h1)
  exact fun q hq => ⟨pg_dec9 q hq, h0 q hq⟩
set_option maxRecDepth 100000 in
theorem pg_ok10 : ∀ q ∈ pg_c10, mj_oki pg pg_cl pg_ty pg_Ts pg_Nw pg_ak pg_yn pg_cc pg_rt 10 q.1 q.2 := by
  have h1 : ∀ q ∈ pg_c10.drop 40, mj_lk pg pg_cl pg_ty pg_Ts pg_Nw pg_ak pg_yn pg_cc pg_rt 10 q.1 q.2 := fun q hq => absurd hq (by rw [show pg_c10.drop 40 = [] from rfl]; exact List.not_mem_nil)
  have h0 : ∀ q ∈ pg_c10.drop 0, mj_lk pg pg_cl pg_ty pg_Ts pg_Nw pg_ak pg_yn pg_cc pg_rt 10 q.1 q.2 := pg_chop 40 _ pg_lk10_0 (by rw [List.drop_drop]; exact h1)
  exact fun q hq => ⟨pg_dec10 q hq, h0 q hq⟩
set_option maxRecDepth 100000 in
theorem pg_ok11 : ∀ q ∈ pg_c11, mj_oki pg pg_cl pg_ty pg_Ts pg_Nw pg_ak pg_yn pg_cc pg_rt 11 q.1 q.2 := by
  have h1 : ∀ q ∈ pg_c11.drop 40, mj_lk pg pg_cl pg_ty pg_Ts pg_Nw pg_ak pg_yn pg_cc pg_rt 11 q.1 q.2 := fun q hq => absurd hq (by rw [show pg_c11.drop 40 = [] from rfl]; exact List.not_mem_nil)
  have h0 : ∀ q ∈ pg_c11.drop 0, mj_lk pg pg_cl pg_ty pg_Ts pg_Nw pg_ak pg_yn pg_cc pg_rt 11 q.1 q.2 := pg_chop 40 _ pg_lk11_0 (by rw [List.drop_drop]; exact h1)
  exact fun q hq => ⟨pg_dec11 q hq, h0 q hq⟩
set_option maxRecDepth 100000 in
theorem pg_ok12 : ∀ q ∈ pg_c12, mj_oki pg pg_cl pg_ty pg_Ts pg_Nw pg_ak pg_yn pg_cc pg_rt 12 q.1 q.2 := by
  have h1 : ∀ q ∈ pg_c12.drop 40, mj_lk pg pg_cl pg_ty pg_Ts pg_Nw pg_ak pg_yn pg_cc pg_rt 12 q.1 q.2 := fun q hq => absurd hq (by rw [show pg_c12.drop 40 = [] from rfl]; exact List.not_mem_nil)
  have h0 : ∀ q ∈ pg_c12.drop 0, mj_lk pg pg_cl pg_ty pg_Ts pg_Nw pg_ak pg_yn pg_cc pg_rt 12 q.1 q.2 := pg_chop 40 _ pg_lk12_0 (by rw [List.drop_drop]; exact h1)
  exact fun q hq => ⟨pg_dec12 q hq, h0 q hq⟩
set_option maxRecDepth 100000 in
theorem pg_ok13 : ∀ q ∈ pg_c13, mj_oki pg pg_cl pg_ty pg_Ts pg_Nw pg_ak pg_yn pg_cc pg_rt 13 q.1 q.2 := by
  have h1 : ∀ q ∈ pg_c13.drop 40, mj_lk pg pg_cl pg_ty pg_Ts pg_Nw pg_ak pg_yn pg_cc pg_rt 13 q.1 q.2 := fun q hq => absurd hq (by rw [show pg_c13.drop 40 = [] from rfl]; exact List.not_mem_nil)
  have h0 : ∀ q ∈ pg_c13.drop 0, mj_lk pg pg_cl pg_ty pg_Ts pg_Nw pg_ak pg_yn pg_cc pg_rt 13 q.1 q.2 := pg_chop 40 _ pg_lk13_0 (by rw [List.drop_drop]; exact h1)
  exact fun q hq => ⟨pg_dec13 q hq, h0 q hq⟩
set_option maxRecDepth 100000 in
theorem pg_ok14 : ∀ q ∈ pg_c14, mj_oki pg pg_cl pg_ty pg_Ts pg_Nw pg_ak pg_yn pg_cc pg_rt 14 q.1 q.2 := by
  have h1 : ∀ q ∈ pg_c14.drop 40, mj_lk pg pg_cl pg_ty pg_Ts pg_Nw pg_ak pg_yn pg_cc pg_rt 14 q.1 q.2 := fun q hq => absurd hq (by rw [show pg_c14.drop 40 = [] from rfl]; exact List.not_mem_nil)
  have h0 : ∀ q ∈ pg_c14.drop 0, mj_lk pg pg_cl pg_ty pg_Ts pg_Nw pg_ak pg_yn pg_cc pg_rt 14 q.1 q.2 := pg_chop 40 _ pg_lk14_0 (by rw [List.drop_drop]; exact h1)
  exact fun q hq => ⟨pg_dec14 q hq, h0 q hq⟩
set_option maxRecDepth 100000 in
theorem pg_ok15 : ∀ q ∈ pg_c15, mj_oki pg pg_cl pg_ty pg_Ts pg_Nw pg_ak pg_yn pg_cc pg_rt 15 q.1 q.2 := by
  have h1 : ∀ q ∈ pg_c15.drop 40, mj_lk pg pg_cl pg_ty pg_Ts pg_Nw pg_ak pg_yn pg_cc pg_rt 15 q.1 q.2 := fun q hq => absurd hq (by rw [show pg_c15.drop 40 = [] from rfl]; exact List.not_mem_nil)
  have h0 : ∀ q ∈ pg_c15.drop 0, mj_lk pg pg_cl pg_ty pg_Ts pg_Nw pg_ak pg_yn pg_cc pg_rt 15 q.1 q.2 := pg_chop 40 _ pg_lk15_0 (by rw [List.drop_drop]; exact h1)
  exact fun q hq => ⟨pg_dec15 q hq, h0 q hq⟩
set_option maxRecDepth 100000 in
theorem pg_ok16 : ∀ q ∈ pg_c16, mj_oki pg pg_cl pg_ty pg_Ts pg_Nw pg_ak pg_yn pg_cc pg_rt 16 q.1 q.2 := by
  have h4 : ∀ q ∈ pg_c16.drop 160, mj_lk pg pg_cl pg_ty pg_Ts pg_Nw pg_ak pg_yn pg_cc pg_rt 16 q.1 q.2 := fun q hq => absurd hq (by rw [show pg_c16.drop 160 = [] from rfl]; exact List.not_mem_nil)
  have h3 : ∀ q ∈ pg_c16.drop 120, mj_lk pg pg_cl pg_ty pg_Ts pg_Nw pg_ak pg_yn pg_cc pg_rt 16 q.1 q.2 := pg_chop 40 _ pg_lk16_3 (by rw [List.drop_drop]; exact h4)
  have h2 : ∀ q ∈ pg_c16.drop 80, mj_lk pg pg_cl pg_ty pg_Ts pg_Nw pg_ak pg_yn pg_cc pg_rt 16 q.1 q.2 := pg_chop 40 _ pg_lk16_2 (by rw [List.drop_drop]; exact h3)
  have h1 : ∀ q ∈ pg_c16.drop 40, mj_lk pg pg_cl pg_ty pg_Ts pg_Nw pg_ak pg_yn pg_cc pg_rt 16 q.1 q.2 := pg_chop 40 _ pg_lk16_1 (by rw [List.drop_drop]; exact h2)
  have h0 : ∀ q ∈ pg_c16.drop 0, mj_lk pg pg_cl pg_ty pg_Ts pg_Nw pg_ak pg_yn pg_cc pg_rt 16 q.1 q.2 := pg_chop 40 _ pg_lk16_0 (by rw [List.drop_drop]; exact h1)
  exact fun q hq => ⟨pg_dec16 q hq, h0 q hq⟩
set_option maxRecDepth 100000 in
theorem pg_ok17 : ∀ q ∈ pg_c17, mj_oki pg pg_cl pg_ty pg_Ts pg_Nw pg_ak pg_yn pg_cc pg_rt 17 q.1 q.2 := by
  have h1 : ∀ q ∈ pg_c17.drop 40, mj_lk pg pg_cl pg_ty pg_Ts pg_Nw pg_ak pg_yn pg_cc pg_rt 17 q.1 q.2 := fun q hq => absurd hq (by rw [show pg_c17.drop 40 = [] from rfl]; exact List.not_mem_nil)
  have h0 : ∀ q ∈ pg_c17.drop 0, mj_lk pg pg_cl pg_ty pg_Ts pg_Nw pg_ak pg_yn pg_cc pg_rt 17 q.1 q.2 := pg_chop 40 _ pg_lk17_0 (by rw [List.drop_drop]; exact h1)
  exact fun q hq => ⟨pg_dec17 q hq, h0 q hq⟩
set_option maxRecDepth 100000 in
theorem pg_ok18 : ∀ q ∈ pg_c18, mj_oki pg pg_cl pg_ty pg_Ts pg_Nw pg_ak pg_yn pg_cc pg_rt 18 q.1 q.2 := by
  have h1 : ∀ q ∈ pg_c18.drop 40, mj_lk pg pg_cl pg_ty pg_Ts pg_Nw pg_ak pg_yn pg_cc pg_rt 18 q.1 q.2 := fun q hq => absurd hq (by rw [show pg_c18.drop 40 = [] from rfl]; exact List.not_mem_nil)
  have h0 : ∀ q ∈ pg_c18.drop 0, mj_lk pg pg_cl pg_ty pg_Ts pg_Nw pg_ak pg_yn pg_cc pg_rt 18 q.1 q.2 := pg_chop 40 _ pg_lk18_0 (by rw [List.drop_drop]; exact h1)
  exact fun q hq => ⟨pg_dec18 q hq, h0 q hq⟩
set_option maxRecDepth 100000 in
theorem pg_ok19 : ∀ q ∈ pg_c19, mj_oki pg pg_cl pg_ty pg_Ts pg_Nw pg_ak pg_yn pg_cc pg_rt 19 q.1 q.2 := by
  have h2 : ∀ q ∈ pg_c19.drop 80, mj_lk pg pg_cl pg_ty pg_Ts pg_Nw pg_ak pg_yn pg_cc pg_rt 19 q.1 q.2 := fun q hq => absurd hq (by rw [show pg_c19.drop 80 = [] from rfl]; exact List.not_mem_nil)
  have h1 : ∀ q ∈ pg_c19.drop 40, mj_lk pg pg_cl pg_ty pg_Ts pg_Nw pg_ak pg_yn pg_cc pg_rt 19 q.1 q.2 := pg_chop 40 _ pg_lk19_1 (by rw [List.drop_drop]; exact h2)
  have h0 : ∀ q ∈ pg_c19.drop 0, mj_lk pg pg_cl pg_ty pg_Ts pg_Nw pg_ak pg_yn pg_cc pg_rt 19 q.1 q.2 := pg_chop 40 _ pg_lk19_0 (by rw [List.drop_drop]; exact h1)
  exact fun q hq => ⟨pg_dec19 q hq, h0 q hq⟩
set_option maxRecDepth 100000 in
theorem pg_ok20 : ∀ q ∈ pg_c20, mj_oki pg pg_cl pg_ty pg_Ts pg_Nw pg_ak pg_yn pg_cc pg_rt 20 q.1 q.2 := by
  have h1 : ∀ q ∈ pg_c20.drop 40, mj_lk pg pg_cl pg_ty pg_Ts pg_Nw pg_ak pg_yn pg_cc pg_rt 20 q.1 q.2 := fun q hq => absurd hq (by rw [show pg_c20.drop 40 = [] from rfl]; exact List.not_mem_nil)
  have h0 : ∀ q ∈ pg_c20.drop 0, mj_lk pg pg_cl pg_ty pg_Ts pg_Nw pg_ak pg_yn pg_cc pg_rt 20 q.1 q.2 := pg_chop 40 _ pg_lk20_0 (by rw [List.drop_drop]; exact h1)
  exact fun q hq => ⟨pg_dec20 q hq, h0 q hq⟩
set_option maxRecDepth 100000 in
theorem pg_ok21 : ∀ q ∈ pg_c21, mj_oki pg pg_cl pg_ty pg_Ts pg_Nw pg_ak pg_yn pg_cc pg_rt 21 q.1 q.2 := by
  have h2 : ∀ q ∈ pg_c21.drop 80, mj_lk pg pg_cl pg_ty pg_Ts pg_Nw pg_ak pg_yn pg_cc pg_rt 21 q.1 q.2 := fun q hq => absurd hq (by rw [show pg_c21.drop 80 = [] from rfl]; exact List.not_mem_nil)
  have h1 : ∀ q ∈ pg_c21.drop 40, mj_lk pg pg_cl pg_ty pg_Ts pg_Nw pg_ak pg_yn pg_cc pg_rt 21 q.1 q.2 := pg_chop 40 _ pg_lk21_1 (by rw [List.drop_drop]; exact h2)
  have h0 : ∀ q ∈ pg_c21.drop 0, mj_lk pg pg_cl pg_ty pg_Ts pg_Nw pg_ak pg_yn pg_cc pg_rt 21 q.1 q.2 := pg_chop 40 _ pg_lk21_0 (by rw [List.drop_drop]; exact h1)
  exact fun q hq => ⟨pg_dec21 q hq, h0 q hq⟩
set_option maxRecDepth 100000 in
theorem pg_ok22 : ∀ q ∈ pg_c22, mj_oki pg pg_cl pg_ty pg_Ts pg_Nw pg_ak pg_yn pg_cc pg_rt 22 q.1 q.2 := by
  have h2 : ∀ q ∈ pg_c22.drop 80, mj_lk pg pg_cl pg_ty pg_Ts pg_Nw pg_ak pg_yn pg_cc pg_rt 22 q.1 q.2 := fun q hq => absurd hq (by rw [show pg_c22.drop 80 = [] from rfl]; exact List.not_mem_nil)
  have h1 : ∀ q ∈ pg_c22.drop 40, mj_lk pg pg_cl pg_ty pg_Ts pg_Nw pg_ak pg_yn pg_cc pg_rt 22 q.1 q.2 := pg_chop 40 _ pg_lk22_1 (by rw [List.drop_drop]; exact h2)
  have h0 : ∀ q ∈ pg_c22.drop 0, mj_lk pg pg_cl pg_ty pg_Ts pg_Nw pg_ak pg_yn pg_cc pg_rt 22 q.1 q.2 := pg_chop 40 _ pg_lk22_0 (by rw [List.drop_drop]; exact h1)
  exact fun q hq => ⟨pg_dec22 q hq, h0 q hq⟩
set_option maxRecDepth 100000 in
theorem pg_ok23 : ∀ q ∈ pg_c23, mj_oki pg pg_cl pg_ty pg_Ts pg_Nw pg_ak pg_yn pg_cc pg_rt 23 q.1 q.2 := by
  have h1 : ∀ q ∈ pg_c23.drop 40, mj_lk pg pg_cl pg_ty pg_Ts pg_Nw pg_ak pg_yn pg_cc pg_rt 23 q.1 q.2 := fun q hq => absurd hq (by rw [show pg_c23.drop 40 = [] from rfl]; exact List.not_mem_nil)
  have h0 : ∀ q ∈ pg_c23.drop 0, mj_lk pg pg_cl pg_ty pg_Ts pg_Nw pg_ak pg_yn pg_cc pg_rt 23 q.1 q.2 := pg_chop 40 _ pg_lk23_0 (by rw [List.drop_drop]; exact h1)
  exact fun q hq => ⟨pg_dec23 q hq, h0 q hq⟩
set_option maxRecDepth 100000 in
theorem pg_ok24 : ∀ q ∈ pg_c24, mj_oki pg pg_cl pg_ty pg_Ts pg_Nw pg_ak pg_yn pg_cc pg_rt 24 q.1 q.2 := by
  have h2 : ∀ q ∈ pg_c24.drop 80, mj_lk pg pg_cl pg_ty pg_Ts pg_Nw pg_ak pg_yn pg_cc pg_rt 24 q.1 q.2 := fun q hq => absurd hq (by rw [show pg_c24.drop 80 = [] from rfl]; exact List.not_mem_nil)
  have h1 : ∀ q ∈ pg_c24.drop 40, mj_lk pg pg_cl pg_ty pg_Ts pg_Nw pg_ak pg_yn pg_cc pg_rt 24 q.1 q.2 := pg_chop 40 _ pg_lk24_1 (by rw [List.drop_drop]; exact h2)
  have h0 : ∀ q ∈ pg_c24.drop 0, mj_lk pg pg_cl pg_ty pg_Ts pg_Nw pg_ak pg_yn pg_cc pg_rt 24 q.1 q.2 := pg_chop 40 _ pg_lk24_0 (by rw [List.drop_drop]; exact h1)
  exact fun q hq => ⟨pg_dec24 q hq, h0 q hq⟩
set_option maxRecDepth 100000 in
theorem pg_ok25 : ∀ q ∈ pg_c25, mj_oki pg pg_cl pg_ty pg_Ts pg_Nw pg_ak pg_yn pg_cc pg_rt 25 q.1 q.2 := by
  have h1 : ∀ q ∈ pg_c25.drop 40, mj_lk pg pg_cl pg_ty pg_Ts pg_Nw pg_ak pg_yn pg_cc pg_rt 25 q.1 q.2 := fun q hq => absurd hq (by rw [show pg_c25.drop 40 = [] from rfl]; exact List.not_mem_nil)
  have h0 : ∀ q ∈ pg_c25.drop 0, mj_lk pg pg_cl pg_ty pg_Ts pg_Nw pg_ak pg_yn pg_cc pg_rt 25 q.1 q.2 := pg_chop 40 _ pg_lk25_0 (by rw [List.drop_drop]; exact h1)
  exact fun q hq => ⟨pg_dec25 q hq, h0 q hq⟩
set_option maxRecDepth 100000 in
theorem pg_ok26 : ∀ q ∈ pg_c26, mj_oki pg pg_cl pg_ty pg_Ts pg_Nw pg_ak pg_yn pg_cc pg_rt 26 q.1 q.2 := by
  have h1 : ∀ q ∈ pg_c26.drop 40, mj_lk pg pg_cl pg_ty pg_Ts pg_Nw pg_ak pg_yn pg_cc pg_rt 26 q.1 q.2 := fun q hq => absurd hq (by rw [show pg_c26.drop 40 = [] from rfl]; exact List.not_mem_nil)
  have h0 : ∀ q ∈ pg_c26.drop 0, mj_lk pg pg_cl pg_ty pg_Ts pg_Nw pg_ak pg_yn pg_cc pg_rt 26 q.1 q.2 := pg_chop 40 _ pg_lk26_0 (by rw [List.drop_drop]; exact h1)
  exact fun q hq => ⟨pg_dec26 q hq, h0 q hq⟩
set_option maxRecDepth 100000 in
theorem pg_ok27 : ∀ q ∈ pg_c27, mj_oki pg pg_cl pg_ty pg_Ts pg_Nw pg_ak pg_yn pg_cc pg_rt 27 q.1 q.2 := by
  have h1 : ∀ q ∈ pg_c27.drop 40, mj_lk pg pg_cl pg_ty pg_Ts pg_Nw pg_ak pg_yn pg_cc pg_rt 27 q.1 q.2 := fun q hq => absurd hq (by rw [show pg_c27.drop 40 = [] from rfl]; exact List.not_mem_nil)
  have h0 : ∀ q ∈ pg_c27.drop 0, mj_lk pg pg_cl pg_ty pg_Ts pg_Nw pg_ak pg_yn pg_cc pg_rt 27 q.1 q.2 := pg_chop 40 _ pg_lk27_0 (by rw [List.drop_drop]; exact h1)
  exact fun q hq => ⟨pg_dec27 q hq, h0 q hq⟩
set_option maxRecDepth 100000 in
theorem pg_ok28 : ∀ q ∈ pg_c28, mj_oki pg pg_cl pg_ty pg_Ts pg_Nw pg_ak pg_yn pg_cc pg_rt 28 q.1 q.2 := by
  have h3 : ∀ q ∈ pg_c28.drop 120, mj_lk pg pg_cl pg_ty pg_Ts pg_Nw pg_ak pg_yn pg_cc pg_rt 28 q.1 q.2 := fun q hq => absurd hq (by rw [show pg_c28.drop 120 = [] from rfl]; exact List.not_mem_nil)
  have h2 : ∀ q ∈ pg_c28.drop 80, mj_lk pg pg_cl pg_ty pg_Ts pg_Nw pg_ak pg_yn pg_cc pg_rt 28 q.1 q.2 := pg_chop 40 _ pg_lk28_2 (by rw [List.drop_drop]; exact h3)
  have h1 : ∀ q ∈ pg_c28.drop 40, mj_lk pg pg_cl pg_ty pg_Ts pg_Nw pg_ak pg_yn pg_cc pg_rt 28 q.1 q.2 := pg_chop 40 _ pg_lk28_1 (by rw [List.drop_drop]; exact h2)
  have h0 : ∀ q ∈ pg_c28.drop 0, mj_lk pg pg_cl pg_ty pg_Ts pg_Nw pg_ak pg_yn pg_cc pg_rt 28 q.1 q.2 := pg_chop 40 _ pg_lk28_0 (by rw [List.drop_drop]; exact h1)
  exact fun q hq => ⟨pg_dec28 q hq, h0 q hq⟩
set_option maxRecDepth 100000 in
theorem pg_ok29 : ∀ q ∈ pg_c29, mj_oki pg pg_cl pg_ty pg_Ts pg_Nw pg_ak pg_yn pg_cc pg_rt 29 q.1 q.2 := by
  have h1 : ∀ q ∈ pg_c29.drop 40, mj_lk pg pg_cl pg_ty pg_Ts pg_Nw pg_ak pg_yn pg_cc pg_rt 29 q.1 q.2 := fun q hq => absurd hq (by rw [show pg_c29.drop 40 = [] from rfl]; exact List.not_mem_nil)
  have h0 : ∀ q ∈ pg_c29.drop 0, mj_lk pg pg_cl pg_ty pg_Ts pg_Nw pg_ak pg_yn pg_cc pg_rt 29 q.1 q.2 := pg_chop 40 _ pg_lk29_0 (by rw [List.drop_drop]; exact h1)
  exact fun q hq => ⟨pg_dec29 q hq, h0 q hq⟩
set_option maxRecDepth 100000 in
theorem pg_ok30 : ∀ q ∈ pg_c30, mj_oki pg pg_cl pg_ty pg_Ts pg_Nw pg_ak pg_yn pg_cc pg_rt 30 q.1 q.2 := by
  have h1 : ∀ q ∈ pg_c30.drop 40, mj_lk pg pg_cl pg_ty pg_Ts pg_Nw pg_ak pg_yn pg_cc pg_rt 30 q.1 q.2 := fun q hq => absurd hq (by rw [show pg_c30.drop 40 = [] from rfl]; exact List.not_mem_nil)
  have h0 : ∀ q ∈ pg_c30.drop 0, mj_lk pg pg_cl pg_ty pg_Ts pg_Nw pg_ak pg_yn pg_cc pg_rt 30 q.1 q.2 := pg_chop 40 _ pg_lk30_0 (by rw [List.drop_drop]; exact h1)
  exact fun q hq => ⟨pg_dec30 q hq, h0 q hq⟩
set_option maxRecDepth 100000 in
theorem pg_ok31 : ∀ q ∈ pg_c31, mj_oki pg pg_cl pg_ty pg_Ts pg_Nw pg_ak pg_yn pg_cc pg_rt 31 q.1 q.2 := by
  have h1 : ∀ q ∈ pg_c31.drop 40, mj_lk pg pg_cl pg_ty pg_Ts pg_Nw pg_ak pg_yn pg_cc pg_rt 31 q.1 q.2 := fun q hq => absurd hq (by rw [show pg_c31.drop 40 = [] from rfl]; exact List.not_mem_nil)
  have h0 : ∀ q ∈ pg_c31.drop 0, mj_lk pg pg_cl pg_ty pg_Ts pg_Nw pg_ak pg_yn pg_cc pg_rt 31 q.1 q.2 := pg_chop 40 _ pg_lk31_0 (by rw [List.drop_drop]; exact h1)
  exact fun q hq => ⟨pg_dec31 q hq, h0 q hq⟩
set_option maxRecDepth 100000 in
theorem pg_ok32 : ∀ q ∈ pg_c32, mj_oki pg pg_cl pg_ty pg_Ts pg_Nw pg_ak pg_yn pg_cc pg_rt 32 q.1 q.2 := by
  have h1 : ∀ q ∈ pg_c32.drop 40, mj_lk pg pg_cl pg_ty pg_Ts pg_Nw pg_ak pg_yn pg_cc pg_rt 32 q.1 q.2 := fun q hq => absurd hq (by rw [show pg_c32.drop 40 = [] from rfl]; exact List.not_mem_nil)
  have h0 : ∀ q ∈ pg_c32.drop 0, mj_lk pg pg_cl pg_ty pg_Ts pg_Nw pg_ak pg_yn pg_cc pg_rt 32 q.1 q.2 := pg_chop 40 _ pg_lk32_0 (by rw [List.drop_drop]; exact h1)
  exact fun q hq => ⟨pg_dec32 q hq, h0 q hq⟩
set_option maxRecDepth 100000 in
theorem pg_ok33 : ∀ q ∈ pg_c33, mj_oki pg pg_cl pg_ty pg_Ts pg_Nw pg_ak pg_yn pg_cc pg_rt 33 q.1 q.2 := by
  have h1 : ∀ q ∈ pg_c33.drop 40, mj_lk pg pg_cl pg_ty pg_Ts pg_Nw pg_ak pg_yn pg_cc pg_rt 33 q.1 q.2 := fun q hq => absurd hq (by rw [show pg_c33.drop 40 = [] from rfl]; exact List.not_mem_nil)
  have h0 : ∀ q ∈ pg_c33.drop 0, mj_lk pg pg_cl pg_ty pg_Ts pg_Nw pg_ak pg_yn pg_cc pg_rt 33 q.1 q.2 := pg_chop 40 _ pg_lk33_0 (by rw [List.drop_drop]; exact h1)
  exact fun q hq => ⟨pg_dec33 q hq, h0 q hq⟩
set_option maxRecDepth 100000 in
theorem pg_ok34 : ∀ q ∈ pg_c34, mj_oki pg pg_cl pg_ty pg_Ts pg_Nw pg_ak pg_yn pg_cc pg_rt 34 q.1 q.2 := by
  have h1 : ∀ q ∈ pg_c34.drop 40, mj_lk pg pg_cl pg_ty pg_Ts pg_Nw pg_ak pg_yn pg_cc pg_rt 34 q.1 q.2 := fun q hq => absurd hq (by rw [show pg_c34.drop 40 = [] from rfl]; exact List.not_mem_nil)
  have h0 : ∀ q ∈ pg_c34.drop 0, mj_lk pg pg_cl pg_ty pg_Ts pg_Nw pg_ak pg_yn pg_cc pg_rt 34 q.1 q.2 := pg_chop 40 _ pg_lk34_0 (by rw [List.drop_drop]; exact h1)
  exact fun q hq => ⟨pg_dec34 q hq, h0 q hq⟩
set_option maxRecDepth 100000 in
theorem pg_ok35 : ∀ q ∈ pg_c35, mj_oki pg pg_cl pg_ty pg_Ts pg_Nw pg_ak pg_yn pg_cc pg_rt 35 q.1 q.2 := by
  have h2 : ∀ q ∈ pg_c35.drop 80, mj_lk pg pg_cl pg_ty pg_Ts pg_Nw pg_ak pg_yn pg_cc pg_rt 35 q.1 q.2 := fun q hq => absurd hq (by rw [show pg_c35.drop 80 = [] from rfl]; exact List.not_mem_nil)
  have h1 : ∀ q ∈ pg_c35.drop 40, mj_lk pg pg_cl pg_ty pg_Ts pg_Nw pg_ak pg_yn pg_cc pg_rt 35 q.1 q.2 := pg_chop 40 _ pg_lk35_1 (by rw [List.drop_drop]; exact h2)
  have h0 : ∀ q ∈ pg_c35.drop 0, mj_lk pg pg_cl pg_ty pg_Ts pg_Nw pg_ak pg_yn pg_cc pg_rt 35 q.1 q.2 := pg_chop 40 _ pg_lk35_0 (by rw [List.drop_drop]; exact h1)
  exact fun q hq => ⟨pg_dec35 q hq, h0 q hq⟩
set_option maxRecDepth 100000 in
theorem pg_ok36 : ∀ q ∈ pg_c36, mj_oki pg pg_cl pg_ty pg_Ts pg_Nw pg_ak pg_yn pg_cc pg_rt 36 q.1 q.2 := by
  have h2 : ∀ q ∈ pg_c36.drop 80, mj_lk pg pg_cl pg_ty pg_Ts pg_Nw pg_ak pg_yn pg_cc pg_rt 36 q.1 q.2 := fun q hq => absurd hq (by rw [show pg_c36.drop 80 = [] from rfl]; exact List.not_mem_nil)
  have h1 : ∀ q ∈ pg_c36.drop 40, mj_lk pg pg_cl pg_ty pg_Ts pg_Nw pg_ak pg_yn pg_cc pg_rt 36 q.1 q.2 := pg_chop 40 _ pg_lk36_1 (by rw [List.drop_drop]; exact h2)
  have h0 : ∀ q ∈ pg_c36.drop 0, mj_lk pg pg_cl pg_ty pg_Ts pg_Nw pg_ak pg_yn pg_cc pg_rt 36 q.1 q.2 := pg_chop 40 _ pg_lk36_0 (by rw [List.drop_drop]; exact h1)
  exact fun q hq => ⟨pg_dec36 q hq, h0 q hq⟩
set_option maxRecDepth 100000 in
theorem pg_ok37 : ∀ q ∈ pg_c37, mj_oki pg pg_cl pg_ty pg_Ts pg_Nw pg_ak pg_yn pg_cc pg_rt 37 q.1 q.2 := by
  have h4 : ∀ q ∈ pg_c37.drop 160, mj_lk pg pg_cl pg_ty pg_Ts pg_Nw pg_ak pg_yn pg_cc pg_rt 37 q.1 q.2 := fun q hq => absurd hq (by rw [show pg_c37.drop 160 = [] from rfl]; exact List.not_mem_nil)
  have h3 : ∀ q ∈ pg_c37.drop 120, mj_lk pg pg_cl pg_ty pg_Ts pg_Nw pg_ak pg_yn pg_cc pg_rt 37 q.1 q.2 := pg_chop 40 _ pg_lk37_3 (by rw [List.drop_drop]; exact h4)
  have h2 : ∀ q ∈ pg_c37.drop 80, mj_lk pg pg_cl pg_ty pg_Ts pg_Nw pg_ak pg_yn pg_cc pg_rt 37 q.1 q.2 := pg_chop 40 _ pg_lk37_2 (by rw [List.drop_drop]; exact h3)
  have h1 : ∀ q ∈ pg_c37.drop 40, mj_lk pg pg_cl pg_ty pg_Ts pg_Nw pg_ak pg_yn pg_cc pg_rt 37 q.1 q.2 := pg_chop 40 _ pg_lk37_1 (by rw [List.drop_drop]; exact h2)
  have h0 : ∀ q ∈ pg_c37.drop 0, mj_lk pg pg_cl pg_ty pg_Ts pg_Nw pg_ak pg_yn pg_cc pg_rt 37 q.1 q.2 := pg_chop 40 _ pg_lk37_0 (by rw [List.drop_drop]; exact h1)
  exact fun q hq => ⟨pg_dec37 q hq, h0 q hq⟩
set_option maxRecDepth 100000 in
theorem pg_ok38 : ∀ q ∈ pg_c38, mj_oki pg pg_cl pg_ty pg_Ts pg_Nw pg_ak pg_yn pg_cc pg_rt 38 q.1 q.2 := by
  have h3 : ∀ q ∈ pg_c38.drop 120, mj_lk pg pg_cl pg_ty pg_Ts pg_Nw pg_ak pg_yn pg_cc pg_rt 38 q.1 q.2 := fun q hq => absurd hq (by rw [show pg_c38.drop 120 = [] from rfl]; exact List.not_mem_nil)
  have h2 : ∀ q ∈ pg_c38.drop 80, mj_lk pg pg_cl pg_ty pg_Ts pg_Nw pg_ak pg_yn pg_cc pg_rt 38 q.1 q.2 := pg_chop 40 _ pg_lk38_2 (by rw [List.drop_drop]; exact h3)
  have h1 : ∀ q ∈ pg_c38.drop 40, mj_lk pg pg_cl pg_ty pg_Ts pg_Nw pg_ak pg_yn pg_cc pg_rt 38 q.1 q.2 := pg_chop 40 _ pg_lk38_1 (by rw [List.drop_drop]; exact h2)
  have h0 : ∀ q ∈ pg_c38.drop 0, mj_lk pg pg_cl pg_ty pg_Ts pg_Nw pg_ak pg_yn pg_cc pg_rt 38 q.1 q.2 := pg_chop 40 _ pg_lk38_0 (by rw [List.drop_drop]; exact h1)
  exact fun q hq => ⟨pg_dec38 q hq, h0 q hq⟩
set_option maxRecDepth 100000 in
theorem pg_ok39 : ∀ q ∈ pg_c39, mj_oki pg pg_cl pg_ty pg_Ts pg_Nw pg_ak pg_yn pg_cc pg_rt 39 q.1 q.2 := by
  have h5 : ∀ q ∈ pg_c39.drop 200, mj_lk pg pg_cl pg_ty pg_Ts pg_Nw pg_ak pg_yn pg_cc pg_rt 39 q.1 q.2 := fun q hq => absurd hq (by rw [show pg_c39.drop 200 = [] from rfl]; exact List.not_mem_nil)
  have h4 : ∀ q ∈ pg_c39.drop 160, mj_lk pg pg_cl pg_ty pg_Ts pg_Nw pg_ak pg_yn pg_cc pg_rt 39 q.1 q.2 := pg_chop 40 _ pg_lk39_4 (by rw [List.drop_drop]; exact h5)
  have h3 : ∀ q ∈ pg_c39.drop 120, mj_lk pg pg_cl pg_ty pg_Ts pg_Nw pg_ak pg_yn pg_cc pg_rt 39 q.1 q.2 := pg_chop 40 _ pg_lk39_3 (by rw [List.drop_drop]; exact h4)
  have h2 : ∀ q ∈ pg_c39.drop 80, mj_lk pg pg_cl pg_ty pg_Ts pg_Nw pg_ak pg_yn pg_cc pg_rt 39 q.1 q.2 := pg_chop 40 _ pg_lk39_2 (by rw [List.drop_drop]; exact h3)
  have h1 : ∀ q ∈ pg_c39.drop 40, mj_lk pg pg_cl pg_ty pg_Ts pg_Nw pg_ak pg_yn pg_cc pg_rt 39 q.1 q.2 := pg_chop 40 _ pg_lk39_1 (by rw [List.drop_drop]; exact h2)
  have h0 : ∀ q ∈ pg_c39.drop 0, mj_lk pg pg_cl pg_ty pg_Ts pg_Nw pg_ak pg_yn pg_cc pg_rt 39 q.1 q.2 := pg_chop 40 _ pg_lk39_0 (by rw [List.drop_drop]; exact h1)
  exact fun q hq => ⟨pg_dec39 q hq, h0 q hq⟩
set_option maxRecDepth 100000 in
theorem pg_ok40 : ∀ q ∈ pg_c40, mj_oki pg pg_cl pg_ty pg_Ts pg_Nw pg_ak pg_yn pg_cc pg_rt 40 q.1 q.2 := by
  have h2 : ∀ q ∈ pg_c40.drop 80, mj_lk pg pg_cl pg_ty pg_Ts pg_Nw pg_ak pg_yn pg_cc pg_rt 40 q.1 q.2 := fun q hq => absurd hq (by rw [show pg_c40.drop 80 = [] from rfl]; exact List.not_mem_nil)
  have h1 : ∀ q ∈ pg_c40.drop 40, mj_lk pg pg_cl pg_ty pg_Ts pg_Nw pg_ak pg_yn pg_cc pg_rt 40 q.1 q.2 := pg_chop 40 _ pg_lk40_1 (by rw [List.drop_drop]; exact h2)
  have h0 : ∀ q ∈ pg_c40.drop 0, mj_lk pg pg_cl pg_ty pg_Ts pg_Nw pg_ak pg_yn pg_cc pg_rt 40 q.1 q.2 := pg_chop 40 _ pg_lk40_0 (by rw [List.drop_drop]; exact h1)
  exact fun q hq => ⟨pg_dec40 q hq, h0 q hq⟩
set_option maxRecDepth 100000 in
theorem pg_ok41 : ∀ q ∈ pg_c41, mj_oki pg pg_cl pg_ty pg_Ts pg_Nw pg_ak pg_yn pg_cc pg_rt 41 q.1 q.2 := by
  have h5 : ∀ q ∈ pg_c41.drop 200, mj_lk pg pg_cl pg_ty pg_Ts pg_Nw pg_ak pg_yn pg_cc pg_rt 41 q.1 q.2 := fun q hq => absurd hq (by rw [show pg_c41.drop 200 = [] from rfl]; exact List.not_mem_nil)
  have h4 : ∀ q ∈ pg_c41.drop 160, mj_lk pg pg_cl pg_ty pg_Ts pg_Nw pg_ak pg_yn pg_cc pg_rt 41 q.1 q.2 := pg_chop 40 _ pg_lk41_4 (by rw [List.drop_drop]; exact h5)
  have h3 : ∀ q ∈ pg_c41.drop 120, mj_lk pg pg_cl pg_ty pg_Ts pg_Nw pg_ak pg_yn pg_cc pg_rt 41 q.1 q.2 := pg_chop 40 _ pg_lk41_3 (by rw [List.drop_drop]; exact h4)
  have h2 : ∀ q ∈ pg_c41.drop 80, mj_lk pg pg_cl pg_ty pg_Ts pg_Nw pg_ak pg_yn pg_cc pg_rt 41 q.1 q.2 := pg_chop 40 _ pg_lk41_2 (by rw [List.drop_drop]; exact h3)
  have h1 : ∀ q ∈ pg_c41.drop 40, mj_lk pg pg_cl pg_ty pg_Ts pg_Nw pg_ak pg_yn pg_cc pg_rt 41 q.1 q.2 := pg_chop 40 _ pg_lk41_1 (by rw [List.drop_drop]; exact h2)
  have h0 : ∀ q ∈ pg_c41.drop 0, mj_lk pg pg_cl pg_ty pg_Ts pg_Nw pg_ak pg_yn pg_cc pg_rt 41 q.1 q.2 := pg_chop 40 _ pg_lk41_0 (by rw [List.drop_drop]; exact h1)
  exact fun q hq => ⟨pg_dec41 q hq, h0 q hq⟩
set_option maxRecDepth 100000 in
theorem pg_ok42 : ∀ q ∈ pg_c42, mj_oki pg pg_cl pg_ty pg_Ts pg_Nw pg_ak pg_yn pg_cc pg_rt 42 q.1 q.2 := by
  have h1 : ∀ q ∈ pg_c42.drop 40, mj_lk pg pg_cl pg_ty pg_Ts pg_Nw pg_ak pg_yn pg_cc pg_rt 42 q.1 q.2 := fun q hq => absurd hq (by rw [show pg_c42.drop 40 = [] from rfl]; exact List.not_mem_nil)
  have h0 : ∀ q ∈ pg_c42.drop 0, mj_lk pg pg_cl pg_ty pg_Ts pg_Nw pg_ak pg_yn pg_cc pg_rt 42 q.1 q.2 := pg_chop 40 _ pg_lk42_0 (by rw [List.drop_drop]; exact h1)
  exact fun q hq => ⟨pg_dec42 q hq, h0 q hq⟩
set_option maxRecDepth 100000 in
theorem pg_ok43 : ∀ q ∈ pg_c43, mj_oki pg pg_cl pg_ty pg_Ts pg_Nw pg_ak pg_yn pg_cc pg_rt 43 q.1 q.2 := by
  have h1 : ∀ q ∈ pg_c43.drop 40, mj_lk pg pg_cl pg_ty pg_Ts pg_Nw pg_ak pg_yn pg_cc pg_rt 43 q.1 q.2 := fun q hq => absurd hq (by rw [show pg_c43.drop 40 = [] from rfl]; exact List.not_mem_nil)
  have h0 : ∀ q ∈ pg_c43.drop 0, mj_lk pg pg_cl pg_ty pg_Ts pg_Nw pg_ak pg_yn pg_cc pg_rt 43 q.1 q.2 := pg_chop 40 _ pg_lk43_0 (by rw [List.drop_drop]; exact h1)
  exact fun q hq => ⟨pg_dec43 q hq, h0 q hq⟩
set_option maxRecDepth 100000 in
theorem pg_ok44 : ∀ q ∈ pg_c44, mj_oki pg pg_cl pg_ty pg_Ts pg_Nw pg_ak pg_yn pg_cc pg_rt 44 q.1 q.2 := by
  have h2 : ∀ q ∈ pg_c44.drop 80, mj_lk pg pg_cl pg_ty pg_Ts pg_Nw pg_ak pg_yn pg_cc pg_rt 44 q.1 q.2 := fun q hq => absurd hq (by rw [show pg_c44.drop 80 = [] from rfl]; exact List.not_mem_nil)
  have h1 : ∀ q ∈ pg_c44.drop 40, mj_lk pg pg_cl pg_ty pg_Ts pg_Nw pg_ak pg_yn pg_cc pg_rt 44 q.1 q.2 := pg_chop 40 _ pg_lk44_1 (by rw [List.drop_drop]; exact h2)
  have h0 : ∀ q ∈ pg_c44.drop 0, mj_lk pg pg_cl pg_ty pg_Ts pg_Nw pg_ak pg_yn pg_cc pg_rt 44 q.1 q.2 := pg_chop 40 _ pg_lk44_0 (by rw [List.drop_drop]; exact h1)
  exact fun q hq => ⟨pg_dec44 q hq, h0 q hq⟩
set_option maxRecDepth 100000 in
theorem pg_ok45 : ∀ q ∈ pg_c45, mj_oki pg pg_cl pg_ty pg_Ts pg_Nw pg_ak pg_yn pg_cc pg_rt 45 q.1 q.2 := by
  have h1 : ∀ q ∈ pg_c45.drop 40, mj_lk pg pg_cl pg_ty pg_Ts pg_Nw pg_ak pg_yn pg_cc pg_rt 45 q.1 q.2 := fun q hq => absurd hq (by rw [show pg_c45.drop 40 = [] from rfl]; exact List.not_mem_nil)
  have h0 : ∀ q ∈ pg_c45.drop 0, mj_lk pg pg_cl pg_ty pg_Ts pg_Nw pg_ak pg_yn pg_cc pg_rt 45 q.1 q.2 := pg_chop 40 _ pg_lk45_0 (by rw [List.drop_drop]; exact h1)
  exact fun q hq => ⟨pg_dec45 q hq, h0 q hq⟩
set_option maxRecDepth 100000 in
theorem pg_ok46 : ∀ q ∈ pg_c46, mj_oki pg pg_cl pg_ty pg_Ts pg_Nw pg_ak pg_yn pg_cc pg_rt 46 q.1 q.2 := by
  have h1 : ∀ q ∈ pg_c46.drop 40, mj_lk pg pg_cl pg_ty pg_Ts pg_Nw pg_ak pg_yn pg_cc pg_rt 46 q.1 q.2 := fun q hq => absurd hq (by rw [show pg_c46.drop 40 = [] from rfl]; exact List.not_mem_nil)
  have h0 : ∀ q ∈ pg_c46.drop 0, mj_lk pg pg_cl pg_ty pg_Ts pg_Nw pg_ak pg_yn pg_cc pg_rt 46 q.1 q.2 := pg_chop 40 _ pg_lk46_0 (by rw [List.drop_drop]; exact h1)
  exact fun q hq => ⟨pg_dec46 q hq, h0 q hq⟩
set_option maxRecDepth 100000 in
theorem pg_ok47 : ∀ q ∈ pg_c47, mj_oki pg pg_cl pg_ty pg_Ts pg_Nw pg_ak pg_yn pg_cc pg_rt 47 q.1 q.2 := by
  have h2 : ∀ q ∈ pg_c47.drop 80, mj_lk pg pg_cl pg_ty pg_Ts pg_Nw pg_ak pg_yn pg_cc pg_rt 47 q.1 q.2 := fun q hq => absurd hq (by rw [show pg_c47.drop 80 = [] from rfl]; exact List.not_mem_nil)
  have h1 : ∀ q ∈ pg_c47.drop 40, mj_lk pg pg_cl pg_ty pg_Ts pg_Nw pg_ak pg_yn pg_cc pg_rt 47 q.1 q.2 := pg_chop 40 _ pg_lk47_1 (by rw [List.drop_drop]; exact h2)
  have h0 : ∀ q ∈ pg_c47.drop 0, mj_lk pg pg_cl pg_ty pg_Ts pg_Nw pg_ak pg_yn pg_cc pg_rt 47 q.1 q.2 := pg_chop 40 _ pg_lk47_0 (by rw [List.drop_drop]; exact h1)
  exact fun q hq => ⟨pg_dec47 q hq, h0 q hq⟩
set_option maxRecDepth 100000 in
theorem pg_ok48 : ∀ q ∈ pg_c48, mj_oki pg pg_cl pg_ty pg_Ts pg_Nw pg_ak pg_yn pg_cc pg_rt 48 q.1 q.2 := by
  have h1 : ∀ q ∈ pg_c48.drop 40, mj_lk pg pg_cl pg_ty pg_Ts pg_Nw pg_ak pg_yn pg_cc pg_rt 48 q.1 q.2 := fun q hq => absurd hq (by rw [show pg_c48.drop 40 = [] from rfl]; exact List.not_mem_nil)
  have h0 : ∀ q ∈ pg_c48.drop 0, mj_lk pg pg_cl pg_ty pg_Ts pg_Nw pg_ak pg_yn pg_cc pg_rt 48 q.1 q.2 := pg_chop 40 _ pg_lk48_0 (by rw [List.drop_drop]; exact h1)
  exact fun q hq => ⟨pg_dec48 q hq, h0 q hq⟩
set_option maxRecDepth 100000 in
theorem pg_ok49 : ∀ q ∈ pg_c49, mj_oki pg pg_cl pg_ty pg_Ts pg_Nw pg_ak pg_yn pg_cc pg_rt 49 q.1 q.2 := by
  have h1 : ∀ q ∈ pg_c49.drop 40, mj_lk pg pg_cl pg_ty pg_Ts pg_Nw pg_ak pg_yn pg_cc pg_rt 49 q.1 q.2 := fun q hq => absurd hq (by rw [show pg_c49.drop 40 = [] from rfl]; exact List.not_mem_nil)
  have h0 : ∀ q ∈ pg_c49.drop 0, mj_lk pg pg_cl pg_ty pg_Ts pg_Nw pg_ak pg_yn pg_cc pg_rt 49 q.1 q.2 := pg_chop 40 _ pg_lk49_0 (by rw [List.drop_drop]; exact h1)
  exact fun q hq => ⟨pg_dec49 q hq, h0 q hq⟩
set_option maxRecDepth 100000 in
theorem pg_ok50 : ∀ q ∈ pg_c50, mj_oki pg pg_cl pg_ty pg_Ts pg_Nw pg_ak pg_yn pg_cc pg_rt 50 q.1 q.2 := by
  have h1 : ∀ q ∈ pg_c50.drop 40, mj_lk pg pg_cl pg_ty pg_Ts pg_Nw pg_ak pg_yn pg_cc pg_rt 50 q.1 q.2 := fun q hq => absurd hq (by rw [show pg_c50.drop 40 = [] from rfl]; exact List.not_mem_nil)
  have h0 : ∀ q ∈ pg_c50.drop 0, mj_lk pg pg_cl pg_ty pg_Ts pg_Nw pg_ak pg_yn pg_cc pg_rt 50 q.1 q.2 := pg_chop 40 _ pg_lk50_0 (by rw [List.drop_drop]; exact h1)
  exact fun q hq => ⟨pg_dec50 q hq, h0 q hq⟩
set_option maxRecDepth 100000 in
theorem pg_ok51 : ∀ q ∈ pg_c51, mj_oki pg pg_cl pg_ty pg_Ts pg_Nw pg_ak pg_yn pg_cc pg_rt 51 q.1 q.2 := by
  have h1 : ∀ q ∈ pg_c51.drop 40, mj_lk pg pg_cl pg_ty pg_Ts pg_Nw pg_ak pg_yn pg_cc pg_rt 51 q.1 q.2 := fun q hq => absurd hq (by rw [show pg_c51.drop 40 = [] from rfl]; exact List.not_mem_nil)
  have h0 : ∀ q ∈ pg_c51.drop 0, mj_lk pg pg_cl pg_ty pg_Ts pg_Nw pg_ak pg_yn pg_cc pg_rt 51 q.1 q.2 := pg_chop 40 _ pg_lk51_0 (by rw [List.drop_drop]; exact h1)
  exact fun q hq => ⟨pg_dec51 q hq, h0 q hq⟩
set_option maxRecDepth 100000 in
theorem pg_ok52 : ∀ q ∈ pg_c52, mj_oki pg pg_cl pg_ty pg_Ts pg_Nw pg_ak pg_yn pg_cc pg_rt 52 q.1 q.2 := by
  have h1 : ∀ q ∈ pg_c52.drop 40, mj_lk pg pg_cl pg_ty pg_Ts pg_Nw pg_ak pg_yn pg_cc pg_rt 52 q.1 q.2 := fun q hq => absurd hq (by rw [show pg_c52.drop 40 = [] from rfl]; exact List.not_mem_nil)
  have h0 : ∀ q ∈ pg_c52.drop 0, mj_lk pg pg_cl pg_ty pg_Ts pg_Nw pg_ak pg_yn pg_cc pg_rt 52 q.1 q.2 := pg_chop 40 _ pg_lk52_0 (by rw [List.drop_drop]; exact h1)
  exact fun q hq => ⟨pg_dec52 q hq, h0 q hq⟩
set_option maxRecDepth 100000 in
theorem pg_ok53 : ∀ q ∈ pg_c53, mj_oki pg pg_cl pg_ty pg_Ts pg_Nw pg_ak pg_yn pg_cc pg_rt 53 q.1 q.2 := by
  have h1 : ∀ q ∈ pg_c53.drop 40, mj_lk pg pg_cl pg_ty pg_Ts pg_Nw pg_ak pg_yn pg_cc pg_rt 53 q.1 q.2 := fun q hq => absurd hq (by rw [show pg_c53.drop 40 = [] from rfl]; exact List.not_mem_nil)
  have h0 : ∀ q ∈ pg_c53.drop 0, mj_lk pg pg_cl pg_ty pg_Ts pg_Nw pg_ak pg_yn pg_cc pg_rt 53 q.1 q.2 := pg_chop 40 _ pg_lk53_0 (by rw [List.drop_drop]; exact h1)
  exact fun q hq => ⟨pg_dec53 q hq, h0 q hq⟩
set_option maxRecDepth 100000 in
theorem pg_ok54 : ∀ q ∈ pg_c54, mj_oki pg pg_cl pg_ty pg_Ts pg_Nw pg_ak pg_yn pg_cc pg_rt 54 q.1 q.2 := by
  have h1 : ∀ q ∈ pg_c54.drop 40, mj_lk pg pg_cl pg_ty pg_Ts pg_Nw pg_ak pg_yn pg_cc pg_rt 54 q.1 q.2 := fun q hq => absurd hq (by rw [show pg_c54.drop 40 = [] from rfl]; exact List.not_mem_nil)
  have h0 : ∀ q ∈ pg_c54.drop 0, mj_lk pg pg_cl pg_ty pg_Ts pg_Nw pg_ak pg_yn pg_cc pg_rt 54 q.1 q.2 := pg_chop 40 _ pg_lk54_0 (by rw [List.drop_drop]; exact h1)
  exact fun q hq => ⟨pg_dec54 q hq, h0 q hq⟩
set_option maxRecDepth 100000 in
theorem pg_ok55 : ∀ q ∈ pg_c55, mj_oki pg pg_cl pg_ty pg_Ts pg_Nw pg_ak pg_yn pg_cc pg_rt 55 q.1 q.2 := by
  have h1 : ∀ q ∈ pg_c55.drop 40, mj_lk pg pg_cl pg_ty pg_Ts pg_Nw pg_ak pg_yn pg_cc pg_rt 55 q.1 q.2 := fun q hq => absurd hq (by rw [show pg_c55.drop 40 = [] from rfl]; exact List.not_mem_nil)
  have h0 : ∀ q ∈ pg_c55.drop 0, mj_lk pg pg_cl pg_ty pg_Ts pg_Nw pg_ak pg_yn pg_cc pg_rt 55 q.1 q.2 := pg_chop 40 _ pg_lk55_0 (by rw [List.drop_drop]; exact h1)
  exact fun q hq => ⟨pg_dec55 q hq, h0 q hq⟩
set_option maxRecDepth 100000 in
theorem pg_ok56 : ∀ q ∈ pg_c56, mj_oki pg pg_cl pg_ty pg_Ts pg_Nw pg_ak pg_yn pg_cc pg_rt 56 q.1 q.2 := by
  have h1 : ∀ q ∈ pg_c56.drop 40, mj_lk pg pg_cl pg_ty pg_Ts pg_Nw pg_ak pg_yn pg_cc pg_rt 56 q.1 q.2 := fun q hq => absurd hq (by rw [show pg_c56.drop 40 = [] from rfl]; exact List.not_mem_nil)
  have h0 : ∀ q ∈ pg_c56.drop 0, mj_lk pg pg_cl pg_ty pg_Ts pg_Nw pg_ak pg_yn pg_cc pg_rt 56 q.1 q.2 := pg_chop 40 _ pg_lk56_0 (by rw [List.drop_drop]; exact h1)
  exact fun q hq => ⟨pg_dec56 q hq, h0 q hq⟩
set_option maxRecDepth 100000 in
theorem pg_ok57 : ∀ q ∈ pg_c57, mj_oki pg pg_cl pg_ty pg_Ts pg_Nw pg_ak pg_yn pg_cc pg_rt 57 q.1 q.2 := by
  have h1 : ∀ q ∈ pg_c57.drop 40, mj_lk pg pg_cl pg_ty pg_Ts pg_Nw pg_ak pg_yn pg_cc pg_rt 57 q.1 q.2 := fun q hq => absurd hq (by rw [show pg_c57.drop 40 = [] from rfl]; exact List.not_mem_nil)
  have h0 : ∀ q ∈ pg_c57.drop 0, mj_lk pg pg_cl pg_ty pg_Ts pg_Nw pg_ak pg_yn pg_cc pg_rt 57 q.1 q.2 := pg_chop 40 _ pg_lk57_0 (by rw [List.drop_drop]; exact h1)
  exact fun q hq => ⟨pg_dec57 q hq, h0 q hq⟩
set_option maxRecDepth 100000 in
theorem pg_ok58 : ∀ q ∈ pg_c58, mj_oki pg pg_cl pg_ty pg_Ts pg_Nw pg_ak pg_yn pg_cc pg_rt 58 q.1 q.2 := by
  have h1 : ∀ q ∈ pg_c58.drop 40, mj_lk pg pg_cl pg_ty pg_Ts pg_Nw pg_ak pg_yn pg_cc pg_rt 58 q.1 q.2 := fun q hq => absurd hq (by rw [show pg_c58.drop 40 = [] from rfl]; exact List.not_mem_nil)
  have h0 : ∀ q ∈ pg_c58.drop 0, mj_lk pg pg_cl pg_ty pg_Ts pg_Nw pg_ak pg_yn pg_cc pg_rt 58 q.1 q.2 := pg_chop 40 _ pg_lk58_0 (by rw [List.drop_drop]; exact h1)
  exact fun q hq => ⟨pg_dec58 q hq, h0 q hq⟩
set_option maxRecDepth 100000 in
theorem pg_ok59 : ∀ q ∈ pg_c59, mj_oki pg pg_cl pg_ty pg_Ts pg_Nw pg_ak pg_yn pg_cc pg_rt 59 q.1 q.2 := by
  have h1 : ∀ q ∈ pg_c59.drop 40, mj_lk pg pg_cl pg_ty pg_Ts pg_Nw pg_ak pg_yn pg_cc pg_rt 59 q.1 q.2 := fun q hq => absurd hq (by rw [show pg_c59.drop 40 = [] from rfl]; exact List.not_mem_nil)
  have h0 : ∀ q ∈ pg_c59.drop 0, mj_lk pg pg_cl pg_ty pg_Ts pg_Nw pg_ak pg_yn pg_cc pg_rt 59 q.1 q.2 := pg_chop 40 _ pg_lk59_0 (by rw [List.drop_drop]; exact h1)
  exact fun q hq => ⟨pg_dec59 q hq, h0 q hq⟩
set_option maxRecDepth 100000 in
theorem pg_ok60 : ∀ q ∈ pg_c60, mj_oki pg pg_cl pg_ty pg_Ts pg_Nw pg_ak pg_yn pg_cc pg_rt 60 q.1 q.2 := by
  have h1 : ∀ q ∈ pg_c60.drop 40, mj_lk pg pg_cl pg_ty pg_Ts pg_Nw pg_ak pg_yn pg_cc pg_rt 60 q.1 q.2 := fun q hq => absurd hq (by rw [show pg_c60.drop 40 = [] from rfl]; exact List.not_mem_nil)
  have h0 : ∀ q ∈ pg_c60.drop 0, mj_lk pg pg_cl pg_ty pg_Ts pg_Nw pg_ak pg_yn pg_cc pg_rt 60 q.1 q.2 := pg_chop 40 _ pg_lk60_0 (by rw [List.drop_drop]; exact h1)
  exact fun q hq => ⟨pg_dec60 q hq, h0 q hq⟩
set_option maxRecDepth 100000 in
theorem pg_ok61 : ∀ q ∈ pg_c61, mj_oki pg pg_cl pg_ty pg_Ts pg_Nw pg_ak pg_yn pg_cc pg_rt 61 q.1 q.2 := by
  have h1 : ∀ q ∈ pg_c61.drop 40, mj_lk pg pg_cl pg_ty pg_Ts pg_Nw pg_ak pg_yn pg_cc pg_rt 61 q.1 q.2 := fun q hq => absurd hq (by rw [show pg_c61.drop 40 = [] from rfl]; exact List.not_mem_nil)
  have h0 : ∀ q ∈ pg_c61.drop 0, mj_lk pg pg_cl pg_ty pg_Ts pg_Nw pg_ak pg_yn pg_cc pg_rt 61 q.1 q.2 := pg_chop 40 _ pg_lk61_0 (by rw [List.drop_drop]; exact h1)
  exact fun q hq => ⟨pg_dec61 q hq, h0 q hq⟩
set_option maxRecDepth 100000 in
theorem pg_ok62 : ∀ q ∈ pg_c62, mj_oki pg pg_cl pg_ty pg_Ts pg_Nw pg_ak pg_yn pg_cc pg_rt 62 q.1 q.2 := by
  have h1 : ∀ q ∈ pg_c62.drop 40, mj_lk pg pg_cl pg_ty pg_Ts pg_Nw pg_ak pg_yn pg_cc pg_rt 62 q.1 q.2 := fun q hq => absurd hq (by rw [show pg_c62.drop 40 = [] from rfl]; exact List.not_mem_nil)
  have h0 : ∀ q ∈ pg_c62.drop 0, mj_lk pg pg_cl pg_ty pg_Ts pg_Nw pg_ak pg_yn pg_cc pg_rt 62 q.1 q.2 := pg_chop 40 _ pg_lk62_0 (by rw [List.drop_drop]; exact h1)
  exact fun q hq => ⟨pg_dec62 q hq, h0 q hq⟩
set_option maxRecDepth 100000 in
theorem pg_ok63 : ∀ q ∈ pg_c63, mj_oki pg pg_cl pg_ty pg_Ts pg_Nw pg_ak pg_yn pg_cc pg_rt 63 q.1 q.2 := by
  have h1 : ∀ q ∈ pg_c63.drop 40, mj_lk pg pg_cl pg_ty pg_Ts pg_Nw pg_ak pg_yn pg_cc pg_rt 63 q.1 q.2 := fun q hq => absurd hq (by rw [show pg_c63.drop 40 = [] from rfl]; exact List.not_mem_nil)
  have h0 : ∀ q ∈ pg_c63.drop 0, mj_lk pg pg_cl pg_ty pg_Ts pg_Nw pg_ak pg_yn pg_cc pg_rt 63 q.1 q.2 := pg_chop 40 _ pg_lk63_0 (by rw [List.drop_drop]; exact h1)
  exact fun q hq => ⟨pg_dec63 q hq, h0 q hq⟩
set_option maxRecDepth 100000 in
theorem pg_ok64 : ∀ q ∈ pg_c64, mj_oki pg pg_cl pg_ty pg_Ts pg_Nw pg_ak pg_yn pg_cc pg_rt 64 q.1 q.2 := by
  have h1 : ∀ q ∈ pg_c64.drop 40, mj_lk pg pg_cl pg_ty pg_Ts pg_Nw pg_ak pg_yn pg_cc pg_rt 64 q.1 q.2 := fun q hq => absurd hq (by rw [show pg_c64.drop 40 = [] from rfl]; exact List.not_mem_nil)
  have h0 : ∀ q ∈ pg_c64.drop 0, mj_lk pg pg_cl pg_ty pg_Ts pg_Nw pg_ak pg_yn pg_cc pg_rt 64 q.1 q.2 := pg_chop 40 _ pg_lk64_0 (by rw [List.drop_drop]; exact h1)
  exact fun q hq => ⟨pg_dec64 q hq, h0 q hq⟩
set_option maxRecDepth 100000 in
theorem pg_ok65 : ∀ q ∈ pg_c65, mj_oki pg pg_cl pg_ty pg_Ts pg_Nw pg_ak pg_yn pg_cc pg_rt 65 q.1 q.2 := by
  have h1 : ∀ q ∈ pg_c65.drop 40, mj_lk pg pg_cl pg_ty pg_Ts pg_Nw pg_ak pg_yn pg_cc pg_rt 65 q.1 q.2 := fun q hq => absurd hq (by rw [show pg_c65.drop 40 = [] from rfl]; exact List.not_mem_nil)
  have h0 : ∀ q ∈ pg_c65.drop 0, mj_lk pg pg_cl pg_ty pg_Ts pg_Nw pg_ak pg_yn pg_cc pg_rt 65 q.1 q.2 := pg_chop 40 _ pg_lk65_0 (by rw [List.drop_drop]; exact h1)
  exact fun q hq => ⟨pg_dec65 q hq, h0 q hq⟩
set_option maxRecDepth 100000 in
theorem pg_ok66 : ∀ q ∈ pg_c66, mj_oki pg pg_cl pg_ty pg_Ts pg_Nw pg_ak pg_yn pg_cc pg_rt 66 q.1 q.2 := by
  have h1 : ∀ q ∈ pg_c66.drop 40, mj_lk pg pg_cl pg_ty pg_Ts pg_Nw pg_ak pg_yn pg_cc pg_rt 66 q.1 q.2 := fun q hq => absurd hq (by rw [show pg_c66.drop 40 = [] from rfl]; exact List.not_mem_nil)
  have h0 : ∀ q ∈ pg_c66.drop 0, mj_lk pg pg_cl pg_ty pg_Ts pg_Nw pg_ak pg_yn pg_cc pg_rt 66 q.1 q.2 := pg_chop 40 _ pg_lk66_0 (by rw [List.drop_drop]; exact h1)
  exact fun q hq => ⟨pg_dec66 q hq, h0 q hq⟩
set_option maxRecDepth 100000 in
theorem pg_ok67 : ∀ q ∈ pg_c67, mj_oki pg pg_cl pg_ty pg_Ts pg_Nw pg_ak pg_yn pg_cc pg_rt 67 q.1 q.2 := by
  have h1 : ∀ q ∈ pg_c67.drop 40, mj_lk pg pg_cl pg_ty pg_Ts pg_Nw pg_ak pg_yn pg_cc pg_rt 67 q.1 q.2 := fun q hq => absurd hq (by rw [show pg_c67.drop 40 = [] from rfl]; exact List.not_mem_nil)
  have h0 : ∀ q ∈ pg_c67.drop 0, mj_lk pg pg_cl pg_ty pg_Ts pg_Nw pg_ak pg_yn pg_cc pg_rt 67 q.1 q.2 := pg_chop 40 _ pg_lk67_0 (by rw [List.drop_drop]; exact h1)
  exact fun q hq => ⟨pg_dec67 q hq, h0 q hq⟩
set_option maxRecDepth 100000 in
theorem pg_ok68 : ∀ q ∈ pg_c68, mj_oki pg pg_cl pg_ty pg_Ts pg_Nw pg_ak pg_yn pg_cc pg_rt 68 q.1 q.2 := by
  have h1 : ∀ q ∈ pg_c68.drop 40, mj_lk pg pg_cl pg_ty pg_Ts pg_Nw pg_ak pg_yn pg_cc pg_rt 68 q.1 q.2 := fun q hq => absurd hq (by rw [show pg_c68.drop 40 = [] from rfl]; exact List.not_mem_nil)
  have h0 : ∀ q ∈ pg_c68.drop 0, mj_lk pg pg_cl pg_ty pg_Ts pg_Nw pg_ak pg_yn pg_cc pg_rt 68 q.1 q.2 := pg_chop 40 _ pg_lk68_0 (by rw [List.drop_drop]; exact h1)
  exact fun q hq => ⟨pg_dec68 q hq, h0 q hq⟩
set_option maxRecDepth 100000 in
theorem pg_ok69 : ∀ q ∈ pg_c69, mj_oki pg pg_cl pg_ty pg_Ts pg_Nw pg_ak pg_yn pg_cc pg_rt 69 q.1 q.2 := by
  have h1 : ∀ q ∈ pg_c69.drop 40, mj_lk pg pg_cl pg_ty pg_Ts pg_Nw pg_ak pg_yn pg_cc pg_rt 69 q.1 q.2 := fun q hq => absurd hq (by rw [show pg_c69.drop 40 = [] from rfl]; exact List.not_mem_nil)
  have h0 : ∀ q ∈ pg_c69.drop 0, mj_lk pg pg_cl pg_ty pg_Ts pg_Nw pg_ak pg_yn pg_cc pg_rt 69 q.1 q.2 := pg_chop 40 _ pg_lk69_0 (by rw [List.drop_drop]; exact h1)
  exact fun q hq => ⟨pg_dec69 q hq, h0 q hq⟩
set_option maxRecDepth 100000 in
theorem pg_ok70 : ∀ q ∈ pg_c70, mj_oki pg pg_cl pg_ty pg_Ts pg_Nw pg_ak pg_yn pg_cc pg_rt 70 q.1 q.2 := by
  have h1 : ∀ q ∈ pg_c70.drop 40, mj_lk pg pg_cl pg_ty pg_Ts pg_Nw pg_ak pg_yn pg_cc pg_rt 70 q.1 q.2 := fun q hq => absurd hq (by rw [show pg_c70.drop 40 = [] from rfl]; exact List.not_mem_nil)
  have h0 : ∀ q ∈ pg_c70.drop 0, mj_lk pg pg_cl pg_ty pg_Ts pg_Nw pg_ak pg_yn pg_cc pg_rt 70 q.1 q.2 := pg_chop 40 _ pg_lk70_0 (by rw [List.drop_drop]; exact h1)
  exact fun q hq => ⟨pg_dec70 q hq, h0 q hq⟩
set_option maxRecDepth 100000 in
theorem pg_ok71 : ∀ q ∈ pg_c71, mj_oki pg pg_cl pg_ty pg_Ts pg_Nw pg_ak pg_yn pg_cc pg_rt 71 q.1 q.2 := by
  have h1 : ∀ q ∈ pg_c71.drop 40, mj_lk pg pg_cl pg_ty pg_Ts pg_Nw pg_ak pg_yn pg_cc pg_rt 71 q.1 q.2 := fun q hq => absurd hq (by rw [show pg_c71.drop 40 = [] from rfl]; exact List.not_mem_nil)
  have h0 : ∀ q ∈ pg_c71.drop 0, mj_lk pg pg_cl pg_ty pg_Ts pg_Nw pg_ak pg_yn pg_cc pg_rt 71 q.1 q.2 := pg_chop 40 _ pg_lk71_0 (by rw [List.drop_drop]; exact h1)
  exact fun q hq => ⟨pg_dec71 q hq, h0 q hq⟩
set_option maxRecDepth 100000 in
theorem pg_ok72 : ∀ q ∈ pg_c72, mj_oki pg pg_cl pg_ty pg_Ts pg_Nw pg_ak pg_yn pg_cc pg_rt 72 q.1 q.2 := by
  have h2 : ∀ q ∈ pg_c72.drop 80, mj_lk pg pg_cl pg_ty pg_Ts pg_Nw pg_ak pg_yn pg_cc pg_rt 72 q.1 q.2 := fun q hq => absurd hq (by rw [show pg_c72.drop 80 = [] from rfl]; exact List.not_mem_nil)
  have h1 : ∀ q ∈ pg_c72.drop 40, mj_lk pg pg_cl pg_ty pg_Ts pg_Nw pg_ak pg_yn pg_cc pg_rt 72 q.1 q.2 := pg_chop 40 _ pg_lk72_1 (by rw [List.drop_drop]; exact h2)
  have h0 : ∀ q ∈ pg_c72.drop 0, mj_lk pg pg_cl pg_ty pg_Ts pg_Nw pg_ak pg_yn pg_cc pg_rt 72 q.1 q.2 := pg_chop 40 _ pg_lk72_0 (by rw [List.drop_drop]; exact h1)
  exact fun q hq => ⟨pg_dec72 q hq, h0 q hq⟩
set_option maxRecDepth 100000 in
theorem pg_ok73 : ∀ q ∈ pg_c73, mj_oki pg pg_cl pg_ty pg_Ts pg_Nw pg_ak pg_yn pg_cc pg_rt 73 q.1 q.2 := by
  have h1 : ∀ q ∈ pg_c73.drop 40, mj_lk pg pg_cl pg_ty pg_Ts pg_Nw pg_ak pg_yn pg_cc pg_rt 73 q.1 q.2 := fun q hq => absurd hq (by rw [show pg_c73.drop 40 = [] from rfl]; exact List.not_mem_nil)
  have h0 : ∀ q ∈ pg_c73.drop 0, mj_lk pg pg_cl pg_ty pg_Ts pg_Nw pg_ak pg_yn pg_cc pg_rt 73 q.1 q.2 := pg_chop 40 _ pg_lk73_0 (by rw [List.drop_drop]; exact h1)
  exact fun q hq => ⟨pg_dec73 q hq, h0 q hq⟩
set_option maxRecDepth 100000 in
theorem pg_ok74 : ∀ q ∈ pg_c74, mj_oki pg pg_cl pg_ty pg_Ts pg_Nw pg_ak pg_yn pg_cc pg_rt 74 q.1 q.2 := by
  have h1 : ∀ q ∈ pg_c74.drop 40, mj_lk pg pg_cl pg_ty pg_Ts pg_Nw pg_ak pg_yn pg_cc pg_rt 74 q.1 q.2 := fun q hq => absurd hq (by rw [show pg_c74.drop 40 = [] from rfl]; exact List.not_mem_nil)
  have h0 : ∀ q ∈ pg_c74.drop 0, mj_lk pg pg_cl pg_ty pg_Ts pg_Nw pg_ak pg_yn pg_cc pg_rt 74 q.1 q.2 := pg_chop 40 _ pg_lk74_0 (by rw [List.drop_drop]; exact h1)
  exact fun q hq => ⟨pg_dec74 q hq, h0 q hq⟩
set_option maxRecDepth 100000 in
theorem pg_ok75 : ∀ q ∈ pg_c75, mj_oki pg pg_cl pg_ty pg_Ts pg_Nw pg_ak pg_yn pg_cc pg_rt 75 q.1 q.2 := by
  have h1 : ∀ q ∈ pg_c75.drop 40, mj_lk pg pg_cl pg_ty pg_Ts pg_Nw pg_ak pg_yn pg_cc pg_rt 75 q.1 q.2 := fun q hq => absurd hq (by rw [show pg_c75.drop 40 = [] from rfl]; exact List.not_mem_nil)
  have h0 : ∀ q ∈ pg_c75.drop 0, mj_lk pg pg_cl pg_ty pg_Ts pg_Nw pg_ak pg_yn pg_cc pg_rt 75 q.1 q.2 := pg_chop 40 _ pg_lk75_0 (by rw [List.drop_drop]; exact h1)
  exact fun q hq => ⟨pg_dec75 q hq, h0 q hq⟩
set_option maxRecDepth 100000 in
theorem pg_ok76 : ∀ q ∈ pg_c76, mj_oki pg pg_cl pg_ty pg_Ts pg_Nw pg_ak pg_yn pg_cc pg_rt 76 q.1 q.2 := by
  have h1 : ∀ q ∈ pg_c76.drop 40, mj_lk pg pg_cl pg_ty pg_Ts pg_Nw pg_ak pg_yn pg_cc pg_rt 76 q.1 q.2 := fun q hq => absurd hq (by rw [show pg_c76.drop 40 = [] from rfl]; exact List.not_mem_nil)
  have h0 : ∀ q ∈ pg_c76.drop 0, mj_lk pg pg_cl pg_ty pg_Ts pg_Nw pg_ak pg_yn pg_cc pg_rt 76 q.1 q.2 := pg_chop 40 _ pg_lk76_0 (by rw [List.drop_drop]; exact h1)
  exact fun q hq => ⟨pg_dec76 q hq, h0 q hq⟩
set_option maxRecDepth 100000 in
theorem pg_ok77 : ∀ q ∈ pg_c77, mj_oki pg pg_cl pg_ty pg_Ts pg_Nw pg_ak pg_yn pg_cc pg_rt 77 q.1 q.2 := by
  have h1 : ∀ q ∈ pg_c77.drop 40, mj_lk pg pg_cl pg_ty pg_Ts pg_Nw pg_ak pg_yn pg_cc pg_rt 77 q.1 q.2 := fun q hq => absurd hq (by rw [show pg_c77.drop 40 = [] from rfl]; exact List.not_mem_nil)
  have h0 : ∀ q ∈ pg_c77.drop 0, mj_lk pg pg_cl pg_ty pg_Ts pg_Nw pg_ak pg_yn pg_cc pg_rt 77 q.1 q.2 := pg_chop 40 _ pg_lk77_0 (by rw [List.drop_drop]; exact h1)
  exact fun q hq => ⟨pg_dec77 q hq, h0 q hq⟩
set_option maxRecDepth 100000 in
theorem pg_ok78 : ∀ q ∈ pg_c78, mj_oki pg pg_cl pg_ty pg_Ts pg_Nw pg_ak pg_yn pg_cc pg_rt 78 q.1 q.2 := by
  have h1 : ∀ q ∈ pg_c78.drop 40, mj_lk pg pg_cl pg_ty pg_Ts pg_Nw pg_ak pg_yn pg_cc pg_rt 78 q.1 q.2 := fun q hq => absurd hq (by rw [show pg_c78.drop 40 = [] from rfl]; exact List.not_mem_nil)
  have h0 : ∀ q ∈ pg_c78.drop 0, mj_lk pg pg_cl pg_ty pg_Ts pg_Nw pg_ak pg_yn pg_cc pg_rt 78 q.1 q.2 := pg_chop 40 _ pg_lk78_0 (by rw [List.drop_drop]; exact h1)
  exact fun q hq => ⟨pg_dec78 q hq, h0 q hq⟩
set_option maxRecDepth 100000 in
theorem pg_ok79 : ∀ q ∈ pg_c79, mj_oki pg pg_cl pg_ty pg_Ts pg_Nw pg_ak pg_yn pg_cc pg_rt 79 q.1 q.2 := by
  have h2 : ∀ q ∈ pg_c79.drop 80, mj_lk pg pg_cl pg_ty pg_Ts pg_Nw pg_ak pg_yn pg_cc pg_rt 79 q.1 q.2 := fun q hq => absurd hq (by rw [show pg_c79.drop 80 = [] from rfl]; exact List.not_mem_nil)
  have h1 : ∀ q ∈ pg_c79.drop 40, mj_lk pg pg_cl pg_ty pg_Ts pg_Nw pg_ak pg_yn pg_cc pg_rt 79 q.1 q.2 := pg_chop 40 _ pg_lk79_1 (by rw [List.drop_drop]; exact h2)
  have h0 : ∀ q ∈ pg_c79.drop 0, mj_lk pg pg_cl pg_ty pg_Ts pg_Nw pg_ak pg_yn pg_cc pg_rt 79 q.1 q.2 := pg_chop 40 _ pg_lk79_0 (by rw [List.drop_drop]; exact h1)
  exact fun q hq => ⟨pg_dec79 q hq, h0 q hq⟩
set_option maxRecDepth 100000 in
theorem pg_ok80 : ∀ q ∈ pg_c80, mj_oki pg pg_cl pg_ty pg_Ts pg_Nw pg_ak pg_yn pg_cc pg_rt 80 q.1 q.2 := by
  have h1 : ∀ q ∈ pg_c80.drop 40, mj_lk pg pg_cl pg_ty pg_Ts pg_Nw pg_ak pg_yn pg_cc pg_rt 80 q.1 q.2 := fun q hq => absurd hq (by rw [show pg_c80.drop 40 = [] from rfl]; exact List.not_mem_nil)
  have h0 : ∀ q ∈ pg_c80.drop 0, mj_lk pg pg_cl pg_ty pg_Ts pg_Nw pg_ak pg_yn pg_cc pg_rt 80 q.1 q.2 := pg_chop 40 _ pg_lk80_0 (by rw [List.drop_drop]; exact h1)
  exact fun q hq => ⟨pg_dec80 q hq, h0 q hq⟩
set_option maxRecDepth 100000 in
theorem pg_ok81 : ∀ q ∈ pg_c81, mj_oki pg pg_cl pg_ty pg_Ts pg_Nw pg_ak pg_yn pg_cc pg_rt 81 q.1 q.2 := by
  have h1 : ∀ q ∈ pg_c81.drop 40, mj_lk pg pg_cl pg_ty pg_Ts pg_Nw pg_ak pg_yn pg_cc pg_rt 81 q.1 q.2 := fun q hq => absurd hq (by rw [show pg_c81.drop 40 = [] from rfl]; exact List.not_mem_nil)
  have h0 : ∀ q ∈ pg_c81.drop 0, mj_lk pg pg_cl pg_ty pg_Ts pg_Nw pg_ak pg_yn pg_cc pg_rt 81 q.1 q.2 := pg_chop 40 _ pg_lk81_0 (by rw [List.drop_drop]; exact h1)
  exact fun q hq => ⟨pg_dec81 q hq, h0 q hq⟩
set_option maxRecDepth 100000 in
theorem pg_ok82 : ∀ q ∈ pg_c82, mj_oki pg pg_cl pg_ty pg_Ts pg_Nw pg_ak pg_yn pg_cc pg_rt 82 q.1 q.2 := by
  have h1 : ∀ q ∈ pg_c82.drop 40, mj_lk pg pg_cl pg_ty pg_Ts pg_Nw pg_ak pg_yn pg_cc pg_rt 82 q.1 q.2 := fun q hq => absurd hq (by rw [show pg_c82.drop 40 = [] from rfl]; exact List.not_mem_nil)
  have h0 : ∀ q ∈ pg_c82.drop 0, mj_lk pg pg_cl pg_ty pg_Ts pg_Nw pg_ak pg_yn pg_cc pg_rt 82 q.1 q.2 := pg_chop 40 _ pg_lk82_0 (by rw [List.drop_drop]; exact h1)
  exact fun q hq => ⟨pg_dec82 q hq, h0 q hq⟩
set_option maxRecDepth 100000 in
theorem pg_ok83 : ∀ q ∈ pg_c83, mj_oki pg pg_cl pg_ty pg_Ts pg_Nw pg_ak pg_yn pg_cc pg_rt 83 q.1 q.2 := by
  have h2 : ∀ q ∈ pg_c83.drop 80, mj_lk pg pg_cl pg_ty pg_Ts pg_Nw pg_ak pg_yn pg_cc pg_rt 83 q.1 q.2 := fun q hq => absurd hq (by rw [show pg_c83.drop 80 = [] from rfl]; exact List.not_mem_nil)
  have h1 : ∀ q ∈ pg_c83.drop 40, mj_lk pg pg_cl pg_ty pg_Ts pg_Nw pg_ak pg_yn pg_cc pg_rt 83 q.1 q.2 := pg_chop 40 _ pg_lk83_1 (by rw [List.drop_drop]; exact h2)
  have h0 : ∀ q ∈ pg_c83.drop 0, mj_lk pg pg_cl pg_ty pg_Ts pg_Nw pg_ak pg_yn pg_cc pg_rt 83 q.1 q.2 := pg_chop 40 _ pg_lk83_0 (by rw [List.drop_drop]; exact h1)
  exact fun q hq => ⟨pg_dec83 q hq, h0 q hq⟩
set_option maxRecDepth 100000 in
theorem pg_ok84 : ∀ q ∈ pg_c84, mj_oki pg pg_cl pg_ty pg_Ts pg_Nw pg_ak pg_yn pg_cc pg_rt 84 q.1 q.2 := by
  have h2 : ∀ q ∈ pg_c84.drop 80, mj_lk pg pg_cl pg_ty pg_Ts pg_Nw pg_ak pg_yn pg_cc pg_rt 84 q.1 q.2 := fun q hq => absurd hq (by rw [show pg_c84.drop 80 = [] from rfl]; exact List.not_mem_nil)
  have h1 : ∀ q ∈ pg_c84.drop 40, mj_lk pg pg_cl pg_ty pg_Ts pg_Nw pg_ak pg_yn pg_cc pg_rt 84 q.1 q.2 := pg_chop 40 _ pg_lk84_1 (by rw [List.drop_drop]; exact h2)
  have h0 : ∀ q ∈ pg_c84.drop 0, mj_lk pg pg_cl pg_ty pg_Ts pg_Nw pg_ak pg_yn pg_cc pg_rt 84 q.1 q.2 := pg_chop 40 _ pg_lk84_0 (by rw [List.drop_drop]; exact h1)
  exact fun q hq => ⟨pg_dec84 q hq, h0 q hq⟩
set_option maxRecDepth 100000 in
theorem pg_ok85 : ∀ q ∈ pg_c85, mj_oki pg pg_cl pg_ty pg_Ts pg_Nw pg_ak pg_yn pg_cc pg_rt 85 q.1 q.2 := by
  have h1 : ∀ q ∈ pg_c85.drop 40, mj_lk pg pg_cl pg_ty pg_Ts pg_Nw pg_ak pg_yn pg_cc pg_rt 85 q.1 q.2 := fun q hq => absurd hq (by rw [show pg_c85.drop 40 = [] from rfl]; exact List.not_mem_nil)
  have h0 : ∀ q ∈ pg_c85.drop 0, mj_lk pg pg_cl pg_ty pg_Ts pg_Nw pg_ak pg_yn pg_cc pg_rt 85 q.1 q.2 := pg_chop 40 _ pg_lk85_0 (by rw [List.drop_drop]; exact h1)
  exact fun q hq => ⟨pg_dec85 q hq, h0 q hq⟩
set_option maxRecDepth 100000 in
theorem pg_ok86 : ∀ q ∈ pg_c86, mj_oki pg pg_cl pg_ty pg_Ts pg_Nw pg_ak pg_yn pg_cc pg_rt 86 q.1 q.2 := by
  have h2 : ∀ q ∈ pg_c86.drop 80, mj_lk pg pg_cl pg_ty pg_Ts pg_Nw pg_ak pg_yn pg_cc pg_rt 86 q.1 q.2 := fun q hq => absurd hq (by rw [show pg_c86.drop 80 = [] from rfl]; exact List.not_mem_nil)
  have h1 : ∀ q ∈ pg_c86.drop 40, mj_lk pg pg_cl pg_ty pg_Ts pg_Nw pg_ak pg_yn pg_cc pg_rt 86 q.1 q.2 := pg_chop 40 _ pg_lk86_1 (by rw [List.drop_drop]; exact h2)
  have h0 : ∀ q ∈ pg_c86.drop 0, mj_lk pg pg_cl pg_ty pg_Ts pg_Nw pg_ak pg_yn pg_cc pg_rt 86 q.1 q.2 := pg_chop 40 _ pg_lk86_0 (by rw [List.drop_drop]; exact h1)
  exact fun q hq => ⟨pg_dec86 q hq, h0 q hq⟩
set_option maxRecDepth 100000 in
theorem pg_ok87 : ∀ q ∈ pg_c87, mj_oki pg pg_cl pg_ty pg_Ts pg_Nw pg_ak pg_yn pg_cc pg_rt 87 q.1 q.2 := by
  have h2 : ∀ q ∈ pg_c87.drop 80, mj_lk pg pg_cl pg_ty pg_Ts pg_Nw pg_ak pg_yn pg_cc pg_rt 87 q.1 q.2 := fun q hq => absurd hq (by rw [show pg_c87.drop 80 = [] from rfl]; exact List.not_mem_nil)
  have h1 : ∀ q ∈ pg_c87.drop 40, mj_lk pg pg_cl pg_ty pg_Ts pg_Nw pg_ak pg_yn pg_cc pg_rt 87 q.1 q.2 := pg_chop 40 _ pg_lk87_1 (by rw [List.drop_drop]; exact h2)
  have h0 : ∀ q ∈ pg_c87.drop 0, mj_lk pg pg_cl pg_ty pg_Ts pg_Nw pg_ak pg_yn pg_cc pg_rt 87 q.1 q.2 := pg_chop 40 _ pg_lk87_0 (by rw [List.drop_drop]; exact h1)
  exact fun q hq => ⟨pg_dec87 q hq, h0 q hq⟩
set_option maxRecDepth 100000 in
theorem pg_ok88 : ∀ q ∈ pg_c88, mj_oki pg pg_cl pg_ty pg_Ts pg_Nw pg_ak pg_yn pg_cc pg_rt 88 q.1 q.2 := by
  have h2 : ∀ q ∈ pg_c88.drop 80, mj_lk pg pg_cl pg_ty pg_Ts pg_Nw pg_ak pg_yn pg_cc pg_rt 88 q.1 q.2 := fun q hq => absurd hq (by rw [show pg_c88.drop 80 = [] from rfl]; exact List.not_mem_nil)
  have h1 : ∀ q ∈ pg_c88.drop 40, mj_lk pg pg_cl pg_ty pg_Ts pg_Nw pg_ak pg_yn pg_cc pg_rt 88 q.1 q.2 := pg_chop 40 _ pg_lk88_1 (by rw [List.drop_drop]; exact h2)
  have h0 : ∀ q ∈ pg_c88.drop 0, mj_lk pg pg_cl pg_ty pg_Ts pg_Nw pg_ak pg_yn pg_cc pg_rt 88 q.1 q.2 := pg_chop 40 _ pg_lk88_0 (by rw [List.drop_drop]; exact h1)
  exact fun q hq => ⟨pg_dec88 q hq, h0 q hq⟩
set_option maxRecDepth 100000 in
theorem pg_ok89 : ∀ q ∈ pg_c89, mj_oki pg pg_cl pg_ty pg_Ts pg_Nw pg_ak pg_yn pg_cc pg_rt 89 q.1 q.2 := by
  have h1 : ∀ q ∈ pg_c89.drop 40, mj_lk pg pg_cl pg_ty pg_Ts pg_Nw pg_ak pg_yn pg_cc pg_rt 89 q.1 q.2 := fun q hq => absurd hq (by rw [show pg_c89.drop 40 = [] from rfl]; exact List.not_mem_nil)
  have h0 : ∀ q ∈ pg_c89.drop 0, mj_lk pg pg_cl pg_ty pg_Ts pg_Nw pg_ak pg_yn pg_cc pg_rt 89 q.1 q.2 := pg_chop 40 _ pg_lk89_0 (by rw [List.drop_drop]; exact h1)
  exact fun q hq => ⟨pg_dec89 q hq, h0 q hq⟩
set_option maxRecDepth 100000 in
theorem pg_ok90 : ∀ q ∈ pg_c90, mj_oki pg pg_cl pg_ty pg_Ts pg_Nw pg_ak pg_yn pg_cc pg_rt 90 q.1 q.2 := by
  have h1 : ∀ q ∈ pg_c90.drop 40, mj_lk pg pg_cl pg_ty pg_Ts pg_Nw pg_ak pg_yn pg_cc pg_rt 90 q.1 q.2 := fun q hq => absurd hq (by rw [show pg_c90.drop 40 = [] from rfl]; exact List.not_mem_nil)
  have h0 : ∀ q ∈ pg_c90.drop 0, mj_lk pg pg_cl pg_ty pg_Ts pg_Nw pg_ak pg_yn pg_cc pg_rt 90 q.1 q.2 := pg_chop 40 _ pg_lk90_0 (by rw [List.drop_drop]; exact h1)
  exact fun q hq => ⟨pg_dec90 q hq, h0 q hq⟩
set_option maxRecDepth 100000 in
theorem pg_ok91 : ∀ q ∈ pg_c91, mj_oki pg pg_cl pg_ty pg_Ts pg_Nw pg_ak pg_yn pg_cc pg_rt 91 q.1 q.2 := by
  have h1 : ∀ q ∈ pg_c91.drop 40, mj_lk pg pg_cl pg_ty pg_Ts pg_Nw pg_ak pg_yn pg_cc pg_rt 91 q.1 q.2 := fun q hq => absurd hq (by rw [show pg_c91.drop 40 = [] from rfl]; exact List.not_mem_nil)
  have h0 : ∀ q ∈ pg_c91.drop 0, mj_lk pg pg_cl pg_ty pg_Ts pg_Nw pg_ak pg_yn pg_cc pg_rt 91 q.1 q.2 := pg_chop 40 _ pg_lk91_0 (by rw [List.drop_drop]; exact h1)
  exact fun q hq => ⟨pg_dec91 q hq, h0 q hq⟩
set_option maxRecDepth 100000 in
theorem pg_ok92 : ∀ q ∈ pg_c92, mj_oki pg pg_cl pg_ty pg_Ts pg_Nw pg_ak pg_yn pg_cc pg_rt 92 q.1 q.2 := by
  have h1 : ∀ q ∈ pg_c92.drop 40, mj_lk pg pg_cl pg_ty pg_Ts pg_Nw pg_ak pg_yn pg_cc pg_rt 92 q.1 q.2 := fun q hq => absurd hq (by rw [show pg_c92.drop 40 = [] from rfl]; exact List.not_mem_nil)
  have h0 : ∀ q ∈ pg_c92.drop 0, mj_lk pg pg_cl pg_ty pg_Ts pg_Nw pg_ak pg_yn pg_cc pg_rt 92 q.1 q.2 := pg_chop 40 _ pg_lk92_0 (by rw [List.drop_drop]; exact h1)
  exact fun q hq => ⟨pg_dec92 q hq, h0 q hq⟩
set_option maxRecDepth 100000 in
theorem pg_ok93 : ∀ q ∈ pg_c93, mj_oki pg pg_cl pg_ty pg_Ts pg_Nw pg_ak pg_yn pg_cc pg_rt 93 q.1 q.2 := by
  have h1 : ∀ q ∈ pg_c93.drop 40, mj_lk pg pg_cl pg_ty pg_Ts pg_Nw pg_ak pg_yn pg_cc pg_rt 93 q.1 q.2 := fun q hq => absurd hq (by rw [show pg_c93.drop 40 = [] from rfl]; exact List.not_mem_nil)
  have h0 : ∀ q ∈ pg_c93.drop 0, mj_lk pg pg_cl pg_ty pg_Ts pg_Nw pg_ak pg_yn pg_cc pg_rt 93 q.1 q.2 := pg_chop 40 _ pg_lk93_0 (by rw [List.drop_drop]; exact h1)
  exact fun q hq => ⟨pg_dec93 q hq, h0 q hq⟩
set_option maxRecDepth 100000 in
theorem pg_ok94 : ∀ q ∈ pg_c94, mj_oki pg pg_cl pg_ty pg_Ts pg_Nw pg_ak pg_yn pg_cc pg_rt 94 q.1 q.2 := by
  have h1 : ∀ q ∈ pg_c94.drop 40, mj_lk pg pg_cl pg_ty pg_Ts pg_Nw pg_ak pg_yn pg_cc pg_rt 94 q.1 q.2 := fun q hq => absurd hq (by rw [show pg_c94.drop 40 = [] from rfl]; exact List.not_mem_nil)
  have h0 : ∀ q ∈ pg_c94.drop 0, mj_lk pg pg_cl pg_ty pg_Ts pg_Nw pg_ak pg_yn pg_cc pg_rt 94 q.1 q.2 := pg_chop 40 _ pg_lk94_0 (by rw [List.drop_drop]; exact h1)
  exact fun q hq => ⟨pg_dec94 q hq, h0 q hq⟩
set_option maxRecDepth 100000 in
theorem pg_ok95 : ∀ q ∈ pg_c95, mj_oki pg pg_cl pg_ty pg_Ts pg_Nw pg_ak pg_yn pg_cc pg_rt 95 q.1 q.2 := by
  have h1 : ∀ q ∈ pg_c95.drop 40, mj_lk pg pg_cl pg_ty pg_Ts pg_Nw pg_ak pg_yn pg_cc pg_rt 95 q.1 q.2 := fun q hq => absurd hq (by rw [show pg_c95.drop 40 = [] from rfl]; exact List.not_mem_nil)
  have h0 : ∀ q ∈ pg_c95.drop 0, mj_lk pg pg_cl pg_ty pg_Ts pg_Nw pg_ak pg_yn pg_cc pg_rt 95 q.1 q.2 := pg_chop 40 _ pg_lk95_0 (by rw [List.drop_drop]; exact h1)
  exact fun q hq => ⟨pg_dec95 q hq, h0 q hq⟩
set_option maxRecDepth 100000 in
theorem pg_ok96 : ∀ q ∈ pg_c96, mj_oki pg pg_cl pg_ty pg_Ts pg_Nw pg_ak pg_yn pg_cc pg_rt 96 q.1 q.2 := by
  have h1 : ∀ q ∈ pg_c96.drop 40, mj_lk pg pg_cl pg_ty pg_Ts pg_Nw pg_ak pg_yn pg_cc pg_rt 96 q.1 q.2 := fun q hq => absurd hq (by rw [show pg_c96.drop 40 = [] from rfl]; exact List.not_mem_nil)
  have h0 : ∀ q ∈ pg_c96.drop 0, mj_lk pg pg_cl pg_ty pg_Ts pg_Nw pg_ak pg_yn pg_cc pg_rt 96 q.1 q.2 := pg_chop 40 _ pg_lk96_0 (by rw [List.drop_drop]; exact h1)
  exact fun q hq => ⟨pg_dec96 q hq, h0 q hq⟩
set_option maxRecDepth 100000 in
theorem pg_ok97 : ∀ q ∈ pg_c97, mj_oki pg pg_cl pg_ty pg_Ts pg_Nw pg_ak pg_yn pg_cc pg_rt 97 q.1 q.2 := by
  have h1 : ∀ q ∈ pg_c97.drop 40, mj_lk pg pg_cl pg_ty pg_Ts pg_Nw pg_ak pg_yn pg_cc pg_rt 97 q.1 q.2 := fun q hq => absurd hq (by rw [show pg_c97.drop 40 = [] from rfl]; exact List.not_mem_nil)
  have h0 : ∀ q ∈ pg_c97.drop 0, mj_lk pg pg_cl pg_ty pg_Ts pg_Nw pg_ak pg_yn pg_cc pg_rt 97 q.1 q.2 := pg_chop 40 _ pg_lk97_0 (by rw [List.drop_drop]; exact h1)
  exact fun q hq => ⟨pg_dec97 q hq, h0 q hq⟩
set_option maxRecDepth 100000 in
theorem pg_ok98 : ∀ q ∈ pg_c98, mj_oki pg pg_cl pg_ty pg_Ts pg_Nw pg_ak pg_yn pg_cc pg_rt 98 q.1 q.2 := by
  have h1 : ∀ q ∈ pg_c98.drop 40, mj_lk pg pg_cl pg_ty pg_Ts pg_Nw pg_ak pg_yn pg_cc pg_rt 98 q.1 q.2 := fun q hq => absurd hq (by rw [show pg_c98.drop 40 = [] from rfl]; exact List.not_mem_nil)
  have h0 : ∀ q ∈ pg_c98.drop 0, mj_lk pg pg_cl pg_ty pg_Ts pg_Nw pg_ak pg_yn pg_cc pg_rt 98 q.1 q.2 := pg_chop 40 _ pg_lk98_0 (by rw [List.drop_drop]; exact h1)
  exact fun q hq => ⟨pg_dec98 q hq, h0 q hq⟩
set_option maxRecDepth 100000 in
theorem pg_ok99 : ∀ q ∈ pg_c99, mj_oki pg pg_cl pg_ty pg_Ts pg_Nw pg_ak pg_yn pg_cc pg_rt 99 q.1 q.2 := by
  have h1 : ∀ q ∈ pg_c99.drop 40, mj_lk pg pg_cl pg_ty pg_Ts pg_Nw pg_ak pg_yn pg_cc pg_rt 99 q.1 q.2 := fun q hq => absurd hq (by rw [show pg_c99.drop 40 = [] from rfl]; exact List.not_mem_nil)
  have h0 : ∀ q ∈ pg_c99.drop 0, mj_lk pg pg_cl pg_ty pg_Ts pg_Nw pg_ak pg_yn pg_cc pg_rt 99 q.1 q.2 := pg_chop 40 _ pg_lk99_0 (by rw [List.drop_drop]; exact h1)
  exact fun q hq => ⟨pg_dec99 q hq, h0 q hq⟩
set_option maxRecDepth 100000 in
theorem pg_ok100 : ∀ q ∈ pg_c100, mj_oki pg pg_cl pg_ty pg_Ts pg_Nw pg_ak pg_yn pg_cc pg_rt 100 q.1 q.2 := by
  have h1 : ∀ q ∈ pg_c100.drop 40, mj_lk pg pg_cl pg_ty pg_Ts pg_Nw pg_ak pg_yn pg_cc pg_rt 100 q.1 q.2 := fun q hq => absurd hq (by rw [show pg_c100.drop 40 = [] from rfl]; exact List.not_mem_nil)
  have h0 : ∀ q ∈ pg_c100.drop 0, mj_lk pg pg_cl pg_ty pg_Ts pg_Nw pg_ak pg_yn pg_cc pg_rt 100 q.1 q.2 := pg_chop 40 _ pg_lk100_0 (by rw [List.drop_drop]; exact h1)
  exact fun q hq => ⟨pg_dec100 q hq, h0 q hq⟩
set_option maxRecDepth 100000 in
theorem pg_ok101 : ∀ q ∈ pg_c101, mj_oki pg pg_cl pg_ty pg_Ts pg_Nw pg_ak pg_yn pg_cc pg_rt 101 q.1 q.2 := by
  have h1 : ∀ q ∈ pg_c101.drop 40, mj_lk pg pg_cl pg_ty pg_Ts pg_Nw pg_ak pg_yn pg_cc pg_rt 101 q.1 q.2 := fun q hq => absurd hq (by rw [show pg_c101.drop 40 = [] from rfl]; exact List.not_mem_nil)
  have h0 : ∀ q ∈ pg_c101.drop 0, mj_lk pg pg_cl pg_ty pg_Ts pg_Nw pg_ak pg_yn pg_cc pg_rt 101 q.1 q.2 := pg_chop 40 _ pg_lk101_0 (by rw [List.drop_drop]; exact h1)
  exact fun q hq => ⟨pg_dec101 q hq, h0 q hq⟩
set_option maxRecDepth 100000 in
theorem pg_ok102 : ∀ q ∈ pg_c102, mj_oki pg pg_cl pg_ty pg_Ts pg_Nw pg_ak pg_yn pg_cc pg_rt 102 q.1 q.2 := by
  have h1 : ∀ q ∈ pg_c102.drop 40, mj_lk pg pg_cl pg_ty pg_Ts pg_Nw pg_ak pg_yn pg_cc pg_rt 102 q.1 q.2 := fun q hq => absurd hq (by rw [show pg_c102.drop 40 = [] from rfl]; exact List.not_mem_nil)
  have h0 : ∀ q ∈ pg_c102.drop 0, mj_lk pg pg_cl pg_ty pg_Ts pg_Nw pg_ak pg_yn pg_cc pg_rt 102 q.1 q.2 := pg_chop 40 _ pg_lk102_0 (by rw [List.drop_drop]; exact h1)
  exact fun q hq => ⟨pg_dec102 q hq, h0 q hq⟩
theorem pg_look {l : List (Nat × mj_I)} {pc : Nat} {i : mj_I} (h : l.lookup pc = some i) : (pc, i) ∈ l := by
  induction l with
  | nil => cases h
  | cons q t ih =>
    obtain ⟨k, j⟩ := q
    rw [List.lookup_cons] at h
    by_cases hk : (pc == k) = true
    · rw [hk] at h
      have h : j = i := Option.some.inj h
      subst h
      have : pc = k := by simpa using hk
      subst this
      exact List.mem_cons_self
    · rw [Bool.not_eq_true] at hk
      rw [hk] at h
      exact List.mem_cons_of_mem _ (ih h)
theorem pg_nwf : mj_nwf pg_Nw := by
  intro w hw
  unfold pg_Nw at hw
  simp only [List.mem_cons, List.not_mem_nil, or_false] at hw
  rcases hw with rfl | rfl | rfl | rfl | rfl | rfl
  · exact Or.inr (Or.inl ⟨_, _, _, _, rfl⟩)
  · exact Or.inr (Or.inr ⟨_, rfl⟩)
  · exact Or.inr (Or.inr ⟨_, rfl⟩)
  · exact Or.inr (Or.inl ⟨_, _, _, _, rfl⟩)
  · exact Or.inr (Or.inr ⟨_, rfl⟩)
  · exact Or.inr (Or.inl ⟨_, _, _, _, rfl⟩)
theorem pg_OK : mj_OK pg pg_cl pg_ty pg_Ts pg_Nw pg_ak pg_yn pg_cc pg_rt := by
  refine ⟨fun M pc i h => ?_, fun w hw => (List.mem_filter.mp hw).2, pg_nwf⟩
  have h : (pg_cs M).lookup pc = some i := h
  have hm := pg_look h
  clear h
  match M, hm with
  | 0, hm => exact pg_ok0 (pc, i) hm
  | 1, hm => exact pg_ok1 (pc, i) hm
  | 2, hm => exact pg_ok2 (pc, i) hm
  | 3, hm => exact pg_ok3 (pc, i) hm
  | 4, hm => exact pg_ok4 (pc, i) hm
  | 5, hm => exact pg_ok5 (pc, i) hm
  | 6, hm => exact pg_ok6 (pc, i) hm
  | 7, hm => exact pg_ok7 (pc, i) hm
  | 8, hm => exact pg_ok8 (pc, i) hm
  | 9, hm => exact pg_ok9 (pc, i) hm
  | 10, hm => exact pg_ok10 (pc, i) hm
  | 11, hm => exact pg_ok11 (pc, i) hm
  | 12, hm => exact pg_ok12 (pc, i) hm
  | 13, hm => exact pg_ok13 (pc, i) hm
  | 14, hm => exact pg_ok14 (pc, i) hm
  | 15, hm => exact pg_ok15 (pc, i) hm
  | 16, hm => exact pg_ok16 (pc, i) hm
  | 17, hm => exact pg_ok17 (pc, i) hm
  | 18, hm => exact pg_ok18 (pc, i) hm
  | 19, hm => exact pg_ok19 (pc, i) hm
  | 20, hm => exact pg_ok20 (pc, i) hm
  | 21, hm => exact pg_ok21 (pc, i) hm
  | 22, hm => exact pg_ok22 (pc, i) hm
  | 23, hm => exact pg_ok23 (pc, i) hm
  | 24, hm => exact pg_ok24 (pc, i) hm
  | 25, hm => exact pg_ok25 (pc, i) hm
  | 26, hm => exact pg_ok26 (pc, i) hm
  | 27, hm => exact pg_ok27 (pc, i) hm
  | 28, hm => exact pg_ok28 (pc, i) hm
  | 29, hm => exact pg_ok29 (pc, i) hm
  | 30, hm => exact pg_ok30 (pc, i) hm
  | 31, hm => exact pg_ok31 (pc, i) hm
  | 32, hm => exact pg_ok32 (pc, i) hm
  | 33, hm => exact pg_ok33 (pc, i) hm
  | 34, hm => exact pg_ok34 (pc, i) hm
  | 35, hm => exact pg_ok35 (pc, i) hm
  | 36, hm => exact pg_ok36 (pc, i) hm
  | 37, hm => exact pg_ok37 (pc, i) hm
  | 38, hm => exact pg_ok38 (pc, i) hm
  | 39, hm => exact pg_ok39 (pc, i) hm
  | 40, hm => exact pg_ok40 (pc, i) hm
  | 41, hm => exact pg_ok41 (pc, i) hm
  | 42, hm => exact pg_ok42 (pc, i) hm
  | 43, hm => exact pg_ok43 (pc, i) hm
  | 44, hm => exact pg_ok44 (pc, i) hm
  | 45, hm => exact pg_ok45 (pc, i) hm
  | 46, hm => exact pg_ok46 (pc, i) hm
  | 47, hm => exact pg_ok47 (pc, i) hm
  | 48, hm => exact pg_ok48 (pc, i) hm
  | 49, hm => exact pg_ok49 (pc, i) hm
  | 50, hm => exact pg_ok50 (pc, i) hm
  | 51, hm => exact pg_ok51 (pc, i) hm
  | 52, hm => exact pg_ok52 (pc, i) hm
  | 53, hm => exact pg_ok53 (pc, i) hm
  | 54, hm => exact pg_ok54 (pc, i) hm
  | 55, hm => exact pg_ok55 (pc, i) hm
  | 56, hm => exact pg_ok56 (pc, i) hm
  | 57, hm => exact pg_ok57 (pc, i) hm
  | 58, hm => exact pg_ok58 (pc, i) hm
  | 59, hm => exact pg_ok59 (pc, i) hm
  | 60, hm => exact pg_ok60 (pc, i) hm
  | 61, hm => exact pg_ok61 (pc, i) hm
  | 62, hm => exact pg_ok62 (pc, i) hm
  | 63, hm => exact pg_ok63 (pc, i) hm
  | 64, hm => exact pg_ok64 (pc, i) hm
  | 65, hm => exact pg_ok65 (pc, i) hm
  | 66, hm => exact pg_ok66 (pc, i) hm
  | 67, hm => exact pg_ok67 (pc, i) hm
  | 68, hm => exact pg_ok68 (pc, i) hm
  | 69, hm => exact pg_ok69 (pc, i) hm
  | 70, hm => exact pg_ok70 (pc, i) hm
  | 71, hm => exact pg_ok71 (pc, i) hm
  | 72, hm => exact pg_ok72 (pc, i) hm
  | 73, hm => exact pg_ok73 (pc, i) hm
  | 74, hm => exact pg_ok74 (pc, i) hm
  | 75, hm => exact pg_ok75 (pc, i) hm
  | 76, hm => exact pg_ok76 (pc, i) hm
  | 77, hm => exact pg_ok77 (pc, i) hm
  | 78, hm => exact pg_ok78 (pc, i) hm
  | 79, hm => exact pg_ok79 (pc, i) hm
  | 80, hm => exact pg_ok80 (pc, i) hm
  | 81, hm => exact pg_ok81 (pc, i) hm
  | 82, hm => exact pg_ok82 (pc, i) hm
  | 83, hm => exact pg_ok83 (pc, i) hm
  | 84, hm => exact pg_ok84 (pc, i) hm
  | 85, hm => exact pg_ok85 (pc, i) hm
  | 86, hm => exact pg_ok86 (pc, i) hm
  | 87, hm => exact pg_ok87 (pc, i) hm
  | 88, hm => exact pg_ok88 (pc, i) hm
  | 89, hm => exact pg_ok89 (pc, i) hm
  | 90, hm => exact pg_ok90 (pc, i) hm
  | 91, hm => exact pg_ok91 (pc, i) hm
  | 92, hm => exact pg_ok92 (pc, i) hm
  | 93, hm => exact pg_ok93 (pc, i) hm
  | 94, hm => exact pg_ok94 (pc, i) hm
  | 95, hm => exact pg_ok95 (pc, i) hm
  | 96, hm => exact pg_ok96 (pc, i) hm
  | 97, hm => exact pg_ok97 (pc, i) hm
  | 98, hm => exact pg_ok98 (pc, i) hm
  | 99, hm => exact pg_ok99 (pc, i) hm
  | 100, hm => exact pg_ok100 (pc, i) hm
  | 101, hm => exact pg_ok101 (pc, i) hm
  | 102, hm => exact pg_ok102 (pc, i) hm
  | k + 103, hm => exact absurd hm List.not_mem_nil
end
section
theorem pg_nw_in : ∀ w ∈ pg_Nw, w ∈ lw_tbl := by
  show ∀ w ∈ [(Jvm.Cond.methodLinkNest "FixtureOrder" (11 : Nat) ({ cls := "FixtureOrder$Suite", name := "<init>", desc := "()V" } : Jvm.MethodName) "FixtureOrder"), (Jvm.Cond.arrayOver (Jvm.ClassFile.FieldType.object "FixtureOrder$Fixture")), (Jvm.Cond.arrayOver (Jvm.ClassFile.FieldType.object "FixtureOrder$Test")), (Jvm.Cond.methodLinkNest "FixtureOrder$Runner" (22 : Nat) ({ cls := "FixtureOrder$Log", name := "<init>", desc := "()V" } : Jvm.MethodName) "FixtureOrder"), (Jvm.Cond.arrayOver (Jvm.ClassFile.FieldType.object "FixtureOrder$Case")), (Jvm.Cond.methodLinkNest "FixtureOrder$Runner" (33 : Nat) ({ cls := "FixtureOrder$Case", name := "<init>", desc := "()V" } : Jvm.MethodName) "FixtureOrder")], w ∈ lw_tbl
  exact List.forall_mem_cons.mpr ⟨List.mem_append_right _ (List.mem_of_getElem? (i := 22) (by decide +kernel)), List.forall_mem_cons.mpr ⟨List.mem_append_right _ (List.mem_of_getElem? (i := 27) (by decide +kernel)), List.forall_mem_cons.mpr ⟨List.mem_append_right _ (List.mem_of_getElem? (i := 29) (by decide +kernel)), List.forall_mem_cons.mpr ⟨List.mem_append_right _ (List.mem_of_getElem? (i := 85) (by decide +kernel)), List.forall_mem_cons.mpr ⟨List.mem_append_right _ (List.mem_of_getElem? (i := 99) (by decide +kernel)), List.forall_mem_cons.mpr ⟨List.mem_append_right _ (List.mem_of_getElem? (i := 101) (by decide +kernel)), fun _ h => absurd h List.not_mem_nil⟩⟩⟩⟩⟩⟩
theorem pg_nw_at {s : State} {args : Array Value} (hts : ∀ w ∈ lw_tbl, w.before args s = true) : ∀ w ∈ pg_Nw, va_Nw w s := by
  intro w hw
  have h1 := hts w (pg_nw_in w hw)
  rcases pg_nwf w hw with ⟨a, i, b, n, d, q, rfl⟩ | ⟨a, i, x, q, rfl⟩ | ⟨C, rfl⟩
  · exact va_Nw.of rfl h1
  · exact va_Nw.of rfl h1
  · exact h1
theorem pg_cls {s : State} {args : Array Value} (hts : ∀ w ∈ pg_Ts, w.before args s = true) : ∃ (dC : Nat → ClassId) (dI : Nat → Nat → Nat), ∀ (k : Nat) (q : vw_C), pg_cl[k]? = some q → u_Kn s q.1 q.2.1 q.2.2 (dC k) (dI k) := by
  have h : ∀ k : Nat, ∃ z : ClassId × (Nat → Nat), ∀ q : vw_C, pg_cl[k]? = some q → u_Kn s q.1 q.2.1 q.2.2 z.1 z.2 := by
    intro k
    match k with
    | 0 => exact ⟨⟨_, _⟩, fun q hq => by cases hq; exact (u_known (C := "FixtureOrder$Case") (T := pg_T0) (N := 7) (n := 7) hts pg_lay0 (hts _ tw_100)).choose_spec.choose_spec⟩
    | 1 => exact ⟨⟨_, _⟩, fun q hq => by cases hq; exact (u_known (C := "FixtureOrder$Fixture") (T := pg_T1) (N := 15) (n := 15) hts pg_lay1 (hts _ tw_165)).choose_spec.choose_spec⟩
    | 2 => exact ⟨⟨_, _⟩, fun q hq => by cases hq; exact (u_known (C := "FixtureOrder$Log") (T := pg_T2) (N := 2) (n := 2) hts pg_lay2 (hts _ tw_84)).choose_spec.choose_spec⟩
    | 3 => exact ⟨⟨_, _⟩, fun q hq => by cases hq; exact (u_known (C := "FixtureOrder$Row") (T := pg_T3) (N := 4) (n := 4) hts pg_lay3 (hts _ tw_54)).choose_spec.choose_spec⟩
    | 4 => exact ⟨⟨_, _⟩, fun q hq => by cases hq; exact (u_known (C := "FixtureOrder$Runner") (T := pg_T4) (N := 5) (n := 5) hts pg_lay4 (hts _ tw_48)).choose_spec.choose_spec⟩
    | 5 => exact ⟨⟨_, _⟩, fun q hq => by cases hq; exact (u_known (C := "FixtureOrder$Suite") (T := pg_T5) (N := 4) (n := 4) hts pg_lay5 (hts _ tw_21)).choose_spec.choose_spec⟩
    | 6 => exact ⟨⟨_, _⟩, fun q hq => by cases hq; exact (u_known (C := "FixtureOrder$Test") (T := pg_T6) (N := 8) (n := 8) hts pg_lay6 (hts _ tw_274)).choose_spec.choose_spec⟩
    | 7 => exact ⟨⟨_, _⟩, fun q hq => by cases hq; exact (u_known (C := "FixtureOrder") (T := pg_T7) (N := 2) (n := 2) hts pg_lay7 (hts _ tw_13)).choose_spec.choose_spec⟩
    | 8 => exact ⟨⟨_, _⟩, fun q hq => by cases hq; exact (u_known (C := "FixtureOrderModel") (T := pg_T8) (N := 44) (n := 44) hts pg_lay8 (hts _ tw_537)).choose_spec.choose_spec⟩
    | k + 9 => exact ⟨⟨0, fun _ => 0⟩, fun q hq => absurd hq (by simp [pg_cl])⟩
  exact ⟨fun k => (h k).choose.1, fun k => (h k).choose.2, fun k q hq => (h k).choose_spec q hq⟩
theorem pg_arr {s : State} {args : Array Value} {ty : FieldType} (hty : ∀ C, ty ≠ .object C) (h : (Cond.arrayClass ty).before args s = true) : ∃ cA : ClassId, ArrOfT s cA ty ∧ va_RA s cA ty := by
  obtain ⟨c, k, comp, h1, h2, h3⟩ := Cond.arrayClass_spec h
  refine ⟨c, fun n z => ⟨fun k h => (by cases h), k, h2, comp, h3⟩, ?_⟩
  cases ty <;> first | exact h1 | exact absurd rfl (hty _)
theorem pg_arrO {s : State} {args : Array Value} {C : String} (h : (Cond.arrayOver (.object C)).before args s = true) : ∃ cA : ClassId, ArrOfT s cA (.object C) ∧ va_RA s cA (.object C) := by
  obtain ⟨comp, c, k, h1, -, h3, h4, h5⟩ := Cond.arrayOver_spec h
  exact ⟨c, fun n z => ⟨fun k h => (by cases h), k, h3, comp, h4⟩, k, comp, h3, h4, h1, h5⟩
theorem pg_K {s : State} {args : Array Value} (hts : ∀ w ∈ lw_tbl, w.before args s = true) : ∃ (D : va_G) (cA : Nat → ClassId), va_K D pg_cl (mj_ty pg_cl cA pg_ak) s := by
  have ht2 : ∀ w ∈ pg_Ts, w.before args s = true := fun w hw => hts w (List.mem_filter.mp hw).1
  obtain ⟨dC, dI, hc⟩ := pg_cls ht2
  obtain ⟨a0, hi⟩ := pg_arr (ty := .int) (fun C h => by cases h) (ht2 _ tw_97)
  obtain ⟨a1, hz⟩ := pg_arr (ty := .boolean) (fun C h => by cases h) (ht2 _ tw_675)
  obtain ⟨b0, hb0⟩ := pg_arrO (C := "FixtureOrder$Case") (hts _ (pg_nw_in _ (List.mem_of_getElem? (i := 4) rfl)))
  obtain ⟨b1, hb1⟩ := pg_arrO (C := "FixtureOrder$Fixture") (hts _ (pg_nw_in _ (List.mem_of_getElem? (i := 1) rfl)))
  obtain ⟨b2, hb2⟩ := pg_arrO (C := "FixtureOrder$Test") (hts _ (pg_nw_in _ (List.mem_of_getElem? (i := 2) rfl)))
  refine ⟨(dC, dI), fun k => if k = 0 then a0 else if k = 100 then a1 else if k = 1 then b0 else if k = 2 then b1 else if k = 7 then b2 else a0, hc, ?_⟩
  intro k x hx
  match k, hx with
  | 0, hx => cases hx; exact hi
  | 1, hx => cases hx; exact hz
  | 2, hx => cases hx; exact hb0
  | 3, hx => cases hx; exact hb1
  | 4, hx => cases hx; exact hb2
  | k + 5, hx => exact absurd hx (by simp [mj_ty, pg_ak])
end
section
/-- the pure claim: on every script the small machine answers 1, within the room -/
def pl_claim : Prop := ∀ (n : Nat) (xs : Nat → Int32), n ≤ 2560 → ∃ h' : mj_H, mj_Rn pg 61 0 (mj_en pg 0 [.inr (some 0)] [mj_z n xs]) = some (some (.inl 1), h') ∧ h'.length ≤ 600001 ∧ mj_sz h' ≤ mj_sz [mj_z n xs] + 7302250
end
section
/-! one instruction of the small machine as an equation: rows for rewriting -/
def mj_lI (L : mj_L) (k : Nat) (f : Int32 → Option mj_R) : Option mj_R := match L[k]? with
  | some (some (.inl x)) => f x
  | _ => none
def mj_lA (L : mj_L) (k : Nat) (f : Option Nat → Option mj_R) : Option mj_R := match L[k]? with
  | some (some (.inr x)) => f x
  | _ => none
theorem mj_lI_s (a : Option mj_V) (L : mj_L) (k : Nat) (f : Int32 → Option mj_R) : mj_lI (a :: L) (k + 1) f = mj_lI L k f := by
  simp only [mj_lI, List.getElem?_cons_succ]
theorem mj_lI_0 (x : Int32) (L : mj_L) (f : Int32 → Option mj_R) : mj_lI (some (.inl x) :: L) 0 f = f x := rfl
theorem mj_lA_s (a : Option mj_V) (L : mj_L) (k : Nat) (f : Option Nat → Option mj_R) : mj_lA (a :: L) (k + 1) f = mj_lA L k f := by
  simp only [mj_lA, List.getElem?_cons_succ]
theorem mj_lA_0 (x : Option Nat) (L : mj_L) (f : Option Nat → Option mj_R) : mj_lA (some (.inr x) :: L) 0 f = f x := rfl
/-- storing into the locals -/
def mj_sL (L : mj_L) (k : Nat) (v : mj_V) (f : mj_L → Option mj_R) : Option mj_R := if k < L.length then f (L.set k (some v)) else none
theorem mj_sL_s (a : Option mj_V) (L : mj_L) (k : Nat) (v : mj_V) (f : mj_L → Option mj_R) : mj_sL (a :: L) (k + 1) v f = mj_sL L k v (fun L' => f (a :: L')) := by
  unfold mj_sL
  rw [List.set_cons_succ, List.length_cons]
  by_cases hk : k < L.length
  · rw [if_pos hk, if_pos (by omega)]
  · rw [if_neg hk, if_neg (by omega)]
theorem mj_sL_0 (a : Option mj_V) (L : mj_L) (v : mj_V) (f : mj_L → Option mj_R) : mj_sL (a :: L) 0 v f = f (some v :: L) := by
  unfold mj_sL
  rw [if_pos (by rw [List.length_cons]; omega), List.set_cons_zero]
/-- few operands below a call -/
def mj_s8 (S : List mj_V) (x : Option mj_R) : Option mj_R := if S.length ≤ 8 then x else none
theorem mj_s8_0 (x : Option mj_R) : mj_s8 [] x = x := if_pos (by decide)
theorem mj_s8_1 (a : mj_V) (x : Option mj_R) : mj_s8 [a] x = x := if_pos (Nat.le_of_ble_eq_true rfl)
theorem mj_s8_2 (a b : mj_V) (x : Option mj_R) : mj_s8 [a, b] x = x := if_pos (Nat.le_of_ble_eq_true rfl)
theorem mj_s8_3 (a b c : mj_V) (x : Option mj_R) : mj_s8 [a, b, c] x = x := if_pos (Nat.le_of_ble_eq_true rfl)
theorem mj_s8_4 (a b c d : mj_V) (x : Option mj_R) : mj_s8 [a, b, c, d] x = x := if_pos (Nat.le_of_ble_eq_true rfl)
/-- an int out of an array of a tag -/
def mj_aI (h : mj_H) (a t : Nat) (i : Int32) (f : Int32 → Option mj_R) : Option mj_R := if i < 0 then none else match mj_gf h a t i.toNatClampNeg with
  | some (.inl v) => f v
  | _ => none
def mj_aR (h : mj_H) (a t : Nat) (i : Int32) (f : Option Nat → Option mj_R) : Option mj_R := if i < 0 then none else match mj_gf h a t i.toNatClampNeg with
  | some (.inr v) => f v
  | _ => none
/-- a write at a place of an array -/
def mj_aP (h : mj_H) (a t : Nat) (i : Int32) (v : mj_V) (f : mj_H → Option mj_R) : Option mj_R := if i < 0 then none else (mj_pf h a t i.toNatClampNeg v).bind f
/-- behind a call -/
def mj_bc (o : Option mj_R) (f : List mj_V → mj_H → Option mj_R) : Option mj_R := o.bind (fun r => f r.1.toList r.2)
theorem mj_bc_n (h : mj_H) (f : List mj_V → mj_H → Option mj_R) : mj_bc (some (none, h)) f = f [] h := rfl
theorem mj_bc_s (v : mj_V) (h : mj_H) (f : List mj_V → mj_H → Option mj_R) : mj_bc (some (some v, h)) f = f [v] h := rfl
section OPS
variable {P : mj_P} {d M pc len a b : Nat} (L : mj_L) (S : List mj_V) (h : mj_H)
theorem op_iconst {n : Int} (hc : P.1 M pc = some (.iconst n, len, a, b)) : mj_Rn P (d + 1) M (pc, L, S, h) = mj_Rn P (d + 1) M (pc + 1, L, .inl (Int32.ofInt n) :: S, h) := mj_Rn_eq hc rfl L S h
theorem op_bipush {n : Int} (hc : P.1 M pc = some (.bipush n, len, a, b)) : mj_Rn P (d + 1) M (pc, L, S, h) = mj_Rn P (d + 1) M (pc + 2, L, .inl (Int8.ofInt n).toInt32 :: S, h) := mj_Rn_eq hc rfl L S h
theorem op_sipush {n : Int} (hc : P.1 M pc = some (.sipush n, len, a, b)) : mj_Rn P (d + 1) M (pc, L, S, h) = mj_Rn P (d + 1) M (pc + 3, L, .inl (Int16.ofInt n).toInt32 :: S, h) := mj_Rn_eq hc rfl L S h
theorem op_null (hc : P.1 M pc = some (.aconst_null, len, a, b)) : mj_Rn P (d + 1) M (pc, L, S, h) = mj_Rn P (d + 1) M (pc + 1, L, .inr none :: S, h) := mj_Rn_eq hc rfl L S h
theorem op_li {k n : Nat} : (mj_li k n pc L S h).bind (mj_Rn P (d + 1) M) = mj_lI L k (fun x => mj_Rn P (d + 1) M (pc + n, L, .inl x :: S, h)) := by
  unfold mj_li mj_lI
  cases L[k]? with
  | none => rfl
  | some w => rcases w with _ | ⟨v | v⟩ <;> rfl
theorem op_la {k n : Nat} : (mj_la k n pc L S h).bind (mj_Rn P (d + 1) M) = mj_lA L k (fun x => mj_Rn P (d + 1) M (pc + n, L, .inr x :: S, h)) := by
  unfold mj_la mj_lA
  cases L[k]? with
  | none => rfl
  | some w => rcases w with _ | ⟨v | v⟩ <;> rfl
theorem op_iload_n {k : Fin 4} (hc : P.1 M pc = some (.iload_n k, len, a, b)) : mj_Rn P (d + 1) M (pc, L, S, h) = mj_lI L k.val (fun x => mj_Rn P (d + 1) M (pc + 1, L, .inl x :: S, h)) := (mj_Rn_eq hc rfl L S h).trans (op_li L S h)
theorem op_iload {k : Nat} (hc : P.1 M pc = some (.iload k, len, a, b)) : mj_Rn P (d + 1) M (pc, L, S, h) = mj_lI L k (fun x => mj_Rn P (d + 1) M (pc + 2, L, .inl x :: S, h)) := (mj_Rn_eq hc rfl L S h).trans (op_li L S h)
theorem op_aload_n {k : Fin 4} (hc : P.1 M pc = some (.aload_n k, len, a, b)) : mj_Rn P (d + 1) M (pc, L, S, h) = mj_lA L k.val (fun x => mj_Rn P (d + 1) M (pc + 1, L, .inr x :: S, h)) := (mj_Rn_eq hc rfl L S h).trans (op_la L S h)
theorem op_aload {k : Nat} (hc : P.1 M pc = some (.aload k, len, a, b)) : mj_Rn P (d + 1) M (pc, L, S, h) = mj_lA L k (fun x => mj_Rn P (d + 1) M (pc + 2, L, .inr x :: S, h)) := (mj_Rn_eq hc rfl L S h).trans (op_la L S h)
theorem op_si {k n : Nat} (v : Int32) : (mj_si k n pc L (.inl v :: S) h).bind (mj_Rn P (d + 1) M) = mj_sL L k (.inl v) (fun L' => mj_Rn P (d + 1) M (pc + n, L', S, h)) := by
  unfold mj_si mj_sL
  by_cases hk : k < L.length
  · simp only [if_pos hk]; rfl
  · simp only [if_neg hk]; rfl
theorem op_sa {k n : Nat} (v : Option Nat) : (mj_sa k n pc L (.inr v :: S) h).bind (mj_Rn P (d + 1) M) = mj_sL L k (.inr v) (fun L' => mj_Rn P (d + 1) M (pc + n, L', S, h)) := by
  unfold mj_sa mj_sL
  by_cases hk : k < L.length
  · simp only [if_pos hk]; rfl
  · simp only [if_neg hk]; rfl
theorem op_istore_n {k : Fin 4} (hc : P.1 M pc = some (.istore_n k, len, a, b)) (v : Int32) : mj_Rn P (d + 1) M (pc, L, .inl v :: S, h) = mj_sL L k.val (.inl v) (fun L' => mj_Rn P (d + 1) M (pc + 1, L', S, h)) := (mj_Rn_eq hc rfl L _ h).trans (op_si L S h v)
theorem op_istore {k : Nat} (hc : P.1 M pc = some (.istore k, len, a, b)) (v : Int32) : mj_Rn P (d + 1) M (pc, L, .inl v :: S, h) = mj_sL L k (.inl v) (fun L' => mj_Rn P (d + 1) M (pc + 2, L', S, h)) := (mj_Rn_eq hc rfl L _ h).trans (op_si L S h v)
theorem op_astore_n {k : Fin 4} (hc : P.1 M pc = some (.astore_n k, len, a, b)) (v : Option Nat) : mj_Rn P (d + 1) M (pc, L, .inr v :: S, h) = mj_sL L k.val (.inr v) (fun L' => mj_Rn P (d + 1) M (pc + 1, L', S, h)) := (mj_Rn_eq hc rfl L _ h).trans (op_sa L S h v)
theorem op_astore {k : Nat} (hc : P.1 M pc = some (.astore k, len, a, b)) (v : Option Nat) : mj_Rn P (d + 1) M (pc, L, .inr v :: S, h) = mj_sL L k (.inr v) (fun L' => mj_Rn P (d + 1) M (pc + 2, L', S, h)) := (mj_Rn_eq hc rfl L _ h).trans (op_sa L S h v)
theorem op_iinc {k : Nat} {n : Int} (hc : P.1 M pc = some (.iinc k n, len, a, b)) : mj_Rn P (d + 1) M (pc, L, S, h) = mj_lI L k (fun x => mj_sL L k (.inl (x + Int32.ofInt n)) (fun L' => mj_Rn P (d + 1) M (pc + 3, L', S, h))) := by
  rw [mj_Rn_eq hc rfl L S h]
  show (match L[k]? with
    | some (some (.inl x)) => mj_go (pc + 3) (L.set k (some (.inl (x + Int32.ofInt n)))) S h
    | _ => none).bind (mj_Rn P (d + 1) M) = _
  unfold mj_lI mj_sL
  cases hk : L[k]? with
  | none => rfl
  | some w =>
    have hl : k < L.length := (List.getElem?_eq_some_iff.mp hk).1
    rcases w with _ | ⟨v | v⟩ <;> first | rfl | (simp only [if_pos hl]; rfl)
theorem op_iadd (hc : P.1 M pc = some (.iadd, len, a, b)) (x y : Int32) : mj_Rn P (d + 1) M (pc, L, .inl y :: .inl x :: S, h) = mj_Rn P (d + 1) M (pc + 1, L, .inl (x + y) :: S, h) := mj_Rn_eq hc rfl L _ h
theorem op_isub (hc : P.1 M pc = some (.isub, len, a, b)) (x y : Int32) : mj_Rn P (d + 1) M (pc, L, .inl y :: .inl x :: S, h) = mj_Rn P (d + 1) M (pc + 1, L, .inl (x - y) :: S, h) := mj_Rn_eq hc rfl L _ h
theorem op_imul (hc : P.1 M pc = some (.imul, len, a, b)) (x y : Int32) : mj_Rn P (d + 1) M (pc, L, .inl y :: .inl x :: S, h) = mj_Rn P (d + 1) M (pc + 1, L, .inl (x * y) :: S, h) := mj_Rn_eq hc rfl L _ h
theorem op_iand (hc : P.1 M pc = some (.iand, len, a, b)) (x y : Int32) : mj_Rn P (d + 1) M (pc, L, .inl y :: .inl x :: S, h) = mj_Rn P (d + 1) M (pc + 1, L, .inl (x &&& y) :: S, h) := mj_Rn_eq hc rfl L _ h
theorem op_ior (hc : P.1 M pc = some (.ior, len, a, b)) (x y : Int32) : mj_Rn P (d + 1) M (pc, L, .inl y :: .inl x :: S, h) = mj_Rn P (d + 1) M (pc + 1, L, .inl (x ||| y) :: S, h) := mj_Rn_eq hc rfl L _ h
theorem op_ixor (hc : P.1 M pc = some (.ixor, len, a, b)) (x y : Int32) : mj_Rn P (d + 1) M (pc, L, .inl y :: .inl x :: S, h) = mj_Rn P (d + 1) M (pc + 1, L, .inl (x ^^^ y) :: S, h) := mj_Rn_eq hc rfl L _ h
theorem op_ishl (hc : P.1 M pc = some (.ishl, len, a, b)) (x y : Int32) : mj_Rn P (d + 1) M (pc, L, .inl y :: .inl x :: S, h) = mj_Rn P (d + 1) M (pc + 1, L, .inl (x <<< (y &&& 31)) :: S, h) := mj_Rn_eq hc rfl L _ h
theorem op_ishr (hc : P.1 M pc = some (.ishr, len, a, b)) (x y : Int32) : mj_Rn P (d + 1) M (pc, L, .inl y :: .inl x :: S, h) = mj_Rn P (d + 1) M (pc + 1, L, .inl (x >>> (y &&& 31)) :: S, h) := mj_Rn_eq hc rfl L _ h
theorem op_idiv (hc : P.1 M pc = some (.idiv, len, a, b)) (x y : Int32) : mj_Rn P (d + 1) M (pc, L, .inl y :: .inl x :: S, h) = if y = 0 then none else mj_Rn P (d + 1) M (pc + 1, L, .inl (x / y) :: S, h) := by
  rw [mj_Rn_eq hc rfl L _ h]
  show (if y = 0 then none else mj_go (pc + 1) L (.inl (x / y) :: S) h).bind _ = _
  by_cases hy : y = 0
  · simp only [if_pos hy]; rfl
  · simp only [if_neg hy]; rfl
theorem op_irem (hc : P.1 M pc = some (.irem, len, a, b)) (x y : Int32) : mj_Rn P (d + 1) M (pc, L, .inl y :: .inl x :: S, h) = if y = 0 then none else mj_Rn P (d + 1) M (pc + 1, L, .inl (x - x / y * y) :: S, h) := by
  rw [mj_Rn_eq hc rfl L _ h]
  show (if y = 0 then none else mj_go (pc + 1) L (.inl (x - x / y * y) :: S) h).bind _ = _
  by_cases hy : y = 0
  · simp only [if_pos hy]; rfl
  · simp only [if_neg hy]; rfl
theorem op_dup (hc : P.1 M pc = some (.dup, len, a, b)) (v : mj_V) : mj_Rn P (d + 1) M (pc, L, v :: S, h) = mj_Rn P (d + 1) M (pc + 1, L, v :: v :: S, h) := mj_Rn_eq hc rfl L _ h
theorem op_pop (hc : P.1 M pc = some (.pop, len, a, b)) (v : mj_V) : mj_Rn P (d + 1) M (pc, L, v :: S, h) = mj_Rn P (d + 1) M (pc + 1, L, S, h) := mj_Rn_eq hc rfl L _ h
theorem op_dup_x1 (hc : P.1 M pc = some (.dup_x1, len, a, b)) (v w : mj_V) : mj_Rn P (d + 1) M (pc, L, v :: w :: S, h) = mj_Rn P (d + 1) M (pc + 1, L, v :: w :: v :: S, h) := mj_Rn_eq hc rfl L _ h
theorem op_dup2 (hc : P.1 M pc = some (.dup2, len, a, b)) (v w : mj_V) : mj_Rn P (d + 1) M (pc, L, v :: w :: S, h) = mj_Rn P (d + 1) M (pc + 1, L, v :: w :: v :: w :: S, h) := mj_Rn_eq hc rfl L _ h
theorem op_if_eq {o : Int} (hc : P.1 M pc = some (.ifCond .eq o, len, a, b)) (x : Int32) : mj_Rn P (d + 1) M (pc, L, .inl x :: S, h) = if x = 0 then mj_Rn P (d + 1) M (a, L, S, h) else mj_Rn P (d + 1) M (pc + 3, L, S, h) := by
  rw [mj_Rn_eq hc rfl L _ h]
  show (if decide (x = 0) = true then mj_go a L S h else mj_go (pc + 3) L S h).bind _ = _
  by_cases hq : x = 0
  · rw [if_pos hq, if_pos (decide_eq_true hq)]; rfl
  · rw [if_neg hq, if_neg (by rw [decide_eq_false hq]; decide)]; rfl
theorem op_if_ne {o : Int} (hc : P.1 M pc = some (.ifCond .ne o, len, a, b)) (x : Int32) : mj_Rn P (d + 1) M (pc, L, .inl x :: S, h) = if ¬ x = 0 then mj_Rn P (d + 1) M (a, L, S, h) else mj_Rn P (d + 1) M (pc + 3, L, S, h) := by
  rw [mj_Rn_eq hc rfl L _ h]
  show (if decide (¬ x = 0) = true then mj_go a L S h else mj_go (pc + 3) L S h).bind _ = _
  by_cases hq : ¬ x = 0
  · rw [if_pos hq, if_pos (decide_eq_true hq)]; rfl
  · rw [if_neg hq, if_neg (by rw [decide_eq_false hq]; decide)]; rfl
theorem op_if_lt {o : Int} (hc : P.1 M pc = some (.ifCond .lt o, len, a, b)) (x : Int32) : mj_Rn P (d + 1) M (pc, L, .inl x :: S, h) = if x < 0 then mj_Rn P (d + 1) M (a, L, S, h) else mj_Rn P (d + 1) M (pc + 3, L, S, h) := by
  rw [mj_Rn_eq hc rfl L _ h]
  show (if decide (x < 0) = true then mj_go a L S h else mj_go (pc + 3) L S h).bind _ = _
  by_cases hq : x < 0
  · rw [if_pos hq, if_pos (decide_eq_true hq)]; rfl
  · rw [if_neg hq, if_neg (by rw [decide_eq_false hq]; decide)]; rfl
theorem op_if_ge {o : Int} (hc : P.1 M pc = some (.ifCond .ge o, len, a, b)) (x : Int32) : mj_Rn P (d + 1) M (pc, L, .inl x :: S, h) = if 0 ≤ x then mj_Rn P (d + 1) M (a, L, S, h) else mj_Rn P (d + 1) M (pc + 3, L, S, h) := by
  rw [mj_Rn_eq hc rfl L _ h]
  show (if decide (0 ≤ x) = true then mj_go a L S h else mj_go (pc + 3) L S h).bind _ = _
  by_cases hq : 0 ≤ x
  · rw [if_pos hq, if_pos (decide_eq_true hq)]; rfl
  · rw [if_neg hq, if_neg (by rw [decide_eq_false hq]; decide)]; rfl
theorem op_if_gt {o : Int} (hc : P.1 M pc = some (.ifCond .gt o, len, a, b)) (x : Int32) : mj_Rn P (d + 1) M (pc, L, .inl x :: S, h) = if 0 < x then mj_Rn P (d + 1) M (a, L, S, h) else mj_Rn P (d + 1) M (pc + 3, L, S, h) := by
  rw [mj_Rn_eq hc rfl L _ h]
  show (if decide (0 < x) = true then mj_go a L S h else mj_go (pc + 3) L S h).bind _ = _
  by_cases hq : 0 < x
  · rw [if_pos hq, if_pos (decide_eq_true hq)]; rfl
  · rw [if_neg hq, if_neg (by rw [decide_eq_false hq]; decide)]; rfl
theorem op_if_le {o : Int} (hc : P.1 M pc = some (.ifCond .le o, len, a, b)) (x : Int32) : mj_Rn P (d + 1) M (pc, L, .inl x :: S, h) = if x ≤ 0 then mj_Rn P (d + 1) M (a, L, S, h) else mj_Rn P (d + 1) M (pc + 3, L, S, h) := by
  rw [mj_Rn_eq hc rfl L _ h]
  show (if decide (x ≤ 0) = true then mj_go a L S h else mj_go (pc + 3) L S h).bind _ = _
  by_cases hq : x ≤ 0
  · rw [if_pos hq, if_pos (decide_eq_true hq)]; rfl
  · rw [if_neg hq, if_neg (by rw [decide_eq_false hq]; decide)]; rfl
theorem op_ic_eq {o : Int} (hc : P.1 M pc = some (.if_icmp .eq o, len, a, b)) (x y : Int32) : mj_Rn P (d + 1) M (pc, L, .inl y :: .inl x :: S, h) = if x = y then mj_Rn P (d + 1) M (a, L, S, h) else mj_Rn P (d + 1) M (pc + 3, L, S, h) := by
  rw [mj_Rn_eq hc rfl L _ h]
  show (if decide (x = y) = true then mj_go a L S h else mj_go (pc + 3) L S h).bind _ = _
  by_cases hq : x = y
  · rw [if_pos hq, if_pos (decide_eq_true hq)]; rfl
  · rw [if_neg hq, if_neg (by rw [decide_eq_false hq]; decide)]; rfl
theorem op_ic_ne {o : Int} (hc : P.1 M pc = some (.if_icmp .ne o, len, a, b)) (x y : Int32) : mj_Rn P (d + 1) M (pc, L, .inl y :: .inl x :: S, h) = if ¬ x = y then mj_Rn P (d + 1) M (a, L, S, h) else mj_Rn P (d + 1) M (pc + 3, L, S, h) := by
  rw [mj_Rn_eq hc rfl L _ h]
  show (if decide (¬ x = y) = true then mj_go a L S h else mj_go (pc + 3) L S h).bind _ = _
  by_cases hq : ¬ x = y
  · rw [if_pos hq, if_pos (decide_eq_true hq)]; rfl
  · rw [if_neg hq, if_neg (by rw [decide_eq_false hq]; decide)]; rfl
theorem op_ic_lt {o : Int} (hc : P.1 M pc = some (.if_icmp .lt o, len, a, b)) (x y : Int32) : mj_Rn P (d + 1) M (pc, L, .inl y :: .inl x :: S, h) = if x < y then mj_Rn P (d + 1) M (a, L, S, h) else mj_Rn P (d + 1) M (pc + 3, L, S, h) := by
  rw [mj_Rn_eq hc rfl L _ h]
  show (if decide (x < y) = true then mj_go a L S h else mj_go (pc + 3) L S h).bind _ = _
  by_cases hq : x < y
  · rw [if_pos hq, if_pos (decide_eq_true hq)]; rfl
  · rw [if_neg hq, if_neg (by rw [decide_eq_false hq]; decide)]; rfl
theorem op_ic_ge {o : Int} (hc : P.1 M pc = some (.if_icmp .ge o, len, a, b)) (x y : Int32) : mj_Rn P (d + 1) M (pc, L, .inl y :: .inl x :: S, h) = if y ≤ x then mj_Rn P (d + 1) M (a, L, S, h) else mj_Rn P (d + 1) M (pc + 3, L, S, h) := by
  rw [mj_Rn_eq hc rfl L _ h]
  show (if decide (y ≤ x) = true then mj_go a L S h else mj_go (pc + 3) L S h).bind _ = _
  by_cases hq : y ≤ x
  · rw [if_pos hq, if_pos (decide_eq_true hq)]; rfl
  · rw [if_neg hq, if_neg (by rw [decide_eq_false hq]; decide)]; rfl
theorem op_ic_gt {o : Int} (hc : P.1 M pc = some (.if_icmp .gt o, len, a, b)) (x y : Int32) : mj_Rn P (d + 1) M (pc, L, .inl y :: .inl x :: S, h) = if y < x then mj_Rn P (d + 1) M (a, L, S, h) else mj_Rn P (d + 1) M (pc + 3, L, S, h) := by
  rw [mj_Rn_eq hc rfl L _ h]
  show (if decide (y < x) = true then mj_go a L S h else mj_go (pc + 3) L S h).bind _ = _
  by_cases hq : y < x
  · rw [if_pos hq, if_pos (decide_eq_true hq)]; rfl
  · rw [if_neg hq, if_neg (by rw [decide_eq_false hq]; decide)]; rfl
theorem op_ic_le {o : Int} (hc : P.1 M pc = some (.if_icmp .le o, len, a, b)) (x y : Int32) : mj_Rn P (d + 1) M (pc, L, .inl y :: .inl x :: S, h) = if x ≤ y then mj_Rn P (d + 1) M (a, L, S, h) else mj_Rn P (d + 1) M (pc + 3, L, S, h) := by
  rw [mj_Rn_eq hc rfl L _ h]
  show (if decide (x ≤ y) = true then mj_go a L S h else mj_go (pc + 3) L S h).bind _ = _
  by_cases hq : x ≤ y
  · rw [if_pos hq, if_pos (decide_eq_true hq)]; rfl
  · rw [if_neg hq, if_neg (by rw [decide_eq_false hq]; decide)]; rfl
theorem op_ac_eq {o : Int} (hc : P.1 M pc = some (.if_acmp .eq o, len, a, b)) (x y : Option Nat) : mj_Rn P (d + 1) M (pc, L, .inr y :: .inr x :: S, h) = if x = y then mj_Rn P (d + 1) M (a, L, S, h) else mj_Rn P (d + 1) M (pc + 3, L, S, h) := by
  rw [mj_Rn_eq hc rfl L _ h]
  show (if decide (x = y) = true then mj_go a L S h else mj_go (pc + 3) L S h).bind _ = _
  by_cases hq : x = y
  · rw [if_pos hq, if_pos (decide_eq_true hq)]; rfl
  · rw [if_neg hq, if_neg (by rw [decide_eq_false hq]; decide)]; rfl
theorem op_ac_ne {o : Int} (hc : P.1 M pc = some (.if_acmp .ne o, len, a, b)) (x y : Option Nat) : mj_Rn P (d + 1) M (pc, L, .inr y :: .inr x :: S, h) = if ¬ x = y then mj_Rn P (d + 1) M (a, L, S, h) else mj_Rn P (d + 1) M (pc + 3, L, S, h) := by
  rw [mj_Rn_eq hc rfl L _ h]
  show (if decide (¬ x = y) = true then mj_go a L S h else mj_go (pc + 3) L S h).bind _ = _
  by_cases hq : ¬ x = y
  · rw [if_pos hq, if_pos (decide_eq_true hq)]; rfl
  · rw [if_neg hq, if_neg (by rw [decide_eq_false hq]; decide)]; rfl
theorem op_nl_0 {o : Int} (hc : P.1 M pc = some (.ifnull o, len, a, b)) : mj_Rn P (d + 1) M (pc, L, .inr none :: S, h) = mj_Rn P (d + 1) M (a, L, S, h) := mj_Rn_eq hc rfl L _ h
theorem op_nl_1 {o : Int} (hc : P.1 M pc = some (.ifnull o, len, a, b)) (q : Nat) : mj_Rn P (d + 1) M (pc, L, .inr (some q) :: S, h) = mj_Rn P (d + 1) M (pc + 3, L, S, h) := mj_Rn_eq hc rfl L _ h
theorem op_nn_0 {o : Int} (hc : P.1 M pc = some (.ifnonnull o, len, a, b)) : mj_Rn P (d + 1) M (pc, L, .inr none :: S, h) = mj_Rn P (d + 1) M (pc + 3, L, S, h) := mj_Rn_eq hc rfl L _ h
theorem op_nn_1 {o : Int} (hc : P.1 M pc = some (.ifnonnull o, len, a, b)) (q : Nat) : mj_Rn P (d + 1) M (pc, L, .inr (some q) :: S, h) = mj_Rn P (d + 1) M (a, L, S, h) := mj_Rn_eq hc rfl L _ h
theorem op_goto {o : Int} (hc : P.1 M pc = some (.goto o, len, a, b)) : mj_Rn P (d + 1) M (pc, L, S, h) = mj_Rn P (d + 1) M (a, L, S, h) := mj_Rn_eq hc rfl L S h
theorem op_get {x : Nat} (hc : P.1 M pc = some (.getfield x, len, a, b)) (q : Nat) : mj_Rn P (d + 1) M (pc, L, .inr (some q) :: S, h) = (mj_gf h q a b).bind (fun v => mj_Rn P (d + 1) M (pc + 3, L, v :: S, h)) := by
  rw [mj_Rn_eq hc rfl L _ h]
  show (match mj_gf h q a b with | some v => mj_go (pc + 3) L (v :: S) h | none => none).bind _ = _
  cases mj_gf h q a b <;> rfl
theorem op_put {x : Nat} (hc : P.1 M pc = some (.putfield x, len, a, b)) (q : Nat) (v : mj_V) : mj_Rn P (d + 1) M (pc, L, v :: .inr (some q) :: S, h) = if mj_zk (P.2.2.2.2.1 a b) v = true then (mj_pf h q a b v).bind (fun h' => mj_Rn P (d + 1) M (pc + 3, L, S, h')) else none := by
  rw [mj_Rn_eq hc rfl L _ h]
  show (if mj_zk (P.2.2.2.2.1 a b) v = true then (match mj_pf h q a b v with | some h' => mj_go (pc + 3) L S h' | none => none) else none).bind _ = _
  by_cases hz : mj_zk (P.2.2.2.2.1 a b) v = true
  · simp only [if_pos hz]
    cases mj_pf h q a b v <;> rfl
  · simp only [if_neg hz]; rfl
theorem op_new {x : Nat} (hc : P.1 M pc = some (.new x, len, a, b)) : mj_Rn P (d + 1) M (pc, L, S, h) = mj_Rn P (d + 1) M (pc + 3, L, .inr (some h.length) :: S, h ++ [(a, P.2.2.2.1 a)]) := mj_Rn_eq hc rfl L S h
theorem op_mk {t n : Nat} (v : mj_V) (x : Int32) : (mj_mk t n pc v L (.inl x :: S) h).bind (mj_Rn P (d + 1) M) = if x < 0 ∨ 100000 < x.toNatClampNeg then none else mj_Rn P (d + 1) M (pc + n, L, .inr (some h.length) :: S, h ++ [(t, List.replicate x.toNatClampNeg v)]) := by
  unfold mj_mk
  by_cases hk : x < 0 ∨ 100000 < x.toNatClampNeg
  · simp only [if_pos hk]; rfl
  · simp only [if_neg hk]; rfl
theorem op_na_int (hc : P.1 M pc = some (.newarray .int, len, a, b)) (x : Int32) : mj_Rn P (d + 1) M (pc, L, .inl x :: S, h) = if x < 0 ∨ 100000 < x.toNatClampNeg then none else mj_Rn P (d + 1) M (pc + 2, L, .inr (some h.length) :: S, h ++ [(100, List.replicate x.toNatClampNeg (.inl 0))]) := (mj_Rn_eq hc rfl L _ h).trans (op_mk L S h _ x)
theorem op_na_boolean (hc : P.1 M pc = some (.newarray .boolean, len, a, b)) (x : Int32) : mj_Rn P (d + 1) M (pc, L, .inl x :: S, h) = if x < 0 ∨ 100000 < x.toNatClampNeg then none else mj_Rn P (d + 1) M (pc + 2, L, .inr (some h.length) :: S, h ++ [(200, List.replicate x.toNatClampNeg (.inl 0))]) := (mj_Rn_eq hc rfl L _ h).trans (op_mk L S h _ x)
theorem op_an {y : Nat} (hc : P.1 M pc = some (.anewarray y, len, a, b)) (x : Int32) : mj_Rn P (d + 1) M (pc, L, .inl x :: S, h) = if x < 0 ∨ 100000 < x.toNatClampNeg then none else mj_Rn P (d + 1) M (pc + 3, L, .inr (some h.length) :: S, h ++ [(101 + a, List.replicate x.toNatClampNeg (.inr none))]) := (mj_Rn_eq hc rfl L _ h).trans (op_mk L S h _ x)
theorem op_len (hc : P.1 M pc = some (.arraylength, len, a, b)) (q : Nat) : mj_Rn P (d + 1) M (pc, L, .inr (some q) :: S, h) = (mj_ln h q).bind (fun n => mj_Rn P (d + 1) M (pc + 1, L, .inl (Int32.ofNat n) :: S, h)) := by
  rw [mj_Rn_eq hc rfl L _ h]
  show (match mj_ln h q with | some n => mj_go (pc + 1) L (.inl (Int32.ofNat n) :: S) h | none => none).bind _ = _
  cases mj_ln h q <;> rfl
theorem op_ald (hc : P.1 M pc = some (.iaload, len, a, b)) (q : Nat) (i : Int32) : mj_Rn P (d + 1) M (pc, L, .inl i :: .inr (some q) :: S, h) = mj_aI h q 100 i (fun v => mj_Rn P (d + 1) M (pc + 1, L, .inl v :: S, h)) := by
  rw [mj_Rn_eq hc rfl L _ h]
  show (if i < 0 then none else (match mj_gf h q 100 i.toNatClampNeg with | some (.inl v) => mj_go (pc + 1) L (.inl v :: S) h | _ => none)).bind _ = _
  unfold mj_aI
  by_cases hi : i < 0
  · simp only [if_pos hi]; rfl
  · simp only [if_neg hi]
    cases mj_gf h q 100 i.toNatClampNeg with
    | none => rfl
    | some w => cases w <;> rfl
theorem op_bld (hc : P.1 M pc = some (.baload, len, a, b)) (q : Nat) (i : Int32) : mj_Rn P (d + 1) M (pc, L, .inl i :: .inr (some q) :: S, h) = mj_aI h q 200 i (fun v => mj_Rn P (d + 1) M (pc + 1, L, .inl v :: S, h)) := by
  rw [mj_Rn_eq hc rfl L _ h]
  show (if i < 0 then none else (match mj_gf h q 200 i.toNatClampNeg with | some (.inl v) => mj_go (pc + 1) L (.inl v :: S) h | _ => none)).bind _ = _
  unfold mj_aI
  by_cases hi : i < 0
  · simp only [if_pos hi]; rfl
  · simp only [if_neg hi]
    cases mj_gf h q 200 i.toNatClampNeg with
    | none => rfl
    | some w => cases w <;> rfl
theorem op_rld (hc : P.1 M pc = some (.aaload, len, a, b)) (q : Nat) (i : Int32) : mj_Rn P (d + 1) M (pc, L, .inl i :: .inr (some q) :: S, h) = mj_aR h q (101 + a) i (fun v => mj_Rn P (d + 1) M (pc + 1, L, .inr v :: S, h)) := by
  rw [mj_Rn_eq hc rfl L _ h]
  show (if i < 0 then none else (match mj_gf h q (101 + a) i.toNatClampNeg with | some (.inr v) => mj_go (pc + 1) L (.inr v :: S) h | _ => none)).bind _ = _
  unfold mj_aR
  by_cases hi : i < 0
  · simp only [if_pos hi]; rfl
  · simp only [if_neg hi]
    cases mj_gf h q (101 + a) i.toNatClampNeg with
    | none => rfl
    | some w => cases w <;> rfl
theorem op_ast (hc : P.1 M pc = some (.iastore, len, a, b)) (q : Nat) (i x : Int32) : mj_Rn P (d + 1) M (pc, L, .inl x :: .inl i :: .inr (some q) :: S, h) = mj_aP h q 100 i (.inl x) (fun h' => mj_Rn P (d + 1) M (pc + 1, L, S, h')) := by
  rw [mj_Rn_eq hc rfl L _ h]
  show (if i < 0 then none else (match mj_pf h q 100 i.toNatClampNeg (.inl x) with | some h' => mj_go (pc + 1) L S h' | none => none)).bind _ = _
  unfold mj_aP
  by_cases hi : i < 0
  · simp only [if_pos hi]; rfl
  · simp only [if_neg hi]
    cases mj_pf h q 100 i.toNatClampNeg (.inl x) <;> rfl
theorem op_bst (hc : P.1 M pc = some (.bastore, len, a, b)) (q : Nat) (i x : Int32) : mj_Rn P (d + 1) M (pc, L, .inl x :: .inl i :: .inr (some q) :: S, h) = if x = 0 ∨ x = 1 then mj_aP h q 200 i (.inl x) (fun h' => mj_Rn P (d + 1) M (pc + 1, L, S, h')) else none := by
  rw [mj_Rn_eq hc rfl L _ h]
  show (if i < 0 ∨ ¬ (x = 0 ∨ x = 1) then none else (match mj_pf h q 200 i.toNatClampNeg (.inl x) with | some h' => mj_go (pc + 1) L S h' | none => none)).bind _ = _
  unfold mj_aP
  by_cases hx : x = 0 ∨ x = 1
  · by_cases hi : i < 0
    · rw [if_pos (Or.inl hi), if_pos hx, if_pos hi]; rfl
    · rw [if_neg (fun z => z.elim hi (fun w => w hx)), if_pos hx, if_neg hi]
      cases mj_pf h q 200 i.toNatClampNeg (.inl x) <;> rfl
  · rw [if_pos (Or.inr hx), if_neg hx]; rfl
theorem op_rst (hc : P.1 M pc = some (.aastore, len, a, b)) (q : Nat) (i : Int32) (v : Option Nat) : mj_Rn P (d + 1) M (pc, L, .inr v :: .inl i :: .inr (some q) :: S, h) = if mj_tv h v a = true then mj_aP h q (101 + a) i (.inr v) (fun h' => mj_Rn P (d + 1) M (pc + 1, L, S, h')) else none := by
  rw [mj_Rn_eq hc rfl L _ h]
  show (if i < 0 ∨ mj_tv h v a = false then none else (match mj_pf h q (101 + a) i.toNatClampNeg (.inr v) with | some h' => mj_go (pc + 1) L S h' | none => none)).bind _ = _
  unfold mj_aP
  cases hx : mj_tv h v a with
  | true =>
    by_cases hi : i < 0
    · rw [if_pos (Or.inl hi), if_pos rfl, if_pos hi]; rfl
    · rw [if_neg (fun z => z.elim hi (fun w => by cases w)), if_pos rfl, if_neg hi]
      cases mj_pf h q (101 + a) i.toNatClampNeg (.inr v) <;> rfl
  | false => rw [if_pos (Or.inr rfl), if_neg (by decide)]; rfl
theorem op_inv0 (hn : b ≤ S.length ∧ S.length ≤ b + 8) : (mj_inv (mj_Cl P d) a b pc L S h).bind (mj_Rn P (d + 1) M) = mj_bc (mj_Cl P d a (S.take b).reverse h) (fun r h' => mj_Rn P (d + 1) M (pc + 3, L, r ++ S.drop b, h')) := by
  unfold mj_inv mj_bc
  rw [if_pos hn]
  cases mj_Cl P d a (S.take b).reverse h <;> rfl
end OPS
end
section
section OPC
variable {P : mj_P} {d M pc len a b : Nat} (L : mj_L) (S : List mj_V) (h : mj_H)
theorem op_call (as : List mj_V) (hb : as.length = b) : (mj_inv (mj_Cl P d) a b pc L (as.reverse ++ S) h).bind (mj_Rn P (d + 1) M) = mj_s8 S (mj_bc (mj_Cl P d a as h) (fun r h' => mj_Rn P (d + 1) M (pc + 3, L, r ++ S, h'))) := by
  subst hb
  unfold mj_s8
  have e1 : (as.reverse ++ S).length = as.length + S.length := by simp
  by_cases h8 : S.length ≤ 8
  · rw [if_pos h8, op_inv0 L _ h ⟨by rw [e1]; omega, by rw [e1]; omega⟩]
    have e2 : (as.reverse ++ S).take as.length = as.reverse := by
      rw [List.take_append_of_le_length (by simp), List.take_of_length_le (by simp)]
    have e3 : (as.reverse ++ S).drop as.length = S := by
      rw [List.drop_append_of_le_length (by simp), List.drop_of_length_le (by simp)]; rfl
    rw [e2, e3, List.reverse_reverse]
  · rw [if_neg h8]
    unfold mj_inv
    rw [if_neg (fun q => h8 (by have := q.2; rw [e1] at this; omega))]
    rfl
theorem op_st {x : Nat} (hc : P.1 M pc = some (.invokestatic x, len, a, b)) (h1 : a ≠ 9998) (h2 : a ≠ 9997) (as : List mj_V) (hb : as.length = b) : mj_Rn P (d + 1) M (pc, L, as.reverse ++ S, h) = mj_s8 S (mj_bc (mj_Cl P d a as h) (fun r h' => mj_Rn P (d + 1) M (pc + 3, L, r ++ S, h'))) := by
  rw [mj_Rn_eq hc rfl L _ h]
  show (if a = 9998 then mj_b3 (fun x y => if y < x then y else x) pc L (as.reverse ++ S) h else if a = 9997 then mj_b3 (fun x y => if x < y then y else x) pc L (as.reverse ++ S) h else mj_inv (mj_Cl P d) a b pc L (as.reverse ++ S) h).bind _ = _
  rw [if_neg h1, if_neg h2]
  exact op_call L S h as hb
theorem op_b3 (f : Int32 → Int32 → Int32) (x y : Int32) : (mj_b3 f pc L (.inl y :: .inl x :: S) h).bind (mj_Rn P (d + 1) M) = mj_s8 S (mj_Rn P (d + 1) M (pc + 3, L, .inl (f x y) :: S, h)) := by
  unfold mj_b3 mj_s8
  by_cases h8 : S.length ≤ 8
  · simp only [if_pos h8]; rfl
  · simp only [if_neg h8]; rfl
theorem op_min {z : Nat} (hc : P.1 M pc = some (.invokestatic z, len, 9998, b)) (x y : Int32) : mj_Rn P (d + 1) M (pc, L, .inl y :: .inl x :: S, h) = mj_s8 S (mj_Rn P (d + 1) M (pc + 3, L, .inl (if y < x then y else x) :: S, h)) := by
  rw [mj_Rn_eq hc rfl L _ h]
  exact op_b3 L S h (fun x y => if y < x then y else x) x y
theorem op_max {z : Nat} (hc : P.1 M pc = some (.invokestatic z, len, 9997, b)) (x y : Int32) : mj_Rn P (d + 1) M (pc, L, .inl y :: .inl x :: S, h) = mj_s8 S (mj_Rn P (d + 1) M (pc + 3, L, .inl (if x < y then y else x) :: S, h)) := by
  rw [mj_Rn_eq hc rfl L _ h]
  exact op_b3 L S h (fun x y => if x < y then y else x) x y
theorem op_rcv (c q : Nat) (as : List mj_V) : mj_rcv c as.length (as.reverse ++ .inr (some q) :: S) h = mj_tg h q c := by
  unfold mj_rcv
  rw [List.getElem?_append_right (by simp)]
  simp
theorem op_vi {x c : Nat} (hc : P.1 M pc = some (.invokevirtual x, len, a, b)) (hm : P.2.2.2.2.2 a = c) (q : Nat) (as : List mj_V) (hb : as.length + 1 = b) : mj_Rn P (d + 1) M (pc, L, as.reverse ++ .inr (some q) :: S, h) = if mj_tg h q c = true then (mj_s8 S (mj_bc (mj_Cl P d a (.inr (some q) :: as) h) (fun r h' => mj_Rn P (d + 1) M (pc + 3, L, r ++ S, h')))) else none := by
  rw [mj_Rn_eq hc rfl L _ h]
  show (if mj_rcv (P.2.2.2.2.2 a) (b - 1) (as.reverse ++ .inr (some q) :: S) h = true then mj_inv (mj_Cl P d) a b pc L (as.reverse ++ .inr (some q) :: S) h else none).bind _ = _
  subst hb
  rw [hm, Nat.add_sub_cancel, op_rcv]
  by_cases ht : mj_tg h q c = true
  · rw [if_pos ht, if_pos ht]
    have e := op_call (P := P) (d := d) (M := M) (pc := pc) (a := a) L S h (.inr (some q) :: as) rfl
    rw [List.reverse_cons, List.append_assoc] at e
    exact e
  · rw [if_neg ht, if_neg ht]; rfl
theorem op_in {x c : Nat} (hc : P.1 M pc = some (.invokespecial x, len, a, b)) (h9 : a ≠ 9999) (hm : P.2.2.2.2.2 a = c) (q : Nat) (as : List mj_V) (hb : as.length + 1 = b) : mj_Rn P (d + 1) M (pc, L, as.reverse ++ .inr (some q) :: S, h) = if mj_tg h q c = true then (mj_s8 S (mj_bc (mj_Cl P d a (.inr (some q) :: as) h) (fun r h' => mj_Rn P (d + 1) M (pc + 3, L, r ++ S, h')))) else none := by
  rw [mj_Rn_eq hc rfl L _ h]
  show (if a = 9999 then mj_oin pc L (as.reverse ++ .inr (some q) :: S) h else if mj_rcv (P.2.2.2.2.2 a) (b - 1) (as.reverse ++ .inr (some q) :: S) h = true then mj_inv (mj_Cl P d) a b pc L (as.reverse ++ .inr (some q) :: S) h else none).bind _ = _
  subst hb
  rw [if_neg h9, hm, Nat.add_sub_cancel, op_rcv]
  by_cases ht : mj_tg h q c = true
  · rw [if_pos ht, if_pos ht]
    have e := op_call (P := P) (d := d) (M := M) (pc := pc) (a := a) L S h (.inr (some q) :: as) rfl
    rw [List.reverse_cons, List.append_assoc] at e
    exact e
  · rw [if_neg ht, if_neg ht]; rfl
theorem op_oi {x : Nat} (hc : P.1 M pc = some (.invokespecial x, len, 9999, b)) (q : Nat) : mj_Rn P (d + 1) M (pc, L, .inr (some q) :: S, h) = mj_s8 S (mj_Rn P (d + 1) M (pc + 3, L, S, h)) := by
  rw [mj_Rn_eq hc rfl L _ h]
  unfold mj_s8
  show (if S.length ≤ 8 then mj_go (pc + 3) L S h else none).bind _ = _
  by_cases h8 : S.length ≤ 8
  · simp only [if_pos h8]; rfl
  · simp only [if_neg h8]; rfl
theorem op_ri (hc : P.1 M pc = some (.ireturn, len, a, b)) (hr : P.2.2.1 M = 1) (x : Int32) : mj_Rn P (d + 1) M (pc, L, [.inl x], h) = some (some (.inl x), h) := by
  rw [mj_Rn_ret hc rfl L _ h, hr]
  rfl
theorem op_rz (hc : P.1 M pc = some (.ireturn, len, a, b)) (hr : P.2.2.1 M = 2) (x : Int32) : mj_Rn P (d + 1) M (pc, L, [.inl x], h) = if x = 0 ∨ x = 1 then some (some (.inl x), h) else none := by
  rw [mj_Rn_ret hc rfl L _ h, hr]
  show (if (2 = 1 ∨ (2 = 2 ∧ (x = 0 ∨ x = 1))) then (some (some (.inl x), h) : Option mj_R) else none) = _
  by_cases hx : x = 0 ∨ x = 1
  · rw [if_pos hx, if_pos (Or.inr ⟨rfl, hx⟩)]
  · rw [if_neg hx, if_neg (fun q => q.elim (fun w => absurd w (by decide)) (fun w => hx w.2))]
theorem op_ra (hc : P.1 M pc = some (.areturn, len, a, b)) (hr : P.2.2.1 M = 3) (x : Option Nat) : mj_Rn P (d + 1) M (pc, L, [.inr x], h) = some (some (.inr x), h) := by
  rw [mj_Rn_ret hc rfl L _ h, hr]
  rfl
theorem op_rv (hc : P.1 M pc = some (.return_, len, a, b)) (hr : P.2.2.1 M = 0) : mj_Rn P (d + 1) M (pc, L, [], h) = some (none, h) := by
  rw [mj_Rn_ret hc rfl L _ h, hr]
  rfl
theorem op_ts {df lo hi : Int} {os : Array Int} (hc : P.1 M pc = some (.tableswitch df lo hi os, len, a, b)) (x : Int32) : mj_Rn P (d + 1) M (pc, L, .inl x :: S, h) = if 0 ≤ (pc : Int) + mj_tbl df lo hi os x.toInt then mj_Rn P (d + 1) M (((pc : Int) + mj_tbl df lo hi os x.toInt).toNat, L, S, h) else none := by
  rw [mj_Rn_eq hc rfl L _ h]
  show (if 0 ≤ (pc : Int) + mj_tbl df lo hi os x.toInt then mj_go ((pc : Int) + mj_tbl df lo hi os x.toInt).toNat L S h else none).bind _ = _
  by_cases h8 : 0 ≤ (pc : Int) + mj_tbl df lo hi os x.toInt
  · simp only [if_pos h8]; rfl
  · simp only [if_neg h8]; rfl
theorem op_clx {as : List mj_V} {n : Nat} (hn : P.2.1 a = n) : mj_Cl P d a as h = mj_Rn P d a (0, as.map some ++ List.replicate (n - as.length) none, [], h) := by
  subst hn; rfl
end OPC
end
section
/-! 12: FixtureOrder.counted(II)I -/
theorem c_12 (d : Nat) (as : List mj_V) (h : mj_H) : mj_Cl pg d 12 as h = mj_Rn pg d 12 (0, as.map some ++ List.replicate (4 - as.length) none, [], h) := op_clx (P := pg) h rfl
theorem e_12 (d : Nat) (v0 v1 v2 : mj_V) (h : mj_H) : mj_Cl pg d 12 [v0, v1, v2] h = mj_Rn pg d 12 (0, [some v0, some v1, some v2, none], [], h) := rfl
theorem s_12_0 (d : Nat) (L : mj_L) (S : List mj_V) (h : mj_H) : mj_Rn pg (d + 1) 12 (0, L, S, h) = mj_lA L 0 (fun x => mj_Rn pg (d + 1) 12 (1, L, .inr x :: S, h)) := op_aload_n (P := pg) L S h (show pg.1 12 0 = some ((.aload_n 0), 1, 0, 0) from rfl)
theorem s_12_1 (d : Nat) (L : mj_L) (S : List mj_V) (h : mj_H) (q : Nat) : mj_Rn pg (d + 1) 12 (1, L, .inr (some q) :: S, h) = (mj_gf h q 7 0).bind (fun v => mj_Rn pg (d + 1) 12 (4, L, v :: S, h)) := op_get (P := pg) L S h (show pg.1 12 1 = some ((.getfield 12), 3, 7, 0) from rfl) q
theorem s_12_4 (d : Nat) (L : mj_L) (S : List mj_V) (h : mj_H) : mj_Rn pg (d + 1) 12 (4, L, S, h) = mj_lI L 1 (fun x => mj_Rn pg (d + 1) 12 (5, L, .inl x :: S, h)) := op_iload_n (P := pg) L S h (show pg.1 12 4 = some ((.iload_n 1), 1, 0, 0) from rfl)
theorem s_12_5 (d : Nat) (L : mj_L) (S : List mj_V) (h : mj_H) (q : Nat) (v0 : mj_V) : mj_Rn pg (d + 1) 12 (5, L, v0 :: .inr (some q) :: S, h) = if mj_tg h q 5 = true then (mj_s8 S (mj_bc (mj_Cl pg d 90 [.inr (some q), v0] h) (fun r h' => mj_Rn pg (d + 1) 12 (8, L, r ++ S, h')))) else none := op_vi (P := pg) L S h (show pg.1 12 5 = some ((.invokevirtual 31), 3, 90, 2) from rfl) rfl q [v0] rfl
theorem s_12_8 (d : Nat) (L : mj_L) (S : List mj_V) (h : mj_H) (v : Option Nat) : mj_Rn pg (d + 1) 12 (8, L, .inr v :: S, h) = mj_sL L 3 (.inr v) (fun L' => mj_Rn pg (d + 1) 12 (9, L', S, h)) := op_astore_n (P := pg) L S h (show pg.1 12 8 = some ((.astore_n 3), 1, 0, 0) from rfl) v
theorem s_12_9 (d : Nat) (L : mj_L) (S : List mj_V) (h : mj_H) : mj_Rn pg (d + 1) 12 (9, L, S, h) = mj_lA L 3 (fun x => mj_Rn pg (d + 1) 12 (10, L, .inr x :: S, h)) := op_aload_n (P := pg) L S h (show pg.1 12 9 = some ((.aload_n 3), 1, 0, 0) from rfl)
theorem s_12_10_0 (d : Nat) (L : mj_L) (S : List mj_V) (h : mj_H) : mj_Rn pg (d + 1) 12 (10, L, .inr none :: S, h) = mj_Rn pg (d + 1) 12 (24, L, S, h) := op_nl_0 (P := pg) L S h (show pg.1 12 10 = some ((.ifnull 14), 3, 24, 0) from rfl)
theorem s_12_10_1 (d : Nat) (L : mj_L) (S : List mj_V) (h : mj_H) (q : Nat) : mj_Rn pg (d + 1) 12 (10, L, .inr (some q) :: S, h) = mj_Rn pg (d + 1) 12 (13, L, S, h) := op_nl_1 (P := pg) L S h (show pg.1 12 10 = some ((.ifnull 14), 3, 24, 0) from rfl) q
theorem s_12_13 (d : Nat) (L : mj_L) (S : List mj_V) (h : mj_H) : mj_Rn pg (d + 1) 12 (13, L, S, h) = mj_lI L 1 (fun x => mj_Rn pg (d + 1) 12 (14, L, .inl x :: S, h)) := op_iload_n (P := pg) L S h (show pg.1 12 13 = some ((.iload_n 1), 1, 0, 0) from rfl)
theorem s_12_14 (d : Nat) (L : mj_L) (S : List mj_V) (h : mj_H) : mj_Rn pg (d + 1) 12 (14, L, S, h) = mj_lA L 0 (fun x => mj_Rn pg (d + 1) 12 (15, L, .inr x :: S, h)) := op_aload_n (P := pg) L S h (show pg.1 12 14 = some ((.aload_n 0), 1, 0, 0) from rfl)
theorem s_12_15 (d : Nat) (L : mj_L) (S : List mj_V) (h : mj_H) (q : Nat) : mj_Rn pg (d + 1) 12 (15, L, .inr (some q) :: S, h) = (mj_gf h q 7 1).bind (fun v => mj_Rn pg (d + 1) 12 (18, L, v :: S, h)) := op_get (P := pg) L S h (show pg.1 12 15 = some ((.getfield 19), 3, 7, 1) from rfl) q
theorem s_12_18 (d : Nat) (L : mj_L) (S : List mj_V) (h : mj_H) (q : Nat) : mj_Rn pg (d + 1) 12 (18, L, .inr (some q) :: S, h) = (mj_gf h q 4 4).bind (fun v => mj_Rn pg (d + 1) 12 (21, L, v :: S, h)) := op_get (P := pg) L S h (show pg.1 12 18 = some ((.getfield 123), 3, 4, 4) from rfl) q
theorem s_12_21 (d : Nat) (L : mj_L) (S : List mj_V) (h : mj_H) (x y : Int32) : mj_Rn pg (d + 1) 12 (21, L, .inl y :: .inl x :: S, h) = if x < y then mj_Rn pg (d + 1) 12 (26, L, S, h) else mj_Rn pg (d + 1) 12 (24, L, S, h) := op_ic_lt (P := pg) L S h (show pg.1 12 21 = some ((.if_icmp .lt 5), 3, 26, 0) from rfl) x y
theorem s_12_24 (d : Nat) (L : mj_L) (S : List mj_V) (h : mj_H) : mj_Rn pg (d + 1) 12 (24, L, S, h) = mj_Rn pg (d + 1) 12 (25, L, .inl (-1) :: S, h) := op_iconst (P := pg) L S h (show pg.1 12 24 = some ((.iconst (-1)), 1, 0, 0) from rfl)
theorem s_12_25 (d : Nat) (L : mj_L) (h : mj_H) (x : Int32) : mj_Rn pg (d + 1) 12 (25, L, [.inl x], h) = some (some (.inl x), h) := op_ri (P := pg) L h (show pg.1 12 25 = some (.ireturn, 1, 0, 0) from rfl) rfl x
theorem s_12_26 (d : Nat) (L : mj_L) (S : List mj_V) (h : mj_H) : mj_Rn pg (d + 1) 12 (26, L, S, h) = mj_lA L 3 (fun x => mj_Rn pg (d + 1) 12 (27, L, .inr x :: S, h)) := op_aload_n (P := pg) L S h (show pg.1 12 26 = some ((.aload_n 3), 1, 0, 0) from rfl)
theorem s_12_27 (d : Nat) (L : mj_L) (S : List mj_V) (h : mj_H) : mj_Rn pg (d + 1) 12 (27, L, S, h) = mj_lI L 2 (fun x => mj_Rn pg (d + 1) 12 (28, L, .inl x :: S, h)) := op_iload_n (P := pg) L S h (show pg.1 12 27 = some ((.iload_n 2), 1, 0, 0) from rfl)
theorem s_12_28 (d : Nat) (L : mj_L) (S : List mj_V) (h : mj_H) (q : Nat) (v0 : mj_V) : mj_Rn pg (d + 1) 12 (28, L, v0 :: .inr (some q) :: S, h) = if mj_tg h q 1 = true then (mj_s8 S (mj_bc (mj_Cl pg d 63 [.inr (some q), v0] h) (fun r h' => mj_Rn pg (d + 1) 12 (31, L, r ++ S, h')))) else none := op_vi (P := pg) L S h (show pg.1 12 28 = some ((.invokevirtual 126), 3, 63, 2) from rfl) rfl q [v0] rfl
theorem s_12_31 (d : Nat) (L : mj_L) (h : mj_H) (x : Int32) : mj_Rn pg (d + 1) 12 (31, L, [.inl x], h) = some (some (.inl x), h) := op_ri (P := pg) L h (show pg.1 12 31 = some (.ireturn, 1, 0, 0) from rfl) rfl x
/-! 13: FixtureOrder.closure(II)I -/
theorem c_13 (d : Nat) (as : List mj_V) (h : mj_H) : mj_Cl pg d 13 as h = mj_Rn pg d 13 (0, as.map some ++ List.replicate (5 - as.length) none, [], h) := op_clx (P := pg) h rfl
theorem e_13 (d : Nat) (v0 v1 v2 : mj_V) (h : mj_H) : mj_Cl pg d 13 [v0, v1, v2] h = mj_Rn pg d 13 (0, [some v0, some v1, some v2, none, none], [], h) := rfl
theorem s_13_0 (d : Nat) (L : mj_L) (S : List mj_V) (h : mj_H) : mj_Rn pg (d + 1) 13 (0, L, S, h) = mj_lA L 0 (fun x => mj_Rn pg (d + 1) 13 (1, L, .inr x :: S, h)) := op_aload_n (P := pg) L S h (show pg.1 13 0 = some ((.aload_n 0), 1, 0, 0) from rfl)
theorem s_13_1 (d : Nat) (L : mj_L) (S : List mj_V) (h : mj_H) (q : Nat) : mj_Rn pg (d + 1) 13 (1, L, .inr (some q) :: S, h) = (mj_gf h q 7 0).bind (fun v => mj_Rn pg (d + 1) 13 (4, L, v :: S, h)) := op_get (P := pg) L S h (show pg.1 13 1 = some ((.getfield 12), 3, 7, 0) from rfl) q
theorem s_13_4 (d : Nat) (L : mj_L) (S : List mj_V) (h : mj_H) : mj_Rn pg (d + 1) 13 (4, L, S, h) = mj_lI L 1 (fun x => mj_Rn pg (d + 1) 13 (5, L, .inl x :: S, h)) := op_iload_n (P := pg) L S h (show pg.1 13 4 = some ((.iload_n 1), 1, 0, 0) from rfl)
theorem s_13_5 (d : Nat) (L : mj_L) (S : List mj_V) (h : mj_H) (q : Nat) (v0 : mj_V) : mj_Rn pg (d + 1) 13 (5, L, v0 :: .inr (some q) :: S, h) = if mj_tg h q 5 = true then (mj_s8 S (mj_bc (mj_Cl pg d 91 [.inr (some q), v0] h) (fun r h' => mj_Rn pg (d + 1) 13 (8, L, r ++ S, h')))) else none := op_vi (P := pg) L S h (show pg.1 13 5 = some ((.invokevirtual 66), 3, 91, 2) from rfl) rfl q [v0] rfl
theorem s_13_8 (d : Nat) (L : mj_L) (S : List mj_V) (h : mj_H) (v : Option Nat) : mj_Rn pg (d + 1) 13 (8, L, .inr v :: S, h) = mj_sL L 3 (.inr v) (fun L' => mj_Rn pg (d + 1) 13 (9, L', S, h)) := op_astore_n (P := pg) L S h (show pg.1 13 8 = some ((.astore_n 3), 1, 0, 0) from rfl) v
theorem s_13_9 (d : Nat) (L : mj_L) (S : List mj_V) (h : mj_H) : mj_Rn pg (d + 1) 13 (9, L, S, h) = mj_lA L 3 (fun x => mj_Rn pg (d + 1) 13 (10, L, .inr x :: S, h)) := op_aload_n (P := pg) L S h (show pg.1 13 9 = some ((.aload_n 3), 1, 0, 0) from rfl)
theorem s_13_10_0 (d : Nat) (L : mj_L) (S : List mj_V) (h : mj_H) : mj_Rn pg (d + 1) 13 (10, L, .inr none :: S, h) = mj_Rn pg (d + 1) 13 (13, L, S, h) := op_nn_0 (P := pg) L S h (show pg.1 13 10 = some ((.ifnonnull 5), 3, 15, 0) from rfl)
theorem s_13_10_1 (d : Nat) (L : mj_L) (S : List mj_V) (h : mj_H) (q : Nat) : mj_Rn pg (d + 1) 13 (10, L, .inr (some q) :: S, h) = mj_Rn pg (d + 1) 13 (15, L, S, h) := op_nn_1 (P := pg) L S h (show pg.1 13 10 = some ((.ifnonnull 5), 3, 15, 0) from rfl) q
theorem s_13_13 (d : Nat) (L : mj_L) (S : List mj_V) (h : mj_H) : mj_Rn pg (d + 1) 13 (13, L, S, h) = mj_Rn pg (d + 1) 13 (14, L, .inl (-1) :: S, h) := op_iconst (P := pg) L S h (show pg.1 13 13 = some ((.iconst (-1)), 1, 0, 0) from rfl)
theorem s_13_14 (d : Nat) (L : mj_L) (h : mj_H) (x : Int32) : mj_Rn pg (d + 1) 13 (14, L, [.inl x], h) = some (some (.inl x), h) := op_ri (P := pg) L h (show pg.1 13 14 = some (.ireturn, 1, 0, 0) from rfl) rfl x
theorem s_13_15 (d : Nat) (L : mj_L) (S : List mj_V) (h : mj_H) : mj_Rn pg (d + 1) 13 (15, L, S, h) = mj_lA L 3 (fun x => mj_Rn pg (d + 1) 13 (16, L, .inr x :: S, h)) := op_aload_n (P := pg) L S h (show pg.1 13 15 = some ((.aload_n 3), 1, 0, 0) from rfl)
theorem s_13_16 (d : Nat) (L : mj_L) (S : List mj_V) (h : mj_H) (q : Nat) : mj_Rn pg (d + 1) 13 (16, L, .inr (some q) :: S, h) = if mj_tg h q 6 = true then (mj_s8 S (mj_bc (mj_Cl pg d 98 [.inr (some q)] h) (fun r h' => mj_Rn pg (d + 1) 13 (19, L, r ++ S, h')))) else none := op_vi (P := pg) L S h (show pg.1 13 16 = some ((.invokevirtual 129), 3, 98, 1) from rfl) rfl q [] rfl
theorem s_13_19 (d : Nat) (L : mj_L) (S : List mj_V) (h : mj_H) : mj_Rn pg (d + 1) 13 (19, L, S, h) = mj_lA L 3 (fun x => mj_Rn pg (d + 1) 13 (20, L, .inr x :: S, h)) := op_aload_n (P := pg) L S h (show pg.1 13 19 = some ((.aload_n 3), 1, 0, 0) from rfl)
theorem s_13_20 (d : Nat) (L : mj_L) (S : List mj_V) (h : mj_H) (q : Nat) : mj_Rn pg (d + 1) 13 (20, L, .inr (some q) :: S, h) = (mj_gf h q 6 3).bind (fun v => mj_Rn pg (d + 1) 13 (23, L, v :: S, h)) := op_get (P := pg) L S h (show pg.1 13 20 = some ((.getfield 132), 3, 6, 3) from rfl) q
theorem s_13_23 (d : Nat) (L : mj_L) (S : List mj_V) (h : mj_H) : mj_Rn pg (d + 1) 13 (23, L, S, h) = mj_lI L 2 (fun x => mj_Rn pg (d + 1) 13 (24, L, .inl x :: S, h)) := op_iload_n (P := pg) L S h (show pg.1 13 23 = some ((.iload_n 2), 1, 0, 0) from rfl)
theorem s_13_24 (d : Nat) (L : mj_L) (S : List mj_V) (h : mj_H) (q : Nat) (v0 : mj_V) : mj_Rn pg (d + 1) 13 (24, L, v0 :: .inr (some q) :: S, h) = if mj_tg h q 3 = true then (mj_s8 S (mj_bc (mj_Cl pg d 73 [.inr (some q), v0] h) (fun r h' => mj_Rn pg (d + 1) 13 (27, L, r ++ S, h')))) else none := op_vi (P := pg) L S h (show pg.1 13 24 = some ((.invokevirtual 135), 3, 73, 2) from rfl) rfl q [v0] rfl
theorem s_13_27 (d : Nat) (L : mj_L) (S : List mj_V) (h : mj_H) (v : Option Nat) : mj_Rn pg (d + 1) 13 (27, L, .inr v :: S, h) = mj_sL L 4 (.inr v) (fun L' => mj_Rn pg (d + 1) 13 (29, L', S, h)) := op_astore (P := pg) L S h (show pg.1 13 27 = some ((.astore 4), 2, 0, 0) from rfl) v
theorem s_13_29 (d : Nat) (L : mj_L) (S : List mj_V) (h : mj_H) : mj_Rn pg (d + 1) 13 (29, L, S, h) = mj_lA L 4 (fun x => mj_Rn pg (d + 1) 13 (31, L, .inr x :: S, h)) := op_aload (P := pg) L S h (show pg.1 13 29 = some ((.aload 4), 2, 0, 0) from rfl)
theorem s_13_31_0 (d : Nat) (L : mj_L) (S : List mj_V) (h : mj_H) : mj_Rn pg (d + 1) 13 (31, L, .inr none :: S, h) = mj_Rn pg (d + 1) 13 (34, L, S, h) := op_nn_0 (P := pg) L S h (show pg.1 13 31 = some ((.ifnonnull 7), 3, 38, 0) from rfl)
theorem s_13_31_1 (d : Nat) (L : mj_L) (S : List mj_V) (h : mj_H) (q : Nat) : mj_Rn pg (d + 1) 13 (31, L, .inr (some q) :: S, h) = mj_Rn pg (d + 1) 13 (38, L, S, h) := op_nn_1 (P := pg) L S h (show pg.1 13 31 = some ((.ifnonnull 7), 3, 38, 0) from rfl) q
theorem s_13_34 (d : Nat) (L : mj_L) (S : List mj_V) (h : mj_H) : mj_Rn pg (d + 1) 13 (34, L, S, h) = mj_Rn pg (d + 1) 13 (35, L, .inl (-1) :: S, h) := op_iconst (P := pg) L S h (show pg.1 13 34 = some ((.iconst (-1)), 1, 0, 0) from rfl)
theorem s_13_35 (d : Nat) (L : mj_L) (S : List mj_V) (h : mj_H) : mj_Rn pg (d + 1) 13 (35, L, S, h) = mj_Rn pg (d + 1) 13 (43, L, S, h) := op_goto (P := pg) L S h (show pg.1 13 35 = some ((.goto 8), 3, 43, 0) from rfl)
theorem s_13_38 (d : Nat) (L : mj_L) (S : List mj_V) (h : mj_H) : mj_Rn pg (d + 1) 13 (38, L, S, h) = mj_lA L 4 (fun x => mj_Rn pg (d + 1) 13 (40, L, .inr x :: S, h)) := op_aload (P := pg) L S h (show pg.1 13 38 = some ((.aload 4), 2, 0, 0) from rfl)
theorem s_13_40 (d : Nat) (L : mj_L) (S : List mj_V) (h : mj_H) (q : Nat) : mj_Rn pg (d + 1) 13 (40, L, .inr (some q) :: S, h) = (mj_gf h q 1 0).bind (fun v => mj_Rn pg (d + 1) 13 (43, L, v :: S, h)) := op_get (P := pg) L S h (show pg.1 13 40 = some ((.getfield 138), 3, 1, 0) from rfl) q
theorem s_13_43 (d : Nat) (L : mj_L) (h : mj_H) (x : Int32) : mj_Rn pg (d + 1) 13 (43, L, [.inl x], h) = some (some (.inl x), h) := op_ri (P := pg) L h (show pg.1 13 43 = some (.ireturn, 1, 0, 0) from rfl) rfl x
/-! 14: FixtureOrder.cases(I)I -/
theorem c_14 (d : Nat) (as : List mj_V) (h : mj_H) : mj_Cl pg d 14 as h = mj_Rn pg d 14 (0, as.map some ++ List.replicate (3 - as.length) none, [], h) := op_clx (P := pg) h rfl
theorem e_14 (d : Nat) (v0 v1 : mj_V) (h : mj_H) : mj_Cl pg d 14 [v0, v1] h = mj_Rn pg d 14 (0, [some v0, some v1, none], [], h) := rfl
theorem s_14_0 (d : Nat) (L : mj_L) (S : List mj_V) (h : mj_H) : mj_Rn pg (d + 1) 14 (0, L, S, h) = mj_lA L 0 (fun x => mj_Rn pg (d + 1) 14 (1, L, .inr x :: S, h)) := op_aload_n (P := pg) L S h (show pg.1 14 0 = some ((.aload_n 0), 1, 0, 0) from rfl)
theorem s_14_1 (d : Nat) (L : mj_L) (S : List mj_V) (h : mj_H) (q : Nat) : mj_Rn pg (d + 1) 14 (1, L, .inr (some q) :: S, h) = (mj_gf h q 7 0).bind (fun v => mj_Rn pg (d + 1) 14 (4, L, v :: S, h)) := op_get (P := pg) L S h (show pg.1 14 1 = some ((.getfield 12), 3, 7, 0) from rfl) q
theorem s_14_4 (d : Nat) (L : mj_L) (S : List mj_V) (h : mj_H) : mj_Rn pg (d + 1) 14 (4, L, S, h) = mj_lI L 1 (fun x => mj_Rn pg (d + 1) 14 (5, L, .inl x :: S, h)) := op_iload_n (P := pg) L S h (show pg.1 14 4 = some ((.iload_n 1), 1, 0, 0) from rfl)
theorem s_14_5 (d : Nat) (L : mj_L) (S : List mj_V) (h : mj_H) (q : Nat) (v0 : mj_V) : mj_Rn pg (d + 1) 14 (5, L, v0 :: .inr (some q) :: S, h) = if mj_tg h q 5 = true then (mj_s8 S (mj_bc (mj_Cl pg d 91 [.inr (some q), v0] h) (fun r h' => mj_Rn pg (d + 1) 14 (8, L, r ++ S, h')))) else none := op_vi (P := pg) L S h (show pg.1 14 5 = some ((.invokevirtual 66), 3, 91, 2) from rfl) rfl q [v0] rfl
theorem s_14_8 (d : Nat) (L : mj_L) (S : List mj_V) (h : mj_H) (v : Option Nat) : mj_Rn pg (d + 1) 14 (8, L, .inr v :: S, h) = mj_sL L 2 (.inr v) (fun L' => mj_Rn pg (d + 1) 14 (9, L', S, h)) := op_astore_n (P := pg) L S h (show pg.1 14 8 = some ((.astore_n 2), 1, 0, 0) from rfl) v
theorem s_14_9 (d : Nat) (L : mj_L) (S : List mj_V) (h : mj_H) : mj_Rn pg (d + 1) 14 (9, L, S, h) = mj_lA L 2 (fun x => mj_Rn pg (d + 1) 14 (10, L, .inr x :: S, h)) := op_aload_n (P := pg) L S h (show pg.1 14 9 = some ((.aload_n 2), 1, 0, 0) from rfl)
theorem s_14_10_0 (d : Nat) (L : mj_L) (S : List mj_V) (h : mj_H) : mj_Rn pg (d + 1) 14 (10, L, .inr none :: S, h) = mj_Rn pg (d + 1) 14 (13, L, S, h) := op_nn_0 (P := pg) L S h (show pg.1 14 10 = some ((.ifnonnull 7), 3, 17, 0) from rfl)
theorem s_14_10_1 (d : Nat) (L : mj_L) (S : List mj_V) (h : mj_H) (q : Nat) : mj_Rn pg (d + 1) 14 (10, L, .inr (some q) :: S, h) = mj_Rn pg (d + 1) 14 (17, L, S, h) := op_nn_1 (P := pg) L S h (show pg.1 14 10 = some ((.ifnonnull 7), 3, 17, 0) from rfl) q
theorem s_14_13 (d : Nat) (L : mj_L) (S : List mj_V) (h : mj_H) : mj_Rn pg (d + 1) 14 (13, L, S, h) = mj_Rn pg (d + 1) 14 (14, L, .inl (-1) :: S, h) := op_iconst (P := pg) L S h (show pg.1 14 13 = some ((.iconst (-1)), 1, 0, 0) from rfl)
theorem s_14_14 (d : Nat) (L : mj_L) (S : List mj_V) (h : mj_H) : mj_Rn pg (d + 1) 14 (14, L, S, h) = mj_Rn pg (d + 1) 14 (21, L, S, h) := op_goto (P := pg) L S h (show pg.1 14 14 = some ((.goto 7), 3, 21, 0) from rfl)
theorem s_14_17 (d : Nat) (L : mj_L) (S : List mj_V) (h : mj_H) : mj_Rn pg (d + 1) 14 (17, L, S, h) = mj_lA L 2 (fun x => mj_Rn pg (d + 1) 14 (18, L, .inr x :: S, h)) := op_aload_n (P := pg) L S h (show pg.1 14 17 = some ((.aload_n 2), 1, 0, 0) from rfl)
theorem s_14_18 (d : Nat) (L : mj_L) (S : List mj_V) (h : mj_H) (q : Nat) : mj_Rn pg (d + 1) 14 (18, L, .inr (some q) :: S, h) = if mj_tg h q 6 = true then (mj_s8 S (mj_bc (mj_Cl pg d 100 [.inr (some q)] h) (fun r h' => mj_Rn pg (d + 1) 14 (21, L, r ++ S, h')))) else none := op_vi (P := pg) L S h (show pg.1 14 18 = some ((.invokevirtual 141), 3, 100, 1) from rfl) rfl q [] rfl
theorem s_14_21 (d : Nat) (L : mj_L) (h : mj_H) (x : Int32) : mj_Rn pg (d + 1) 14 (21, L, [.inl x], h) = some (some (.inl x), h) := op_ri (P := pg) L h (show pg.1 14 21 = some (.ireturn, 1, 0, 0) from rfl) rfl x
/-! 15: FixtureOrder.isWithin(III)Z -/
theorem c_15 (d : Nat) (as : List mj_V) (h : mj_H) : mj_Cl pg d 15 as h = mj_Rn pg d 15 (0, as.map some ++ List.replicate (3 - as.length) none, [], h) := op_clx (P := pg) h rfl
theorem e_15 (d : Nat) (v0 v1 v2 : mj_V) (h : mj_H) : mj_Cl pg d 15 [v0, v1, v2] h = mj_Rn pg d 15 (0, [some v0, some v1, some v2], [], h) := rfl
theorem s_15_0 (d : Nat) (L : mj_L) (S : List mj_V) (h : mj_H) : mj_Rn pg (d + 1) 15 (0, L, S, h) = mj_lI L 0 (fun x => mj_Rn pg (d + 1) 15 (1, L, .inl x :: S, h)) := op_iload_n (P := pg) L S h (show pg.1 15 0 = some ((.iload_n 0), 1, 0, 0) from rfl)
theorem s_15_1 (d : Nat) (L : mj_L) (S : List mj_V) (h : mj_H) : mj_Rn pg (d + 1) 15 (1, L, S, h) = mj_lI L 1 (fun x => mj_Rn pg (d + 1) 15 (2, L, .inl x :: S, h)) := op_iload_n (P := pg) L S h (show pg.1 15 1 = some ((.iload_n 1), 1, 0, 0) from rfl)
theorem s_15_2 (d : Nat) (L : mj_L) (S : List mj_V) (h : mj_H) (x y : Int32) : mj_Rn pg (d + 1) 15 (2, L, .inl y :: .inl x :: S, h) = if x < y then mj_Rn pg (d + 1) 15 (14, L, S, h) else mj_Rn pg (d + 1) 15 (5, L, S, h) := op_ic_lt (P := pg) L S h (show pg.1 15 2 = some ((.if_icmp .lt 12), 3, 14, 0) from rfl) x y
theorem s_15_5 (d : Nat) (L : mj_L) (S : List mj_V) (h : mj_H) : mj_Rn pg (d + 1) 15 (5, L, S, h) = mj_lI L 0 (fun x => mj_Rn pg (d + 1) 15 (6, L, .inl x :: S, h)) := op_iload_n (P := pg) L S h (show pg.1 15 5 = some ((.iload_n 0), 1, 0, 0) from rfl)
theorem s_15_6 (d : Nat) (L : mj_L) (S : List mj_V) (h : mj_H) : mj_Rn pg (d + 1) 15 (6, L, S, h) = mj_lI L 2 (fun x => mj_Rn pg (d + 1) 15 (7, L, .inl x :: S, h)) := op_iload_n (P := pg) L S h (show pg.1 15 6 = some ((.iload_n 2), 1, 0, 0) from rfl)
theorem s_15_7 (d : Nat) (L : mj_L) (S : List mj_V) (h : mj_H) (x y : Int32) : mj_Rn pg (d + 1) 15 (7, L, .inl y :: .inl x :: S, h) = if y < x then mj_Rn pg (d + 1) 15 (14, L, S, h) else mj_Rn pg (d + 1) 15 (10, L, S, h) := op_ic_gt (P := pg) L S h (show pg.1 15 7 = some ((.if_icmp .gt 7), 3, 14, 0) from rfl) x y
theorem s_15_10 (d : Nat) (L : mj_L) (S : List mj_V) (h : mj_H) : mj_Rn pg (d + 1) 15 (10, L, S, h) = mj_Rn pg (d + 1) 15 (11, L, .inl 1 :: S, h) := op_iconst (P := pg) L S h (show pg.1 15 10 = some ((.iconst 1), 1, 0, 0) from rfl)
theorem s_15_11 (d : Nat) (L : mj_L) (S : List mj_V) (h : mj_H) : mj_Rn pg (d + 1) 15 (11, L, S, h) = mj_Rn pg (d + 1) 15 (15, L, S, h) := op_goto (P := pg) L S h (show pg.1 15 11 = some ((.goto 4), 3, 15, 0) from rfl)
theorem s_15_14 (d : Nat) (L : mj_L) (S : List mj_V) (h : mj_H) : mj_Rn pg (d + 1) 15 (14, L, S, h) = mj_Rn pg (d + 1) 15 (15, L, .inl 0 :: S, h) := op_iconst (P := pg) L S h (show pg.1 15 14 = some ((.iconst 0), 1, 0, 0) from rfl)
theorem s_15_15 (d : Nat) (L : mj_L) (h : mj_H) (x : Int32) : mj_Rn pg (d + 1) 15 (15, L, [.inl x], h) = if x = 0 ∨ x = 1 then some (some (.inl x), h) else none := op_rz (P := pg) L h (show pg.1 15 15 = some (.ireturn, 1, 0, 0) from rfl) rfl x
/-! 16: FixtureOrderModel.<init>()V -/
theorem c_16 (d : Nat) (as : List mj_V) (h : mj_H) : mj_Cl pg d 16 as h = mj_Rn pg d 16 (0, as.map some ++ List.replicate (1 - as.length) none, [], h) := op_clx (P := pg) h rfl
theorem e_16 (d : Nat) (v0 : mj_V) (h : mj_H) : mj_Cl pg d 16 [v0] h = mj_Rn pg d 16 (0, [some v0], [], h) := rfl
theorem s_16_0 (d : Nat) (L : mj_L) (S : List mj_V) (h : mj_H) : mj_Rn pg (d + 1) 16 (0, L, S, h) = mj_lA L 0 (fun x => mj_Rn pg (d + 1) 16 (1, L, .inr x :: S, h)) := op_aload_n (P := pg) L S h (show pg.1 16 0 = some ((.aload_n 0), 1, 0, 0) from rfl)
theorem s_16_1 (d : Nat) (L : mj_L) (S : List mj_V) (h : mj_H) (q : Nat) : mj_Rn pg (d + 1) 16 (1, L, .inr (some q) :: S, h) = mj_s8 S (mj_Rn pg (d + 1) 16 (4, L, S, h)) := op_oi (P := pg) L S h (show pg.1 16 1 = some ((.invokespecial 1), 3, 9999, 1) from rfl) q
theorem s_16_4 (d : Nat) (L : mj_L) (S : List mj_V) (h : mj_H) : mj_Rn pg (d + 1) 16 (4, L, S, h) = mj_lA L 0 (fun x => mj_Rn pg (d + 1) 16 (5, L, .inr x :: S, h)) := op_aload_n (P := pg) L S h (show pg.1 16 4 = some ((.aload_n 0), 1, 0, 0) from rfl)
theorem s_16_5 (d : Nat) (L : mj_L) (S : List mj_V) (h : mj_H) : mj_Rn pg (d + 1) 16 (5, L, S, h) = mj_Rn pg (d + 1) 16 (7, L, .inl 12 :: S, h) := op_bipush (P := pg) L S h (show pg.1 16 5 = some ((.bipush 12), 2, 0, 0) from rfl)
theorem s_16_7 (d : Nat) (L : mj_L) (S : List mj_V) (h : mj_H) (x : Int32) : mj_Rn pg (d + 1) 16 (7, L, .inl x :: S, h) = if x < 0 ∨ 100000 < x.toNatClampNeg then none else mj_Rn pg (d + 1) 16 (9, L, .inr (some h.length) :: S, h ++ [(100, List.replicate x.toNatClampNeg (.inl 0))]) := op_na_int (P := pg) L S h (show pg.1 16 7 = some ((.newarray .int), 2, 0, 0) from rfl) x
theorem s_16_9 (d : Nat) (L : mj_L) (S : List mj_V) (h : mj_H) (q : Nat) (v : Option Nat) : mj_Rn pg (d + 1) 16 (9, L, .inr v :: .inr (some q) :: S, h) = (mj_pf h q 8 3 (.inr v)).bind (fun h' => mj_Rn pg (d + 1) 16 (12, L, S, h')) := op_put (P := pg) L S h (show pg.1 16 9 = some ((.putfield 7), 3, 8, 3) from rfl) q (.inr v)
theorem s_16_12 (d : Nat) (L : mj_L) (S : List mj_V) (h : mj_H) : mj_Rn pg (d + 1) 16 (12, L, S, h) = mj_lA L 0 (fun x => mj_Rn pg (d + 1) 16 (13, L, .inr x :: S, h)) := op_aload_n (P := pg) L S h (show pg.1 16 12 = some ((.aload_n 0), 1, 0, 0) from rfl)
theorem s_16_13 (d : Nat) (L : mj_L) (S : List mj_V) (h : mj_H) : mj_Rn pg (d + 1) 16 (13, L, S, h) = mj_Rn pg (d + 1) 16 (15, L, .inl 12 :: S, h) := op_bipush (P := pg) L S h (show pg.1 16 13 = some ((.bipush 12), 2, 0, 0) from rfl)
theorem s_16_15 (d : Nat) (L : mj_L) (S : List mj_V) (h : mj_H) (x : Int32) : mj_Rn pg (d + 1) 16 (15, L, .inl x :: S, h) = if x < 0 ∨ 100000 < x.toNatClampNeg then none else mj_Rn pg (d + 1) 16 (17, L, .inr (some h.length) :: S, h ++ [(100, List.replicate x.toNatClampNeg (.inl 0))]) := op_na_int (P := pg) L S h (show pg.1 16 15 = some ((.newarray .int), 2, 0, 0) from rfl) x
theorem s_16_17 (d : Nat) (L : mj_L) (S : List mj_V) (h : mj_H) (q : Nat) (v : Option Nat) : mj_Rn pg (d + 1) 16 (17, L, .inr v :: .inr (some q) :: S, h) = (mj_pf h q 8 4 (.inr v)).bind (fun h' => mj_Rn pg (d + 1) 16 (20, L, S, h')) := op_put (P := pg) L S h (show pg.1 16 17 = some ((.putfield 13), 3, 8, 4) from rfl) q (.inr v)
theorem s_16_20 (d : Nat) (L : mj_L) (S : List mj_V) (h : mj_H) : mj_Rn pg (d + 1) 16 (20, L, S, h) = mj_lA L 0 (fun x => mj_Rn pg (d + 1) 16 (21, L, .inr x :: S, h)) := op_aload_n (P := pg) L S h (show pg.1 16 20 = some ((.aload_n 0), 1, 0, 0) from rfl)
theorem s_16_21 (d : Nat) (L : mj_L) (S : List mj_V) (h : mj_H) : mj_Rn pg (d + 1) 16 (21, L, S, h) = mj_Rn pg (d + 1) 16 (23, L, .inl 12 :: S, h) := op_bipush (P := pg) L S h (show pg.1 16 21 = some ((.bipush 12), 2, 0, 0) from rfl)
theorem s_16_23 (d : Nat) (L : mj_L) (S : List mj_V) (h : mj_H) (x : Int32) : mj_Rn pg (d + 1) 16 (23, L, .inl x :: S, h) = if x < 0 ∨ 100000 < x.toNatClampNeg then none else mj_Rn pg (d + 1) 16 (25, L, .inr (some h.length) :: S, h ++ [(100, List.replicate x.toNatClampNeg (.inl 0))]) := op_na_int (P := pg) L S h (show pg.1 16 23 = some ((.newarray .int), 2, 0, 0) from rfl) x
theorem s_16_25 (d : Nat) (L : mj_L) (S : List mj_V) (h : mj_H) (q : Nat) (v : Option Nat) : mj_Rn pg (d + 1) 16 (25, L, .inr v :: .inr (some q) :: S, h) = (mj_pf h q 8 5 (.inr v)).bind (fun h' => mj_Rn pg (d + 1) 16 (28, L, S, h')) := op_put (P := pg) L S h (show pg.1 16 25 = some ((.putfield 16), 3, 8, 5) from rfl) q (.inr v)
theorem s_16_28 (d : Nat) (L : mj_L) (S : List mj_V) (h : mj_H) : mj_Rn pg (d + 1) 16 (28, L, S, h) = mj_lA L 0 (fun x => mj_Rn pg (d + 1) 16 (29, L, .inr x :: S, h)) := op_aload_n (P := pg) L S h (show pg.1 16 28 = some ((.aload_n 0), 1, 0, 0) from rfl)
theorem s_16_29 (d : Nat) (L : mj_L) (S : List mj_V) (h : mj_H) : mj_Rn pg (d + 1) 16 (29, L, S, h) = mj_Rn pg (d + 1) 16 (31, L, .inl 72 :: S, h) := op_bipush (P := pg) L S h (show pg.1 16 29 = some ((.bipush 72), 2, 0, 0) from rfl)
theorem s_16_31 (d : Nat) (L : mj_L) (S : List mj_V) (h : mj_H) (x : Int32) : mj_Rn pg (d + 1) 16 (31, L, .inl x :: S, h) = if x < 0 ∨ 100000 < x.toNatClampNeg then none else mj_Rn pg (d + 1) 16 (33, L, .inr (some h.length) :: S, h ++ [(100, List.replicate x.toNatClampNeg (.inl 0))]) := op_na_int (P := pg) L S h (show pg.1 16 31 = some ((.newarray .int), 2, 0, 0) from rfl) x
theorem s_16_33 (d : Nat) (L : mj_L) (S : List mj_V) (h : mj_H) (q : Nat) (v : Option Nat) : mj_Rn pg (d + 1) 16 (33, L, .inr v :: .inr (some q) :: S, h) = (mj_pf h q 8 6 (.inr v)).bind (fun h' => mj_Rn pg (d + 1) 16 (36, L, S, h')) := op_put (P := pg) L S h (show pg.1 16 33 = some ((.putfield 19), 3, 8, 6) from rfl) q (.inr v)
theorem s_16_36 (d : Nat) (L : mj_L) (S : List mj_V) (h : mj_H) : mj_Rn pg (d + 1) 16 (36, L, S, h) = mj_lA L 0 (fun x => mj_Rn pg (d + 1) 16 (37, L, .inr x :: S, h)) := op_aload_n (P := pg) L S h (show pg.1 16 36 = some ((.aload_n 0), 1, 0, 0) from rfl)
theorem s_16_37 (d : Nat) (L : mj_L) (S : List mj_V) (h : mj_H) : mj_Rn pg (d + 1) 16 (37, L, S, h) = mj_Rn pg (d + 1) 16 (39, L, .inl 12 :: S, h) := op_bipush (P := pg) L S h (show pg.1 16 37 = some ((.bipush 12), 2, 0, 0) from rfl)
theorem s_16_39 (d : Nat) (L : mj_L) (S : List mj_V) (h : mj_H) (x : Int32) : mj_Rn pg (d + 1) 16 (39, L, .inl x :: S, h) = if x < 0 ∨ 100000 < x.toNatClampNeg then none else mj_Rn pg (d + 1) 16 (41, L, .inr (some h.length) :: S, h ++ [(200, List.replicate x.toNatClampNeg (.inl 0))]) := op_na_boolean (P := pg) L S h (show pg.1 16 39 = some ((.newarray .boolean), 2, 0, 0) from rfl) x
theorem s_16_41 (d : Nat) (L : mj_L) (S : List mj_V) (h : mj_H) (q : Nat) (v : Option Nat) : mj_Rn pg (d + 1) 16 (41, L, .inr v :: .inr (some q) :: S, h) = (mj_pf h q 8 7 (.inr v)).bind (fun h' => mj_Rn pg (d + 1) 16 (44, L, S, h')) := op_put (P := pg) L S h (show pg.1 16 41 = some ((.putfield 22), 3, 8, 7) from rfl) q (.inr v)
theorem s_16_44 (d : Nat) (L : mj_L) (S : List mj_V) (h : mj_H) : mj_Rn pg (d + 1) 16 (44, L, S, h) = mj_lA L 0 (fun x => mj_Rn pg (d + 1) 16 (45, L, .inr x :: S, h)) := op_aload_n (P := pg) L S h (show pg.1 16 44 = some ((.aload_n 0), 1, 0, 0) from rfl)
theorem s_16_45 (d : Nat) (L : mj_L) (S : List mj_V) (h : mj_H) : mj_Rn pg (d + 1) 16 (45, L, S, h) = mj_Rn pg (d + 1) 16 (47, L, .inl 12 :: S, h) := op_bipush (P := pg) L S h (show pg.1 16 45 = some ((.bipush 12), 2, 0, 0) from rfl)
theorem s_16_47 (d : Nat) (L : mj_L) (S : List mj_V) (h : mj_H) (x : Int32) : mj_Rn pg (d + 1) 16 (47, L, .inl x :: S, h) = if x < 0 ∨ 100000 < x.toNatClampNeg then none else mj_Rn pg (d + 1) 16 (49, L, .inr (some h.length) :: S, h ++ [(200, List.replicate x.toNatClampNeg (.inl 0))]) := op_na_boolean (P := pg) L S h (show pg.1 16 47 = some ((.newarray .boolean), 2, 0, 0) from rfl) x
theorem s_16_49 (d : Nat) (L : mj_L) (S : List mj_V) (h : mj_H) (q : Nat) (v : Option Nat) : mj_Rn pg (d + 1) 16 (49, L, .inr v :: .inr (some q) :: S, h) = (mj_pf h q 8 8 (.inr v)).bind (fun h' => mj_Rn pg (d + 1) 16 (52, L, S, h')) := op_put (P := pg) L S h (show pg.1 16 49 = some ((.putfield 26), 3, 8, 8) from rfl) q (.inr v)
theorem s_16_52 (d : Nat) (L : mj_L) (S : List mj_V) (h : mj_H) : mj_Rn pg (d + 1) 16 (52, L, S, h) = mj_lA L 0 (fun x => mj_Rn pg (d + 1) 16 (53, L, .inr x :: S, h)) := op_aload_n (P := pg) L S h (show pg.1 16 52 = some ((.aload_n 0), 1, 0, 0) from rfl)
theorem s_16_53 (d : Nat) (L : mj_L) (S : List mj_V) (h : mj_H) : mj_Rn pg (d + 1) 16 (53, L, S, h) = mj_Rn pg (d + 1) 16 (55, L, .inl 20 :: S, h) := op_bipush (P := pg) L S h (show pg.1 16 53 = some ((.bipush 20), 2, 0, 0) from rfl)
theorem s_16_55 (d : Nat) (L : mj_L) (S : List mj_V) (h : mj_H) (x : Int32) : mj_Rn pg (d + 1) 16 (55, L, .inl x :: S, h) = if x < 0 ∨ 100000 < x.toNatClampNeg then none else mj_Rn pg (d + 1) 16 (57, L, .inr (some h.length) :: S, h ++ [(100, List.replicate x.toNatClampNeg (.inl 0))]) := op_na_int (P := pg) L S h (show pg.1 16 55 = some ((.newarray .int), 2, 0, 0) from rfl) x
theorem s_16_57 (d : Nat) (L : mj_L) (S : List mj_V) (h : mj_H) (q : Nat) (v : Option Nat) : mj_Rn pg (d + 1) 16 (57, L, .inr v :: .inr (some q) :: S, h) = (mj_pf h q 8 9 (.inr v)).bind (fun h' => mj_Rn pg (d + 1) 16 (60, L, S, h')) := op_put (P := pg) L S h (show pg.1 16 57 = some ((.putfield 29), 3, 8, 9) from rfl) q (.inr v)
theorem s_16_60 (d : Nat) (L : mj_L) (S : List mj_V) (h : mj_H) : mj_Rn pg (d + 1) 16 (60, L, S, h) = mj_lA L 0 (fun x => mj_Rn pg (d + 1) 16 (61, L, .inr x :: S, h)) := op_aload_n (P := pg) L S h (show pg.1 16 60 = some ((.aload_n 0), 1, 0, 0) from rfl)
theorem s_16_61 (d : Nat) (L : mj_L) (S : List mj_V) (h : mj_H) : mj_Rn pg (d + 1) 16 (61, L, S, h) = mj_Rn pg (d + 1) 16 (63, L, .inl 20 :: S, h) := op_bipush (P := pg) L S h (show pg.1 16 61 = some ((.bipush 20), 2, 0, 0) from rfl)
theorem s_16_63 (d : Nat) (L : mj_L) (S : List mj_V) (h : mj_H) (x : Int32) : mj_Rn pg (d + 1) 16 (63, L, .inl x :: S, h) = if x < 0 ∨ 100000 < x.toNatClampNeg then none else mj_Rn pg (d + 1) 16 (65, L, .inr (some h.length) :: S, h ++ [(100, List.replicate x.toNatClampNeg (.inl 0))]) := op_na_int (P := pg) L S h (show pg.1 16 63 = some ((.newarray .int), 2, 0, 0) from rfl) x
theorem s_16_65 (d : Nat) (L : mj_L) (S : List mj_V) (h : mj_H) (q : Nat) (v : Option Nat) : mj_Rn pg (d + 1) 16 (65, L, .inr v :: .inr (some q) :: S, h) = (mj_pf h q 8 10 (.inr v)).bind (fun h' => mj_Rn pg (d + 1) 16 (68, L, S, h')) := op_put (P := pg) L S h (show pg.1 16 65 = some ((.putfield 32), 3, 8, 10) from rfl) q (.inr v)
theorem s_16_68 (d : Nat) (L : mj_L) (S : List mj_V) (h : mj_H) : mj_Rn pg (d + 1) 16 (68, L, S, h) = mj_lA L 0 (fun x => mj_Rn pg (d + 1) 16 (69, L, .inr x :: S, h)) := op_aload_n (P := pg) L S h (show pg.1 16 68 = some ((.aload_n 0), 1, 0, 0) from rfl)
theorem s_16_69 (d : Nat) (L : mj_L) (S : List mj_V) (h : mj_H) : mj_Rn pg (d + 1) 16 (69, L, S, h) = mj_Rn pg (d + 1) 16 (71, L, .inl 120 :: S, h) := op_bipush (P := pg) L S h (show pg.1 16 69 = some ((.bipush 120), 2, 0, 0) from rfl)
theorem s_16_71 (d : Nat) (L : mj_L) (S : List mj_V) (h : mj_H) (x : Int32) : mj_Rn pg (d + 1) 16 (71, L, .inl x :: S, h) = if x < 0 ∨ 100000 < x.toNatClampNeg then none else mj_Rn pg (d + 1) 16 (73, L, .inr (some h.length) :: S, h ++ [(100, List.replicate x.toNatClampNeg (.inl 0))]) := op_na_int (P := pg) L S h (show pg.1 16 71 = some ((.newarray .int), 2, 0, 0) from rfl) x
theorem s_16_73 (d : Nat) (L : mj_L) (S : List mj_V) (h : mj_H) (q : Nat) (v : Option Nat) : mj_Rn pg (d + 1) 16 (73, L, .inr v :: .inr (some q) :: S, h) = (mj_pf h q 8 11 (.inr v)).bind (fun h' => mj_Rn pg (d + 1) 16 (76, L, S, h')) := op_put (P := pg) L S h (show pg.1 16 73 = some ((.putfield 35), 3, 8, 11) from rfl) q (.inr v)
theorem s_16_76 (d : Nat) (L : mj_L) (S : List mj_V) (h : mj_H) : mj_Rn pg (d + 1) 16 (76, L, S, h) = mj_lA L 0 (fun x => mj_Rn pg (d + 1) 16 (77, L, .inr x :: S, h)) := op_aload_n (P := pg) L S h (show pg.1 16 76 = some ((.aload_n 0), 1, 0, 0) from rfl)
theorem s_16_77 (d : Nat) (L : mj_L) (S : List mj_V) (h : mj_H) : mj_Rn pg (d + 1) 16 (77, L, S, h) = mj_Rn pg (d + 1) 16 (79, L, .inl 20 :: S, h) := op_bipush (P := pg) L S h (show pg.1 16 77 = some ((.bipush 20), 2, 0, 0) from rfl)
theorem s_16_79 (d : Nat) (L : mj_L) (S : List mj_V) (h : mj_H) (x : Int32) : mj_Rn pg (d + 1) 16 (79, L, .inl x :: S, h) = if x < 0 ∨ 100000 < x.toNatClampNeg then none else mj_Rn pg (d + 1) 16 (81, L, .inr (some h.length) :: S, h ++ [(100, List.replicate x.toNatClampNeg (.inl 0))]) := op_na_int (P := pg) L S h (show pg.1 16 79 = some ((.newarray .int), 2, 0, 0) from rfl) x
theorem s_16_81 (d : Nat) (L : mj_L) (S : List mj_V) (h : mj_H) (q : Nat) (v : Option Nat) : mj_Rn pg (d + 1) 16 (81, L, .inr v :: .inr (some q) :: S, h) = (mj_pf h q 8 12 (.inr v)).bind (fun h' => mj_Rn pg (d + 1) 16 (84, L, S, h')) := op_put (P := pg) L S h (show pg.1 16 81 = some ((.putfield 38), 3, 8, 12) from rfl) q (.inr v)
theorem s_16_84 (d : Nat) (L : mj_L) (S : List mj_V) (h : mj_H) : mj_Rn pg (d + 1) 16 (84, L, S, h) = mj_lA L 0 (fun x => mj_Rn pg (d + 1) 16 (85, L, .inr x :: S, h)) := op_aload_n (P := pg) L S h (show pg.1 16 84 = some ((.aload_n 0), 1, 0, 0) from rfl)
theorem s_16_85 (d : Nat) (L : mj_L) (S : List mj_V) (h : mj_H) : mj_Rn pg (d + 1) 16 (85, L, S, h) = mj_Rn pg (d + 1) 16 (87, L, .inl 20 :: S, h) := op_bipush (P := pg) L S h (show pg.1 16 85 = some ((.bipush 20), 2, 0, 0) from rfl)
theorem s_16_87 (d : Nat) (L : mj_L) (S : List mj_V) (h : mj_H) (x : Int32) : mj_Rn pg (d + 1) 16 (87, L, .inl x :: S, h) = if x < 0 ∨ 100000 < x.toNatClampNeg then none else mj_Rn pg (d + 1) 16 (89, L, .inr (some h.length) :: S, h ++ [(100, List.replicate x.toNatClampNeg (.inl 0))]) := op_na_int (P := pg) L S h (show pg.1 16 87 = some ((.newarray .int), 2, 0, 0) from rfl) x
theorem s_16_89 (d : Nat) (L : mj_L) (S : List mj_V) (h : mj_H) (q : Nat) (v : Option Nat) : mj_Rn pg (d + 1) 16 (89, L, .inr v :: .inr (some q) :: S, h) = (mj_pf h q 8 13 (.inr v)).bind (fun h' => mj_Rn pg (d + 1) 16 (92, L, S, h')) := op_put (P := pg) L S h (show pg.1 16 89 = some ((.putfield 41), 3, 8, 13) from rfl) q (.inr v)
theorem s_16_92 (d : Nat) (L : mj_L) (S : List mj_V) (h : mj_H) : mj_Rn pg (d + 1) 16 (92, L, S, h) = mj_lA L 0 (fun x => mj_Rn pg (d + 1) 16 (93, L, .inr x :: S, h)) := op_aload_n (P := pg) L S h (show pg.1 16 92 = some ((.aload_n 0), 1, 0, 0) from rfl)
theorem s_16_93 (d : Nat) (L : mj_L) (S : List mj_V) (h : mj_H) : mj_Rn pg (d + 1) 16 (93, L, S, h) = mj_Rn pg (d + 1) 16 (95, L, .inl 20 :: S, h) := op_bipush (P := pg) L S h (show pg.1 16 93 = some ((.bipush 20), 2, 0, 0) from rfl)
theorem s_16_95 (d : Nat) (L : mj_L) (S : List mj_V) (h : mj_H) (x : Int32) : mj_Rn pg (d + 1) 16 (95, L, .inl x :: S, h) = if x < 0 ∨ 100000 < x.toNatClampNeg then none else mj_Rn pg (d + 1) 16 (97, L, .inr (some h.length) :: S, h ++ [(100, List.replicate x.toNatClampNeg (.inl 0))]) := op_na_int (P := pg) L S h (show pg.1 16 95 = some ((.newarray .int), 2, 0, 0) from rfl) x
theorem s_16_97 (d : Nat) (L : mj_L) (S : List mj_V) (h : mj_H) (q : Nat) (v : Option Nat) : mj_Rn pg (d + 1) 16 (97, L, .inr v :: .inr (some q) :: S, h) = (mj_pf h q 8 14 (.inr v)).bind (fun h' => mj_Rn pg (d + 1) 16 (100, L, S, h')) := op_put (P := pg) L S h (show pg.1 16 97 = some ((.putfield 44), 3, 8, 14) from rfl) q (.inr v)
theorem s_16_100 (d : Nat) (L : mj_L) (S : List mj_V) (h : mj_H) : mj_Rn pg (d + 1) 16 (100, L, S, h) = mj_lA L 0 (fun x => mj_Rn pg (d + 1) 16 (101, L, .inr x :: S, h)) := op_aload_n (P := pg) L S h (show pg.1 16 100 = some ((.aload_n 0), 1, 0, 0) from rfl)
theorem s_16_101 (d : Nat) (L : mj_L) (S : List mj_V) (h : mj_H) : mj_Rn pg (d + 1) 16 (101, L, S, h) = mj_Rn pg (d + 1) 16 (103, L, .inl 20 :: S, h) := op_bipush (P := pg) L S h (show pg.1 16 101 = some ((.bipush 20), 2, 0, 0) from rfl)
theorem s_16_103 (d : Nat) (L : mj_L) (S : List mj_V) (h : mj_H) (x : Int32) : mj_Rn pg (d + 1) 16 (103, L, .inl x :: S, h) = if x < 0 ∨ 100000 < x.toNatClampNeg then none else mj_Rn pg (d + 1) 16 (105, L, .inr (some h.length) :: S, h ++ [(100, List.replicate x.toNatClampNeg (.inl 0))]) := op_na_int (P := pg) L S h (show pg.1 16 103 = some ((.newarray .int), 2, 0, 0) from rfl) x
theorem s_16_105 (d : Nat) (L : mj_L) (S : List mj_V) (h : mj_H) (q : Nat) (v : Option Nat) : mj_Rn pg (d + 1) 16 (105, L, .inr v :: .inr (some q) :: S, h) = (mj_pf h q 8 15 (.inr v)).bind (fun h' => mj_Rn pg (d + 1) 16 (108, L, S, h')) := op_put (P := pg) L S h (show pg.1 16 105 = some ((.putfield 47), 3, 8, 15) from rfl) q (.inr v)
theorem s_16_108 (d : Nat) (L : mj_L) (S : List mj_V) (h : mj_H) : mj_Rn pg (d + 1) 16 (108, L, S, h) = mj_lA L 0 (fun x => mj_Rn pg (d + 1) 16 (109, L, .inr x :: S, h)) := op_aload_n (P := pg) L S h (show pg.1 16 108 = some ((.aload_n 0), 1, 0, 0) from rfl)
theorem s_16_109 (d : Nat) (L : mj_L) (S : List mj_V) (h : mj_H) : mj_Rn pg (d + 1) 16 (109, L, S, h) = mj_Rn pg (d + 1) 16 (111, L, .inl 12 :: S, h) := op_bipush (P := pg) L S h (show pg.1 16 109 = some ((.bipush 12), 2, 0, 0) from rfl)
theorem s_16_111 (d : Nat) (L : mj_L) (S : List mj_V) (h : mj_H) (x : Int32) : mj_Rn pg (d + 1) 16 (111, L, .inl x :: S, h) = if x < 0 ∨ 100000 < x.toNatClampNeg then none else mj_Rn pg (d + 1) 16 (113, L, .inr (some h.length) :: S, h ++ [(100, List.replicate x.toNatClampNeg (.inl 0))]) := op_na_int (P := pg) L S h (show pg.1 16 111 = some ((.newarray .int), 2, 0, 0) from rfl) x
theorem s_16_113 (d : Nat) (L : mj_L) (S : List mj_V) (h : mj_H) (q : Nat) (v : Option Nat) : mj_Rn pg (d + 1) 16 (113, L, .inr v :: .inr (some q) :: S, h) = (mj_pf h q 8 16 (.inr v)).bind (fun h' => mj_Rn pg (d + 1) 16 (116, L, S, h')) := op_put (P := pg) L S h (show pg.1 16 113 = some ((.putfield 50), 3, 8, 16) from rfl) q (.inr v)
theorem s_16_116 (d : Nat) (L : mj_L) (S : List mj_V) (h : mj_H) : mj_Rn pg (d + 1) 16 (116, L, S, h) = mj_lA L 0 (fun x => mj_Rn pg (d + 1) 16 (117, L, .inr x :: S, h)) := op_aload_n (P := pg) L S h (show pg.1 16 116 = some ((.aload_n 0), 1, 0, 0) from rfl)
theorem s_16_117 (d : Nat) (L : mj_L) (S : List mj_V) (h : mj_H) : mj_Rn pg (d + 1) 16 (117, L, S, h) = mj_Rn pg (d + 1) 16 (119, L, .inl 80 :: S, h) := op_bipush (P := pg) L S h (show pg.1 16 117 = some ((.bipush 80), 2, 0, 0) from rfl)
theorem s_16_119 (d : Nat) (L : mj_L) (S : List mj_V) (h : mj_H) (x : Int32) : mj_Rn pg (d + 1) 16 (119, L, .inl x :: S, h) = if x < 0 ∨ 100000 < x.toNatClampNeg then none else mj_Rn pg (d + 1) 16 (121, L, .inr (some h.length) :: S, h ++ [(100, List.replicate x.toNatClampNeg (.inl 0))]) := op_na_int (P := pg) L S h (show pg.1 16 119 = some ((.newarray .int), 2, 0, 0) from rfl) x
theorem s_16_121 (d : Nat) (L : mj_L) (S : List mj_V) (h : mj_H) (q : Nat) (v : Option Nat) : mj_Rn pg (d + 1) 16 (121, L, .inr v :: .inr (some q) :: S, h) = (mj_pf h q 8 17 (.inr v)).bind (fun h' => mj_Rn pg (d + 1) 16 (124, L, S, h')) := op_put (P := pg) L S h (show pg.1 16 121 = some ((.putfield 53), 3, 8, 17) from rfl) q (.inr v)
theorem s_16_124 (d : Nat) (L : mj_L) (S : List mj_V) (h : mj_H) : mj_Rn pg (d + 1) 16 (124, L, S, h) = mj_lA L 0 (fun x => mj_Rn pg (d + 1) 16 (125, L, .inr x :: S, h)) := op_aload_n (P := pg) L S h (show pg.1 16 124 = some ((.aload_n 0), 1, 0, 0) from rfl)
theorem s_16_125 (d : Nat) (L : mj_L) (S : List mj_V) (h : mj_H) : mj_Rn pg (d + 1) 16 (125, L, S, h) = mj_Rn pg (d + 1) 16 (127, L, .inl 80 :: S, h) := op_bipush (P := pg) L S h (show pg.1 16 125 = some ((.bipush 80), 2, 0, 0) from rfl)
theorem s_16_127 (d : Nat) (L : mj_L) (S : List mj_V) (h : mj_H) (x : Int32) : mj_Rn pg (d + 1) 16 (127, L, .inl x :: S, h) = if x < 0 ∨ 100000 < x.toNatClampNeg then none else mj_Rn pg (d + 1) 16 (129, L, .inr (some h.length) :: S, h ++ [(100, List.replicate x.toNatClampNeg (.inl 0))]) := op_na_int (P := pg) L S h (show pg.1 16 127 = some ((.newarray .int), 2, 0, 0) from rfl) x
theorem s_16_129 (d : Nat) (L : mj_L) (S : List mj_V) (h : mj_H) (q : Nat) (v : Option Nat) : mj_Rn pg (d + 1) 16 (129, L, .inr v :: .inr (some q) :: S, h) = (mj_pf h q 8 18 (.inr v)).bind (fun h' => mj_Rn pg (d + 1) 16 (132, L, S, h')) := op_put (P := pg) L S h (show pg.1 16 129 = some ((.putfield 56), 3, 8, 18) from rfl) q (.inr v)
theorem s_16_132 (d : Nat) (L : mj_L) (S : List mj_V) (h : mj_H) : mj_Rn pg (d + 1) 16 (132, L, S, h) = mj_lA L 0 (fun x => mj_Rn pg (d + 1) 16 (133, L, .inr x :: S, h)) := op_aload_n (P := pg) L S h (show pg.1 16 132 = some ((.aload_n 0), 1, 0, 0) from rfl)
theorem s_16_133 (d : Nat) (L : mj_L) (S : List mj_V) (h : mj_H) : mj_Rn pg (d + 1) 16 (133, L, S, h) = mj_Rn pg (d + 1) 16 (135, L, .inl 12 :: S, h) := op_bipush (P := pg) L S h (show pg.1 16 133 = some ((.bipush 12), 2, 0, 0) from rfl)
theorem s_16_135 (d : Nat) (L : mj_L) (S : List mj_V) (h : mj_H) (x : Int32) : mj_Rn pg (d + 1) 16 (135, L, .inl x :: S, h) = if x < 0 ∨ 100000 < x.toNatClampNeg then none else mj_Rn pg (d + 1) 16 (137, L, .inr (some h.length) :: S, h ++ [(100, List.replicate x.toNatClampNeg (.inl 0))]) := op_na_int (P := pg) L S h (show pg.1 16 135 = some ((.newarray .int), 2, 0, 0) from rfl) x
theorem s_16_137 (d : Nat) (L : mj_L) (S : List mj_V) (h : mj_H) (q : Nat) (v : Option Nat) : mj_Rn pg (d + 1) 16 (137, L, .inr v :: .inr (some q) :: S, h) = (mj_pf h q 8 24 (.inr v)).bind (fun h' => mj_Rn pg (d + 1) 16 (140, L, S, h')) := op_put (P := pg) L S h (show pg.1 16 137 = some ((.putfield 59), 3, 8, 24) from rfl) q (.inr v)
theorem s_16_140 (d : Nat) (L : mj_L) (S : List mj_V) (h : mj_H) : mj_Rn pg (d + 1) 16 (140, L, S, h) = mj_lA L 0 (fun x => mj_Rn pg (d + 1) 16 (141, L, .inr x :: S, h)) := op_aload_n (P := pg) L S h (show pg.1 16 140 = some ((.aload_n 0), 1, 0, 0) from rfl)
theorem s_16_141 (d : Nat) (L : mj_L) (S : List mj_V) (h : mj_H) : mj_Rn pg (d + 1) 16 (141, L, S, h) = mj_Rn pg (d + 1) 16 (143, L, .inl 12 :: S, h) := op_bipush (P := pg) L S h (show pg.1 16 141 = some ((.bipush 12), 2, 0, 0) from rfl)
theorem s_16_143 (d : Nat) (L : mj_L) (S : List mj_V) (h : mj_H) (x : Int32) : mj_Rn pg (d + 1) 16 (143, L, .inl x :: S, h) = if x < 0 ∨ 100000 < x.toNatClampNeg then none else mj_Rn pg (d + 1) 16 (145, L, .inr (some h.length) :: S, h ++ [(100, List.replicate x.toNatClampNeg (.inl 0))]) := op_na_int (P := pg) L S h (show pg.1 16 143 = some ((.newarray .int), 2, 0, 0) from rfl) x
theorem s_16_145 (d : Nat) (L : mj_L) (S : List mj_V) (h : mj_H) (q : Nat) (v : Option Nat) : mj_Rn pg (d + 1) 16 (145, L, .inr v :: .inr (some q) :: S, h) = (mj_pf h q 8 25 (.inr v)).bind (fun h' => mj_Rn pg (d + 1) 16 (148, L, S, h')) := op_put (P := pg) L S h (show pg.1 16 145 = some ((.putfield 62), 3, 8, 25) from rfl) q (.inr v)
theorem s_16_148 (d : Nat) (L : mj_L) (S : List mj_V) (h : mj_H) : mj_Rn pg (d + 1) 16 (148, L, S, h) = mj_lA L 0 (fun x => mj_Rn pg (d + 1) 16 (149, L, .inr x :: S, h)) := op_aload_n (P := pg) L S h (show pg.1 16 148 = some ((.aload_n 0), 1, 0, 0) from rfl)
theorem s_16_149 (d : Nat) (L : mj_L) (S : List mj_V) (h : mj_H) : mj_Rn pg (d + 1) 16 (149, L, S, h) = mj_Rn pg (d + 1) 16 (151, L, .inl 12 :: S, h) := op_bipush (P := pg) L S h (show pg.1 16 149 = some ((.bipush 12), 2, 0, 0) from rfl)
theorem s_16_151 (d : Nat) (L : mj_L) (S : List mj_V) (h : mj_H) (x : Int32) : mj_Rn pg (d + 1) 16 (151, L, .inl x :: S, h) = if x < 0 ∨ 100000 < x.toNatClampNeg then none else mj_Rn pg (d + 1) 16 (153, L, .inr (some h.length) :: S, h ++ [(100, List.replicate x.toNatClampNeg (.inl 0))]) := op_na_int (P := pg) L S h (show pg.1 16 151 = some ((.newarray .int), 2, 0, 0) from rfl) x
theorem s_16_153 (d : Nat) (L : mj_L) (S : List mj_V) (h : mj_H) (q : Nat) (v : Option Nat) : mj_Rn pg (d + 1) 16 (153, L, .inr v :: .inr (some q) :: S, h) = (mj_pf h q 8 26 (.inr v)).bind (fun h' => mj_Rn pg (d + 1) 16 (156, L, S, h')) := op_put (P := pg) L S h (show pg.1 16 153 = some ((.putfield 65), 3, 8, 26) from rfl) q (.inr v)
theorem s_16_156 (d : Nat) (L : mj_L) (S : List mj_V) (h : mj_H) : mj_Rn pg (d + 1) 16 (156, L, S, h) = mj_lA L 0 (fun x => mj_Rn pg (d + 1) 16 (157, L, .inr x :: S, h)) := op_aload_n (P := pg) L S h (show pg.1 16 156 = some ((.aload_n 0), 1, 0, 0) from rfl)
theorem s_16_157 (d : Nat) (L : mj_L) (S : List mj_V) (h : mj_H) : mj_Rn pg (d + 1) 16 (157, L, S, h) = mj_Rn pg (d + 1) 16 (159, L, .inl 12 :: S, h) := op_bipush (P := pg) L S h (show pg.1 16 157 = some ((.bipush 12), 2, 0, 0) from rfl)
theorem s_16_159 (d : Nat) (L : mj_L) (S : List mj_V) (h : mj_H) (x : Int32) : mj_Rn pg (d + 1) 16 (159, L, .inl x :: S, h) = if x < 0 ∨ 100000 < x.toNatClampNeg then none else mj_Rn pg (d + 1) 16 (161, L, .inr (some h.length) :: S, h ++ [(100, List.replicate x.toNatClampNeg (.inl 0))]) := op_na_int (P := pg) L S h (show pg.1 16 159 = some ((.newarray .int), 2, 0, 0) from rfl) x
theorem s_16_161 (d : Nat) (L : mj_L) (S : List mj_V) (h : mj_H) (q : Nat) (v : Option Nat) : mj_Rn pg (d + 1) 16 (161, L, .inr v :: .inr (some q) :: S, h) = (mj_pf h q 8 27 (.inr v)).bind (fun h' => mj_Rn pg (d + 1) 16 (164, L, S, h')) := op_put (P := pg) L S h (show pg.1 16 161 = some ((.putfield 68), 3, 8, 27) from rfl) q (.inr v)
theorem s_16_164 (d : Nat) (L : mj_L) (S : List mj_V) (h : mj_H) : mj_Rn pg (d + 1) 16 (164, L, S, h) = mj_lA L 0 (fun x => mj_Rn pg (d + 1) 16 (165, L, .inr x :: S, h)) := op_aload_n (P := pg) L S h (show pg.1 16 164 = some ((.aload_n 0), 1, 0, 0) from rfl)
theorem s_16_165 (d : Nat) (L : mj_L) (S : List mj_V) (h : mj_H) : mj_Rn pg (d + 1) 16 (165, L, S, h) = mj_Rn pg (d + 1) 16 (167, L, .inl 12 :: S, h) := op_bipush (P := pg) L S h (show pg.1 16 165 = some ((.bipush 12), 2, 0, 0) from rfl)
theorem s_16_167 (d : Nat) (L : mj_L) (S : List mj_V) (h : mj_H) (x : Int32) : mj_Rn pg (d + 1) 16 (167, L, .inl x :: S, h) = if x < 0 ∨ 100000 < x.toNatClampNeg then none else mj_Rn pg (d + 1) 16 (169, L, .inr (some h.length) :: S, h ++ [(100, List.replicate x.toNatClampNeg (.inl 0))]) := op_na_int (P := pg) L S h (show pg.1 16 167 = some ((.newarray .int), 2, 0, 0) from rfl) x
theorem s_16_169 (d : Nat) (L : mj_L) (S : List mj_V) (h : mj_H) (q : Nat) (v : Option Nat) : mj_Rn pg (d + 1) 16 (169, L, .inr v :: .inr (some q) :: S, h) = (mj_pf h q 8 28 (.inr v)).bind (fun h' => mj_Rn pg (d + 1) 16 (172, L, S, h')) := op_put (P := pg) L S h (show pg.1 16 169 = some ((.putfield 71), 3, 8, 28) from rfl) q (.inr v)
theorem s_16_172 (d : Nat) (L : mj_L) (S : List mj_V) (h : mj_H) : mj_Rn pg (d + 1) 16 (172, L, S, h) = mj_lA L 0 (fun x => mj_Rn pg (d + 1) 16 (173, L, .inr x :: S, h)) := op_aload_n (P := pg) L S h (show pg.1 16 172 = some ((.aload_n 0), 1, 0, 0) from rfl)
theorem s_16_173 (d : Nat) (L : mj_L) (S : List mj_V) (h : mj_H) : mj_Rn pg (d + 1) 16 (173, L, S, h) = mj_Rn pg (d + 1) 16 (175, L, .inl 12 :: S, h) := op_bipush (P := pg) L S h (show pg.1 16 173 = some ((.bipush 12), 2, 0, 0) from rfl)
theorem s_16_175 (d : Nat) (L : mj_L) (S : List mj_V) (h : mj_H) (x : Int32) : mj_Rn pg (d + 1) 16 (175, L, .inl x :: S, h) = if x < 0 ∨ 100000 < x.toNatClampNeg then none else mj_Rn pg (d + 1) 16 (177, L, .inr (some h.length) :: S, h ++ [(100, List.replicate x.toNatClampNeg (.inl 0))]) := op_na_int (P := pg) L S h (show pg.1 16 175 = some ((.newarray .int), 2, 0, 0) from rfl) x
theorem s_16_177 (d : Nat) (L : mj_L) (S : List mj_V) (h : mj_H) (q : Nat) (v : Option Nat) : mj_Rn pg (d + 1) 16 (177, L, .inr v :: .inr (some q) :: S, h) = (mj_pf h q 8 29 (.inr v)).bind (fun h' => mj_Rn pg (d + 1) 16 (180, L, S, h')) := op_put (P := pg) L S h (show pg.1 16 177 = some ((.putfield 74), 3, 8, 29) from rfl) q (.inr v)
theorem s_16_180 (d : Nat) (L : mj_L) (S : List mj_V) (h : mj_H) : mj_Rn pg (d + 1) 16 (180, L, S, h) = mj_lA L 0 (fun x => mj_Rn pg (d + 1) 16 (181, L, .inr x :: S, h)) := op_aload_n (P := pg) L S h (show pg.1 16 180 = some ((.aload_n 0), 1, 0, 0) from rfl)
theorem s_16_181 (d : Nat) (L : mj_L) (S : List mj_V) (h : mj_H) : mj_Rn pg (d + 1) 16 (181, L, S, h) = mj_Rn pg (d + 1) 16 (183, L, .inl 12 :: S, h) := op_bipush (P := pg) L S h (show pg.1 16 181 = some ((.bipush 12), 2, 0, 0) from rfl)
theorem s_16_183 (d : Nat) (L : mj_L) (S : List mj_V) (h : mj_H) (x : Int32) : mj_Rn pg (d + 1) 16 (183, L, .inl x :: S, h) = if x < 0 ∨ 100000 < x.toNatClampNeg then none else mj_Rn pg (d + 1) 16 (185, L, .inr (some h.length) :: S, h ++ [(100, List.replicate x.toNatClampNeg (.inl 0))]) := op_na_int (P := pg) L S h (show pg.1 16 183 = some ((.newarray .int), 2, 0, 0) from rfl) x
theorem s_16_185 (d : Nat) (L : mj_L) (S : List mj_V) (h : mj_H) (q : Nat) (v : Option Nat) : mj_Rn pg (d + 1) 16 (185, L, .inr v :: .inr (some q) :: S, h) = (mj_pf h q 8 30 (.inr v)).bind (fun h' => mj_Rn pg (d + 1) 16 (188, L, S, h')) := op_put (P := pg) L S h (show pg.1 16 185 = some ((.putfield 77), 3, 8, 30) from rfl) q (.inr v)
theorem s_16_188 (d : Nat) (L : mj_L) (S : List mj_V) (h : mj_H) : mj_Rn pg (d + 1) 16 (188, L, S, h) = mj_lA L 0 (fun x => mj_Rn pg (d + 1) 16 (189, L, .inr x :: S, h)) := op_aload_n (P := pg) L S h (show pg.1 16 188 = some ((.aload_n 0), 1, 0, 0) from rfl)
theorem s_16_189 (d : Nat) (L : mj_L) (S : List mj_V) (h : mj_H) : mj_Rn pg (d + 1) 16 (189, L, S, h) = mj_Rn pg (d + 1) 16 (191, L, .inl 12 :: S, h) := op_bipush (P := pg) L S h (show pg.1 16 189 = some ((.bipush 12), 2, 0, 0) from rfl)
theorem s_16_191 (d : Nat) (L : mj_L) (S : List mj_V) (h : mj_H) (x : Int32) : mj_Rn pg (d + 1) 16 (191, L, .inl x :: S, h) = if x < 0 ∨ 100000 < x.toNatClampNeg then none else mj_Rn pg (d + 1) 16 (193, L, .inr (some h.length) :: S, h ++ [(100, List.replicate x.toNatClampNeg (.inl 0))]) := op_na_int (P := pg) L S h (show pg.1 16 191 = some ((.newarray .int), 2, 0, 0) from rfl) x
theorem s_16_193 (d : Nat) (L : mj_L) (S : List mj_V) (h : mj_H) (q : Nat) (v : Option Nat) : mj_Rn pg (d + 1) 16 (193, L, .inr v :: .inr (some q) :: S, h) = (mj_pf h q 8 31 (.inr v)).bind (fun h' => mj_Rn pg (d + 1) 16 (196, L, S, h')) := op_put (P := pg) L S h (show pg.1 16 193 = some ((.putfield 80), 3, 8, 31) from rfl) q (.inr v)
theorem s_16_196 (d : Nat) (L : mj_L) (S : List mj_V) (h : mj_H) : mj_Rn pg (d + 1) 16 (196, L, S, h) = mj_lA L 0 (fun x => mj_Rn pg (d + 1) 16 (197, L, .inr x :: S, h)) := op_aload_n (P := pg) L S h (show pg.1 16 196 = some ((.aload_n 0), 1, 0, 0) from rfl)
theorem s_16_197 (d : Nat) (L : mj_L) (S : List mj_V) (h : mj_H) : mj_Rn pg (d + 1) 16 (197, L, S, h) = mj_Rn pg (d + 1) 16 (200, L, .inl 8000 :: S, h) := op_sipush (P := pg) L S h (show pg.1 16 197 = some ((.sipush 8000), 3, 0, 0) from rfl)
theorem s_16_200 (d : Nat) (L : mj_L) (S : List mj_V) (h : mj_H) (x : Int32) : mj_Rn pg (d + 1) 16 (200, L, .inl x :: S, h) = if x < 0 ∨ 100000 < x.toNatClampNeg then none else mj_Rn pg (d + 1) 16 (202, L, .inr (some h.length) :: S, h ++ [(100, List.replicate x.toNatClampNeg (.inl 0))]) := op_na_int (P := pg) L S h (show pg.1 16 200 = some ((.newarray .int), 2, 0, 0) from rfl) x
theorem s_16_202 (d : Nat) (L : mj_L) (S : List mj_V) (h : mj_H) (q : Nat) (v : Option Nat) : mj_Rn pg (d + 1) 16 (202, L, .inr v :: .inr (some q) :: S, h) = (mj_pf h q 8 32 (.inr v)).bind (fun h' => mj_Rn pg (d + 1) 16 (205, L, S, h')) := op_put (P := pg) L S h (show pg.1 16 202 = some ((.putfield 83), 3, 8, 32) from rfl) q (.inr v)
theorem s_16_205 (d : Nat) (L : mj_L) (S : List mj_V) (h : mj_H) : mj_Rn pg (d + 1) 16 (205, L, S, h) = mj_lA L 0 (fun x => mj_Rn pg (d + 1) 16 (206, L, .inr x :: S, h)) := op_aload_n (P := pg) L S h (show pg.1 16 205 = some ((.aload_n 0), 1, 0, 0) from rfl)
theorem s_16_206 (d : Nat) (L : mj_L) (S : List mj_V) (h : mj_H) : mj_Rn pg (d + 1) 16 (206, L, S, h) = mj_Rn pg (d + 1) 16 (209, L, .inl 8000 :: S, h) := op_sipush (P := pg) L S h (show pg.1 16 206 = some ((.sipush 8000), 3, 0, 0) from rfl)
theorem s_16_209 (d : Nat) (L : mj_L) (S : List mj_V) (h : mj_H) (x : Int32) : mj_Rn pg (d + 1) 16 (209, L, .inl x :: S, h) = if x < 0 ∨ 100000 < x.toNatClampNeg then none else mj_Rn pg (d + 1) 16 (211, L, .inr (some h.length) :: S, h ++ [(100, List.replicate x.toNatClampNeg (.inl 0))]) := op_na_int (P := pg) L S h (show pg.1 16 209 = some ((.newarray .int), 2, 0, 0) from rfl) x
theorem s_16_211 (d : Nat) (L : mj_L) (S : List mj_V) (h : mj_H) (q : Nat) (v : Option Nat) : mj_Rn pg (d + 1) 16 (211, L, .inr v :: .inr (some q) :: S, h) = (mj_pf h q 8 33 (.inr v)).bind (fun h' => mj_Rn pg (d + 1) 16 (214, L, S, h')) := op_put (P := pg) L S h (show pg.1 16 211 = some ((.putfield 86), 3, 8, 33) from rfl) q (.inr v)
theorem s_16_214 (d : Nat) (L : mj_L) (S : List mj_V) (h : mj_H) : mj_Rn pg (d + 1) 16 (214, L, S, h) = mj_lA L 0 (fun x => mj_Rn pg (d + 1) 16 (215, L, .inr x :: S, h)) := op_aload_n (P := pg) L S h (show pg.1 16 214 = some ((.aload_n 0), 1, 0, 0) from rfl)
theorem s_16_215 (d : Nat) (L : mj_L) (S : List mj_V) (h : mj_H) : mj_Rn pg (d + 1) 16 (215, L, S, h) = mj_Rn pg (d + 1) 16 (218, L, .inl 8000 :: S, h) := op_sipush (P := pg) L S h (show pg.1 16 215 = some ((.sipush 8000), 3, 0, 0) from rfl)
theorem s_16_218 (d : Nat) (L : mj_L) (S : List mj_V) (h : mj_H) (x : Int32) : mj_Rn pg (d + 1) 16 (218, L, .inl x :: S, h) = if x < 0 ∨ 100000 < x.toNatClampNeg then none else mj_Rn pg (d + 1) 16 (220, L, .inr (some h.length) :: S, h ++ [(100, List.replicate x.toNatClampNeg (.inl 0))]) := op_na_int (P := pg) L S h (show pg.1 16 218 = some ((.newarray .int), 2, 0, 0) from rfl) x
theorem s_16_220 (d : Nat) (L : mj_L) (S : List mj_V) (h : mj_H) (q : Nat) (v : Option Nat) : mj_Rn pg (d + 1) 16 (220, L, .inr v :: .inr (some q) :: S, h) = (mj_pf h q 8 34 (.inr v)).bind (fun h' => mj_Rn pg (d + 1) 16 (223, L, S, h')) := op_put (P := pg) L S h (show pg.1 16 220 = some ((.putfield 89), 3, 8, 34) from rfl) q (.inr v)
theorem s_16_223 (d : Nat) (L : mj_L) (S : List mj_V) (h : mj_H) : mj_Rn pg (d + 1) 16 (223, L, S, h) = mj_lA L 0 (fun x => mj_Rn pg (d + 1) 16 (224, L, .inr x :: S, h)) := op_aload_n (P := pg) L S h (show pg.1 16 223 = some ((.aload_n 0), 1, 0, 0) from rfl)
theorem s_16_224 (d : Nat) (L : mj_L) (S : List mj_V) (h : mj_H) : mj_Rn pg (d + 1) 16 (224, L, S, h) = mj_Rn pg (d + 1) 16 (226, L, .inl 40 :: S, h) := op_bipush (P := pg) L S h (show pg.1 16 224 = some ((.bipush 40), 2, 0, 0) from rfl)
theorem s_16_226 (d : Nat) (L : mj_L) (S : List mj_V) (h : mj_H) (x : Int32) : mj_Rn pg (d + 1) 16 (226, L, .inl x :: S, h) = if x < 0 ∨ 100000 < x.toNatClampNeg then none else mj_Rn pg (d + 1) 16 (228, L, .inr (some h.length) :: S, h ++ [(100, List.replicate x.toNatClampNeg (.inl 0))]) := op_na_int (P := pg) L S h (show pg.1 16 226 = some ((.newarray .int), 2, 0, 0) from rfl) x
theorem s_16_228 (d : Nat) (L : mj_L) (S : List mj_V) (h : mj_H) (q : Nat) (v : Option Nat) : mj_Rn pg (d + 1) 16 (228, L, .inr v :: .inr (some q) :: S, h) = (mj_pf h q 8 35 (.inr v)).bind (fun h' => mj_Rn pg (d + 1) 16 (231, L, S, h')) := op_put (P := pg) L S h (show pg.1 16 228 = some ((.putfield 92), 3, 8, 35) from rfl) q (.inr v)
theorem s_16_231 (d : Nat) (L : mj_L) (S : List mj_V) (h : mj_H) : mj_Rn pg (d + 1) 16 (231, L, S, h) = mj_lA L 0 (fun x => mj_Rn pg (d + 1) 16 (232, L, .inr x :: S, h)) := op_aload_n (P := pg) L S h (show pg.1 16 231 = some ((.aload_n 0), 1, 0, 0) from rfl)
theorem s_16_232 (d : Nat) (L : mj_L) (S : List mj_V) (h : mj_H) : mj_Rn pg (d + 1) 16 (232, L, S, h) = mj_Rn pg (d + 1) 16 (234, L, .inl 40 :: S, h) := op_bipush (P := pg) L S h (show pg.1 16 232 = some ((.bipush 40), 2, 0, 0) from rfl)
theorem s_16_234 (d : Nat) (L : mj_L) (S : List mj_V) (h : mj_H) (x : Int32) : mj_Rn pg (d + 1) 16 (234, L, .inl x :: S, h) = if x < 0 ∨ 100000 < x.toNatClampNeg then none else mj_Rn pg (d + 1) 16 (236, L, .inr (some h.length) :: S, h ++ [(100, List.replicate x.toNatClampNeg (.inl 0))]) := op_na_int (P := pg) L S h (show pg.1 16 234 = some ((.newarray .int), 2, 0, 0) from rfl) x
theorem s_16_236 (d : Nat) (L : mj_L) (S : List mj_V) (h : mj_H) (q : Nat) (v : Option Nat) : mj_Rn pg (d + 1) 16 (236, L, .inr v :: .inr (some q) :: S, h) = (mj_pf h q 8 36 (.inr v)).bind (fun h' => mj_Rn pg (d + 1) 16 (239, L, S, h')) := op_put (P := pg) L S h (show pg.1 16 236 = some ((.putfield 95), 3, 8, 36) from rfl) q (.inr v)
theorem s_16_239 (d : Nat) (L : mj_L) (S : List mj_V) (h : mj_H) : mj_Rn pg (d + 1) 16 (239, L, S, h) = mj_lA L 0 (fun x => mj_Rn pg (d + 1) 16 (240, L, .inr x :: S, h)) := op_aload_n (P := pg) L S h (show pg.1 16 239 = some ((.aload_n 0), 1, 0, 0) from rfl)
theorem s_16_240 (d : Nat) (L : mj_L) (S : List mj_V) (h : mj_H) : mj_Rn pg (d + 1) 16 (240, L, S, h) = mj_Rn pg (d + 1) 16 (242, L, .inl 40 :: S, h) := op_bipush (P := pg) L S h (show pg.1 16 240 = some ((.bipush 40), 2, 0, 0) from rfl)
theorem s_16_242 (d : Nat) (L : mj_L) (S : List mj_V) (h : mj_H) (x : Int32) : mj_Rn pg (d + 1) 16 (242, L, .inl x :: S, h) = if x < 0 ∨ 100000 < x.toNatClampNeg then none else mj_Rn pg (d + 1) 16 (244, L, .inr (some h.length) :: S, h ++ [(100, List.replicate x.toNatClampNeg (.inl 0))]) := op_na_int (P := pg) L S h (show pg.1 16 242 = some ((.newarray .int), 2, 0, 0) from rfl) x
theorem s_16_244 (d : Nat) (L : mj_L) (S : List mj_V) (h : mj_H) (q : Nat) (v : Option Nat) : mj_Rn pg (d + 1) 16 (244, L, .inr v :: .inr (some q) :: S, h) = (mj_pf h q 8 37 (.inr v)).bind (fun h' => mj_Rn pg (d + 1) 16 (247, L, S, h')) := op_put (P := pg) L S h (show pg.1 16 244 = some ((.putfield 98), 3, 8, 37) from rfl) q (.inr v)
theorem s_16_247 (d : Nat) (L : mj_L) (S : List mj_V) (h : mj_H) : mj_Rn pg (d + 1) 16 (247, L, S, h) = mj_lA L 0 (fun x => mj_Rn pg (d + 1) 16 (248, L, .inr x :: S, h)) := op_aload_n (P := pg) L S h (show pg.1 16 247 = some ((.aload_n 0), 1, 0, 0) from rfl)
theorem s_16_248 (d : Nat) (L : mj_L) (S : List mj_V) (h : mj_H) : mj_Rn pg (d + 1) 16 (248, L, S, h) = mj_Rn pg (d + 1) 16 (250, L, .inl 40 :: S, h) := op_bipush (P := pg) L S h (show pg.1 16 248 = some ((.bipush 40), 2, 0, 0) from rfl)
theorem s_16_250 (d : Nat) (L : mj_L) (S : List mj_V) (h : mj_H) (x : Int32) : mj_Rn pg (d + 1) 16 (250, L, .inl x :: S, h) = if x < 0 ∨ 100000 < x.toNatClampNeg then none else mj_Rn pg (d + 1) 16 (252, L, .inr (some h.length) :: S, h ++ [(100, List.replicate x.toNatClampNeg (.inl 0))]) := op_na_int (P := pg) L S h (show pg.1 16 250 = some ((.newarray .int), 2, 0, 0) from rfl) x
theorem s_16_252 (d : Nat) (L : mj_L) (S : List mj_V) (h : mj_H) (q : Nat) (v : Option Nat) : mj_Rn pg (d + 1) 16 (252, L, .inr v :: .inr (some q) :: S, h) = (mj_pf h q 8 38 (.inr v)).bind (fun h' => mj_Rn pg (d + 1) 16 (255, L, S, h')) := op_put (P := pg) L S h (show pg.1 16 252 = some ((.putfield 101), 3, 8, 38) from rfl) q (.inr v)
theorem s_16_255 (d : Nat) (L : mj_L) (S : List mj_V) (h : mj_H) : mj_Rn pg (d + 1) 16 (255, L, S, h) = mj_lA L 0 (fun x => mj_Rn pg (d + 1) 16 (256, L, .inr x :: S, h)) := op_aload_n (P := pg) L S h (show pg.1 16 255 = some ((.aload_n 0), 1, 0, 0) from rfl)
theorem s_16_256 (d : Nat) (L : mj_L) (S : List mj_V) (h : mj_H) : mj_Rn pg (d + 1) 16 (256, L, S, h) = mj_Rn pg (d + 1) 16 (258, L, .inl 40 :: S, h) := op_bipush (P := pg) L S h (show pg.1 16 256 = some ((.bipush 40), 2, 0, 0) from rfl)
theorem s_16_258 (d : Nat) (L : mj_L) (S : List mj_V) (h : mj_H) (x : Int32) : mj_Rn pg (d + 1) 16 (258, L, .inl x :: S, h) = if x < 0 ∨ 100000 < x.toNatClampNeg then none else mj_Rn pg (d + 1) 16 (260, L, .inr (some h.length) :: S, h ++ [(100, List.replicate x.toNatClampNeg (.inl 0))]) := op_na_int (P := pg) L S h (show pg.1 16 258 = some ((.newarray .int), 2, 0, 0) from rfl) x
theorem s_16_260 (d : Nat) (L : mj_L) (S : List mj_V) (h : mj_H) (q : Nat) (v : Option Nat) : mj_Rn pg (d + 1) 16 (260, L, .inr v :: .inr (some q) :: S, h) = (mj_pf h q 8 39 (.inr v)).bind (fun h' => mj_Rn pg (d + 1) 16 (263, L, S, h')) := op_put (P := pg) L S h (show pg.1 16 260 = some ((.putfield 104), 3, 8, 39) from rfl) q (.inr v)
theorem s_16_263 (d : Nat) (L : mj_L) (S : List mj_V) (h : mj_H) : mj_Rn pg (d + 1) 16 (263, L, S, h) = mj_lA L 0 (fun x => mj_Rn pg (d + 1) 16 (264, L, .inr x :: S, h)) := op_aload_n (P := pg) L S h (show pg.1 16 263 = some ((.aload_n 0), 1, 0, 0) from rfl)
theorem s_16_264 (d : Nat) (L : mj_L) (S : List mj_V) (h : mj_H) : mj_Rn pg (d + 1) 16 (264, L, S, h) = mj_Rn pg (d + 1) 16 (266, L, .inl 40 :: S, h) := op_bipush (P := pg) L S h (show pg.1 16 264 = some ((.bipush 40), 2, 0, 0) from rfl)
theorem s_16_266 (d : Nat) (L : mj_L) (S : List mj_V) (h : mj_H) (x : Int32) : mj_Rn pg (d + 1) 16 (266, L, .inl x :: S, h) = if x < 0 ∨ 100000 < x.toNatClampNeg then none else mj_Rn pg (d + 1) 16 (268, L, .inr (some h.length) :: S, h ++ [(100, List.replicate x.toNatClampNeg (.inl 0))]) := op_na_int (P := pg) L S h (show pg.1 16 266 = some ((.newarray .int), 2, 0, 0) from rfl) x
theorem s_16_268 (d : Nat) (L : mj_L) (S : List mj_V) (h : mj_H) (q : Nat) (v : Option Nat) : mj_Rn pg (d + 1) 16 (268, L, .inr v :: .inr (some q) :: S, h) = (mj_pf h q 8 40 (.inr v)).bind (fun h' => mj_Rn pg (d + 1) 16 (271, L, S, h')) := op_put (P := pg) L S h (show pg.1 16 268 = some ((.putfield 107), 3, 8, 40) from rfl) q (.inr v)
theorem s_16_271 (d : Nat) (L : mj_L) (S : List mj_V) (h : mj_H) : mj_Rn pg (d + 1) 16 (271, L, S, h) = mj_lA L 0 (fun x => mj_Rn pg (d + 1) 16 (272, L, .inr x :: S, h)) := op_aload_n (P := pg) L S h (show pg.1 16 271 = some ((.aload_n 0), 1, 0, 0) from rfl)
theorem s_16_272 (d : Nat) (L : mj_L) (S : List mj_V) (h : mj_H) : mj_Rn pg (d + 1) 16 (272, L, S, h) = mj_Rn pg (d + 1) 16 (275, L, .inl 160 :: S, h) := op_sipush (P := pg) L S h (show pg.1 16 272 = some ((.sipush 160), 3, 0, 0) from rfl)
theorem s_16_275 (d : Nat) (L : mj_L) (S : List mj_V) (h : mj_H) (x : Int32) : mj_Rn pg (d + 1) 16 (275, L, .inl x :: S, h) = if x < 0 ∨ 100000 < x.toNatClampNeg then none else mj_Rn pg (d + 1) 16 (277, L, .inr (some h.length) :: S, h ++ [(200, List.replicate x.toNatClampNeg (.inl 0))]) := op_na_boolean (P := pg) L S h (show pg.1 16 275 = some ((.newarray .boolean), 2, 0, 0) from rfl) x
theorem s_16_277 (d : Nat) (L : mj_L) (S : List mj_V) (h : mj_H) (q : Nat) (v : Option Nat) : mj_Rn pg (d + 1) 16 (277, L, .inr v :: .inr (some q) :: S, h) = (mj_pf h q 8 41 (.inr v)).bind (fun h' => mj_Rn pg (d + 1) 16 (280, L, S, h')) := op_put (P := pg) L S h (show pg.1 16 277 = some ((.putfield 110), 3, 8, 41) from rfl) q (.inr v)
theorem s_16_280 (d : Nat) (L : mj_L) (S : List mj_V) (h : mj_H) : mj_Rn pg (d + 1) 16 (280, L, S, h) = mj_lA L 0 (fun x => mj_Rn pg (d + 1) 16 (281, L, .inr x :: S, h)) := op_aload_n (P := pg) L S h (show pg.1 16 280 = some ((.aload_n 0), 1, 0, 0) from rfl)
theorem s_16_281 (d : Nat) (L : mj_L) (S : List mj_V) (h : mj_H) : mj_Rn pg (d + 1) 16 (281, L, S, h) = mj_Rn pg (d + 1) 16 (283, L, .inl 12 :: S, h) := op_bipush (P := pg) L S h (show pg.1 16 281 = some ((.bipush 12), 2, 0, 0) from rfl)
theorem s_16_283 (d : Nat) (L : mj_L) (S : List mj_V) (h : mj_H) (x : Int32) : mj_Rn pg (d + 1) 16 (283, L, .inl x :: S, h) = if x < 0 ∨ 100000 < x.toNatClampNeg then none else mj_Rn pg (d + 1) 16 (285, L, .inr (some h.length) :: S, h ++ [(200, List.replicate x.toNatClampNeg (.inl 0))]) := op_na_boolean (P := pg) L S h (show pg.1 16 283 = some ((.newarray .boolean), 2, 0, 0) from rfl) x
theorem s_16_285 (d : Nat) (L : mj_L) (S : List mj_V) (h : mj_H) (q : Nat) (v : Option Nat) : mj_Rn pg (d + 1) 16 (285, L, .inr v :: .inr (some q) :: S, h) = (mj_pf h q 8 42 (.inr v)).bind (fun h' => mj_Rn pg (d + 1) 16 (288, L, S, h')) := op_put (P := pg) L S h (show pg.1 16 285 = some ((.putfield 113), 3, 8, 42) from rfl) q (.inr v)
theorem s_16_288 (d : Nat) (L : mj_L) (h : mj_H) : mj_Rn pg (d + 1) 16 (288, L, [], h) = some (none, h) := op_rv (P := pg) L h (show pg.1 16 288 = some (.return_, 1, 0, 0) from rfl) rfl
/-! 17: FixtureOrderModel.isFixture(I)Z -/
theorem c_17 (d : Nat) (as : List mj_V) (h : mj_H) : mj_Cl pg d 17 as h = mj_Rn pg d 17 (0, as.map some ++ List.replicate (2 - as.length) none, [], h) := op_clx (P := pg) h rfl
theorem e_17 (d : Nat) (v0 v1 : mj_V) (h : mj_H) : mj_Cl pg d 17 [v0, v1] h = mj_Rn pg d 17 (0, [some v0, some v1], [], h) := rfl
theorem s_17_0 (d : Nat) (L : mj_L) (S : List mj_V) (h : mj_H) : mj_Rn pg (d + 1) 17 (0, L, S, h) = mj_lI L 1 (fun x => mj_Rn pg (d + 1) 17 (1, L, .inl x :: S, h)) := op_iload_n (P := pg) L S h (show pg.1 17 0 = some ((.iload_n 1), 1, 0, 0) from rfl)
theorem s_17_1 (d : Nat) (L : mj_L) (S : List mj_V) (h : mj_H) (x : Int32) : mj_Rn pg (d + 1) 17 (1, L, .inl x :: S, h) = if x < 0 then mj_Rn pg (d + 1) 17 (16, L, S, h) else mj_Rn pg (d + 1) 17 (4, L, S, h) := op_if_lt (P := pg) L S h (show pg.1 17 1 = some ((.ifCond .lt 15), 3, 16, 0) from rfl) x
theorem s_17_4 (d : Nat) (L : mj_L) (S : List mj_V) (h : mj_H) : mj_Rn pg (d + 1) 17 (4, L, S, h) = mj_lI L 1 (fun x => mj_Rn pg (d + 1) 17 (5, L, .inl x :: S, h)) := op_iload_n (P := pg) L S h (show pg.1 17 4 = some ((.iload_n 1), 1, 0, 0) from rfl)
theorem s_17_5 (d : Nat) (L : mj_L) (S : List mj_V) (h : mj_H) : mj_Rn pg (d + 1) 17 (5, L, S, h) = mj_lA L 0 (fun x => mj_Rn pg (d + 1) 17 (6, L, .inr x :: S, h)) := op_aload_n (P := pg) L S h (show pg.1 17 5 = some ((.aload_n 0), 1, 0, 0) from rfl)
theorem s_17_6 (d : Nat) (L : mj_L) (S : List mj_V) (h : mj_H) (q : Nat) : mj_Rn pg (d + 1) 17 (6, L, .inr (some q) :: S, h) = (mj_gf h q 8 1).bind (fun v => mj_Rn pg (d + 1) 17 (9, L, v :: S, h)) := op_get (P := pg) L S h (show pg.1 17 6 = some ((.getfield 120), 3, 8, 1) from rfl) q
theorem s_17_9 (d : Nat) (L : mj_L) (S : List mj_V) (h : mj_H) (x y : Int32) : mj_Rn pg (d + 1) 17 (9, L, .inl y :: .inl x :: S, h) = if y ≤ x then mj_Rn pg (d + 1) 17 (16, L, S, h) else mj_Rn pg (d + 1) 17 (12, L, S, h) := op_ic_ge (P := pg) L S h (show pg.1 17 9 = some ((.if_icmp .ge 7), 3, 16, 0) from rfl) x y
theorem s_17_12 (d : Nat) (L : mj_L) (S : List mj_V) (h : mj_H) : mj_Rn pg (d + 1) 17 (12, L, S, h) = mj_Rn pg (d + 1) 17 (13, L, .inl 1 :: S, h) := op_iconst (P := pg) L S h (show pg.1 17 12 = some ((.iconst 1), 1, 0, 0) from rfl)
theorem s_17_13 (d : Nat) (L : mj_L) (S : List mj_V) (h : mj_H) : mj_Rn pg (d + 1) 17 (13, L, S, h) = mj_Rn pg (d + 1) 17 (17, L, S, h) := op_goto (P := pg) L S h (show pg.1 17 13 = some ((.goto 4), 3, 17, 0) from rfl)
theorem s_17_16 (d : Nat) (L : mj_L) (S : List mj_V) (h : mj_H) : mj_Rn pg (d + 1) 17 (16, L, S, h) = mj_Rn pg (d + 1) 17 (17, L, .inl 0 :: S, h) := op_iconst (P := pg) L S h (show pg.1 17 16 = some ((.iconst 0), 1, 0, 0) from rfl)
theorem s_17_17 (d : Nat) (L : mj_L) (h : mj_H) (x : Int32) : mj_Rn pg (d + 1) 17 (17, L, [.inl x], h) = if x = 0 ∨ x = 1 then some (some (.inl x), h) else none := op_rz (P := pg) L h (show pg.1 17 17 = some (.ireturn, 1, 0, 0) from rfl) rfl x
/-! 18: FixtureOrderModel.isTest(I)Z -/
theorem c_18 (d : Nat) (as : List mj_V) (h : mj_H) : mj_Cl pg d 18 as h = mj_Rn pg d 18 (0, as.map some ++ List.replicate (2 - as.length) none, [], h) := op_clx (P := pg) h rfl
theorem e_18 (d : Nat) (v0 v1 : mj_V) (h : mj_H) : mj_Cl pg d 18 [v0, v1] h = mj_Rn pg d 18 (0, [some v0, some v1], [], h) := rfl
theorem s_18_0 (d : Nat) (L : mj_L) (S : List mj_V) (h : mj_H) : mj_Rn pg (d + 1) 18 (0, L, S, h) = mj_lI L 1 (fun x => mj_Rn pg (d + 1) 18 (1, L, .inl x :: S, h)) := op_iload_n (P := pg) L S h (show pg.1 18 0 = some ((.iload_n 1), 1, 0, 0) from rfl)
theorem s_18_1 (d : Nat) (L : mj_L) (S : List mj_V) (h : mj_H) (x : Int32) : mj_Rn pg (d + 1) 18 (1, L, .inl x :: S, h) = if x < 0 then mj_Rn pg (d + 1) 18 (16, L, S, h) else mj_Rn pg (d + 1) 18 (4, L, S, h) := op_if_lt (P := pg) L S h (show pg.1 18 1 = some ((.ifCond .lt 15), 3, 16, 0) from rfl) x
theorem s_18_4 (d : Nat) (L : mj_L) (S : List mj_V) (h : mj_H) : mj_Rn pg (d + 1) 18 (4, L, S, h) = mj_lI L 1 (fun x => mj_Rn pg (d + 1) 18 (5, L, .inl x :: S, h)) := op_iload_n (P := pg) L S h (show pg.1 18 4 = some ((.iload_n 1), 1, 0, 0) from rfl)
theorem s_18_5 (d : Nat) (L : mj_L) (S : List mj_V) (h : mj_H) : mj_Rn pg (d + 1) 18 (5, L, S, h) = mj_lA L 0 (fun x => mj_Rn pg (d + 1) 18 (6, L, .inr x :: S, h)) := op_aload_n (P := pg) L S h (show pg.1 18 5 = some ((.aload_n 0), 1, 0, 0) from rfl)
theorem s_18_6 (d : Nat) (L : mj_L) (S : List mj_V) (h : mj_H) (q : Nat) : mj_Rn pg (d + 1) 18 (6, L, .inr (some q) :: S, h) = (mj_gf h q 8 2).bind (fun v => mj_Rn pg (d + 1) 18 (9, L, v :: S, h)) := op_get (P := pg) L S h (show pg.1 18 6 = some ((.getfield 123), 3, 8, 2) from rfl) q
theorem s_18_9 (d : Nat) (L : mj_L) (S : List mj_V) (h : mj_H) (x y : Int32) : mj_Rn pg (d + 1) 18 (9, L, .inl y :: .inl x :: S, h) = if y ≤ x then mj_Rn pg (d + 1) 18 (16, L, S, h) else mj_Rn pg (d + 1) 18 (12, L, S, h) := op_ic_ge (P := pg) L S h (show pg.1 18 9 = some ((.if_icmp .ge 7), 3, 16, 0) from rfl) x y
theorem s_18_12 (d : Nat) (L : mj_L) (S : List mj_V) (h : mj_H) : mj_Rn pg (d + 1) 18 (12, L, S, h) = mj_Rn pg (d + 1) 18 (13, L, .inl 1 :: S, h) := op_iconst (P := pg) L S h (show pg.1 18 12 = some ((.iconst 1), 1, 0, 0) from rfl)
theorem s_18_13 (d : Nat) (L : mj_L) (S : List mj_V) (h : mj_H) : mj_Rn pg (d + 1) 18 (13, L, S, h) = mj_Rn pg (d + 1) 18 (17, L, S, h) := op_goto (P := pg) L S h (show pg.1 18 13 = some ((.goto 4), 3, 17, 0) from rfl)
theorem s_18_16 (d : Nat) (L : mj_L) (S : List mj_V) (h : mj_H) : mj_Rn pg (d + 1) 18 (16, L, S, h) = mj_Rn pg (d + 1) 18 (17, L, .inl 0 :: S, h) := op_iconst (P := pg) L S h (show pg.1 18 16 = some ((.iconst 0), 1, 0, 0) from rfl)
theorem s_18_17 (d : Nat) (L : mj_L) (h : mj_H) (x : Int32) : mj_Rn pg (d + 1) 18 (17, L, [.inl x], h) = if x = 0 ∨ x = 1 then some (some (.inl x), h) else none := op_rz (P := pg) L h (show pg.1 18 17 = some (.ireturn, 1, 0, 0) from rfl) rfl x
/-! 19: FixtureOrderModel.fixture(IIZZ)I -/
theorem c_19 (d : Nat) (as : List mj_V) (h : mj_H) : mj_Cl pg d 19 as h = mj_Rn pg d 19 (0, as.map some ++ List.replicate (5 - as.length) none, [], h) := op_clx (P := pg) h rfl
theorem e_19 (d : Nat) (v0 v1 v2 v3 v4 : mj_V) (h : mj_H) : mj_Cl pg d 19 [v0, v1, v2, v3, v4] h = mj_Rn pg d 19 (0, [some v0, some v1, some v2, some v3, some v4], [], h) := rfl
theorem s_19_0 (d : Nat) (L : mj_L) (S : List mj_V) (h : mj_H) : mj_Rn pg (d + 1) 19 (0, L, S, h) = mj_lA L 0 (fun x => mj_Rn pg (d + 1) 19 (1, L, .inr x :: S, h)) := op_aload_n (P := pg) L S h (show pg.1 19 0 = some ((.aload_n 0), 1, 0, 0) from rfl)
theorem s_19_1 (d : Nat) (L : mj_L) (S : List mj_V) (h : mj_H) : mj_Rn pg (d + 1) 19 (1, L, S, h) = mj_Rn pg (d + 1) 19 (2, L, .inl 0 :: S, h) := op_iconst (P := pg) L S h (show pg.1 19 1 = some ((.iconst 0), 1, 0, 0) from rfl)
theorem s_19_2 (d : Nat) (L : mj_L) (S : List mj_V) (h : mj_H) (q : Nat) (v : Int32) : mj_Rn pg (d + 1) 19 (2, L, .inl v :: .inr (some q) :: S, h) = (mj_pf h q 8 0 (.inl v)).bind (fun h' => mj_Rn pg (d + 1) 19 (5, L, S, h')) := op_put (P := pg) L S h (show pg.1 19 2 = some ((.putfield 116), 3, 8, 0) from rfl) q (.inl v)
theorem s_19_5 (d : Nat) (L : mj_L) (S : List mj_V) (h : mj_H) : mj_Rn pg (d + 1) 19 (5, L, S, h) = mj_lA L 0 (fun x => mj_Rn pg (d + 1) 19 (6, L, .inr x :: S, h)) := op_aload_n (P := pg) L S h (show pg.1 19 5 = some ((.aload_n 0), 1, 0, 0) from rfl)
theorem s_19_6 (d : Nat) (L : mj_L) (S : List mj_V) (h : mj_H) (q : Nat) : mj_Rn pg (d + 1) 19 (6, L, .inr (some q) :: S, h) = (mj_gf h q 8 1).bind (fun v => mj_Rn pg (d + 1) 19 (9, L, v :: S, h)) := op_get (P := pg) L S h (show pg.1 19 6 = some ((.getfield 120), 3, 8, 1) from rfl) q
theorem s_19_9 (d : Nat) (L : mj_L) (S : List mj_V) (h : mj_H) : mj_Rn pg (d + 1) 19 (9, L, S, h) = mj_Rn pg (d + 1) 19 (11, L, .inl 12 :: S, h) := op_bipush (P := pg) L S h (show pg.1 19 9 = some ((.bipush 12), 2, 0, 0) from rfl)
theorem s_19_11 (d : Nat) (L : mj_L) (S : List mj_V) (h : mj_H) (x y : Int32) : mj_Rn pg (d + 1) 19 (11, L, .inl y :: .inl x :: S, h) = if x = y then mj_Rn pg (d + 1) 19 (33, L, S, h) else mj_Rn pg (d + 1) 19 (14, L, S, h) := op_ic_eq (P := pg) L S h (show pg.1 19 11 = some ((.if_icmp .eq 22), 3, 33, 0) from rfl) x y
theorem s_19_14 (d : Nat) (L : mj_L) (S : List mj_V) (h : mj_H) : mj_Rn pg (d + 1) 19 (14, L, S, h) = mj_lI L 1 (fun x => mj_Rn pg (d + 1) 19 (15, L, .inl x :: S, h)) := op_iload_n (P := pg) L S h (show pg.1 19 14 = some ((.iload_n 1), 1, 0, 0) from rfl)
theorem s_19_15 (d : Nat) (L : mj_L) (S : List mj_V) (h : mj_H) (x : Int32) : mj_Rn pg (d + 1) 19 (15, L, .inl x :: S, h) = if x < 0 then mj_Rn pg (d + 1) 19 (33, L, S, h) else mj_Rn pg (d + 1) 19 (18, L, S, h) := op_if_lt (P := pg) L S h (show pg.1 19 15 = some ((.ifCond .lt 18), 3, 33, 0) from rfl) x
theorem s_19_18 (d : Nat) (L : mj_L) (S : List mj_V) (h : mj_H) : mj_Rn pg (d + 1) 19 (18, L, S, h) = mj_lI L 1 (fun x => mj_Rn pg (d + 1) 19 (19, L, .inl x :: S, h)) := op_iload_n (P := pg) L S h (show pg.1 19 18 = some ((.iload_n 1), 1, 0, 0) from rfl)
theorem s_19_19 (d : Nat) (L : mj_L) (S : List mj_V) (h : mj_H) : mj_Rn pg (d + 1) 19 (19, L, S, h) = mj_Rn pg (d + 1) 19 (20, L, .inl 2 :: S, h) := op_iconst (P := pg) L S h (show pg.1 19 19 = some ((.iconst 2), 1, 0, 0) from rfl)
theorem s_19_20 (d : Nat) (L : mj_L) (S : List mj_V) (h : mj_H) (x y : Int32) : mj_Rn pg (d + 1) 19 (20, L, .inl y :: .inl x :: S, h) = if y < x then mj_Rn pg (d + 1) 19 (33, L, S, h) else mj_Rn pg (d + 1) 19 (23, L, S, h) := op_ic_gt (P := pg) L S h (show pg.1 19 20 = some ((.if_icmp .gt 13), 3, 33, 0) from rfl) x y
theorem s_19_23 (d : Nat) (L : mj_L) (S : List mj_V) (h : mj_H) : mj_Rn pg (d + 1) 19 (23, L, S, h) = mj_lI L 2 (fun x => mj_Rn pg (d + 1) 19 (24, L, .inl x :: S, h)) := op_iload_n (P := pg) L S h (show pg.1 19 23 = some ((.iload_n 2), 1, 0, 0) from rfl)
theorem s_19_24 (d : Nat) (L : mj_L) (S : List mj_V) (h : mj_H) : mj_Rn pg (d + 1) 19 (24, L, S, h) = mj_Rn pg (d + 1) 19 (25, L, .inl 1 :: S, h) := op_iconst (P := pg) L S h (show pg.1 19 24 = some ((.iconst 1), 1, 0, 0) from rfl)
theorem s_19_25 (d : Nat) (L : mj_L) (S : List mj_V) (h : mj_H) (x y : Int32) : mj_Rn pg (d + 1) 19 (25, L, .inl y :: .inl x :: S, h) = if x < y then mj_Rn pg (d + 1) 19 (33, L, S, h) else mj_Rn pg (d + 1) 19 (28, L, S, h) := op_ic_lt (P := pg) L S h (show pg.1 19 25 = some ((.if_icmp .lt 8), 3, 33, 0) from rfl) x y
theorem s_19_28 (d : Nat) (L : mj_L) (S : List mj_V) (h : mj_H) : mj_Rn pg (d + 1) 19 (28, L, S, h) = mj_lI L 2 (fun x => mj_Rn pg (d + 1) 19 (29, L, .inl x :: S, h)) := op_iload_n (P := pg) L S h (show pg.1 19 28 = some ((.iload_n 2), 1, 0, 0) from rfl)
theorem s_19_29 (d : Nat) (L : mj_L) (S : List mj_V) (h : mj_H) : mj_Rn pg (d + 1) 19 (29, L, S, h) = mj_Rn pg (d + 1) 19 (30, L, .inl 3 :: S, h) := op_iconst (P := pg) L S h (show pg.1 19 29 = some ((.iconst 3), 1, 0, 0) from rfl)
theorem s_19_30 (d : Nat) (L : mj_L) (S : List mj_V) (h : mj_H) (x y : Int32) : mj_Rn pg (d + 1) 19 (30, L, .inl y :: .inl x :: S, h) = if x ≤ y then mj_Rn pg (d + 1) 19 (35, L, S, h) else mj_Rn pg (d + 1) 19 (33, L, S, h) := op_ic_le (P := pg) L S h (show pg.1 19 30 = some ((.if_icmp .le 5), 3, 35, 0) from rfl) x y
theorem s_19_33 (d : Nat) (L : mj_L) (S : List mj_V) (h : mj_H) : mj_Rn pg (d + 1) 19 (33, L, S, h) = mj_Rn pg (d + 1) 19 (34, L, .inl (-1) :: S, h) := op_iconst (P := pg) L S h (show pg.1 19 33 = some ((.iconst (-1)), 1, 0, 0) from rfl)
theorem s_19_34 (d : Nat) (L : mj_L) (h : mj_H) (x : Int32) : mj_Rn pg (d + 1) 19 (34, L, [.inl x], h) = some (some (.inl x), h) := op_ri (P := pg) L h (show pg.1 19 34 = some (.ireturn, 1, 0, 0) from rfl) rfl x
theorem s_19_35 (d : Nat) (L : mj_L) (S : List mj_V) (h : mj_H) : mj_Rn pg (d + 1) 19 (35, L, S, h) = mj_lA L 0 (fun x => mj_Rn pg (d + 1) 19 (36, L, .inr x :: S, h)) := op_aload_n (P := pg) L S h (show pg.1 19 35 = some ((.aload_n 0), 1, 0, 0) from rfl)
theorem s_19_36 (d : Nat) (L : mj_L) (S : List mj_V) (h : mj_H) (q : Nat) : mj_Rn pg (d + 1) 19 (36, L, .inr (some q) :: S, h) = (mj_gf h q 8 3).bind (fun v => mj_Rn pg (d + 1) 19 (39, L, v :: S, h)) := op_get (P := pg) L S h (show pg.1 19 36 = some ((.getfield 7), 3, 8, 3) from rfl) q
theorem s_19_39 (d : Nat) (L : mj_L) (S : List mj_V) (h : mj_H) : mj_Rn pg (d + 1) 19 (39, L, S, h) = mj_lA L 0 (fun x => mj_Rn pg (d + 1) 19 (40, L, .inr x :: S, h)) := op_aload_n (P := pg) L S h (show pg.1 19 39 = some ((.aload_n 0), 1, 0, 0) from rfl)
theorem s_19_40 (d : Nat) (L : mj_L) (S : List mj_V) (h : mj_H) (q : Nat) : mj_Rn pg (d + 1) 19 (40, L, .inr (some q) :: S, h) = (mj_gf h q 8 1).bind (fun v => mj_Rn pg (d + 1) 19 (43, L, v :: S, h)) := op_get (P := pg) L S h (show pg.1 19 40 = some ((.getfield 120), 3, 8, 1) from rfl) q
theorem s_19_43 (d : Nat) (L : mj_L) (S : List mj_V) (h : mj_H) : mj_Rn pg (d + 1) 19 (43, L, S, h) = mj_lI L 1 (fun x => mj_Rn pg (d + 1) 19 (44, L, .inl x :: S, h)) := op_iload_n (P := pg) L S h (show pg.1 19 43 = some ((.iload_n 1), 1, 0, 0) from rfl)
theorem s_19_44 (d : Nat) (L : mj_L) (S : List mj_V) (h : mj_H) (q : Nat) (i x : Int32) : mj_Rn pg (d + 1) 19 (44, L, .inl x :: .inl i :: .inr (some q) :: S, h) = mj_aP h q 100 i (.inl x) (fun h' => mj_Rn pg (d + 1) 19 (45, L, S, h')) := op_ast (P := pg) L S h (show pg.1 19 44 = some (.iastore, 1, 0, 0) from rfl) q i x
theorem s_19_45 (d : Nat) (L : mj_L) (S : List mj_V) (h : mj_H) : mj_Rn pg (d + 1) 19 (45, L, S, h) = mj_lA L 0 (fun x => mj_Rn pg (d + 1) 19 (46, L, .inr x :: S, h)) := op_aload_n (P := pg) L S h (show pg.1 19 45 = some ((.aload_n 0), 1, 0, 0) from rfl)
theorem s_19_46 (d : Nat) (L : mj_L) (S : List mj_V) (h : mj_H) (q : Nat) : mj_Rn pg (d + 1) 19 (46, L, .inr (some q) :: S, h) = (mj_gf h q 8 4).bind (fun v => mj_Rn pg (d + 1) 19 (49, L, v :: S, h)) := op_get (P := pg) L S h (show pg.1 19 46 = some ((.getfield 13), 3, 8, 4) from rfl) q
theorem s_19_49 (d : Nat) (L : mj_L) (S : List mj_V) (h : mj_H) : mj_Rn pg (d + 1) 19 (49, L, S, h) = mj_lA L 0 (fun x => mj_Rn pg (d + 1) 19 (50, L, .inr x :: S, h)) := op_aload_n (P := pg) L S h (show pg.1 19 49 = some ((.aload_n 0), 1, 0, 0) from rfl)
theorem s_19_50 (d : Nat) (L : mj_L) (S : List mj_V) (h : mj_H) (q : Nat) : mj_Rn pg (d + 1) 19 (50, L, .inr (some q) :: S, h) = (mj_gf h q 8 1).bind (fun v => mj_Rn pg (d + 1) 19 (53, L, v :: S, h)) := op_get (P := pg) L S h (show pg.1 19 50 = some ((.getfield 120), 3, 8, 1) from rfl) q
theorem s_19_53 (d : Nat) (L : mj_L) (S : List mj_V) (h : mj_H) : mj_Rn pg (d + 1) 19 (53, L, S, h) = mj_lI L 2 (fun x => mj_Rn pg (d + 1) 19 (54, L, .inl x :: S, h)) := op_iload_n (P := pg) L S h (show pg.1 19 53 = some ((.iload_n 2), 1, 0, 0) from rfl)
theorem s_19_54 (d : Nat) (L : mj_L) (S : List mj_V) (h : mj_H) (q : Nat) (i x : Int32) : mj_Rn pg (d + 1) 19 (54, L, .inl x :: .inl i :: .inr (some q) :: S, h) = mj_aP h q 100 i (.inl x) (fun h' => mj_Rn pg (d + 1) 19 (55, L, S, h')) := op_ast (P := pg) L S h (show pg.1 19 54 = some (.iastore, 1, 0, 0) from rfl) q i x
theorem s_19_55 (d : Nat) (L : mj_L) (S : List mj_V) (h : mj_H) : mj_Rn pg (d + 1) 19 (55, L, S, h) = mj_lA L 0 (fun x => mj_Rn pg (d + 1) 19 (56, L, .inr x :: S, h)) := op_aload_n (P := pg) L S h (show pg.1 19 55 = some ((.aload_n 0), 1, 0, 0) from rfl)
theorem s_19_56 (d : Nat) (L : mj_L) (S : List mj_V) (h : mj_H) (q : Nat) : mj_Rn pg (d + 1) 19 (56, L, .inr (some q) :: S, h) = (mj_gf h q 8 7).bind (fun v => mj_Rn pg (d + 1) 19 (59, L, v :: S, h)) := op_get (P := pg) L S h (show pg.1 19 56 = some ((.getfield 22), 3, 8, 7) from rfl) q
theorem s_19_59 (d : Nat) (L : mj_L) (S : List mj_V) (h : mj_H) : mj_Rn pg (d + 1) 19 (59, L, S, h) = mj_lA L 0 (fun x => mj_Rn pg (d + 1) 19 (60, L, .inr x :: S, h)) := op_aload_n (P := pg) L S h (show pg.1 19 59 = some ((.aload_n 0), 1, 0, 0) from rfl)
theorem s_19_60 (d : Nat) (L : mj_L) (S : List mj_V) (h : mj_H) (q : Nat) : mj_Rn pg (d + 1) 19 (60, L, .inr (some q) :: S, h) = (mj_gf h q 8 1).bind (fun v => mj_Rn pg (d + 1) 19 (63, L, v :: S, h)) := op_get (P := pg) L S h (show pg.1 19 60 = some ((.getfield 120), 3, 8, 1) from rfl) q
theorem s_19_63 (d : Nat) (L : mj_L) (S : List mj_V) (h : mj_H) : mj_Rn pg (d + 1) 19 (63, L, S, h) = mj_lI L 3 (fun x => mj_Rn pg (d + 1) 19 (64, L, .inl x :: S, h)) := op_iload_n (P := pg) L S h (show pg.1 19 63 = some ((.iload_n 3), 1, 0, 0) from rfl)
theorem s_19_64 (d : Nat) (L : mj_L) (S : List mj_V) (h : mj_H) (q : Nat) (i x : Int32) (hx : x = 0 ∨ x = 1) : mj_Rn pg (d + 1) 19 (64, L, .inl x :: .inl i :: .inr (some q) :: S, h) = mj_aP h q 200 i (.inl x) (fun h' => mj_Rn pg (d + 1) 19 (65, L, S, h')) := (op_bst (P := pg) L S h (show pg.1 19 64 = some (.bastore, 1, 0, 0) from rfl) q i x).trans (if_pos hx)
theorem s_19_65 (d : Nat) (L : mj_L) (S : List mj_V) (h : mj_H) : mj_Rn pg (d + 1) 19 (65, L, S, h) = mj_lA L 0 (fun x => mj_Rn pg (d + 1) 19 (66, L, .inr x :: S, h)) := op_aload_n (P := pg) L S h (show pg.1 19 65 = some ((.aload_n 0), 1, 0, 0) from rfl)
theorem s_19_66 (d : Nat) (L : mj_L) (S : List mj_V) (h : mj_H) (q : Nat) : mj_Rn pg (d + 1) 19 (66, L, .inr (some q) :: S, h) = (mj_gf h q 8 8).bind (fun v => mj_Rn pg (d + 1) 19 (69, L, v :: S, h)) := op_get (P := pg) L S h (show pg.1 19 66 = some ((.getfield 26), 3, 8, 8) from rfl) q
theorem s_19_69 (d : Nat) (L : mj_L) (S : List mj_V) (h : mj_H) : mj_Rn pg (d + 1) 19 (69, L, S, h) = mj_lA L 0 (fun x => mj_Rn pg (d + 1) 19 (70, L, .inr x :: S, h)) := op_aload_n (P := pg) L S h (show pg.1 19 69 = some ((.aload_n 0), 1, 0, 0) from rfl)
theorem s_19_70 (d : Nat) (L : mj_L) (S : List mj_V) (h : mj_H) (q : Nat) : mj_Rn pg (d + 1) 19 (70, L, .inr (some q) :: S, h) = (mj_gf h q 8 1).bind (fun v => mj_Rn pg (d + 1) 19 (73, L, v :: S, h)) := op_get (P := pg) L S h (show pg.1 19 70 = some ((.getfield 120), 3, 8, 1) from rfl) q
theorem s_19_73 (d : Nat) (L : mj_L) (S : List mj_V) (h : mj_H) : mj_Rn pg (d + 1) 19 (73, L, S, h) = mj_lI L 4 (fun x => mj_Rn pg (d + 1) 19 (75, L, .inl x :: S, h)) := op_iload (P := pg) L S h (show pg.1 19 73 = some ((.iload 4), 2, 0, 0) from rfl)
theorem s_19_75 (d : Nat) (L : mj_L) (S : List mj_V) (h : mj_H) (q : Nat) (i x : Int32) (hx : x = 0 ∨ x = 1) : mj_Rn pg (d + 1) 19 (75, L, .inl x :: .inl i :: .inr (some q) :: S, h) = mj_aP h q 200 i (.inl x) (fun h' => mj_Rn pg (d + 1) 19 (76, L, S, h')) := (op_bst (P := pg) L S h (show pg.1 19 75 = some (.bastore, 1, 0, 0) from rfl) q i x).trans (if_pos hx)
theorem s_19_76 (d : Nat) (L : mj_L) (S : List mj_V) (h : mj_H) : mj_Rn pg (d + 1) 19 (76, L, S, h) = mj_lA L 0 (fun x => mj_Rn pg (d + 1) 19 (77, L, .inr x :: S, h)) := op_aload_n (P := pg) L S h (show pg.1 19 76 = some ((.aload_n 0), 1, 0, 0) from rfl)
theorem s_19_77 (d : Nat) (L : mj_L) (S : List mj_V) (h : mj_H) (v : mj_V) : mj_Rn pg (d + 1) 19 (77, L, v :: S, h) = mj_Rn pg (d + 1) 19 (78, L, v :: v :: S, h) := op_dup (P := pg) L S h (show pg.1 19 77 = some (.dup, 1, 0, 0) from rfl) v
theorem s_19_78 (d : Nat) (L : mj_L) (S : List mj_V) (h : mj_H) (q : Nat) : mj_Rn pg (d + 1) 19 (78, L, .inr (some q) :: S, h) = (mj_gf h q 8 1).bind (fun v => mj_Rn pg (d + 1) 19 (81, L, v :: S, h)) := op_get (P := pg) L S h (show pg.1 19 78 = some ((.getfield 120), 3, 8, 1) from rfl) q
theorem s_19_81 (d : Nat) (L : mj_L) (S : List mj_V) (h : mj_H) : mj_Rn pg (d + 1) 19 (81, L, S, h) = mj_Rn pg (d + 1) 19 (82, L, .inl 1 :: S, h) := op_iconst (P := pg) L S h (show pg.1 19 81 = some ((.iconst 1), 1, 0, 0) from rfl)
theorem s_19_82 (d : Nat) (L : mj_L) (S : List mj_V) (h : mj_H) (x y : Int32) : mj_Rn pg (d + 1) 19 (82, L, .inl y :: .inl x :: S, h) = mj_Rn pg (d + 1) 19 (83, L, .inl (x + y) :: S, h) := op_iadd (P := pg) L S h (show pg.1 19 82 = some (.iadd, 1, 0, 0) from rfl) x y
theorem s_19_83 (d : Nat) (L : mj_L) (S : List mj_V) (h : mj_H) (q : Nat) (v : Int32) : mj_Rn pg (d + 1) 19 (83, L, .inl v :: .inr (some q) :: S, h) = (mj_pf h q 8 1 (.inl v)).bind (fun h' => mj_Rn pg (d + 1) 19 (86, L, S, h')) := op_put (P := pg) L S h (show pg.1 19 83 = some ((.putfield 120), 3, 8, 1) from rfl) q (.inl v)
theorem s_19_86 (d : Nat) (L : mj_L) (S : List mj_V) (h : mj_H) : mj_Rn pg (d + 1) 19 (86, L, S, h) = mj_lA L 0 (fun x => mj_Rn pg (d + 1) 19 (87, L, .inr x :: S, h)) := op_aload_n (P := pg) L S h (show pg.1 19 86 = some ((.aload_n 0), 1, 0, 0) from rfl)
theorem s_19_87 (d : Nat) (L : mj_L) (S : List mj_V) (h : mj_H) (q : Nat) : mj_Rn pg (d + 1) 19 (87, L, .inr (some q) :: S, h) = (mj_gf h q 8 1).bind (fun v => mj_Rn pg (d + 1) 19 (90, L, v :: S, h)) := op_get (P := pg) L S h (show pg.1 19 87 = some ((.getfield 120), 3, 8, 1) from rfl) q
theorem s_19_90 (d : Nat) (L : mj_L) (S : List mj_V) (h : mj_H) : mj_Rn pg (d + 1) 19 (90, L, S, h) = mj_Rn pg (d + 1) 19 (91, L, .inl 1 :: S, h) := op_iconst (P := pg) L S h (show pg.1 19 90 = some ((.iconst 1), 1, 0, 0) from rfl)
theorem s_19_91 (d : Nat) (L : mj_L) (S : List mj_V) (h : mj_H) (x y : Int32) : mj_Rn pg (d + 1) 19 (91, L, .inl y :: .inl x :: S, h) = mj_Rn pg (d + 1) 19 (92, L, .inl (x - y) :: S, h) := op_isub (P := pg) L S h (show pg.1 19 91 = some (.isub, 1, 0, 0) from rfl) x y
theorem s_19_92 (d : Nat) (L : mj_L) (h : mj_H) (x : Int32) : mj_Rn pg (d + 1) 19 (92, L, [.inl x], h) = some (some (.inl x), h) := op_ri (P := pg) L h (show pg.1 19 92 = some (.ireturn, 1, 0, 0) from rfl) rfl x
/-! 20: FixtureOrderModel.isNeed(II)Z -/
theorem c_20 (d : Nat) (as : List mj_V) (h : mj_H) : mj_Cl pg d 20 as h = mj_Rn pg d 20 (0, as.map some ++ List.replicate (5 - as.length) none, [], h) := op_clx (P := pg) h rfl
theorem e_20 (d : Nat) (v0 v1 v2 : mj_V) (h : mj_H) : mj_Cl pg d 20 [v0, v1, v2] h = mj_Rn pg d 20 (0, [some v0, some v1, some v2, none, none], [], h) := rfl
theorem s_20_0 (d : Nat) (L : mj_L) (S : List mj_V) (h : mj_H) : mj_Rn pg (d + 1) 20 (0, L, S, h) = mj_Rn pg (d + 1) 20 (1, L, .inl 0 :: S, h) := op_iconst (P := pg) L S h (show pg.1 20 0 = some ((.iconst 0), 1, 0, 0) from rfl)
theorem s_20_1 (d : Nat) (L : mj_L) (S : List mj_V) (h : mj_H) (v : Int32) : mj_Rn pg (d + 1) 20 (1, L, .inl v :: S, h) = mj_sL L 3 (.inl v) (fun L' => mj_Rn pg (d + 1) 20 (2, L', S, h)) := op_istore_n (P := pg) L S h (show pg.1 20 1 = some ((.istore_n 3), 1, 0, 0) from rfl) v
theorem s_20_2 (d : Nat) (L : mj_L) (S : List mj_V) (h : mj_H) : mj_Rn pg (d + 1) 20 (2, L, S, h) = mj_Rn pg (d + 1) 20 (3, L, .inl 0 :: S, h) := op_iconst (P := pg) L S h (show pg.1 20 2 = some ((.iconst 0), 1, 0, 0) from rfl)
theorem s_20_3 (d : Nat) (L : mj_L) (S : List mj_V) (h : mj_H) (v : Int32) : mj_Rn pg (d + 1) 20 (3, L, .inl v :: S, h) = mj_sL L 4 (.inl v) (fun L' => mj_Rn pg (d + 1) 20 (5, L', S, h)) := op_istore (P := pg) L S h (show pg.1 20 3 = some ((.istore 4), 2, 0, 0) from rfl) v
theorem s_20_5 (d : Nat) (L : mj_L) (S : List mj_V) (h : mj_H) : mj_Rn pg (d + 1) 20 (5, L, S, h) = mj_lI L 4 (fun x => mj_Rn pg (d + 1) 20 (7, L, .inl x :: S, h)) := op_iload (P := pg) L S h (show pg.1 20 5 = some ((.iload 4), 2, 0, 0) from rfl)
theorem s_20_7 (d : Nat) (L : mj_L) (S : List mj_V) (h : mj_H) : mj_Rn pg (d + 1) 20 (7, L, S, h) = mj_lA L 0 (fun x => mj_Rn pg (d + 1) 20 (8, L, .inr x :: S, h)) := op_aload_n (P := pg) L S h (show pg.1 20 7 = some ((.aload_n 0), 1, 0, 0) from rfl)
theorem s_20_8 (d : Nat) (L : mj_L) (S : List mj_V) (h : mj_H) (q : Nat) : mj_Rn pg (d + 1) 20 (8, L, .inr (some q) :: S, h) = (mj_gf h q 8 5).bind (fun v => mj_Rn pg (d + 1) 20 (11, L, v :: S, h)) := op_get (P := pg) L S h (show pg.1 20 8 = some ((.getfield 16), 3, 8, 5) from rfl) q
theorem s_20_11 (d : Nat) (L : mj_L) (S : List mj_V) (h : mj_H) : mj_Rn pg (d + 1) 20 (11, L, S, h) = mj_lI L 1 (fun x => mj_Rn pg (d + 1) 20 (12, L, .inl x :: S, h)) := op_iload_n (P := pg) L S h (show pg.1 20 11 = some ((.iload_n 1), 1, 0, 0) from rfl)
theorem s_20_12 (d : Nat) (L : mj_L) (S : List mj_V) (h : mj_H) (q : Nat) (i : Int32) : mj_Rn pg (d + 1) 20 (12, L, .inl i :: .inr (some q) :: S, h) = mj_aI h q 100 i (fun v => mj_Rn pg (d + 1) 20 (13, L, .inl v :: S, h)) := op_ald (P := pg) L S h (show pg.1 20 12 = some (.iaload, 1, 0, 0) from rfl) q i
theorem s_20_13 (d : Nat) (L : mj_L) (S : List mj_V) (h : mj_H) (x y : Int32) : mj_Rn pg (d + 1) 20 (13, L, .inl y :: .inl x :: S, h) = if y ≤ x then mj_Rn pg (d + 1) 20 (48, L, S, h) else mj_Rn pg (d + 1) 20 (16, L, S, h) := op_ic_ge (P := pg) L S h (show pg.1 20 13 = some ((.if_icmp .ge 35), 3, 48, 0) from rfl) x y
theorem s_20_16 (d : Nat) (L : mj_L) (S : List mj_V) (h : mj_H) : mj_Rn pg (d + 1) 20 (16, L, S, h) = mj_lI L 3 (fun x => mj_Rn pg (d + 1) 20 (17, L, .inl x :: S, h)) := op_iload_n (P := pg) L S h (show pg.1 20 16 = some ((.iload_n 3), 1, 0, 0) from rfl)
theorem s_20_17 (d : Nat) (L : mj_L) (S : List mj_V) (h : mj_H) (x : Int32) : mj_Rn pg (d + 1) 20 (17, L, .inl x :: S, h) = if ¬ x = 0 then mj_Rn pg (d + 1) 20 (36, L, S, h) else mj_Rn pg (d + 1) 20 (20, L, S, h) := op_if_ne (P := pg) L S h (show pg.1 20 17 = some ((.ifCond .ne 19), 3, 36, 0) from rfl) x
theorem s_20_20 (d : Nat) (L : mj_L) (S : List mj_V) (h : mj_H) : mj_Rn pg (d + 1) 20 (20, L, S, h) = mj_lA L 0 (fun x => mj_Rn pg (d + 1) 20 (21, L, .inr x :: S, h)) := op_aload_n (P := pg) L S h (show pg.1 20 20 = some ((.aload_n 0), 1, 0, 0) from rfl)
theorem s_20_21 (d : Nat) (L : mj_L) (S : List mj_V) (h : mj_H) (q : Nat) : mj_Rn pg (d + 1) 20 (21, L, .inr (some q) :: S, h) = (mj_gf h q 8 6).bind (fun v => mj_Rn pg (d + 1) 20 (24, L, v :: S, h)) := op_get (P := pg) L S h (show pg.1 20 21 = some ((.getfield 19), 3, 8, 6) from rfl) q
theorem s_20_24 (d : Nat) (L : mj_L) (S : List mj_V) (h : mj_H) : mj_Rn pg (d + 1) 20 (24, L, S, h) = mj_Rn pg (d + 1) 20 (26, L, .inl 6 :: S, h) := op_bipush (P := pg) L S h (show pg.1 20 24 = some ((.bipush 6), 2, 0, 0) from rfl)
theorem s_20_26 (d : Nat) (L : mj_L) (S : List mj_V) (h : mj_H) : mj_Rn pg (d + 1) 20 (26, L, S, h) = mj_lI L 1 (fun x => mj_Rn pg (d + 1) 20 (27, L, .inl x :: S, h)) := op_iload_n (P := pg) L S h (show pg.1 20 26 = some ((.iload_n 1), 1, 0, 0) from rfl)
theorem s_20_27 (d : Nat) (L : mj_L) (S : List mj_V) (h : mj_H) (x y : Int32) : mj_Rn pg (d + 1) 20 (27, L, .inl y :: .inl x :: S, h) = mj_Rn pg (d + 1) 20 (28, L, .inl (x * y) :: S, h) := op_imul (P := pg) L S h (show pg.1 20 27 = some (.imul, 1, 0, 0) from rfl) x y
theorem s_20_28 (d : Nat) (L : mj_L) (S : List mj_V) (h : mj_H) : mj_Rn pg (d + 1) 20 (28, L, S, h) = mj_lI L 4 (fun x => mj_Rn pg (d + 1) 20 (30, L, .inl x :: S, h)) := op_iload (P := pg) L S h (show pg.1 20 28 = some ((.iload 4), 2, 0, 0) from rfl)
theorem s_20_30 (d : Nat) (L : mj_L) (S : List mj_V) (h : mj_H) (x y : Int32) : mj_Rn pg (d + 1) 20 (30, L, .inl y :: .inl x :: S, h) = mj_Rn pg (d + 1) 20 (31, L, .inl (x + y) :: S, h) := op_iadd (P := pg) L S h (show pg.1 20 30 = some (.iadd, 1, 0, 0) from rfl) x y
theorem s_20_31 (d : Nat) (L : mj_L) (S : List mj_V) (h : mj_H) (q : Nat) (i : Int32) : mj_Rn pg (d + 1) 20 (31, L, .inl i :: .inr (some q) :: S, h) = mj_aI h q 100 i (fun v => mj_Rn pg (d + 1) 20 (32, L, .inl v :: S, h)) := op_ald (P := pg) L S h (show pg.1 20 31 = some (.iaload, 1, 0, 0) from rfl) q i
theorem s_20_32 (d : Nat) (L : mj_L) (S : List mj_V) (h : mj_H) : mj_Rn pg (d + 1) 20 (32, L, S, h) = mj_lI L 2 (fun x => mj_Rn pg (d + 1) 20 (33, L, .inl x :: S, h)) := op_iload_n (P := pg) L S h (show pg.1 20 32 = some ((.iload_n 2), 1, 0, 0) from rfl)
theorem s_20_33 (d : Nat) (L : mj_L) (S : List mj_V) (h : mj_H) (x y : Int32) : mj_Rn pg (d + 1) 20 (33, L, .inl y :: .inl x :: S, h) = if ¬ x = y then mj_Rn pg (d + 1) 20 (40, L, S, h) else mj_Rn pg (d + 1) 20 (36, L, S, h) := op_ic_ne (P := pg) L S h (show pg.1 20 33 = some ((.if_icmp .ne 7), 3, 40, 0) from rfl) x y
theorem s_20_36 (d : Nat) (L : mj_L) (S : List mj_V) (h : mj_H) : mj_Rn pg (d + 1) 20 (36, L, S, h) = mj_Rn pg (d + 1) 20 (37, L, .inl 1 :: S, h) := op_iconst (P := pg) L S h (show pg.1 20 36 = some ((.iconst 1), 1, 0, 0) from rfl)
theorem s_20_37 (d : Nat) (L : mj_L) (S : List mj_V) (h : mj_H) : mj_Rn pg (d + 1) 20 (37, L, S, h) = mj_Rn pg (d + 1) 20 (41, L, S, h) := op_goto (P := pg) L S h (show pg.1 20 37 = some ((.goto 4), 3, 41, 0) from rfl)
theorem s_20_40 (d : Nat) (L : mj_L) (S : List mj_V) (h : mj_H) : mj_Rn pg (d + 1) 20 (40, L, S, h) = mj_Rn pg (d + 1) 20 (41, L, .inl 0 :: S, h) := op_iconst (P := pg) L S h (show pg.1 20 40 = some ((.iconst 0), 1, 0, 0) from rfl)
theorem s_20_41 (d : Nat) (L : mj_L) (S : List mj_V) (h : mj_H) (v : Int32) : mj_Rn pg (d + 1) 20 (41, L, .inl v :: S, h) = mj_sL L 3 (.inl v) (fun L' => mj_Rn pg (d + 1) 20 (42, L', S, h)) := op_istore_n (P := pg) L S h (show pg.1 20 41 = some ((.istore_n 3), 1, 0, 0) from rfl) v
theorem s_20_42 (d : Nat) (L : mj_L) (S : List mj_V) (h : mj_H) : mj_Rn pg (d + 1) 20 (42, L, S, h) = mj_lI L 4 (fun x => mj_sL L 4 (.inl (x + 1)) (fun L' => mj_Rn pg (d + 1) 20 (45, L', S, h))) := op_iinc (P := pg) L S h (show pg.1 20 42 = some ((.iinc 4 1), 3, 0, 0) from rfl)
theorem s_20_45 (d : Nat) (L : mj_L) (S : List mj_V) (h : mj_H) : mj_Rn pg (d + 1) 20 (45, L, S, h) = mj_Rn pg (d + 1) 20 (5, L, S, h) := op_goto (P := pg) L S h (show pg.1 20 45 = some ((.goto (-40)), 3, 5, 0) from rfl)
theorem s_20_48 (d : Nat) (L : mj_L) (S : List mj_V) (h : mj_H) : mj_Rn pg (d + 1) 20 (48, L, S, h) = mj_lI L 3 (fun x => mj_Rn pg (d + 1) 20 (49, L, .inl x :: S, h)) := op_iload_n (P := pg) L S h (show pg.1 20 48 = some ((.iload_n 3), 1, 0, 0) from rfl)
theorem s_20_49 (d : Nat) (L : mj_L) (h : mj_H) (x : Int32) : mj_Rn pg (d + 1) 20 (49, L, [.inl x], h) = if x = 0 ∨ x = 1 then some (some (.inl x), h) else none := op_rz (P := pg) L h (show pg.1 20 49 = some (.ireturn, 1, 0, 0) from rfl) rfl x
/-! 21: FixtureOrderModel.leads(II)Z -/
theorem c_21 (d : Nat) (as : List mj_V) (h : mj_H) : mj_Cl pg d 21 as h = mj_Rn pg d 21 (0, as.map some ++ List.replicate (7 - as.length) none, [], h) := op_clx (P := pg) h rfl
theorem e_21 (d : Nat) (v0 v1 v2 : mj_V) (h : mj_H) : mj_Cl pg d 21 [v0, v1, v2] h = mj_Rn pg d 21 (0, [some v0, some v1, some v2, none, none, none, none], [], h) := rfl
theorem s_21_0 (d : Nat) (L : mj_L) (S : List mj_V) (h : mj_H) : mj_Rn pg (d + 1) 21 (0, L, S, h) = mj_Rn pg (d + 1) 21 (1, L, .inl 1 :: S, h) := op_iconst (P := pg) L S h (show pg.1 21 0 = some ((.iconst 1), 1, 0, 0) from rfl)
theorem s_21_1 (d : Nat) (L : mj_L) (S : List mj_V) (h : mj_H) : mj_Rn pg (d + 1) 21 (1, L, S, h) = mj_lI L 1 (fun x => mj_Rn pg (d + 1) 21 (2, L, .inl x :: S, h)) := op_iload_n (P := pg) L S h (show pg.1 21 1 = some ((.iload_n 1), 1, 0, 0) from rfl)
theorem s_21_2 (d : Nat) (L : mj_L) (S : List mj_V) (h : mj_H) (x y : Int32) : mj_Rn pg (d + 1) 21 (2, L, .inl y :: .inl x :: S, h) = mj_Rn pg (d + 1) 21 (3, L, .inl (x <<< (y &&& 31)) :: S, h) := op_ishl (P := pg) L S h (show pg.1 21 2 = some (.ishl, 1, 0, 0) from rfl) x y
theorem s_21_3 (d : Nat) (L : mj_L) (S : List mj_V) (h : mj_H) (v : Int32) : mj_Rn pg (d + 1) 21 (3, L, .inl v :: S, h) = mj_sL L 3 (.inl v) (fun L' => mj_Rn pg (d + 1) 21 (4, L', S, h)) := op_istore_n (P := pg) L S h (show pg.1 21 3 = some ((.istore_n 3), 1, 0, 0) from rfl) v
theorem s_21_4 (d : Nat) (L : mj_L) (S : List mj_V) (h : mj_H) : mj_Rn pg (d + 1) 21 (4, L, S, h) = mj_Rn pg (d + 1) 21 (5, L, .inl 0 :: S, h) := op_iconst (P := pg) L S h (show pg.1 21 4 = some ((.iconst 0), 1, 0, 0) from rfl)
theorem s_21_5 (d : Nat) (L : mj_L) (S : List mj_V) (h : mj_H) (v : Int32) : mj_Rn pg (d + 1) 21 (5, L, .inl v :: S, h) = mj_sL L 4 (.inl v) (fun L' => mj_Rn pg (d + 1) 21 (7, L', S, h)) := op_istore (P := pg) L S h (show pg.1 21 5 = some ((.istore 4), 2, 0, 0) from rfl) v
theorem s_21_7 (d : Nat) (L : mj_L) (S : List mj_V) (h : mj_H) : mj_Rn pg (d + 1) 21 (7, L, S, h) = mj_lI L 4 (fun x => mj_Rn pg (d + 1) 21 (9, L, .inl x :: S, h)) := op_iload (P := pg) L S h (show pg.1 21 7 = some ((.iload 4), 2, 0, 0) from rfl)
theorem s_21_9 (d : Nat) (L : mj_L) (S : List mj_V) (h : mj_H) : mj_Rn pg (d + 1) 21 (9, L, S, h) = mj_Rn pg (d + 1) 21 (11, L, .inl 12 :: S, h) := op_bipush (P := pg) L S h (show pg.1 21 9 = some ((.bipush 12), 2, 0, 0) from rfl)
theorem s_21_11 (d : Nat) (L : mj_L) (S : List mj_V) (h : mj_H) (x y : Int32) : mj_Rn pg (d + 1) 21 (11, L, .inl y :: .inl x :: S, h) = if y ≤ x then mj_Rn pg (d + 1) 21 (91, L, S, h) else mj_Rn pg (d + 1) 21 (14, L, S, h) := op_ic_ge (P := pg) L S h (show pg.1 21 11 = some ((.if_icmp .ge 80), 3, 91, 0) from rfl) x y
theorem s_21_14 (d : Nat) (L : mj_L) (S : List mj_V) (h : mj_H) : mj_Rn pg (d + 1) 21 (14, L, S, h) = mj_Rn pg (d + 1) 21 (15, L, .inl 0 :: S, h) := op_iconst (P := pg) L S h (show pg.1 21 14 = some ((.iconst 0), 1, 0, 0) from rfl)
theorem s_21_15 (d : Nat) (L : mj_L) (S : List mj_V) (h : mj_H) (v : Int32) : mj_Rn pg (d + 1) 21 (15, L, .inl v :: S, h) = mj_sL L 5 (.inl v) (fun L' => mj_Rn pg (d + 1) 21 (17, L', S, h)) := op_istore (P := pg) L S h (show pg.1 21 15 = some ((.istore 5), 2, 0, 0) from rfl) v
theorem s_21_17 (d : Nat) (L : mj_L) (S : List mj_V) (h : mj_H) : mj_Rn pg (d + 1) 21 (17, L, S, h) = mj_lI L 5 (fun x => mj_Rn pg (d + 1) 21 (19, L, .inl x :: S, h)) := op_iload (P := pg) L S h (show pg.1 21 17 = some ((.iload 5), 2, 0, 0) from rfl)
theorem s_21_19 (d : Nat) (L : mj_L) (S : List mj_V) (h : mj_H) : mj_Rn pg (d + 1) 21 (19, L, S, h) = mj_lA L 0 (fun x => mj_Rn pg (d + 1) 21 (20, L, .inr x :: S, h)) := op_aload_n (P := pg) L S h (show pg.1 21 19 = some ((.aload_n 0), 1, 0, 0) from rfl)
theorem s_21_20 (d : Nat) (L : mj_L) (S : List mj_V) (h : mj_H) (q : Nat) : mj_Rn pg (d + 1) 21 (20, L, .inr (some q) :: S, h) = (mj_gf h q 8 1).bind (fun v => mj_Rn pg (d + 1) 21 (23, L, v :: S, h)) := op_get (P := pg) L S h (show pg.1 21 20 = some ((.getfield 120), 3, 8, 1) from rfl) q
theorem s_21_23 (d : Nat) (L : mj_L) (S : List mj_V) (h : mj_H) (x y : Int32) : mj_Rn pg (d + 1) 21 (23, L, .inl y :: .inl x :: S, h) = if y ≤ x then mj_Rn pg (d + 1) 21 (85, L, S, h) else mj_Rn pg (d + 1) 21 (26, L, S, h) := op_ic_ge (P := pg) L S h (show pg.1 21 23 = some ((.if_icmp .ge 62), 3, 85, 0) from rfl) x y
theorem s_21_26 (d : Nat) (L : mj_L) (S : List mj_V) (h : mj_H) : mj_Rn pg (d + 1) 21 (26, L, S, h) = mj_Rn pg (d + 1) 21 (27, L, .inl 0 :: S, h) := op_iconst (P := pg) L S h (show pg.1 21 26 = some ((.iconst 0), 1, 0, 0) from rfl)
theorem s_21_27 (d : Nat) (L : mj_L) (S : List mj_V) (h : mj_H) (v : Int32) : mj_Rn pg (d + 1) 21 (27, L, .inl v :: S, h) = mj_sL L 6 (.inl v) (fun L' => mj_Rn pg (d + 1) 21 (29, L', S, h)) := op_istore (P := pg) L S h (show pg.1 21 27 = some ((.istore 6), 2, 0, 0) from rfl) v
theorem s_21_29 (d : Nat) (L : mj_L) (S : List mj_V) (h : mj_H) : mj_Rn pg (d + 1) 21 (29, L, S, h) = mj_lI L 6 (fun x => mj_Rn pg (d + 1) 21 (31, L, .inl x :: S, h)) := op_iload (P := pg) L S h (show pg.1 21 29 = some ((.iload 6), 2, 0, 0) from rfl)
theorem s_21_31 (d : Nat) (L : mj_L) (S : List mj_V) (h : mj_H) : mj_Rn pg (d + 1) 21 (31, L, S, h) = mj_lA L 0 (fun x => mj_Rn pg (d + 1) 21 (32, L, .inr x :: S, h)) := op_aload_n (P := pg) L S h (show pg.1 21 31 = some ((.aload_n 0), 1, 0, 0) from rfl)
theorem s_21_32 (d : Nat) (L : mj_L) (S : List mj_V) (h : mj_H) (q : Nat) : mj_Rn pg (d + 1) 21 (32, L, .inr (some q) :: S, h) = (mj_gf h q 8 5).bind (fun v => mj_Rn pg (d + 1) 21 (35, L, v :: S, h)) := op_get (P := pg) L S h (show pg.1 21 32 = some ((.getfield 16), 3, 8, 5) from rfl) q
theorem s_21_35 (d : Nat) (L : mj_L) (S : List mj_V) (h : mj_H) : mj_Rn pg (d + 1) 21 (35, L, S, h) = mj_lI L 5 (fun x => mj_Rn pg (d + 1) 21 (37, L, .inl x :: S, h)) := op_iload (P := pg) L S h (show pg.1 21 35 = some ((.iload 5), 2, 0, 0) from rfl)
theorem s_21_37 (d : Nat) (L : mj_L) (S : List mj_V) (h : mj_H) (q : Nat) (i : Int32) : mj_Rn pg (d + 1) 21 (37, L, .inl i :: .inr (some q) :: S, h) = mj_aI h q 100 i (fun v => mj_Rn pg (d + 1) 21 (38, L, .inl v :: S, h)) := op_ald (P := pg) L S h (show pg.1 21 37 = some (.iaload, 1, 0, 0) from rfl) q i
theorem s_21_38 (d : Nat) (L : mj_L) (S : List mj_V) (h : mj_H) (x y : Int32) : mj_Rn pg (d + 1) 21 (38, L, .inl y :: .inl x :: S, h) = if y ≤ x then mj_Rn pg (d + 1) 21 (79, L, S, h) else mj_Rn pg (d + 1) 21 (41, L, S, h) := op_ic_ge (P := pg) L S h (show pg.1 21 38 = some ((.if_icmp .ge 41), 3, 79, 0) from rfl) x y
theorem s_21_41 (d : Nat) (L : mj_L) (S : List mj_V) (h : mj_H) : mj_Rn pg (d + 1) 21 (41, L, S, h) = mj_lI L 3 (fun x => mj_Rn pg (d + 1) 21 (42, L, .inl x :: S, h)) := op_iload_n (P := pg) L S h (show pg.1 21 41 = some ((.iload_n 3), 1, 0, 0) from rfl)
theorem s_21_42 (d : Nat) (L : mj_L) (S : List mj_V) (h : mj_H) : mj_Rn pg (d + 1) 21 (42, L, S, h) = mj_lI L 3 (fun x => mj_Rn pg (d + 1) 21 (43, L, .inl x :: S, h)) := op_iload_n (P := pg) L S h (show pg.1 21 42 = some ((.iload_n 3), 1, 0, 0) from rfl)
theorem s_21_43 (d : Nat) (L : mj_L) (S : List mj_V) (h : mj_H) : mj_Rn pg (d + 1) 21 (43, L, S, h) = mj_lI L 5 (fun x => mj_Rn pg (d + 1) 21 (45, L, .inl x :: S, h)) := op_iload (P := pg) L S h (show pg.1 21 43 = some ((.iload 5), 2, 0, 0) from rfl)
theorem s_21_45 (d : Nat) (L : mj_L) (S : List mj_V) (h : mj_H) (x y : Int32) : mj_Rn pg (d + 1) 21 (45, L, .inl y :: .inl x :: S, h) = mj_Rn pg (d + 1) 21 (46, L, .inl (x >>> (y &&& 31)) :: S, h) := op_ishr (P := pg) L S h (show pg.1 21 45 = some (.ishr, 1, 0, 0) from rfl) x y
theorem s_21_46 (d : Nat) (L : mj_L) (S : List mj_V) (h : mj_H) : mj_Rn pg (d + 1) 21 (46, L, S, h) = mj_Rn pg (d + 1) 21 (47, L, .inl 1 :: S, h) := op_iconst (P := pg) L S h (show pg.1 21 46 = some ((.iconst 1), 1, 0, 0) from rfl)
theorem s_21_47 (d : Nat) (L : mj_L) (S : List mj_V) (h : mj_H) (x y : Int32) : mj_Rn pg (d + 1) 21 (47, L, .inl y :: .inl x :: S, h) = mj_Rn pg (d + 1) 21 (48, L, .inl (x &&& y) :: S, h) := op_iand (P := pg) L S h (show pg.1 21 47 = some (.iand, 1, 0, 0) from rfl) x y
theorem s_21_48 (d : Nat) (L : mj_L) (S : List mj_V) (h : mj_H) : mj_Rn pg (d + 1) 21 (48, L, S, h) = mj_Rn pg (d + 1) 21 (49, L, .inl 1 :: S, h) := op_iconst (P := pg) L S h (show pg.1 21 48 = some ((.iconst 1), 1, 0, 0) from rfl)
theorem s_21_49 (d : Nat) (L : mj_L) (S : List mj_V) (h : mj_H) (x y : Int32) : mj_Rn pg (d + 1) 21 (49, L, .inl y :: .inl x :: S, h) = if ¬ x = y then mj_Rn pg (d + 1) 21 (70, L, S, h) else mj_Rn pg (d + 1) 21 (52, L, S, h) := op_ic_ne (P := pg) L S h (show pg.1 21 49 = some ((.if_icmp .ne 21), 3, 70, 0) from rfl) x y
theorem s_21_52 (d : Nat) (L : mj_L) (S : List mj_V) (h : mj_H) : mj_Rn pg (d + 1) 21 (52, L, S, h) = mj_Rn pg (d + 1) 21 (53, L, .inl 1 :: S, h) := op_iconst (P := pg) L S h (show pg.1 21 52 = some ((.iconst 1), 1, 0, 0) from rfl)
theorem s_21_53 (d : Nat) (L : mj_L) (S : List mj_V) (h : mj_H) : mj_Rn pg (d + 1) 21 (53, L, S, h) = mj_lA L 0 (fun x => mj_Rn pg (d + 1) 21 (54, L, .inr x :: S, h)) := op_aload_n (P := pg) L S h (show pg.1 21 53 = some ((.aload_n 0), 1, 0, 0) from rfl)
theorem s_21_54 (d : Nat) (L : mj_L) (S : List mj_V) (h : mj_H) (q : Nat) : mj_Rn pg (d + 1) 21 (54, L, .inr (some q) :: S, h) = (mj_gf h q 8 6).bind (fun v => mj_Rn pg (d + 1) 21 (57, L, v :: S, h)) := op_get (P := pg) L S h (show pg.1 21 54 = some ((.getfield 19), 3, 8, 6) from rfl) q
theorem s_21_57 (d : Nat) (L : mj_L) (S : List mj_V) (h : mj_H) : mj_Rn pg (d + 1) 21 (57, L, S, h) = mj_Rn pg (d + 1) 21 (59, L, .inl 6 :: S, h) := op_bipush (P := pg) L S h (show pg.1 21 57 = some ((.bipush 6), 2, 0, 0) from rfl)
theorem s_21_59 (d : Nat) (L : mj_L) (S : List mj_V) (h : mj_H) : mj_Rn pg (d + 1) 21 (59, L, S, h) = mj_lI L 5 (fun x => mj_Rn pg (d + 1) 21 (61, L, .inl x :: S, h)) := op_iload (P := pg) L S h (show pg.1 21 59 = some ((.iload 5), 2, 0, 0) from rfl)
theorem s_21_61 (d : Nat) (L : mj_L) (S : List mj_V) (h : mj_H) (x y : Int32) : mj_Rn pg (d + 1) 21 (61, L, .inl y :: .inl x :: S, h) = mj_Rn pg (d + 1) 21 (62, L, .inl (x * y) :: S, h) := op_imul (P := pg) L S h (show pg.1 21 61 = some (.imul, 1, 0, 0) from rfl) x y
theorem s_21_62 (d : Nat) (L : mj_L) (S : List mj_V) (h : mj_H) : mj_Rn pg (d + 1) 21 (62, L, S, h) = mj_lI L 6 (fun x => mj_Rn pg (d + 1) 21 (64, L, .inl x :: S, h)) := op_iload (P := pg) L S h (show pg.1 21 62 = some ((.iload 6), 2, 0, 0) from rfl)
theorem s_21_64 (d : Nat) (L : mj_L) (S : List mj_V) (h : mj_H) (x y : Int32) : mj_Rn pg (d + 1) 21 (64, L, .inl y :: .inl x :: S, h) = mj_Rn pg (d + 1) 21 (65, L, .inl (x + y) :: S, h) := op_iadd (P := pg) L S h (show pg.1 21 64 = some (.iadd, 1, 0, 0) from rfl) x y
theorem s_21_65 (d : Nat) (L : mj_L) (S : List mj_V) (h : mj_H) (q : Nat) (i : Int32) : mj_Rn pg (d + 1) 21 (65, L, .inl i :: .inr (some q) :: S, h) = mj_aI h q 100 i (fun v => mj_Rn pg (d + 1) 21 (66, L, .inl v :: S, h)) := op_ald (P := pg) L S h (show pg.1 21 65 = some (.iaload, 1, 0, 0) from rfl) q i
theorem s_21_66 (d : Nat) (L : mj_L) (S : List mj_V) (h : mj_H) (x y : Int32) : mj_Rn pg (d + 1) 21 (66, L, .inl y :: .inl x :: S, h) = mj_Rn pg (d + 1) 21 (67, L, .inl (x <<< (y &&& 31)) :: S, h) := op_ishl (P := pg) L S h (show pg.1 21 66 = some (.ishl, 1, 0, 0) from rfl) x y
theorem s_21_67 (d : Nat) (L : mj_L) (S : List mj_V) (h : mj_H) : mj_Rn pg (d + 1) 21 (67, L, S, h) = mj_Rn pg (d + 1) 21 (71, L, S, h) := op_goto (P := pg) L S h (show pg.1 21 67 = some ((.goto 4), 3, 71, 0) from rfl)
theorem s_21_70 (d : Nat) (L : mj_L) (S : List mj_V) (h : mj_H) : mj_Rn pg (d + 1) 21 (70, L, S, h) = mj_Rn pg (d + 1) 21 (71, L, .inl 0 :: S, h) := op_iconst (P := pg) L S h (show pg.1 21 70 = some ((.iconst 0), 1, 0, 0) from rfl)
theorem s_21_71 (d : Nat) (L : mj_L) (S : List mj_V) (h : mj_H) (x y : Int32) : mj_Rn pg (d + 1) 21 (71, L, .inl y :: .inl x :: S, h) = mj_Rn pg (d + 1) 21 (72, L, .inl (x ||| y) :: S, h) := op_ior (P := pg) L S h (show pg.1 21 71 = some (.ior, 1, 0, 0) from rfl) x y
theorem s_21_72 (d : Nat) (L : mj_L) (S : List mj_V) (h : mj_H) (v : Int32) : mj_Rn pg (d + 1) 21 (72, L, .inl v :: S, h) = mj_sL L 3 (.inl v) (fun L' => mj_Rn pg (d + 1) 21 (73, L', S, h)) := op_istore_n (P := pg) L S h (show pg.1 21 72 = some ((.istore_n 3), 1, 0, 0) from rfl) v
theorem s_21_73 (d : Nat) (L : mj_L) (S : List mj_V) (h : mj_H) : mj_Rn pg (d + 1) 21 (73, L, S, h) = mj_lI L 6 (fun x => mj_sL L 6 (.inl (x + 1)) (fun L' => mj_Rn pg (d + 1) 21 (76, L', S, h))) := op_iinc (P := pg) L S h (show pg.1 21 73 = some ((.iinc 6 1), 3, 0, 0) from rfl)
theorem s_21_76 (d : Nat) (L : mj_L) (S : List mj_V) (h : mj_H) : mj_Rn pg (d + 1) 21 (76, L, S, h) = mj_Rn pg (d + 1) 21 (29, L, S, h) := op_goto (P := pg) L S h (show pg.1 21 76 = some ((.goto (-47)), 3, 29, 0) from rfl)
theorem s_21_79 (d : Nat) (L : mj_L) (S : List mj_V) (h : mj_H) : mj_Rn pg (d + 1) 21 (79, L, S, h) = mj_lI L 5 (fun x => mj_sL L 5 (.inl (x + 1)) (fun L' => mj_Rn pg (d + 1) 21 (82, L', S, h))) := op_iinc (P := pg) L S h (show pg.1 21 79 = some ((.iinc 5 1), 3, 0, 0) from rfl)
theorem s_21_82 (d : Nat) (L : mj_L) (S : List mj_V) (h : mj_H) : mj_Rn pg (d + 1) 21 (82, L, S, h) = mj_Rn pg (d + 1) 21 (17, L, S, h) := op_goto (P := pg) L S h (show pg.1 21 82 = some ((.goto (-65)), 3, 17, 0) from rfl)
theorem s_21_85 (d : Nat) (L : mj_L) (S : List mj_V) (h : mj_H) : mj_Rn pg (d + 1) 21 (85, L, S, h) = mj_lI L 4 (fun x => mj_sL L 4 (.inl (x + 1)) (fun L' => mj_Rn pg (d + 1) 21 (88, L', S, h))) := op_iinc (P := pg) L S h (show pg.1 21 85 = some ((.iinc 4 1), 3, 0, 0) from rfl)
theorem s_21_88 (d : Nat) (L : mj_L) (S : List mj_V) (h : mj_H) : mj_Rn pg (d + 1) 21 (88, L, S, h) = mj_Rn pg (d + 1) 21 (7, L, S, h) := op_goto (P := pg) L S h (show pg.1 21 88 = some ((.goto (-81)), 3, 7, 0) from rfl)
theorem s_21_91 (d : Nat) (L : mj_L) (S : List mj_V) (h : mj_H) : mj_Rn pg (d + 1) 21 (91, L, S, h) = mj_lI L 3 (fun x => mj_Rn pg (d + 1) 21 (92, L, .inl x :: S, h)) := op_iload_n (P := pg) L S h (show pg.1 21 91 = some ((.iload_n 3), 1, 0, 0) from rfl)
theorem s_21_92 (d : Nat) (L : mj_L) (S : List mj_V) (h : mj_H) : mj_Rn pg (d + 1) 21 (92, L, S, h) = mj_lI L 2 (fun x => mj_Rn pg (d + 1) 21 (93, L, .inl x :: S, h)) := op_iload_n (P := pg) L S h (show pg.1 21 92 = some ((.iload_n 2), 1, 0, 0) from rfl)
theorem s_21_93 (d : Nat) (L : mj_L) (S : List mj_V) (h : mj_H) (x y : Int32) : mj_Rn pg (d + 1) 21 (93, L, .inl y :: .inl x :: S, h) = mj_Rn pg (d + 1) 21 (94, L, .inl (x >>> (y &&& 31)) :: S, h) := op_ishr (P := pg) L S h (show pg.1 21 93 = some (.ishr, 1, 0, 0) from rfl) x y
theorem s_21_94 (d : Nat) (L : mj_L) (S : List mj_V) (h : mj_H) : mj_Rn pg (d + 1) 21 (94, L, S, h) = mj_Rn pg (d + 1) 21 (95, L, .inl 1 :: S, h) := op_iconst (P := pg) L S h (show pg.1 21 94 = some ((.iconst 1), 1, 0, 0) from rfl)
theorem s_21_95 (d : Nat) (L : mj_L) (S : List mj_V) (h : mj_H) (x y : Int32) : mj_Rn pg (d + 1) 21 (95, L, .inl y :: .inl x :: S, h) = mj_Rn pg (d + 1) 21 (96, L, .inl (x &&& y) :: S, h) := op_iand (P := pg) L S h (show pg.1 21 95 = some (.iand, 1, 0, 0) from rfl) x y
theorem s_21_96 (d : Nat) (L : mj_L) (S : List mj_V) (h : mj_H) : mj_Rn pg (d + 1) 21 (96, L, S, h) = mj_Rn pg (d + 1) 21 (97, L, .inl 1 :: S, h) := op_iconst (P := pg) L S h (show pg.1 21 96 = some ((.iconst 1), 1, 0, 0) from rfl)
theorem s_21_97 (d : Nat) (L : mj_L) (S : List mj_V) (h : mj_H) (x y : Int32) : mj_Rn pg (d + 1) 21 (97, L, .inl y :: .inl x :: S, h) = if ¬ x = y then mj_Rn pg (d + 1) 21 (104, L, S, h) else mj_Rn pg (d + 1) 21 (100, L, S, h) := op_ic_ne (P := pg) L S h (show pg.1 21 97 = some ((.if_icmp .ne 7), 3, 104, 0) from rfl) x y
theorem s_21_100 (d : Nat) (L : mj_L) (S : List mj_V) (h : mj_H) : mj_Rn pg (d + 1) 21 (100, L, S, h) = mj_Rn pg (d + 1) 21 (101, L, .inl 1 :: S, h) := op_iconst (P := pg) L S h (show pg.1 21 100 = some ((.iconst 1), 1, 0, 0) from rfl)
theorem s_21_101 (d : Nat) (L : mj_L) (S : List mj_V) (h : mj_H) : mj_Rn pg (d + 1) 21 (101, L, S, h) = mj_Rn pg (d + 1) 21 (105, L, S, h) := op_goto (P := pg) L S h (show pg.1 21 101 = some ((.goto 4), 3, 105, 0) from rfl)
theorem s_21_104 (d : Nat) (L : mj_L) (S : List mj_V) (h : mj_H) : mj_Rn pg (d + 1) 21 (104, L, S, h) = mj_Rn pg (d + 1) 21 (105, L, .inl 0 :: S, h) := op_iconst (P := pg) L S h (show pg.1 21 104 = some ((.iconst 0), 1, 0, 0) from rfl)
theorem s_21_105 (d : Nat) (L : mj_L) (h : mj_H) (x : Int32) : mj_Rn pg (d + 1) 21 (105, L, [.inl x], h) = if x = 0 ∨ x = 1 then some (some (.inl x), h) else none := op_rz (P := pg) L h (show pg.1 21 105 = some (.ireturn, 1, 0, 0) from rfl) rfl x
/-! 22: FixtureOrderModel.needs(II)I -/
theorem c_22 (d : Nat) (as : List mj_V) (h : mj_H) : mj_Cl pg d 22 as h = mj_Rn pg d 22 (0, as.map some ++ List.replicate (3 - as.length) none, [], h) := op_clx (P := pg) h rfl
theorem e_22 (d : Nat) (v0 v1 v2 : mj_V) (h : mj_H) : mj_Cl pg d 22 [v0, v1, v2] h = mj_Rn pg d 22 (0, [some v0, some v1, some v2], [], h) := rfl
theorem s_22_0 (d : Nat) (L : mj_L) (S : List mj_V) (h : mj_H) : mj_Rn pg (d + 1) 22 (0, L, S, h) = mj_lA L 0 (fun x => mj_Rn pg (d + 1) 22 (1, L, .inr x :: S, h)) := op_aload_n (P := pg) L S h (show pg.1 22 0 = some ((.aload_n 0), 1, 0, 0) from rfl)
theorem s_22_1 (d : Nat) (L : mj_L) (S : List mj_V) (h : mj_H) : mj_Rn pg (d + 1) 22 (1, L, S, h) = mj_Rn pg (d + 1) 22 (2, L, .inl 0 :: S, h) := op_iconst (P := pg) L S h (show pg.1 22 1 = some ((.iconst 0), 1, 0, 0) from rfl)
theorem s_22_2 (d : Nat) (L : mj_L) (S : List mj_V) (h : mj_H) (q : Nat) (v : Int32) : mj_Rn pg (d + 1) 22 (2, L, .inl v :: .inr (some q) :: S, h) = (mj_pf h q 8 0 (.inl v)).bind (fun h' => mj_Rn pg (d + 1) 22 (5, L, S, h')) := op_put (P := pg) L S h (show pg.1 22 2 = some ((.putfield 116), 3, 8, 0) from rfl) q (.inl v)
theorem s_22_5 (d : Nat) (L : mj_L) (S : List mj_V) (h : mj_H) : mj_Rn pg (d + 1) 22 (5, L, S, h) = mj_lA L 0 (fun x => mj_Rn pg (d + 1) 22 (6, L, .inr x :: S, h)) := op_aload_n (P := pg) L S h (show pg.1 22 5 = some ((.aload_n 0), 1, 0, 0) from rfl)
theorem s_22_6 (d : Nat) (L : mj_L) (S : List mj_V) (h : mj_H) : mj_Rn pg (d + 1) 22 (6, L, S, h) = mj_lI L 1 (fun x => mj_Rn pg (d + 1) 22 (7, L, .inl x :: S, h)) := op_iload_n (P := pg) L S h (show pg.1 22 6 = some ((.iload_n 1), 1, 0, 0) from rfl)
theorem s_22_7 (d : Nat) (L : mj_L) (S : List mj_V) (h : mj_H) (q : Nat) (v0 : mj_V) : mj_Rn pg (d + 1) 22 (7, L, v0 :: .inr (some q) :: S, h) = if mj_tg h q 8 = true then (mj_s8 S (mj_bc (mj_Cl pg d 17 [.inr (some q), v0] h) (fun r h' => mj_Rn pg (d + 1) 22 (10, L, r ++ S, h')))) else none := op_vi (P := pg) L S h (show pg.1 22 7 = some ((.invokevirtual 126), 3, 17, 2) from rfl) rfl q [v0] rfl
theorem s_22_10 (d : Nat) (L : mj_L) (S : List mj_V) (h : mj_H) (x : Int32) : mj_Rn pg (d + 1) 22 (10, L, .inl x :: S, h) = if x = 0 then mj_Rn pg (d + 1) 22 (56, L, S, h) else mj_Rn pg (d + 1) 22 (13, L, S, h) := op_if_eq (P := pg) L S h (show pg.1 22 10 = some ((.ifCond .eq 46), 3, 56, 0) from rfl) x
theorem s_22_13 (d : Nat) (L : mj_L) (S : List mj_V) (h : mj_H) : mj_Rn pg (d + 1) 22 (13, L, S, h) = mj_lA L 0 (fun x => mj_Rn pg (d + 1) 22 (14, L, .inr x :: S, h)) := op_aload_n (P := pg) L S h (show pg.1 22 13 = some ((.aload_n 0), 1, 0, 0) from rfl)
theorem s_22_14 (d : Nat) (L : mj_L) (S : List mj_V) (h : mj_H) : mj_Rn pg (d + 1) 22 (14, L, S, h) = mj_lI L 2 (fun x => mj_Rn pg (d + 1) 22 (15, L, .inl x :: S, h)) := op_iload_n (P := pg) L S h (show pg.1 22 14 = some ((.iload_n 2), 1, 0, 0) from rfl)
theorem s_22_15 (d : Nat) (L : mj_L) (S : List mj_V) (h : mj_H) (q : Nat) (v0 : mj_V) : mj_Rn pg (d + 1) 22 (15, L, v0 :: .inr (some q) :: S, h) = if mj_tg h q 8 = true then (mj_s8 S (mj_bc (mj_Cl pg d 17 [.inr (some q), v0] h) (fun r h' => mj_Rn pg (d + 1) 22 (18, L, r ++ S, h')))) else none := op_vi (P := pg) L S h (show pg.1 22 15 = some ((.invokevirtual 126), 3, 17, 2) from rfl) rfl q [v0] rfl
theorem s_22_18 (d : Nat) (L : mj_L) (S : List mj_V) (h : mj_H) (x : Int32) : mj_Rn pg (d + 1) 22 (18, L, .inl x :: S, h) = if x = 0 then mj_Rn pg (d + 1) 22 (56, L, S, h) else mj_Rn pg (d + 1) 22 (21, L, S, h) := op_if_eq (P := pg) L S h (show pg.1 22 18 = some ((.ifCond .eq 38), 3, 56, 0) from rfl) x
theorem s_22_21 (d : Nat) (L : mj_L) (S : List mj_V) (h : mj_H) : mj_Rn pg (d + 1) 22 (21, L, S, h) = mj_lA L 0 (fun x => mj_Rn pg (d + 1) 22 (22, L, .inr x :: S, h)) := op_aload_n (P := pg) L S h (show pg.1 22 21 = some ((.aload_n 0), 1, 0, 0) from rfl)
theorem s_22_22 (d : Nat) (L : mj_L) (S : List mj_V) (h : mj_H) : mj_Rn pg (d + 1) 22 (22, L, S, h) = mj_lI L 1 (fun x => mj_Rn pg (d + 1) 22 (23, L, .inl x :: S, h)) := op_iload_n (P := pg) L S h (show pg.1 22 22 = some ((.iload_n 1), 1, 0, 0) from rfl)
theorem s_22_23 (d : Nat) (L : mj_L) (S : List mj_V) (h : mj_H) : mj_Rn pg (d + 1) 22 (23, L, S, h) = mj_lI L 2 (fun x => mj_Rn pg (d + 1) 22 (24, L, .inl x :: S, h)) := op_iload_n (P := pg) L S h (show pg.1 22 23 = some ((.iload_n 2), 1, 0, 0) from rfl)
theorem s_22_24 (d : Nat) (L : mj_L) (S : List mj_V) (h : mj_H) (q : Nat) (v0 v1 : mj_V) : mj_Rn pg (d + 1) 22 (24, L, v1 :: v0 :: .inr (some q) :: S, h) = if mj_tg h q 8 = true then (mj_s8 S (mj_bc (mj_Cl pg d 20 [.inr (some q), v0, v1] h) (fun r h' => mj_Rn pg (d + 1) 22 (27, L, r ++ S, h')))) else none := op_vi (P := pg) L S h (show pg.1 22 24 = some ((.invokevirtual 130), 3, 20, 3) from rfl) rfl q [v0, v1] rfl
theorem s_22_27 (d : Nat) (L : mj_L) (S : List mj_V) (h : mj_H) (x : Int32) : mj_Rn pg (d + 1) 22 (27, L, .inl x :: S, h) = if ¬ x = 0 then mj_Rn pg (d + 1) 22 (56, L, S, h) else mj_Rn pg (d + 1) 22 (30, L, S, h) := op_if_ne (P := pg) L S h (show pg.1 22 27 = some ((.ifCond .ne 29), 3, 56, 0) from rfl) x
theorem s_22_30 (d : Nat) (L : mj_L) (S : List mj_V) (h : mj_H) : mj_Rn pg (d + 1) 22 (30, L, S, h) = mj_lA L 0 (fun x => mj_Rn pg (d + 1) 22 (31, L, .inr x :: S, h)) := op_aload_n (P := pg) L S h (show pg.1 22 30 = some ((.aload_n 0), 1, 0, 0) from rfl)
theorem s_22_31 (d : Nat) (L : mj_L) (S : List mj_V) (h : mj_H) (q : Nat) : mj_Rn pg (d + 1) 22 (31, L, .inr (some q) :: S, h) = (mj_gf h q 8 5).bind (fun v => mj_Rn pg (d + 1) 22 (34, L, v :: S, h)) := op_get (P := pg) L S h (show pg.1 22 31 = some ((.getfield 16), 3, 8, 5) from rfl) q
theorem s_22_34 (d : Nat) (L : mj_L) (S : List mj_V) (h : mj_H) : mj_Rn pg (d + 1) 22 (34, L, S, h) = mj_lI L 1 (fun x => mj_Rn pg (d + 1) 22 (35, L, .inl x :: S, h)) := op_iload_n (P := pg) L S h (show pg.1 22 34 = some ((.iload_n 1), 1, 0, 0) from rfl)
theorem s_22_35 (d : Nat) (L : mj_L) (S : List mj_V) (h : mj_H) (q : Nat) (i : Int32) : mj_Rn pg (d + 1) 22 (35, L, .inl i :: .inr (some q) :: S, h) = mj_aI h q 100 i (fun v => mj_Rn pg (d + 1) 22 (36, L, .inl v :: S, h)) := op_ald (P := pg) L S h (show pg.1 22 35 = some (.iaload, 1, 0, 0) from rfl) q i
theorem s_22_36 (d : Nat) (L : mj_L) (S : List mj_V) (h : mj_H) : mj_Rn pg (d + 1) 22 (36, L, S, h) = mj_Rn pg (d + 1) 22 (38, L, .inl 6 :: S, h) := op_bipush (P := pg) L S h (show pg.1 22 36 = some ((.bipush 6), 2, 0, 0) from rfl)
theorem s_22_38 (d : Nat) (L : mj_L) (S : List mj_V) (h : mj_H) (x y : Int32) : mj_Rn pg (d + 1) 22 (38, L, .inl y :: .inl x :: S, h) = if x = y then mj_Rn pg (d + 1) 22 (56, L, S, h) else mj_Rn pg (d + 1) 22 (41, L, S, h) := op_ic_eq (P := pg) L S h (show pg.1 22 38 = some ((.if_icmp .eq 18), 3, 56, 0) from rfl) x y
theorem s_22_41 (d : Nat) (L : mj_L) (S : List mj_V) (h : mj_H) : mj_Rn pg (d + 1) 22 (41, L, S, h) = mj_lA L 0 (fun x => mj_Rn pg (d + 1) 22 (42, L, .inr x :: S, h)) := op_aload_n (P := pg) L S h (show pg.1 22 41 = some ((.aload_n 0), 1, 0, 0) from rfl)
theorem s_22_42 (d : Nat) (L : mj_L) (S : List mj_V) (h : mj_H) (q : Nat) : mj_Rn pg (d + 1) 22 (42, L, .inr (some q) :: S, h) = (mj_gf h q 8 3).bind (fun v => mj_Rn pg (d + 1) 22 (45, L, v :: S, h)) := op_get (P := pg) L S h (show pg.1 22 42 = some ((.getfield 7), 3, 8, 3) from rfl) q
theorem s_22_45 (d : Nat) (L : mj_L) (S : List mj_V) (h : mj_H) : mj_Rn pg (d + 1) 22 (45, L, S, h) = mj_lI L 2 (fun x => mj_Rn pg (d + 1) 22 (46, L, .inl x :: S, h)) := op_iload_n (P := pg) L S h (show pg.1 22 45 = some ((.iload_n 2), 1, 0, 0) from rfl)
theorem s_22_46 (d : Nat) (L : mj_L) (S : List mj_V) (h : mj_H) (q : Nat) (i : Int32) : mj_Rn pg (d + 1) 22 (46, L, .inl i :: .inr (some q) :: S, h) = mj_aI h q 100 i (fun v => mj_Rn pg (d + 1) 22 (47, L, .inl v :: S, h)) := op_ald (P := pg) L S h (show pg.1 22 46 = some (.iaload, 1, 0, 0) from rfl) q i
theorem s_22_47 (d : Nat) (L : mj_L) (S : List mj_V) (h : mj_H) : mj_Rn pg (d + 1) 22 (47, L, S, h) = mj_lA L 0 (fun x => mj_Rn pg (d + 1) 22 (48, L, .inr x :: S, h)) := op_aload_n (P := pg) L S h (show pg.1 22 47 = some ((.aload_n 0), 1, 0, 0) from rfl)
theorem s_22_48 (d : Nat) (L : mj_L) (S : List mj_V) (h : mj_H) (q : Nat) : mj_Rn pg (d + 1) 22 (48, L, .inr (some q) :: S, h) = (mj_gf h q 8 3).bind (fun v => mj_Rn pg (d + 1) 22 (51, L, v :: S, h)) := op_get (P := pg) L S h (show pg.1 22 48 = some ((.getfield 7), 3, 8, 3) from rfl) q
theorem s_22_51 (d : Nat) (L : mj_L) (S : List mj_V) (h : mj_H) : mj_Rn pg (d + 1) 22 (51, L, S, h) = mj_lI L 1 (fun x => mj_Rn pg (d + 1) 22 (52, L, .inl x :: S, h)) := op_iload_n (P := pg) L S h (show pg.1 22 51 = some ((.iload_n 1), 1, 0, 0) from rfl)
theorem s_22_52 (d : Nat) (L : mj_L) (S : List mj_V) (h : mj_H) (q : Nat) (i : Int32) : mj_Rn pg (d + 1) 22 (52, L, .inl i :: .inr (some q) :: S, h) = mj_aI h q 100 i (fun v => mj_Rn pg (d + 1) 22 (53, L, .inl v :: S, h)) := op_ald (P := pg) L S h (show pg.1 22 52 = some (.iaload, 1, 0, 0) from rfl) q i
theorem s_22_53 (d : Nat) (L : mj_L) (S : List mj_V) (h : mj_H) (x y : Int32) : mj_Rn pg (d + 1) 22 (53, L, .inl y :: .inl x :: S, h) = if y ≤ x then mj_Rn pg (d + 1) 22 (58, L, S, h) else mj_Rn pg (d + 1) 22 (56, L, S, h) := op_ic_ge (P := pg) L S h (show pg.1 22 53 = some ((.if_icmp .ge 5), 3, 58, 0) from rfl) x y
theorem s_22_56 (d : Nat) (L : mj_L) (S : List mj_V) (h : mj_H) : mj_Rn pg (d + 1) 22 (56, L, S, h) = mj_Rn pg (d + 1) 22 (57, L, .inl (-1) :: S, h) := op_iconst (P := pg) L S h (show pg.1 22 56 = some ((.iconst (-1)), 1, 0, 0) from rfl)
theorem s_22_57 (d : Nat) (L : mj_L) (h : mj_H) (x : Int32) : mj_Rn pg (d + 1) 22 (57, L, [.inl x], h) = some (some (.inl x), h) := op_ri (P := pg) L h (show pg.1 22 57 = some (.ireturn, 1, 0, 0) from rfl) rfl x
theorem s_22_58 (d : Nat) (L : mj_L) (S : List mj_V) (h : mj_H) : mj_Rn pg (d + 1) 22 (58, L, S, h) = mj_lA L 0 (fun x => mj_Rn pg (d + 1) 22 (59, L, .inr x :: S, h)) := op_aload_n (P := pg) L S h (show pg.1 22 58 = some ((.aload_n 0), 1, 0, 0) from rfl)
theorem s_22_59 (d : Nat) (L : mj_L) (S : List mj_V) (h : mj_H) : mj_Rn pg (d + 1) 22 (59, L, S, h) = mj_lI L 2 (fun x => mj_Rn pg (d + 1) 22 (60, L, .inl x :: S, h)) := op_iload_n (P := pg) L S h (show pg.1 22 59 = some ((.iload_n 2), 1, 0, 0) from rfl)
theorem s_22_60 (d : Nat) (L : mj_L) (S : List mj_V) (h : mj_H) : mj_Rn pg (d + 1) 22 (60, L, S, h) = mj_lI L 1 (fun x => mj_Rn pg (d + 1) 22 (61, L, .inl x :: S, h)) := op_iload_n (P := pg) L S h (show pg.1 22 60 = some ((.iload_n 1), 1, 0, 0) from rfl)
theorem s_22_61 (d : Nat) (L : mj_L) (S : List mj_V) (h : mj_H) (q : Nat) (v0 v1 : mj_V) : mj_Rn pg (d + 1) 22 (61, L, v1 :: v0 :: .inr (some q) :: S, h) = if mj_tg h q 8 = true then (mj_s8 S (mj_bc (mj_Cl pg d 21 [.inr (some q), v0, v1] h) (fun r h' => mj_Rn pg (d + 1) 22 (64, L, r ++ S, h')))) else none := op_vi (P := pg) L S h (show pg.1 22 61 = some ((.invokevirtual 134), 3, 21, 3) from rfl) rfl q [v0, v1] rfl
theorem s_22_64 (d : Nat) (L : mj_L) (S : List mj_V) (h : mj_H) (x : Int32) : mj_Rn pg (d + 1) 22 (64, L, .inl x :: S, h) = if x = 0 then mj_Rn pg (d + 1) 22 (70, L, S, h) else mj_Rn pg (d + 1) 22 (67, L, S, h) := op_if_eq (P := pg) L S h (show pg.1 22 64 = some ((.ifCond .eq 6), 3, 70, 0) from rfl) x
theorem s_22_67 (d : Nat) (L : mj_L) (S : List mj_V) (h : mj_H) : mj_Rn pg (d + 1) 22 (67, L, S, h) = mj_Rn pg (d + 1) 22 (69, L, .inl (-2) :: S, h) := op_bipush (P := pg) L S h (show pg.1 22 67 = some ((.bipush (-2)), 2, 0, 0) from rfl)
theorem s_22_69 (d : Nat) (L : mj_L) (h : mj_H) (x : Int32) : mj_Rn pg (d + 1) 22 (69, L, [.inl x], h) = some (some (.inl x), h) := op_ri (P := pg) L h (show pg.1 22 69 = some (.ireturn, 1, 0, 0) from rfl) rfl x
theorem s_22_70 (d : Nat) (L : mj_L) (S : List mj_V) (h : mj_H) : mj_Rn pg (d + 1) 22 (70, L, S, h) = mj_lA L 0 (fun x => mj_Rn pg (d + 1) 22 (71, L, .inr x :: S, h)) := op_aload_n (P := pg) L S h (show pg.1 22 70 = some ((.aload_n 0), 1, 0, 0) from rfl)
theorem s_22_71 (d : Nat) (L : mj_L) (S : List mj_V) (h : mj_H) (q : Nat) : mj_Rn pg (d + 1) 22 (71, L, .inr (some q) :: S, h) = (mj_gf h q 8 6).bind (fun v => mj_Rn pg (d + 1) 22 (74, L, v :: S, h)) := op_get (P := pg) L S h (show pg.1 22 71 = some ((.getfield 19), 3, 8, 6) from rfl) q
theorem s_22_74 (d : Nat) (L : mj_L) (S : List mj_V) (h : mj_H) : mj_Rn pg (d + 1) 22 (74, L, S, h) = mj_Rn pg (d + 1) 22 (76, L, .inl 6 :: S, h) := op_bipush (P := pg) L S h (show pg.1 22 74 = some ((.bipush 6), 2, 0, 0) from rfl)
theorem s_22_76 (d : Nat) (L : mj_L) (S : List mj_V) (h : mj_H) : mj_Rn pg (d + 1) 22 (76, L, S, h) = mj_lI L 1 (fun x => mj_Rn pg (d + 1) 22 (77, L, .inl x :: S, h)) := op_iload_n (P := pg) L S h (show pg.1 22 76 = some ((.iload_n 1), 1, 0, 0) from rfl)
theorem s_22_77 (d : Nat) (L : mj_L) (S : List mj_V) (h : mj_H) (x y : Int32) : mj_Rn pg (d + 1) 22 (77, L, .inl y :: .inl x :: S, h) = mj_Rn pg (d + 1) 22 (78, L, .inl (x * y) :: S, h) := op_imul (P := pg) L S h (show pg.1 22 77 = some (.imul, 1, 0, 0) from rfl) x y
theorem s_22_78 (d : Nat) (L : mj_L) (S : List mj_V) (h : mj_H) : mj_Rn pg (d + 1) 22 (78, L, S, h) = mj_lA L 0 (fun x => mj_Rn pg (d + 1) 22 (79, L, .inr x :: S, h)) := op_aload_n (P := pg) L S h (show pg.1 22 78 = some ((.aload_n 0), 1, 0, 0) from rfl)
theorem s_22_79 (d : Nat) (L : mj_L) (S : List mj_V) (h : mj_H) (q : Nat) : mj_Rn pg (d + 1) 22 (79, L, .inr (some q) :: S, h) = (mj_gf h q 8 5).bind (fun v => mj_Rn pg (d + 1) 22 (82, L, v :: S, h)) := op_get (P := pg) L S h (show pg.1 22 79 = some ((.getfield 16), 3, 8, 5) from rfl) q
theorem s_22_82 (d : Nat) (L : mj_L) (S : List mj_V) (h : mj_H) : mj_Rn pg (d + 1) 22 (82, L, S, h) = mj_lI L 1 (fun x => mj_Rn pg (d + 1) 22 (83, L, .inl x :: S, h)) := op_iload_n (P := pg) L S h (show pg.1 22 82 = some ((.iload_n 1), 1, 0, 0) from rfl)
theorem s_22_83 (d : Nat) (L : mj_L) (S : List mj_V) (h : mj_H) (q : Nat) (i : Int32) : mj_Rn pg (d + 1) 22 (83, L, .inl i :: .inr (some q) :: S, h) = mj_aI h q 100 i (fun v => mj_Rn pg (d + 1) 22 (84, L, .inl v :: S, h)) := op_ald (P := pg) L S h (show pg.1 22 83 = some (.iaload, 1, 0, 0) from rfl) q i
theorem s_22_84 (d : Nat) (L : mj_L) (S : List mj_V) (h : mj_H) (x y : Int32) : mj_Rn pg (d + 1) 22 (84, L, .inl y :: .inl x :: S, h) = mj_Rn pg (d + 1) 22 (85, L, .inl (x + y) :: S, h) := op_iadd (P := pg) L S h (show pg.1 22 84 = some (.iadd, 1, 0, 0) from rfl) x y
theorem s_22_85 (d : Nat) (L : mj_L) (S : List mj_V) (h : mj_H) : mj_Rn pg (d + 1) 22 (85, L, S, h) = mj_lI L 2 (fun x => mj_Rn pg (d + 1) 22 (86, L, .inl x :: S, h)) := op_iload_n (P := pg) L S h (show pg.1 22 85 = some ((.iload_n 2), 1, 0, 0) from rfl)
theorem s_22_86 (d : Nat) (L : mj_L) (S : List mj_V) (h : mj_H) (q : Nat) (i x : Int32) : mj_Rn pg (d + 1) 22 (86, L, .inl x :: .inl i :: .inr (some q) :: S, h) = mj_aP h q 100 i (.inl x) (fun h' => mj_Rn pg (d + 1) 22 (87, L, S, h')) := op_ast (P := pg) L S h (show pg.1 22 86 = some (.iastore, 1, 0, 0) from rfl) q i x
theorem s_22_87 (d : Nat) (L : mj_L) (S : List mj_V) (h : mj_H) : mj_Rn pg (d + 1) 22 (87, L, S, h) = mj_lA L 0 (fun x => mj_Rn pg (d + 1) 22 (88, L, .inr x :: S, h)) := op_aload_n (P := pg) L S h (show pg.1 22 87 = some ((.aload_n 0), 1, 0, 0) from rfl)
theorem s_22_88 (d : Nat) (L : mj_L) (S : List mj_V) (h : mj_H) (q : Nat) : mj_Rn pg (d + 1) 22 (88, L, .inr (some q) :: S, h) = (mj_gf h q 8 5).bind (fun v => mj_Rn pg (d + 1) 22 (91, L, v :: S, h)) := op_get (P := pg) L S h (show pg.1 22 88 = some ((.getfield 16), 3, 8, 5) from rfl) q
theorem s_22_91 (d : Nat) (L : mj_L) (S : List mj_V) (h : mj_H) : mj_Rn pg (d + 1) 22 (91, L, S, h) = mj_lI L 1 (fun x => mj_Rn pg (d + 1) 22 (92, L, .inl x :: S, h)) := op_iload_n (P := pg) L S h (show pg.1 22 91 = some ((.iload_n 1), 1, 0, 0) from rfl)
theorem s_22_92 (d : Nat) (L : mj_L) (S : List mj_V) (h : mj_H) (v w : mj_V) : mj_Rn pg (d + 1) 22 (92, L, v :: w :: S, h) = mj_Rn pg (d + 1) 22 (93, L, v :: w :: v :: w :: S, h) := op_dup2 (P := pg) L S h (show pg.1 22 92 = some (.dup2, 1, 0, 0) from rfl) v w
theorem s_22_93 (d : Nat) (L : mj_L) (S : List mj_V) (h : mj_H) (q : Nat) (i : Int32) : mj_Rn pg (d + 1) 22 (93, L, .inl i :: .inr (some q) :: S, h) = mj_aI h q 100 i (fun v => mj_Rn pg (d + 1) 22 (94, L, .inl v :: S, h)) := op_ald (P := pg) L S h (show pg.1 22 93 = some (.iaload, 1, 0, 0) from rfl) q i
theorem s_22_94 (d : Nat) (L : mj_L) (S : List mj_V) (h : mj_H) : mj_Rn pg (d + 1) 22 (94, L, S, h) = mj_Rn pg (d + 1) 22 (95, L, .inl 1 :: S, h) := op_iconst (P := pg) L S h (show pg.1 22 94 = some ((.iconst 1), 1, 0, 0) from rfl)
theorem s_22_95 (d : Nat) (L : mj_L) (S : List mj_V) (h : mj_H) (x y : Int32) : mj_Rn pg (d + 1) 22 (95, L, .inl y :: .inl x :: S, h) = mj_Rn pg (d + 1) 22 (96, L, .inl (x + y) :: S, h) := op_iadd (P := pg) L S h (show pg.1 22 95 = some (.iadd, 1, 0, 0) from rfl) x y
theorem s_22_96 (d : Nat) (L : mj_L) (S : List mj_V) (h : mj_H) (q : Nat) (i x : Int32) : mj_Rn pg (d + 1) 22 (96, L, .inl x :: .inl i :: .inr (some q) :: S, h) = mj_aP h q 100 i (.inl x) (fun h' => mj_Rn pg (d + 1) 22 (97, L, S, h')) := op_ast (P := pg) L S h (show pg.1 22 96 = some (.iastore, 1, 0, 0) from rfl) q i x
theorem s_22_97 (d : Nat) (L : mj_L) (S : List mj_V) (h : mj_H) : mj_Rn pg (d + 1) 22 (97, L, S, h) = mj_Rn pg (d + 1) 22 (98, L, .inl 1 :: S, h) := op_iconst (P := pg) L S h (show pg.1 22 97 = some ((.iconst 1), 1, 0, 0) from rfl)
theorem s_22_98 (d : Nat) (L : mj_L) (h : mj_H) (x : Int32) : mj_Rn pg (d + 1) 22 (98, L, [.inl x], h) = some (some (.inl x), h) := op_ri (P := pg) L h (show pg.1 22 98 = some (.ireturn, 1, 0, 0) from rfl) rfl x
/-! 23: FixtureOrderModel.test(I)I -/
theorem c_23 (d : Nat) (as : List mj_V) (h : mj_H) : mj_Cl pg d 23 as h = mj_Rn pg d 23 (0, as.map some ++ List.replicate (2 - as.length) none, [], h) := op_clx (P := pg) h rfl
theorem e_23 (d : Nat) (v0 v1 : mj_V) (h : mj_H) : mj_Cl pg d 23 [v0, v1] h = mj_Rn pg d 23 (0, [some v0, some v1], [], h) := rfl
theorem s_23_0 (d : Nat) (L : mj_L) (S : List mj_V) (h : mj_H) : mj_Rn pg (d + 1) 23 (0, L, S, h) = mj_lA L 0 (fun x => mj_Rn pg (d + 1) 23 (1, L, .inr x :: S, h)) := op_aload_n (P := pg) L S h (show pg.1 23 0 = some ((.aload_n 0), 1, 0, 0) from rfl)
theorem s_23_1 (d : Nat) (L : mj_L) (S : List mj_V) (h : mj_H) : mj_Rn pg (d + 1) 23 (1, L, S, h) = mj_Rn pg (d + 1) 23 (2, L, .inl 0 :: S, h) := op_iconst (P := pg) L S h (show pg.1 23 1 = some ((.iconst 0), 1, 0, 0) from rfl)
theorem s_23_2 (d : Nat) (L : mj_L) (S : List mj_V) (h : mj_H) (q : Nat) (v : Int32) : mj_Rn pg (d + 1) 23 (2, L, .inl v :: .inr (some q) :: S, h) = (mj_pf h q 8 0 (.inl v)).bind (fun h' => mj_Rn pg (d + 1) 23 (5, L, S, h')) := op_put (P := pg) L S h (show pg.1 23 2 = some ((.putfield 116), 3, 8, 0) from rfl) q (.inl v)
theorem s_23_5 (d : Nat) (L : mj_L) (S : List mj_V) (h : mj_H) : mj_Rn pg (d + 1) 23 (5, L, S, h) = mj_lA L 0 (fun x => mj_Rn pg (d + 1) 23 (6, L, .inr x :: S, h)) := op_aload_n (P := pg) L S h (show pg.1 23 5 = some ((.aload_n 0), 1, 0, 0) from rfl)
theorem s_23_6 (d : Nat) (L : mj_L) (S : List mj_V) (h : mj_H) (q : Nat) : mj_Rn pg (d + 1) 23 (6, L, .inr (some q) :: S, h) = (mj_gf h q 8 2).bind (fun v => mj_Rn pg (d + 1) 23 (9, L, v :: S, h)) := op_get (P := pg) L S h (show pg.1 23 6 = some ((.getfield 123), 3, 8, 2) from rfl) q
theorem s_23_9 (d : Nat) (L : mj_L) (S : List mj_V) (h : mj_H) : mj_Rn pg (d + 1) 23 (9, L, S, h) = mj_Rn pg (d + 1) 23 (11, L, .inl 20 :: S, h) := op_bipush (P := pg) L S h (show pg.1 23 9 = some ((.bipush 20), 2, 0, 0) from rfl)
theorem s_23_11 (d : Nat) (L : mj_L) (S : List mj_V) (h : mj_H) (x y : Int32) : mj_Rn pg (d + 1) 23 (11, L, .inl y :: .inl x :: S, h) = if x = y then mj_Rn pg (d + 1) 23 (24, L, S, h) else mj_Rn pg (d + 1) 23 (14, L, S, h) := op_ic_eq (P := pg) L S h (show pg.1 23 11 = some ((.if_icmp .eq 13), 3, 24, 0) from rfl) x y
theorem s_23_14 (d : Nat) (L : mj_L) (S : List mj_V) (h : mj_H) : mj_Rn pg (d + 1) 23 (14, L, S, h) = mj_lI L 1 (fun x => mj_Rn pg (d + 1) 23 (15, L, .inl x :: S, h)) := op_iload_n (P := pg) L S h (show pg.1 23 14 = some ((.iload_n 1), 1, 0, 0) from rfl)
theorem s_23_15 (d : Nat) (L : mj_L) (S : List mj_V) (h : mj_H) (x : Int32) : mj_Rn pg (d + 1) 23 (15, L, .inl x :: S, h) = if x < 0 then mj_Rn pg (d + 1) 23 (24, L, S, h) else mj_Rn pg (d + 1) 23 (18, L, S, h) := op_if_lt (P := pg) L S h (show pg.1 23 15 = some ((.ifCond .lt 9), 3, 24, 0) from rfl) x
theorem s_23_18 (d : Nat) (L : mj_L) (S : List mj_V) (h : mj_H) : mj_Rn pg (d + 1) 23 (18, L, S, h) = mj_lI L 1 (fun x => mj_Rn pg (d + 1) 23 (19, L, .inl x :: S, h)) := op_iload_n (P := pg) L S h (show pg.1 23 18 = some ((.iload_n 1), 1, 0, 0) from rfl)
theorem s_23_19 (d : Nat) (L : mj_L) (S : List mj_V) (h : mj_H) : mj_Rn pg (d + 1) 23 (19, L, S, h) = mj_Rn pg (d + 1) 23 (21, L, .inl 7 :: S, h) := op_bipush (P := pg) L S h (show pg.1 23 19 = some ((.bipush 7), 2, 0, 0) from rfl)
theorem s_23_21 (d : Nat) (L : mj_L) (S : List mj_V) (h : mj_H) (x y : Int32) : mj_Rn pg (d + 1) 23 (21, L, .inl y :: .inl x :: S, h) = if x ≤ y then mj_Rn pg (d + 1) 23 (26, L, S, h) else mj_Rn pg (d + 1) 23 (24, L, S, h) := op_ic_le (P := pg) L S h (show pg.1 23 21 = some ((.if_icmp .le 5), 3, 26, 0) from rfl) x y
theorem s_23_24 (d : Nat) (L : mj_L) (S : List mj_V) (h : mj_H) : mj_Rn pg (d + 1) 23 (24, L, S, h) = mj_Rn pg (d + 1) 23 (25, L, .inl (-1) :: S, h) := op_iconst (P := pg) L S h (show pg.1 23 24 = some ((.iconst (-1)), 1, 0, 0) from rfl)
theorem s_23_25 (d : Nat) (L : mj_L) (h : mj_H) (x : Int32) : mj_Rn pg (d + 1) 23 (25, L, [.inl x], h) = some (some (.inl x), h) := op_ri (P := pg) L h (show pg.1 23 25 = some (.ireturn, 1, 0, 0) from rfl) rfl x
theorem s_23_26 (d : Nat) (L : mj_L) (S : List mj_V) (h : mj_H) : mj_Rn pg (d + 1) 23 (26, L, S, h) = mj_lA L 0 (fun x => mj_Rn pg (d + 1) 23 (27, L, .inr x :: S, h)) := op_aload_n (P := pg) L S h (show pg.1 23 26 = some ((.aload_n 0), 1, 0, 0) from rfl)
theorem s_23_27 (d : Nat) (L : mj_L) (S : List mj_V) (h : mj_H) (q : Nat) : mj_Rn pg (d + 1) 23 (27, L, .inr (some q) :: S, h) = (mj_gf h q 8 9).bind (fun v => mj_Rn pg (d + 1) 23 (30, L, v :: S, h)) := op_get (P := pg) L S h (show pg.1 23 27 = some ((.getfield 29), 3, 8, 9) from rfl) q
theorem s_23_30 (d : Nat) (L : mj_L) (S : List mj_V) (h : mj_H) : mj_Rn pg (d + 1) 23 (30, L, S, h) = mj_lA L 0 (fun x => mj_Rn pg (d + 1) 23 (31, L, .inr x :: S, h)) := op_aload_n (P := pg) L S h (show pg.1 23 30 = some ((.aload_n 0), 1, 0, 0) from rfl)
theorem s_23_31 (d : Nat) (L : mj_L) (S : List mj_V) (h : mj_H) (q : Nat) : mj_Rn pg (d + 1) 23 (31, L, .inr (some q) :: S, h) = (mj_gf h q 8 2).bind (fun v => mj_Rn pg (d + 1) 23 (34, L, v :: S, h)) := op_get (P := pg) L S h (show pg.1 23 31 = some ((.getfield 123), 3, 8, 2) from rfl) q
theorem s_23_34 (d : Nat) (L : mj_L) (S : List mj_V) (h : mj_H) : mj_Rn pg (d + 1) 23 (34, L, S, h) = mj_lI L 1 (fun x => mj_Rn pg (d + 1) 23 (35, L, .inl x :: S, h)) := op_iload_n (P := pg) L S h (show pg.1 23 34 = some ((.iload_n 1), 1, 0, 0) from rfl)
theorem s_23_35 (d : Nat) (L : mj_L) (S : List mj_V) (h : mj_H) (q : Nat) (i x : Int32) : mj_Rn pg (d + 1) 23 (35, L, .inl x :: .inl i :: .inr (some q) :: S, h) = mj_aP h q 100 i (.inl x) (fun h' => mj_Rn pg (d + 1) 23 (36, L, S, h')) := op_ast (P := pg) L S h (show pg.1 23 35 = some (.iastore, 1, 0, 0) from rfl) q i x
theorem s_23_36 (d : Nat) (L : mj_L) (S : List mj_V) (h : mj_H) : mj_Rn pg (d + 1) 23 (36, L, S, h) = mj_lA L 0 (fun x => mj_Rn pg (d + 1) 23 (37, L, .inr x :: S, h)) := op_aload_n (P := pg) L S h (show pg.1 23 36 = some ((.aload_n 0), 1, 0, 0) from rfl)
theorem s_23_37 (d : Nat) (L : mj_L) (S : List mj_V) (h : mj_H) (v : mj_V) : mj_Rn pg (d + 1) 23 (37, L, v :: S, h) = mj_Rn pg (d + 1) 23 (38, L, v :: v :: S, h) := op_dup (P := pg) L S h (show pg.1 23 37 = some (.dup, 1, 0, 0) from rfl) v
theorem s_23_38 (d : Nat) (L : mj_L) (S : List mj_V) (h : mj_H) (q : Nat) : mj_Rn pg (d + 1) 23 (38, L, .inr (some q) :: S, h) = (mj_gf h q 8 2).bind (fun v => mj_Rn pg (d + 1) 23 (41, L, v :: S, h)) := op_get (P := pg) L S h (show pg.1 23 38 = some ((.getfield 123), 3, 8, 2) from rfl) q
theorem s_23_41 (d : Nat) (L : mj_L) (S : List mj_V) (h : mj_H) : mj_Rn pg (d + 1) 23 (41, L, S, h) = mj_Rn pg (d + 1) 23 (42, L, .inl 1 :: S, h) := op_iconst (P := pg) L S h (show pg.1 23 41 = some ((.iconst 1), 1, 0, 0) from rfl)
theorem s_23_42 (d : Nat) (L : mj_L) (S : List mj_V) (h : mj_H) (x y : Int32) : mj_Rn pg (d + 1) 23 (42, L, .inl y :: .inl x :: S, h) = mj_Rn pg (d + 1) 23 (43, L, .inl (x + y) :: S, h) := op_iadd (P := pg) L S h (show pg.1 23 42 = some (.iadd, 1, 0, 0) from rfl) x y
theorem s_23_43 (d : Nat) (L : mj_L) (S : List mj_V) (h : mj_H) (q : Nat) (v : Int32) : mj_Rn pg (d + 1) 23 (43, L, .inl v :: .inr (some q) :: S, h) = (mj_pf h q 8 2 (.inl v)).bind (fun h' => mj_Rn pg (d + 1) 23 (46, L, S, h')) := op_put (P := pg) L S h (show pg.1 23 43 = some ((.putfield 123), 3, 8, 2) from rfl) q (.inl v)
theorem s_23_46 (d : Nat) (L : mj_L) (S : List mj_V) (h : mj_H) : mj_Rn pg (d + 1) 23 (46, L, S, h) = mj_lA L 0 (fun x => mj_Rn pg (d + 1) 23 (47, L, .inr x :: S, h)) := op_aload_n (P := pg) L S h (show pg.1 23 46 = some ((.aload_n 0), 1, 0, 0) from rfl)
theorem s_23_47 (d : Nat) (L : mj_L) (S : List mj_V) (h : mj_H) (q : Nat) : mj_Rn pg (d + 1) 23 (47, L, .inr (some q) :: S, h) = (mj_gf h q 8 2).bind (fun v => mj_Rn pg (d + 1) 23 (50, L, v :: S, h)) := op_get (P := pg) L S h (show pg.1 23 47 = some ((.getfield 123), 3, 8, 2) from rfl) q
theorem s_23_50 (d : Nat) (L : mj_L) (S : List mj_V) (h : mj_H) : mj_Rn pg (d + 1) 23 (50, L, S, h) = mj_Rn pg (d + 1) 23 (51, L, .inl 1 :: S, h) := op_iconst (P := pg) L S h (show pg.1 23 50 = some ((.iconst 1), 1, 0, 0) from rfl)
theorem s_23_51 (d : Nat) (L : mj_L) (S : List mj_V) (h : mj_H) (x y : Int32) : mj_Rn pg (d + 1) 23 (51, L, .inl y :: .inl x :: S, h) = mj_Rn pg (d + 1) 23 (52, L, .inl (x - y) :: S, h) := op_isub (P := pg) L S h (show pg.1 23 51 = some (.isub, 1, 0, 0) from rfl) x y
theorem s_23_52 (d : Nat) (L : mj_L) (h : mj_H) (x : Int32) : mj_Rn pg (d + 1) 23 (52, L, [.inl x], h) = some (some (.inl x), h) := op_ri (P := pg) L h (show pg.1 23 52 = some (.ireturn, 1, 0, 0) from rfl) rfl x
end
