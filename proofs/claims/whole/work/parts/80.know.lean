theorem pg_nw_in : ∀ w ∈ pg_Nw, w ∈ lw_tbl := by
  show ∀ w ∈ [(Jvm.Cond.methodLinkNest "FixtureOrder" (11 : Nat) ({ cls := "FixtureOrder$Suite", name := "<init>", desc := "()V" } : Jvm.MethodName) "FixtureOrder"), (Jvm.Cond.arrayOver (Jvm.ClassFile.FieldType.object "FixtureOrder$Fixture")), (Jvm.Cond.arrayOver (Jvm.ClassFile.FieldType.object "FixtureOrder$Test")), (Jvm.Cond.methodLinkNest "FixtureOrder$Runner" (22 : Nat) ({ cls := "FixtureOrder$Log", name := "<init>", desc := "()V" } : Jvm.MethodName) "FixtureOrder"), (Jvm.Cond.arrayOver (Jvm.ClassFile.FieldType.object "FixtureOrder$Case")), (Jvm.Cond.methodLinkNest "FixtureOrder$Runner" (33 : Nat) ({ cls := "FixtureOrder$Case", name := "<init>", desc := "()V" } : Jvm.MethodName) "FixtureOrder")], w ∈ lw_tbl
  exact List.forall_mem_cons.mpr ⟨List.mem_append_right _ (List.mem_of_getElem? (i := 22) (by decide +kernel)), List.forall_mem_cons.mpr ⟨List.mem_append_right _ (List.mem_of_getElem? (i := 27) (by decide +kernel)), List.forall_mem_cons.mpr ⟨List.mem_append_right _ (List.mem_of_getElem? (i := 29) (by decide +kernel)), List.forall_mem_cons.mpr ⟨List.mem_append_right _ (List.mem_of_getElem? (i := 85) (by decide +kernel)), List.forall_mem_cons.mpr ⟨List.mem_append_right _ (List.mem_of_getElem? (i := 99) (by decide +kernel)), List.forall_mem_cons.mpr ⟨List.mem_append_right _ (List.mem_of_getElem? (i := 101) (by decide +kernel)), fun _ h => absurd h List.not_mem_nil⟩⟩⟩⟩⟩⟩
theorem pg_nw_at {s : State} {args : Array Value} (hts : ∀ w ∈ lw_tbl, w.before args s = true) : ∀ w ∈ pg_Nw, va_Nw w s := by
  intro w hw
  have h1 := hts w (pg_nw_in w hw)
  rcases pg_nwf w hw with ⟨a, i, b, n, d, q, rfl⟩ | ⟨a, i, x, q, rfl⟩ | ⟨C, rfl⟩
  · exact va_Nw.of rfl h1
  · exact va_Nw.of rfl h1
  · exact h1
theorem pg_cls {s : State} {args : Array Value} (hts : ∀ w ∈ pg_Ts, w.before args s = true) : ∃ (dC : Nat → ClassId) (dI : Nat → Nat → Nat), ∀ (k : Nat) (q : vw_C), pg_cl[k]? = some q → u_Kn s q.1 q.2.1 q.2.2 (dC k) (dI k) := by
  have h : ∀ k : Nat, ∃ z : ClassId × (Nat → Nat), ∀ q : vw_C, pg_cl[k]? = some q → u_Kn s q.1 q.2.1 q.2.2 z.1 z.2 := by
    intro k
    match k with
    | 0 => exact ⟨⟨_, _⟩, fun q hq => by cases hq; exact (u_known (C := "FixtureOrder$Case") (T := pg_T0) (N := 7) (n := 7) hts pg_lay0 (hts _ tw_100)).choose_spec.choose_spec⟩
    | 1 => exact ⟨⟨_, _⟩, fun q hq => by cases hq; exact (u_known (C := "FixtureOrder$Fixture") (T := pg_T1) (N := 15) (n := 15) hts pg_lay1 (hts _ tw_165)).choose_spec.choose_spec⟩
    | 2 => exact ⟨⟨_, _⟩, fun q hq => by cases hq; exact (u_known (C := "FixtureOrder$Log") (T := pg_T2) (N := 2) (n := 2) hts pg_lay2 (hts _ tw_84)).choose_spec.choose_spec⟩
    | 3 => exact ⟨⟨_, _⟩, fun q hq => by cases hq; exact (u_known (C := "FixtureOrder$Row") (T := pg_T3) (N := 4) (n := 4) hts pg_lay3 (hts _ tw_54)).choose_spec.choose_spec⟩
    | 4 => exact ⟨⟨_, _⟩, fun q hq => by cases hq; exact (u_known (C := "FixtureOrder$Runner") (T := pg_T4) (N := 5) (n := 5) hts pg_lay4 (hts _ tw_48)).choose_spec.choose_spec⟩
    | 5 => exact ⟨⟨_, _⟩, fun q hq => by cases hq; exact (u_known (C := "FixtureOrder$Suite") (T := pg_T5) (N := 4) (n := 4) hts pg_lay5 (hts _ tw_21)).choose_spec.choose_spec⟩
    | 6 => exact ⟨⟨_, _⟩, fun q hq => by cases hq; exact (u_known (C := "FixtureOrder$Test") (T := pg_T6) (N := 8) (n := 8) hts pg_lay6 (hts _ tw_274)).choose_spec.choose_spec⟩
    | 7 => exact ⟨⟨_, _⟩, fun q hq => by cases hq; exact (u_known (C := "FixtureOrder") (T := pg_T7) (N := 2) (n := 2) hts pg_lay7 (hts _ tw_13)).choose_spec.choose_spec⟩
    | 8 => exact ⟨⟨_, _⟩, fun q hq => by cases hq; exact (u_known (C := "FixtureOrderModel") (T := pg_T8) (N := 44) (n := 44) hts pg_lay8 (hts _ tw_537)).choose_spec.choose_spec⟩
    | k + 9 => exact ⟨⟨0, fun _ => 0⟩, fun q hq => absurd hq (by simp [pg_cl])⟩
  exact ⟨fun k => (h k).choose.1, fun k => (h k).choose.2, fun k q hq => (h k).choose_spec q hq⟩
theorem pg_arr {s : State} {args : Array Value} {ty : FieldType} (hty : ∀ C, ty ≠ .object C) (h : (Cond.arrayClass ty).before args s = true) : ∃ cA : ClassId, ArrOfT s cA ty ∧ va_RA s cA ty := by
  obtain ⟨c, k, comp, h1, h2, h3⟩ := Cond.arrayClass_spec h
  refine ⟨c, fun n z => ⟨fun k h => (by cases h), k, h2, comp, h3⟩, ?_⟩
  cases ty <;> first | exact h1 | exact absurd rfl (hty _)
theorem pg_arrO {s : State} {args : Array Value} {C : String} (h : (Cond.arrayOver (.object C)).before args s = true) : ∃ cA : ClassId, ArrOfT s cA (.object C) ∧ va_RA s cA (.object C) := by
  obtain ⟨comp, c, k, h1, -, h3, h4, h5⟩ := Cond.arrayOver_spec h
  exact ⟨c, fun n z => ⟨fun k h => (by cases h), k, h3, comp, h4⟩, k, comp, h3, h4, h1, h5⟩
theorem pg_K {s : State} {args : Array Value} (hts : ∀ w ∈ lw_tbl, w.before args s = true) : ∃ (D : va_G) (cA : Nat → ClassId), va_K D pg_cl (mj_ty pg_cl cA pg_ak) s := by
  have ht2 : ∀ w ∈ pg_Ts, w.before args s = true := fun w hw => hts w (List.mem_filter.mp hw).1
  obtain ⟨dC, dI, hc⟩ := pg_cls ht2
  obtain ⟨a0, hi⟩ := pg_arr (ty := .int) (fun C h => by cases h) (ht2 _ tw_97)
  obtain ⟨a1, hz⟩ := pg_arr (ty := .boolean) (fun C h => by cases h) (ht2 _ tw_675)
  obtain ⟨b0, hb0⟩ := pg_arrO (C := "FixtureOrder$Case") (hts _ (pg_nw_in _ (List.mem_of_getElem? (i := 4) rfl)))
  obtain ⟨b1, hb1⟩ := pg_arrO (C := "FixtureOrder$Fixture") (hts _ (pg_nw_in _ (List.mem_of_getElem? (i := 1) rfl)))
  obtain ⟨b2, hb2⟩ := pg_arrO (C := "FixtureOrder$Test") (hts _ (pg_nw_in _ (List.mem_of_getElem? (i := 2) rfl)))
  refine ⟨(dC, dI), fun k => if k = 0 then a0 else if k = 100 then a1 else if k = 1 then b0 else if k = 2 then b1 else if k = 7 then b2 else a0, hc, ?_⟩
  intro k x hx
  match k, hx with
  | 0, hx => cases hx; exact hi
  | 1, hx => cases hx; exact hz
  | 2, hx => cases hx; exact hb0
  | 3, hx => cases hx; exact hb1
  | 4, hx => cases hx; exact hb2
  | k + 5, hx => exact absurd hx (by simp [mj_ty, pg_ak])
