-- ===== end of PART A; then your names; then what follows =====
/-! THE CLAIM OUT OF ONE WALK OF THE LAW'S BODY. Your part is whole_start (and what it stands on); all else here is the same for every law, but numbers. -/
def R_law : String := "FixtureOrderLaw"
def lw_P (b : Addr) (xs : List Int32) (args : Array Value) (s : State) : Prop := args = #[.ref b] ∧ s.IntsAt b xs ∧ xs.length ≤ 2560 ∧ (Jvm.Cond.and given_1 narrow_1).before args s = true
def lw_Q (_ : Array Value) (s : State) (o : Outcome) (t : State) : Prop := o = .returned (some (.int 1)) ∧ Framed s o t [] 600000 7302250
def lw_Z (below : List Frame) (a : Array Value) (s : State) : State → Prop := fun t => ∃ o, t.status = .running ∧ Ended t below o ∧ lw_Q a s o t
/-- the law's own end, with 1 on the stack, nothing written that was there before, its room as the claim has it -/
theorem lw_ret {p : Program} {l : Launch} {e : Env} {s : State} {m : MethodId} {below : List Frame} {meth : Method} {c : Code} {b : Nat} (hx : p.tables.exec = Jvm.exec) (hb : c.code = code) (hr : meth.sig.returnType = ret) (hlocks : meth.locks = false) {pc : Nat} {H : Heap} {ls : Array Slot} (hdg : decode code pc = .ok (.ireturn, 1)) : W p l e room_1 s m #[Value.ref b] below meth c H [] 600000 7302250 (lw_Z below #[Value.ref b] s) (F0 m pc ls [.int 1]) := by
  intro T hT X
  obtain ⟨fs, hret, hrun, hended, hW, hframe⟩ := X.leave (v := some (.int 1)) (hlocks := hlocks) (fun h => by rw [hr] at h; cases h)
  have hmeth' : T.vm.method? m = some meth := X.method'
  refine ⟨T.setFrames fs, ?_, .returned (some (.int 1)), hrun, hended, rfl, ⟨_, rfl⟩, hW, hframe⟩
  jvm_step X.here [X.here.top, hx, hb, hdg, hmeth', hr, ret, narrow_b1]
  (try refine ⟨rfl, ?_⟩); (try refine ⟨rfl, ?_⟩)
  first | (intro acts; rw [hret _ acts rfl rfl rfl]) | rw [hret _ _ rfl rfl rfl]
  exact Steps.refl _
/-- what holds at the law's entry: the machine, the code, the tables' words (any of lw_tbl by 'hts w (by decide +kernel)'), the script of L ints xs at the cell b, what the Statement gives of the start (any of its parts by flat_of_before) -/
def lw_At (p : Program) (s : State) (m : MethodId) (meth : Method) (c : Code) (b L : Nat) (xs : Nat → Int32) : Prop :=
  p.tables.exec = Jvm.exec ∧ c.code = code ∧ meth.sig.returnType = ret ∧ c.maxLocals = 4 ∧ s.vm.findClass R_law = some m.cls ∧ (∀ w ∈ lw_tbl, w.before #[Value.ref b] s = true) ∧ va_X b L xs s s.heap ∧ b < s.heap.size ∧ meth.locks = false ∧ (Jvm.Cond.and given_1 narrow_1).before #[Value.ref b] s = true
set_option maxHeartbeats 4000000 in
set_option maxRecDepth 100000 in
theorem whole_start {p : Program} {e : Env} {s : State} {m : MethodId} {below : List Frame} {meth : Method} {c : Code} (l : Launch) {b L : Nat} {xs : Nat → Int32} (hL : L ≤ 2560) (C0 : lw_At p s m meth c b L xs) : W p l e room_1 s m #[Value.ref b] below meth c s.heap [] 0 0 (lw_Z below #[Value.ref b] s) (entryFrame m ([Value.ref b] : List Value).toArray 4) := by
  obtain ⟨hx, hb, hr, hml, hown, hts, hX, hbl, hlocks, hgv⟩ := C0
  obtain ⟨h', hrun, hlen, hsz⟩ := pl_law L xs hL
  obtain ⟨D, cA, hK⟩ := pg_K hts
  have ht2 : ∀ w ∈ pg_Ts, w.before #[Value.ref b] s = true := fun w hw => hts w (List.mem_filter.mp hw).1
  have hrun : mj_fix (mj_stp pg (mj_Cl pg 60) 0) (mj_en pg 0 [.inr (some 0)] [mj_z L xs]) = some (some (.inl 1), h') := hrun
  obtain ⟨n, hn⟩ := mj_fix_some.mp hrun
  have hl := mj_LO.entry (mj_ad b s.heap.size) [.inr (some 0)] (n := 4) (by decide)
  have hI : mj_In D pg_cl cA b s.heap.size (mj_z L xs) [mj_z L xs] s.heap := ⟨[], rfl, rfl, fun k q h => by simp [mj_wo] at h⟩
  rw [lg_entry_eq]
  have hS : va_S (fun q : Nat => s.heap.size ≤ q) s.heap s.heap [] := va_S.rf
  refine mj_walk (p := p) (l := l) (e := e) (R := room_1) (s := s) (m := m) (args := #[Value.ref b]) (below := below) (meth := meth) (c := c) (Q := lw_Z below #[Value.ref b] s) (M := 0) (nL := 4) (b := b) (base := s.heap.size) (nX := L) (xs := xs) (d := 60) (D := D) (cA := cA) (call := mj_Cl pg 60) pg_OK hx hb hml hown (fun h => absurd h (by decide)) ht2 (pg_nw_at hts) hK hX hbl (Nat.le_refl _) (mj_met pg_OK l D cA b s.heap.size L xs hbl 60) (Nat.le_of_ble_eq_true rfl) (Nat.le_of_ble_eq_true rfl) (r := some (.inl 1)) (h' := h') (CE := h'.length - [mj_z L xs].length) (SE := mj_sz h' - mj_sz [mj_z L xs]) ?_ ?_ ?_ n 0 _ [] [mj_z L xs] hn _ s.heap [] 0 0 hl hI hS (Nat.zero_add _) (Nat.zero_add _)
  · show h'.length - 1 ≤ 600000
    omega
  · show mj_sz h' - mj_sz [mj_z L xs] ≤ 7302250
    omega
  · intro pc ls S H locs i hd hrt hI' hS'
    rcases mj_rt_inv hrt with ⟨v, ei, rfl, hk, er⟩ | ⟨v, ei, rfl, hk, er⟩ | ⟨ei, rfl, hk, er⟩
    · obtain ⟨ins, len, a1, a2⟩ := i
      have ei : ins = .ireturn := ei
      subst ei
      have ev : (1 : Int32) = v := by
        have h9 := congrArg Prod.fst er
        simpa using h9
      subst ev
      refine va_forget (fun q hq => hS'.2.2 q hq) ?_
      refine W.widen (k := 600000) (n := 7302250) ?_ ?_ ?_
      · show h'.length - 1 ≤ 600000
        omega
      · omega
      · exact lw_ret hx hb hr hlocks hd
    · exact absurd (congrArg Prod.fst er) (by simp)
    · exact absurd (congrArg Prod.fst er) (by simp)
