/-! ONE INSTRUCTION of the small machine is one of the machine -/
def mj_ty (cl : List vw_C) (cA : Nat → ClassId) (ak : List Nat) : List (ClassId × FieldType) := (cA 0, .int) :: (cA 100, .boolean) :: ak.map (fun k => (cA (k + 1), .object ((cl[k]?.map (fun q => q.1)).getD "")))
theorem mj_ty_at {cl : List vw_C} {cA : Nat → ClassId} {ak : List Nat} {k : Nat} {q : vw_C} (hk : k ∈ ak) (hq : cl[k]? = some q) : ∃ t0 : Nat, (mj_ty cl cA ak)[t0]? = some (cA (k + 1), FieldType.object q.1) := by
  obtain ⟨i, hi⟩ := List.getElem?_of_mem hk
  refine ⟨i + 2, ?_⟩
  rw [mj_ty, List.getElem?_cons_succ, List.getElem?_cons_succ, List.getElem?_map, hi]
  simp [hq]
section OK
variable (P : mj_P) (cl : List vw_C) (tyf : Nat → Nat → FieldType) (Ts Nw : List Cond) (ak : List Nat) (yn : Nat → MethodName) (cc : Nat → ByteArray) (rt : Nat → Option FieldType)
/-- a class of the list -/
def mj_okc (a : Nat) (C : String) (T : u_T) (N : Nat) : Prop := cl[a]? = some (C, T, N) ∧ a < 100 ∧ (∀ w ∈ u_ws C T N, w ∈ Ts) ∧ (∀ k, k < N → parseFieldDescriptor (T k).2.2.1 = some (tyf a k)) ∧ ∀ x, x < N → ∀ y, y < N → x ≠ y → (T x).2.1 ≠ (T y).2.1
/-- a method -/
def mj_okm (M : Nat) : Prop := plainName (yn M).cls = true ∧ Cond.code (yn M) (cc M) (P.2.1 M) (rt M) ∈ Ts ∧ P.2.1 M ≤ 30 ∧ (P.2.2.1 M = 0 → rt M = none) ∧ (P.2.2.1 M = 1 → rt M = some .int) ∧ (P.2.2.1 M = 2 → rt M = some .boolean) ∧ (P.2.2.1 M = 3 → ∃ C, rt M = some (.object C))
/-- a call's link -/
def mj_okk (M idx y n : Nat) : Prop := mj_okm P Ts yn cc rt y ∧ n ≤ P.2.1 y ∧ Cond.initialized (yn y).cls ∈ Ts ∧ ((yn y).cls ≠ "java/lang/invoke/MethodHandle" ∧ (yn y).cls ≠ "java/lang/invoke/VarHandle") ∧ (Cond.methodLink (yn M).cls idx (yn y) ∈ Ts ∨ ∃ host, Cond.methodLinkNest (yn M).cls idx (yn y) host ∈ Nw)
def mj_len (i : mj_I) : Nat := match i.1 with
  | .iload _ => 2
  | .aload _ => 2
  | .istore _ => 2
  | .astore _ => 2
  | .bipush _ => 2
  | .newarray _ => 2
  | .sipush _ => 3
  | .iinc _ _ => 3
  | .ifCond _ _ => 3
  | .if_icmp _ _ => 3
  | .if_acmp _ _ => 3
  | .ifnull _ => 3
  | .ifnonnull _ => 3
  | .goto _ => 3
  | .getfield _ => 3
  | .putfield _ => 3
  | .new _ => 3
  | .anewarray _ => 3
  | .invokestatic _ => 3
  | .invokevirtual _ => 3
  | .invokespecial _ => 3
  | .tableswitch _ _ _ _ => i.2.1
  | _ => 1
def mj_lk (M pc : Nat) (i : mj_I) : Prop := match i.1 with
  | .ifCond _ o => (pc : Int) + o = (i.2.2.1 : Int)
  | .if_icmp _ o => (pc : Int) + o = (i.2.2.1 : Int)
  | .if_acmp _ o => (pc : Int) + o = (i.2.2.1 : Int)
  | .ifnull o => (pc : Int) + o = (i.2.2.1 : Int)
  | .ifnonnull o => (pc : Int) + o = (i.2.2.1 : Int)
  | .goto o => (pc : Int) + o = (i.2.2.1 : Int)
  | .tableswitch _ lo hi os => os.size = (hi - lo + 1).toNat
  | .getfield x => ∃ C T N, mj_okc cl tyf Ts i.2.2.1 C T N ∧ i.2.2.2 < N ∧ (Cond.fieldLink (yn M).cls x (T i.2.2.2).1 (T i.2.2.2).2.1 (T i.2.2.2).2.2.1 ∈ Ts ∨ ∃ host, Cond.fieldLinkNest (yn M).cls x (T i.2.2.2).1 (T i.2.2.2).2.1 (T i.2.2.2).2.2.1 host ∈ Nw)
  | .putfield x => ∃ C T N, mj_okc cl tyf Ts i.2.2.1 C T N ∧ i.2.2.2 < N ∧ ((P.2.2.2.2.1 i.2.2.1 i.2.2.2 = 0 ∧ tyf i.2.2.1 i.2.2.2 = .int) ∨ (P.2.2.2.2.1 i.2.2.1 i.2.2.2 = 1 ∧ tyf i.2.2.1 i.2.2.2 = .boolean) ∨ (P.2.2.2.2.1 i.2.2.1 i.2.2.2 = 2 ∧ ((∃ E, tyf i.2.2.1 i.2.2.2 = .object E) ∨ ∃ E, tyf i.2.2.1 i.2.2.2 = .array E))) ∧
      (((T i.2.2.2).2.2.2 = false ∧ (Cond.fieldLink (yn M).cls x (T i.2.2.2).1 (T i.2.2.2).2.1 (T i.2.2.2).2.2.1 ∈ Ts ∨ ∃ host, Cond.fieldLinkNest (yn M).cls x (T i.2.2.2).1 (T i.2.2.2).2.1 (T i.2.2.2).2.2.1 host ∈ Nw)) ∨
       ((T i.2.2.2).2.2.2 = true ∧ (yn M).name = "<init>" ∧ (T i.2.2.2).1 = (yn M).cls ∧ Cond.fieldLink (yn M).cls x (T i.2.2.2).1 (T i.2.2.2).2.1 (T i.2.2.2).2.2.1 ∈ Ts))
  | .new x => ∃ C T N, mj_okc cl tyf Ts i.2.2.1 C T N ∧ Cond.classLink (yn M).cls x C ∈ Ts ∧ Cond.instantiable C N ∈ Ts ∧ Cond.initialized C ∈ Ts ∧ (P.2.2.2.1 i.2.2.1).length = N ∧ ∀ (ad : Nat → Nat) (j : Nat), j < N → defaultValue (tyf i.2.2.1 j) = vp_V ((P.2.2.2.1 i.2.2.1).map (mj_cv ad)) j
  | .newarray _ => Cond.arrayClass .int ∈ Ts ∧ Cond.arrayClass .boolean ∈ Ts
  | .anewarray x => ∃ C T N, cl[i.2.2.1]? = some (C, T, N) ∧ i.2.2.1 ∈ ak ∧ i.2.2.1 < 99 ∧ Cond.classLink (yn M).cls x C ∈ Ts ∧ Cond.arrayOver (.object C) ∈ Nw
  | .aaload => ∃ q, cl[i.2.2.1]? = some q ∧ i.2.2.1 ∈ ak ∧ i.2.2.1 < 99
  | .aastore => ∃ q, cl[i.2.2.1]? = some q ∧ i.2.2.1 ∈ ak ∧ i.2.2.1 < 99
  | .invokestatic x => (i.2.2.1 = 9998 ∧ Cond.methodLink (yn M).cls x Lib.Math.min.name ∈ Ts ∧ Cond.static Lib.Math.min.name ∈ Ts ∧ Cond.initialized "java/lang/Math" ∈ Ts ∧ Cond.code Lib.Math.min.name Lib.Math.min.code 2 (some .int) ∈ Ts) ∨
      (i.2.2.1 = 9997 ∧ Cond.methodLink (yn M).cls x Lib.Math.max.name ∈ Ts ∧ Cond.static Lib.Math.max.name ∈ Ts ∧ Cond.initialized "java/lang/Math" ∈ Ts ∧ Cond.code Lib.Math.max.name Lib.Math.max.code 2 (some .int) ∈ Ts) ∨
      (i.2.2.1 ≠ 9998 ∧ i.2.2.1 ≠ 9997 ∧ mj_okk P Ts Nw yn cc rt M x i.2.2.1 i.2.2.2 ∧ Cond.static (yn i.2.2.1) ∈ Ts ∧ (parseMethodDescriptor (yn i.2.2.1).desc).map (fun d => d.parameters.length) = some i.2.2.2)
  | .invokevirtual x => mj_okk P Ts Nw yn cc rt M x i.2.2.1 i.2.2.2 ∧ 1 ≤ i.2.2.2 ∧ Cond.instanceMethod (yn i.2.2.1) ∈ Ts ∧ Cond.selects (yn i.2.2.1).cls (yn i.2.2.1) (yn i.2.2.1) ∈ Ts ∧ (parseMethodDescriptor (yn i.2.2.1).desc).map (fun d => d.parameters.length) = some (i.2.2.2 - 1) ∧ P.2.2.2.2.2 i.2.2.1 < 100 ∧ ∃ T N, cl[P.2.2.2.2.2 i.2.2.1]? = some ((yn i.2.2.1).cls, T, N)
  | .invokespecial x => (i.2.2.1 = 9999 ∧ Cond.methodLink (yn M).cls x objectInit ∈ Ts ∧ Cond.instanceMethod objectInit ∈ Ts ∧ Cond.code objectInit ⟨#[0xb1]⟩ 1 none ∈ Ts) ∨
      (i.2.2.1 ≠ 9999 ∧ mj_okk P Ts Nw yn cc rt M x i.2.2.1 i.2.2.2 ∧ 1 ≤ i.2.2.2 ∧ Cond.instanceMethod (yn i.2.2.1) ∈ Ts ∧ (yn i.2.2.1).name = "<init>" ∧ rt i.2.2.1 = none ∧ (parseMethodDescriptor (yn i.2.2.1).desc).map (fun d => d.parameters.length) = some (i.2.2.2 - 1) ∧ P.2.2.2.2.2 i.2.2.1 < 100)
  | _ => True
def mj_oki (M pc : Nat) (i : mj_I) : Prop := decode (cc M) pc = .ok (i.1, mj_len i) ∧ mj_lk P cl tyf Ts Nw ak yn cc rt M pc i
/-- words that are carried apart from the others -/
def mj_nwf : Prop := ∀ w ∈ Nw, (∃ a i b n d h, w = Cond.fieldLinkNest a i b n d h) ∨ (∃ a i x h, w = Cond.methodLinkNest a i x h) ∨ ∃ C, w = Cond.arrayOver (.object C)
end OK
theorem mj_nw_warm {Nw : List Cond} (hf : mj_nwf Nw) {s U : State} (hW : s.WarmedH U.vm) (h : ∀ w ∈ Nw, va_Nw w s) : ∀ w ∈ Nw, va_Nw w U := by
  intro w hw
  have h1 := h w hw
  rcases hf w hw with ⟨a, i, b, n, d, q, rfl⟩ | ⟨a, i, x, q, rfl⟩ | ⟨C, rfl⟩
  · exact va_Nw.warmF hW h1
  · exact va_Nw.warmM hW h1
  · exact va_AO.moved hW.alike h1
theorem mj_nw_call {Nw : List Cond} (hf : mj_nwf Nw) {U : State} {g : JFrame} {mk : MethodId} {a : Array Value} (h : ∀ w ∈ Nw, va_Nw w U) : ∀ w ∈ Nw, va_Nw w (U.calling g mk a) := by
  intro w hw
  have h1 := h w hw
  rcases hf w hw with ⟨a, i, b, n, d, q, rfl⟩ | ⟨a, i, x, q, rfl⟩ | ⟨C, rfl⟩
  · exact va_Nw.same rfl rfl h1
  · exact va_Nw.same rfl rfl h1
  · exact va_AO.moved (Vm.Alike.refl U.vm) h1
/-- a method's start and end -/
def mj_Pc (D : va_G) (cl : List vw_C) (cA : Nat → ClassId) (ak : List Nat) (Nw : List Cond) (b base nX : Nat) (xs : Nat → Int32) (z : mj_C) (as : List mj_V) (h : mj_H) : Array Value → State → Prop := va_Pc (as.map (mj_cv (mj_ad b base))) (fun U => mj_In D cl cA b base z h U.heap ∧ va_K D cl (mj_ty cl cA ak) U ∧ (∀ w ∈ Nw, va_Nw w U) ∧ va_X b nX xs U U.heap)
def mj_Qc (D : va_G) (cl : List vw_C) (cA : Nat → ClassId) (b base : Nat) (z : mj_C) (r : Option mj_V) (h : mj_H) : Array Value → State → Outcome → State → Prop := fun _ st oc t => oc = .returned (r.map (mj_cv (mj_ad b base))) ∧ mj_In D cl cA b base z h t.heap ∧ va_F (fun q : Nat => base ≤ q) st t
theorem mj_blind {D : va_G} {cl : List vw_C} {cA : Nat → ClassId} {ak : List Nat} {Nw : List Cond} (hf : mj_nwf Nw) {b base nX : Nat} {xs : Nat → Int32} {z : mj_C} {as : List mj_V} {h : mj_H} : FrameBlind (mj_Pc D cl cA ak Nw b base nX xs z as h) := by
  intro a U g mk q
  obtain ⟨q0, q1, q2, q3, q4⟩ := q
  exact ⟨q0, q1, va_K.moved (u := U) (U := U.calling g mk a) (Vm.Alike.refl U.vm) q2, mj_nw_call hf q3, va_X.moved (u := U) (U := U.calling g mk a) (Vm.Alike.refl U.vm) q4⟩
section STEP
variable {p : Program} {l : Launch} {e : Env} {R : Room} {s : State} {m : MethodId} {args : Array Value} {below : List Frame} {meth : Method} {c : Code} {H : Heap} {locs : List Loc} {cells slots : Nat} {Q : State → Prop}
theorem mj_callk {pc mc ms : Nat} {ls : Array Slot} {st0 rest : List Value} {a : Array Value} {H0 : Heap} {D : va_G} {cl : List vw_C} {cA : Nat → ClassId} {b base : Nat} {z : mj_C} {r : Option mj_V} {h : mj_H}
    (hr : va_Run p l e R s m args below meth c H locs cells slots mc ms (F0 m pc ls st0) rest (mj_Qc D cl cA b base z r h a) (fun q : Nat => base ≤ q)) (hS : va_S (fun q : Nat => base ≤ q) H0 H locs)
    (kk : ∀ (H1 : Heap) (locs1 : List Loc), mj_In D cl cA b base z h H1 → va_S (fun q : Nat => base ≤ q) H0 H1 locs1 → W p l e R s m args below meth c H1 locs1 (cells + mc) (slots + ms) Q (F0 m (pc + 3) ls ((r.map (mj_cv (mj_ad b base))).toList ++ rest))) : W p l e R s m args below meth c H locs cells slots Q (F0 m pc ls st0) := by
  intro T hT X
  obtain ⟨v, st₀, t, T', L, h0, X', hL, e1, e2, ⟨hv, hb, hz, hk⟩, st⟩ := hr T hT X
  cases hv
  rw [h0] at hz hk
  obtain ⟨t2, a1, b1⟩ := kk T'.heap (locs ++ L) (by rw [e1]; exact hb)
    ⟨Nat.le_trans hS.1 (by rw [e1]; exact hz), fun q h1 h2 => by rw [e1, hk q (Nat.lt_of_lt_of_le h1 hS.1) h2]; exact hS.2.1 q h1 h2, fun q hq => by
      rcases List.mem_append.mp hq with h | h
      · exact hS.2.2 q h
      · exact hL q h⟩ T' rfl X'
  exact ⟨t2, st t2 a1, b1⟩
theorem mj_push {D : va_G} {cl : List vw_C} {cA : Nat → ClassId} {b base : Nat} {z : mj_C} {h : mj_H} {q : mj_C} {H H1 : Heap} (hI : mj_In D cl cA b base z h H) (he : va_at D cl (H.size, mj_ce (mj_ad b base) cA q) H1) (hs : H1.size = H.size + 1) (ho : ∀ x : Nat, x < H.size → H1[x]? = H[x]?) : mj_In D cl cA b base z (h ++ [q]) H1 := by
  obtain ⟨t, rfl, h2, h3⟩ := hI
  refine ⟨t ++ [q], rfl, by rw [hs, h2, List.length_append]; simp; omega, ?_⟩
  rw [mj_wo_app]
  refine (h3.kept (fun k x hx => ho x.1 ((h3 k x hx).lt))).app (fun k x hx => ?_)
  have hz : k < 1 := (List.getElem?_eq_some_iff.mp hx).1
  rw [show k = 0 by omega] at hx
  cases hx
  rw [← h2]
  exact he
theorem mj_S_push {A : Nat → Prop} {H0 H H1 : Heap} (hS : va_S A H0 H locs) (hs : H1.size = H.size + 1) (ho : ∀ x : Nat, x < H.size → H1[x]? = H[x]?) : va_S A H0 H1 locs :=
  ⟨Nat.le_trans hS.1 (by omega), fun x h1 h2 => (ho x (Nat.lt_of_lt_of_le h1 hS.1)).trans (hS.2.1 x h1 h2), hS.2.2⟩
end STEP
theorem mj_hd {D : va_G} {cl : List vw_C} {cA : Nat → ClassId} {b base : Nat} {z : mj_C} {h : mj_H} {H : Heap} (hI : mj_In D cl cA b base z h H) : H.size = base + (h.length - 1) := by
  obtain ⟨t, rfl, h2, -⟩ := hI
  rw [h2]; simp
theorem mj_cut {S : List mj_V} {k : Nat} {v : mj_V} (h : S[k]? = some v) : S = S.take k ++ v :: S.drop (k + 1) := by
  obtain ⟨hk, hv⟩ := List.getElem?_eq_some_iff.mp h
  rw [← hv, List.getElem_cons_drop hk, List.take_append_drop]
theorem mj_take {S : List mj_V} {k : Nat} {v : mj_V} (h : S[k]? = some v) : S.take (k + 1) = S.take k ++ [v] := by
  obtain ⟨hk, hv⟩ := List.getElem?_eq_some_iff.mp h
  rw [List.take_succ, h]
  rfl
