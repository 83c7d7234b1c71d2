/-! every instruction is linked as the tables say -/
section LK
variable {P : mj_P} {cl : List vw_C} {tyf : Nat → Nat → FieldType} {Ts Nw : List Cond} {ak : List Nat} {yn : Nat → MethodName} {cc : Nat → ByteArray} {rt : Nat → Option FieldType} {M pc x len a b : Nat}
theorem lk_get {C : String} {T : u_T} {N : Nat} (h1 : mj_okc cl tyf Ts a C T N) (h2 : b < N) (h3 : Cond.fieldLink (yn M).cls x (T b).1 (T b).2.1 (T b).2.2.1 ∈ Ts) : mj_lk P cl tyf Ts Nw ak yn cc rt M pc (.getfield x, len, a, b) := ⟨C, T, N, h1, h2, Or.inl h3⟩
theorem lk_put {C : String} {T : u_T} {N : Nat} (h1 : mj_okc cl tyf Ts a C T N) (h2 : b < N) (hk : (P.2.2.2.2.1 a b = 0 ∧ tyf a b = .int) ∨ (P.2.2.2.2.1 a b = 1 ∧ tyf a b = .boolean) ∨ (P.2.2.2.2.1 a b = 2 ∧ ((∃ E, tyf a b = .object E) ∨ ∃ E, tyf a b = .array E))) (hf : (T b).2.2.2 = false) (h3 : Cond.fieldLink (yn M).cls x (T b).1 (T b).2.1 (T b).2.2.1 ∈ Ts) : mj_lk P cl tyf Ts Nw ak yn cc rt M pc (.putfield x, len, a, b) := ⟨C, T, N, h1, h2, hk, Or.inl ⟨hf, Or.inl h3⟩⟩
theorem lk_putF {C : String} {T : u_T} {N : Nat} (h1 : mj_okc cl tyf Ts a C T N) (h2 : b < N) (hk : (P.2.2.2.2.1 a b = 0 ∧ tyf a b = .int) ∨ (P.2.2.2.2.1 a b = 1 ∧ tyf a b = .boolean) ∨ (P.2.2.2.2.1 a b = 2 ∧ ((∃ E, tyf a b = .object E) ∨ ∃ E, tyf a b = .array E))) (hf : (T b).2.2.2 = true) (hi : (yn M).name = "<init>") (hd : (T b).1 = (yn M).cls) (h3 : Cond.fieldLink (yn M).cls x (T b).1 (T b).2.1 (T b).2.2.1 ∈ Ts) : mj_lk P cl tyf Ts Nw ak yn cc rt M pc (.putfield x, len, a, b) := ⟨C, T, N, h1, h2, hk, Or.inr ⟨hf, hi, hd, h3⟩⟩
theorem lk_new {C : String} {T : u_T} {N : Nat} (h1 : mj_okc cl tyf Ts a C T N) (h2 : Cond.classLink (yn M).cls x C ∈ Ts) (h3 : Cond.instantiable C N ∈ Ts) (h4 : Cond.initialized C ∈ Ts) (h5 : (P.2.2.2.1 a).length = N) (h6 : ∀ (ad : Nat → Nat) (j : Nat), j < N → defaultValue (tyf a j) = vp_V ((P.2.2.2.1 a).map (mj_cv ad)) j) : mj_lk P cl tyf Ts Nw ak yn cc rt M pc (.new x, len, a, b) := ⟨C, T, N, h1, h2, h3, h4, h5, h6⟩
theorem lk_na {y : ArrayType} (h1 : Cond.arrayClass .int ∈ Ts) (h2 : Cond.arrayClass .boolean ∈ Ts) : mj_lk P cl tyf Ts Nw ak yn cc rt M pc (.newarray y, len, a, b) := ⟨h1, h2⟩
theorem lk_an {C : String} {T : u_T} {N : Nat} (h1 : cl[a]? = some (C, T, N)) (h2 : a ∈ ak) (h3 : a < 99) (h4 : Cond.classLink (yn M).cls x C ∈ Ts) (h5 : Cond.arrayOver (.object C) ∈ Nw) : mj_lk P cl tyf Ts Nw ak yn cc rt M pc (.anewarray x, len, a, b) := ⟨C, T, N, h1, h2, h3, h4, h5⟩
theorem lk_al {q : vw_C} (h1 : cl[a]? = some q) (h2 : a ∈ ak) (h3 : a < 99) : mj_lk P cl tyf Ts Nw ak yn cc rt M pc (.aaload, len, a, b) := ⟨q, h1, h2, h3⟩
theorem lk_as {q : vw_C} (h1 : cl[a]? = some q) (h2 : a ∈ ak) (h3 : a < 99) : mj_lk P cl tyf Ts Nw ak yn cc rt M pc (.aastore, len, a, b) := ⟨q, h1, h2, h3⟩
theorem lk_s (h1 : mj_okk P Ts Nw yn cc rt M x a b) (h2 : Cond.static (yn a) ∈ Ts) (h3 : (parseMethodDescriptor (yn a).desc).map (fun d => d.parameters.length) = some b) : mj_lk P cl tyf Ts Nw ak yn cc rt M pc (.invokestatic x, len, a, b) := ⟨h1, h2, h3⟩
theorem lk_v {T : u_T} {N : Nat} (h1 : mj_okk P Ts Nw yn cc rt M x a b) (h2 : 1 ≤ b) (h3 : Cond.instanceMethod (yn a) ∈ Ts) (h4 : Cond.selects (yn a).cls (yn a) (yn a) ∈ Ts) (h5 : (parseMethodDescriptor (yn a).desc).map (fun d => d.parameters.length) = some (b - 1)) (h6 : P.2.2.2.2.2 a < 100) (h7 : cl[P.2.2.2.2.2 a]? = some ((yn a).cls, T, N)) : mj_lk P cl tyf Ts Nw ak yn cc rt M pc (.invokevirtual x, len, a, b) := ⟨h1, h2, h3, h4, h5, h6, T, N, h7⟩
theorem lk_i (h0 : a ≠ 9999) (h1 : mj_okk P Ts Nw yn cc rt M x a b) (h2 : 1 ≤ b) (h3 : Cond.instanceMethod (yn a) ∈ Ts) (h4 : (yn a).name = "<init>") (h5 : rt a = none) (h6 : (parseMethodDescriptor (yn a).desc).map (fun d => d.parameters.length) = some (b - 1)) (h7 : P.2.2.2.2.2 a < 100) : mj_lk P cl tyf Ts Nw ak yn cc rt M pc (.invokespecial x, len, a, b) := Or.inr ⟨h0, h1, h2, h3, h4, h5, h6, h7⟩
theorem lk_o (h1 : Cond.methodLink (yn M).cls x objectInit ∈ Ts) (h2 : Cond.instanceMethod objectInit ∈ Ts) (h3 : Cond.code objectInit ⟨#[0xb1]⟩ 1 none ∈ Ts) : mj_lk P cl tyf Ts Nw ak yn cc rt M pc (.invokespecial x, len, 9999, b) := Or.inl ⟨rfl, h1, h2, h3⟩
end LK
set_option maxRecDepth 100000 in
theorem pg_lay0 : ∀ w ∈ u_ws "FixtureOrder$Case" pg_T0 7, w ∈ pg_Ts := by
  show ∀ w ∈ [u_lay "FixtureOrder$Case" pg_T0 0, u_lay "FixtureOrder$Case" pg_T0 1, u_lay "FixtureOrder$Case" pg_T0 2, u_lay "FixtureOrder$Case" pg_T0 3, u_lay "FixtureOrder$Case" pg_T0 4, u_lay "FixtureOrder$Case" pg_T0 5, u_lay "FixtureOrder$Case" pg_T0 6], w ∈ pg_Ts
  exact List.forall_mem_cons.mpr ⟨tw_113, List.forall_mem_cons.mpr ⟨tw_115, List.forall_mem_cons.mpr ⟨tw_117, List.forall_mem_cons.mpr ⟨tw_119, List.forall_mem_cons.mpr ⟨tw_121, List.forall_mem_cons.mpr ⟨tw_123, List.forall_mem_cons.mpr ⟨tw_125, fun _ h => absurd h List.not_mem_nil⟩⟩⟩⟩⟩⟩⟩
theorem pg_okc0 : mj_okc pg_cl pg_ty pg_Ts 0 "FixtureOrder$Case" pg_T0 7 := ⟨rfl, by decide, pg_lay0, by decide +kernel, by decide +kernel⟩
set_option maxRecDepth 100000 in
theorem pg_lay1 : ∀ w ∈ u_ws "FixtureOrder$Fixture" pg_T1 15, w ∈ pg_Ts := by
  show ∀ w ∈ [u_lay "FixtureOrder$Fixture" pg_T1 0, u_lay "FixtureOrder$Fixture" pg_T1 1, u_lay "FixtureOrder$Fixture" pg_T1 2, u_lay "FixtureOrder$Fixture" pg_T1 3, u_lay "FixtureOrder$Fixture" pg_T1 4, u_lay "FixtureOrder$Fixture" pg_T1 5, u_lay "FixtureOrder$Fixture" pg_T1 6, u_lay "FixtureOrder$Fixture" pg_T1 7, u_lay "FixtureOrder$Fixture" pg_T1 8, u_lay "FixtureOrder$Fixture" pg_T1 9, u_lay "FixtureOrder$Fixture" pg_T1 10, u_lay "FixtureOrder$Fixture" pg_T1 11, u_lay "FixtureOrder$Fixture" pg_T1 12, u_lay "FixtureOrder$Fixture" pg_T1 13, u_lay "FixtureOrder$Fixture" pg_T1 14], w ∈ pg_Ts
  exact List.forall_mem_cons.mpr ⟨tw_205, List.forall_mem_cons.mpr ⟨tw_207, List.forall_mem_cons.mpr ⟨tw_209, List.forall_mem_cons.mpr ⟨tw_211, List.forall_mem_cons.mpr ⟨tw_213, List.forall_mem_cons.mpr ⟨tw_215, List.forall_mem_cons.mpr ⟨tw_217, List.forall_mem_cons.mpr ⟨tw_219, List.forall_mem_cons.mpr ⟨tw_221, List.forall_mem_cons.mpr ⟨tw_223, List.forall_mem_cons.mpr ⟨tw_225, List.forall_mem_cons.mpr ⟨tw_227, List.forall_mem_cons.mpr ⟨tw_229, List.forall_mem_cons.mpr ⟨tw_231, List.forall_mem_cons.mpr ⟨tw_233, fun _ h => absurd h List.not_mem_nil⟩⟩⟩⟩⟩⟩⟩⟩⟩⟩⟩⟩⟩⟩⟩
theorem pg_okc1 : mj_okc pg_cl pg_ty pg_Ts 1 "FixtureOrder$Fixture" pg_T1 15 := ⟨rfl, by decide, pg_lay1, by decide +kernel, by decide +kernel⟩
set_option maxRecDepth 100000 in
theorem pg_lay2 : ∀ w ∈ u_ws "FixtureOrder$Log" pg_T2 2, w ∈ pg_Ts := by
  show ∀ w ∈ [u_lay "FixtureOrder$Log" pg_T2 0, u_lay "FixtureOrder$Log" pg_T2 1], w ∈ pg_Ts
  exact List.forall_mem_cons.mpr ⟨tw_92, List.forall_mem_cons.mpr ⟨tw_94, fun _ h => absurd h List.not_mem_nil⟩⟩
theorem pg_okc2 : mj_okc pg_cl pg_ty pg_Ts 2 "FixtureOrder$Log" pg_T2 2 := ⟨rfl, by decide, pg_lay2, by decide +kernel, by decide +kernel⟩
set_option maxRecDepth 100000 in
theorem pg_lay3 : ∀ w ∈ u_ws "FixtureOrder$Row" pg_T3 4, w ∈ pg_Ts := by
  show ∀ w ∈ [u_lay "FixtureOrder$Row" pg_T3 0, u_lay "FixtureOrder$Row" pg_T3 1, u_lay "FixtureOrder$Row" pg_T3 2, u_lay "FixtureOrder$Row" pg_T3 3], w ∈ pg_Ts
  exact List.forall_mem_cons.mpr ⟨tw_74, List.forall_mem_cons.mpr ⟨tw_76, List.forall_mem_cons.mpr ⟨tw_78, List.forall_mem_cons.mpr ⟨tw_80, fun _ h => absurd h List.not_mem_nil⟩⟩⟩⟩
theorem pg_okc3 : mj_okc pg_cl pg_ty pg_Ts 3 "FixtureOrder$Row" pg_T3 4 := ⟨rfl, by decide, pg_lay3, by decide +kernel, by decide +kernel⟩
set_option maxRecDepth 100000 in
theorem pg_lay4 : ∀ w ∈ u_ws "FixtureOrder$Runner" pg_T4 5, w ∈ pg_Ts := by
  show ∀ w ∈ [u_lay "FixtureOrder$Runner" pg_T4 0, u_lay "FixtureOrder$Runner" pg_T4 1, u_lay "FixtureOrder$Runner" pg_T4 2, u_lay "FixtureOrder$Runner" pg_T4 3, u_lay "FixtureOrder$Runner" pg_T4 4], w ∈ pg_Ts
  exact List.forall_mem_cons.mpr ⟨tw_136, List.forall_mem_cons.mpr ⟨tw_138, List.forall_mem_cons.mpr ⟨tw_140, List.forall_mem_cons.mpr ⟨tw_142, List.forall_mem_cons.mpr ⟨tw_144, fun _ h => absurd h List.not_mem_nil⟩⟩⟩⟩⟩
theorem pg_okc4 : mj_okc pg_cl pg_ty pg_Ts 4 "FixtureOrder$Runner" pg_T4 5 := ⟨rfl, by decide, pg_lay4, by decide +kernel, by decide +kernel⟩
set_option maxRecDepth 100000 in
theorem pg_lay5 : ∀ w ∈ u_ws "FixtureOrder$Suite" pg_T5 4, w ∈ pg_Ts := by
  show ∀ w ∈ [u_lay "FixtureOrder$Suite" pg_T5 0, u_lay "FixtureOrder$Suite" pg_T5 1, u_lay "FixtureOrder$Suite" pg_T5 2, u_lay "FixtureOrder$Suite" pg_T5 3], w ∈ pg_Ts
  exact List.forall_mem_cons.mpr ⟨tw_38, List.forall_mem_cons.mpr ⟨tw_40, List.forall_mem_cons.mpr ⟨tw_42, List.forall_mem_cons.mpr ⟨tw_44, fun _ h => absurd h List.not_mem_nil⟩⟩⟩⟩
theorem pg_okc5 : mj_okc pg_cl pg_ty pg_Ts 5 "FixtureOrder$Suite" pg_T5 4 := ⟨rfl, by decide, pg_lay5, by decide +kernel, by decide +kernel⟩
set_option maxRecDepth 100000 in
theorem pg_lay6 : ∀ w ∈ u_ws "FixtureOrder$Test" pg_T6 8, w ∈ pg_Ts := by
  show ∀ w ∈ [u_lay "FixtureOrder$Test" pg_T6 0, u_lay "FixtureOrder$Test" pg_T6 1, u_lay "FixtureOrder$Test" pg_T6 2, u_lay "FixtureOrder$Test" pg_T6 3, u_lay "FixtureOrder$Test" pg_T6 4, u_lay "FixtureOrder$Test" pg_T6 5, u_lay "FixtureOrder$Test" pg_T6 6, u_lay "FixtureOrder$Test" pg_T6 7], w ∈ pg_Ts
  exact List.forall_mem_cons.mpr ⟨tw_300, List.forall_mem_cons.mpr ⟨tw_302, List.forall_mem_cons.mpr ⟨tw_304, List.forall_mem_cons.mpr ⟨tw_306, List.forall_mem_cons.mpr ⟨tw_308, List.forall_mem_cons.mpr ⟨tw_310, List.forall_mem_cons.mpr ⟨tw_312, List.forall_mem_cons.mpr ⟨tw_314, fun _ h => absurd h List.not_mem_nil⟩⟩⟩⟩⟩⟩⟩⟩
theorem pg_okc6 : mj_okc pg_cl pg_ty pg_Ts 6 "FixtureOrder$Test" pg_T6 8 := ⟨rfl, by decide, pg_lay6, by decide +kernel, by decide +kernel⟩
set_option maxRecDepth 100000 in
theorem pg_lay7 : ∀ w ∈ u_ws "FixtureOrder" pg_T7 2, w ∈ pg_Ts := by
  show ∀ w ∈ [u_lay "FixtureOrder" pg_T7 0, u_lay "FixtureOrder" pg_T7 1], w ∈ pg_Ts
  exact List.forall_mem_cons.mpr ⟨tw_149, List.forall_mem_cons.mpr ⟨tw_151, fun _ h => absurd h List.not_mem_nil⟩⟩
theorem pg_okc7 : mj_okc pg_cl pg_ty pg_Ts 7 "FixtureOrder" pg_T7 2 := ⟨rfl, by decide, pg_lay7, by decide +kernel, by decide +kernel⟩
set_option maxRecDepth 100000 in
theorem pg_lay8 : ∀ w ∈ u_ws "FixtureOrderModel" pg_T8 44, w ∈ pg_Ts := by
  show ∀ w ∈ [u_lay "FixtureOrderModel" pg_T8 0, u_lay "FixtureOrderModel" pg_T8 1, u_lay "FixtureOrderModel" pg_T8 2, u_lay "FixtureOrderModel" pg_T8 3, u_lay "FixtureOrderModel" pg_T8 4, u_lay "FixtureOrderModel" pg_T8 5, u_lay "FixtureOrderModel" pg_T8 6, u_lay "FixtureOrderModel" pg_T8 7, u_lay "FixtureOrderModel" pg_T8 8, u_lay "FixtureOrderModel" pg_T8 9, u_lay "FixtureOrderModel" pg_T8 10, u_lay "FixtureOrderModel" pg_T8 11, u_lay "FixtureOrderModel" pg_T8 12, u_lay "FixtureOrderModel" pg_T8 13, u_lay "FixtureOrderModel" pg_T8 14, u_lay "FixtureOrderModel" pg_T8 15, u_lay "FixtureOrderModel" pg_T8 16, u_lay "FixtureOrderModel" pg_T8 17, u_lay "FixtureOrderModel" pg_T8 18, u_lay "FixtureOrderModel" pg_T8 19, u_lay "FixtureOrderModel" pg_T8 20, u_lay "FixtureOrderModel" pg_T8 21, u_lay "FixtureOrderModel" pg_T8 22, u_lay "FixtureOrderModel" pg_T8 23, u_lay "FixtureOrderModel" pg_T8 24, u_lay "FixtureOrderModel" pg_T8 25, u_lay "FixtureOrderModel" pg_T8 26, u_lay "FixtureOrderModel" pg_T8 27, u_lay "FixtureOrderModel" pg_T8 28, u_lay "FixtureOrderModel" pg_T8 29, u_lay "FixtureOrderModel" pg_T8 30, u_lay "FixtureOrderModel" pg_T8 31, u_lay "FixtureOrderModel" pg_T8 32, u_lay "FixtureOrderModel" pg_T8 33, u_lay "FixtureOrderModel" pg_T8 34, u_lay "FixtureOrderModel" pg_T8 35, u_lay "FixtureOrderModel" pg_T8 36, u_lay "FixtureOrderModel" pg_T8 37, u_lay "FixtureOrderModel" pg_T8 38, u_lay "FixtureOrderModel" pg_T8 39, u_lay "FixtureOrderModel" pg_T8 40, u_lay "FixtureOrderModel" pg_T8 41, u_lay "FixtureOrderModel" pg_T8 42, u_lay "FixtureOrderModel" pg_T8 43], w ∈ pg_Ts
  exact List.forall_mem_cons.mpr ⟨tw_586, List.forall_mem_cons.mpr ⟨tw_588, List.forall_mem_cons.mpr ⟨tw_590, List.forall_mem_cons.mpr ⟨tw_592, List.forall_mem_cons.mpr ⟨tw_594, List.forall_mem_cons.mpr ⟨tw_596, List.forall_mem_cons.mpr ⟨tw_598, List.forall_mem_cons.mpr ⟨tw_600, List.forall_mem_cons.mpr ⟨tw_602, List.forall_mem_cons.mpr ⟨tw_604, List.forall_mem_cons.mpr ⟨tw_606, List.forall_mem_cons.mpr ⟨tw_608, List.forall_mem_cons.mpr ⟨tw_610, List.forall_mem_cons.mpr ⟨tw_612, List.forall_mem_cons.mpr ⟨tw_614, List.forall_mem_cons.mpr ⟨tw_616, List.forall_mem_cons.mpr ⟨tw_618, List.forall_mem_cons.mpr ⟨tw_620, List.forall_mem_cons.mpr ⟨tw_622, List.forall_mem_cons.mpr ⟨tw_624, List.forall_mem_cons.mpr ⟨tw_626, List.forall_mem_cons.mpr ⟨tw_628, List.forall_mem_cons.mpr ⟨tw_630, List.forall_mem_cons.mpr ⟨tw_632, List.forall_mem_cons.mpr ⟨tw_634, List.forall_mem_cons.mpr ⟨tw_636, List.forall_mem_cons.mpr ⟨tw_638, List.forall_mem_cons.mpr ⟨tw_640, List.forall_mem_cons.mpr ⟨tw_642, List.forall_mem_cons.mpr ⟨tw_644, List.forall_mem_cons.mpr ⟨tw_646, List.forall_mem_cons.mpr ⟨tw_648, List.forall_mem_cons.mpr ⟨tw_650, List.forall_mem_cons.mpr ⟨tw_652, List.forall_mem_cons.mpr ⟨tw_654, List.forall_mem_cons.mpr ⟨tw_656, List.forall_mem_cons.mpr ⟨tw_658, List.forall_mem_cons.mpr ⟨tw_660, List.forall_mem_cons.mpr ⟨tw_662, List.forall_mem_cons.mpr ⟨tw_664, List.forall_mem_cons.mpr ⟨tw_666, List.forall_mem_cons.mpr ⟨tw_668, List.forall_mem_cons.mpr ⟨tw_670, List.forall_mem_cons.mpr ⟨tw_672, fun _ h => absurd h List.not_mem_nil⟩⟩⟩⟩⟩⟩⟩⟩⟩⟩⟩⟩⟩⟩⟩⟩⟩⟩⟩⟩⟩⟩⟩⟩⟩⟩⟩⟩⟩⟩⟩⟩⟩⟩⟩⟩⟩⟩⟩⟩⟩⟩⟩⟩
theorem pg_okc8 : mj_okc pg_cl pg_ty pg_Ts 8 "FixtureOrderModel" pg_T8 44 := ⟨rfl, by decide, pg_lay8, by decide +kernel, by decide +kernel⟩
theorem pg_m1 : mj_okm pg pg_Ts pg_yn pg_cc pg_rt 1 := ⟨by decide +kernel, tw_16, by decide, (fun _ => rfl), (fun h => absurd h (by decide)), (fun h => absurd h (by decide)), (fun h => absurd h (by decide))⟩
theorem pg_m2 : mj_okm pg pg_Ts pg_yn pg_cc pg_rt 2 := ⟨by decide +kernel, tw_157, by decide, (fun h => absurd h (by decide)), (fun _ => rfl), (fun h => absurd h (by decide)), (fun h => absurd h (by decide))⟩
theorem pg_m3 : mj_okm pg pg_Ts pg_yn pg_cc pg_rt 3 := ⟨by decide +kernel, tw_239, by decide, (fun h => absurd h (by decide)), (fun _ => rfl), (fun h => absurd h (by decide)), (fun h => absurd h (by decide))⟩
theorem pg_m4 : mj_okm pg pg_Ts pg_yn pg_cc pg_rt 4 := ⟨by decide +kernel, tw_269, by decide, (fun h => absurd h (by decide)), (fun _ => rfl), (fun h => absurd h (by decide)), (fun h => absurd h (by decide))⟩
theorem pg_m5 : mj_okm pg pg_Ts pg_yn pg_cc pg_rt 5 := ⟨by decide +kernel, tw_320, by decide, (fun h => absurd h (by decide)), (fun h => absurd h (by decide)), (fun _ => rfl), (fun h => absurd h (by decide))⟩
theorem pg_m6 : mj_okm pg pg_Ts pg_yn pg_cc pg_rt 6 := ⟨by decide +kernel, tw_329, by decide, (fun h => absurd h (by decide)), (fun h => absurd h (by decide)), (fun _ => rfl), (fun h => absurd h (by decide))⟩
theorem pg_m7 : mj_okm pg pg_Ts pg_yn pg_cc pg_rt 7 := ⟨by decide +kernel, tw_333, by decide, (fun h => absurd h (by decide)), (fun h => absurd h (by decide)), (fun _ => rfl), (fun h => absurd h (by decide))⟩
theorem pg_m8 : mj_okm pg pg_Ts pg_yn pg_cc pg_rt 8 := ⟨by decide +kernel, tw_337, by decide, (fun h => absurd h (by decide)), (fun _ => rfl), (fun h => absurd h (by decide)), (fun h => absurd h (by decide))⟩
theorem pg_m9 : mj_okm pg pg_Ts pg_yn pg_cc pg_rt 9 := ⟨by decide +kernel, tw_493, by decide, (fun h => absurd h (by decide)), (fun _ => rfl), (fun h => absurd h (by decide)), (fun h => absurd h (by decide))⟩
theorem pg_m10 : mj_okm pg pg_Ts pg_yn pg_cc pg_rt 10 := ⟨by decide +kernel, tw_497, by decide, (fun h => absurd h (by decide)), (fun _ => rfl), (fun h => absurd h (by decide)), (fun h => absurd h (by decide))⟩
theorem pg_m11 : mj_okm pg pg_Ts pg_yn pg_cc pg_rt 11 := ⟨by decide +kernel, tw_505, by decide, (fun h => absurd h (by decide)), (fun _ => rfl), (fun h => absurd h (by decide)), (fun h => absurd h (by decide))⟩
theorem pg_m12 : mj_okm pg pg_Ts pg_yn pg_cc pg_rt 12 := ⟨by decide +kernel, tw_517, by decide, (fun h => absurd h (by decide)), (fun _ => rfl), (fun h => absurd h (by decide)), (fun h => absurd h (by decide))⟩
theorem pg_m13 : mj_okm pg pg_Ts pg_yn pg_cc pg_rt 13 := ⟨by decide +kernel, tw_525, by decide, (fun h => absurd h (by decide)), (fun _ => rfl), (fun h => absurd h (by decide)), (fun h => absurd h (by decide))⟩
theorem pg_m14 : mj_okm pg pg_Ts pg_yn pg_cc pg_rt 14 := ⟨by decide +kernel, tw_534, by decide, (fun h => absurd h (by decide)), (fun _ => rfl), (fun h => absurd h (by decide)), (fun h => absurd h (by decide))⟩
theorem pg_m15 : mj_okm pg pg_Ts pg_yn pg_cc pg_rt 15 := ⟨by decide +kernel, tw_160, by decide, (fun h => absurd h (by decide)), (fun h => absurd h (by decide)), (fun _ => rfl), (fun h => absurd h (by decide))⟩
theorem pg_m16 : mj_okm pg pg_Ts pg_yn pg_cc pg_rt 16 := ⟨by decide +kernel, tw_540, by decide, (fun _ => rfl), (fun h => absurd h (by decide)), (fun h => absurd h (by decide)), (fun h => absurd h (by decide))⟩
theorem pg_m17 : mj_okm pg pg_Ts pg_yn pg_cc pg_rt 17 := ⟨by decide +kernel, tw_687, by decide, (fun h => absurd h (by decide)), (fun h => absurd h (by decide)), (fun _ => rfl), (fun h => absurd h (by decide))⟩
theorem pg_m18 : mj_okm pg pg_Ts pg_yn pg_cc pg_rt 18 := ⟨by decide +kernel, tw_707, by decide, (fun h => absurd h (by decide)), (fun h => absurd h (by decide)), (fun _ => rfl), (fun h => absurd h (by decide))⟩
theorem pg_m19 : mj_okm pg pg_Ts pg_yn pg_cc pg_rt 19 := ⟨by decide +kernel, tw_679, by decide, (fun h => absurd h (by decide)), (fun _ => rfl), (fun h => absurd h (by decide)), (fun h => absurd h (by decide))⟩
theorem pg_m20 : mj_okm pg pg_Ts pg_yn pg_cc pg_rt 20 := ⟨by decide +kernel, tw_691, by decide, (fun h => absurd h (by decide)), (fun h => absurd h (by decide)), (fun _ => rfl), (fun h => absurd h (by decide))⟩
theorem pg_m21 : mj_okm pg pg_Ts pg_yn pg_cc pg_rt 21 := ⟨by decide +kernel, tw_695, by decide, (fun h => absurd h (by decide)), (fun h => absurd h (by decide)), (fun _ => rfl), (fun h => absurd h (by decide))⟩
theorem pg_m22 : mj_okm pg pg_Ts pg_yn pg_cc pg_rt 22 := ⟨by decide +kernel, tw_683, by decide, (fun h => absurd h (by decide)), (fun _ => rfl), (fun h => absurd h (by decide)), (fun h => absurd h (by decide))⟩
theorem pg_m23 : mj_okm pg pg_Ts pg_yn pg_cc pg_rt 23 := ⟨by decide +kernel, tw_699, by decide, (fun h => absurd h (by decide)), (fun _ => rfl), (fun h => absurd h (by decide)), (fun h => absurd h (by decide))⟩
theorem pg_m24 : mj_okm pg pg_Ts pg_yn pg_cc pg_rt 24 := ⟨by decide +kernel, tw_703, by decide, (fun h => absurd h (by decide)), (fun h => absurd h (by decide)), (fun _ => rfl), (fun h => absurd h (by decide))⟩
theorem pg_m25 : mj_okm pg pg_Ts pg_yn pg_cc pg_rt 25 := ⟨by decide +kernel, tw_711, by decide, (fun h => absurd h (by decide)), (fun h => absurd h (by decide)), (fun _ => rfl), (fun h => absurd h (by decide))⟩
theorem pg_m26 : mj_okm pg pg_Ts pg_yn pg_cc pg_rt 26 := ⟨by decide +kernel, tw_715, by decide, (fun h => absurd h (by decide)), (fun h => absurd h (by decide)), (fun _ => rfl), (fun h => absurd h (by decide))⟩
theorem pg_m27 : mj_okm pg pg_Ts pg_yn pg_cc pg_rt 27 := ⟨by decide +kernel, tw_731, by decide, (fun h => absurd h (by decide)), (fun h => absurd h (by decide)), (fun _ => rfl), (fun h => absurd h (by decide))⟩
theorem pg_m28 : mj_okm pg pg_Ts pg_yn pg_cc pg_rt 28 := ⟨by decide +kernel, tw_727, by decide, (fun _ => rfl), (fun h => absurd h (by decide)), (fun h => absurd h (by decide)), (fun h => absurd h (by decide))⟩
theorem pg_m29 : mj_okm pg pg_Ts pg_yn pg_cc pg_rt 29 := ⟨by decide +kernel, tw_723, by decide, (fun _ => rfl), (fun h => absurd h (by decide)), (fun h => absurd h (by decide)), (fun h => absurd h (by decide))⟩
theorem pg_m30 : mj_okm pg pg_Ts pg_yn pg_cc pg_rt 30 := ⟨by decide +kernel, tw_719, by decide, (fun h => absurd h (by decide)), (fun _ => rfl), (fun h => absurd h (by decide)), (fun h => absurd h (by decide))⟩
theorem pg_m31 : mj_okm pg pg_Ts pg_yn pg_cc pg_rt 31 := ⟨by decide +kernel, tw_739, by decide, (fun h => absurd h (by decide)), (fun _ => rfl), (fun h => absurd h (by decide)), (fun h => absurd h (by decide))⟩
theorem pg_m32 : mj_okm pg pg_Ts pg_yn pg_cc pg_rt 32 := ⟨by decide +kernel, tw_735, by decide, (fun h => absurd h (by decide)), (fun _ => rfl), (fun h => absurd h (by decide)), (fun h => absurd h (by decide))⟩
theorem pg_m33 : mj_okm pg pg_Ts pg_yn pg_cc pg_rt 33 := ⟨by decide +kernel, tw_751, by decide, (fun h => absurd h (by decide)), (fun _ => rfl), (fun h => absurd h (by decide)), (fun h => absurd h (by decide))⟩
theorem pg_m34 : mj_okm pg pg_Ts pg_yn pg_cc pg_rt 34 := ⟨by decide +kernel, tw_771, by decide, (fun _ => rfl), (fun h => absurd h (by decide)), (fun h => absurd h (by decide)), (fun h => absurd h (by decide))⟩
theorem pg_m35 : mj_okm pg pg_Ts pg_yn pg_cc pg_rt 35 := ⟨by decide +kernel, tw_767, by decide, (fun _ => rfl), (fun h => absurd h (by decide)), (fun h => absurd h (by decide)), (fun h => absurd h (by decide))⟩
theorem pg_m36 : mj_okm pg pg_Ts pg_yn pg_cc pg_rt 36 := ⟨by decide +kernel, tw_763, by decide, (fun _ => rfl), (fun h => absurd h (by decide)), (fun h => absurd h (by decide)), (fun h => absurd h (by decide))⟩
theorem pg_m37 : mj_okm pg pg_Ts pg_yn pg_cc pg_rt 37 := ⟨by decide +kernel, tw_759, by decide, (fun _ => rfl), (fun h => absurd h (by decide)), (fun h => absurd h (by decide)), (fun h => absurd h (by decide))⟩
theorem pg_m38 : mj_okm pg pg_Ts pg_yn pg_cc pg_rt 38 := ⟨by decide +kernel, tw_775, by decide, (fun h => absurd h (by decide)), (fun _ => rfl), (fun h => absurd h (by decide)), (fun h => absurd h (by decide))⟩
theorem pg_m39 : mj_okm pg pg_Ts pg_yn pg_cc pg_rt 39 := ⟨by decide +kernel, tw_755, by decide, (fun _ => rfl), (fun h => absurd h (by decide)), (fun h => absurd h (by decide)), (fun h => absurd h (by decide))⟩
theorem pg_m40 : mj_okm pg pg_Ts pg_yn pg_cc pg_rt 40 := ⟨by decide +kernel, tw_747, by decide, (fun h => absurd h (by decide)), (fun _ => rfl), (fun h => absurd h (by decide)), (fun h => absurd h (by decide))⟩
theorem pg_m41 : mj_okm pg pg_Ts pg_yn pg_cc pg_rt 41 := ⟨by decide +kernel, tw_743, by decide, (fun h => absurd h (by decide)), (fun _ => rfl), (fun h => absurd h (by decide)), (fun h => absurd h (by decide))⟩
theorem pg_m42 : mj_okm pg pg_Ts pg_yn pg_cc pg_rt 42 := ⟨by decide +kernel, tw_779, by decide, (fun h => absurd h (by decide)), (fun _ => rfl), (fun h => absurd h (by decide)), (fun h => absurd h (by decide))⟩
theorem pg_m43 : mj_okm pg pg_Ts pg_yn pg_cc pg_rt 43 := ⟨by decide +kernel, tw_783, by decide, (fun h => absurd h (by decide)), (fun _ => rfl), (fun h => absurd h (by decide)), (fun h => absurd h (by decide))⟩
theorem pg_m44 : mj_okm pg pg_Ts pg_yn pg_cc pg_rt 44 := ⟨by decide +kernel, tw_787, by decide, (fun h => absurd h (by decide)), (fun _ => rfl), (fun h => absurd h (by decide)), (fun h => absurd h (by decide))⟩
theorem pg_m45 : mj_okm pg pg_Ts pg_yn pg_cc pg_rt 45 := ⟨by decide +kernel, tw_791, by decide, (fun h => absurd h (by decide)), (fun _ => rfl), (fun h => absurd h (by decide)), (fun h => absurd h (by decide))⟩
theorem pg_m46 : mj_okm pg pg_Ts pg_yn pg_cc pg_rt 46 := ⟨by decide +kernel, tw_103, by decide, (fun _ => rfl), (fun h => absurd h (by decide)), (fun h => absurd h (by decide)), (fun h => absurd h (by decide))⟩
theorem pg_m47 : mj_okm pg pg_Ts pg_yn pg_cc pg_rt 47 := ⟨by decide +kernel, tw_388, by decide, (fun _ => rfl), (fun h => absurd h (by decide)), (fun h => absurd h (by decide)), (fun h => absurd h (by decide))⟩
theorem pg_m48 : mj_okm pg pg_Ts pg_yn pg_cc pg_rt 48 := ⟨by decide +kernel, tw_460, by decide, (fun h => absurd h (by decide)), (fun _ => rfl), (fun h => absurd h (by decide)), (fun h => absurd h (by decide))⟩
theorem pg_m49 : mj_okm pg pg_Ts pg_yn pg_cc pg_rt 49 := ⟨by decide +kernel, tw_407, by decide, (fun h => absurd h (by decide)), (fun h => absurd h (by decide)), (fun _ => rfl), (fun h => absurd h (by decide))⟩
theorem pg_m50 : mj_okm pg pg_Ts pg_yn pg_cc pg_rt 50 := ⟨by decide +kernel, tw_477, by decide, (fun _ => rfl), (fun h => absurd h (by decide)), (fun h => absurd h (by decide)), (fun h => absurd h (by decide))⟩
theorem pg_m51 : mj_okm pg pg_Ts pg_yn pg_cc pg_rt 51 := ⟨by decide +kernel, tw_489, by decide, (fun _ => rfl), (fun h => absurd h (by decide)), (fun h => absurd h (by decide)), (fun h => absurd h (by decide))⟩
theorem pg_m52 : mj_okm pg pg_Ts pg_yn pg_cc pg_rt 52 := ⟨by decide +kernel, tw_513, by decide, (fun h => absurd h (by decide)), (fun _ => rfl), (fun h => absurd h (by decide)), (fun h => absurd h (by decide))⟩
theorem pg_m53 : mj_okm pg pg_Ts pg_yn pg_cc pg_rt 53 := ⟨by decide +kernel, tw_168, by decide, (fun _ => rfl), (fun h => absurd h (by decide)), (fun h => absurd h (by decide)), (fun h => absurd h (by decide))⟩
theorem pg_m54 : mj_okm pg pg_Ts pg_yn pg_cc pg_rt 54 := ⟨by decide +kernel, tw_251, by decide, (fun h => absurd h (by decide)), (fun h => absurd h (by decide)), (fun _ => rfl), (fun h => absurd h (by decide))⟩
theorem pg_m55 : mj_okm pg pg_Ts pg_yn pg_cc pg_rt 55 := ⟨by decide +kernel, tw_265, by decide, (fun _ => rfl), (fun h => absurd h (by decide)), (fun h => absurd h (by decide)), (fun h => absurd h (by decide))⟩
theorem pg_m56 : mj_okm pg pg_Ts pg_yn pg_cc pg_rt 56 := ⟨by decide +kernel, tw_411, by decide, (fun h => absurd h (by decide)), (fun h => absurd h (by decide)), (fun _ => rfl), (fun h => absurd h (by decide))⟩
theorem pg_m57 : mj_okm pg pg_Ts pg_yn pg_cc pg_rt 57 := ⟨by decide +kernel, tw_379, by decide, (fun _ => rfl), (fun h => absurd h (by decide)), (fun h => absurd h (by decide)), (fun h => absurd h (by decide))⟩
theorem pg_m58 : mj_okm pg pg_Ts pg_yn pg_cc pg_rt 58 := ⟨by decide +kernel, tw_472, by decide, (fun _ => rfl), (fun h => absurd h (by decide)), (fun h => absurd h (by decide)), (fun h => absurd h (by decide))⟩
theorem pg_m59 : mj_okm pg pg_Ts pg_yn pg_cc pg_rt 59 := ⟨by decide +kernel, tw_436, by decide, (fun _ => rfl), (fun h => absurd h (by decide)), (fun h => absurd h (by decide)), (fun h => absurd h (by decide))⟩
theorem pg_m60 : mj_okm pg pg_Ts pg_yn pg_cc pg_rt 60 := ⟨by decide +kernel, tw_468, by decide, (fun _ => rfl), (fun h => absurd h (by decide)), (fun h => absurd h (by decide)), (fun h => absurd h (by decide))⟩
theorem pg_m61 : mj_okm pg pg_Ts pg_yn pg_cc pg_rt 61 := ⟨by decide +kernel, tw_464, by decide, (fun h => absurd h (by decide)), (fun h => absurd h (by decide)), (fun _ => rfl), (fun h => absurd h (by decide))⟩
theorem pg_m62 : mj_okm pg pg_Ts pg_yn pg_cc pg_rt 62 := ⟨by decide +kernel, tw_448, by decide, (fun _ => rfl), (fun h => absurd h (by decide)), (fun h => absurd h (by decide)), (fun h => absurd h (by decide))⟩
theorem pg_m63 : mj_okm pg pg_Ts pg_yn pg_cc pg_rt 63 := ⟨by decide +kernel, tw_521, by decide, (fun h => absurd h (by decide)), (fun _ => rfl), (fun h => absurd h (by decide)), (fun h => absurd h (by decide))⟩
theorem pg_m64 : mj_okm pg pg_Ts pg_yn pg_cc pg_rt 64 := ⟨by decide +kernel, tw_87, by decide, (fun _ => rfl), (fun h => absurd h (by decide)), (fun h => absurd h (by decide)), (fun h => absurd h (by decide))⟩
theorem pg_m65 : mj_okm pg pg_Ts pg_yn pg_cc pg_rt 65 := ⟨by decide +kernel, tw_374, by decide, (fun _ => rfl), (fun h => absurd h (by decide)), (fun h => absurd h (by decide)), (fun h => absurd h (by decide))⟩
theorem pg_m66 : mj_okm pg pg_Ts pg_yn pg_cc pg_rt 66 := ⟨by decide +kernel, tw_440, by decide, (fun _ => rfl), (fun h => absurd h (by decide)), (fun h => absurd h (by decide)), (fun h => absurd h (by decide))⟩
theorem pg_m67 : mj_okm pg pg_Ts pg_yn pg_cc pg_rt 67 := ⟨by decide +kernel, tw_501, by decide, (fun h => absurd h (by decide)), (fun _ => rfl), (fun h => absurd h (by decide)), (fun h => absurd h (by decide))⟩
theorem pg_m68 : mj_okm pg pg_Ts pg_yn pg_cc pg_rt 68 := ⟨by decide +kernel, tw_57, by decide, (fun _ => rfl), (fun h => absurd h (by decide)), (fun h => absurd h (by decide)), (fun h => absurd h (by decide))⟩
theorem pg_m69 : mj_okm pg pg_Ts pg_yn pg_cc pg_rt 69 := ⟨by decide +kernel, tw_360, by decide, (fun h => absurd h (by decide)), (fun h => absurd h (by decide)), (fun _ => rfl), (fun h => absurd h (by decide))⟩
theorem pg_m70 : mj_okm pg pg_Ts pg_yn pg_cc pg_rt 70 := ⟨by decide +kernel, tw_247, by decide, (fun h => absurd h (by decide)), (fun h => absurd h (by decide)), (fun _ => rfl), (fun h => absurd h (by decide))⟩
theorem pg_m71 : mj_okm pg pg_Ts pg_yn pg_cc pg_rt 71 := ⟨by decide +kernel, tw_259, by decide, (fun _ => rfl), (fun h => absurd h (by decide)), (fun h => absurd h (by decide)), (fun h => absurd h (by decide))⟩
theorem pg_m72 : mj_okm pg pg_Ts pg_yn pg_cc pg_rt 72 := ⟨by decide +kernel, tw_432, by decide, (fun _ => rfl), (fun h => absurd h (by decide)), (fun h => absurd h (by decide)), (fun h => absurd h (by decide))⟩
theorem pg_m73 : mj_okm pg pg_Ts pg_yn pg_cc pg_rt 73 := ⟨by decide +kernel, tw_530, by decide, (fun h => absurd h (by decide)), (fun h => absurd h (by decide)), (fun h => absurd h (by decide)), (fun _ => ⟨_, rfl⟩)⟩
theorem pg_m74 : mj_okm pg pg_Ts pg_yn pg_cc pg_rt 74 := ⟨by decide +kernel, tw_353, by decide, (fun _ => rfl), (fun h => absurd h (by decide)), (fun h => absurd h (by decide)), (fun h => absurd h (by decide))⟩
theorem pg_m75 : mj_okm pg pg_Ts pg_yn pg_cc pg_rt 75 := ⟨by decide +kernel, tw_51, by decide, (fun _ => rfl), (fun h => absurd h (by decide)), (fun h => absurd h (by decide)), (fun h => absurd h (by decide))⟩
theorem pg_m76 : mj_okm pg pg_Ts pg_yn pg_cc pg_rt 76 := ⟨by decide +kernel, tw_509, by decide, (fun h => absurd h (by decide)), (fun h => absurd h (by decide)), (fun h => absurd h (by decide)), (fun _ => ⟨_, rfl⟩)⟩
theorem pg_m77 : mj_okm pg pg_Ts pg_yn pg_cc pg_rt 77 := ⟨by decide +kernel, tw_366, by decide, (fun _ => rfl), (fun h => absurd h (by decide)), (fun h => absurd h (by decide)), (fun h => absurd h (by decide))⟩
theorem pg_m78 : mj_okm pg pg_Ts pg_yn pg_cc pg_rt 78 := ⟨by decide +kernel, tw_370, by decide, (fun _ => rfl), (fun h => absurd h (by decide)), (fun h => absurd h (by decide)), (fun h => absurd h (by decide))⟩
theorem pg_m79 : mj_okm pg pg_Ts pg_yn pg_cc pg_rt 79 := ⟨by decide +kernel, tw_383, by decide, (fun _ => rfl), (fun h => absurd h (by decide)), (fun h => absurd h (by decide)), (fun h => absurd h (by decide))⟩
theorem pg_m80 : mj_okm pg pg_Ts pg_yn pg_cc pg_rt 80 := ⟨by decide +kernel, tw_398, by decide, (fun h => absurd h (by decide)), (fun _ => rfl), (fun h => absurd h (by decide)), (fun h => absurd h (by decide))⟩
theorem pg_m81 : mj_okm pg pg_Ts pg_yn pg_cc pg_rt 81 := ⟨by decide +kernel, tw_402, by decide, (fun h => absurd h (by decide)), (fun _ => rfl), (fun h => absurd h (by decide)), (fun h => absurd h (by decide))⟩
theorem pg_m82 : mj_okm pg pg_Ts pg_yn pg_cc pg_rt 82 := ⟨by decide +kernel, tw_415, by decide, (fun _ => rfl), (fun h => absurd h (by decide)), (fun h => absurd h (by decide)), (fun h => absurd h (by decide))⟩
theorem pg_m83 : mj_okm pg pg_Ts pg_yn pg_cc pg_rt 83 := ⟨by decide +kernel, tw_419, by decide, (fun _ => rfl), (fun h => absurd h (by decide)), (fun h => absurd h (by decide)), (fun h => absurd h (by decide))⟩
theorem pg_m84 : mj_okm pg pg_Ts pg_yn pg_cc pg_rt 84 := ⟨by decide +kernel, tw_423, by decide, (fun h => absurd h (by decide)), (fun _ => rfl), (fun h => absurd h (by decide)), (fun h => absurd h (by decide))⟩
theorem pg_m85 : mj_okm pg pg_Ts pg_yn pg_cc pg_rt 85 := ⟨by decide +kernel, tw_485, by decide, (fun h => absurd h (by decide)), (fun _ => rfl), (fun h => absurd h (by decide)), (fun h => absurd h (by decide))⟩
theorem pg_m86 : mj_okm pg pg_Ts pg_yn pg_cc pg_rt 86 := ⟨by decide +kernel, tw_452, by decide, (fun h => absurd h (by decide)), (fun _ => rfl), (fun h => absurd h (by decide)), (fun h => absurd h (by decide))⟩
theorem pg_m87 : mj_okm pg pg_Ts pg_yn pg_cc pg_rt 87 := ⟨by decide +kernel, tw_456, by decide, (fun h => absurd h (by decide)), (fun h => absurd h (by decide)), (fun _ => rfl), (fun h => absurd h (by decide))⟩
theorem pg_m88 : mj_okm pg pg_Ts pg_yn pg_cc pg_rt 88 := ⟨by decide +kernel, tw_428, by decide, (fun h => absurd h (by decide)), (fun _ => rfl), (fun h => absurd h (by decide)), (fun h => absurd h (by decide))⟩
theorem pg_m89 : mj_okm pg pg_Ts pg_yn pg_cc pg_rt 89 := ⟨by decide +kernel, tw_24, by decide, (fun _ => rfl), (fun h => absurd h (by decide)), (fun h => absurd h (by decide)), (fun h => absurd h (by decide))⟩
theorem pg_m90 : mj_okm pg pg_Ts pg_yn pg_cc pg_rt 90 := ⟨by decide +kernel, tw_243, by decide, (fun h => absurd h (by decide)), (fun h => absurd h (by decide)), (fun h => absurd h (by decide)), (fun _ => ⟨_, rfl⟩)⟩
theorem pg_m91 : mj_okm pg pg_Ts pg_yn pg_cc pg_rt 91 := ⟨by decide +kernel, tw_324, by decide, (fun h => absurd h (by decide)), (fun h => absurd h (by decide)), (fun h => absurd h (by decide)), (fun _ => ⟨_, rfl⟩)⟩
theorem pg_m92 : mj_okm pg pg_Ts pg_yn pg_cc pg_rt 92 := ⟨by decide +kernel, tw_164, by decide, (fun h => absurd h (by decide)), (fun _ => rfl), (fun h => absurd h (by decide)), (fun h => absurd h (by decide))⟩
theorem pg_m93 : mj_okm pg pg_Ts pg_yn pg_cc pg_rt 93 := ⟨by decide +kernel, tw_273, by decide, (fun h => absurd h (by decide)), (fun _ => rfl), (fun h => absurd h (by decide)), (fun h => absurd h (by decide))⟩
theorem pg_m94 : mj_okm pg pg_Ts pg_yn pg_cc pg_rt 94 := ⟨by decide +kernel, tw_255, by decide, (fun _ => rfl), (fun h => absurd h (by decide)), (fun h => absurd h (by decide)), (fun h => absurd h (by decide))⟩
theorem pg_m95 : mj_okm pg pg_Ts pg_yn pg_cc pg_rt 95 := ⟨by decide +kernel, tw_444, by decide, (fun _ => rfl), (fun h => absurd h (by decide)), (fun h => absurd h (by decide)), (fun h => absurd h (by decide))⟩
theorem pg_m96 : mj_okm pg pg_Ts pg_yn pg_cc pg_rt 96 := ⟨by decide +kernel, tw_341, by decide, (fun h => absurd h (by decide)), (fun _ => rfl), (fun h => absurd h (by decide)), (fun h => absurd h (by decide))⟩
theorem pg_m97 : mj_okm pg pg_Ts pg_yn pg_cc pg_rt 97 := ⟨by decide +kernel, tw_277, by decide, (fun _ => rfl), (fun h => absurd h (by decide)), (fun h => absurd h (by decide)), (fun h => absurd h (by decide))⟩
theorem pg_m98 : mj_okm pg pg_Ts pg_yn pg_cc pg_rt 98 := ⟨by decide +kernel, tw_349, by decide, (fun _ => rfl), (fun h => absurd h (by decide)), (fun h => absurd h (by decide)), (fun h => absurd h (by decide))⟩
theorem pg_m99 : mj_okm pg pg_Ts pg_yn pg_cc pg_rt 99 := ⟨by decide +kernel, tw_356, by decide, (fun _ => rfl), (fun h => absurd h (by decide)), (fun h => absurd h (by decide)), (fun h => absurd h (by decide))⟩
theorem pg_m100 : mj_okm pg pg_Ts pg_yn pg_cc pg_rt 100 := ⟨by decide +kernel, tw_345, by decide, (fun h => absurd h (by decide)), (fun _ => rfl), (fun h => absurd h (by decide)), (fun h => absurd h (by decide))⟩
theorem pg_m101 : mj_okm pg pg_Ts pg_yn pg_cc pg_rt 101 := ⟨by decide +kernel, tw_481, by decide, (fun h => absurd h (by decide)), (fun _ => rfl), (fun h => absurd h (by decide)), (fun h => absurd h (by decide))⟩
theorem pg_m102 : mj_okm pg pg_Ts pg_yn pg_cc pg_rt 102 := ⟨by decide +kernel, tw_394, by decide, (fun h => absurd h (by decide)), (fun _ => rfl), (fun h => absurd h (by decide)), (fun h => absurd h (by decide))⟩
theorem pg_m103 : mj_okm pg pg_Ts pg_yn pg_cc pg_rt 103 := ⟨by decide +kernel, tw_62, by decide, (fun h => absurd h (by decide)), (fun _ => rfl), (fun h => absurd h (by decide)), (fun h => absurd h (by decide))⟩
theorem pg_m104 : mj_okm pg pg_Ts pg_yn pg_cc pg_rt 104 := ⟨by decide +kernel, tw_391, by decide, (fun _ => rfl), (fun h => absurd h (by decide)), (fun h => absurd h (by decide)), (fun h => absurd h (by decide))⟩
theorem pg_dfl0 : ∀ (ad : Nat → Nat) (j : Nat), j < 7 → defaultValue (pg_ty 0 j) = vp_V ((pg.2.2.2.1 0).map (mj_cv ad)) j := by
  intro ad j hj
  rcases (show j = 0 ∨ j = 1 ∨ j = 2 ∨ j = 3 ∨ j = 4 ∨ j = 5 ∨ j = 6 by omega) with rfl | rfl | rfl | rfl | rfl | rfl | rfl <;> rfl
theorem pg_dfl1 : ∀ (ad : Nat → Nat) (j : Nat), j < 15 → defaultValue (pg_ty 1 j) = vp_V ((pg.2.2.2.1 1).map (mj_cv ad)) j := by
  intro ad j hj
  rcases (show j = 0 ∨ j = 1 ∨ j = 2 ∨ j = 3 ∨ j = 4 ∨ j = 5 ∨ j = 6 ∨ j = 7 ∨ j = 8 ∨ j = 9 ∨ j = 10 ∨ j = 11 ∨ j = 12 ∨ j = 13 ∨ j = 14 by omega) with rfl | rfl | rfl | rfl | rfl | rfl | rfl | rfl | rfl | rfl | rfl | rfl | rfl | rfl | rfl <;> rfl
theorem pg_dfl2 : ∀ (ad : Nat → Nat) (j : Nat), j < 2 → defaultValue (pg_ty 2 j) = vp_V ((pg.2.2.2.1 2).map (mj_cv ad)) j := by
  intro ad j hj
  rcases (show j = 0 ∨ j = 1 by omega) with rfl | rfl <;> rfl
theorem pg_dfl3 : ∀ (ad : Nat → Nat) (j : Nat), j < 4 → defaultValue (pg_ty 3 j) = vp_V ((pg.2.2.2.1 3).map (mj_cv ad)) j := by
  intro ad j hj
  rcases (show j = 0 ∨ j = 1 ∨ j = 2 ∨ j = 3 by omega) with rfl | rfl | rfl | rfl <;> rfl
theorem pg_dfl4 : ∀ (ad : Nat → Nat) (j : Nat), j < 5 → defaultValue (pg_ty 4 j) = vp_V ((pg.2.2.2.1 4).map (mj_cv ad)) j := by
  intro ad j hj
  rcases (show j = 0 ∨ j = 1 ∨ j = 2 ∨ j = 3 ∨ j = 4 by omega) with rfl | rfl | rfl | rfl | rfl <;> rfl
theorem pg_dfl5 : ∀ (ad : Nat → Nat) (j : Nat), j < 4 → defaultValue (pg_ty 5 j) = vp_V ((pg.2.2.2.1 5).map (mj_cv ad)) j := by
  intro ad j hj
  rcases (show j = 0 ∨ j = 1 ∨ j = 2 ∨ j = 3 by omega) with rfl | rfl | rfl | rfl <;> rfl
theorem pg_dfl6 : ∀ (ad : Nat → Nat) (j : Nat), j < 8 → defaultValue (pg_ty 6 j) = vp_V ((pg.2.2.2.1 6).map (mj_cv ad)) j := by
  intro ad j hj
  rcases (show j = 0 ∨ j = 1 ∨ j = 2 ∨ j = 3 ∨ j = 4 ∨ j = 5 ∨ j = 6 ∨ j = 7 by omega) with rfl | rfl | rfl | rfl | rfl | rfl | rfl | rfl <;> rfl
theorem pg_dfl7 : ∀ (ad : Nat → Nat) (j : Nat), j < 2 → defaultValue (pg_ty 7 j) = vp_V ((pg.2.2.2.1 7).map (mj_cv ad)) j := by
  intro ad j hj
  rcases (show j = 0 ∨ j = 1 by omega) with rfl | rfl <;> rfl
theorem pg_dfl8 : ∀ (ad : Nat → Nat) (j : Nat), j < 44 → defaultValue (pg_ty 8 j) = vp_V ((pg.2.2.2.1 8).map (mj_cv ad)) j := by
  intro ad j hj
  rcases (show j = 0 ∨ j = 1 ∨ j = 2 ∨ j = 3 ∨ j = 4 ∨ j = 5 ∨ j = 6 ∨ j = 7 ∨ j = 8 ∨ j = 9 ∨ j = 10 ∨ j = 11 ∨ j = 12 ∨ j = 13 ∨ j = 14 ∨ j = 15 ∨ j = 16 ∨ j = 17 ∨ j = 18 ∨ j = 19 ∨ j = 20 ∨ j = 21 ∨ j = 22 ∨ j = 23 ∨ j = 24 ∨ j = 25 ∨ j = 26 ∨ j = 27 ∨ j = 28 ∨ j = 29 ∨ j = 30 ∨ j = 31 ∨ j = 32 ∨ j = 33 ∨ j = 34 ∨ j = 35 ∨ j = 36 ∨ j = 37 ∨ j = 38 ∨ j = 39 ∨ j = 40 ∨ j = 41 ∨ j = 42 ∨ j = 43 by omega) with rfl | rfl | rfl | rfl | rfl | rfl | rfl | rfl | rfl | rfl | rfl | rfl | rfl | rfl | rfl | rfl | rfl | rfl | rfl | rfl | rfl | rfl | rfl | rfl | rfl | rfl | rfl | rfl | rfl | rfl | rfl | rfl | rfl | rfl | rfl | rfl | rfl | rfl | rfl | rfl | rfl | rfl | rfl | rfl <;> rfl
