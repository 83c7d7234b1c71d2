/-! the heap grows -/
set_option maxHeartbeats 4000000 in
set_option maxRecDepth 100000 in
theorem mj_st_le {P : mj_P} {call : Nat → List mj_V → mj_H → Option mj_R} (hc : ∀ (y : Nat) (as : List mj_V) (h : mj_H) (r : Option mj_V) (h' : mj_H), call y as h = some (r, h') → mj_le h h') {i : mj_I} {pc : Nat} {L : mj_L} {S : List mj_V} {h : mj_H} {x : mj_N} (hst : mj_st P call i pc L S h = some x) : mj_le h x.2.2.2 := by
  obtain ⟨ins, len, a, b⟩ := i
  have happ : ∀ q : mj_C, mj_le h (h ++ [q]) := fun q => ⟨by rw [List.length_append]; omega, by rw [mj_sz_app]; omega⟩
  cases ins with
  | iconst n => obtain rfl := Option.some.inj hst; exact mj_le.rf h
  | bipush n => obtain rfl := Option.some.inj hst; exact mj_le.rf h
  | sipush n => obtain rfl := Option.some.inj hst; exact mj_le.rf h
  | aconst_null => obtain rfl := Option.some.inj hst; exact mj_le.rf h
  | goto n => obtain rfl := Option.some.inj hst; exact mj_le.rf h
  | iload_n k => obtain ⟨v, hv, rfl⟩ := mj_li_inv (k := k.val) (n := 1) hst; exact mj_le.rf h
  | iload k => obtain ⟨v, hv, rfl⟩ := mj_li_inv (k := k) (n := 2) hst; exact mj_le.rf h
  | aload_n k => obtain ⟨v, hv, rfl⟩ := mj_la_inv (k := k.val) (n := 1) hst; exact mj_le.rf h
  | aload k => obtain ⟨v, hv, rfl⟩ := mj_la_inv (k := k) (n := 2) hst; exact mj_le.rf h
  | istore_n k => obtain ⟨v, S0, rfl, hn, rfl⟩ := mj_si_inv (k := k.val) (n := 1) hst; exact mj_le.rf h
  | istore k => obtain ⟨v, S0, rfl, hn, rfl⟩ := mj_si_inv (k := k) (n := 2) hst; exact mj_le.rf h
  | astore_n k => obtain ⟨v, S0, rfl, hn, rfl⟩ := mj_sa_inv (k := k.val) (n := 1) hst; exact mj_le.rf h
  | astore k => obtain ⟨v, S0, rfl, hn, rfl⟩ := mj_sa_inv (k := k) (n := 2) hst; exact mj_le.rf h
  | iinc k n =>
    have hst : (match L[k]? with
      | some (some (.inl x)) => mj_go (pc + 3) (L.set k (some (.inl (x + Int32.ofInt n)))) S h
      | _ => none) = some x := hst
    cases hv : L[k]? with
    | none => rw [hv] at hst; cases hst
    | some w =>
      rw [hv] at hst
      rcases w with _ | ⟨v | v⟩ <;> first | (cases hst; done) | skip
      obtain rfl := Option.some.inj hst
      exact mj_le.rf h
  | iadd => obtain ⟨u, v, S0, rfl, rfl⟩ := mj_b2_inv hst; exact mj_le.rf h
  | isub => obtain ⟨u, v, S0, rfl, rfl⟩ := mj_b2_inv hst; exact mj_le.rf h
  | imul => obtain ⟨u, v, S0, rfl, rfl⟩ := mj_b2_inv hst; exact mj_le.rf h
  | iand => obtain ⟨u, v, S0, rfl, rfl⟩ := mj_b2_inv hst; exact mj_le.rf h
  | ior => obtain ⟨u, v, S0, rfl, rfl⟩ := mj_b2_inv hst; exact mj_le.rf h
  | ixor => obtain ⟨u, v, S0, rfl, rfl⟩ := mj_b2_inv hst; exact mj_le.rf h
  | ishl => obtain ⟨u, v, S0, rfl, rfl⟩ := mj_b2_inv hst; exact mj_le.rf h
  | ishr => obtain ⟨u, v, S0, rfl, rfl⟩ := mj_b2_inv hst; exact mj_le.rf h
  | idiv => obtain ⟨u, v, S0, rfl, hne, rfl⟩ := mj_d2_inv hst; exact mj_le.rf h
  | irem => obtain ⟨u, v, S0, rfl, hne, rfl⟩ := mj_d2_inv hst; exact mj_le.rf h
  | dup =>
    rcases S with _ | ⟨v, S⟩ <;> first | (cases hst; done) | skip
    obtain rfl := Option.some.inj hst
    exact mj_le.rf h
  | pop =>
    rcases S with _ | ⟨v, S⟩ <;> first | (cases hst; done) | skip
    obtain rfl := Option.some.inj hst
    exact mj_le.rf h
  | dup_x1 =>
    rcases S with _ | ⟨v, _ | ⟨w, S⟩⟩ <;> first | (cases hst; done) | skip
    obtain rfl := Option.some.inj hst
    exact mj_le.rf h
  | dup2 =>
    rcases S with _ | ⟨v, _ | ⟨w, S⟩⟩ <;> first | (cases hst; done) | skip
    obtain rfl := Option.some.inj hst
    exact mj_le.rf h
  | ifCond q o => cases q <;> (obtain ⟨v, S0, rfl, ⟨hq, rfl⟩ | ⟨hq, rfl⟩⟩ := mj_c1_inv (t := a) hst <;> exact mj_le.rf h)
  | if_icmp q o => cases q <;> (obtain ⟨u, v, S0, rfl, ⟨hq, rfl⟩ | ⟨hq, rfl⟩⟩ := mj_c2_inv (t := a) hst <;> exact mj_le.rf h)
  | if_acmp q o => cases q <;> (obtain ⟨u, v, S0, rfl, ⟨hq, rfl⟩ | ⟨hq, rfl⟩⟩ := mj_ca_inv (t := a) hst <;> exact mj_le.rf h)
  | ifnull o => obtain ⟨v, S0, rfl, ⟨hq, rfl⟩ | ⟨hq, rfl⟩⟩ := mj_cn_inv (t := a) (q := true) hst <;> exact mj_le.rf h
  | ifnonnull o => obtain ⟨v, S0, rfl, ⟨hq, rfl⟩ | ⟨hq, rfl⟩⟩ := mj_cn_inv (t := a) (q := false) hst <;> exact mj_le.rf h
  | tableswitch df lo hi os => obtain ⟨v, S0, rfl, h0, rfl⟩ := mj_sw_inv (o := mj_tbl df lo hi os) hst; exact mj_le.rf h
  | getfield ix => obtain ⟨q, v, S0, rfl, hgf, rfl⟩ := mj_get_inv (c := a) (k := b) hst; exact mj_le.rf h
  | putfield ix =>
    obtain ⟨q, v, S0, h', rfl, hz, hpf, rfl⟩ := mj_put_inv (c := a) (k := b) (z := P.2.2.2.2.1) hst
    obtain ⟨e1, e2⟩ := mj_pf_le hpf
    exact ⟨Nat.le_of_eq e1.symm, Nat.le_of_eq e2.symm⟩
  | new ix => obtain rfl := Option.some.inj hst; exact happ _
  | newarray at0 =>
    cases at0 with
    | int => obtain ⟨n, S0, rfl, hn0, hn1, rfl⟩ := mj_mk_inv (t := 100) (n := 2) (v := .inl 0) hst; exact happ _
    | boolean => obtain ⟨n, S0, rfl, hn0, hn1, rfl⟩ := mj_mk_inv (t := 200) (n := 2) (v := .inl 0) hst; exact happ _
    | _ => cases hst
  | anewarray ix => obtain ⟨n, S0, rfl, hn0, hn1, rfl⟩ := mj_mk_inv (t := 101 + a) (n := 3) (v := .inr none) hst; exact happ _
  | arraylength => obtain ⟨q, n, S0, rfl, hln, rfl⟩ := mj_al_inv hst; exact mj_le.rf h
  | iaload => obtain ⟨j, q, v, S0, rfl, hj, hgf, rfl⟩ := mj_ald_inv hst; exact mj_le.rf h
  | baload => obtain ⟨j, q, v, S0, rfl, hj, hgf, rfl⟩ := mj_bld_inv hst; exact mj_le.rf h
  | bastore =>
    obtain ⟨v, j, q, S0, h', rfl, hj, hv01, hpf, rfl⟩ := mj_bst_inv hst
    obtain ⟨e1, e2⟩ := mj_pf_le hpf
    exact ⟨Nat.le_of_eq e1.symm, Nat.le_of_eq e2.symm⟩
  | aaload => obtain ⟨j, q, v, S0, rfl, hj, hgf, rfl⟩ := mj_rld_inv (c := a) hst; exact mj_le.rf h
  | iastore =>
    obtain ⟨v, j, q, S0, h', rfl, hj, hpf, rfl⟩ := mj_ast_inv hst
    obtain ⟨e1, e2⟩ := mj_pf_le hpf
    exact ⟨Nat.le_of_eq e1.symm, Nat.le_of_eq e2.symm⟩
  | aastore =>
    obtain ⟨v, j, q, S0, h', rfl, hj, htv, hpf, rfl⟩ := mj_rst_inv (c := a) hst
    obtain ⟨e1, e2⟩ := mj_pf_le hpf
    exact ⟨Nat.le_of_eq e1.symm, Nat.le_of_eq e2.symm⟩
  | invokestatic ix =>
    have hst : (if a = 9998 then mj_b3 (fun x y => if y < x then y else x) pc L S h else if a = 9997 then mj_b3 (fun x y => if x < y then y else x) pc L S h else mj_inv call a b pc L S h) = some x := hst
    by_cases h1 : a = 9998
    · rw [if_pos h1] at hst
      obtain ⟨u, v, S0, rfl, -, rfl⟩ := mj_b3_inv hst
      exact mj_le.rf h
    · rw [if_neg h1] at hst
      by_cases h2 : a = 9997
      · rw [if_pos h2] at hst
        obtain ⟨u, v, S0, rfl, -, rfl⟩ := mj_b3_inv hst
        exact mj_le.rf h
      · rw [if_neg h2] at hst
        obtain ⟨r, h', hn1, hn2, hcall, rfl⟩ := mj_inv_inv (y := a) (n := b) hst
        exact hc _ _ _ _ _ hcall
  | invokevirtual ix =>
    have hst : (if mj_rcv (P.2.2.2.2.2 a) (b - 1) S h = true then mj_inv call a b pc L S h else none) = some x := hst
    by_cases hrv : mj_rcv (P.2.2.2.2.2 a) (b - 1) S h = true
    · rw [if_pos hrv] at hst
      obtain ⟨r, h', hn1, hn2, hcall, rfl⟩ := mj_inv_inv (y := a) (n := b) hst
      exact hc _ _ _ _ _ hcall
    · rw [if_neg hrv] at hst; cases hst
  | invokespecial ix =>
    have hst : (if a = 9999 then mj_oin pc L S h else if mj_rcv (P.2.2.2.2.2 a) (b - 1) S h = true then mj_inv call a b pc L S h else none) = some x := hst
    by_cases ha : a = 9999
    · rw [if_pos ha] at hst
      rcases S with _ | ⟨v | _ | q, S⟩ <;> first | (cases hst; done) | skip
      by_cases h8 : S.length ≤ 8
      · have ex : (pc + 3, L, S, h) = x := Option.some.inj ((if_pos h8).symm.trans hst)
        subst ex
        exact mj_le.rf h
      · exact absurd ((if_neg h8).symm.trans hst) (fun q => by cases q)
    · rw [if_neg ha] at hst
      by_cases hrv : mj_rcv (P.2.2.2.2.2 a) (b - 1) S h = true
      · rw [if_pos hrv] at hst
        obtain ⟨r, h', hn1, hn2, hcall, rfl⟩ := mj_inv_inv (y := a) (n := b) hst
        exact hc _ _ _ _ _ hcall
      · rw [if_neg hrv] at hst; cases hst
  | _ => cases hst
theorem mj_rt_inv {rk : Nat} {i : Instr} {S : List mj_V} {h : mj_H} {r : mj_R} (e : mj_rt rk i S h = some r) : (∃ v, i = .ireturn ∧ S = [.inl v] ∧ (rk = 1 ∨ (rk = 2 ∧ (v = 0 ∨ v = 1))) ∧ r = (some (.inl v), h)) ∨ (∃ v, i = .areturn ∧ S = [.inr v] ∧ rk = 3 ∧ r = (some (.inr v), h)) ∨ (i = .return_ ∧ S = [] ∧ rk = 0 ∧ r = (none, h)) := by
  cases i with
  | ireturn =>
    rcases S with _ | ⟨v | v, _ | ⟨w, S⟩⟩ <;> first | (cases e; done) | skip
    by_cases hq : rk = 1 ∨ (rk = 2 ∧ (v = 0 ∨ v = 1))
    · exact Or.inl ⟨v, rfl, rfl, hq, (Option.some.inj ((if_pos hq).symm.trans e)).symm⟩
    · exact absurd ((if_neg hq).symm.trans e) (fun q => by cases q)
  | areturn =>
    rcases S with _ | ⟨v | v, _ | ⟨w, S⟩⟩ <;> first | (cases e; done) | skip
    by_cases hq : rk = 3
    · exact Or.inr (Or.inl ⟨v, rfl, rfl, hq, (Option.some.inj ((if_pos hq).symm.trans e)).symm⟩)
    · exact absurd ((if_neg hq).symm.trans e) (fun q => by cases q)
  | return_ =>
    rcases S with _ | ⟨w, S⟩ <;> first | (cases e; done) | skip
    by_cases hq : rk = 0
    · exact Or.inr (Or.inr ⟨rfl, rfl, hq, (Option.some.inj ((if_pos hq).symm.trans e)).symm⟩)
    · exact absurd ((if_neg hq).symm.trans e) (fun q => by cases q)
  | _ => cases e
theorem mj_it_le {P : mj_P} {call : Nat → List mj_V → mj_H → Option mj_R} (hc : ∀ (y : Nat) (as : List mj_V) (h : mj_H) (r : Option mj_V) (h' : mj_H), call y as h = some (r, h') → mj_le h h') {M : Nat} : ∀ (n : Nat) (x : mj_N) (r : mj_R), mj_it (mj_stp P call M) n x = some r → mj_le x.2.2.2 r.2 := by
  intro n
  induction n with
  | zero => intro x r e; cases e
  | succ n ih =>
    intro x r e
    simp only [mj_it] at e
    unfold mj_stp at e
    cases hi : P.1 M x.1 with
    | none => rw [hi] at e; cases e
    | some i =>
      rw [hi] at e
      by_cases hr : mj_ir i.1 = true
      · simp only [if_pos hr] at e
        cases hq : mj_rt (P.2.2.1 M) i.1 x.2.2.1 x.2.2.2 with
        | none => rw [hq] at e; cases e
        | some q =>
          rw [hq] at e
          have e : q = r := Option.some.inj e
          subst e
          rcases mj_rt_inv hq with ⟨v, -, -, -, rfl⟩ | ⟨v, -, -, -, rfl⟩ | ⟨-, -, -, rfl⟩ <;> exact mj_le.rf _
      · simp only [if_neg hr] at e
        cases hq : mj_st P call i x.1 x.2.1 x.2.2.1 x.2.2.2 with
        | none => rw [hq] at e; cases e
        | some y =>
          rw [hq] at e
          exact (mj_st_le hc hq).tr (ih y r e)
