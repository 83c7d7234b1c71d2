/-- instructions that leave the heap -/
def mj_g1 (i : Instr) : Bool := match i with
  | .iconst _ => true
  | .bipush _ => true
  | .sipush _ => true
  | .aconst_null => true
  | .iload_n _ => true
  | .iload _ => true
  | .aload_n _ => true
  | .aload _ => true
  | .istore_n _ => true
  | .istore _ => true
  | .astore_n _ => true
  | .astore _ => true
  | .iinc _ _ => true
  | .iadd => true
  | .isub => true
  | .imul => true
  | .iand => true
  | .ior => true
  | .ixor => true
  | .ishl => true
  | .ishr => true
  | .idiv => true
  | .irem => true
  | .dup => true
  | .pop => true
  | .dup_x1 => true
  | .dup2 => true
  | .ifCond _ _ => true
  | .if_icmp _ _ => true
  | .if_acmp _ _ => true
  | .ifnull _ => true
  | .ifnonnull _ => true
  | .goto _ => true
  | .tableswitch _ _ _ _ => true
  | _ => false
section STEP1
variable {p : Program} {l : Launch} {e : Env} {R : Room} {s : State} {m : MethodId} {args : Array Value} {below : List Frame} {meth : Method} {c : Code} {H : Heap} {locs : List Loc} {cells slots : Nat} {Q : State → Prop}
variable {P : mj_P} {cl : List vw_C} {tyf : Nat → Nat → FieldType} {Ts Nw : List Cond} {ak : List Nat} {yn : Nat → MethodName} {cc : Nat → ByteArray} {rt : Nat → Option FieldType}
set_option maxHeartbeats 4000000 in
set_option maxRecDepth 100000 in
theorem mj_step1 {M pc nL : Nat} {ad : Nat → Nat} {i : mj_I} {L : mj_L} {S : List mj_V} {h : mj_H} {x : mj_N} {call : Nat → List mj_V → mj_H → Option mj_R} {ls : Array Slot} (hx : p.tables.exec = Jvm.exec) (hb : c.code = cc M) (hl : mj_LO ad ls nL L) (hadi : ∀ x y, ad x = ad y → x = y) (hok : mj_oki P cl tyf Ts Nw ak yn cc rt M pc i) (hst : mj_st P call i pc L S h = some x) (hg : mj_g1 i.1 = true) :
    x.2.2.2 = h ∧ ((∀ ls', mj_LO ad ls' nL x.2.1 → W p l e R s m args below meth c H locs cells slots Q (F0 m x.1 ls' (x.2.2.1.map (mj_cv ad)))) → W p l e R s m args below meth c H locs cells slots Q (F0 m pc ls (S.map (mj_cv ad)))) := by
  obtain ⟨ins, len, a, b⟩ := i
  obtain ⟨hd, hk⟩ := hok
  have hadm : ∀ u v : Option Nat, u.map ad = v.map ad → u = v := by
    intro u v huv
    cases u <;> cases v <;> simp at huv <;> first | rfl | (rw [hadi _ _ huv])
  cases ins with
  | iconst n =>
    obtain rfl := Option.some.inj hst
    exact ⟨rfl, fun kk => lv_iconst hx hb hd rfl (kk ls hl)⟩
  | bipush n =>
    obtain rfl := Option.some.inj hst
    exact ⟨rfl, fun kk => lv_bipush hx hb hd rfl (kk ls hl)⟩
  | sipush n =>
    obtain rfl := Option.some.inj hst
    exact ⟨rfl, fun kk => lv_sipush hx hb hd rfl (kk ls hl)⟩
  | aconst_null =>
    obtain rfl := Option.some.inj hst
    exact ⟨rfl, fun kk => lv_null hx hb hd (kk ls hl)⟩
  | iload_n k =>
    obtain ⟨v, hv, rfl⟩ := mj_li_inv (k := k.val) (n := 1) hst
    exact ⟨rfl, fun kk => lv_iload_n hx hb hd rfl (hl.get hv) (kk ls hl)⟩
  | iload k =>
    obtain ⟨v, hv, rfl⟩ := mj_li_inv (k := k) (n := 2) hst
    exact ⟨rfl, fun kk => lv_iload hx hb hd (hl.get hv) (kk ls hl)⟩
  | aload_n k =>
    obtain ⟨v, hv, rfl⟩ := mj_la_inv (k := k.val) (n := 1) hst
    refine ⟨rfl, fun kk => ?_⟩
    cases v with
    | none => exact lv_aload_nN hx hb hd rfl (hl.get hv) (kk ls hl)
    | some v => exact lv_aload_n hx hb hd rfl (hl.get hv) (kk ls hl)
  | aload k =>
    obtain ⟨v, hv, rfl⟩ := mj_la_inv (k := k) (n := 2) hst
    refine ⟨rfl, fun kk => ?_⟩
    cases v with
    | none => exact lv_aloadN hx hb hd (hl.get hv) (kk ls hl)
    | some v => exact lv_aload hx hb hd (hl.get hv) (kk ls hl)
  | istore_n k =>
    obtain ⟨v, S0, rfl, hn, rfl⟩ := mj_si_inv (k := k.val) (n := 1) hst
    exact ⟨rfl, fun kk => lv_istore_n hx hb hd rfl hl.1 (by rw [← hl.2]; exact hn) rfl (fun ls' h' => kk ls' (mj_LO.set (v := .inl v) hl h'))⟩
  | istore k =>
    obtain ⟨v, S0, rfl, hn, rfl⟩ := mj_si_inv (k := k) (n := 2) hst
    exact ⟨rfl, fun kk => lv_istore hx hb hd hl.1 (by rw [← hl.2]; exact hn) rfl (fun ls' h' => kk ls' (mj_LO.set (v := .inl v) hl h'))⟩
  | astore_n k =>
    obtain ⟨v, S0, rfl, hn, rfl⟩ := mj_sa_inv (k := k.val) (n := 1) hst
    refine ⟨rfl, fun kk => ?_⟩
    cases v with
    | none => exact lv_astore_nN hx hb hd rfl hl.1 (by rw [← hl.2]; exact hn) rfl (fun ls' h' => kk ls' (mj_LO.set (v := .inr none) hl h'))
    | some v => exact lv_astore_n hx hb hd rfl hl.1 (by rw [← hl.2]; exact hn) rfl (fun ls' h' => kk ls' (mj_LO.set (v := .inr (some v)) hl h'))
  | astore k =>
    obtain ⟨v, S0, rfl, hn, rfl⟩ := mj_sa_inv (k := k) (n := 2) hst
    refine ⟨rfl, fun kk => ?_⟩
    cases v with
    | none => exact lv_astoreN hx hb hd hl.1 (by rw [← hl.2]; exact hn) rfl (fun ls' h' => kk ls' (mj_LO.set (v := .inr none) hl h'))
    | some v => exact lv_astore hx hb hd hl.1 (by rw [← hl.2]; exact hn) rfl (fun ls' h' => kk ls' (mj_LO.set (v := .inr (some v)) hl h'))
  | iinc k n =>
    have hst : (match L[k]? with
      | some (some (.inl x)) => mj_go (pc + 3) (L.set k (some (.inl (x + Int32.ofInt n)))) S h
      | _ => none) = some x := hst
    cases hv : L[k]? with
    | none => rw [hv] at hst; cases hst
    | some w =>
      rw [hv] at hst
      rcases w with _ | ⟨v | v⟩ <;> first | (cases hst; done) | skip
      obtain rfl := Option.some.inj hst
      obtain ⟨kq, hkq⟩ := List.getElem?_of_mem ((mj_lo_mem (ad := ad) L 0).mpr ⟨k, .inl v, hv, rfl⟩)
      rw [Nat.zero_add] at hkq
      exact ⟨rfl, fun kk => lv_iinc hx hb hd hl.1 hkq rfl (by rw [← hl.2]; exact (List.getElem?_eq_some_iff.mp hv).1) rfl (fun ls' h' => kk ls' (mj_LO.set (v := .inl (v + Int32.ofInt n)) hl h'))⟩
  | iadd =>
    obtain ⟨u, v, S0, rfl, rfl⟩ := mj_b2_inv hst
    exact ⟨rfl, fun kk => lv_iadd hx hb hd (kk ls hl)⟩
  | isub =>
    obtain ⟨u, v, S0, rfl, rfl⟩ := mj_b2_inv hst
    exact ⟨rfl, fun kk => lv_isub hx hb hd (kk ls hl)⟩
  | imul =>
    obtain ⟨u, v, S0, rfl, rfl⟩ := mj_b2_inv hst
    exact ⟨rfl, fun kk => lv_imul hx hb hd (kk ls hl)⟩
  | iand =>
    obtain ⟨u, v, S0, rfl, rfl⟩ := mj_b2_inv hst
    exact ⟨rfl, fun kk => lv_iand hx hb hd (kk ls hl)⟩
  | ior =>
    obtain ⟨u, v, S0, rfl, rfl⟩ := mj_b2_inv hst
    exact ⟨rfl, fun kk => lv_ior hx hb hd (kk ls hl)⟩
  | ixor =>
    obtain ⟨u, v, S0, rfl, rfl⟩ := mj_b2_inv hst
    exact ⟨rfl, fun kk => lv_ixor hx hb hd (kk ls hl)⟩
  | ishl =>
    obtain ⟨u, v, S0, rfl, rfl⟩ := mj_b2_inv hst
    exact ⟨rfl, fun kk => lv_ishl hx hb hd (kk ls hl)⟩
  | ishr =>
    obtain ⟨u, v, S0, rfl, rfl⟩ := mj_b2_inv hst
    exact ⟨rfl, fun kk => lv_ishr hx hb hd (kk ls hl)⟩
  | idiv =>
    obtain ⟨u, v, S0, rfl, hne, rfl⟩ := mj_d2_inv hst
    exact ⟨rfl, fun kk => lv_idiv hx hb hd hne (kk ls hl)⟩
  | irem =>
    obtain ⟨u, v, S0, rfl, hne, rfl⟩ := mj_d2_inv hst
    exact ⟨rfl, fun kk => lv_irem hx hb hd hne (kk ls hl)⟩
  | dup =>
    rcases S with _ | ⟨v, S⟩ <;> first | (cases hst; done) | skip
    obtain rfl := Option.some.inj hst
    exact ⟨rfl, fun kk => lv_dup hx hb hd (mj_cv_cat ad v) (kk ls hl)⟩
  | pop =>
    rcases S with _ | ⟨v, S⟩ <;> first | (cases hst; done) | skip
    obtain rfl := Option.some.inj hst
    exact ⟨rfl, fun kk => lv_pop hx hb hd (mj_cv_cat ad v) (kk ls hl)⟩
  | dup_x1 =>
    rcases S with _ | ⟨v, _ | ⟨w, S⟩⟩ <;> first | (cases hst; done) | skip
    obtain rfl := Option.some.inj hst
    exact ⟨rfl, fun kk => lv_dup_x1 hx hb hd (mj_cv_cat ad v) (mj_cv_cat ad w) (kk ls hl)⟩
  | dup2 =>
    rcases S with _ | ⟨v, _ | ⟨w, S⟩⟩ <;> first | (cases hst; done) | skip
    obtain rfl := Option.some.inj hst
    exact ⟨rfl, fun kk => lv_dup2_11 hx hb hd (mj_cv_cat ad v) (mj_cv_cat ad w) (kk ls hl)⟩
  | ifCond q o =>
    cases q with
    | eq =>
      obtain ⟨v, S0, rfl, ⟨hq, rfl⟩ | ⟨hq, rfl⟩⟩ := mj_c1_inv (t := a) hst
      · exact ⟨rfl, fun kk => lv_if_eq (tgt := a) hx hb hd hk (fun _ => kk ls hl) (fun c1 => absurd (of_decide_eq_true hq) c1)⟩
      · exact ⟨rfl, fun kk => lv_if_eq (tgt := a) hx hb hd hk (fun c1 => absurd c1 (of_decide_eq_false hq)) (fun _ => kk ls hl)⟩
    | ne =>
      obtain ⟨v, S0, rfl, ⟨hq, rfl⟩ | ⟨hq, rfl⟩⟩ := mj_c1_inv (t := a) hst
      · exact ⟨rfl, fun kk => lv_if_ne (tgt := a) hx hb hd hk (fun _ => kk ls hl) (fun c1 => absurd c1 (of_decide_eq_true hq))⟩
      · exact ⟨rfl, fun kk => lv_if_ne (tgt := a) hx hb hd hk (fun c1 => absurd c1 (of_decide_eq_false hq)) (fun _ => kk ls hl)⟩
    | lt =>
      obtain ⟨v, S0, rfl, ⟨hq, rfl⟩ | ⟨hq, rfl⟩⟩ := mj_c1_inv (t := a) hst
      · exact ⟨rfl, fun kk => lv_if_lt (tgt := a) hx hb hd hk (fun _ => kk ls hl) (fun c1 => absurd (of_decide_eq_true hq) c1)⟩
      · exact ⟨rfl, fun kk => lv_if_lt (tgt := a) hx hb hd hk (fun c1 => absurd c1 (of_decide_eq_false hq)) (fun _ => kk ls hl)⟩
    | ge =>
      obtain ⟨v, S0, rfl, ⟨hq, rfl⟩ | ⟨hq, rfl⟩⟩ := mj_c1_inv (t := a) hst
      · exact ⟨rfl, fun kk => lv_if_ge (tgt := a) hx hb hd hk (fun _ => kk ls hl) (fun c1 => absurd (of_decide_eq_true hq) c1)⟩
      · exact ⟨rfl, fun kk => lv_if_ge (tgt := a) hx hb hd hk (fun c1 => absurd c1 (of_decide_eq_false hq)) (fun _ => kk ls hl)⟩
    | gt =>
      obtain ⟨v, S0, rfl, ⟨hq, rfl⟩ | ⟨hq, rfl⟩⟩ := mj_c1_inv (t := a) hst
      · exact ⟨rfl, fun kk => lv_if_gt (tgt := a) hx hb hd hk (fun _ => kk ls hl) (fun c1 => absurd (of_decide_eq_true hq) c1)⟩
      · exact ⟨rfl, fun kk => lv_if_gt (tgt := a) hx hb hd hk (fun c1 => absurd c1 (of_decide_eq_false hq)) (fun _ => kk ls hl)⟩
    | le =>
      obtain ⟨v, S0, rfl, ⟨hq, rfl⟩ | ⟨hq, rfl⟩⟩ := mj_c1_inv (t := a) hst
      · exact ⟨rfl, fun kk => lv_if_le (tgt := a) hx hb hd hk (fun _ => kk ls hl) (fun c1 => absurd (of_decide_eq_true hq) c1)⟩
      · exact ⟨rfl, fun kk => lv_if_le (tgt := a) hx hb hd hk (fun c1 => absurd c1 (of_decide_eq_false hq)) (fun _ => kk ls hl)⟩
  | if_icmp q o =>
    cases q with
    | eq =>
      obtain ⟨u, v, S0, rfl, ⟨hq, rfl⟩ | ⟨hq, rfl⟩⟩ := mj_c2_inv (t := a) hst
      · exact ⟨rfl, fun kk => lv_icmp_eq (tgt := a) hx hb hd hk (fun _ => kk ls hl) (fun c1 => absurd (of_decide_eq_true hq) c1)⟩
      · exact ⟨rfl, fun kk => lv_icmp_eq (tgt := a) hx hb hd hk (fun c1 => absurd c1 (of_decide_eq_false hq)) (fun _ => kk ls hl)⟩
    | ne =>
      obtain ⟨u, v, S0, rfl, ⟨hq, rfl⟩ | ⟨hq, rfl⟩⟩ := mj_c2_inv (t := a) hst
      · exact ⟨rfl, fun kk => lv_icmp_ne (tgt := a) hx hb hd hk (fun _ => kk ls hl) (fun c1 => absurd c1 (of_decide_eq_true hq))⟩
      · exact ⟨rfl, fun kk => lv_icmp_ne (tgt := a) hx hb hd hk (fun c1 => absurd c1 (of_decide_eq_false hq)) (fun _ => kk ls hl)⟩
    | lt =>
      obtain ⟨u, v, S0, rfl, ⟨hq, rfl⟩ | ⟨hq, rfl⟩⟩ := mj_c2_inv (t := a) hst
      · exact ⟨rfl, fun kk => lv_icmp_lt (tgt := a) hx hb hd hk (fun _ => kk ls hl) (fun c1 => absurd (of_decide_eq_true hq) c1)⟩
      · exact ⟨rfl, fun kk => lv_icmp_lt (tgt := a) hx hb hd hk (fun c1 => absurd c1 (of_decide_eq_false hq)) (fun _ => kk ls hl)⟩
    | ge =>
      obtain ⟨u, v, S0, rfl, ⟨hq, rfl⟩ | ⟨hq, rfl⟩⟩ := mj_c2_inv (t := a) hst
      · exact ⟨rfl, fun kk => lv_icmp_ge (tgt := a) hx hb hd hk (fun _ => kk ls hl) (fun c1 => absurd (of_decide_eq_true hq) c1)⟩
      · exact ⟨rfl, fun kk => lv_icmp_ge (tgt := a) hx hb hd hk (fun c1 => absurd c1 (of_decide_eq_false hq)) (fun _ => kk ls hl)⟩
    | gt =>
      obtain ⟨u, v, S0, rfl, ⟨hq, rfl⟩ | ⟨hq, rfl⟩⟩ := mj_c2_inv (t := a) hst
      · exact ⟨rfl, fun kk => lv_icmp_gt (tgt := a) hx hb hd hk (fun _ => kk ls hl) (fun c1 => absurd (of_decide_eq_true hq) c1)⟩
      · exact ⟨rfl, fun kk => lv_icmp_gt (tgt := a) hx hb hd hk (fun c1 => absurd c1 (of_decide_eq_false hq)) (fun _ => kk ls hl)⟩
    | le =>
      obtain ⟨u, v, S0, rfl, ⟨hq, rfl⟩ | ⟨hq, rfl⟩⟩ := mj_c2_inv (t := a) hst
      · exact ⟨rfl, fun kk => lv_icmp_le (tgt := a) hx hb hd hk (fun _ => kk ls hl) (fun c1 => absurd (of_decide_eq_true hq) c1)⟩
      · exact ⟨rfl, fun kk => lv_icmp_le (tgt := a) hx hb hd hk (fun c1 => absurd c1 (of_decide_eq_false hq)) (fun _ => kk ls hl)⟩
  | if_acmp q o =>
    cases q with
    | eq =>
      obtain ⟨u, v, S0, rfl, ⟨hq, rfl⟩ | ⟨hq, rfl⟩⟩ := mj_ca_inv (t := a) hst
      · exact ⟨rfl, fun kk => lv_acmp_eq (tgt := a) (rx := u.map ad) (ry := v.map ad) hx hb hd hk (fun _ => kk ls hl) (fun c1 => absurd (congrArg (Option.map ad) (of_decide_eq_true hq)) c1)⟩
      · exact ⟨rfl, fun kk => lv_acmp_eq (tgt := a) (rx := u.map ad) (ry := v.map ad) hx hb hd hk (fun c1 => absurd (hadm u v c1) (of_decide_eq_false hq)) (fun _ => kk ls hl)⟩
    | ne =>
      obtain ⟨u, v, S0, rfl, ⟨hq, rfl⟩ | ⟨hq, rfl⟩⟩ := mj_ca_inv (t := a) hst
      · exact ⟨rfl, fun kk => lv_acmp_ne (tgt := a) (rx := u.map ad) (ry := v.map ad) hx hb hd hk (fun _ => kk ls hl) (fun c1 => absurd (hadm u v c1) (of_decide_eq_true hq))⟩
      · exact ⟨rfl, fun kk => lv_acmp_ne (tgt := a) (rx := u.map ad) (ry := v.map ad) hx hb hd hk (fun c1 => absurd (show ¬ u = v from fun q => c1 (congrArg (Option.map ad) q)) (of_decide_eq_false (p := ¬ u = v) hq)) (fun _ => kk ls hl)⟩
  | ifnull o =>
    obtain ⟨v, S0, rfl, ⟨hq, rfl⟩ | ⟨hq, rfl⟩⟩ := mj_cn_inv (t := a) (q := true) hst
    · cases v with
      | none => exact ⟨rfl, fun kk => lv_ifnullN (tgt := a) hx hb hd hk (kk ls hl)⟩
      | some v => cases hq
    · cases v with
      | none => exact absurd rfl hq
      | some v => exact ⟨rfl, fun kk => lv_ifnull hx hb hd (kk ls hl)⟩
  | ifnonnull o =>
    obtain ⟨v, S0, rfl, ⟨hq, rfl⟩ | ⟨hq, rfl⟩⟩ := mj_cn_inv (t := a) (q := false) hst
    · cases v with
      | none => cases hq
      | some v => exact ⟨rfl, fun kk => lv_ifnonnull (tgt := a) hx hb hd hk (kk ls hl)⟩
    · cases v with
      | none => exact ⟨rfl, fun kk => lv_ifnonnullN hx hb hd (kk ls hl)⟩
      | some v => exact absurd rfl hq
  | goto o =>
    obtain rfl := Option.some.inj hst
    exact ⟨rfl, fun kk => lv_goto (tgt := a) hx hb hd hk (kk ls hl)⟩
  | tableswitch df lo hi os =>
    obtain ⟨v, S0, rfl, h0, rfl⟩ := mj_sw_inv (o := mj_tbl df lo hi os) hst
    refine ⟨rfl, fun kk => ?_⟩
    have ht : (pc : Int) + mj_tbl df lo hi os v.toInt = ((((pc : Int) + mj_tbl df lo hi os v.toInt).toNat : Nat) : Int) := (Int.toNat_of_nonneg h0).symm
    by_cases hr : v.toInt < lo ∨ hi < v.toInt
    · refine lv_tableOut (tgt := ((pc : Int) + mj_tbl df lo hi os v.toInt).toNat) hx hb hd hr ?_ (kk ls hl)
      have e9 : mj_tbl df lo hi os v.toInt = df := if_pos hr
      rw [e9] at ht ⊢
      exact ht
    · have h1 : ¬ v.toInt < lo := fun q => hr (Or.inl q)
      have h2 : ¬ hi < v.toInt := fun q => hr (Or.inr q)
      have hk : os.size = (hi - lo + 1).toNat := hk
      have h3 : (v.toInt - lo).toNat < os.size := by omega
      have e9 : mj_tbl df lo hi os v.toInt = os[(v.toInt - lo).toNat] := by
        unfold mj_tbl
        rw [if_neg hr, Array.getElem?_eq_getElem h3]
        rfl
      refine lv_tableIn (off := os[(v.toInt - lo).toNat]) (tgt := ((pc : Int) + mj_tbl df lo hi os v.toInt).toNat) hx hb hd h1 h2 (Array.getElem?_eq_getElem h3) ?_ (kk ls hl)
      rw [← e9]
      exact ht
  | _ => cases hg
end STEP1
