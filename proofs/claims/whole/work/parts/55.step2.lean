/-! instructions that read or write the heap -/
def mj_g2 (i : Instr) : Bool := match i with
  | .getfield _ => true
  | .putfield _ => true
  | .new _ => true
  | .newarray _ => true
  | .anewarray _ => true
  | .arraylength => true
  | .iaload => true
  | .iastore => true
  | .baload => true
  | .bastore => true
  | .aaload => true
  | .aastore => true
  | _ => false
/-- the script's cell -/
def mj_z (nX : Nat) (xs : Nat → Int32) : mj_C := (100, (List.range nX).map (fun j => Sum.inl (xs j)))
theorem mj_z_at {nX j : Nat} {xs : Nat → Int32} {v : mj_V} (h : (mj_z nX xs).2[j]? = some v) : j < nX ∧ v = .inl (xs j) := by
  unfold mj_z at h
  simp only [List.getElem?_map] at h
  cases hr : (List.range nX)[j]? with
  | none => rw [hr] at h; cases h
  | some w =>
    rw [hr] at h
    have hj : j < nX := by
      have := (List.getElem?_eq_some_iff.mp hr).1
      simpa using this
    rw [List.getElem?_range hj] at hr
    cases hr
    cases h
    exact ⟨hj, rfl⟩
theorem mj_map_set {ad : Nat → Nat} (vs : List mj_V) (k : Nat) (v : mj_V) : (vs.map (mj_cv ad)).set k (mj_cv ad v) = (vs.set k v).map (mj_cv ad) := (List.map_set).symm
section STEP2
variable {p : Program} {l : Launch} {e : Env} {R : Room} {s : State} {m : MethodId} {args : Array Value} {below : List Frame} {meth : Method} {c : Code} {H : Heap} {locs : List Loc} {cells slots : Nat} {Q : State → Prop}
variable {P : mj_P} {cl : List vw_C} {tyf : Nat → Nat → FieldType} {Ts Nw : List Cond} {ak : List Nat} {yn : Nat → MethodName} {cc : Nat → ByteArray} {rt : Nat → Option FieldType}
set_option maxHeartbeats 4000000 in
set_option maxRecDepth 100000 in
theorem mj_step2 {M pc nL b base nX : Nat} {xs : Nat → Int32} {D : va_G} {cA : Nat → ClassId} {i : mj_I} {L : mj_L} {S : List mj_V} {h : mj_H} {x : mj_N} {call : Nat → List mj_V → mj_H → Option mj_R} {ls : Array Slot} (hx : p.tables.exec = Jvm.exec) (hb : c.code = cc M) (hown : s.vm.findClass (yn M).cls = some m.cls) (hnm : (yn M).name = "<init>" → meth.name = "<init>") (hts : ∀ w ∈ Ts, w.before args s = true) (hNw : ∀ w ∈ Nw, va_Nw w s) (hK : va_K D cl (mj_ty cl cA ak) s) (hX : va_X b nX xs s s.heap) (hbl : b < base) (hbs : base ≤ s.heap.size)
    (hl : mj_LO (mj_ad b base) ls nL L) (hI : mj_In D cl cA b base (mj_z nX xs) h H) (hS : va_S (fun q : Nat => base ≤ q) s.heap H locs) (hok : mj_oki P cl tyf Ts Nw ak yn cc rt M pc i) (hst : mj_st P call i pc L S h = some x) (hg : mj_g2 i.1 = true) (hrc : cells + (x.2.2.2.length - h.length) ≤ R.cells) (hrs : slots + (mj_sz x.2.2.2 - mj_sz h) ≤ R.slots)
    (kk : ∀ (H' : Heap) (locs' : List Loc) (cells' slots' : Nat), mj_LO (mj_ad b base) ls nL x.2.1 → mj_In D cl cA b base (mj_z nX xs) x.2.2.2 H' → va_S (fun q : Nat => base ≤ q) s.heap H' locs' → cells' = cells + (x.2.2.2.length - h.length) → slots' = slots + (mj_sz x.2.2.2 - mj_sz h) → W p l e R s m args below meth c H' locs' cells' slots' Q (F0 m x.1 ls (x.2.2.1.map (mj_cv (mj_ad b base))))) :
    W p l e R s m args below meth c H locs cells slots Q (F0 m pc ls (S.map (mj_cv (mj_ad b base)))) := by
  obtain ⟨ins, len, ia, ib⟩ := i
  obtain ⟨hd, hk⟩ := hok
  obtain ⟨t, rfl, hHs, hP⟩ := hI
  have hD := mj_wo_D (mj_ad b base) cA base t
  have hA : ∀ q : Nat, s.heap.size ≤ q → (fun q : Nat => base ≤ q) q := fun q hq => Nat.le_trans hbs hq
  have hbA : ¬ (fun q : Nat => base ≤ q) b := Nat.not_le.mpr hbl
  have hbh : b < s.heap.size := Nat.lt_of_lt_of_le hbl hbs
  -- a handle whose tag isn't 100 is not the script's
  have hnz : ∀ (a tag : Nat) (vs : List mj_V), (mj_z nX xs :: t)[a]? = some (tag, vs) → tag ≠ 100 → ∃ k, a = k + 1 ∧ t[k]? = some (tag, vs) := by
    intro a tag vs ha hne
    cases a with
    | zero =>
      rw [List.getElem?_cons_zero] at ha
      exact absurd (congrArg Prod.fst (Option.some.inj ha)).symm hne
    | succ k => exact ⟨k, rfl, by rw [List.getElem?_cons_succ] at ha; exact ha⟩
  have hcell : ∀ (k tag : Nat) (vs : List mj_V), t[k]? = some (tag, vs) → (mj_wo (mj_ad b base) cA base t)[k]? = some (base + k, mj_ce (mj_ad b base) cA (tag, vs)) := by
    intro k tag vs hk
    rw [mj_wo_get, hk]
    rfl
  have hsetz : ∀ (k : Nat) (q : mj_C), (mj_z nX xs :: t).set (k + 1) q = mj_z nX xs :: t.set k q := fun k q => rfl
  cases ins with
  | getfield ix =>
    obtain ⟨a, v, S0, rfl, hgf, rfl⟩ := mj_get_inv (c := ia) (k := ib) hst
    obtain ⟨C, T, N, ⟨hc, h100, hin, hty, hne⟩, hbN, hlink⟩ := hk
    have h100 : ia < 100 := h100
    obtain ⟨vs, ha, hv⟩ := mj_gf_inv hgf
    obtain ⟨k, rfl, ht⟩ := hnz a ia vs ha (by omega)
    have he := hcell k ia vs ht
    have hce : mj_ce (mj_ad b base) cA (ia, vs) = .inr (ia, vs.map (mj_cv (mj_ad b base))) := if_pos h100
    rw [hce] at he
    have hv' : (vs.map (mj_cv (mj_ad b base)))[ib]? = some (mj_cv (mj_ad b base) v) := by rw [List.getElem?_map, hv]; rfl
    have k9 := kk H locs cells slots hl ⟨t, rfl, hHs, hP⟩ hS (by simp) (by simp)
    rcases hlink with hlk | ⟨host, hlk⟩
    · exact va_get (D := D) (own := (yn M).cls) hx hb hts hin hown hK hP k he hc ib hbN (hts _ hlk) (fun _ h9 => h9) hv' hd k9
    · exact va_getN (D := D) (own := (yn M).cls) hx hb hts hin hown hK hP k he hc ib hbN (va_Nw.use rfl (hNw _ hlk)) (fun _ h9 => h9) hv' hd k9
  | putfield ix =>
    obtain ⟨a, v, S0, h', rfl, hz, hpf, rfl⟩ := mj_put_inv (c := ia) (k := ib) (z := P.2.2.2.2.1) hst
    obtain ⟨C, T, N, ⟨hc, h100, hin, hty, hne⟩, hbN, hkind, hlink⟩ := hk
    have h100 : ia < 100 := h100
    obtain ⟨e1, e2⟩ := mj_pf_le hpf
    obtain ⟨vs, ha, hlen, -, rfl⟩ := mj_pf_inv hpf
    obtain ⟨k, rfl, ht⟩ := hnz a ia vs ha (by omega)
    have he := hcell k ia vs ht
    have hce : ∀ ws : List mj_V, mj_ce (mj_ad b base) cA (ia, ws) = .inr (ia, ws.map (mj_cv (mj_ad b base))) := fun ws => if_pos h100
    rw [hce] at he
    have hkt : k < t.length := (List.getElem?_eq_some_iff.mp ht).1
    have hfit : narrow (tyf ia ib) (mj_cv (mj_ad b base) v) = mj_cv (mj_ad b base) v ∧ fits (tyf ia ib) (mj_cv (mj_ad b base) v) = true := by
      rcases hkind with ⟨z0, ety⟩ | ⟨z0, ety⟩ | ⟨z0, ⟨E, ety⟩ | ⟨E, ety⟩⟩
      · rw [z0] at hz; rw [ety]
        rcases v with v | v
        · exact ⟨rfl, rfl⟩
        · simp [mj_zk] at hz
      · rw [z0] at hz; rw [ety]
        rcases v with v | v
        · have hv : v = 0 ∨ v = 1 := by simpa [mj_zk] using hz
          rcases hv with rfl | rfl
          · exact ⟨(by decide : narrow FieldType.boolean (.int 0) = .int 0), (by decide : fits FieldType.boolean (.int 0) = true)⟩
          · exact ⟨(by decide : narrow FieldType.boolean (.int 1) = .int 1), (by decide : fits FieldType.boolean (.int 1) = true)⟩
        · simp [mj_zk] at hz
      · rw [z0] at hz; rw [ety]
        rcases v with v | _ | v
        · simp [mj_zk] at hz
        · exact ⟨rfl, rfl⟩
        · exact ⟨rfl, rfl⟩
      · rw [z0] at hz; rw [ety]
        rcases v with v | _ | v
        · simp [mj_zk] at hz
        · exact ⟨rfl, rfl⟩
        · exact ⟨rfl, rfl⟩
    have k9 : ∀ (H1 : Heap) (locs1 : List Loc), va_P D cl ((mj_wo (mj_ad b base) cA base t).set k (base + k, .inr (ia, (vs.map (mj_cv (mj_ad b base))).set ib (mj_cv (mj_ad b base) v)))) H1 → H1.size = H.size → va_S (fun q : Nat => base ≤ q) s.heap H1 locs1 → W p l e R s m args below meth c H1 locs1 cells slots Q (F0 m (pc + 3) ls (S0.map (mj_cv (mj_ad b base)))) := by
      intro H1 locs1 hP1 hz1 hS1
      refine kk H1 locs1 cells slots hl ⟨t.set k (ia, vs.set ib v), rfl, by rw [hz1, hHs, List.length_set], ?_⟩ hS1 ?_ ?_
      · rw [← mj_wo_set, hce, ← mj_map_set]
        exact hP1
      · show cells = cells + (List.length ((mj_z nX xs :: t).set (k + 1) (ia, vs.set ib v)) - _)
        rw [e1]; simp
      · show slots = slots + (mj_sz ((mj_z nX xs :: t).set (k + 1) (ia, vs.set ib v)) - _)
        rw [e2]; simp
    have hl9 : ib < (vs.map (mj_cv (mj_ad b base))).length := by rw [List.length_map]; exact hlen
    have hlks : mj_lks s args meth (yn M).cls ix (T ib) := by
      rcases hlink with ⟨hfin, hlk | ⟨host, hlk⟩⟩ | ⟨hfin, hin1, hdecl, hlk⟩
      · exact Or.inl ⟨hfin, hts _ hlk⟩
      · exact Or.inr (Or.inl ⟨hfin, host, va_Nw.use rfl (hNw _ hlk)⟩)
      · exact Or.inr (Or.inr ⟨hfin, hnm hin1, hdecl, hts _ hlk⟩)
    exact mj_putA (D := D) (own := (yn M).cls) hx hb hts hin (tyf ia) hty hne hown hK hP hD hS k he hc ib hbN hlks hfit.1 hfit.2 hl9 hd k9
  | new ix =>
    obtain ⟨C, T, N, ⟨hc, h100, hin, hty, hne⟩, hcl, hinst, hini, hdl, hdf⟩ := hk
    obtain rfl := Option.some.inj hst
    have hsz : mj_sz ((mj_z nX xs :: t) ++ [(ia, P.2.2.2.1 ia)]) - mj_sz (mj_z nX xs :: t) = N := by rw [mj_sz_app, hdl]; omega
    have hln : ((mj_z nX xs :: t) ++ [(ia, P.2.2.2.1 ia)]).length - (mj_z nX xs :: t).length = 1 := by rw [List.length_append]; simp
    have hrc : cells + 1 ≤ R.cells := by rw [← hln]; exact hrc
    have hrs : slots + N ≤ R.slots := by rw [← hsz]; exact hrs
    have hKn := hK.1 ia _ hc
    refine W.newcK hx hb hown (hts _ hcl) (hts _ hinst) (hts _ hini) rfl hd hrc hrs hKn.2.1 rfl fun H1 kC hkC e1 z1 o1 => ?_
    have e9 := kk H1 locs (cells + 1) (slots + N) hl (mj_push ⟨t, rfl, hHs, hP⟩ ?_ z1 o1) (mj_S_push hS z1 o1) (by show cells + 1 = _; rw [hln]) (by show slots + N = _; rw [hsz])
    · have hh : mj_ad b base (mj_z nX xs :: t).length = H.size := by rw [hHs]; rfl
      rw [← hh]
      exact e9
    · rw [show mj_ce (mj_ad b base) cA (ia, P.2.2.2.1 ia) = .inr (ia, (P.2.2.2.1 ia).map (mj_cv (mj_ad b base))) from if_pos h100]
      exact ⟨_, hc, (u_born (tyf ia) hts hin hKn hkC e1 hty).to (hdf _)⟩
  | newarray at0 =>
    cases at0 with
    | int =>
      obtain ⟨n, S0, rfl, hn0, hn1, rfl⟩ := mj_mk_inv (t := 100) (n := 2) (v := .inl 0) hst
      have hsz : mj_sz ((mj_z nX xs :: t) ++ [(100, List.replicate n.toNatClampNeg (.inl 0))]) - mj_sz (mj_z nX xs :: t) = n.toNatClampNeg := by rw [mj_sz_app]; simp
      have hln : ((mj_z nX xs :: t) ++ [((100, List.replicate n.toNatClampNeg (.inl 0)) : mj_C)]).length - (mj_z nX xs :: t).length = 1 := by rw [List.length_append]; simp
      have hrc : cells + 1 ≤ R.cells := by rw [← hln]; exact hrc
      have hrs : slots + n.toNatClampNeg ≤ R.slots := by rw [← hsz]; exact hrs
      have hk : (Cond.arrayClass (newarray.typeOf .int)).before args s = true := hts _ hk.1
      refine va_newaK hx hb hk rfl hd rfl hn0 rfl ?_ hrc hrs rfl fun H1 cA' e1 z1 o1 hAr hNm => ?_
      · show n.toNatClampNeg * 4 ≤ 536870912
        omega
      have hcA : cA' = cA 0 := by
        have h2 : s.vm.findClass ("[" ++ (FieldType.int).toString) = some (cA 0) := (hK.2 0 _ rfl).2
        exact Option.some.inj (hNm.symm.trans h2)
      have e9 := kk H1 locs (cells + 1) (slots + n.toNatClampNeg) hl (mj_push ⟨t, rfl, hHs, hP⟩ ?_ z1 o1) (mj_S_push hS z1 o1) (by show cells + 1 = _; rw [hln]) (by show slots + _ = _; rw [hsz])
      · have hh : mj_ad b base (mj_z nX xs :: t).length = H.size := by rw [hHs]; rfl
        rw [← hh]
        exact e9
      · show H1[H.size]? = some (vp_cell _ _)
        rw [e1, hcA]
        congr 1
        show _ = arrV (cA 0) (List.replicate n.toNatClampNeg (Sum.inl 0 : mj_V)).length (fun j => .int (mj_int (List.replicate n.toNatClampNeg (Sum.inl 0 : mj_V))[j]?))
        rw [List.length_replicate]
        congr 1
        funext j
        rw [List.getElem?_replicate]
        by_cases hj : j < n.toNatClampNeg
        · rw [if_pos hj]; rfl
        · rw [if_neg hj]; rfl
    | boolean =>
      obtain ⟨n, S0, rfl, hn0, hn1, rfl⟩ := mj_mk_inv (t := 200) (n := 2) (v := .inl 0) hst
      have hsz : mj_sz ((mj_z nX xs :: t) ++ [(200, List.replicate n.toNatClampNeg (.inl 0))]) - mj_sz (mj_z nX xs :: t) = n.toNatClampNeg := by rw [mj_sz_app]; simp
      have hln : ((mj_z nX xs :: t) ++ [((200, List.replicate n.toNatClampNeg (.inl 0)) : mj_C)]).length - (mj_z nX xs :: t).length = 1 := by rw [List.length_append]; simp
      have hrc : cells + 1 ≤ R.cells := by rw [← hln]; exact hrc
      have hrs : slots + n.toNatClampNeg ≤ R.slots := by rw [← hsz]; exact hrs
      have hk : (Cond.arrayClass (newarray.typeOf .boolean)).before args s = true := hts _ hk.2
      refine va_newaK hx hb hk rfl hd rfl hn0 rfl ?_ hrc hrs rfl fun H1 cA' e1 z1 o1 hAr hNm => ?_
      · show n.toNatClampNeg * 1 ≤ 536870912
        omega
      have hcA : cA' = cA 100 := by
        have h2 : s.vm.findClass ("[" ++ (FieldType.boolean).toString) = some (cA 100) := (hK.2 1 _ rfl).2
        exact Option.some.inj (hNm.symm.trans h2)
      have e9 := kk H1 locs (cells + 1) (slots + n.toNatClampNeg) hl (mj_push ⟨t, rfl, hHs, hP⟩ ?_ z1 o1) (mj_S_push hS z1 o1) (by show cells + 1 = _; rw [hln]) (by show slots + _ = _; rw [hsz])
      · have hh : mj_ad b base (mj_z nX xs :: t).length = H.size := by rw [hHs]; rfl
        rw [← hh]
        exact e9
      · show H1[H.size]? = some (vp_cell _ _)
        rw [e1, hcA]
        congr 1
        show _ = arrV (cA 100) (List.replicate n.toNatClampNeg (Sum.inl 0 : mj_V)).length (fun j => .int (mj_int (List.replicate n.toNatClampNeg (Sum.inl 0 : mj_V))[j]?))
        rw [List.length_replicate]
        congr 1
        funext j
        rw [List.getElem?_replicate]
        by_cases hj : j < n.toNatClampNeg
        · rw [if_pos hj]; rfl
        · rw [if_neg hj]; rfl
    | _ => cases hst
  | anewarray ix =>
    obtain ⟨n, S0, rfl, hn0, hn1, rfl⟩ := mj_mk_inv (t := 101 + ia) (n := 3) (v := .inr none) hst
    obtain ⟨C, T, N, hc, hak, h99, hcl, hov⟩ := hk
    have h99 : ia < 99 := h99
    have hsz : mj_sz ((mj_z nX xs :: t) ++ [(101 + ia, List.replicate n.toNatClampNeg (.inr none))]) - mj_sz (mj_z nX xs :: t) = n.toNatClampNeg := by rw [mj_sz_app]; simp
    have hln : ((mj_z nX xs :: t) ++ [((101 + ia, List.replicate n.toNatClampNeg (.inr none)) : mj_C)]).length - (mj_z nX xs :: t).length = 1 := by rw [List.length_append]; simp
    have hrc : cells + 1 ≤ R.cells := by rw [← hln]; exact hrc
    have hrs : slots + n.toNatClampNeg ≤ R.slots := by rw [← hsz]; exact hrs
    refine W.anew hx hb hown (hts _ hcl) (va_AO.use (hNw _ hov)) rfl hd rfl hn0 (by omega) hrc hrs fun cA' kA comp f1 f2 f3 f4 => ?_
    generalize hH1 : H.push ({ cls := cA', slots := Array.replicate n.toNatClampNeg .null, vm := .none } : Cell) = H1
    have z1 : H1.size = H.size + 1 := by rw [← hH1, Array.size_push]
    have e1 : H1[H.size]? = some (arrV cA' n.toNatClampNeg (fun _ => .null)) := by rw [← hH1, Array.getElem?_push_size, ← arrV_new]
    have o1 : ∀ q : Nat, q < H.size → H1[q]? = H[q]? := fun q hq => by rw [← hH1, Array.getElem?_push, if_neg (Nat.ne_of_lt hq)]
    obtain ⟨t0, ht0⟩ := mj_ty_at (cA := cA) hak hc
    have hcA : cA' = cA (ia + 1) := by
      obtain ⟨_, _, -, -, -, h2⟩ := (hK.2 t0 _ ht0).2
      exact Option.some.inj (f1.symm.trans h2)
    have e9 := kk H1 locs (cells + 1) (slots + n.toNatClampNeg) hl (mj_push ⟨t, rfl, hHs, hP⟩ ?_ z1 o1) (mj_S_push hS z1 o1) (by show cells + 1 = _; rw [hln]) (by show slots + _ = _; rw [hsz])
    · have hh : mj_ad b base (mj_z nX xs :: t).length = H.size := by rw [hHs]; rfl
      rw [← hh]
      exact e9
    · rw [show mj_ce (mj_ad b base) cA (101 + ia, List.replicate n.toNatClampNeg (.inr none)) = .inl (cA (101 + ia - 100), (List.replicate n.toNatClampNeg (Sum.inr none : mj_V)).length, .inr (.inr (.inr (.inr (fun j => mj_ref (mj_ad b base) (List.replicate n.toNatClampNeg (Sum.inr none : mj_V))[j]?))))) from (if_neg (by show ¬ 101 + ia < 100; omega)).trans ((if_neg (by show ¬ 101 + ia = 100; omega)).trans (if_neg (by show ¬ 101 + ia = 200; omega)))]
      show H1[H.size]? = some (vp_cell _ _)
      rw [e1, hcA, vp_cell_q, List.length_replicate, show 101 + ia - 100 = ia + 1 by omega]
      congr 2
      funext j
      rw [List.getElem?_replicate]
      by_cases hj : j < n.toNatClampNeg
      · rw [if_pos hj]; rfl
      · rw [if_neg hj]; rfl
  | arraylength =>
    obtain ⟨a, n, S0, rfl, hln, rfl⟩ := mj_al_inv hst
    have k9 := kk H locs cells slots hl ⟨t, rfl, hHs, hP⟩ hS (by simp) (by simp)
    unfold mj_ln at hln
    cases ha : (mj_z nX xs :: t)[a]? with
    | none => rw [ha] at hln; cases hln
    | some q =>
      rw [ha] at hln
      obtain ⟨tag, vs⟩ := q
      by_cases h100 : tag = 100
      · subst h100
        have hn : vs.length = n := Option.some.inj hln
        subst hn
        cases a with
        | zero =>
          rw [List.getElem?_cons_zero] at ha
          have e2 : (mj_z nX xs).2 = vs := congrArg Prod.snd (Option.some.inj ha)
          have hlz : vs.length = nX := by rw [← e2]; simp [mj_z]
          rw [hlz] at k9
          exact va_slen hx hb hX hbh hbA hS hd k9
        | succ k =>
          rw [List.getElem?_cons_succ] at ha
          have he := hcell k 100 vs ha
          rw [show mj_ce (mj_ad b base) cA (100, vs) = .inl (cA 0, vs.length, .inl (fun j => mj_int vs[j]?)) from rfl] at he
          exact va_alen hx hb hK hP k 0 he rfl rfl hd k9
      · exact absurd ((if_neg h100).symm.trans hln) (fun q => by cases q)
  | iaload =>
    obtain ⟨j, a, v, S0, rfl, hj, hgf, rfl⟩ := mj_ald_inv hst
    have k9 := kk H locs cells slots hl ⟨t, rfl, hHs, hP⟩ hS (by simp) (by simp)
    obtain ⟨vs, ha, hv⟩ := mj_gf_inv hgf
    cases a with
    | zero =>
      rw [List.getElem?_cons_zero] at ha
      have hv2 : (mj_z nX xs).2[j.toNatClampNeg]? = some (.inl v) := by
        have e2 : (mj_z nX xs).2 = vs := congrArg Prod.snd (Option.some.inj ha)
        rw [e2]; exact hv
      obtain ⟨h1, h2⟩ := mj_z_at hv2
      cases h2
      exact va_sld hx hb hX hbh hbA hS (fun q => by rcases q with q | q; exact hj q; omega) hd k9
    | succ k =>
      rw [List.getElem?_cons_succ] at ha
      have he := hcell k 100 vs ha
      rw [show mj_ce (mj_ad b base) cA (100, vs) = .inl (cA 0, vs.length, .inl (fun j => mj_int vs[j]?)) from rfl] at he
      have hlt : j.toNatClampNeg < vs.length := (List.getElem?_eq_some_iff.mp hv).1
      refine va_iald hx hb hK hP k 0 he rfl (i := j) (fun q => by rcases q with q | q; exact hj q; omega) hd ?_
      rw [hv]
      exact k9
  | iastore =>
    obtain ⟨v, j, a, S0, h', rfl, hj, hpf, rfl⟩ := mj_ast_inv hst
    obtain ⟨e1, e2⟩ := mj_pf_le hpf
    obtain ⟨vs, ha, hlen, hane, rfl⟩ := mj_pf_inv hpf
    cases a with
    | zero => exact absurd rfl hane
    | succ k =>
      rw [List.getElem?_cons_succ] at ha
      have he := hcell k 100 vs ha
      rw [show mj_ce (mj_ad b base) cA (100, vs) = .inl (cA 0, vs.length, .inl (fun j => mj_int vs[j]?)) from rfl] at he
      refine mj_iast hx hb hK hP hD hS k 0 he rfl (i := j) (x := v) (fun q => by rcases q with q | q; exact hj q; omega) hd (fun H1 locs1 hP1 hz1 hS1 => ?_)
      refine kk H1 locs1 cells slots hl ⟨t.set k (100, vs.set j.toNatClampNeg (.inl v)), rfl, by rw [hz1, hHs, List.length_set], ?_⟩ hS1 ?_ ?_
      · rw [← mj_wo_set]
        have e9 : mj_ce (mj_ad b base) cA (100, vs.set j.toNatClampNeg (.inl v)) = .inl (cA 0, vs.length, .inl (upd (fun j => mj_int vs[j]?) j.toNatClampNeg v)) := by
          show (Sum.inl (cA 0, (vs.set j.toNatClampNeg (.inl v)).length, Sum.inl (fun q => mj_int (vs.set j.toNatClampNeg (.inl v))[q]?)) : va_E) = _
          rw [List.length_set]
          congr 4
          funext q
          rw [List.getElem?_set]
          unfold upd
          by_cases hq : j.toNatClampNeg = q
          · rw [if_pos hq, if_pos hlen, if_pos hq.symm]; rfl
          · rw [if_neg hq, if_neg (fun z => hq z.symm)]
        rw [e9]
        exact hP1
      · show cells = cells + (List.length ((mj_z nX xs :: t).set (k + 1) (100, vs.set j.toNatClampNeg (.inl v))) - _)
        rw [e1]; simp
      · show slots = slots + (mj_sz ((mj_z nX xs :: t).set (k + 1) (100, vs.set j.toNatClampNeg (.inl v))) - _)
        rw [e2]; simp
  | baload =>
    obtain ⟨j, a, v, S0, rfl, hj, hgf, rfl⟩ := mj_bld_inv hst
    have k9 := kk H locs cells slots hl ⟨t, rfl, hHs, hP⟩ hS (by simp) (by simp)
    obtain ⟨vs, ha, hv⟩ := mj_gf_inv hgf
    obtain ⟨k, rfl, ht⟩ := hnz a 200 vs ha (by omega)
    have he := hcell k 200 vs ht
    rw [show mj_ce (mj_ad b base) cA (200, vs) = .inl (cA 100, vs.length, .inl (fun j => mj_int vs[j]?)) from rfl] at he
    have hlt : j.toNatClampNeg < vs.length := (List.getElem?_eq_some_iff.mp hv).1
    refine va_zald hx hb hK hP k 1 he rfl (i := j) (fun q => by rcases q with q | q; exact hj q; omega) hd ?_
    rw [hv]
    exact k9
  | bastore =>
    obtain ⟨v, j, a, S0, h', rfl, hj, hv01, hpf, rfl⟩ := mj_bst_inv hst
    obtain ⟨e1, e2⟩ := mj_pf_le hpf
    obtain ⟨vs, ha, hlen, hane, rfl⟩ := mj_pf_inv hpf
    cases a with
    | zero => exact absurd rfl hane
    | succ k =>
      rw [List.getElem?_cons_succ] at ha
      have he := hcell k 200 vs ha
      rw [show mj_ce (mj_ad b base) cA (200, vs) = .inl (cA 100, vs.length, .inl (fun j => mj_int vs[j]?)) from rfl] at he
      refine mj_zast hx hb hK hP hD hS k 1 he rfl (i := j) (x := v) hv01 (fun q => by rcases q with q | q; exact hj q; omega) hd (fun H1 locs1 hP1 hz1 hS1 => ?_)
      refine kk H1 locs1 cells slots hl ⟨t.set k (200, vs.set j.toNatClampNeg (.inl v)), rfl, by rw [hz1, hHs, List.length_set], ?_⟩ hS1 ?_ ?_
      · rw [← mj_wo_set]
        have e9 : mj_ce (mj_ad b base) cA (200, vs.set j.toNatClampNeg (.inl v)) = .inl (cA 100, vs.length, .inl (upd (fun j => mj_int vs[j]?) j.toNatClampNeg v)) := by
          show (Sum.inl (cA 100, (vs.set j.toNatClampNeg (.inl v)).length, Sum.inl (fun q => mj_int (vs.set j.toNatClampNeg (.inl v))[q]?)) : va_E) = _
          rw [List.length_set]
          congr 4
          funext q
          rw [List.getElem?_set]
          unfold upd
          by_cases hq : j.toNatClampNeg = q
          · rw [if_pos hq, if_pos hlen, if_pos hq.symm]; rfl
          · rw [if_neg hq, if_neg (fun z => hq z.symm)]
        rw [e9]
        exact hP1
      · show cells = cells + (List.length ((mj_z nX xs :: t).set (k + 1) (200, vs.set j.toNatClampNeg (.inl v))) - _)
        rw [e1]; simp
      · show slots = slots + (mj_sz ((mj_z nX xs :: t).set (k + 1) (200, vs.set j.toNatClampNeg (.inl v))) - _)
        rw [e2]; simp
  | aaload =>
    obtain ⟨j, a, v, S0, rfl, hj, hgf, rfl⟩ := mj_rld_inv (c := ia) hst
    obtain ⟨q, hq, hak, h99⟩ := hk
    have h99 : ia < 99 := h99
    obtain ⟨t0, ht0⟩ := mj_ty_at (cA := cA) hak hq
    have k9 := kk H locs cells slots hl ⟨t, rfl, hHs, hP⟩ hS (by simp) (by simp)
    obtain ⟨vs, ha, hv⟩ := mj_gf_inv hgf
    obtain ⟨k, rfl, ht⟩ := hnz a (101 + ia) vs ha (by omega)
    have he := hcell k (101 + ia) vs ht
    rw [show mj_ce (mj_ad b base) cA (101 + ia, vs) = .inl (cA (101 + ia - 100), vs.length, .inr (.inr (.inr (.inr (fun j => mj_ref (mj_ad b base) vs[j]?))))) from (if_neg (by show ¬ 101 + ia < 100; omega)).trans ((if_neg (by show ¬ 101 + ia = 100; omega)).trans (if_neg (by show ¬ 101 + ia = 200; omega))), show 101 + ia - 100 = ia + 1 by omega] at he
    have hlt : j.toNatClampNeg < vs.length := (List.getElem?_eq_some_iff.mp hv).1
    refine va_aldq hx hb hK hP k t0 he ht0 (i := j) (fun q => by rcases q with q | q; exact hj q; omega) hd ?_
    rw [hv]
    exact k9
  | aastore =>
    obtain ⟨v, j, a, S0, h', rfl, hj, htv, hpf, rfl⟩ := mj_rst_inv (c := ia) hst
    obtain ⟨q, hq, hak, h99⟩ := hk
    have h99 : ia < 99 := h99
    have h100 : ia < 100 := by omega
    obtain ⟨t0, ht0⟩ := mj_ty_at (cA := cA) hak hq
    obtain ⟨e1, e2⟩ := mj_pf_le hpf
    obtain ⟨vs, ha, hlen, hane, rfl⟩ := mj_pf_inv hpf
    obtain ⟨k, rfl, ht⟩ := hnz a (101 + ia) vs ha (by omega)
    have he := hcell k (101 + ia) vs ht
    have hce : ∀ ws : List mj_V, mj_ce (mj_ad b base) cA (101 + ia, ws) = .inl (cA (ia + 1), ws.length, .inr (.inr (.inr (.inr (fun j => mj_ref (mj_ad b base) ws[j]?))))) := by
      intro ws
      rw [show mj_ce (mj_ad b base) cA (101 + ia, ws) = .inl (cA (101 + ia - 100), ws.length, .inr (.inr (.inr (.inr (fun j => mj_ref (mj_ad b base) ws[j]?))))) from (if_neg (by show ¬ 101 + ia < 100; omega)).trans ((if_neg (by show ¬ 101 + ia = 100; omega)).trans (if_neg (by show ¬ 101 + ia = 200; omega))), show 101 + ia - 100 = ia + 1 by omega]
    rw [hce] at he
    have k9 : ∀ (H1 : Heap) (locs1 : List Loc), va_P D cl ((mj_wo (mj_ad b base) cA base t).set k (base + k, .inl (cA (ia + 1), vs.length, .inr (.inr (.inr (.inr (va_up (fun j => mj_ref (mj_ad b base) vs[j]?) j.toNatClampNeg (v.map (mj_ad b base))))))))) H1 → H1.size = H.size → va_S (fun q : Nat => base ≤ q) s.heap H1 locs1 → W p l e R s m args below meth c H1 locs1 cells slots Q (F0 m (pc + 1) ls (S0.map (mj_cv (mj_ad b base)))) := by
      intro H1 locs1 hP1 hz1 hS1
      refine kk H1 locs1 cells slots hl ⟨t.set k (101 + ia, vs.set j.toNatClampNeg (.inr v)), rfl, by rw [hz1, hHs, List.length_set], ?_⟩ hS1 ?_ ?_
      · rw [← mj_wo_set]
        have e9 : mj_ce (mj_ad b base) cA (101 + ia, vs.set j.toNatClampNeg (.inr v)) = .inl (cA (ia + 1), vs.length, .inr (.inr (.inr (.inr (va_up (fun j => mj_ref (mj_ad b base) vs[j]?) j.toNatClampNeg (v.map (mj_ad b base))))))) := by
          rw [hce, List.length_set]
          congr 7
          funext q
          rw [List.getElem?_set]
          unfold va_up
          by_cases hq : j.toNatClampNeg = q
          · rw [if_pos hq, if_pos hlen, if_pos hq.symm]; rfl
          · rw [if_neg hq, if_neg (fun z => hq z.symm)]
        rw [e9]
        exact hP1
      · show cells = cells + (List.length ((mj_z nX xs :: t).set (k + 1) (101 + ia, vs.set j.toNatClampNeg (.inr v))) - _)
        rw [e1]; simp
      · show slots = slots + (mj_sz ((mj_z nX xs :: t).set (k + 1) (101 + ia, vs.set j.toNatClampNeg (.inr v))) - _)
        rw [e2]; simp
    have hin9 : vp_in j vs.length := fun q => by rcases q with q | q; exact hj q; omega
    cases v with
    | none => exact mj_astqN hx hb hK hP hD hS k t0 he ht0 hin9 hd k9
    | some w =>
      have htw := htv w rfl
      unfold mj_tg at htw
      cases hw : (mj_z nX xs :: t)[w]? with
      | none => rw [hw] at htw; cases htw
      | some qw =>
        rw [hw] at htw
        obtain ⟨tag, ws⟩ := qw
        have htag : tag = ia := by simpa using htw
        subst htag
        obtain ⟨kw, rfl, htkw⟩ := hnz w tag ws hw (by omega)
        have hew := hcell kw tag ws htkw
        rw [show mj_ce (mj_ad b base) cA (tag, ws) = .inr (tag, ws.map (mj_cv (mj_ad b base))) from if_pos h100] at hew
        exact mj_astq hx hb hK hP hD hS k t0 kw tag he ht0 hew hq hin9 hd k9
  | _ => cases hg
end STEP2
