/-! calls, a method's whole walk, its contract -/
def mj_g3 (i : Instr) : Bool := match i with
  | .invokestatic _ => true
  | .invokevirtual _ => true
  | .invokespecial _ => true
  | _ => false
abbrev mj_rm (d : Nat) (h h' : mj_H) : Room := { frames := d, cells := h'.length - h.length, slots := mj_sz h' - mj_sz h, locals := 60 * d }
abbrev mj_ws (P : mj_P) (Ts : List Cond) (yn : Nat → MethodName) (cc : Nat → ByteArray) (rt : Nat → Option FieldType) (y : Nat) : List Cond := Cond.code (yn y) (cc y) (P.2.1 y) (rt y) :: Ts
/-- what is known of the calls -/
def mj_CK (l : Launch) (P : mj_P) (cl : List vw_C) (Ts Nw : List Cond) (ak : List Nat) (yn : Nat → MethodName) (cc : Nat → ByteArray) (rt : Nat → Option FieldType) (D : va_G) (cA : Nat → ClassId) (b base nX : Nat) (xs : Nat → Int32) (d : Nat) (call : Nat → List mj_V → mj_H → Option mj_R) : Prop :=
  ∀ (y : Nat) (as : List mj_V) (h : mj_H) (r : Option mj_V) (h' : mj_H), call y as h = some (r, h') → mj_le h h' ∧ (mj_okm P Ts yn cc rt y → as.length ≤ P.2.1 y →
    Met l (yn y) (mj_ws P Ts yn cc rt y) (mj_rm d h h') (mj_Pc D cl cA ak Nw b base nX xs (mj_z nX xs) as h) (mj_Qc D cl cA b base (mj_z nX xs) r h') (h'.length - h.length) (mj_sz h' - mj_sz h) (fun q : Nat => base ≤ q))
section STEP3
variable {p : Program} {l : Launch} {e : Env} {R : Room} {s : State} {m : MethodId} {args : Array Value} {below : List Frame} {meth : Method} {c : Code} {H : Heap} {locs : List Loc} {cells slots : Nat} {Q : State → Prop}
variable {P : mj_P} {cl : List vw_C} {tyf : Nat → Nat → FieldType} {Ts Nw : List Cond} {ak : List Nat} {yn : Nat → MethodName} {cc : Nat → ByteArray} {rt : Nat → Option FieldType}
set_option maxHeartbeats 4000000 in
set_option maxRecDepth 100000 in
theorem mj_step3 {M pc nL b base nX d : Nat} {xs : Nat → Int32} {D : va_G} {cA : Nat → ClassId} {i : mj_I} {L : mj_L} {S : List mj_V} {h : mj_H} {x : mj_N} {call : Nat → List mj_V → mj_H → Option mj_R} {ls : Array Slot} (hx : p.tables.exec = Jvm.exec) (hb : c.code = cc M) (hml : c.maxLocals = nL) (hown : s.vm.findClass (yn M).cls = some m.cls) (hts : ∀ w ∈ Ts, w.before args s = true) (hgd : ∀ w ∈ Ts, goodWord w = true) (hnf : mj_nwf Nw) (hNw : ∀ w ∈ Nw, va_Nw w s) (hK : va_K D cl (mj_ty cl cA ak) s) (hX : va_X b nX xs s s.heap) (hbl : b < base) (hbs : base ≤ s.heap.size)
    (hCK : mj_CK l P cl Ts Nw ak yn cc rt D cA b base nX xs d call) (hfr : d + 1 ≤ R.frames) (hlo : 60 * (d + 1) ≤ R.locals)
    (hl : mj_LO (mj_ad b base) ls nL L) (hI : mj_In D cl cA b base (mj_z nX xs) h H) (hS : va_S (fun q : Nat => base ≤ q) s.heap H locs) (hok : mj_oki P cl tyf Ts Nw ak yn cc rt M pc i) (hst : mj_st P call i pc L S h = some x) (hg : mj_g3 i.1 = true) (hrc : cells + (x.2.2.2.length - h.length) ≤ R.cells) (hrs : slots + (mj_sz x.2.2.2 - mj_sz h) ≤ R.slots)
    (kk : ∀ (H' : Heap) (locs' : List Loc) (cells' slots' : Nat), mj_LO (mj_ad b base) ls nL x.2.1 → mj_In D cl cA b base (mj_z nX xs) x.2.2.2 H' → va_S (fun q : Nat => base ≤ q) s.heap H' locs' → cells' = cells + (x.2.2.2.length - h.length) → slots' = slots + (mj_sz x.2.2.2 - mj_sz h) → W p l e R s m args below meth c H' locs' cells' slots' Q (F0 m x.1 ls (x.2.2.1.map (mj_cv (mj_ad b base))))) :
    W p l e R s m args below meth c H locs cells slots Q (F0 m pc ls (S.map (mj_cv (mj_ad b base)))) := by
  obtain ⟨ins, len, y, n⟩ := i
  obtain ⟨hd, hk⟩ := hok
  have hG : ∀ y', mj_okm P Ts yn cc rt y' → GoodIn Ts (mj_ws P Ts yn cc rt y') := by
    intro y' hm w hw
    have hw : w ∈ Ts := by
      rcases List.mem_cons.mp hw with rfl | h1
      · exact hm.2.1
      · exact h1
    exact ⟨hw, good_of_word (hgd w hw)⟩
  have hF : CallFix p m c (cc M) nL s args Ts (yn M).cls := ⟨hx, hb, hml, hown, hts⟩
  have hroom : ∀ y', mj_okm P Ts yn cc rt y' → ∀ h' : mj_H, (mj_rm d h h').frames + 1 ≤ R.frames ∧ 8 + (P.2.1 y' + 11) + (mj_rm d h h').locals ≤ R.locals := by
    intro y' hm h'
    refine ⟨hfr, ?_⟩
    have := hm.2.2.1
    show 8 + (P.2.1 y' + 11) + 60 * d ≤ R.locals
    omega
  -- the state before a call is the callee's start
  have hpre : ∀ (as : List mj_V) (U : State), U.heap = H → s.WarmedH U.vm → mj_Pc D cl cA ak Nw b base nX xs (mj_z nX xs) as h (as.map (mj_cv (mj_ad b base))).toArray U := by
    intro as U hU hW
    refine ⟨rfl, by rw [hU]; exact hI, va_K.moved hW.alike hK, mj_nw_warm hnf hW hNw, ?_⟩
    have hbh : b < s.heap.size := Nat.lt_of_lt_of_le hbl hbs
    exact va_X.moved hW.alike (va_X.kept hX (by rw [hU]; exact hS.2.1 b hbh (Nat.not_le.mpr hbl)))
  have hcat : ∀ (S' : List mj_V), S'.length ≤ 8 → ((S'.map (mj_cv (mj_ad b base))).map fun v => v.category).sum ≤ 8 := by
    intro S' hS'
    rw [mj_cat_sum]; exact hS'
  -- behind a call
  have hgo : ∀ (r : Option mj_V) (h' : mj_H) (a9 : Array Value), x = (pc + 3, L, r.toList ++ S.drop n, h') → 
      va_Run p l e R s m args below meth c H locs cells slots (h'.length - h.length) (mj_sz h' - mj_sz h) (F0 m pc ls (S.map (mj_cv (mj_ad b base)))) ((S.drop n).map (mj_cv (mj_ad b base))) (mj_Qc D cl cA b base (mj_z nX xs) r h' a9) (fun q : Nat => base ≤ q) → 
      W p l e R s m args below meth c H locs cells slots Q (F0 m pc ls (S.map (mj_cv (mj_ad b base)))) := by
    intro r h' a9 ex hr
    subst ex
    refine mj_callk hr hS (fun H1 locs1 hI1 hS1 => ?_)
    have k9 := kk H1 locs1 _ _ hl hI1 hS1 rfl rfl
    have es : (r.toList ++ S.drop n).map (mj_cv (mj_ad b base)) = (r.map (mj_cv (mj_ad b base))).toList ++ (S.drop n).map (mj_cv (mj_ad b base)) := by
      cases r <;> simp
    have k9 : W p l e R s m args below meth c H1 locs1 (cells + (h'.length - h.length)) (slots + (mj_sz h' - mj_sz h)) Q (F0 m (pc + 3) ls ((r.toList ++ S.drop n).map (mj_cv (mj_ad b base)))) := k9
    rw [es] at k9
    exact k9
  cases ins with
  | invokestatic ix =>
    have hst : (if y = 9998 then mj_b3 (fun x y => if y < x then y else x) pc L S h else if y = 9997 then mj_b3 (fun x y => if x < y then y else x) pc L S h else mj_inv call y n pc L S h) = some x := hst
    rcases hk with ⟨h1, hlk, hsc, hin1, hcd⟩ | ⟨h1, hlk, hsc, hin1, hcd⟩ | ⟨h1, h2, hk⟩
    · have h1 : y = 9998 := h1
      rw [if_pos h1] at hst
      obtain ⟨u, v, S0, rfl, h8, rfl⟩ := mj_b3_inv hst
      have hc8 := hcat S0 h8
      refine va_mmin hx hb (by rw [hml]; exact hl.1.1.symm) hown (hts _ hlk) (hts _ hsc) (hts _ hin1) (hts _ hcd) (by omega) (by omega) (by omega) (by omega) hd ?_
      exact kk H locs cells slots hl hI hS (by simp) (by simp)
    · have h1 : y = 9997 := h1
      rw [if_neg (by omega), if_pos h1] at hst
      obtain ⟨u, v, S0, rfl, h8, rfl⟩ := mj_b3_inv hst
      have hc8 := hcat S0 h8
      refine va_mmax hx hb (by rw [hml]; exact hl.1.1.symm) hown (hts _ hlk) (hts _ hsc) (hts _ hin1) (hts _ hcd) (by omega) (by omega) (by omega) (by omega) hd ?_
      exact kk H locs cells slots hl hI hS (by simp) (by simp)
    rw [if_neg h1, if_neg h2] at hst
    obtain ⟨r, h', hn1, hn2, hcall, ex⟩ := mj_inv_inv (y := y) (n := n) hst
    obtain ⟨⟨hm, hnl, hini, hcls, hlink⟩, hstc, hpar⟩ := hk
    have hm : mj_okm P Ts yn cc rt y := hm
    have hnl : n ≤ P.2.1 y := hnl
    have hrc : cells + (h'.length - h.length) ≤ R.cells := by rw [ex] at hrc; exact hrc
    have hrs : slots + (mj_sz h' - mj_sz h) ≤ R.slots := by rw [ex] at hrs; exact hrs
    have hlt : ((S.take n).reverse).length = n := by rw [List.length_reverse, List.length_take]; omega
    have hM := (hCK y _ h r h' hcall).2 hm (by rw [hlt]; exact hnl)
    have hst0 : S.map (mj_cv (mj_ad b base)) = (((S.take n).reverse).map (mj_cv (mj_ad b base))).reverse ++ (S.drop n).map (mj_cv (mj_ad b base)) := by
      rw [← List.map_reverse, List.reverse_reverse, ← List.map_append, List.take_append_drop]
    refine hgo r h' (((S.take n).reverse).map (mj_cv (mj_ad b base))).toArray ex ?_
    rcases hlink with hlk | ⟨host, hlk⟩
    · exact va_runS (g := F0 m pc ls (S.map (mj_cv (mj_ad b base)))) hF hM ⟨callB_of n hts (hG y hm) rfl rfl rfl (hts _ hini) (hts _ hlk) ⟨hcls.1, hcls.2, hpar⟩ (hroom y hm h'), hts _ hstc⟩ ⟨mj_blind hnf, hpre _⟩ rfl (by rw [List.length_map]; exact hlt) hl.1.1 hst0 (lv_room (hcat _ (by rw [List.length_drop]; omega))) hd ⟨hrc, hrs⟩
    · exact va_runSN (g := F0 m pc ls (S.map (mj_cv (mj_ad b base)))) hF hM ⟨va_cnB n hts (hG y hm) rfl rfl rfl (hNw _ hlk) (hts _ hini) ⟨hcls.1, hcls.2, hpar⟩ (hroom y hm h'), hts _ hstc, trivial⟩ ⟨mj_blind hnf, hpre _⟩ rfl (by rw [List.length_map]; exact hlt) hl.1.1 hst0 (lv_room (hcat _ (by rw [List.length_drop]; omega))) hd ⟨hrc, hrs⟩
  | invokevirtual ix =>
    have hst : (if mj_rcv (P.2.2.2.2.2 y) (n - 1) S h = true then mj_inv call y n pc L S h else none) = some x := hst
    obtain ⟨⟨hm, hnl, hini, hcls, hlink⟩, hn0, hinst, hsel, hpar, h100, T, N, hcl⟩ := hk
    have hn0 : 1 ≤ n := hn0
    have h100 : P.2.2.2.2.2 y < 100 := h100
    have hm : mj_okm P Ts yn cc rt y := hm
    have hnl : n ≤ P.2.1 y := hnl
    by_cases hrv : mj_rcv (P.2.2.2.2.2 y) (n - 1) S h = true
    · rw [if_pos hrv] at hst
      obtain ⟨r, h', hn1, hn2, hcall, ex⟩ := mj_inv_inv (y := y) (n := n) hst
      obtain ⟨a, vs, hsa, hha⟩ := mj_rcv_inv hrv
      obtain ⟨n, rfl⟩ : ∃ k, n = k + 1 := ⟨n - 1, by omega⟩
      rw [Nat.add_sub_cancel] at hsa
      have hpar : (parseMethodDescriptor (yn y).desc).map (fun d => d.parameters.length) = some n := hpar
      have hrc : cells + (h'.length - h.length) ≤ R.cells := by rw [ex] at hrc; exact hrc
      have hrs : slots + (mj_sz h' - mj_sz h) ≤ R.slots := by rw [ex] at hrs; exact hrs
      have htk := mj_take hsa
      have has : (S.take (n + 1)).reverse = .inr (some a) :: (S.take n).reverse := by rw [htk]; simp
      rw [has] at hcall
      have hlt : ((S.take n).reverse).length = n := by rw [List.length_reverse, List.length_take]; omega
      have hM := (hCK y _ h r h' hcall).2 hm (by rw [List.length_cons, hlt]; exact hnl)
      have hst0 : S.map (mj_cv (mj_ad b base)) = (((S.take n).reverse).map (mj_cv (mj_ad b base))).reverse ++ .ref (mj_ad b base a) :: (S.drop (n + 1)).map (mj_cv (mj_ad b base)) := by
        rw [← List.map_reverse, List.reverse_reverse]
        conv => lhs; rw [mj_cut hsa]
        rw [List.map_append]
        rfl
      obtain ⟨t, rfl, hHs, hP⟩ := id hI
      have hrec : ∃ cell : Cell, H[mj_ad b base a]? = some cell ∧ cell.vm.isStatics = false ∧ s.vm.findClass (yn y).cls = some cell.cls := by
        cases a with
        | zero =>
          rw [List.getElem?_cons_zero] at hha
          have e9 : (100 : Nat) = P.2.2.2.2.2 y := congrArg Prod.fst (Option.some.inj hha)
          omega
        | succ k =>
          have he := mj_at (ad := mj_ad b base) (cA := cA) (base := base) hha
          rw [show mj_ce (mj_ad b base) cA (P.2.2.2.2.2 y, vs) = .inr (P.2.2.2.2.2 y, vs.map (mj_cv (mj_ad b base))) from if_pos h100] at he
          exact va_recv hK hP hcl he
      refine hgo r h' (Value.ref (mj_ad b base a) :: ((S.take n).reverse).map (mj_cv (mj_ad b base))).toArray ex ?_
      rcases hlink with hlk | ⟨host, hlk⟩
      · exact va_runV (g := F0 m pc ls (S.map (mj_cv (mj_ad b base)))) hF hM ⟨callB_of n hts (hG y hm) rfl rfl rfl (hts _ hini) (hts _ hlk) ⟨hcls.1, hcls.2, hpar⟩ (hroom y hm h'), hts _ hinst, hts _ hsel⟩ ⟨mj_blind hnf, hrec, hpre _⟩ rfl (by rw [List.length_map]; exact hlt) hl.1.1 hst0 (lv_room (hcat _ (by rw [List.length_drop]; omega))) hd ⟨hrc, hrs⟩
      · exact va_runVN (g := F0 m pc ls (S.map (mj_cv (mj_ad b base)))) hF hM ⟨va_cnB n hts (hG y hm) rfl rfl rfl (hNw _ hlk) (hts _ hini) ⟨hcls.1, hcls.2, hpar⟩ (hroom y hm h'), hts _ hinst, hts _ hsel⟩ ⟨mj_blind hnf, hrec, hpre _⟩ rfl (by rw [List.length_map]; exact hlt) hl.1.1 hst0 (lv_room (hcat _ (by rw [List.length_drop]; omega))) hd ⟨hrc, hrs⟩
    · rw [if_neg hrv] at hst; cases hst
  | invokespecial ix =>
    rcases hk with ⟨hy, hlk, hin1, hcd⟩ | ⟨hy, ⟨hm, hnl, hini, hcls, hlink⟩, hn0, hinst, hnm, hrt0, hpar, h100⟩
    · have hy : y = 9999 := hy
      subst hy
      rcases S with _ | ⟨v | _ | a, S⟩ <;> first | (cases hst; done) | skip
      by_cases h8 : S.length ≤ 8
      · have ex : (pc + 3, L, S, h) = x := Option.some.inj ((if_pos h8).symm.trans hst)
        subst ex
        refine W.objInit hx hb hown (hts _ hlk) (hts _ hin1) (hts _ hcd) rfl (by rw [hml]; exact hl.1.1) rfl hd (by omega) ?_ ?_
        · have h9 := lv_room (m := m) (pc := pc) (ls := ls) (rest := ((.inr (some a) :: S : List mj_V).map (mj_cv (mj_ad b base)))) (hcat S h8)
          have h10 : 60 ≤ R.locals := by omega
          show 2 * _ + ((S.map (mj_cv (mj_ad b base))).map fun v => v.category).sum + 12 ≤ R.locals
          omega
        · exact kk H locs cells slots hl hI hS (by simp) (by simp)
      · exact absurd ((if_neg h8).symm.trans hst) (fun q => by cases q)
    · have hst : (if y = 9999 then mj_oin pc L S h else if mj_rcv (P.2.2.2.2.2 y) (n - 1) S h = true then mj_inv call y n pc L S h else none) = some x := hst
      rw [if_neg hy] at hst
      by_cases hrv : mj_rcv (P.2.2.2.2.2 y) (n - 1) S h = true
      · rw [if_pos hrv] at hst
        obtain ⟨r, h', hn1, hn2, hcall, ex⟩ := mj_inv_inv (y := y) (n := n) hst
        obtain ⟨a, vs, hsa, hha⟩ := mj_rcv_inv hrv
        obtain ⟨n, rfl⟩ : ∃ k, n = k + 1 := ⟨n - 1, by have : 1 ≤ n := hn0; omega⟩
        rw [Nat.add_sub_cancel] at hsa
        have hpar : (parseMethodDescriptor (yn y).desc).map (fun d => d.parameters.length) = some n := hpar
        have hrc : cells + (h'.length - h.length) ≤ R.cells := by rw [ex] at hrc; exact hrc
        have hrs : slots + (mj_sz h' - mj_sz h) ≤ R.slots := by rw [ex] at hrs; exact hrs
        have htk := mj_take hsa
        have has : (S.take (n + 1)).reverse = .inr (some a) :: (S.take n).reverse := by rw [htk]; simp
        rw [has] at hcall
        have hlt : ((S.take n).reverse).length = n := by rw [List.length_reverse, List.length_take]; omega
        have hM := (hCK y _ h r h' hcall).2 hm (by rw [List.length_cons, hlt]; exact hnl)
        have hrt0 : rt y = none := hrt0
        unfold mj_ws at hM
        have hGy := hG y hm
        unfold mj_ws at hGy
        rw [hrt0] at hM hGy
        have hst0 : S.map (mj_cv (mj_ad b base)) = (((S.take n).reverse).map (mj_cv (mj_ad b base))).reverse ++ .ref (mj_ad b base a) :: (S.drop (n + 1)).map (mj_cv (mj_ad b base)) := by
          rw [← List.map_reverse, List.reverse_reverse]
          conv => lhs; rw [mj_cut hsa]
          rw [List.map_append]
          rfl
        refine hgo r h' (Value.ref (mj_ad b base a) :: ((S.take n).reverse).map (mj_cv (mj_ad b base))).toArray ex ?_
        rcases hlink with hlk | ⟨host, hlk⟩
        · exact va_runI (g := F0 m pc ls (S.map (mj_cv (mj_ad b base)))) hF hM ⟨callB_of n hts hGy rfl rfl rfl (hts _ hini) (hts _ hlk) ⟨hcls.1, hcls.2, hpar⟩ (hroom y hm h'), hnm, hts _ hinst⟩ ⟨mj_blind hnf, hpre (.inr (some a) :: (S.take n).reverse)⟩ rfl (by rw [List.length_map]; exact hlt) hl.1.1 hst0 (lv_room (hcat _ (by rw [List.length_drop]; omega))) hd ⟨hrc, hrs⟩
        · exact va_runIN (g := F0 m pc ls (S.map (mj_cv (mj_ad b base)))) hF hM ⟨va_cnB n hts hGy rfl rfl rfl (hNw _ hlk) (hts _ hini) ⟨hcls.1, hcls.2, hpar⟩ (hroom y hm h'), hnm, hts _ hinst⟩ ⟨mj_blind hnf, hpre (.inr (some a) :: (S.take n).reverse)⟩ rfl (by rw [List.length_map]; exact hlt) hl.1.1 hst0 (lv_room (hcat _ (by rw [List.length_drop]; omega))) hd ⟨hrc, hrs⟩
      · rw [if_neg hrv] at hst; cases hst
  | _ => cases hg
end STEP3
