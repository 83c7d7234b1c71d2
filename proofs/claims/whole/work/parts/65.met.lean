/-- the program as the tables have it -/
def mj_OK (P : mj_P) (cl : List vw_C) (tyf : Nat → Nat → FieldType) (Ts Nw : List Cond) (ak : List Nat) (yn : Nat → MethodName) (cc : Nat → ByteArray) (rt : Nat → Option FieldType) : Prop :=
  (∀ M pc i, P.1 M pc = some i → mj_oki P cl tyf Ts Nw ak yn cc rt M pc i) ∧ (∀ w ∈ Ts, goodWord w = true) ∧ mj_nwf Nw
theorem mj_cover {P : mj_P} {call : Nat → List mj_V → mj_H → Option mj_R} {i : mj_I} {pc : Nat} {L : mj_L} {S : List mj_V} {h : mj_H} {x : mj_N} (hst : mj_st P call i pc L S h = some x) : mj_g1 i.1 = true ∨ mj_g2 i.1 = true ∨ mj_g3 i.1 = true := by
  obtain ⟨ins, len, a, b⟩ := i
  cases ins <;> first | exact Or.inl rfl | exact Or.inr (Or.inl rfl) | exact Or.inr (Or.inr rfl) | (cases hst; done)
section WALK
variable {p : Program} {l : Launch} {e : Env} {R : Room} {s : State} {m : MethodId} {args : Array Value} {below : List Frame} {meth : Method} {c : Code} {Q : State → Prop}
variable {P : mj_P} {cl : List vw_C} {tyf : Nat → Nat → FieldType} {Ts Nw : List Cond} {ak : List Nat} {yn : Nat → MethodName} {cc : Nat → ByteArray} {rt : Nat → Option FieldType}
set_option maxHeartbeats 4000000 in
theorem mj_walk {M nL b base nX d : Nat} {xs : Nat → Int32} {D : va_G} {cA : Nat → ClassId} {call : Nat → List mj_V → mj_H → Option mj_R} (hOK : mj_OK P cl tyf Ts Nw ak yn cc rt) (hx : p.tables.exec = Jvm.exec) (hb : c.code = cc M) (hml : c.maxLocals = nL) (hown : s.vm.findClass (yn M).cls = some m.cls) (hnm : (yn M).name = "<init>" → meth.name = "<init>") (hts : ∀ w ∈ Ts, w.before args s = true) (hNw : ∀ w ∈ Nw, va_Nw w s) (hK : va_K D cl (mj_ty cl cA ak) s) (hX : va_X b nX xs s s.heap) (hbl : b < base) (hbs : base ≤ s.heap.size)
    (hCK : mj_CK l P cl Ts Nw ak yn cc rt D cA b base nX xs d call) (hfr : d + 1 ≤ R.frames) (hlo : 60 * (d + 1) ≤ R.locals) {r : Option mj_V} {h' : mj_H} {CE SE : Nat} (hCE : CE ≤ R.cells) (hSE : SE ≤ R.slots)
    (exit : ∀ (pc : Nat) (ls : Array Slot) (S : List mj_V) (H : Heap) (locs : List Loc) (i : mj_I), decode (cc M) pc = .ok (i.1, mj_len i) → mj_rt (P.2.2.1 M) i.1 S h' = some (r, h') → mj_In D cl cA b base (mj_z nX xs) h' H → va_S (fun q : Nat => base ≤ q) s.heap H locs → W p l e R s m args below meth c H locs CE SE Q (F0 m pc ls (S.map (mj_cv (mj_ad b base))))) :
    ∀ (n pc : Nat) (L : mj_L) (S : List mj_V) (h : mj_H), mj_it (mj_stp P call M) n (pc, L, S, h) = some (r, h') → ∀ (ls : Array Slot) (H : Heap) (locs : List Loc) (cells slots : Nat), mj_LO (mj_ad b base) ls nL L → mj_In D cl cA b base (mj_z nX xs) h H → va_S (fun q : Nat => base ≤ q) s.heap H locs → cells + (h'.length - h.length) = CE → slots + (mj_sz h' - mj_sz h) = SE → W p l e R s m args below meth c H locs cells slots Q (F0 m pc ls (S.map (mj_cv (mj_ad b base)))) := by
  have hcm : ∀ (y : Nat) (as : List mj_V) (h : mj_H) (r : Option mj_V) (h' : mj_H), call y as h = some (r, h') → mj_le h h' := fun y as h r h' q => (hCK y as h r h' q).1
  have hadi := mj_ad_inj hbl
  intro n
  induction n with
  | zero => intro pc L S h e9; cases e9
  | succ n ih =>
    intro pc L S h e9 ls H locs cells slots hl hI hS hc hs
    simp only [mj_it] at e9
    unfold mj_stp at e9
    cases hi : P.1 M pc with
    | none => simp only [hi] at e9; cases e9
    | some i =>
      simp only [hi] at e9
      have hok := hOK.1 M pc i hi
      by_cases hr : mj_ir i.1 = true
      · simp only [if_pos hr] at e9
        cases hq : mj_rt (P.2.2.1 M) i.1 S h with
        | none => rw [hq] at e9; cases e9
        | some q =>
          rw [hq] at e9
          have e9 : q = (r, h') := Option.some.inj e9
          subst e9
          have eh : h' = h := by
            rcases mj_rt_inv hq with ⟨v, -, -, -, z⟩ | ⟨v, -, -, -, z⟩ | ⟨-, -, -, z⟩ <;> exact congrArg Prod.snd z
          subst eh
          rw [Nat.sub_self, Nat.add_zero] at hc hs
          subst hc; subst hs
          exact exit pc ls S H locs i hok.1 hq hI hS
      · simp only [if_neg hr] at e9
        cases hq : mj_st P call i pc L S h with
        | none => rw [hq] at e9; cases e9
        | some y =>
          rw [hq] at e9
          obtain ⟨pc', L', S', h2⟩ := y
          have e9 : mj_it (mj_stp P call M) n (pc', L', S', h2) = some (r, h') := e9
          have hle1 : mj_le h h2 := mj_st_le hcm hq
          have hle2 : mj_le h2 h' := mj_it_le hcm n _ _ e9
          obtain ⟨a1, a2⟩ := hle1
          obtain ⟨a3, a4⟩ := hle2
          have hrc : cells + (h2.length - h.length) ≤ R.cells := by omega
          have hrs : slots + (mj_sz h2 - mj_sz h) ≤ R.slots := by omega
          rcases mj_cover hq with hg | hg | hg
          · obtain ⟨eh, hgo⟩ := mj_step1 (p := p) (l := l) (e := e) (R := R) (s := s) (m := m) (args := args) (below := below) (meth := meth) (c := c) (H := H) (locs := locs) (cells := cells) (slots := slots) (Q := Q) hx hb hl hadi hok hq hg
            have eh : h2 = h := eh
            subst eh
            exact hgo (fun ls' hl' => ih pc' L' S' h2 e9 ls' H locs cells slots hl' hI hS hc hs)
          · refine mj_step2 hx hb hown hnm hts hNw hK hX hbl hbs hl hI hS hok hq hg hrc hrs (fun H' locs' cells' slots' hl' hI' hS' ec es => ?_)
            refine ih pc' L' S' h2 e9 ls H' locs' cells' slots' hl' hI' hS' ?_ ?_
            · have ec : cells' = cells + (h2.length - h.length) := ec
              omega
            · have es : slots' = slots + (mj_sz h2 - mj_sz h) := es
              omega
          · refine mj_step3 hx hb hml hown hts hOK.2.1 hOK.2.2 hNw hK hX hbl hbs hCK hfr hlo hl hI hS hok hq hg hrc hrs (fun H' locs' cells' slots' hl' hI' hS' ec es => ?_)
            refine ih pc' L' S' h2 e9 ls H' locs' cells' slots' hl' hI' hS' ?_ ?_
            · have ec : cells' = cells + (h2.length - h.length) := ec
              omega
            · have es : slots' = slots + (mj_sz h2 - mj_sz h) := es
              omega
end WALK
set_option maxHeartbeats 4000000 in
/-- THE CONTRACT of every method, out of what the small machine answers -/
theorem mj_met {P : mj_P} {cl : List vw_C} {tyf : Nat → Nat → FieldType} {Ts Nw : List Cond} {ak : List Nat} {yn : Nat → MethodName} {cc : Nat → ByteArray} {rt : Nat → Option FieldType} (hOK : mj_OK P cl tyf Ts Nw ak yn cc rt) (l : Launch) (D : va_G) (cA : Nat → ClassId) (b base nX : Nat) (xs : Nat → Int32) (hbl : b < base) : ∀ d : Nat, mj_CK l P cl Ts Nw ak yn cc rt D cA b base nX xs d (mj_Cl P d) := by
  intro d
  induction d with
  | zero => intro y as h r h' e9; cases e9
  | succ d ih =>
    intro y as h r h' e9
    have hcm : ∀ (y : Nat) (as : List mj_V) (h : mj_H) (r : Option mj_V) (h' : mj_H), mj_Cl P d y as h = some (r, h') → mj_le h h' := fun y as h r h' q => (ih y as h r h' q).1
    have e9 : mj_fix (mj_stp P (mj_Cl P d) y) (mj_en P y as h) = some (r, h') := e9
    obtain ⟨n, hn⟩ := mj_fix_some.mp e9
    refine ⟨mj_it_le hcm n _ _ hn, fun hm hal => ?_⟩
    refine Met.ofW (cc := cc y) (maxL := P.2.1 y) (ret := rt y) hm.1 rfl ?_
    intro p e s m args below meth c s₁ B hml hv
    obtain ⟨rfl, hI, hK, hNw, hX⟩ := hv
    have hts0 := atoms_spec (ws := mj_ws P Ts yn cc rt y) B.pre
    have hts : ∀ w ∈ Ts, w.before ((as.map (mj_cv (mj_ad b base))).toArray) s = true := fun w hw => hts0 w (List.mem_cons_of_mem _ hw)
    have hown : s.vm.findClass (yn y).cls = some m.cls := findClass_of_methodNamed B.named
    have hnm : (yn y).name = "<init>" → meth.name = "<init>" := fun q => (name_of_methodNamed B.named B.method).1.trans q
    have hbs : base ≤ s.heap.size := by rw [mj_hd hI]; omega
    have hl := mj_LO.entry (mj_ad b base) as hal
    have hlocks := B.notSynchronized
    rw [lg_entry_eq]
    have hr := B.returns
    refine mj_walk (d := d) (call := mj_Cl P d) hOK B.exec B.bytes hml hown hnm hts hNw hK hX hbl hbs ih (Nat.le_refl _) (Nat.le_refl _) (CE := h'.length - h.length) (SE := mj_sz h' - mj_sz h) (Nat.le_refl _) (Nat.le_refl _) ?_ n 0 _ [] h hn _ s.heap [] 0 0 hl hI va_S.rf (Nat.zero_add _) (Nat.zero_add _)
    intro pc ls S H locs i hd hrt hI' hS'
    rcases mj_rt_inv hrt with ⟨v, ei, rfl, hk, er⟩ | ⟨v, ei, rfl, hk, er⟩ | ⟨ei, rfl, hk, er⟩
    · obtain ⟨ins, len, a1, a2⟩ := i
      have ei : ins = .ireturn := ei
      subst ei
      obtain rfl : r = some (.inl v) := congrArg Prod.fst er
      rcases hk with hk | ⟨hk, hv⟩
      · exact W.iret B.exec B.bytes (hr.trans (hm.2.2.2.2.1 hk)) (fun t ht hW => ⟨rfl, by rw [ht]; exact hI', hS'.F ht⟩) hS'.2.2 hd
      · refine W.zret B.exec B.bytes (hr.trans (hm.2.2.2.2.2.1 hk)) ?_ (fun t ht hW => ⟨rfl, by rw [ht]; exact hI', hS'.F ht⟩) hS'.2.2 hd
        rcases hv with rfl | rfl <;> decide
    · obtain ⟨ins, len, a1, a2⟩ := i
      have ei : ins = .areturn := ei
      subst ei
      obtain rfl : r = some (.inr v) := congrArg Prod.fst er
      obtain ⟨E, hE⟩ := hm.2.2.2.2.2.2 hk
      exact W.aret B.exec B.bytes (hr.trans hE) (Or.inl ⟨E, rfl⟩) (by cases v with
        | none => exact Or.inl rfl
        | some v => exact Or.inr ⟨_, rfl⟩) (fun t ht hW => ⟨rfl, by rw [ht]; exact hI', hS'.F ht⟩) hS'.2.2 hd
    · obtain ⟨ins, len, a1, a2⟩ := i
      have ei : ins = .return_ := ei
      subst ei
      obtain rfl : r = none := congrArg Prod.fst er
      exact W.vret B.exec B.bytes (hr.trans (hm.2.2.2.1 hk)) (fun t ht hW => ⟨rfl, by rw [ht]; exact hI', hS'.F ht⟩) hS'.2.2 hd
