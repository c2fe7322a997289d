/-! the law's entry -/
def R_law : String := "HallBuildsLaw"
def lw_P (b : Addr) (xs : List Int32) (args : Array Value) (s : State) : Prop := args = #[.ref b] ∧ s.IntsAt b xs ∧ xs.length ≤ 2560 ∧ (Jvm.Cond.and given_1 narrow_1).before args s = true
def lw_Q (_ : Array Value) (s : State) (o : Outcome) (t : State) : Prop := o = .returned (some (.int 1)) ∧ Framed s o t [] 600000 7302250
def lw_Z (below : List Frame) (a : Array Value) (s : State) : State → Prop := fun t => ∃ o, t.status = .running ∧ Ended t below o ∧ lw_Q a s o t
/-- the law's own end, with 1 on the stack, nothing written that was there before, its room as the claim has it -/
theorem lw_ret {p : Program} {l : Launch} {e : Env} {s : State} {m : MethodId} {below : List Frame} {meth : Method} {c : Code} {b : Nat} (hx : p.tables.exec = Jvm.exec) (hb : c.code = code) (hr : meth.sig.returnType = ret) (hlocks : meth.locks = false) {pc : Nat} {H : Heap} {ls : Array Slot} (hdg : decode code pc = .ok (.ireturn, 1)) : W p l e room_1 s m #[Value.ref b] below meth c H [] 600000 7302250 (lw_Z below #[Value.ref b] s) (F0 m pc ls [.int 1]) := by
  intro T hT X
  obtain ⟨fs, hret, hrun, hended, hW, hframe⟩ := X.leave (v := some (.int 1)) (hlocks := hlocks) (fun h => by rw [hr] at h; cases h)
  have hmeth' : T.vm.method? m = some meth := X.method'
  refine ⟨T.setFrames fs, ?_, .returned (some (.int 1)), hrun, hended, rfl, ⟨_, rfl⟩, hW, hframe⟩
  jvm_step X.here [X.here.top, hx, hb, hdg, hmeth', hr, ret, narrow_b1]
  (try refine ⟨rfl, ?_⟩); (try refine ⟨rfl, ?_⟩)
  first | (intro acts; rw [hret _ acts rfl rfl rfl]) | rw [hret _ _ rfl rfl rfl]
  exact Steps.refl _
/-- what holds at the law's entry: the machine, the code, the tables' words (any of lw_tbl by 'hts w (by decide +kernel)'), the script of L ints xs at the cell b, what the Statement gives of the start (any of its parts by flat_of_before) -/
def lw_At (p : Program) (s : State) (m : MethodId) (meth : Method) (c : Code) (b L : Nat) (xs : Nat → Int32) : Prop :=
  p.tables.exec = Jvm.exec ∧ c.code = code ∧ meth.sig.returnType = ret ∧ c.maxLocals = 4 ∧ s.vm.findClass R_law = some m.cls ∧ (∀ w ∈ lw_tbl, w.before #[Value.ref b] s = true) ∧ va_X b L xs s s.heap ∧ b < s.heap.size ∧ meth.locks = false ∧ (Jvm.Cond.and given_1 narrow_1).before #[Value.ref b] s = true
theorem enNF : ∀ q ∈ hNF, Cond.fieldLinkNest q.1 q.2.1 q.2.2.1 q.2.2.2.1 q.2.2.2.2 "HallBuilds" ∈ lw_tbl := by decide +kernel
theorem enNM : ∀ q ∈ hNM, Cond.methodLinkNest q.1 q.2.1 q.2.2 "HallBuilds" ∈ lw_tbl := by decide +kernel
def enWs : List Cond := [Cond.castable "[I" "java/lang/Cloneable", Cond.arrayOver (.object "HallBuilds$Hall"), Cond.laysStatic "HallBuilds" "FIRST_SETTINGS" "[I", Cond.laysStatic "HallBuilds" "MOST_OF_SETTINGS" "[I", Cond.initialized "HallBuilds", Cond.arrayClass .int, Cond.arrayClass .char, Cond.arrayClass .boolean, Cond.instantiable RX0 7, Cond.instantiable RX1 7, Cond.instantiable RX2 3, Cond.instantiable RX3 8, Cond.instantiable RX4 2, Cond.instantiable RX5 2, Cond.instantiable RX6 11, Cond.instantiable RX7 6, Cond.instantiable RX8 14]
theorem enW : ∀ w ∈ enWs, w ∈ lw_tbl := by decide +kernel
theorem enArr {args : Array Value} {s : State} {ty : FieldType} (h : (Cond.arrayClass ty).before args s = true) : ∃ c, ArrOfT s c ty ∧ s.vm.findClass ("[" ++ ty.toString) = some c := by
  obtain ⟨c, k, comp, h1, h2, h3⟩ := Cond.arrayClass_spec h
  exact ⟨c, fun N z => ⟨(fun k h => by cases h), k, h2, comp, h3⟩, h1⟩
theorem enArrQ {args : Array Value} {s : State} {n : String} (h : (Cond.arrayOver (.object n)).before args s = true) : ∃ c, ArrOfT s c (.object n) ∧ va_RA s c (.object n) := by
  obtain ⟨comp, c, k, h1, h2, h3, h4, h5⟩ := Cond.arrayOver_spec h
  exact ⟨c, fun N z => ⟨(fun k h => by cases h), k, h3, comp, h4⟩, k, comp, h3, h4, h1, h5⟩
abbrev enF : Term := .static "HallBuilds" "FIRST_SETTINGS" "[I"
abbrev enM : Term := .static "HallBuilds" "MOST_OF_SETTINGS" "[I"
def enGs : List Cond := [Cond.arrayOf enF .int, Cond.arrayOf enM .int, Cond.eq (.length enF) (.int 3), Cond.eq (.length enM) (.int 3), Cond.eq (.elem enF (.int 0)) (.int 20), Cond.eq (.elem enF (.int 1)) (.int 2), Cond.eq (.elem enF (.int 2)) (.int 60), Cond.eq (.elem enM (.int 0)) (.int 60), Cond.eq (.elem enM (.int 1)) (.int 9), Cond.eq (.elem enM (.int 2)) (.int 999), Cond.exactly enF "[I"]
theorem enL {args : Array Value} {s : State} {t : Term} {v : Value} (h : (Term.length t).eval args s none [] s = some v) : ∃ a cell, t.eval args s none [] s = some (.ref a) ∧ s.arrayAt? a = some cell ∧ v = .int cell.slots.size.toInt32 ∧ cell.slots.size < 2 ^ 31 := by
  obtain ⟨b, cell, ht, harr, hv⟩ := Term.length_spec h
  refine ⟨b, cell, ht, harr, hv, ?_⟩
  simp only [Term.eval, ht, harr, Option.bind_eq_bind, Option.bind_some] at h
  by_cases hlt : cell.slots.size < 2147483648
  · exact hlt
  · simp [hlt] at h
theorem enE {args : Array Value} {s : State} {t : Term} {k : Nat} {v : Value} {a : Nat} {cell : Cell} (hk : k < 2 ^ 31) (ht : t.eval args s none [] s = some (.ref a)) (hat : s.arrayAt? a = some cell) (h : (Term.elem t (.int (Int32.ofNat k))).eval args s none [] s = some v) : cell.slots[k]? = some v := by
  obtain ⟨a', i, cell2, h1, h2, h3, h4, h5⟩ := Term.elem_spec h
  cases ht.symm.trans h1
  cases hat.symm.trans h3
  have e : (Term.int (Int32.ofNat k)).eval args s none [] s = some (.int (Int32.ofNat k)) := rfl
  cases h2.symm.trans e
  rw [show (Int32.ofNat k).toNatClampNeg = k from nI_clamp hk] at h5
  exact h5
theorem en_hX {p : Program} {s : State} {m : MethodId} {meth : Method} {c : Code} {b L : Nat} {xs : Nat → Int32} (C0 : lw_At p s m meth c b L xs) : ∃ G : hG, hX p s m #[Value.ref b] meth c G (fun q => s.heap.size ≤ q) 4 code R_law wsL_law ret := by
  obtain ⟨hexec, hcode, hret, hml, hown, hts, hXs, hbl, hlk, hgv⟩ := C0
  have hw : ∀ w ∈ enWs, w.before #[Value.ref b] s = true := fun w h => hts w (enW w h)
  have hfl := flat_of_before _ hgv
  have g0 : (Cond.arrayOf enM .int).before #[Value.ref b] s = true := hfl _ (by decide +kernel)
  have g1 : (Cond.eq (.length enM) (.int 3)).before #[Value.ref b] s = true := hfl _ (by decide +kernel)
  have g2 : (Cond.eq (.elem enM (.int 0)) (.int 60)).before #[Value.ref b] s = true := hfl _ (by decide +kernel)
  have g3 : (Cond.eq (.elem enM (.int 1)) (.int 9)).before #[Value.ref b] s = true := hfl _ (by decide +kernel)
  have g4 : (Cond.eq (.elem enM (.int 2)) (.int 999)).before #[Value.ref b] s = true := hfl _ (by decide +kernel)
  have g5 : (Cond.eq (.length enF) (.int 3)).before #[Value.ref b] s = true := hfl _ (by decide +kernel)
  have g6 : (Cond.eq (.elem enF (.int 0)) (.int 20)).before #[Value.ref b] s = true := hfl _ (by decide +kernel)
  have g7 : (Cond.eq (.elem enF (.int 1)) (.int 2)).before #[Value.ref b] s = true := hfl _ (by decide +kernel)
  have g8 : (Cond.eq (.elem enF (.int 2)) (.int 60)).before #[Value.ref b] s = true := hfl _ (by decide +kernel)
  have g9 : (Cond.exactly enF "[I").before #[Value.ref b] s = true := hfl _ (by decide +kernel)
  have hA : ∀ a : Nat, a < s.heap.size → ¬ s.heap.size ≤ a := fun a h => Nat.not_le.mpr h
  obtain ⟨c0, i0, k0⟩ := u_known hts inX0 (hw (.instantiable RX0 7) (List.mem_of_getElem? (i := 8) rfl))
  obtain ⟨c1, i1, k1⟩ := u_known hts inX1 (hw (.instantiable RX1 7) (List.mem_of_getElem? (i := 9) rfl))
  obtain ⟨c2, i2, k2⟩ := u_known hts inX2 (hw (.instantiable RX2 3) (List.mem_of_getElem? (i := 10) rfl))
  obtain ⟨c3, i3, k3⟩ := u_known hts inX3 (hw (.instantiable RX3 8) (List.mem_of_getElem? (i := 11) rfl))
  obtain ⟨c4, i4, k4⟩ := u_known hts inX4 (hw (.instantiable RX4 2) (List.mem_of_getElem? (i := 12) rfl))
  obtain ⟨c5, i5, k5⟩ := u_known hts inX5 (hw (.instantiable RX5 2) (List.mem_of_getElem? (i := 13) rfl))
  obtain ⟨c6, i6, k6⟩ := u_known hts inX6 (hw (.instantiable RX6 11) (List.mem_of_getElem? (i := 14) rfl))
  obtain ⟨c7, i7, k7⟩ := u_known hts inX7 (hw (.instantiable RX7 6) (List.mem_of_getElem? (i := 15) rfl))
  obtain ⟨c8, i8, k8⟩ := u_known hts inX8 (hw (.instantiable RX8 14) (List.mem_of_getElem? (i := 16) rfl))
  obtain ⟨cI, aI, fI⟩ := enArr (hw (.arrayClass .int) (List.mem_of_getElem? (i := 5) rfl))
  obtain ⟨cC, aC, fC⟩ := enArr (hw (.arrayClass .char) (List.mem_of_getElem? (i := 6) rfl))
  obtain ⟨cZ, aZ, fZ⟩ := enArr (hw (.arrayClass .boolean) (List.mem_of_getElem? (i := 7) rfl))
  obtain ⟨cQ, aQ, fQ⟩ := enArrQ (hw (.arrayOver (.object "HallBuilds$Hall")) (List.mem_of_getElem? (i := 1) rfl))
  obtain ⟨tM, eM, TM⟩ := va_Tof (tm := enM) (ty := .int) (N := 3) (f := fun j => .int (hMst j)) (by decide) g0 (va_eqt g1) (fun j hj => by
    rcases j with _ | _ | _ | j
    · exact va_eqt g2
    · exact va_eqt g3
    · exact va_eqt g4
    · omega) hA
  obtain ⟨tF, cell, eF, hat, hv, hlt⟩ := enL (va_eqt g5)
  have hsz : cell.slots.size = 3 := by
    have h1 : (nI cell.slots.size).toNatClampNeg = (nI 3).toNatClampNeg := congrArg Int32.toNatClampNeg (Value.int.inj hv).symm
    rw [nI_clamp hlt, nI_clamp (by decide)] at h1
    exact h1
  have s0 : cell.slots[0]? = some (.int 20) := enE (k := 0) (by decide) eF hat (va_eqt g6)
  have s1 : cell.slots[1]? = some (.int 2) := enE (k := 1) (by decide) eF hat (va_eqt g7)
  have s2 : cell.slots[2]? = some (.int 60) := enE (k := 2) (by decide) eF hat (va_eqt g8)
  obtain ⟨hcell, hkn, hst, -⟩ := State.arrayAt?_spec hat
  obtain ⟨a', cF, cell', kF, z1, z2, z3, -, -, z6, -⟩ := Cond.exactly_spec g9
  cases eF.symm.trans z1
  cases hcell.symm.trans z3
  have hcI : cell.cls = cI := z6.trans (Option.some.inj (z2.symm.trans (va_nm_int (cA := cI) fI)))
  have hslots : cell.slots = (vp_cell cI (3, .inl hFst)).slots := by
    show cell.slots = Array.ofFn (n := 3) fun j => Value.int (hFst j)
    apply Array.ext
    · rw [hsz, Array.size_ofFn]
    · intro j h1 h2
      have hj : j < 3 := by omega
      rw [Array.getElem_ofFn]
      rcases j with _ | _ | _ | j
      · exact (Array.getElem?_eq_some_iff.mp s0).2
      · exact (Array.getElem?_eq_some_iff.mp s1).2
      · exact (Array.getElem?_eq_some_iff.mp s2).2
      · omega
  refine ⟨((fun c => match c with | 0 => c0 | 1 => c1 | 2 => c2 | 3 => c3 | 4 => c4 | 5 => c5 | 6 => c6 | 7 => c7 | _ => c8, fun c => match c with | 0 => i0 | 1 => i1 | 2 => i2 | 3 => i3 | 4 => i4 | 5 => i5 | 6 => i6 | 7 => i7 | _ => i8), fun c => match c with | 0 => cI | 1 => cC | 2 => cZ | _ => cQ, fun c => match c with | 0 => tF | _ => tM), hexec, hcode, hml, hown, fun w h => hts w (wsL_law_in w h), ⟨fun k q hq => ?_, fun k q hq => ?_⟩, fun q h => h, ⟨⟨fun q hq => va_Nw.of rfl (hts _ (enNF q hq)), fun q hq => va_Nw.of rfl (hts _ (enNM q hq)), va_Nw.of rfl (hw _ (List.mem_of_getElem? (i := 0) rfl)), va_AO.of (hw _ (List.mem_of_getElem? (i := 1) rfl))⟩, va_Zref (hw _ (List.mem_of_getElem? (i := 2) rfl)) (hw _ (List.mem_of_getElem? (i := 4) rfl)) eF hA, va_Zref (hw _ (List.mem_of_getElem? (i := 3) rfl)) (hw _ (List.mem_of_getElem? (i := 4) rfl)) eM hA, TM, cell, hcell, hcI, hst, hkn, hslots, hA _ (Array.getElem?_eq_some_iff.mp hcell).1⟩, hlk, hret⟩
  · rcases k with _ | _ | _ | _ | _ | _ | _ | _ | _ | k
    · have h := Option.some.inj hq; subst h; exact k0
    · have h := Option.some.inj hq; subst h; exact k1
    · have h := Option.some.inj hq; subst h; exact k2
    · have h := Option.some.inj hq; subst h; exact k3
    · have h := Option.some.inj hq; subst h; exact k4
    · have h := Option.some.inj hq; subst h; exact k5
    · have h := Option.some.inj hq; subst h; exact k6
    · have h := Option.some.inj hq; subst h; exact k7
    · have h := Option.some.inj hq; subst h; exact k8
    · exact nomatch (show (none : Option vw_C) = some q from hq)
  · rcases k with _ | _ | _ | _ | k
    · have h := Option.some.inj hq; subst h; exact ⟨aI, fI⟩
    · have h := Option.some.inj hq; subst h; exact ⟨aC, fC⟩
    · have h := Option.some.inj hq; subst h; exact ⟨aZ, fZ⟩
    · have h := Option.some.inj hq; subst h; exact ⟨aQ, fQ⟩
    · exact nomatch (show (none : Option (ClassId × FieldType)) = some q from hq)
/-- the script's cell, under V -/
theorem hsld {p : Program} {l : Launch} {e : Env} {R : Room} {s : State} {m : MethodId} {args : Array Value} {below : List Frame} {meth : Method} {c : Code} {cells slots : Nat} {Q : State → Prop} {G : hG} {nL : Nat} {cc : ByteArray} {own : String} {Ts : List Cond} {ret : Option FieldType} {ws : va_W} {pc : Nat} {lv : List (Nat × Value)} {st : List Value} (X : hX p s m args meth c G (fun q => s.heap.size ≤ q) nL cc own Ts ret) {b L : Nat} {xs : Nat → Int32} (hS : va_X b L xs s s.heap) (hbl : b < s.heap.size) {i : Int32} (k : Nat) (hi : i = nI k) (hk : k < L) (hL : L < 2 ^ 31) (hdg : decode cc pc = .ok (.iaload, 1)) (kk : hV p l e R s m args below meth c G (fun q => s.heap.size ≤ q) nL cells slots Q ws (pc + 1) lv (.int (xs k) :: st)) : hV p l e R s m args below meth c G (fun q => s.heap.size ≤ q) nL cells slots Q ws pc lv (.int i :: .ref b :: st) := by
  subst hi
  intro H locs ls hP hD hS0 hl
  refine va_sld X.hx X.hb hS hbl (Nat.not_le.mpr hbl) hS0 (vp_in_nI hk hL) hdg ?_
  rw [nI_clamp (Nat.lt_trans hk hL)]
  exact kk H locs ls hP hD hS0 hl
theorem hslen {p : Program} {l : Launch} {e : Env} {R : Room} {s : State} {m : MethodId} {args : Array Value} {below : List Frame} {meth : Method} {c : Code} {cells slots : Nat} {Q : State → Prop} {G : hG} {nL : Nat} {cc : ByteArray} {own : String} {Ts : List Cond} {ret : Option FieldType} {ws : va_W} {pc : Nat} {lv : List (Nat × Value)} {st : List Value} (X : hX p s m args meth c G (fun q => s.heap.size ≤ q) nL cc own Ts ret) {b L : Nat} {xs : Nat → Int32} (hS : va_X b L xs s s.heap) (hbl : b < s.heap.size) (hdg : decode cc pc = .ok (.arraylength, 1)) (kk : hV p l e R s m args below meth c G (fun q => s.heap.size ≤ q) nL cells slots Q ws (pc + 1) lv (.int (nI L) :: st)) : hV p l e R s m args below meth c G (fun q => s.heap.size ≤ q) nL cells slots Q ws pc lv (.ref b :: st) := by
  intro H locs ls hP hD hS0 hl
  exact va_slen X.hx X.hb hS hbl (Nat.not_le.mpr hbl) hS0 hdg (kk H locs ls hP hD hS0 hl)
