/-! V: the machine at an instruction, with the world, the locals and the stack as plain lists -/
abbrev hG : Type := va_G × (Nat → ClassId) × (Nat → Nat)
def hT (G : hG) : List (ClassId × FieldType) := [(G.2.1 0, .int), (G.2.1 1, .char), (G.2.1 2, .boolean), (G.2.1 3, .object "HallBuilds$Hall")]
def hFst : Nat → Int32 := fun j => if j = 0 then 20 else if j = 1 then 2 else 60
def hMst : Nat → Int32 := fun j => if j = 0 then 60 else if j = 1 then 9 else 999
def hNF : List (String × Nat × String × String × String) := [(RX7, 140, RX3, "kind", "I"), (RX7, 143, RX3, "first", "I"), (RX7, 146, RX3, "second", "I"), (RX7, 149, RX3, "third", "I"), (RX7, 152, RX3, "base", "I"), (RX7, 40, RX3, "pad", "LHallBuilds$Pad;"), (RX7, 74, RX1, "stands", "LHallBuilds$Stands;"), (RX7, 83, RX1, "crews", "LHallBuilds$Crews;"), (RX7, 93, RX4, "length", "I"), (RX7, 99, RX2, "kept", "I"), (RX1, 110, RX6, "state", "[I"), (RX1, 147, RX6, "leaving", "[I"), (RX1, 150, RX0, "stand", "[I"), (RX1, 153, RX0, "speed", "[I"), (RX1, 156, RX6, "left", "[I"), (RX1, 159, RX6, "length", "[I"), (RX1, 168, RX6, "crew", "[I"), (RX1, 177, RX6, "hours", "[I"), (RX1, 180, RX0, "worked", "[I"), (RX1, 183, RX6, "spent", "[I"), (RX1, 193, RX0, "built", "[I"), (RX1, 199, RX0, "dismantled", "[I"), (RX1, 202, RX6, "power", "[I"), (RX1, 205, RX6, "phase", "[I"), (RX1, 62, RX7, "MOST_OF_SETTINGS", "[I"), (RX1, 73, RX6, "count", "I"), (RX1, 9, RX7, "FIRST_SETTINGS", "[I"), (RX1, 96, RX0, "count", "I"), (RX3, 36, RX4, "length", "I"), (RX5, 26, RX1, "stands", "LHallBuilds$Stands;"), (RX5, 30, RX6, "count", "I")]
def hNM : List (String × Nat × MethodName) := [(RX7, 35, yX3_init), (RX7, 9, yX1_init), (RX0, 34, yX7_copyRow), (RX1, 28, yX6_init), (RX1, 35, yX0_init), (RX1, 40, yX7_copyRow), (RX1, 65, yX7_isWithin), (RX2, 17, yX1_init), (RX3, 11, yX4_init), (RX3, 68, yX7_isWithin), (RX4, 25, yX7_isWithin), (RX5, 21, yX1_init), (RX6, 46, yX7_copyRow)]
/-- a table whose cell is known whole -/
def hC (t : Nat) (cI : ClassId) (f : Nat → Int32) (A : Nat → Prop) (H : Heap) : Prop := ∃ cell : Cell, H[t]? = some cell ∧ cell.cls = cI ∧ cell.vm.isStatics = false ∧ cell.vm ≠ .unknown ∧ cell.slots = (vp_cell cI (3, .inl f)).slots ∧ ¬ A t
theorem hC.kept {t : Nat} {cI : ClassId} {f : Nat → Int32} {A : Nat → Prop} {H H1 : Heap} (h : hC t cI f A H) (hq : ∀ a : Nat, a < H.size → ¬ A a → H1[a]? = H[a]?) : hC t cI f A H1 := by
  obtain ⟨cell, h1, h2, h3, h4, h5, h6⟩ := h
  exact ⟨cell, by rw [hq t (Array.getElem?_eq_some_iff.mp h1).1 h6]; exact h1, h2, h3, h4, h5, h6⟩
theorem hC.narrow {t : Nat} {cI : ClassId} {f : Nat → Int32} {A B : Nat → Prop} {H : Heap} (h : hC t cI f A H) (hAB : ∀ q, B q → A q) : hC t cI f B H := by
  obtain ⟨cell, h1, h2, h3, h4, h5, h6⟩ := h
  exact ⟨cell, h1, h2, h3, h4, h5, fun z => h6 (hAB t z)⟩
/-- what stands of the tables and the statics at any moment -/
def hN (U : State) : Prop := (∀ q ∈ hNF, va_Nw (.fieldLinkNest q.1 q.2.1 q.2.2.1 q.2.2.2.1 q.2.2.2.2 "HallBuilds") U) ∧ (∀ q ∈ hNM, va_Nw (.methodLinkNest q.1 q.2.1 q.2.2 "HallBuilds") U) ∧ va_Nw (.castable "[I" "java/lang/Cloneable") U ∧ va_AO "HallBuilds$Hall" U
def hE (G : hG) (A : Nat → Prop) (U : State) (H : Heap) : Prop := hN U ∧ va_Z "HallBuilds" "FIRST_SETTINGS" "[I" (.ref (G.2.2 0)) A U H ∧ va_Z "HallBuilds" "MOST_OF_SETTINGS" "[I" (.ref (G.2.2 1)) A U H ∧ va_T .int (G.2.2 1) 3 (fun j => .int (hMst j)) A U H ∧ hC (G.2.2 0) (G.2.1 0) hFst A H
theorem hN.warm {s U : State} (hW : s.WarmedH U.vm) (h : hN s) : hN U := ⟨fun q hq => va_Nw.warmF hW (h.1 q hq), fun q hq => va_Nw.warmM hW (h.2.1 q hq), va_Nw.warmC hW h.2.2.1, va_AO.moved hW.alike h.2.2.2⟩
theorem hN.same {u U : State} (hv : u.vm = U.vm) (h : hN u) : hN U := ⟨fun q hq => va_Nw.same rfl hv (h.1 q hq), fun q hq => va_Nw.same rfl hv (h.2.1 q hq), va_Nw.same rfl hv h.2.2.1, va_AO.moved (by rw [hv]; exact Vm.Alike.refl _) h.2.2.2⟩
theorem hE.warm {G : hG} {A : Nat → Prop} {s U : State} {H : Heap} (hW : s.WarmedH U.vm) (h : hE G A s H) : hE G A U H := ⟨h.1.warm hW, va_Z.moved hW.alike h.2.1, va_Z.moved hW.alike h.2.2.1, va_T.moved hW.alike h.2.2.2.1, h.2.2.2.2⟩
theorem hE.same {G : hG} {A : Nat → Prop} {s U : State} {H : Heap} (hv : s.vm = U.vm) (h : hE G A s H) : hE G A U H := ⟨h.1.same hv, va_Z.moved (by rw [hv]; exact Vm.Alike.refl _) h.2.1, va_Z.moved (by rw [hv]; exact Vm.Alike.refl _) h.2.2.1, va_T.moved (by rw [hv]; exact Vm.Alike.refl _) h.2.2.2.1, h.2.2.2.2⟩
theorem hE.kept {G : hG} {A : Nat → Prop} {s : State} {H H1 : Heap} (h : hE G A s H) (hq : ∀ a : Nat, a < H.size → ¬ A a → H1[a]? = H[a]?) : hE G A s H1 := ⟨h.1, h.2.1.kept hq, h.2.2.1.kept hq, h.2.2.2.1.kept hq, h.2.2.2.2.kept hq⟩
theorem hE.narrow {G : hG} {A B : Nat → Prop} {s : State} {H : Heap} (h : hE G A s H) (hq : ∀ a : Nat, B a → A a) : hE G B s H := ⟨h.1, h.2.1.narrow hq, h.2.2.1.narrow hq, h.2.2.2.1.narrow hq, h.2.2.2.2.narrow hq⟩
theorem hPmem {D : va_G} {cl : List vw_C} {ws : va_W} {H : Heap} : va_P D cl ws H ↔ ∀ q ∈ ws, va_at D cl q H :=
  ⟨fun h q hq => by obtain ⟨k, hk⟩ := List.getElem?_of_mem hq; exact h k q hk, fun h k q hk => h q (List.mem_of_getElem? hk)⟩
theorem hDmem {A : Nat → Prop} {ws : va_W} : va_D A ws ↔ (ws.map (fun q => q.1)).Nodup ∧ ∀ q ∈ ws, A q.1 := by
  constructor
  · rintro ⟨h1, h2⟩
    refine ⟨?_, fun q hq => ?_⟩
    · unfold List.Nodup
      rw [List.pairwise_iff_getElem]
      intro i j hi hj hij e
      simp only [List.length_map] at hi hj
      have h3 := h1 i j ws[i] ws[j] (List.getElem?_eq_getElem hi) (List.getElem?_eq_getElem hj) (by simpa using e)
      omega
    · obtain ⟨k, hk⟩ := List.getElem?_of_mem hq
      exact h2 k q hk
  · rintro ⟨h1, h2⟩
    refine ⟨fun i j p q hp hq e => ?_, fun k q hk => h2 q (List.mem_of_getElem? hk)⟩
    obtain ⟨hi, hpi⟩ := List.getElem?_eq_some_iff.mp hp
    obtain ⟨hj, hqj⟩ := List.getElem?_eq_some_iff.mp hq
    unfold List.Nodup at h1
    rw [List.pairwise_iff_getElem] at h1
    rcases Nat.lt_trichotomy i j with h | h | h
    · exact (h1 i j (by simpa using hi) (by simpa using hj) h (by simp [hpi, hqj, e])).elim
    · exact h
    · exact (h1 j i (by simpa using hj) (by simpa using hi) h (by simp [hpi, hqj, e])).elim
theorem hPperm {D : va_G} {cl : List vw_C} {ws ws' : va_W} {H : Heap} (hp : ws.Perm ws') (h : va_P D cl ws H) : va_P D cl ws' H := hPmem.mpr fun q hq => hPmem.mp h q (hp.mem_iff.mpr hq)
theorem hDperm {A : Nat → Prop} {ws ws' : va_W} (hp : ws.Perm ws') (h : va_D A ws) : va_D A ws' := hDmem.mpr ⟨(hp.map _).nodup_iff.mp (hDmem.mp h).1, fun q hq => (hDmem.mp h).2 q (hp.mem_iff.mpr hq)⟩
/-- locals by number -/
def hget : List (Nat × Value) → Nat → Option Value
  | [], _ => none
  | (j, v) :: t, i => match Nat.beq j i with
    | true => some v
    | false => hget t i
theorem hget_mem : ∀ {lv : List (Nat × Value)} {i : Nat} {v : Value}, hget lv i = some v → (i, v) ∈ lv
  | [], _, _, h => by simp [hget] at h
  | (j, w) :: t, i, v, h => by
    unfold hget at h
    cases hb : Nat.beq j i with
    | true =>
      rw [hb] at h
      cases h
      have := Nat.eq_of_beq_eq_true hb
      subst this
      exact List.mem_cons_self
    | false =>
      rw [hb] at h
      exact List.mem_cons_of_mem _ (hget_mem h)
def hput (lv : List (Nat × Value)) (i : Nat) (v : Value) : List (Nat × Value) := (i, v) :: lv.filter (fun q => !(q.1 == i) && !(q.1 + 1 == i && q.2.category == 2))
def hput2 (lv : List (Nat × Value)) (i : Nat) (v : Value) : List (Nat × Value) := (i, v) :: lv.filter (fun q => !(q.1 == i) && (!(q.1 == i + 1) && !(q.1 + 1 == i && q.2.category == 2)))
def hX (p : Program) (s : State) (m : MethodId) (args : Array Value) (meth : Method) (c : Code) (G : hG) (A : Nat → Prop) (nL : Nat) (cc : ByteArray) (own : String) (Ts : List Cond) (ret : Option FieldType) : Prop :=
  p.tables.exec = Jvm.exec ∧ c.code = cc ∧ c.maxLocals = nL ∧ s.vm.findClass own = some m.cls ∧ (∀ w ∈ Ts, w.before args s = true) ∧ va_K G.1 vwCl (hT G) s ∧ (∀ q : Nat, s.heap.size ≤ q → A q) ∧ hE G A s s.heap ∧ meth.locks = false ∧ meth.sig.returnType = ret
def hV (p : Program) (l : Launch) (e : Env) (R : Room) (s : State) (m : MethodId) (args : Array Value) (below : List Frame) (meth : Method) (c : Code) (G : hG) (A : Nat → Prop) (nL cells slots : Nat) (Q : State → Prop) (ws : va_W) (pc : Nat) (lv : List (Nat × Value)) (st : List Value) : Prop :=
  ∀ (H : Heap) (locs : List Loc) (ls : Array Slot), va_P G.1 vwCl ws H → va_D A ws → va_S A s.heap H locs → lv_has ls nL lv → W p l e R s m args below meth c H locs cells slots Q (F0 m pc ls st)
section HV
variable {p : Program} {l : Launch} {e : Env} {R : Room} {s : State} {m : MethodId} {args : Array Value} {below : List Frame} {meth : Method} {c : Code} {cells slots : Nat} {Q : State → Prop}
variable {G : hG} {A : Nat → Prop} {nL : Nat} {cc : ByteArray} {own : String} {Ts : List Cond} {ret : Option FieldType}
variable {ws : va_W} {pc : Nat} {lv : List (Nat × Value)} {st : List Value}
theorem hX.hx (X : hX p s m args meth c G A nL cc own Ts ret) : p.tables.exec = Jvm.exec := X.1
theorem hX.hb (X : hX p s m args meth c G A nL cc own Ts ret) : c.code = cc := X.2.1
theorem hX.hml (X : hX p s m args meth c G A nL cc own Ts ret) : c.maxLocals = nL := X.2.2.1
theorem hX.hown (X : hX p s m args meth c G A nL cc own Ts ret) : s.vm.findClass own = some m.cls := X.2.2.2.1
theorem hX.hts (X : hX p s m args meth c G A nL cc own Ts ret) : ∀ w ∈ Ts, w.before args s = true := X.2.2.2.2.1
theorem hX.hK (X : hX p s m args meth c G A nL cc own Ts ret) : va_K G.1 vwCl (hT G) s := X.2.2.2.2.2.1
theorem hX.hA (X : hX p s m args meth c G A nL cc own Ts ret) : ∀ q : Nat, s.heap.size ≤ q → A q := X.2.2.2.2.2.2.1
theorem hX.hE (X : hX p s m args meth c G A nL cc own Ts ret) : hE G A s s.heap := X.2.2.2.2.2.2.2.1
theorem hX.hlk (X : hX p s m args meth c G A nL cc own Ts ret) : meth.locks = false := X.2.2.2.2.2.2.2.2.1
theorem hX.hr (X : hX p s m args meth c G A nL cc own Ts ret) : meth.sig.returnType = ret := X.2.2.2.2.2.2.2.2.2
theorem hV_perm {ws' : va_W} (hp : ws.Perm ws') (k : hV p l e R s m args below meth c G A nL cells slots Q ws' pc lv st) : hV p l e R s m args below meth c G A nL cells slots Q ws pc lv st :=
  fun H locs ls hP hD hS hl => k H locs ls (hPperm hp hP) (hDperm hp hD) hS hl
theorem hV_to {ws' : va_W} {lv' : List (Nat × Value)} {st' : List Value} (hw : ws = ws') (hlv : lv = lv') (hst : st = st') (k : hV p l e R s m args below meth c G A nL cells slots Q ws' pc lv' st') : hV p l e R s m args below meth c G A nL cells slots Q ws pc lv st := by
  subst hw; subst hlv; subst hst; exact k
theorem hV_lv {lv' : List (Nat × Value)} (ks : List Nat) (h : lv_pick lv ks = lv') (k : hV p l e R s m args below meth c G A nL cells slots Q ws pc lv' st) : hV p l e R s m args below meth c G A nL cells slots Q ws pc lv st :=
  fun H locs ls hP hD hS hl => k H locs ls hP hD hS (lv_sub hl ks h)
theorem hV_st {st' : List Value} (h : st = st') (k : hV p l e R s m args below meth c G A nL cells slots Q ws pc lv st') : hV p l e R s m args below meth c G A nL cells slots Q ws pc lv st := by
  subst h; exact k
theorem hV_widen {a b : Nat} (h1 : cells ≤ a) (h2 : slots ≤ b) (k : hV p l e R s m args below meth c G A nL a b Q ws pc lv st) : hV p l e R s m args below meth c G A nL cells slots Q ws pc lv st :=
  fun H locs ls hP hD hS hl => W.widen h1 h2 (k H locs ls hP hD hS hl)
-- constants, locals
theorem hiconst (X : hX p s m args meth c G A nL cc own Ts ret) {n : Int} {v : Int32} (hdg : decode cc pc = .ok (.iconst n, 1)) (hv : Int32.ofInt n = v) (k : hV p l e R s m args below meth c G A nL cells slots Q ws (pc + 1) lv (.int v :: st)) : hV p l e R s m args below meth c G A nL cells slots Q ws pc lv st :=
  fun H locs ls hP hD hS hl => lv_iconst X.hx X.hb hdg hv (k H locs ls hP hD hS hl)
theorem hbipush (X : hX p s m args meth c G A nL cc own Ts ret) {n : Int} {v : Int32} (hdg : decode cc pc = .ok (.bipush n, 2)) (hv : (Int8.ofInt n).toInt32 = v) (k : hV p l e R s m args below meth c G A nL cells slots Q ws (pc + 2) lv (.int v :: st)) : hV p l e R s m args below meth c G A nL cells slots Q ws pc lv st :=
  fun H locs ls hP hD hS hl => lv_bipush X.hx X.hb hdg hv (k H locs ls hP hD hS hl)
theorem hsipush (X : hX p s m args meth c G A nL cc own Ts ret) {n : Int} {v : Int32} (hdg : decode cc pc = .ok (.sipush n, 3)) (hv : (Int16.ofInt n).toInt32 = v) (k : hV p l e R s m args below meth c G A nL cells slots Q ws (pc + 3) lv (.int v :: st)) : hV p l e R s m args below meth c G A nL cells slots Q ws pc lv st :=
  fun H locs ls hP hD hS hl => lv_sipush X.hx X.hb hdg hv (k H locs ls hP hD hS hl)
theorem hlconst (X : hX p s m args meth c G A nL cc own Ts ret) {n : Fin 2} {v : Int64} (hdg : decode cc pc = .ok (.lconst n, 1)) (hv : Int64.ofNat (n : Nat) = v) (k : hV p l e R s m args below meth c G A nL cells slots Q ws (pc + 1) lv (.long v :: st)) : hV p l e R s m args below meth c G A nL cells slots Q ws pc lv st :=
  fun H locs ls hP hD hS hl => lv_lconst X.hx X.hb hdg hv (k H locs ls hP hD hS hl)
theorem hldc2 (X : hX p s m args meth c G A nL cc own Ts ret) {index : Nat} {v : Int64} (hconst : Jvm.Cond.constantLong own index v ∈ Ts) (hdg : decode cc pc = .ok (.ldc2_w index, 3)) (k : hV p l e R s m args below meth c G A nL cells slots Q ws (pc + 3) lv (.long v :: st)) : hV p l e R s m args below meth c G A nL cells slots Q ws pc lv st :=
  fun H locs ls hP hD hS hl => lv_ldc2 X.hx X.hb X.hown (X.hts _ hconst) hdg (k H locs ls hP hD hS hl)
theorem haconst_null (X : hX p s m args meth c G A nL cc own Ts ret) (hdg : decode cc pc = .ok (.aconst_null, 1)) (k : hV p l e R s m args below meth c G A nL cells slots Q ws (pc + 1) lv (.null :: st)) : hV p l e R s m args below meth c G A nL cells slots Q ws pc lv st :=
  fun H locs ls hP hD hS hl => lv_null X.hx X.hb hdg (k H locs ls hP hD hS hl)
theorem hiload_n (X : hX p s m args meth c G A nL cc own Ts ret) {k0 : Fin 4} {x : Int32} (hdg : decode cc pc = .ok (.iload_n k0, 1)) (hg : hget lv k0.val = some (.int x)) (k : hV p l e R s m args below meth c G A nL cells slots Q ws (pc + 1) lv (.int x :: st)) : hV p l e R s m args below meth c G A nL cells slots Q ws pc lv st :=
  fun H locs ls hP hD hS hl => lv_iload_n X.hx X.hb hdg rfl (hl.2.2 _ (hget_mem hg)) (k H locs ls hP hD hS hl)
theorem hiload (X : hX p s m args meth c G A nL cc own Ts ret) {i : Nat} {x : Int32} (hdg : decode cc pc = .ok (.iload i, 2)) (hg : hget lv i = some (.int x)) (k : hV p l e R s m args below meth c G A nL cells slots Q ws (pc + 2) lv (.int x :: st)) : hV p l e R s m args below meth c G A nL cells slots Q ws pc lv st :=
  fun H locs ls hP hD hS hl => lv_iload X.hx X.hb hdg (hl.2.2 _ (hget_mem hg)) (k H locs ls hP hD hS hl)
theorem haload_n (X : hX p s m args meth c G A nL cc own Ts ret) {k0 : Fin 4} {x : Nat} (hdg : decode cc pc = .ok (.aload_n k0, 1)) (hg : hget lv k0.val = some (.ref x)) (k : hV p l e R s m args below meth c G A nL cells slots Q ws (pc + 1) lv (.ref x :: st)) : hV p l e R s m args below meth c G A nL cells slots Q ws pc lv st :=
  fun H locs ls hP hD hS hl => lv_aload_n X.hx X.hb hdg rfl (hl.2.2 _ (hget_mem hg)) (k H locs ls hP hD hS hl)
theorem hlload_n (X : hX p s m args meth c G A nL cc own Ts ret) {k0 : Fin 4} {x : Int64} (hdg : decode cc pc = .ok (.lload_n k0, 1)) (hg : hget lv k0.val = some (.long x)) (k : hV p l e R s m args below meth c G A nL cells slots Q ws (pc + 1) lv (.long x :: st)) : hV p l e R s m args below meth c G A nL cells slots Q ws pc lv st :=
  fun H locs ls hP hD hS hl => lv_lload_n X.hx X.hb hdg rfl (hl.2.2 _ (hget_mem hg)) (k H locs ls hP hD hS hl)
theorem hlload (X : hX p s m args meth c G A nL cc own Ts ret) {i : Nat} {x : Int64} (hdg : decode cc pc = .ok (.lload i, 2)) (hg : hget lv i = some (.long x)) (k : hV p l e R s m args below meth c G A nL cells slots Q ws (pc + 2) lv (.long x :: st)) : hV p l e R s m args below meth c G A nL cells slots Q ws pc lv st :=
  fun H locs ls hP hD hS hl => lv_lload X.hx X.hb hdg (hl.2.2 _ (hget_mem hg)) (k H locs ls hP hD hS hl)
theorem histore_n (X : hX p s m args meth c G A nL cc own Ts ret) {k0 : Fin 4} {x : Int32} {lv' : List (Nat × Value)} (hdg : decode cc pc = .ok (.istore_n k0, 1)) (hn : k0.val < nL) (hp : hput lv k0.val (.int x) = lv') (k : hV p l e R s m args below meth c G A nL cells slots Q ws (pc + 1) lv' st) : hV p l e R s m args below meth c G A nL cells slots Q ws pc lv (.int x :: st) :=
  fun H locs ls hP hD hS hl => lv_istore_n X.hx X.hb hdg rfl hl hn hp (fun ls' hl' => k H locs ls' hP hD hS hl')
theorem histore (X : hX p s m args meth c G A nL cc own Ts ret) {i : Nat} {x : Int32} {lv' : List (Nat × Value)} (hdg : decode cc pc = .ok (.istore i, 2)) (hn : i < nL) (hp : hput lv i (.int x) = lv') (k : hV p l e R s m args below meth c G A nL cells slots Q ws (pc + 2) lv' st) : hV p l e R s m args below meth c G A nL cells slots Q ws pc lv (.int x :: st) :=
  fun H locs ls hP hD hS hl => lv_istore X.hx X.hb hdg hl hn hp (fun ls' hl' => k H locs ls' hP hD hS hl')
theorem hastore_n (X : hX p s m args meth c G A nL cc own Ts ret) {k0 : Fin 4} {x : Nat} {lv' : List (Nat × Value)} (hdg : decode cc pc = .ok (.astore_n k0, 1)) (hn : k0.val < nL) (hp : hput lv k0.val (.ref x) = lv') (k : hV p l e R s m args below meth c G A nL cells slots Q ws (pc + 1) lv' st) : hV p l e R s m args below meth c G A nL cells slots Q ws pc lv (.ref x :: st) :=
  fun H locs ls hP hD hS hl => lv_astore_n X.hx X.hb hdg rfl hl hn hp (fun ls' hl' => k H locs ls' hP hD hS hl')
theorem hlstore_n (X : hX p s m args meth c G A nL cc own Ts ret) {k0 : Fin 4} {x : Int64} {lv' : List (Nat × Value)} (hdg : decode cc pc = .ok (.lstore_n k0, 1)) (hn : k0.val + 1 < nL) (hp : hput2 lv k0.val (.long x) = lv') (k : hV p l e R s m args below meth c G A nL cells slots Q ws (pc + 1) lv' st) : hV p l e R s m args below meth c G A nL cells slots Q ws pc lv (.long x :: st) :=
  fun H locs ls hP hD hS hl => lv_lstore_n X.hx X.hb hdg rfl hl hn hp (fun ls' hl' => k H locs ls' hP hD hS hl')
theorem hlstore (X : hX p s m args meth c G A nL cc own Ts ret) {i : Nat} {x : Int64} {lv' : List (Nat × Value)} (hdg : decode cc pc = .ok (.lstore i, 2)) (hn : i + 1 < nL) (hp : hput2 lv i (.long x) = lv') (k : hV p l e R s m args below meth c G A nL cells slots Q ws (pc + 2) lv' st) : hV p l e R s m args below meth c G A nL cells slots Q ws pc lv (.long x :: st) :=
  fun H locs ls hP hD hS hl => lv_lstore X.hx X.hb hdg hl hn hp (fun ls' hl' => k H locs ls' hP hD hS hl')
theorem hiinc (X : hX p s m args meth c G A nL cc own Ts ret) {i : Nat} {n : Int} {x v : Int32} {lv' : List (Nat × Value)} (hdg : decode cc pc = .ok (.iinc i n, 3)) (hg : hget lv i = some (.int x)) (hv : x + Int32.ofInt n = v) (hn : i < nL) (hp : hput lv i (.int v) = lv') (k : hV p l e R s m args below meth c G A nL cells slots Q ws (pc + 3) lv' st) : hV p l e R s m args below meth c G A nL cells slots Q ws pc lv st := by
  intro H locs ls hP hD hS hl
  obtain ⟨j, hj⟩ := List.getElem?_of_mem (hget_mem hg)
  exact lv_iinc X.hx X.hb hdg hl hj hv hn hp (fun ls' hl' => k H locs ls' hP hD hS hl')
-- arithmetic
theorem hiadd (X : hX p s m args meth c G A nL cc own Ts ret) {x y : Int32} (hdg : decode cc pc = .ok (.iadd, 1)) (k : hV p l e R s m args below meth c G A nL cells slots Q ws (pc + 1) lv (.int (x + y) :: st)) : hV p l e R s m args below meth c G A nL cells slots Q ws pc lv (.int y :: .int x :: st) :=
  fun H locs ls hP hD hS hl => lv_iadd X.hx X.hb hdg (k H locs ls hP hD hS hl)
theorem hisub (X : hX p s m args meth c G A nL cc own Ts ret) {x y : Int32} (hdg : decode cc pc = .ok (.isub, 1)) (k : hV p l e R s m args below meth c G A nL cells slots Q ws (pc + 1) lv (.int (x - y) :: st)) : hV p l e R s m args below meth c G A nL cells slots Q ws pc lv (.int y :: .int x :: st) :=
  fun H locs ls hP hD hS hl => lv_isub X.hx X.hb hdg (k H locs ls hP hD hS hl)
theorem himul (X : hX p s m args meth c G A nL cc own Ts ret) {x y : Int32} (hdg : decode cc pc = .ok (.imul, 1)) (k : hV p l e R s m args below meth c G A nL cells slots Q ws (pc + 1) lv (.int (x * y) :: st)) : hV p l e R s m args below meth c G A nL cells slots Q ws pc lv (.int y :: .int x :: st) :=
  fun H locs ls hP hD hS hl => lv_imul X.hx X.hb hdg (k H locs ls hP hD hS hl)
theorem hidiv (X : hX p s m args meth c G A nL cc own Ts ret) {x y : Int32} (hdg : decode cc pc = .ok (.idiv, 1)) (hne : ¬ y = 0) (k : hV p l e R s m args below meth c G A nL cells slots Q ws (pc + 1) lv (.int (x / y) :: st)) : hV p l e R s m args below meth c G A nL cells slots Q ws pc lv (.int y :: .int x :: st) :=
  fun H locs ls hP hD hS hl => lv_idiv X.hx X.hb hdg hne (k H locs ls hP hD hS hl)
theorem hirem (X : hX p s m args meth c G A nL cc own Ts ret) {x y : Int32} (hdg : decode cc pc = .ok (.irem, 1)) (hne : ¬ y = 0) (k : hV p l e R s m args below meth c G A nL cells slots Q ws (pc + 1) lv (.int (x - x / y * y) :: st)) : hV p l e R s m args below meth c G A nL cells slots Q ws pc lv (.int y :: .int x :: st) :=
  fun H locs ls hP hD hS hl => lv_irem X.hx X.hb hdg hne (k H locs ls hP hD hS hl)
theorem hishl (X : hX p s m args meth c G A nL cc own Ts ret) {x y : Int32} (hdg : decode cc pc = .ok (.ishl, 1)) (k : hV p l e R s m args below meth c G A nL cells slots Q ws (pc + 1) lv (.int (x <<< (y &&& 31)) :: st)) : hV p l e R s m args below meth c G A nL cells slots Q ws pc lv (.int y :: .int x :: st) :=
  fun H locs ls hP hD hS hl => lv_ishl X.hx X.hb hdg (k H locs ls hP hD hS hl)
theorem hior (X : hX p s m args meth c G A nL cc own Ts ret) {x y : Int32} (hdg : decode cc pc = .ok (.ior, 1)) (k : hV p l e R s m args below meth c G A nL cells slots Q ws (pc + 1) lv (.int (x ||| y) :: st)) : hV p l e R s m args below meth c G A nL cells slots Q ws pc lv (.int y :: .int x :: st) :=
  fun H locs ls hP hD hS hl => lv_ior X.hx X.hb hdg (k H locs ls hP hD hS hl)
theorem hiand (X : hX p s m args meth c G A nL cc own Ts ret) {x y : Int32} (hdg : decode cc pc = .ok (.iand, 1)) (k : hV p l e R s m args below meth c G A nL cells slots Q ws (pc + 1) lv (.int (x &&& y) :: st)) : hV p l e R s m args below meth c G A nL cells slots Q ws pc lv (.int y :: .int x :: st) :=
  fun H locs ls hP hD hS hl => lv_iand X.hx X.hb hdg (k H locs ls hP hD hS hl)
theorem hlushr (X : hX p s m args meth c G A nL cc own Ts ret) {x v : Int64} {y : Int32} (hdg : decode cc pc = .ok (.lushr, 1)) (hv : (x.toUInt64 >>> (y.toInt64.toUInt64 &&& Int64.toUInt64 63)).toInt64 = v) (k : hV p l e R s m args below meth c G A nL cells slots Q ws (pc + 1) lv (.long v :: st)) : hV p l e R s m args below meth c G A nL cells slots Q ws pc lv (.int y :: .long x :: st) :=
  fun H locs ls hP hD hS hl => lv_lushr X.hx X.hb hdg hv (k H locs ls hP hD hS hl)
theorem hlshl (X : hX p s m args meth c G A nL cc own Ts ret) {x v : Int64} {y : Int32} (hdg : decode cc pc = .ok (.lshl, 1)) (hv : x <<< (y.toInt64 &&& 63) = v) (k : hV p l e R s m args below meth c G A nL cells slots Q ws (pc + 1) lv (.long v :: st)) : hV p l e R s m args below meth c G A nL cells slots Q ws pc lv (.int y :: .long x :: st) :=
  fun H locs ls hP hD hS hl => lv_lshl X.hx X.hb hdg hv (k H locs ls hP hD hS hl)
theorem hland (X : hX p s m args meth c G A nL cc own Ts ret) {x y : Int64} (hdg : decode cc pc = .ok (.land, 1)) (k : hV p l e R s m args below meth c G A nL cells slots Q ws (pc + 1) lv (.long (x &&& y) :: st)) : hV p l e R s m args below meth c G A nL cells slots Q ws pc lv (.long y :: .long x :: st) :=
  fun H locs ls hP hD hS hl => lv_land X.hx X.hb hdg (k H locs ls hP hD hS hl)
theorem hlor (X : hX p s m args meth c G A nL cc own Ts ret) {x y : Int64} (hdg : decode cc pc = .ok (.lor, 1)) (k : hV p l e R s m args below meth c G A nL cells slots Q ws (pc + 1) lv (.long (x ||| y) :: st)) : hV p l e R s m args below meth c G A nL cells slots Q ws pc lv (.long y :: .long x :: st) :=
  fun H locs ls hP hD hS hl => lv_lor X.hx X.hb hdg (k H locs ls hP hD hS hl)
theorem hi2l (X : hX p s m args meth c G A nL cc own Ts ret) {x : Int32} {v : Int64} (hdg : decode cc pc = .ok (.i2l, 1)) (hv : x.toInt64 = v) (k : hV p l e R s m args below meth c G A nL cells slots Q ws (pc + 1) lv (.long v :: st)) : hV p l e R s m args below meth c G A nL cells slots Q ws pc lv (.int x :: st) :=
  fun H locs ls hP hD hS hl => lv_i2l X.hx X.hb hdg hv (k H locs ls hP hD hS hl)
theorem hl2i (X : hX p s m args meth c G A nL cc own Ts ret) {x : Int64} {v : Int32} (hdg : decode cc pc = .ok (.l2i, 1)) (hv : x.toInt32 = v) (k : hV p l e R s m args below meth c G A nL cells slots Q ws (pc + 1) lv (.int v :: st)) : hV p l e R s m args below meth c G A nL cells slots Q ws pc lv (.long x :: st) :=
  fun H locs ls hP hD hS hl => lv_l2i X.hx X.hb hdg hv (k H locs ls hP hD hS hl)
theorem hi2c (X : hX p s m args meth c G A nL cc own Ts ret) {x v : Int32} (hdg : decode cc pc = .ok (.i2c, 1)) (hv : (x.toUInt32 % 65536).toInt32 = v) (k : hV p l e R s m args below meth c G A nL cells slots Q ws (pc + 1) lv (.int v :: st)) : hV p l e R s m args below meth c G A nL cells slots Q ws pc lv (.int x :: st) :=
  fun H locs ls hP hD hS hl => lv_i2c X.hx X.hb hdg hv (k H locs ls hP hD hS hl)
theorem hlcmp (X : hX p s m args meth c G A nL cc own Ts ret) {x y : Int64} (hdg : decode cc pc = .ok (.lcmp, 1)) (k : hV p l e R s m args below meth c G A nL cells slots Q ws (pc + 1) lv (.int (lg_cmp x y) :: st)) : hV p l e R s m args below meth c G A nL cells slots Q ws pc lv (.long y :: .long x :: st) :=
  fun H locs ls hP hD hS hl => W.lcmp X.hx X.hb hdg (k H locs ls hP hD hS hl)
theorem hdup (X : hX p s m args meth c G A nL cc own Ts ret) {va : Value} (hdg : decode cc pc = .ok (.dup, 1)) (hva : va.category = 1) (k : hV p l e R s m args below meth c G A nL cells slots Q ws (pc + 1) lv (va :: va :: st)) : hV p l e R s m args below meth c G A nL cells slots Q ws pc lv (va :: st) :=
  fun H locs ls hP hD hS hl => lv_dup X.hx X.hb hdg hva (k H locs ls hP hD hS hl)
theorem hdup2 (X : hX p s m args meth c G A nL cc own Ts ret) {va vb : Value} (hdg : decode cc pc = .ok (.dup2, 1)) (hva : va.category = 1) (hvb : vb.category = 1) (k : hV p l e R s m args below meth c G A nL cells slots Q ws (pc + 1) lv (va :: vb :: va :: vb :: st)) : hV p l e R s m args below meth c G A nL cells slots Q ws pc lv (va :: vb :: st) :=
  fun H locs ls hP hD hS hl => lv_dup2_11 X.hx X.hb hdg hva hvb (k H locs ls hP hD hS hl)
theorem hpop (X : hX p s m args meth c G A nL cc own Ts ret) {va : Value} (hdg : decode cc pc = .ok (.pop, 1)) (hva : va.category = 1) (k : hV p l e R s m args below meth c G A nL cells slots Q ws (pc + 1) lv st) : hV p l e R s m args below meth c G A nL cells slots Q ws pc lv (va :: st) :=
  fun H locs ls hP hD hS hl => lv_pop X.hx X.hb hdg hva (k H locs ls hP hD hS hl)
theorem hgoto (X : hX p s m args meth c G A nL cc own Ts ret) {off : Int} {tgt : Nat} (hdg : decode cc pc = .ok (.goto off, 3)) (ht : (pc : Int) + off = (tgt : Int)) (k : hV p l e R s m args below meth c G A nL cells slots Q ws tgt lv st) : hV p l e R s m args below meth c G A nL cells slots Q ws pc lv st :=
  fun H locs ls hP hD hS hl => lv_goto X.hx X.hb hdg ht (k H locs ls hP hD hS hl)
theorem hif_eq (X : hX p s m args meth c G A nL cc own Ts ret) {x : Int32} {off : Int} {tgt : Nat} (hdg : decode cc pc = .ok (.ifCond .eq off, 3)) (ht : (pc : Int) + off = (tgt : Int)) (kt : x = 0 → hV p l e R s m args below meth c G A nL cells slots Q ws tgt lv st) (kf : ¬ x = 0 → hV p l e R s m args below meth c G A nL cells slots Q ws (pc + 3) lv st) : hV p l e R s m args below meth c G A nL cells slots Q ws pc lv (.int x :: st) :=
  fun H locs ls hP hD hS hl => lv_if_eq X.hx X.hb hdg ht (fun q => kt q H locs ls hP hD hS hl) (fun q => kf q H locs ls hP hD hS hl)
theorem hif_ne (X : hX p s m args meth c G A nL cc own Ts ret) {x : Int32} {off : Int} {tgt : Nat} (hdg : decode cc pc = .ok (.ifCond .ne off, 3)) (ht : (pc : Int) + off = (tgt : Int)) (kt : ¬ x = 0 → hV p l e R s m args below meth c G A nL cells slots Q ws tgt lv st) (kf : x = 0 → hV p l e R s m args below meth c G A nL cells slots Q ws (pc + 3) lv st) : hV p l e R s m args below meth c G A nL cells slots Q ws pc lv (.int x :: st) :=
  fun H locs ls hP hD hS hl => lv_if_ne X.hx X.hb hdg ht (fun q => kt q H locs ls hP hD hS hl) (fun q => kf q H locs ls hP hD hS hl)
theorem hif_lt (X : hX p s m args meth c G A nL cc own Ts ret) {x : Int32} {off : Int} {tgt : Nat} (hdg : decode cc pc = .ok (.ifCond .lt off, 3)) (ht : (pc : Int) + off = (tgt : Int)) (kt : x < 0 → hV p l e R s m args below meth c G A nL cells slots Q ws tgt lv st) (kf : ¬ x < 0 → hV p l e R s m args below meth c G A nL cells slots Q ws (pc + 3) lv st) : hV p l e R s m args below meth c G A nL cells slots Q ws pc lv (.int x :: st) :=
  fun H locs ls hP hD hS hl => lv_if_lt X.hx X.hb hdg ht (fun q => kt q H locs ls hP hD hS hl) (fun q => kf q H locs ls hP hD hS hl)
theorem hif_ge (X : hX p s m args meth c G A nL cc own Ts ret) {x : Int32} {off : Int} {tgt : Nat} (hdg : decode cc pc = .ok (.ifCond .ge off, 3)) (ht : (pc : Int) + off = (tgt : Int)) (kt : 0 ≤ x → hV p l e R s m args below meth c G A nL cells slots Q ws tgt lv st) (kf : ¬ 0 ≤ x → hV p l e R s m args below meth c G A nL cells slots Q ws (pc + 3) lv st) : hV p l e R s m args below meth c G A nL cells slots Q ws pc lv (.int x :: st) :=
  fun H locs ls hP hD hS hl => lv_if_ge X.hx X.hb hdg ht (fun q => kt q H locs ls hP hD hS hl) (fun q => kf q H locs ls hP hD hS hl)
theorem hif_gt (X : hX p s m args meth c G A nL cc own Ts ret) {x : Int32} {off : Int} {tgt : Nat} (hdg : decode cc pc = .ok (.ifCond .gt off, 3)) (ht : (pc : Int) + off = (tgt : Int)) (kt : 0 < x → hV p l e R s m args below meth c G A nL cells slots Q ws tgt lv st) (kf : ¬ 0 < x → hV p l e R s m args below meth c G A nL cells slots Q ws (pc + 3) lv st) : hV p l e R s m args below meth c G A nL cells slots Q ws pc lv (.int x :: st) :=
  fun H locs ls hP hD hS hl => lv_if_gt X.hx X.hb hdg ht (fun q => kt q H locs ls hP hD hS hl) (fun q => kf q H locs ls hP hD hS hl)
theorem hif_le (X : hX p s m args meth c G A nL cc own Ts ret) {x : Int32} {off : Int} {tgt : Nat} (hdg : decode cc pc = .ok (.ifCond .le off, 3)) (ht : (pc : Int) + off = (tgt : Int)) (kt : x ≤ 0 → hV p l e R s m args below meth c G A nL cells slots Q ws tgt lv st) (kf : ¬ x ≤ 0 → hV p l e R s m args below meth c G A nL cells slots Q ws (pc + 3) lv st) : hV p l e R s m args below meth c G A nL cells slots Q ws pc lv (.int x :: st) :=
  fun H locs ls hP hD hS hl => lv_if_le X.hx X.hb hdg ht (fun q => kt q H locs ls hP hD hS hl) (fun q => kf q H locs ls hP hD hS hl)
theorem hicmp_eq (X : hX p s m args meth c G A nL cc own Ts ret) {x y : Int32} {off : Int} {tgt : Nat} (hdg : decode cc pc = .ok (.if_icmp .eq off, 3)) (ht : (pc : Int) + off = (tgt : Int)) (kt : x = y → hV p l e R s m args below meth c G A nL cells slots Q ws tgt lv st) (kf : ¬ x = y → hV p l e R s m args below meth c G A nL cells slots Q ws (pc + 3) lv st) : hV p l e R s m args below meth c G A nL cells slots Q ws pc lv (.int y :: .int x :: st) :=
  fun H locs ls hP hD hS hl => lv_icmp_eq X.hx X.hb hdg ht (fun q => kt q H locs ls hP hD hS hl) (fun q => kf q H locs ls hP hD hS hl)
theorem hicmp_ne (X : hX p s m args meth c G A nL cc own Ts ret) {x y : Int32} {off : Int} {tgt : Nat} (hdg : decode cc pc = .ok (.if_icmp .ne off, 3)) (ht : (pc : Int) + off = (tgt : Int)) (kt : ¬ x = y → hV p l e R s m args below meth c G A nL cells slots Q ws tgt lv st) (kf : x = y → hV p l e R s m args below meth c G A nL cells slots Q ws (pc + 3) lv st) : hV p l e R s m args below meth c G A nL cells slots Q ws pc lv (.int y :: .int x :: st) :=
  fun H locs ls hP hD hS hl => lv_icmp_ne X.hx X.hb hdg ht (fun q => kt q H locs ls hP hD hS hl) (fun q => kf q H locs ls hP hD hS hl)
theorem hicmp_lt (X : hX p s m args meth c G A nL cc own Ts ret) {x y : Int32} {off : Int} {tgt : Nat} (hdg : decode cc pc = .ok (.if_icmp .lt off, 3)) (ht : (pc : Int) + off = (tgt : Int)) (kt : x < y → hV p l e R s m args below meth c G A nL cells slots Q ws tgt lv st) (kf : ¬ x < y → hV p l e R s m args below meth c G A nL cells slots Q ws (pc + 3) lv st) : hV p l e R s m args below meth c G A nL cells slots Q ws pc lv (.int y :: .int x :: st) :=
  fun H locs ls hP hD hS hl => lv_icmp_lt X.hx X.hb hdg ht (fun q => kt q H locs ls hP hD hS hl) (fun q => kf q H locs ls hP hD hS hl)
theorem hicmp_ge (X : hX p s m args meth c G A nL cc own Ts ret) {x y : Int32} {off : Int} {tgt : Nat} (hdg : decode cc pc = .ok (.if_icmp .ge off, 3)) (ht : (pc : Int) + off = (tgt : Int)) (kt : y ≤ x → hV p l e R s m args below meth c G A nL cells slots Q ws tgt lv st) (kf : ¬ y ≤ x → hV p l e R s m args below meth c G A nL cells slots Q ws (pc + 3) lv st) : hV p l e R s m args below meth c G A nL cells slots Q ws pc lv (.int y :: .int x :: st) :=
  fun H locs ls hP hD hS hl => lv_icmp_ge X.hx X.hb hdg ht (fun q => kt q H locs ls hP hD hS hl) (fun q => kf q H locs ls hP hD hS hl)
theorem hicmp_gt (X : hX p s m args meth c G A nL cc own Ts ret) {x y : Int32} {off : Int} {tgt : Nat} (hdg : decode cc pc = .ok (.if_icmp .gt off, 3)) (ht : (pc : Int) + off = (tgt : Int)) (kt : y < x → hV p l e R s m args below meth c G A nL cells slots Q ws tgt lv st) (kf : ¬ y < x → hV p l e R s m args below meth c G A nL cells slots Q ws (pc + 3) lv st) : hV p l e R s m args below meth c G A nL cells slots Q ws pc lv (.int y :: .int x :: st) :=
  fun H locs ls hP hD hS hl => lv_icmp_gt X.hx X.hb hdg ht (fun q => kt q H locs ls hP hD hS hl) (fun q => kf q H locs ls hP hD hS hl)
theorem hicmp_le (X : hX p s m args meth c G A nL cc own Ts ret) {x y : Int32} {off : Int} {tgt : Nat} (hdg : decode cc pc = .ok (.if_icmp .le off, 3)) (ht : (pc : Int) + off = (tgt : Int)) (kt : x ≤ y → hV p l e R s m args below meth c G A nL cells slots Q ws tgt lv st) (kf : ¬ x ≤ y → hV p l e R s m args below meth c G A nL cells slots Q ws (pc + 3) lv st) : hV p l e R s m args below meth c G A nL cells slots Q ws pc lv (.int y :: .int x :: st) :=
  fun H locs ls hP hD hS hl => lv_icmp_le X.hx X.hb hdg ht (fun q => kt q H locs ls hP hD hS hl) (fun q => kf q H locs ls hP hD hS hl)
theorem htableIn (X : hX p s m args meth c G A nL cc own Ts ret) {dflt lo hi : Int} {offs : Array Int} {len : Nat} {x : Int32} {off : Int} {tgt : Nat} (hdg : decode cc pc = .ok (.tableswitch dflt lo hi offs, len)) (h1 : ¬ x.toInt < lo) (h2 : ¬ hi < x.toInt) (ho : offs[(x.toInt - lo).toNat]? = some off) (ht : (pc : Int) + off = (tgt : Int)) (k : hV p l e R s m args below meth c G A nL cells slots Q ws tgt lv st) : hV p l e R s m args below meth c G A nL cells slots Q ws pc lv (.int x :: st) :=
  fun H locs ls hP hD hS hl => lv_tableIn X.hx X.hb hdg h1 h2 ho ht (k H locs ls hP hD hS hl)
theorem htableOut (X : hX p s m args meth c G A nL cc own Ts ret) {dflt lo hi : Int} {offs : Array Int} {len : Nat} {x : Int32} {tgt : Nat} (hdg : decode cc pc = .ok (.tableswitch dflt lo hi offs, len)) (h : x.toInt < lo ∨ hi < x.toInt) (ht : (pc : Int) + dflt = (tgt : Int)) (k : hV p l e R s m args below meth c G A nL cells slots Q ws tgt lv st) : hV p l e R s m args below meth c G A nL cells slots Q ws pc lv (.int x :: st) :=
  fun H locs ls hP hD hS hl => lv_tableOut X.hx X.hb hdg h ht (k H locs ls hP hD hS hl)
theorem hlookup (X : hX p s m args meth c G A nL cc own Ts ret) {dflt : Int} {ps : Array (Int × Int)} {len : Nat} {x : Int32} {off : Int} {tgt : Nat} (hdg : decode cc pc = .ok (.lookupswitch dflt ps, len)) (hp : (ps.toList.zip (ps.toList.drop 1)).all (fun (a, next) => a.1 < next.1) = true) (ho : Op.lookupswitch.offset ps.toList dflt x.toInt = off) (ht : (pc : Int) + off = (tgt : Int)) (k : hV p l e R s m args below meth c G A nL cells slots Q ws tgt lv st) : hV p l e R s m args below meth c G A nL cells slots Q ws pc lv (.int x :: st) :=
  fun H locs ls hP hD hS hl => lv_lookup X.hx X.hb hdg hp ho ht (k H locs ls hP hD hS hl)
theorem hifnonnull (X : hX p s m args meth c G A nL cc own Ts ret) {x : Nat} {off : Int} {tgt : Nat} (hdg : decode cc pc = .ok (.ifnonnull off, 3)) (ht : (pc : Int) + off = (tgt : Int)) (k : hV p l e R s m args below meth c G A nL cells slots Q ws tgt lv st) : hV p l e R s m args below meth c G A nL cells slots Q ws pc lv (.ref x :: st) :=
  fun H locs ls hP hD hS hl => lv_ifnonnull X.hx X.hb hdg ht (k H locs ls hP hD hS hl)
theorem hifnull (X : hX p s m args meth c G A nL cc own Ts ret) {x : Nat} {off : Int} (hdg : decode cc pc = .ok (.ifnull off, 3)) (k : hV p l e R s m args below meth c G A nL cells slots Q ws (pc + 3) lv st) : hV p l e R s m args below meth c G A nL cells slots Q ws pc lv (.ref x :: st) :=
  fun H locs ls hP hD hS hl => lv_ifnull X.hx X.hb hdg (k H locs ls hP hD hS hl)
-- fields
theorem hget1 (X : hX p s m args meth c G A nL cc own Ts ret) {C : String} {T : u_T} {N ci index a : Nat} (hin : ∀ w ∈ u_ws C T N, w ∈ Ts) (q0 : Nat) {fs : List Value} (he : ws[q0]? = some (a, .inr (ci, fs))) (hc : vwCl[ci]? = some (C, T, N)) (k : Nat) (hk : k < N) (hlink : Cond.fieldLink own index (T k).1 (T k).2.1 (T k).2.2.1 ∈ Ts) {v : Value} (hv : fs[k]? = some v) (hdg : decode cc pc = .ok (.getfield index, 3)) (kk : hV p l e R s m args below meth c G A nL cells slots Q ws (pc + 3) lv (v :: st)) : hV p l e R s m args below meth c G A nL cells slots Q ws pc lv (.ref a :: st) :=
  fun H locs ls hP hD hS hl => va_get X.hx X.hb X.hts hin X.hown X.hK hP q0 he hc k hk (X.hts _ hlink) (fun _ h9 => h9) hv hdg (kk H locs ls hP hD hS hl)
theorem hgetN (X : hX p s m args meth c G A nL cc own Ts ret) {C : String} {T : u_T} {N ci index a : Nat} (hin : ∀ w ∈ u_ws C T N, w ∈ Ts) (q0 : Nat) {fs : List Value} (he : ws[q0]? = some (a, .inr (ci, fs))) (hc : vwCl[ci]? = some (C, T, N)) (k : Nat) (hk : k < N) (hlink : (own, index, (T k).1, (T k).2.1, (T k).2.2.1) ∈ hNF) {v : Value} (hv : fs[k]? = some v) (hdg : decode cc pc = .ok (.getfield index, 3)) (kk : hV p l e R s m args below meth c G A nL cells slots Q ws (pc + 3) lv (v :: st)) : hV p l e R s m args below meth c G A nL cells slots Q ws pc lv (.ref a :: st) :=
  fun H locs ls hP hD hS hl => va_getN X.hx X.hb X.hts hin X.hown X.hK hP q0 he hc k hk (va_Nw.use rfl (X.hE.1.1 _ hlink)) (fun _ h9 => h9) hv hdg (kk H locs ls hP hD hS hl)
theorem hput1 (X : hX p s m args meth c G A nL cc own Ts ret) {C : String} {T : u_T} {N ci index a : Nat} (hin : ∀ w ∈ u_ws C T N, w ∈ Ts) (ty0 : Nat → FieldType) (hty : ∀ k, k < N → parseFieldDescriptor (T k).2.2.1 = some (ty0 k)) (hnm : ∀ a, a < N → ∀ b, b < N → a ≠ b → (T a).2.1 ≠ (T b).2.1) (q0 : Nat) {fs : List Value} (he : ws[q0]? = some (a, .inr (ci, fs))) (hc : vwCl[ci]? = some (C, T, N)) (k : Nat) (hk : k < N) (hlink : Cond.fieldLink own index (T k).1 (T k).2.1 (T k).2.2.1 ∈ Ts) (hfin : (T k).2.2.2 = false) {v : Value} (hn : narrow (ty0 k) v = v) (hfit : fits (ty0 k) v = true) (hl : k < fs.length) (hdg : decode cc pc = .ok (.putfield index, 3)) {ws' : va_W} (hw : ws.set q0 (a, .inr (ci, fs.set k v)) = ws') (kk : hV p l e R s m args below meth c G A nL cells slots Q ws' (pc + 3) lv st) : hV p l e R s m args below meth c G A nL cells slots Q ws pc lv (v :: .ref a :: st) := by
  subst hw
  exact fun H locs ls hP hD hS hl0 => va_put X.hx X.hb X.hts hin ty0 hty hnm X.hown X.hK hP hD hS q0 he hc k hk (X.hts _ hlink) (fun _ h9 => h9) hfin (hty k hk) hn hfit hl hdg (fun H1 locs1 hP hD hS => kk H1 locs1 ls hP hD hS hl0)
theorem hputN (X : hX p s m args meth c G A nL cc own Ts ret) {C : String} {T : u_T} {N ci index a : Nat} (hin : ∀ w ∈ u_ws C T N, w ∈ Ts) (ty0 : Nat → FieldType) (hty : ∀ k, k < N → parseFieldDescriptor (T k).2.2.1 = some (ty0 k)) (hnm : ∀ a, a < N → ∀ b, b < N → a ≠ b → (T a).2.1 ≠ (T b).2.1) (q0 : Nat) {fs : List Value} (he : ws[q0]? = some (a, .inr (ci, fs))) (hc : vwCl[ci]? = some (C, T, N)) (k : Nat) (hk : k < N) (hlink : (own, index, (T k).1, (T k).2.1, (T k).2.2.1) ∈ hNF) (hfin : (T k).2.2.2 = false) {v : Value} (hn : narrow (ty0 k) v = v) (hfit : fits (ty0 k) v = true) (hl : k < fs.length) (hdg : decode cc pc = .ok (.putfield index, 3)) {ws' : va_W} (hw : ws.set q0 (a, .inr (ci, fs.set k v)) = ws') (kk : hV p l e R s m args below meth c G A nL cells slots Q ws' (pc + 3) lv st) : hV p l e R s m args below meth c G A nL cells slots Q ws pc lv (v :: .ref a :: st) := by
  subst hw
  exact fun H locs ls hP hD hS hl0 => va_putN X.hx X.hb X.hts hin ty0 hty hnm X.hown X.hK hP hD hS q0 he hc k hk (va_Nw.use rfl (X.hE.1.1 _ hlink)) (fun _ h9 => h9) hfin (hty k hk) hn hfit hl hdg (fun H1 locs1 hP hD hS => kk H1 locs1 ls hP hD hS hl0)
theorem hputF (X : hX p s m args meth c G A nL cc own Ts ret) (hin2 : meth.name = "<init>") {C : String} {T : u_T} {N ci index a : Nat} (hin : ∀ w ∈ u_ws C T N, w ∈ Ts) (ty0 : Nat → FieldType) (hty : ∀ k, k < N → parseFieldDescriptor (T k).2.2.1 = some (ty0 k)) (hnm : ∀ a, a < N → ∀ b, b < N → a ≠ b → (T a).2.1 ≠ (T b).2.1) (q0 : Nat) {fs : List Value} (he : ws[q0]? = some (a, .inr (ci, fs))) (hc : vwCl[ci]? = some (C, T, N)) (k : Nat) (hk : k < N) (hlink : Cond.fieldLink own index (T k).1 (T k).2.1 (T k).2.2.1 ∈ Ts) (hfin : (T k).2.2.2 = true) (hdecl : (T k).1 = own) {v : Value} (hn : narrow (ty0 k) v = v) (hfit : fits (ty0 k) v = true) (hl : k < fs.length) (hdg : decode cc pc = .ok (.putfield index, 3)) {ws' : va_W} (hw : ws.set q0 (a, .inr (ci, fs.set k v)) = ws') (kk : hV p l e R s m args below meth c G A nL cells slots Q ws' (pc + 3) lv st) : hV p l e R s m args below meth c G A nL cells slots Q ws pc lv (v :: .ref a :: st) := by
  subst hw
  exact fun H locs ls hP hD hS hl0 => va_putF X.hx X.hb X.hts hin ty0 hty hnm X.hown X.hK hP hD hS q0 he hc k hk (X.hts _ hlink) (fun _ h9 => h9) hfin hin2 hdecl (hty k hk) hn hfit hl hdg (fun H1 locs1 hP hD hS => kk H1 locs1 ls hP hD hS hl0)
-- arrays
theorem hialen (X : hX p s m args meth c G A nL cc own Ts ret) (q0 t0 : Nat) {a : Nat} {cA : ClassId} {x : vp_A} (ha : ws[q0]? = some (a, .inl (cA, x))) {ty : FieldType} (ht : (hT G)[t0]? = some (cA, ty)) {v : Int32} (hv : Int32.ofNat x.1 = v) (hdg : decode cc pc = .ok (.arraylength, 1)) (k : hV p l e R s m args below meth c G A nL cells slots Q ws (pc + 1) lv (.int v :: st)) : hV p l e R s m args below meth c G A nL cells slots Q ws pc lv (.ref a :: st) :=
  fun H locs ls hP hD hS hl => va_alen X.hx X.hb X.hK hP q0 t0 ha ht hv hdg (k H locs ls hP hD hS hl)
theorem hiald (X : hX p s m args meth c G A nL cc own Ts ret) (q0 : Nat) {a n : Nat} {f : Nat → Int32} (ha : ws[q0]? = some (a, .inl (G.2.1 0, n, .inl f))) {i : Int32} (k : Nat) (hi : i = nI k) (hk : k < n) (hn : n < 2 ^ 31) (hdg : decode cc pc = .ok (.iaload, 1)) (kk : hV p l e R s m args below meth c G A nL cells slots Q ws (pc + 1) lv (.int (f k) :: st)) : hV p l e R s m args below meth c G A nL cells slots Q ws pc lv (.int i :: .ref a :: st) := by
  subst hi
  intro H locs ls hP hD hS hl
  refine va_iald X.hx X.hb X.hK hP q0 0 ha rfl (vp_in_nI hk hn) hdg ?_
  rw [nI_clamp (Nat.lt_trans hk hn)]
  exact kk H locs ls hP hD hS hl
theorem hiast (X : hX p s m args meth c G A nL cc own Ts ret) (q0 : Nat) {a n : Nat} {f : Nat → Int32} (ha : ws[q0]? = some (a, .inl (G.2.1 0, n, .inl f))) {i x : Int32} (k : Nat) (hi : i = nI k) (hk : k < n) (hn : n < 2 ^ 31) (hdg : decode cc pc = .ok (.iastore, 1)) {ws' : va_W} (hw : ws.set q0 (a, .inl (G.2.1 0, n, .inl (upd f k x))) = ws') (kk : hV p l e R s m args below meth c G A nL cells slots Q ws' (pc + 1) lv st) : hV p l e R s m args below meth c G A nL cells slots Q ws pc lv (.int x :: .int i :: .ref a :: st) := by
  subst hi; subst hw
  intro H locs ls hP hD hS hl
  refine va_iast X.hx X.hb X.hK hP hD hS q0 0 ha rfl (vp_in_nI hk hn) hdg ?_
  rw [nI_clamp (Nat.lt_trans hk hn)]
  exact fun H1 locs1 hP hD hS => kk H1 locs1 ls hP hD hS hl
theorem hcald (X : hX p s m args meth c G A nL cc own Ts ret) (q0 : Nat) {a n : Nat} {f : Nat → Int32} (ha : ws[q0]? = some (a, .inl (G.2.1 1, n, .inl f))) {i : Int32} (k : Nat) (hi : i = nI k) (hk : k < n) (hn : n < 2 ^ 31) (hdg : decode cc pc = .ok (.caload, 1)) (kk : hV p l e R s m args below meth c G A nL cells slots Q ws (pc + 1) lv (.int (f k) :: st)) : hV p l e R s m args below meth c G A nL cells slots Q ws pc lv (.int i :: .ref a :: st) := by
  subst hi
  intro H locs ls hP hD hS hl
  refine va_cald X.hx X.hb X.hK hP q0 1 ha rfl (vp_in_nI hk hn) hdg ?_
  rw [nI_clamp (Nat.lt_trans hk hn)]
  exact kk H locs ls hP hD hS hl
theorem hcast (X : hX p s m args meth c G A nL cc own Ts ret) (q0 : Nat) {a n : Nat} {f : Nat → Int32} (ha : ws[q0]? = some (a, .inl (G.2.1 1, n, .inl f))) {i x : Int32} (k : Nat) (hi : i = nI k) (hk : k < n) (hn : n < 2 ^ 31) (hdg : decode cc pc = .ok (.castore, 1)) {ws' : va_W} (hw : ws.set q0 (a, .inl (G.2.1 1, n, .inl (upd f k (vp_nar .char x)))) = ws') (kk : hV p l e R s m args below meth c G A nL cells slots Q ws' (pc + 1) lv st) : hV p l e R s m args below meth c G A nL cells slots Q ws pc lv (.int x :: .int i :: .ref a :: st) := by
  subst hi; subst hw
  intro H locs ls hP hD hS hl
  refine va_cast X.hx X.hb X.hK hP hD hS q0 1 ha rfl (vp_in_nI hk hn) hdg ?_
  rw [nI_clamp (Nat.lt_trans hk hn)]
  exact fun H1 locs1 hP hD hS => kk H1 locs1 ls hP hD hS hl
theorem hzald (X : hX p s m args meth c G A nL cc own Ts ret) (q0 : Nat) {a n : Nat} {f : Nat → Int32} (ha : ws[q0]? = some (a, .inl (G.2.1 2, n, .inl f))) {i : Int32} (k : Nat) (hi : i = nI k) (hk : k < n) (hn : n < 2 ^ 31) (hdg : decode cc pc = .ok (.baload, 1)) (kk : hV p l e R s m args below meth c G A nL cells slots Q ws (pc + 1) lv (.int (f k) :: st)) : hV p l e R s m args below meth c G A nL cells slots Q ws pc lv (.int i :: .ref a :: st) := by
  subst hi
  intro H locs ls hP hD hS hl
  refine va_zald X.hx X.hb X.hK hP q0 2 ha rfl (vp_in_nI hk hn) hdg ?_
  rw [nI_clamp (Nat.lt_trans hk hn)]
  exact kk H locs ls hP hD hS hl
theorem hzast (X : hX p s m args meth c G A nL cc own Ts ret) (q0 : Nat) {a n : Nat} {f : Nat → Int32} (ha : ws[q0]? = some (a, .inl (G.2.1 2, n, .inl f))) {i x : Int32} (k : Nat) (hi : i = nI k) (hk : k < n) (hn : n < 2 ^ 31) (hdg : decode cc pc = .ok (.bastore, 1)) {ws' : va_W} (hw : ws.set q0 (a, .inl (G.2.1 2, n, .inl (upd f k (vp_nar .boolean x)))) = ws') (kk : hV p l e R s m args below meth c G A nL cells slots Q ws' (pc + 1) lv st) : hV p l e R s m args below meth c G A nL cells slots Q ws pc lv (.int x :: .int i :: .ref a :: st) := by
  subst hi; subst hw
  intro H locs ls hP hD hS hl
  refine va_zast X.hx X.hb X.hK hP hD hS q0 2 ha rfl (vp_in_nI hk hn) hdg ?_
  rw [nI_clamp (Nat.lt_trans hk hn)]
  exact fun H1 locs1 hP hD hS => kk H1 locs1 ls hP hD hS hl
theorem haald (X : hX p s m args meth c G A nL cc own Ts ret) (q0 : Nat) {a n : Nat} {f : Nat → Option Nat} (ha : ws[q0]? = some (a, .inl (G.2.1 3, n, .inr (.inr (.inr (.inr f)))))) {i : Int32} (k : Nat) (hi : i = nI k) (hk : k < n) (hn : n < 2 ^ 31) (hdg : decode cc pc = .ok (.aaload, 1)) (kk : hV p l e R s m args below meth c G A nL cells slots Q ws (pc + 1) lv (va_rf (f k) :: st)) : hV p l e R s m args below meth c G A nL cells slots Q ws pc lv (.int i :: .ref a :: st) := by
  subst hi
  intro H locs ls hP hD hS hl
  refine va_aldq X.hx X.hb X.hK hP q0 3 ha rfl (vp_in_nI hk hn) hdg ?_
  rw [nI_clamp (Nat.lt_trans hk hn)]
  exact kk H locs ls hP hD hS hl
theorem haast (X : hX p s m args meth c G A nL cc own Ts ret) (q0 qk : Nat) {a n v : Nat} {vs : List Value} {f : Nat → Option Nat} (ha : ws[q0]? = some (a, .inl (G.2.1 3, n, .inr (.inr (.inr (.inr f)))))) (hv : ws[qk]? = some (v, .inr (1, vs))) {i : Int32} (k : Nat) (hi : i = nI k) (hk : k < n) (hn : n < 2 ^ 31) (hdg : decode cc pc = .ok (.aastore, 1)) {ws' : va_W} (hw : ws.set q0 (a, .inl (G.2.1 3, n, .inr (.inr (.inr (.inr (va_up f k (some v))))))) = ws') (kk : hV p l e R s m args below meth c G A nL cells slots Q ws' (pc + 1) lv st) : hV p l e R s m args below meth c G A nL cells slots Q ws pc lv (.ref v :: .int i :: .ref a :: st) := by
  subst hi; subst hw
  intro H locs ls hP hD hS hl
  refine va_astq (r := (RX1, TX1, 7)) X.hx X.hb X.hK hP hD hS q0 3 qk 1 ha rfl hv rfl (vp_in_nI hk hn) hdg ?_
  rw [nI_clamp (Nat.lt_trans hk hn)]
  exact fun H1 locs1 hP hD hS => kk H1 locs1 ls hP hD hS hl
-- making
theorem hnew (X : hX p s m args meth c G A nL cc own Ts ret) {C : String} {T : u_T} {N ci index : Nat} (hin : ∀ w ∈ u_ws C T N, w ∈ Ts) (ty : Nat → FieldType) (hty : ∀ k, k < N → parseFieldDescriptor (T k).2.2.1 = some (ty k)) (hcl : Cond.classLink own index C ∈ Ts) (hinst : Cond.instantiable C N ∈ Ts) (hini : Cond.initialized C ∈ Ts) (hc : vwCl[ci]? = some (C, T, N)) {fs : List Value} (hfs : ∀ j, j < N → defaultValue (ty j) = vp_V fs j) (hcells : cells + 1 ≤ R.cells) (hslots : slots + N ≤ R.slots) (hdg : decode cc pc = .ok (.new index, 3)) (kk : ∀ q : Nat, hV p l e R s m args below meth c G A nL (cells + 1) (slots + N) Q (ws ++ [(q, .inr (ci, fs))]) (pc + 3) lv (.ref q :: st)) : hV p l e R s m args below meth c G A nL cells slots Q ws pc lv st :=
  fun H locs ls hP hD hS hl => va_new X.hx X.hb X.hts hin ty hty X.hown (X.hts _ hcl) (X.hts _ hinst) (X.hts _ hini) X.hK hP hD hS X.hA hc hfs hcells hslots hdg (fun q H1 hP hD hS => kk q H1 locs ls hP hD hS hl)
theorem hRA_in {U : State} {cA cB : ClassId} {t : FieldType} (h1 : va_RA U cA t) (h2 : va_RA U cB t) : cA = cB := by
  cases t with
  | object C =>
    obtain ⟨_, _, _, _, _, h⟩ := h1
    obtain ⟨_, _, _, _, _, h'⟩ := h2
    exact Option.some.inj (h.symm.trans h')
  | _ => exact Option.some.inj (Eq.trans (Eq.symm h1) h2)
theorem hnewa (X : hX p s m args meth c G A nL cc own Ts ret) {atype : ArrayType} (harr : Cond.arrayClass (newarray.typeOf atype) ∈ Ts) {ty : FieldType} (hty : newarray.typeOf atype = ty) (t0 : Nat) {cI : ClassId} (ht : (hT G)[t0]? = some (cI, ty)) {n : Int32} {N' : Nat} {a0 : vp_A} (ha : ∀ cA : ClassId, vp_cell cA a0 = arrV cA N' (fun _ => defaultValue ty)) (hn : ¬ n < 0) (hN : n.toNatClampNeg = N') (hbytes : N' * componentBytes ty ≤ 536870912) (hcells : cells + 1 ≤ R.cells) (hslots : slots + N' ≤ R.slots) (hdg : decode cc pc = .ok (.newarray atype, 2)) (kk : ∀ q : Nat, hV p l e R s m args below meth c G A nL (cells + 1) (slots + N') Q (ws ++ [(q, .inl (cI, a0))]) (pc + 2) lv (.ref q :: st)) : hV p l e R s m args below meth c G A nL cells slots Q ws pc lv (.int n :: st) := by
  intro H locs ls hP hD hS hl
  refine va_newa X.hx X.hb (X.hts _ harr) hty X.hK hP hD hS X.hA ha hn hN hbytes hcells hslots hdg (fun q cA H1 hK hP hD hS => ?_)
  have e : cA = cI := hRA_in (hK.2 4 (cA, ty) rfl).2 (X.hK.2 t0 _ ht).2
  subst e
  exact kk q H1 locs ls hP hD hS hl
theorem hnewq (X : hX p s m args meth c G A nL cc own Ts ret) {index : Nat} (hcl : Cond.classLink own index "HallBuilds$Hall" ∈ Ts) {n : Int32} {N' : Nat} (hn : ¬ n < 0) (hN : n.toNatClampNeg = N') (hbytes : N' * 4 ≤ 536870912) (hcells : cells + 1 ≤ R.cells) (hslots : slots + N' ≤ R.slots) (hdg : decode cc pc = .ok (.anewarray index, 3)) (kk : ∀ q : Nat, hV p l e R s m args below meth c G A nL (cells + 1) (slots + N') Q (ws ++ [(q, .inl (G.2.1 3, N', .inr (.inr (.inr (.inr (fun _ => none))))))]) (pc + 3) lv (.ref q :: st)) : hV p l e R s m args below meth c G A nL cells slots Q ws pc lv (.int n :: st) := by
  intro H locs ls hP hD hS hl
  refine va_newq X.hx X.hb X.hown (X.hts _ hcl) X.hE.1.2.2.2 X.hK hP hD hS X.hA hn hN hbytes hcells hslots hdg (fun q cA H1 hK hP hD hS => ?_)
  have e : cA = G.2.1 3 := hRA_in (hK.2 4 (cA, _) rfl).2 (X.hK.2 3 _ rfl).2
  subst e
  exact kk q H1 locs ls hP hD hS hl
theorem hobj (X : hX p s m args meth c G A nL cc own Ts ret) {idx a : Nat} (h1 : Cond.methodLink own idx Lib.objectInit ∈ Ts) (h2 : Cond.instanceMethod Lib.objectInit ∈ Ts) (h3 : Cond.code Lib.objectInit ⟨#[0xb1]⟩ 1 none ∈ Ts) (hdg : decode cc pc = .ok (.invokespecial idx, 3)) (hf : 1 ≤ R.frames) (hl0 : (st.map fun v => v.category).sum + 12 ≤ R.locals) (k : hV p l e R s m args below meth c G A nL cells slots Q ws (pc + 3) lv st) : hV p l e R s m args below meth c G A nL cells slots Q ws pc lv (.ref a :: st) :=
  fun H locs ls hP hD hS hl => W.objInit X.hx X.hb X.hown (X.hts _ h1) (X.hts _ h2) (X.hts _ h3) rfl (by rw [X.hml]; exact hl.1) rfl hdg hf (by show 2 * 0 + _ + 12 ≤ _; omega) (W.eq (g2 := F0 m (pc + 3) ls st) rfl (k H locs ls hP hD hS hl))
-- Math
theorem hmmax (X : hX p s m args meth c G A nL cc own Ts ret) {index : Nat} (h1 : Cond.methodLink own index Lib.Math.max.name ∈ Ts) (h2 : Cond.static Lib.Math.max.name ∈ Ts) (h3 : Cond.initialized "java/lang/Math" ∈ Ts) (h4 : Cond.code Lib.Math.max.name Lib.Math.max.code 2 (some .int) ∈ Ts) (hf : 1 ≤ R.frames) (hlo : (st.map fun v => v.category).sum + 13 ≤ R.locals) (hc : cells ≤ R.cells) (hs : slots ≤ R.slots) {x y : Int32} (hdg : decode cc pc = .ok (.invokestatic index, 3)) (k : hV p l e R s m args below meth c G A nL cells slots Q ws (pc + 3) lv (.int (if x < y then y else x) :: st)) : hV p l e R s m args below meth c G A nL cells slots Q ws pc lv (.int y :: .int x :: st) :=
  fun H locs ls hP hD hS hl => va_mmax X.hx X.hb (by rw [X.hml]; exact hl.1.symm) X.hown (X.hts _ h1) (X.hts _ h2) (X.hts _ h3) (X.hts _ h4) hf hlo hc hs hdg (k H locs ls hP hD hS hl)
theorem hmmin (X : hX p s m args meth c G A nL cc own Ts ret) {index : Nat} (h1 : Cond.methodLink own index Lib.Math.min.name ∈ Ts) (h2 : Cond.static Lib.Math.min.name ∈ Ts) (h3 : Cond.initialized "java/lang/Math" ∈ Ts) (h4 : Cond.code Lib.Math.min.name Lib.Math.min.code 2 (some .int) ∈ Ts) (hf : 1 ≤ R.frames) (hlo : (st.map fun v => v.category).sum + 13 ≤ R.locals) (hc : cells ≤ R.cells) (hs : slots ≤ R.slots) {x y : Int32} (hdg : decode cc pc = .ok (.invokestatic index, 3)) (k : hV p l e R s m args below meth c G A nL cells slots Q ws (pc + 3) lv (.int (if y < x then y else x) :: st)) : hV p l e R s m args below meth c G A nL cells slots Q ws pc lv (.int y :: .int x :: st) :=
  fun H locs ls hP hD hS hl => va_mmin X.hx X.hb (by rw [X.hml]; exact hl.1.symm) X.hown (X.hts _ h1) (X.hts _ h2) (X.hts _ h3) (X.hts _ h4) hf hlo hc hs hdg (k H locs ls hP hD hS hl)
-- the table MOST_OF_SETTINGS
theorem hgetsM (X : hX p s m args meth c G A nL cc own Ts ret) {index : Nat} (hlink : (own, index, "HallBuilds", "MOST_OF_SETTINGS", "[I") ∈ hNF) (hdg : decode cc pc = .ok (.getstatic index, 3)) (k : hV p l e R s m args below meth c G A nL cells slots Q ws (pc + 3) lv (.ref (G.2.2 1) :: st)) : hV p l e R s m args below meth c G A nL cells slots Q ws pc lv st :=
  fun H locs ls hP hD hS hl => va_getsN X.hx X.hb X.hE.2.2.1 hS X.hown (va_Nw.use rfl (X.hE.1.1 _ hlink)) (fun _ h9 => h9) hdg (k H locs ls hP hD hS hl)
theorem hgetsF (X : hX p s m args meth c G A nL cc own Ts ret) {index : Nat} (hlink : (own, index, "HallBuilds", "FIRST_SETTINGS", "[I") ∈ hNF) (hdg : decode cc pc = .ok (.getstatic index, 3)) (k : hV p l e R s m args below meth c G A nL cells slots Q ws (pc + 3) lv (.ref (G.2.2 0) :: st)) : hV p l e R s m args below meth c G A nL cells slots Q ws pc lv st :=
  fun H locs ls hP hD hS hl => va_getsN X.hx X.hb X.hE.2.1 hS X.hown (va_Nw.use rfl (X.hE.1.1 _ hlink)) (fun _ h9 => h9) hdg (k H locs ls hP hD hS hl)
theorem hialdM (X : hX p s m args meth c G A nL cc own Ts ret) {i : Int32} (k : Nat) (hi : i = nI k) (hk : k < 3) (hdg : decode cc pc = .ok (.iaload, 1)) (kk : hV p l e R s m args below meth c G A nL cells slots Q ws (pc + 1) lv (.int (hMst k) :: st)) : hV p l e R s m args below meth c G A nL cells slots Q ws pc lv (.int i :: .ref (G.2.2 1) :: st) := by
  subst hi
  intro H locs ls hP hD hS hl
  exact va_ti (v := .int (hMst k)) X.hx X.hb X.hE.2.2.2.1 hS (vp_in_nI hk (by omega)) (by rw [nI_clamp (by omega)]) hdg (kk H locs ls hP hD hS hl)
end HV
theorem hlenM {p : Program} {l : Launch} {e : Env} {R : Room} {s : State} {m : MethodId} {args : Array Value} {below : List Frame} {meth : Method} {c : Code} {cells slots : Nat} {Q : State → Prop} {G : hG} {A : Nat → Prop} {nL : Nat} {cc : ByteArray} {own : String} {Ts : List Cond} {ret : Option FieldType} {ws : va_W} {pc : Nat} {lv : List (Nat × Value)} {st : List Value} (X : hX p s m args meth c G A nL cc own Ts ret) {v : Int32} (hv : Int32.ofNat 3 = v) (hdg : decode cc pc = .ok (.arraylength, 1)) (k : hV p l e R s m args below meth c G A nL cells slots Q ws (pc + 1) lv (.int v :: st)) : hV p l e R s m args below meth c G A nL cells slots Q ws pc lv (.ref (G.2.2 1) :: st) :=
  fun H locs ls hP hD hS hl => va_tlen X.hx X.hb X.hE.2.2.2.1 hS hv hdg (k H locs ls hP hD hS hl)
/-! contracts: from a world and arguments to an answer and a world -/
def hPc (G : hG) (ws : va_W) (as : List Value) (sz : Nat) : Array Value → State → Prop := va_Pc as (fun U => U.heap.size = sz ∧ va_P G.1 vwCl ws U.heap ∧ va_K G.1 vwCl (hT G) U ∧ va_D (fun _ => True) ws ∧ hE G (va_A ws sz) U U.heap)
def hQc (G : hG) (ws : va_W) (sz : Nat) (post : Option Value → va_W → Prop) : Array Value → State → Outcome → State → Prop := fun _ st oc t => (∃ (v : Option Value) (ws' : va_W), oc = .returned v ∧ post v ws' ∧ va_P G.1 vwCl ws' t.heap ∧ va_D (va_A ws sz) ws') ∧ va_F (va_A ws sz) st t
def hM (l : Launch) (G : hG) (y : MethodName) (wds : List Cond) (rm : Room) (ws : va_W) (as : List Value) (post : Option Value → va_W → Prop) : Prop := ∀ sz : Nat, Met l y wds rm (hPc G ws as sz) (hQc G ws sz post) rm.cells rm.slots (va_A ws sz)
/-- the answer v and the world w, nothing else -/
def hR (v : Option Value) (w : va_W) : Option Value → va_W → Prop := fun v' w' => v' = v ∧ w' = w
theorem hPc_blind {G : hG} {ws : va_W} {as : List Value} {sz : Nat} : FrameBlind (hPc G ws as sz) := by
  intro a U g mk q
  obtain ⟨q0, q1, qP, qK, qD, qE⟩ := q
  exact ⟨q0, q1, qP, va_K.moved (u := U) (U := U.calling g mk a) (Vm.Alike.refl U.vm) qK, qD, hE.same (s := U) (U := U.calling g mk a) rfl qE⟩
section HC
variable {p : Program} {l : Launch} {e : Env} {R : Room} {s : State} {m : MethodId} {args : Array Value} {below : List Frame} {meth : Method} {c : Code} {cells slots : Nat} {Q : State → Prop}
variable {G : hG} {A : Nat → Prop} {nL : Nat} {cc : ByteArray} {own : String} {Ts : List Cond} {ret : Option FieldType}
variable {ws : va_W} {pc : Nat} {lv : List (Nat × Value)} {st : List Value}
/-- what a callee is given -/
theorem hPc_at (X : hX p s m args meth c G A nL cc own Ts ret) {wsC wsR : va_W} {as : List Value} {H : Heap} {locs : List Loc} (hP : va_P G.1 vwCl (wsC ++ wsR) H) (hD : va_D A (wsC ++ wsR)) (hS : va_S A s.heap H locs) (U : State) (hU : U.heap = H) (hW : s.WarmedH U.vm) : hPc G wsC as H.size as.toArray U := by
  have hPc : va_P G.1 vwCl wsC H := hPmem.mpr fun q hq => hPmem.mp hP q (List.mem_append_left _ hq)
  have hD' := hDmem.mp hD
  have hDc : va_D (fun _ => True) wsC := hDmem.mpr ⟨by
    have h := hD'.1
    rw [List.map_append] at h
    exact (List.nodup_append.mp h).1, fun _ _ => trivial⟩
  refine ⟨rfl, by rw [hU], by rw [hU]; exact hPc, va_K.moved hW.alike X.hK, hDc, ?_⟩
  have h1 : hE G A s H := X.hE.kept fun a ha hn => hS.2.1 a ha hn
  rw [hU]
  refine (h1.warm hW).narrow fun q hq => ?_
  rcases hq with ⟨k, en, hk⟩ | hq
  · exact hD'.2 (q, en) (List.mem_append_left _ (List.mem_of_getElem? hk))
  · exact X.hA q (Nat.le_trans hS.1 hq)
theorem hV_run (X : hX p s m args meth c G A nL cc own Ts ret) {wsC wsR : va_W} {post : Option Value → va_W → Prop} {mc ms : Nat} {rest : List Value} {a : Array Value}
    (hrun : ∀ (H : Heap) (locs : List Loc) (ls : Array Slot), va_P G.1 vwCl (wsC ++ wsR) H → va_D A (wsC ++ wsR) → va_S A s.heap H locs → lv_has ls nL lv → va_Run p l e R s m args below meth c H locs cells slots mc ms (F0 m pc ls st) rest (hQc G wsC H.size post a) (va_A wsC H.size))
    (kk : ∀ (v : Option Value) (ws1 : va_W), post v ws1 → hV p l e R s m args below meth c G A nL (cells + mc) (slots + ms) Q (ws1 ++ wsR) (pc + 3) lv (v.toList ++ rest)) : hV p l e R s m args below meth c G A nL cells slots Q (wsC ++ wsR) pc lv st := by
  intro H locs ls hP hD hS hl T hT Y
  obtain ⟨v, st₀, t, T', L, h0, X', hL, e1, e2, ⟨⟨v', ws1, hv, hp, hP1, hD1⟩, hz, hk⟩, goes⟩ := hrun H locs ls hP hD hS hl T hT Y
  cases hv
  rw [h0] at hz hk
  have hDm := hDmem.mp hD
  have hAc : ∀ q : Nat, va_A wsC H.size q → A q := by
    intro q hq
    rcases hq with ⟨k, en, hk⟩ | hq
    · exact hDm.2 (q, en) (List.mem_append_left _ (List.mem_of_getElem? hk))
    · exact X.hA q (Nat.le_trans hS.1 hq)
  have apart : ∀ q ∈ wsR, q.1 < H.size ∧ ¬ va_A wsC H.size q.1 := by
    intro q hq
    have hlt : q.1 < H.size := va_at.lt (hPmem.mp hP q (List.mem_append_right _ hq))
    refine ⟨hlt, fun h => ?_⟩
    rcases h with ⟨k, en, hk⟩ | h
    · have hnd := hDm.1
      rw [List.map_append] at hnd
      exact (List.nodup_append.mp hnd).2.2 q.1 (List.mem_map.mpr ⟨(q.1, en), List.mem_of_getElem? hk, rfl⟩) q.1 (List.mem_map.mpr ⟨q, hq, rfl⟩) rfl
    · omega
  have hPn : va_P G.1 vwCl (ws1 ++ wsR) t.heap := hPmem.mpr fun q hq => by
    rcases List.mem_append.mp hq with h | h
    · exact hPmem.mp hP1 q h
    · obtain ⟨g1, g2⟩ := apart q h
      exact va_at.kept (hPmem.mp hP q (List.mem_append_right _ h)) (hk q.1 g1 g2)
  have hDn : va_D A (ws1 ++ wsR) := by
    have hD1' := hDmem.mp hD1
    refine hDmem.mpr ⟨?_, fun q hq => ?_⟩
    · rw [List.map_append]
      refine List.nodup_append.mpr ⟨hD1'.1, ?_, ?_⟩
      · have hnd := hDm.1
        rw [List.map_append] at hnd
        exact (List.nodup_append.mp hnd).2.1
      · intro x hx y hy hxy
        obtain ⟨q, hq, rfl⟩ := List.mem_map.mp hx
        obtain ⟨q', hq', rfl⟩ := List.mem_map.mp hy
        have h1 := hD1'.2 q hq
        rw [hxy] at h1
        exact (apart q' hq').2 h1
    · rcases List.mem_append.mp hq with h | h
      · exact hAc _ (hD1'.2 q h)
      · exact hDm.2 q (List.mem_append_right _ h)
  obtain ⟨t2, a1, b1⟩ := kk v ws1 hp T'.heap (locs ++ L) ls (by rw [e1]; exact hPn) hDn
    ⟨Nat.le_trans hS.1 (by rw [e1]; exact hz), fun q h1 h2 => by rw [e1, hk q (Nat.lt_of_lt_of_le h1 hS.1) (fun z => h2 (hAc q z))]; exact hS.2.1 q h1 h2, fun q hq => by
      rcases List.mem_append.mp hq with h | h
      · exact hS.2.2 q h
      · exact hAc _ (hL q h)⟩ hl T' rfl X'
  exact ⟨t2, goes t2 a1, b1⟩
/-- invokevirtual of a method of the class itself or of another one that may be reached plainly -/
theorem hcallV (X : hX p s m args meth c G A nL cc own Ts ret) {y : MethodName} {bytes : ByteArray} {maxL n index b ci q0 N : Nat} {T : u_T} {fs : List Value} {rt : Option FieldType} {wds wds' : List Cond} {rm : Room} {C : String} {wsC wsR : va_W} {As rest : List Value} {post : Option Value → va_W → Prop}
    (hM0 : hM l G y wds rm wsC (.ref b :: As) post) (hG : GoodIn Ts (wsV own index C y wds)) (hw : wds = Cond.code y bytes maxL rt :: wds')
    (hd : y.cls = C ∧ y.cls ≠ "java/lang/invoke/MethodHandle" ∧ y.cls ≠ "java/lang/invoke/VarHandle" ∧ (parseMethodDescriptor y.desc).map (fun d => d.parameters.length) = some n) (hR : rm.frames + 1 ≤ R.frames ∧ 8 + (maxL + 11) + rm.locals ≤ R.locals)
    (hrecv : wsC[q0]? = some (b, .inr (ci, fs))) (hc : vwCl[ci]? = some (C, T, N)) (hn : As.length = n) (hst : st = As.reverse ++ .ref b :: rest) (hcat : (rest.map fun v => v.category).sum ≤ 8) (hdg : decode cc pc = .ok (.invokevirtual index, 3)) (hf : cells + rm.cells ≤ R.cells ∧ slots + rm.slots ≤ R.slots)
    (kk : ∀ (v : Option Value) (ws1 : va_W), post v ws1 → hV p l e R s m args below meth c G A nL (cells + rm.cells) (slots + rm.slots) Q (ws1 ++ wsR) (pc + 3) lv (v.toList ++ rest)) : hV p l e R s m args below meth c G A nL cells slots Q (wsC ++ wsR) pc lv st := by
  refine hV_run (a := (Value.ref b :: As).toArray) X (fun H locs ls hP hD hS hl => ?_) kk
  have hPc : va_P G.1 vwCl wsC H := hPmem.mpr fun q hq => hPmem.mp hP q (List.mem_append_left _ hq)
  exact va_runV (C := C) (As := As) (rest := rest) ⟨X.hx, X.hb, X.hml, X.hown, X.hts⟩ (hM0 H.size) (cwV n X.hts hG hw rfl rfl hd hR) ⟨hPc_blind, va_recv X.hK hPc hc hrecv, fun U hU hW => hPc_at X hP hD hS U hU hW⟩ rfl hn hl.1 hst (lv_room hcat) hdg hf
theorem hcallS (X : hX p s m args meth c G A nL cc own Ts ret) {y : MethodName} {bytes : ByteArray} {maxL n index : Nat} {rt : Option FieldType} {wds wds' : List Cond} {rm : Room} {wsC wsR : va_W} {As rest : List Value} {post : Option Value → va_W → Prop}
    (hM0 : hM l G y wds rm wsC As post) (hG : GoodIn Ts (va_wsS own index y wds)) (hw : wds = Cond.code y bytes maxL rt :: wds')
    (hd : y.cls ≠ "java/lang/invoke/MethodHandle" ∧ y.cls ≠ "java/lang/invoke/VarHandle" ∧ (parseMethodDescriptor y.desc).map (fun d => d.parameters.length) = some n) (hR : rm.frames + 1 ≤ R.frames ∧ 8 + (maxL + 11) + rm.locals ≤ R.locals)
    (hn : As.length = n) (hst : st = As.reverse ++ rest) (hcat : (rest.map fun v => v.category).sum ≤ 8) (hdg : decode cc pc = .ok (.invokestatic index, 3)) (hf : cells + rm.cells ≤ R.cells ∧ slots + rm.slots ≤ R.slots)
    (kk : ∀ (v : Option Value) (ws1 : va_W), post v ws1 → hV p l e R s m args below meth c G A nL (cells + rm.cells) (slots + rm.slots) Q (ws1 ++ wsR) (pc + 3) lv (v.toList ++ rest)) : hV p l e R s m args below meth c G A nL cells slots Q (wsC ++ wsR) pc lv st := by
  refine hV_run (a := As.toArray) X (fun H locs ls hP hD hS hl => ?_) kk
  exact va_runS (As := As) (rest := rest) ⟨X.hx, X.hb, X.hml, X.hown, X.hts⟩ (hM0 H.size) (va_cwS n X.hts hG hw rfl rfl hd hR) ⟨hPc_blind, fun U hU hW => hPc_at X hP hD hS U hU hW⟩ rfl hn hl.1 hst (lv_room hcat) hdg hf
theorem hcallSN (X : hX p s m args meth c G A nL cc own Ts ret) {y : MethodName} {bytes : ByteArray} {maxL n index : Nat} {rt : Option FieldType} {wds wds' : List Cond} {rm : Room} {wsC wsR : va_W} {As rest : List Value} {post : Option Value → va_W → Prop}
    (hM0 : hM l G y wds rm wsC As post) (hG : GoodIn Ts wds) (hw : wds = Cond.code y bytes maxL rt :: wds') (hlink : (own, index, y) ∈ hNM) (hst1 : Cond.static y ∈ Ts) (hini : Cond.initialized y.cls ∈ Ts)
    (hd : y.cls ≠ "java/lang/invoke/MethodHandle" ∧ y.cls ≠ "java/lang/invoke/VarHandle" ∧ (parseMethodDescriptor y.desc).map (fun d => d.parameters.length) = some n) (hR : rm.frames + 1 ≤ R.frames ∧ 8 + (maxL + 11) + rm.locals ≤ R.locals)
    (hn : As.length = n) (hst : st = As.reverse ++ rest) (hcat : (rest.map fun v => v.category).sum ≤ 8) (hdg : decode cc pc = .ok (.invokestatic index, 3)) (hf : cells + rm.cells ≤ R.cells ∧ slots + rm.slots ≤ R.slots)
    (kk : ∀ (v : Option Value) (ws1 : va_W), post v ws1 → hV p l e R s m args below meth c G A nL (cells + rm.cells) (slots + rm.slots) Q (ws1 ++ wsR) (pc + 3) lv (v.toList ++ rest)) : hV p l e R s m args below meth c G A nL cells slots Q (wsC ++ wsR) pc lv st := by
  refine hV_run (a := As.toArray) X (fun H locs ls hP hD hS hl => ?_) kk
  exact va_runSN (As := As) (rest := rest) ⟨X.hx, X.hb, X.hml, X.hown, X.hts⟩ (hM0 H.size) ⟨va_cnB n X.hts hG hw rfl rfl (X.hE.1.2.1 _ hlink) (X.hts _ hini) hd hR, X.hts _ hst1, trivial⟩ ⟨hPc_blind, fun U hU hW => hPc_at X hP hD hS U hU hW⟩ rfl hn hl.1 hst (lv_room hcat) hdg hf
theorem hcallI (X : hX p s m args meth c G A nL cc own Ts ret) {y : MethodName} {bytes : ByteArray} {maxL n index b : Nat} {wds wds' : List Cond} {rm : Room} {wsC wsR : va_W} {As rest : List Value} {post : Option Value → va_W → Prop}
    (hM0 : hM l G y wds rm wsC (.ref b :: As) post) (hG : GoodIn Ts wds) (hw : wds = Cond.code y bytes maxL none :: wds') (hini : Cond.initialized y.cls ∈ Ts) (hlink : Cond.methodLink own index y ∈ Ts) (hin : Cond.instanceMethod y ∈ Ts) (hy1 : y.name = "<init>")
    (hd : y.cls ≠ "java/lang/invoke/MethodHandle" ∧ y.cls ≠ "java/lang/invoke/VarHandle" ∧ (parseMethodDescriptor y.desc).map (fun d => d.parameters.length) = some n) (hR : rm.frames + 1 ≤ R.frames ∧ 8 + (maxL + 11) + rm.locals ≤ R.locals)
    (hn : As.length = n) (hst : st = As.reverse ++ .ref b :: rest) (hcat : (rest.map fun v => v.category).sum ≤ 8) (hdg : decode cc pc = .ok (.invokespecial index, 3)) (hf : cells + rm.cells ≤ R.cells ∧ slots + rm.slots ≤ R.slots)
    (kk : ∀ (v : Option Value) (ws1 : va_W), post v ws1 → hV p l e R s m args below meth c G A nL (cells + rm.cells) (slots + rm.slots) Q (ws1 ++ wsR) (pc + 3) lv (v.toList ++ rest)) : hV p l e R s m args below meth c G A nL cells slots Q (wsC ++ wsR) pc lv st := by
  refine hV_run (a := (Value.ref b :: As).toArray) X (fun H locs ls hP hD hS hl => ?_) kk
  exact va_runI (As := As) (rest := rest) ⟨X.hx, X.hb, X.hml, X.hown, X.hts⟩ (hM0 H.size) (cwI n X.hts hG hw rfl rfl (X.hts _ hini) (X.hts _ hlink) (X.hts _ hin) hy1 hd hR) ⟨hPc_blind, fun U hU hW => hPc_at X hP hD hS U hU hW⟩ rfl hn hl.1 hst (lv_room hcat) hdg hf
theorem hcallIN (X : hX p s m args meth c G A nL cc own Ts ret) {y : MethodName} {bytes : ByteArray} {maxL n index b : Nat} {wds wds' : List Cond} {rm : Room} {wsC wsR : va_W} {As rest : List Value} {post : Option Value → va_W → Prop}
    (hM0 : hM l G y wds rm wsC (.ref b :: As) post) (hG : GoodIn Ts wds) (hw : wds = Cond.code y bytes maxL none :: wds') (hini : Cond.initialized y.cls ∈ Ts) (hlink : (own, index, y) ∈ hNM) (hin : Cond.instanceMethod y ∈ Ts) (hy1 : y.name = "<init>")
    (hd : y.cls ≠ "java/lang/invoke/MethodHandle" ∧ y.cls ≠ "java/lang/invoke/VarHandle" ∧ (parseMethodDescriptor y.desc).map (fun d => d.parameters.length) = some n) (hR : rm.frames + 1 ≤ R.frames ∧ 8 + (maxL + 11) + rm.locals ≤ R.locals)
    (hn : As.length = n) (hst : st = As.reverse ++ .ref b :: rest) (hcat : (rest.map fun v => v.category).sum ≤ 8) (hdg : decode cc pc = .ok (.invokespecial index, 3)) (hf : cells + rm.cells ≤ R.cells ∧ slots + rm.slots ≤ R.slots)
    (kk : ∀ (v : Option Value) (ws1 : va_W), post v ws1 → hV p l e R s m args below meth c G A nL (cells + rm.cells) (slots + rm.slots) Q (ws1 ++ wsR) (pc + 3) lv (v.toList ++ rest)) : hV p l e R s m args below meth c G A nL cells slots Q (wsC ++ wsR) pc lv st := by
  refine hV_run (a := (Value.ref b :: As).toArray) X (fun H locs ls hP hD hS hl => ?_) kk
  exact va_runIN (As := As) (rest := rest) ⟨X.hx, X.hb, X.hml, X.hown, X.hts⟩ (hM0 H.size) ⟨va_cnB n X.hts hG hw rfl rfl (X.hE.1.2.1 _ hlink) (X.hts _ hini) hd hR, hy1, X.hts _ hin⟩ ⟨hPc_blind, fun U hU hW => hPc_at X hP hD hS U hU hW⟩ rfl hn hl.1 hst (lv_room hcat) hdg hf
-- the ends
theorem hiret {ws0 : va_W} {post : Option Value → va_W → Prop} {v : Int32} (X : hX p s m args meth c G (va_A ws0 s.heap.size) nL cc own Ts (some .int)) (hdg : decode cc pc = .ok (.ireturn, 1)) (hp : post (some (.int v)) ws) : hV p l e R s m args below meth c G (va_A ws0 s.heap.size) nL cells slots (MQ below (hQc G ws0 s.heap.size post) args s cells slots (va_A ws0 s.heap.size)) ws pc lv [.int v] :=
  fun H locs ls hP hD hS hl => W.iret X.hx X.hb X.hr (fun t ht hW => ⟨⟨_, ws, rfl, hp, by rw [ht]; exact hP, hD⟩, hS.F ht⟩) hS.2.2 hdg X.hlk
theorem hzret {ws0 : va_W} {post : Option Value → va_W → Prop} {v : Int32} {ty : FieldType} (X : hX p s m args meth c G (va_A ws0 s.heap.size) nL cc own Ts (some ty)) (hn : narrow ty (.int v) = .int v) (hdg : decode cc pc = .ok (.ireturn, 1)) (hp : post (some (.int v)) ws) : hV p l e R s m args below meth c G (va_A ws0 s.heap.size) nL cells slots (MQ below (hQc G ws0 s.heap.size post) args s cells slots (va_A ws0 s.heap.size)) ws pc lv [.int v] :=
  fun H locs ls hP hD hS hl => W.zret X.hx X.hb X.hr hn (fun t ht hW => ⟨⟨_, ws, rfl, hp, by rw [ht]; exact hP, hD⟩, hS.F ht⟩) hS.2.2 hdg X.hlk
theorem hvret {ws0 : va_W} {post : Option Value → va_W → Prop} (X : hX p s m args meth c G (va_A ws0 s.heap.size) nL cc own Ts none) (hdg : decode cc pc = .ok (.return_, 1)) (hp : post none ws) : hV p l e R s m args below meth c G (va_A ws0 s.heap.size) nL cells slots (MQ below (hQc G ws0 s.heap.size post) args s cells slots (va_A ws0 s.heap.size)) ws pc lv [] :=
  fun H locs ls hP hD hS hl => W.vret X.hx X.hb X.hr (fun t ht hW => ⟨⟨_, ws, rfl, hp, by rw [ht]; exact hP, hD⟩, hS.F ht⟩) hS.2.2 hdg X.hlk
theorem haret {ws0 : va_W} {post : Option Value → va_W → Prop} {v : Value} {rt : FieldType} (X : hX p s m args meth c G (va_A ws0 s.heap.size) nL cc own Ts (some rt)) (hrt : (∃ n, rt = .object n) ∨ ∃ t, rt = .array t) (hv : v = .null ∨ ∃ a, v = .ref a) (hdg : decode cc pc = .ok (.areturn, 1)) (hp : post (some v) ws) : hV p l e R s m args below meth c G (va_A ws0 s.heap.size) nL cells slots (MQ below (hQc G ws0 s.heap.size post) args s cells slots (va_A ws0 s.heap.size)) ws pc lv [v] :=
  fun H locs ls hP hD hS hl => W.aret X.hx X.hb X.hr hrt hv (fun t ht hW => ⟨⟨_, ws, rfl, hp, by rw [ht]; exact hP, hD⟩, hS.F ht⟩) hS.2.2 hdg X.hlk
end HC
/-- a contract out of a walk -/
theorem hM_of {l : Launch} {G : hG} {y : MethodName} {wds wds' : List Cond} {rm : Room} {ws : va_W} {as : List Value} {post : Option Value → va_W → Prop} {cc : ByteArray} {maxL : Nat} {ret : Option FieldType} (hy : plainName y.cls = true) (hw : wds = Cond.code y cc maxL ret :: wds') (hle : (lg_sl as).length ≤ maxL)
    (body : ∀ (p : Program) (e : Env) (s : State) (m : MethodId) (args : Array Value) (below : List Frame) (meth : Method) (c : Code), hX p s m args meth c G (va_A ws s.heap.size) maxL cc y.cls wds ret → (y.name = "<init>" → meth.name = "<init>") →
      hV p l e rm s m args below meth c G (va_A ws s.heap.size) maxL 0 0 (MQ below (hQc G ws s.heap.size post) args s rm.cells rm.slots (va_A ws s.heap.size)) ws 0 (lv_args 0 as) []) : hM l G y wds rm ws as post := by
  intro sz
  refine Met.ofW (cc := cc) (maxL := maxL) (ret := ret) hy hw ?_
  intro p e s m args below meth c s₁ B hml hv
  obtain ⟨rfl, hsz, hP, hK, hD, hE⟩ := hv
  subst hsz
  have hts := atoms_spec (ws := wds) B.pre
  have X : hX p s m as.toArray meth c G (va_A ws s.heap.size) maxL cc y.cls wds ret := ⟨B.exec, B.bytes, hml, findClass_of_methodNamed B.named, hts, hK, fun q h => Or.inr h, hE, B.notSynchronized, B.returns⟩
  have hl := lv_entry as (n := maxL) hle
  rw [lg_entry_eq]
  exact body p e s m as.toArray below meth c X (fun hn => (name_of_methodNamed B.named B.method).1.trans hn) s.heap [] _ hP hD.self va_S.rf hl
